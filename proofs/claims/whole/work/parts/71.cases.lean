set_option maxRecDepth 100000 in
set_option maxHeartbeats 4000000 in
theorem law_0 {X : CT} {G : GT} {q : S_} {g : GS} {d b L i : Nat} {xs : Nat → Int32} (C : Cx X G cL_law RL 4 d) (hd : 31 ≤ d) (hL : LX X G b L xs) (hi : i + 6 ≤ L) (hg : GOK2 g) (hc : CC q g) (hr : RR q g) (hN : ∀ (q2 : S_) (g2 : GS), GOK2 g2 → CC q2 g2 → RR q2 g2 → AW X G q2 1379 [some (.ref b), some (rfn G 0), some (rfn G 129), some (.int (nI i))] []) : AW X G q 192 [some (.ref b), some (rfn G 0), some (rfn G 129), some (.int (nI i))] [] := by
  refine aw_aload_1 C dL_law_192 rfl ?_
  refine aw_aload_0 C dL_law_193 rfl ?_
  refine aw_iload_3 C dL_law_194 ?_
  refine aw_iconst C dL_law_195 k1_1 ?_
  refine aw_iadd_n C dL_law_196 ?_
  refine aw_lsld C hL (i := i + 1) rfl (by omega) dL_law_197 ?_
  refine aw_aload_0 C dL_law_198 rfl ?_
  refine aw_iload_3 C dL_law_199 ?_
  refine aw_iconst C dL_law_200 k1_2 ?_
  refine aw_iadd_n C dL_law_201 ?_
  refine aw_lsld C hL (i := i + 2) rfl (by omega) dL_law_202 ?_
  refine aw_cV2I C (s_X8_bridge (xs (i + 1)) (xs (i + 2)) hg.1 hc) mf_X8_bridge mv_X8_bridge sh_0 rfl ml_L_13 dL_law_203 (by omega) (Nat.le_of_ble_eq_true rfl) (fun r1 q1 h1 => ?_)
  refine aw_aload_2 C dL_law_206 rfl ?_
  refine aw_aload_0 C dL_law_207 rfl ?_
  refine aw_iload_3 C dL_law_208 ?_
  refine aw_iconst C dL_law_209 k1_1 ?_
  refine aw_iadd_n C dL_law_210 ?_
  refine aw_lsld C hL (i := i + 1) rfl (by omega) dL_law_211 ?_
  refine aw_aload_0 C dL_law_212 rfl ?_
  refine aw_iload_3 C dL_law_213 ?_
  refine aw_iconst C dL_law_214 k1_2 ?_
  refine aw_iadd_n C dL_law_215 ?_
  refine aw_lsld C hL (i := i + 2) rfl (by omega) dL_law_216 ?_
  refine aw_cV2I C (s_X9_bridge (xs (i + 1)) (xs (i + 2)) hg.1 (hr.fr h1.2.2)) mf_X9_bridge mv_X9_bridge sh_129 rfl ml_L_17 dL_law_217 (by omega) (Nat.le_of_ble_eq_true rfl) (fun r2 q2 h2 => ?_)
  refine aw_icmp_eq C dL_law_220 (tgt := 1379) (by decide) (fun _ => ?_) (fun z => absurd (h1.1.trans h2.1.symm) z)
  exact hN q2 _ (ok_bridge hg _ _) (h1.2.1.fm (ok_bridge hg _ _).1 h2.2.2) h2.2.1

set_option maxRecDepth 100000 in
set_option maxHeartbeats 4000000 in
theorem law_1 {X : CT} {G : GT} {q : S_} {g : GS} {d b L i : Nat} {xs : Nat → Int32} (C : Cx X G cL_law RL 4 d) (hd : 31 ≤ d) (hL : LX X G b L xs) (hi : i + 6 ≤ L) (hg : GOK2 g) (hc : CC q g) (hr : RR q g) (hN : ∀ (q2 : S_) (g2 : GS), GOK2 g2 → CC q2 g2 → RR q2 g2 → AW X G q2 1379 [some (.ref b), some (rfn G 0), some (rfn G 129), some (.int (nI i))] []) : AW X G q 225 [some (.ref b), some (rfn G 0), some (rfn G 129), some (.int (nI i))] [] := by
  refine aw_aload_1 C dL_law_225 rfl ?_
  refine aw_aload_0 C dL_law_226 rfl ?_
  refine aw_iload_3 C dL_law_227 ?_
  refine aw_iconst C dL_law_228 k1_1 ?_
  refine aw_iadd_n C dL_law_229 ?_
  refine aw_lsld C hL (i := i + 1) rfl (by omega) dL_law_230 ?_
  refine aw_aload_0 C dL_law_231 rfl ?_
  refine aw_iload_3 C dL_law_232 ?_
  refine aw_iconst C dL_law_233 k1_2 ?_
  refine aw_iadd_n C dL_law_234 ?_
  refine aw_lsld C hL (i := i + 2) rfl (by omega) dL_law_235 ?_
  refine aw_aload_0 C dL_law_236 rfl ?_
  refine aw_iload_3 C dL_law_237 ?_
  refine aw_iconst C dL_law_238 k1_3 ?_
  refine aw_iadd_n C dL_law_239 ?_
  refine aw_lsld C hL (i := i + 3) rfl (by omega) dL_law_240 ?_
  refine aw_cV3I C (s_X8_one (xs (i + 1)) (xs (i + 2)) (xs (i + 3)) hg.1 hc) mf_X8_one mv_X8_one sh_0 rfl ml_L_18 dL_law_241 (by omega) (Nat.le_of_ble_eq_true rfl) (fun r1 q1 h1 => ?_)
  refine aw_aload_2 C dL_law_244 rfl ?_
  refine aw_aload_0 C dL_law_245 rfl ?_
  refine aw_iload_3 C dL_law_246 ?_
  refine aw_iconst C dL_law_247 k1_1 ?_
  refine aw_iadd_n C dL_law_248 ?_
  refine aw_lsld C hL (i := i + 1) rfl (by omega) dL_law_249 ?_
  refine aw_aload_0 C dL_law_250 rfl ?_
  refine aw_iload_3 C dL_law_251 ?_
  refine aw_iconst C dL_law_252 k1_2 ?_
  refine aw_iadd_n C dL_law_253 ?_
  refine aw_lsld C hL (i := i + 2) rfl (by omega) dL_law_254 ?_
  refine aw_aload_0 C dL_law_255 rfl ?_
  refine aw_iload_3 C dL_law_256 ?_
  refine aw_iconst C dL_law_257 k1_3 ?_
  refine aw_iadd_n C dL_law_258 ?_
  refine aw_lsld C hL (i := i + 3) rfl (by omega) dL_law_259 ?_
  refine aw_cV3I C (s_X9_one_ (xs (i + 1)) (xs (i + 2)) (xs (i + 3)) hg.1 (hr.fr h1.2.2)) mf_X9_one_ mv_X9_one_ sh_129 rfl ml_L_22 dL_law_260 (by omega) (Nat.le_of_ble_eq_true rfl) (fun r2 q2 h2 => ?_)
  refine aw_icmp_eq C dL_law_263 (tgt := 1379) (by decide) (fun _ => ?_) (fun z => absurd (h1.1.trans h2.1.symm) z)
  exact hN q2 _ (ok_one hg _ _ _) (h1.2.1.fm (ok_one hg _ _ _).1 h2.2.2) h2.2.1

set_option maxRecDepth 100000 in
set_option maxHeartbeats 4000000 in
theorem law_2 {X : CT} {G : GT} {q : S_} {g : GS} {d b L i : Nat} {xs : Nat → Int32} (C : Cx X G cL_law RL 4 d) (hd : 31 ≤ d) (hL : LX X G b L xs) (hi : i + 6 ≤ L) (hg : GOK2 g) (hc : CC q g) (hr : RR q g) (hN : ∀ (q2 : S_) (g2 : GS), GOK2 g2 → CC q2 g2 → RR q2 g2 → AW X G q2 1379 [some (.ref b), some (rfn G 0), some (rfn G 129), some (.int (nI i))] []) : AW X G q 268 [some (.ref b), some (rfn G 0), some (rfn G 129), some (.int (nI i))] [] := by
  refine aw_aload_1 C dL_law_268 rfl ?_
  refine aw_aload_0 C dL_law_269 rfl ?_
  refine aw_iload_3 C dL_law_270 ?_
  refine aw_iconst C dL_law_271 k1_1 ?_
  refine aw_iadd_n C dL_law_272 ?_
  refine aw_lsld C hL (i := i + 1) rfl (by omega) dL_law_273 ?_
  refine aw_aload_0 C dL_law_274 rfl ?_
  refine aw_iload_3 C dL_law_275 ?_
  refine aw_iconst C dL_law_276 k1_2 ?_
  refine aw_iadd_n C dL_law_277 ?_
  refine aw_lsld C hL (i := i + 2) rfl (by omega) dL_law_278 ?_
  refine aw_cV2I C (s_X8_of (xs (i + 1)) (xs (i + 2)) hg.1 hc) mf_X8_of mv_X8_of sh_0 rfl ml_L_23 dL_law_279 (by omega) (Nat.le_of_ble_eq_true rfl) (fun r1 q1 h1 => ?_)
  refine aw_aload_2 C dL_law_282 rfl ?_
  refine aw_aload_0 C dL_law_283 rfl ?_
  refine aw_iload_3 C dL_law_284 ?_
  refine aw_iconst C dL_law_285 k1_1 ?_
  refine aw_iadd_n C dL_law_286 ?_
  refine aw_lsld C hL (i := i + 1) rfl (by omega) dL_law_287 ?_
  refine aw_aload_0 C dL_law_288 rfl ?_
  refine aw_iload_3 C dL_law_289 ?_
  refine aw_iconst C dL_law_290 k1_2 ?_
  refine aw_iadd_n C dL_law_291 ?_
  refine aw_lsld C hL (i := i + 2) rfl (by omega) dL_law_292 ?_
  refine aw_cV2I C (s_X9_of (xs (i + 1)) (xs (i + 2)) hg.1 (hr.fr h1.2.2)) mf_X9_of mv_X9_of sh_129 rfl ml_L_26 dL_law_293 (by omega) (Nat.le_of_ble_eq_true rfl) (fun r2 q2 h2 => ?_)
  refine aw_icmp_eq C dL_law_296 (tgt := 1379) (by decide) (fun _ => ?_) (fun z => absurd (h1.1.trans h2.1.symm) z)
  exact hN q2 _ (ok_same hg (by unfold f_of; repeat first | rfl | split)) (h1.2.1.fm (ok_same hg (by unfold f_of; repeat first | rfl | split)).1 h2.2.2) h2.2.1

set_option maxRecDepth 100000 in
set_option maxHeartbeats 4000000 in
theorem law_3 {X : CT} {G : GT} {q : S_} {g : GS} {d b L i : Nat} {xs : Nat → Int32} (C : Cx X G cL_law RL 4 d) (hd : 31 ≤ d) (hL : LX X G b L xs) (hi : i + 6 ≤ L) (hg : GOK2 g) (hc : CC q g) (hr : RR q g) (hN : ∀ (q2 : S_) (g2 : GS), GOK2 g2 → CC q2 g2 → RR q2 g2 → AW X G q2 1379 [some (.ref b), some (rfn G 0), some (rfn G 129), some (.int (nI i))] []) : AW X G q 301 [some (.ref b), some (rfn G 0), some (rfn G 129), some (.int (nI i))] [] := by
  refine aw_aload_1 C dL_law_301 rfl ?_
  refine aw_aload_0 C dL_law_302 rfl ?_
  refine aw_iload_3 C dL_law_303 ?_
  refine aw_iconst C dL_law_304 k1_1 ?_
  refine aw_iadd_n C dL_law_305 ?_
  refine aw_lsld C hL (i := i + 1) rfl (by omega) dL_law_306 ?_
  refine aw_aload_0 C dL_law_307 rfl ?_
  refine aw_iload_3 C dL_law_308 ?_
  refine aw_iconst C dL_law_309 k1_2 ?_
  refine aw_iadd_n C dL_law_310 ?_
  refine aw_lsld C hL (i := i + 2) rfl (by omega) dL_law_311 ?_
  refine aw_cV2I C (s_X8_span (xs (i + 1)) (xs (i + 2)) hg.1 hc) mf_X8_span mv_X8_span sh_0 rfl ml_L_27 dL_law_312 (by omega) (Nat.le_of_ble_eq_true rfl) (fun r1 q1 h1 => ?_)
  refine aw_aload_2 C dL_law_315 rfl ?_
  refine aw_aload_0 C dL_law_316 rfl ?_
  refine aw_iload_3 C dL_law_317 ?_
  refine aw_iconst C dL_law_318 k1_1 ?_
  refine aw_iadd_n C dL_law_319 ?_
  refine aw_lsld C hL (i := i + 1) rfl (by omega) dL_law_320 ?_
  refine aw_aload_0 C dL_law_321 rfl ?_
  refine aw_iload_3 C dL_law_322 ?_
  refine aw_iconst C dL_law_323 k1_2 ?_
  refine aw_iadd_n C dL_law_324 ?_
  refine aw_lsld C hL (i := i + 2) rfl (by omega) dL_law_325 ?_
  refine aw_cV2I C (s_X9_span (xs (i + 1)) (xs (i + 2)) hg.1 (hr.fr h1.2.2)) mf_X9_span mv_X9_span sh_129 rfl ml_L_30 dL_law_326 (by omega) (Nat.le_of_ble_eq_true rfl) (fun r2 q2 h2 => ?_)
  refine aw_icmp_eq C dL_law_329 (tgt := 1379) (by decide) (fun _ => ?_) (fun z => absurd (h1.1.trans h2.1.symm) z)
  exact hN q2 _ (ok_same hg (by unfold f_span; repeat first | rfl | split)) (h1.2.1.fm (ok_same hg (by unfold f_span; repeat first | rfl | split)).1 h2.2.2) h2.2.1

set_option maxRecDepth 100000 in
set_option maxHeartbeats 4000000 in
theorem law_4 {X : CT} {G : GT} {q : S_} {g : GS} {d b L i : Nat} {xs : Nat → Int32} (C : Cx X G cL_law RL 4 d) (hd : 31 ≤ d) (hL : LX X G b L xs) (hi : i + 6 ≤ L) (hg : GOK2 g) (hc : CC q g) (hr : RR q g) (hN : ∀ (q2 : S_) (g2 : GS), GOK2 g2 → CC q2 g2 → RR q2 g2 → AW X G q2 1379 [some (.ref b), some (rfn G 0), some (rfn G 129), some (.int (nI i))] []) : AW X G q 334 [some (.ref b), some (rfn G 0), some (rfn G 129), some (.int (nI i))] [] := by
  refine aw_aload_1 C dL_law_334 rfl ?_
  refine aw_aload_0 C dL_law_335 rfl ?_
  refine aw_iload_3 C dL_law_336 ?_
  refine aw_iconst C dL_law_337 k1_1 ?_
  refine aw_iadd_n C dL_law_338 ?_
  refine aw_lsld C hL (i := i + 1) rfl (by omega) dL_law_339 ?_
  refine aw_aload_0 C dL_law_340 rfl ?_
  refine aw_iload_3 C dL_law_341 ?_
  refine aw_iconst C dL_law_342 k1_2 ?_
  refine aw_iadd_n C dL_law_343 ?_
  refine aw_lsld C hL (i := i + 2) rfl (by omega) dL_law_344 ?_
  refine aw_cV2I C (s_X8_errand (xs (i + 1)) (xs (i + 2)) hg.1 hc) mf_X8_errand mv_X8_errand sh_0 rfl ml_L_31 dL_law_345 (by omega) (Nat.le_of_ble_eq_true rfl) (fun r1 q1 h1 => ?_)
  refine aw_aload_2 C dL_law_348 rfl ?_
  refine aw_aload_0 C dL_law_349 rfl ?_
  refine aw_iload_3 C dL_law_350 ?_
  refine aw_iconst C dL_law_351 k1_1 ?_
  refine aw_iadd_n C dL_law_352 ?_
  refine aw_lsld C hL (i := i + 1) rfl (by omega) dL_law_353 ?_
  refine aw_aload_0 C dL_law_354 rfl ?_
  refine aw_iload_3 C dL_law_355 ?_
  refine aw_iconst C dL_law_356 k1_2 ?_
  refine aw_iadd_n C dL_law_357 ?_
  refine aw_lsld C hL (i := i + 2) rfl (by omega) dL_law_358 ?_
  refine aw_cV2I C (s_X9_errand (xs (i + 1)) (xs (i + 2)) hg.1 (hr.fr h1.2.2)) mf_X9_errand mv_X9_errand sh_129 rfl ml_L_34 dL_law_359 (by omega) (Nat.le_of_ble_eq_true rfl) (fun r2 q2 h2 => ?_)
  refine aw_icmp_eq C dL_law_362 (tgt := 1379) (by decide) (fun _ => ?_) (fun z => absurd (h1.1.trans h2.1.symm) z)
  exact hN q2 _ (ok_errand hg _ _) (h1.2.1.fm (ok_errand hg _ _).1 h2.2.2) h2.2.1

set_option maxRecDepth 100000 in
set_option maxHeartbeats 4000000 in
theorem law_5 {X : CT} {G : GT} {q : S_} {g : GS} {d b L i : Nat} {xs : Nat → Int32} (C : Cx X G cL_law RL 4 d) (hd : 31 ≤ d) (hL : LX X G b L xs) (hi : i + 6 ≤ L) (hg : GOK2 g) (hc : CC q g) (hr : RR q g) (hN : ∀ (q2 : S_) (g2 : GS), GOK2 g2 → CC q2 g2 → RR q2 g2 → AW X G q2 1379 [some (.ref b), some (rfn G 0), some (rfn G 129), some (.int (nI i))] []) : AW X G q 367 [some (.ref b), some (rfn G 0), some (rfn G 129), some (.int (nI i))] [] := by
  refine aw_aload_1 C dL_law_367 rfl ?_
  refine aw_aload_0 C dL_law_368 rfl ?_
  refine aw_iload_3 C dL_law_369 ?_
  refine aw_iconst C dL_law_370 k1_1 ?_
  refine aw_iadd_n C dL_law_371 ?_
  refine aw_lsld C hL (i := i + 1) rfl (by omega) dL_law_372 ?_
  refine aw_aload_0 C dL_law_373 rfl ?_
  refine aw_iload_3 C dL_law_374 ?_
  refine aw_iconst C dL_law_375 k1_2 ?_
  refine aw_iadd_n C dL_law_376 ?_
  refine aw_lsld C hL (i := i + 2) rfl (by omega) dL_law_377 ?_
  refine aw_cV2I C (s_X8_cross (xs (i + 1)) (xs (i + 2)) hg.1 hc) mf_X8_cross mv_X8_cross sh_0 rfl ml_L_35 dL_law_378 (by omega) (Nat.le_of_ble_eq_true rfl) (fun r1 q1 h1 => ?_)
  refine aw_aload_2 C dL_law_381 rfl ?_
  refine aw_aload_0 C dL_law_382 rfl ?_
  refine aw_iload_3 C dL_law_383 ?_
  refine aw_iconst C dL_law_384 k1_1 ?_
  refine aw_iadd_n C dL_law_385 ?_
  refine aw_lsld C hL (i := i + 1) rfl (by omega) dL_law_386 ?_
  refine aw_aload_0 C dL_law_387 rfl ?_
  refine aw_iload_3 C dL_law_388 ?_
  refine aw_iconst C dL_law_389 k1_2 ?_
  refine aw_iadd_n C dL_law_390 ?_
  refine aw_lsld C hL (i := i + 2) rfl (by omega) dL_law_391 ?_
  refine aw_cV2I C (s_X9_cross (xs (i + 1)) (xs (i + 2)) hg.1 (hr.fr h1.2.2)) mf_X9_cross mv_X9_cross sh_129 rfl ml_L_38 dL_law_392 (by omega) (Nat.le_of_ble_eq_true rfl) (fun r2 q2 h2 => ?_)
  refine aw_icmp_eq C dL_law_395 (tgt := 1379) (by decide) (fun _ => ?_) (fun z => absurd (h1.1.trans h2.1.symm) z)
  exact hN q2 _ (ok_cross hg _ _) (h1.2.1.fm (ok_cross hg _ _).1 h2.2.2) h2.2.1

set_option maxRecDepth 100000 in
set_option maxHeartbeats 4000000 in
theorem law_6 {X : CT} {G : GT} {q : S_} {g : GS} {d b L i : Nat} {xs : Nat → Int32} (C : Cx X G cL_law RL 4 d) (hd : 31 ≤ d) (hL : LX X G b L xs) (hi : i + 6 ≤ L) (hg : GOK2 g) (hc : CC q g) (hr : RR q g) (hN : ∀ (q2 : S_) (g2 : GS), GOK2 g2 → CC q2 g2 → RR q2 g2 → AW X G q2 1379 [some (.ref b), some (rfn G 0), some (rfn G 129), some (.int (nI i))] []) : AW X G q 400 [some (.ref b), some (rfn G 0), some (rfn G 129), some (.int (nI i))] [] := by
  by_cases c0 : xs (i + 2) = 0
  · skip
    refine aw_aload_1 C dL_law_400 rfl ?_
    refine aw_aload_0 C dL_law_401 rfl ?_
    refine aw_iload_3 C dL_law_402 ?_
    refine aw_iconst C dL_law_403 k1_1 ?_
    refine aw_iadd_n C dL_law_404 ?_
    refine aw_lsld C hL (i := i + 1) rfl (by omega) dL_law_405 ?_
    refine aw_aload_0 C dL_law_406 rfl ?_
    refine aw_iload_3 C dL_law_407 ?_
    refine aw_iconst C dL_law_408 k1_2 ?_
    refine aw_iadd_n C dL_law_409 ?_
    refine aw_lsld C hL (i := i + 2) rfl (by omega) dL_law_410 ?_
    refine aw_if_eq C dL_law_411 (tgt := 418) (by decide) (fun _ => ?_) (fun z => absurd c0 z)
    refine aw_iconst C dL_law_418 k1_0 ?_
    have s1 := s_X8_lose (G := G) (q := q) (g := g) (xs (i + 1)) false hg.1 hc
    rw [show bP ((false : Bool) = true) = nI 0 from by decide +kernel] at s1
    refine aw_cV2I C s1 mf_X8_lose mv_X8_lose sh_0 rfl ml_L_39 dL_law_419 (by omega) (Nat.le_of_ble_eq_true rfl) (fun r1 q1 h1 => ?_)
    refine aw_aload_2 C dL_law_422 rfl ?_
    refine aw_aload_0 C dL_law_423 rfl ?_
    refine aw_iload_3 C dL_law_424 ?_
    refine aw_iconst C dL_law_425 k1_1 ?_
    refine aw_iadd_n C dL_law_426 ?_
    refine aw_lsld C hL (i := i + 1) rfl (by omega) dL_law_427 ?_
    refine aw_aload_0 C dL_law_428 rfl ?_
    refine aw_iload_3 C dL_law_429 ?_
    refine aw_iconst C dL_law_430 k1_2 ?_
    refine aw_iadd_n C dL_law_431 ?_
    refine aw_lsld C hL (i := i + 2) rfl (by omega) dL_law_432 ?_
    refine aw_if_eq C dL_law_433 (tgt := 440) (by decide) (fun _ => ?_) (fun z => absurd c0 z)
    refine aw_iconst C dL_law_440 k1_0 ?_
    have s2 := s_X9_lose (G := G) (q := q1) (g := g) (xs (i + 1)) false hg.1 (hr.fr h1.2.2)
    rw [show bP ((false : Bool) = true) = nI 0 from by decide +kernel] at s2
    refine aw_cV2I C s2 mf_X9_lose mv_X9_lose sh_129 rfl ml_L_43 dL_law_441 (by omega) (Nat.le_of_ble_eq_true rfl) (fun r2 q2 h2 => ?_)
    refine aw_icmp_eq C dL_law_444 (tgt := 1379) (by decide) (fun _ => ?_) (fun z => absurd (h1.1.trans h2.1.symm) z)
    exact hN q2 _ (ok_lose hg _ _) (h1.2.1.fm (ok_lose hg _ _).1 h2.2.2) h2.2.1
  · skip
    refine aw_aload_1 C dL_law_400 rfl ?_
    refine aw_aload_0 C dL_law_401 rfl ?_
    refine aw_iload_3 C dL_law_402 ?_
    refine aw_iconst C dL_law_403 k1_1 ?_
    refine aw_iadd_n C dL_law_404 ?_
    refine aw_lsld C hL (i := i + 1) rfl (by omega) dL_law_405 ?_
    refine aw_aload_0 C dL_law_406 rfl ?_
    refine aw_iload_3 C dL_law_407 ?_
    refine aw_iconst C dL_law_408 k1_2 ?_
    refine aw_iadd_n C dL_law_409 ?_
    refine aw_lsld C hL (i := i + 2) rfl (by omega) dL_law_410 ?_
    refine aw_if_eq C dL_law_411 (tgt := 418) (by decide) (fun z => absurd z c0) (fun _ => ?_)
    refine aw_iconst C dL_law_414 k1_1 ?_
    refine aw_goto C dL_law_415 (tgt := 419) (by decide) ?_
    have s1 := s_X8_lose (G := G) (q := q) (g := g) (xs (i + 1)) true hg.1 hc
    rw [show bP ((true : Bool) = true) = nI 1 from by decide +kernel] at s1
    refine aw_cV2I C s1 mf_X8_lose mv_X8_lose sh_0 rfl ml_L_39 dL_law_419 (by omega) (Nat.le_of_ble_eq_true rfl) (fun r1 q1 h1 => ?_)
    refine aw_aload_2 C dL_law_422 rfl ?_
    refine aw_aload_0 C dL_law_423 rfl ?_
    refine aw_iload_3 C dL_law_424 ?_
    refine aw_iconst C dL_law_425 k1_1 ?_
    refine aw_iadd_n C dL_law_426 ?_
    refine aw_lsld C hL (i := i + 1) rfl (by omega) dL_law_427 ?_
    refine aw_aload_0 C dL_law_428 rfl ?_
    refine aw_iload_3 C dL_law_429 ?_
    refine aw_iconst C dL_law_430 k1_2 ?_
    refine aw_iadd_n C dL_law_431 ?_
    refine aw_lsld C hL (i := i + 2) rfl (by omega) dL_law_432 ?_
    refine aw_if_eq C dL_law_433 (tgt := 440) (by decide) (fun z => absurd z c0) (fun _ => ?_)
    refine aw_iconst C dL_law_436 k1_1 ?_
    refine aw_goto C dL_law_437 (tgt := 441) (by decide) ?_
    have s2 := s_X9_lose (G := G) (q := q1) (g := g) (xs (i + 1)) true hg.1 (hr.fr h1.2.2)
    rw [show bP ((true : Bool) = true) = nI 1 from by decide +kernel] at s2
    refine aw_cV2I C s2 mf_X9_lose mv_X9_lose sh_129 rfl ml_L_43 dL_law_441 (by omega) (Nat.le_of_ble_eq_true rfl) (fun r2 q2 h2 => ?_)
    refine aw_icmp_eq C dL_law_444 (tgt := 1379) (by decide) (fun _ => ?_) (fun z => absurd (h1.1.trans h2.1.symm) z)
    exact hN q2 _ (ok_lose hg _ _) (h1.2.1.fm (ok_lose hg _ _).1 h2.2.2) h2.2.1

set_option maxRecDepth 100000 in
set_option maxHeartbeats 4000000 in
theorem law_7 {X : CT} {G : GT} {q : S_} {g : GS} {d b L i : Nat} {xs : Nat → Int32} (C : Cx X G cL_law RL 4 d) (hd : 31 ≤ d) (hL : LX X G b L xs) (hi : i + 6 ≤ L) (hg : GOK2 g) (hc : CC q g) (hr : RR q g) (hN : ∀ (q2 : S_) (g2 : GS), GOK2 g2 → CC q2 g2 → RR q2 g2 → AW X G q2 1379 [some (.ref b), some (rfn G 0), some (rfn G 129), some (.int (nI i))] []) : AW X G q 449 [some (.ref b), some (rfn G 0), some (rfn G 129), some (.int (nI i))] [] := by
  refine aw_aload_1 C dL_law_449 rfl ?_
  refine aw_aload_0 C dL_law_450 rfl ?_
  refine aw_iload_3 C dL_law_451 ?_
  refine aw_iconst C dL_law_452 k1_1 ?_
  refine aw_iadd_n C dL_law_453 ?_
  refine aw_lsld C hL (i := i + 1) rfl (by omega) dL_law_454 ?_
  refine aw_aload_0 C dL_law_455 rfl ?_
  refine aw_iload_3 C dL_law_456 ?_
  refine aw_iconst C dL_law_457 k1_2 ?_
  refine aw_iadd_n C dL_law_458 ?_
  refine aw_lsld C hL (i := i + 2) rfl (by omega) dL_law_459 ?_
  refine aw_cV2I C (s_X8_swap (xs (i + 1)) (xs (i + 2)) hg.1 hc) mf_X8_swap mv_X8_swap sh_0 rfl ml_L_44 dL_law_460 (by omega) (Nat.le_of_ble_eq_true rfl) (fun r1 q1 h1 => ?_)
  refine aw_aload_2 C dL_law_463 rfl ?_
  refine aw_aload_0 C dL_law_464 rfl ?_
  refine aw_iload_3 C dL_law_465 ?_
  refine aw_iconst C dL_law_466 k1_1 ?_
  refine aw_iadd_n C dL_law_467 ?_
  refine aw_lsld C hL (i := i + 1) rfl (by omega) dL_law_468 ?_
  refine aw_aload_0 C dL_law_469 rfl ?_
  refine aw_iload_3 C dL_law_470 ?_
  refine aw_iconst C dL_law_471 k1_2 ?_
  refine aw_iadd_n C dL_law_472 ?_
  refine aw_lsld C hL (i := i + 2) rfl (by omega) dL_law_473 ?_
  refine aw_cV2I C (s_X9_swap (xs (i + 1)) (xs (i + 2)) hg.1 (hr.fr h1.2.2)) mf_X9_swap mv_X9_swap sh_129 rfl ml_L_47 dL_law_474 (by omega) (Nat.le_of_ble_eq_true rfl) (fun r2 q2 h2 => ?_)
  refine aw_icmp_eq C dL_law_477 (tgt := 1379) (by decide) (fun _ => ?_) (fun z => absurd (h1.1.trans h2.1.symm) z)
  exact hN q2 _ (ok_swap hg _ _) (h1.2.1.fm (ok_swap hg _ _).1 h2.2.2) h2.2.1

set_option maxRecDepth 100000 in
set_option maxHeartbeats 4000000 in
theorem law_8 {X : CT} {G : GT} {q : S_} {g : GS} {d b L i : Nat} {xs : Nat → Int32} (C : Cx X G cL_law RL 4 d) (hd : 31 ≤ d) (hL : LX X G b L xs) (hi : i + 6 ≤ L) (hg : GOK2 g) (hc : CC q g) (hr : RR q g) (hN : ∀ (q2 : S_) (g2 : GS), GOK2 g2 → CC q2 g2 → RR q2 g2 → AW X G q2 1379 [some (.ref b), some (rfn G 0), some (rfn G 129), some (.int (nI i))] []) : AW X G q 482 [some (.ref b), some (rfn G 0), some (rfn G 129), some (.int (nI i))] [] := by
  refine aw_aload_1 C dL_law_482 rfl ?_
  refine aw_aload_0 C dL_law_483 rfl ?_
  refine aw_iload_3 C dL_law_484 ?_
  refine aw_iconst C dL_law_485 k1_1 ?_
  refine aw_iadd_n C dL_law_486 ?_
  refine aw_lsld C hL (i := i + 1) rfl (by omega) dL_law_487 ?_
  refine aw_aload_0 C dL_law_488 rfl ?_
  refine aw_iload_3 C dL_law_489 ?_
  refine aw_iconst C dL_law_490 k1_2 ?_
  refine aw_iadd_n C dL_law_491 ?_
  refine aw_lsld C hL (i := i + 2) rfl (by omega) dL_law_492 ?_
  refine aw_aload_0 C dL_law_493 rfl ?_
  refine aw_iload_3 C dL_law_494 ?_
  refine aw_iconst C dL_law_495 k1_3 ?_
  refine aw_iadd_n C dL_law_496 ?_
  refine aw_lsld C hL (i := i + 3) rfl (by omega) dL_law_497 ?_
  refine aw_cV3I C (s_X8_row (xs (i + 1)) (xs (i + 2)) (xs (i + 3)) hg.1 hc) mf_X8_row mv_X8_row sh_0 rfl ml_L_48 dL_law_498 (by omega) (Nat.le_of_ble_eq_true rfl) (fun r1 q1 h1 => ?_)
  refine aw_aload_2 C dL_law_501 rfl ?_
  refine aw_aload_0 C dL_law_502 rfl ?_
  refine aw_iload_3 C dL_law_503 ?_
  refine aw_iconst C dL_law_504 k1_1 ?_
  refine aw_iadd_n C dL_law_505 ?_
  refine aw_lsld C hL (i := i + 1) rfl (by omega) dL_law_506 ?_
  refine aw_aload_0 C dL_law_507 rfl ?_
  refine aw_iload_3 C dL_law_508 ?_
  refine aw_iconst C dL_law_509 k1_2 ?_
  refine aw_iadd_n C dL_law_510 ?_
  refine aw_lsld C hL (i := i + 2) rfl (by omega) dL_law_511 ?_
  refine aw_aload_0 C dL_law_512 rfl ?_
  refine aw_iload_3 C dL_law_513 ?_
  refine aw_iconst C dL_law_514 k1_3 ?_
  refine aw_iadd_n C dL_law_515 ?_
  refine aw_lsld C hL (i := i + 3) rfl (by omega) dL_law_516 ?_
  refine aw_cV3I C (s_X9_row (xs (i + 1)) (xs (i + 2)) (xs (i + 3)) hg.1 (hr.fr h1.2.2)) mf_X9_row mv_X9_row sh_129 rfl ml_L_51 dL_law_517 (by omega) (Nat.le_of_ble_eq_true rfl) (fun r2 q2 h2 => ?_)
  refine aw_icmp_eq C dL_law_520 (tgt := 1379) (by decide) (fun _ => ?_) (fun z => absurd (h1.1.trans h2.1.symm) z)
  exact hN q2 _ (ok_row hg _ _ _) (h1.2.1.fm (ok_row hg _ _ _).1 h2.2.2) h2.2.1

set_option maxRecDepth 100000 in
set_option maxHeartbeats 4000000 in
theorem law_9 {X : CT} {G : GT} {q : S_} {g : GS} {d b L i : Nat} {xs : Nat → Int32} (C : Cx X G cL_law RL 4 d) (hd : 31 ≤ d) (hL : LX X G b L xs) (hi : i + 6 ≤ L) (hg : GOK2 g) (hc : CC q g) (hr : RR q g) (hN : ∀ (q2 : S_) (g2 : GS), GOK2 g2 → CC q2 g2 → RR q2 g2 → AW X G q2 1379 [some (.ref b), some (rfn G 0), some (rfn G 129), some (.int (nI i))] []) : AW X G q 525 [some (.ref b), some (rfn G 0), some (rfn G 129), some (.int (nI i))] [] := by
  refine aw_aload_1 C dL_law_525 rfl ?_
  refine aw_aload_0 C dL_law_526 rfl ?_
  refine aw_iload_3 C dL_law_527 ?_
  refine aw_iconst C dL_law_528 k1_1 ?_
  refine aw_iadd_n C dL_law_529 ?_
  refine aw_lsld C hL (i := i + 1) rfl (by omega) dL_law_530 ?_
  refine aw_cV1I C (s_X8_feed (xs (i + 1)) hg.1 hc) mf_X8_feed mv_X8_feed sh_0 rfl ml_L_52 dL_law_531 (by omega) (Nat.le_of_ble_eq_true rfl) (fun r1 q1 h1 => ?_)
  refine aw_aload_2 C dL_law_534 rfl ?_
  refine aw_aload_0 C dL_law_535 rfl ?_
  refine aw_iload_3 C dL_law_536 ?_
  refine aw_iconst C dL_law_537 k1_1 ?_
  refine aw_iadd_n C dL_law_538 ?_
  refine aw_lsld C hL (i := i + 1) rfl (by omega) dL_law_539 ?_
  refine aw_cV1I C (s_X9_feed (xs (i + 1)) hg.1 (hr.fr h1.2.2)) mf_X9_feed mv_X9_feed sh_129 rfl ml_L_56 dL_law_540 (by omega) (Nat.le_of_ble_eq_true rfl) (fun r2 q2 h2 => ?_)
  refine aw_icmp_eq C dL_law_543 (tgt := 1379) (by decide) (fun _ => ?_) (fun z => absurd (h1.1.trans h2.1.symm) z)
  exact hN q2 _ (ok_feed hg _) (h1.2.1.fm (ok_feed hg _).1 h2.2.2) h2.2.1

set_option maxRecDepth 100000 in
set_option maxHeartbeats 4000000 in
theorem law_10 {X : CT} {G : GT} {q : S_} {g : GS} {d b L i : Nat} {xs : Nat → Int32} (C : Cx X G cL_law RL 4 d) (hd : 31 ≤ d) (hL : LX X G b L xs) (hi : i + 6 ≤ L) (hg : GOK2 g) (hc : CC q g) (hr : RR q g) (hN : ∀ (q2 : S_) (g2 : GS), GOK2 g2 → CC q2 g2 → RR q2 g2 → AW X G q2 1379 [some (.ref b), some (rfn G 0), some (rfn G 129), some (.int (nI i))] []) : AW X G q 548 [some (.ref b), some (rfn G 0), some (rfn G 129), some (.int (nI i))] [] := by
  refine aw_aload_1 C dL_law_548 rfl ?_
  refine aw_cV0I C (s_X8_city  hg.1 hc) mf_X8_city mv_X8_city sh_0 rfl ml_L_57 dL_law_549 (by omega) (Nat.le_of_ble_eq_true rfl) (fun r1 q1 h1 => ?_)
  refine aw_aload_2 C dL_law_552 rfl ?_
  refine aw_cV0I C (s_X9_city  hg.1 (hr.fr h1.2.2)) mf_X9_city mv_X9_city sh_129 rfl ml_L_61 dL_law_553 (by omega) (Nat.le_of_ble_eq_true rfl) (fun r2 q2 h2 => ?_)
  refine aw_icmp_eq C dL_law_556 (tgt := 1379) (by decide) (fun _ => ?_) (fun z => absurd (h1.1.trans h2.1.symm) z)
  exact hN q2 _ (ok_city hg) (h1.2.1.fm (ok_city hg).1 h2.2.2) h2.2.1

set_option maxRecDepth 100000 in
set_option maxHeartbeats 4000000 in
theorem law_11 {X : CT} {G : GT} {q : S_} {g : GS} {d b L i : Nat} {xs : Nat → Int32} (C : Cx X G cL_law RL 4 d) (hd : 31 ≤ d) (hL : LX X G b L xs) (hi : i + 6 ≤ L) (hg : GOK2 g) (hc : CC q g) (hr : RR q g) (hN : ∀ (q2 : S_) (g2 : GS), GOK2 g2 → CC q2 g2 → RR q2 g2 → AW X G q2 1379 [some (.ref b), some (rfn G 0), some (rfn G 129), some (.int (nI i))] []) : AW X G q 561 [some (.ref b), some (rfn G 0), some (rfn G 129), some (.int (nI i))] [] := by
  refine aw_aload_1 C dL_law_561 rfl ?_
  refine aw_aload_0 C dL_law_562 rfl ?_
  refine aw_iload_3 C dL_law_563 ?_
  refine aw_iconst C dL_law_564 k1_1 ?_
  refine aw_iadd_n C dL_law_565 ?_
  refine aw_lsld C hL (i := i + 1) rfl (by omega) dL_law_566 ?_
  refine aw_cV1I C (s_X8_told (xs (i + 1)) hg.1 hc) mf_X8_told mv_X8_told sh_0 rfl ml_L_62 dL_law_567 (by omega) (Nat.le_of_ble_eq_true rfl) (fun r1 q1 h1 => ?_)
  refine aw_aload_2 C dL_law_570 rfl ?_
  refine aw_aload_0 C dL_law_571 rfl ?_
  refine aw_iload_3 C dL_law_572 ?_
  refine aw_iconst C dL_law_573 k1_1 ?_
  refine aw_iadd_n C dL_law_574 ?_
  refine aw_lsld C hL (i := i + 1) rfl (by omega) dL_law_575 ?_
  refine aw_cV1I C (s_X9_told (xs (i + 1)) hg.1 (hr.fr h1.2.2)) mf_X9_told mv_X9_told sh_129 rfl ml_L_65 dL_law_576 (by omega) (Nat.le_of_ble_eq_true rfl) (fun r2 q2 h2 => ?_)
  refine aw_icmp_eq C dL_law_579 (tgt := 1379) (by decide) (fun _ => ?_) (fun z => absurd (h1.1.trans h2.1.symm) z)
  exact hN q2 _ (ok_same hg (by unfold f_told; repeat first | rfl | split)) (h1.2.1.fm (ok_same hg (by unfold f_told; repeat first | rfl | split)).1 h2.2.2) h2.2.1

set_option maxRecDepth 100000 in
set_option maxHeartbeats 4000000 in
theorem law_12 {X : CT} {G : GT} {q : S_} {g : GS} {d b L i : Nat} {xs : Nat → Int32} (C : Cx X G cL_law RL 4 d) (hd : 31 ≤ d) (hL : LX X G b L xs) (hi : i + 6 ≤ L) (hg : GOK2 g) (hc : CC q g) (hr : RR q g) (hN : ∀ (q2 : S_) (g2 : GS), GOK2 g2 → CC q2 g2 → RR q2 g2 → AW X G q2 1379 [some (.ref b), some (rfn G 0), some (rfn G 129), some (.int (nI i))] []) : AW X G q 584 [some (.ref b), some (rfn G 0), some (rfn G 129), some (.int (nI i))] [] := by
  refine aw_aload_1 C dL_law_584 rfl ?_
  refine aw_aload_0 C dL_law_585 rfl ?_
  refine aw_iload_3 C dL_law_586 ?_
  refine aw_iconst C dL_law_587 k1_1 ?_
  refine aw_iadd_n C dL_law_588 ?_
  refine aw_lsld C hL (i := i + 1) rfl (by omega) dL_law_589 ?_
  refine aw_cV1I C (s_X8_pass (xs (i + 1)) hg.1 hc) mf_X8_pass mv_X8_pass sh_0 rfl ml_L_66 dL_law_590 (by omega) (Nat.le_of_ble_eq_true rfl) (fun r1 q1 h1 => ?_)
  refine aw_aload_2 C dL_law_593 rfl ?_
  refine aw_aload_0 C dL_law_594 rfl ?_
  refine aw_iload_3 C dL_law_595 ?_
  refine aw_iconst C dL_law_596 k1_1 ?_
  refine aw_iadd_n C dL_law_597 ?_
  refine aw_lsld C hL (i := i + 1) rfl (by omega) dL_law_598 ?_
  refine aw_cV1I C (s_X9_pass (xs (i + 1)) hg.1 (hr.fr h1.2.2)) mf_X9_pass mv_X9_pass sh_129 rfl ml_L_69 dL_law_599 (by omega) (Nat.le_of_ble_eq_true rfl) (fun r2 q2 h2 => ?_)
  refine aw_icmp_eq C dL_law_602 (tgt := 1379) (by decide) (fun _ => ?_) (fun z => absurd (h1.1.trans h2.1.symm) z)
  exact hN q2 _ (ok_pass hg _) (h1.2.1.fm (ok_pass hg _).1 h2.2.2) h2.2.1

set_option maxRecDepth 100000 in
set_option maxHeartbeats 4000000 in
theorem law_13 {X : CT} {G : GT} {q : S_} {g : GS} {d b L i : Nat} {xs : Nat → Int32} (C : Cx X G cL_law RL 4 d) (hd : 31 ≤ d) (hL : LX X G b L xs) (hi : i + 6 ≤ L) (hg : GOK2 g) (hc : CC q g) (hr : RR q g) (hN : ∀ (q2 : S_) (g2 : GS), GOK2 g2 → CC q2 g2 → RR q2 g2 → AW X G q2 1379 [some (.ref b), some (rfn G 0), some (rfn G 129), some (.int (nI i))] []) : AW X G q 607 [some (.ref b), some (rfn G 0), some (rfn G 129), some (.int (nI i))] [] := by
  refine aw_aload_1 C dL_law_607 rfl ?_
  refine aw_aload_0 C dL_law_608 rfl ?_
  refine aw_iload_3 C dL_law_609 ?_
  refine aw_iconst C dL_law_610 k1_1 ?_
  refine aw_iadd_n C dL_law_611 ?_
  refine aw_lsld C hL (i := i + 1) rfl (by omega) dL_law_612 ?_
  refine aw_aload_0 C dL_law_613 rfl ?_
  refine aw_iload_3 C dL_law_614 ?_
  refine aw_iconst C dL_law_615 k1_2 ?_
  refine aw_iadd_n C dL_law_616 ?_
  refine aw_lsld C hL (i := i + 2) rfl (by omega) dL_law_617 ?_
  refine aw_cV2I C (s_X8_on (xs (i + 1)) (xs (i + 2)) hg.1 hc) mf_X8_on mv_X8_on sh_0 rfl ml_L_70 dL_law_618 (by omega) (Nat.le_of_ble_eq_true rfl) (fun r1 q1 h1 => ?_)
  refine aw_aload_2 C dL_law_621 rfl ?_
  refine aw_aload_0 C dL_law_622 rfl ?_
  refine aw_iload_3 C dL_law_623 ?_
  refine aw_iconst C dL_law_624 k1_1 ?_
  refine aw_iadd_n C dL_law_625 ?_
  refine aw_lsld C hL (i := i + 1) rfl (by omega) dL_law_626 ?_
  refine aw_aload_0 C dL_law_627 rfl ?_
  refine aw_iload_3 C dL_law_628 ?_
  refine aw_iconst C dL_law_629 k1_2 ?_
  refine aw_iadd_n C dL_law_630 ?_
  refine aw_lsld C hL (i := i + 2) rfl (by omega) dL_law_631 ?_
  refine aw_cV2I C (s_X9_on (xs (i + 1)) (xs (i + 2)) hg.1 (hr.fr h1.2.2)) mf_X9_on mv_X9_on sh_129 rfl ml_L_73 dL_law_632 (by omega) (Nat.le_of_ble_eq_true rfl) (fun r2 q2 h2 => ?_)
  refine aw_icmp_eq C dL_law_635 (tgt := 1379) (by decide) (fun _ => ?_) (fun z => absurd (h1.1.trans h2.1.symm) z)
  exact hN q2 _ (ok_same hg (by unfold f_on; repeat first | rfl | split)) (h1.2.1.fm (ok_same hg (by unfold f_on; repeat first | rfl | split)).1 h2.2.2) h2.2.1

set_option maxRecDepth 100000 in
set_option maxHeartbeats 4000000 in
theorem law_14 {X : CT} {G : GT} {q : S_} {g : GS} {d b L i : Nat} {xs : Nat → Int32} (C : Cx X G cL_law RL 4 d) (hd : 31 ≤ d) (hL : LX X G b L xs) (hi : i + 6 ≤ L) (hg : GOK2 g) (hc : CC q g) (hr : RR q g) (hN : ∀ (q2 : S_) (g2 : GS), GOK2 g2 → CC q2 g2 → RR q2 g2 → AW X G q2 1379 [some (.ref b), some (rfn G 0), some (rfn G 129), some (.int (nI i))] []) : AW X G q 640 [some (.ref b), some (rfn G 0), some (rfn G 129), some (.int (nI i))] [] := by
  refine aw_aload_1 C dL_law_640 rfl ?_
  refine aw_aload_0 C dL_law_641 rfl ?_
  refine aw_iload_3 C dL_law_642 ?_
  refine aw_iconst C dL_law_643 k1_1 ?_
  refine aw_iadd_n C dL_law_644 ?_
  refine aw_lsld C hL (i := i + 1) rfl (by omega) dL_law_645 ?_
  refine aw_aload_0 C dL_law_646 rfl ?_
  refine aw_iload_3 C dL_law_647 ?_
  refine aw_iconst C dL_law_648 k1_2 ?_
  refine aw_iadd_n C dL_law_649 ?_
  refine aw_lsld C hL (i := i + 2) rfl (by omega) dL_law_650 ?_
  refine aw_aload_0 C dL_law_651 rfl ?_
  refine aw_iload_3 C dL_law_652 ?_
  refine aw_iconst C dL_law_653 k1_3 ?_
  refine aw_iadd_n C dL_law_654 ?_
  refine aw_lsld C hL (i := i + 3) rfl (by omega) dL_law_655 ?_
  refine aw_cV3I C (s_X8_way (xs (i + 1)) (xs (i + 2)) (xs (i + 3)) hg.1 hc) mf_X8_way mv_X8_way sh_0 rfl ml_L_74 dL_law_656 (by omega) (Nat.le_of_ble_eq_true rfl) (fun r1 q1 h1 => ?_)
  refine aw_aload_2 C dL_law_659 rfl ?_
  refine aw_aload_0 C dL_law_660 rfl ?_
  refine aw_iload_3 C dL_law_661 ?_
  refine aw_iconst C dL_law_662 k1_1 ?_
  refine aw_iadd_n C dL_law_663 ?_
  refine aw_lsld C hL (i := i + 1) rfl (by omega) dL_law_664 ?_
  refine aw_aload_0 C dL_law_665 rfl ?_
  refine aw_iload_3 C dL_law_666 ?_
  refine aw_iconst C dL_law_667 k1_2 ?_
  refine aw_iadd_n C dL_law_668 ?_
  refine aw_lsld C hL (i := i + 2) rfl (by omega) dL_law_669 ?_
  refine aw_aload_0 C dL_law_670 rfl ?_
  refine aw_iload_3 C dL_law_671 ?_
  refine aw_iconst C dL_law_672 k1_3 ?_
  refine aw_iadd_n C dL_law_673 ?_
  refine aw_lsld C hL (i := i + 3) rfl (by omega) dL_law_674 ?_
  refine aw_cV3I C (s_X9_way (xs (i + 1)) (xs (i + 2)) (xs (i + 3)) hg.1 (hr.fr h1.2.2)) mf_X9_way mv_X9_way sh_129 rfl ml_L_77 dL_law_675 (by omega) (Nat.le_of_ble_eq_true rfl) (fun r2 q2 h2 => ?_)
  refine aw_icmp_eq C dL_law_678 (tgt := 1379) (by decide) (fun _ => ?_) (fun z => absurd (h1.1.trans h2.1.symm) z)
  exact hN q2 _ (ok_same hg (by unfold f_way; repeat first | rfl | split)) (h1.2.1.fm (ok_same hg (by unfold f_way; repeat first | rfl | split)).1 h2.2.2) h2.2.1

set_option maxRecDepth 100000 in
set_option maxHeartbeats 4000000 in
theorem law_15 {X : CT} {G : GT} {q : S_} {g : GS} {d b L i : Nat} {xs : Nat → Int32} (C : Cx X G cL_law RL 4 d) (hd : 31 ≤ d) (hL : LX X G b L xs) (hi : i + 6 ≤ L) (hg : GOK2 g) (hc : CC q g) (hr : RR q g) (hN : ∀ (q2 : S_) (g2 : GS), GOK2 g2 → CC q2 g2 → RR q2 g2 → AW X G q2 1379 [some (.ref b), some (rfn G 0), some (rfn G 129), some (.int (nI i))] []) : AW X G q 683 [some (.ref b), some (rfn G 0), some (rfn G 129), some (.int (nI i))] [] := by
  refine aw_aload_1 C dL_law_683 rfl ?_
  refine aw_aload_0 C dL_law_684 rfl ?_
  refine aw_iload_3 C dL_law_685 ?_
  refine aw_iconst C dL_law_686 k1_1 ?_
  refine aw_iadd_n C dL_law_687 ?_
  refine aw_lsld C hL (i := i + 1) rfl (by omega) dL_law_688 ?_
  refine aw_aload_0 C dL_law_689 rfl ?_
  refine aw_iload_3 C dL_law_690 ?_
  refine aw_iconst C dL_law_691 k1_2 ?_
  refine aw_iadd_n C dL_law_692 ?_
  refine aw_lsld C hL (i := i + 2) rfl (by omega) dL_law_693 ?_
  refine aw_cV2I C (s_X8_sisters (xs (i + 1)) (xs (i + 2)) hg.1 hc) mf_X8_sisters mv_X8_sisters sh_0 rfl ml_L_78 dL_law_694 (by omega) (Nat.le_of_ble_eq_true rfl) (fun r1 q1 h1 => ?_)
  refine aw_aload_2 C dL_law_697 rfl ?_
  refine aw_aload_0 C dL_law_698 rfl ?_
  refine aw_iload_3 C dL_law_699 ?_
  refine aw_iconst C dL_law_700 k1_1 ?_
  refine aw_iadd_n C dL_law_701 ?_
  refine aw_lsld C hL (i := i + 1) rfl (by omega) dL_law_702 ?_
  refine aw_aload_0 C dL_law_703 rfl ?_
  refine aw_iload_3 C dL_law_704 ?_
  refine aw_iconst C dL_law_705 k1_2 ?_
  refine aw_iadd_n C dL_law_706 ?_
  refine aw_lsld C hL (i := i + 2) rfl (by omega) dL_law_707 ?_
  refine aw_cV2I C (s_X9_sisters (xs (i + 1)) (xs (i + 2)) hg.1 (hr.fr h1.2.2)) mf_X9_sisters mv_X9_sisters sh_129 rfl ml_L_81 dL_law_708 (by omega) (Nat.le_of_ble_eq_true rfl) (fun r2 q2 h2 => ?_)
  refine aw_icmp_eq C dL_law_711 (tgt := 1379) (by decide) (fun _ => ?_) (fun z => absurd (h1.1.trans h2.1.symm) z)
  exact hN q2 _ (ok_same hg (by unfold f_sisters; repeat first | rfl | split)) (h1.2.1.fm (ok_same hg (by unfold f_sisters; repeat first | rfl | split)).1 h2.2.2) h2.2.1

set_option maxRecDepth 100000 in
set_option maxHeartbeats 4000000 in
theorem law_16 {X : CT} {G : GT} {q : S_} {g : GS} {d b L i : Nat} {xs : Nat → Int32} (C : Cx X G cL_law RL 4 d) (hd : 31 ≤ d) (hL : LX X G b L xs) (hi : i + 6 ≤ L) (hg : GOK2 g) (hc : CC q g) (hr : RR q g) (hN : ∀ (q2 : S_) (g2 : GS), GOK2 g2 → CC q2 g2 → RR q2 g2 → AW X G q2 1379 [some (.ref b), some (rfn G 0), some (rfn G 129), some (.int (nI i))] []) : AW X G q 716 [some (.ref b), some (rfn G 0), some (rfn G 129), some (.int (nI i))] [] := by
  refine aw_aload_1 C dL_law_716 rfl ?_
  refine aw_aload_0 C dL_law_717 rfl ?_
  refine aw_iload_3 C dL_law_718 ?_
  refine aw_iconst C dL_law_719 k1_1 ?_
  refine aw_iadd_n C dL_law_720 ?_
  refine aw_lsld C hL (i := i + 1) rfl (by omega) dL_law_721 ?_
  refine aw_aload_0 C dL_law_722 rfl ?_
  refine aw_iload_3 C dL_law_723 ?_
  refine aw_iconst C dL_law_724 k1_2 ?_
  refine aw_iadd_n C dL_law_725 ?_
  refine aw_lsld C hL (i := i + 2) rfl (by omega) dL_law_726 ?_
  refine aw_aload_0 C dL_law_727 rfl ?_
  refine aw_iload_3 C dL_law_728 ?_
  refine aw_iconst C dL_law_729 k1_3 ?_
  refine aw_iadd_n C dL_law_730 ?_
  refine aw_lsld C hL (i := i + 3) rfl (by omega) dL_law_731 ?_
  refine aw_cV3I C (s_X8_see (xs (i + 1)) (xs (i + 2)) (xs (i + 3)) hg.1 hc) mf_X8_see mv_X8_see sh_0 rfl ml_L_82 dL_law_732 (by omega) (Nat.le_of_ble_eq_true rfl) (fun r1 q1 h1 => ?_)
  refine aw_aload_2 C dL_law_735 rfl ?_
  refine aw_aload_0 C dL_law_736 rfl ?_
  refine aw_iload_3 C dL_law_737 ?_
  refine aw_iconst C dL_law_738 k1_1 ?_
  refine aw_iadd_n C dL_law_739 ?_
  refine aw_lsld C hL (i := i + 1) rfl (by omega) dL_law_740 ?_
  refine aw_aload_0 C dL_law_741 rfl ?_
  refine aw_iload_3 C dL_law_742 ?_
  refine aw_iconst C dL_law_743 k1_2 ?_
  refine aw_iadd_n C dL_law_744 ?_
  refine aw_lsld C hL (i := i + 2) rfl (by omega) dL_law_745 ?_
  refine aw_aload_0 C dL_law_746 rfl ?_
  refine aw_iload_3 C dL_law_747 ?_
  refine aw_iconst C dL_law_748 k1_3 ?_
  refine aw_iadd_n C dL_law_749 ?_
  refine aw_lsld C hL (i := i + 3) rfl (by omega) dL_law_750 ?_
  refine aw_cV3I C (s_X9_see (xs (i + 1)) (xs (i + 2)) (xs (i + 3)) hg.1 (hr.fr h1.2.2)) mf_X9_see mv_X9_see sh_129 rfl ml_L_85 dL_law_751 (by omega) (Nat.le_of_ble_eq_true rfl) (fun r2 q2 h2 => ?_)
  refine aw_icmp_eq C dL_law_754 (tgt := 1379) (by decide) (fun _ => ?_) (fun z => absurd (h1.1.trans h2.1.symm) z)
  exact hN q2 _ (ok_see hg _ _ _) (h1.2.1.fm (ok_see hg _ _ _).1 h2.2.2) h2.2.1

set_option maxRecDepth 100000 in
set_option maxHeartbeats 4000000 in
theorem law_17 {X : CT} {G : GT} {q : S_} {g : GS} {d b L i : Nat} {xs : Nat → Int32} (C : Cx X G cL_law RL 4 d) (hd : 31 ≤ d) (hL : LX X G b L xs) (hi : i + 6 ≤ L) (hg : GOK2 g) (hc : CC q g) (hr : RR q g) (hN : ∀ (q2 : S_) (g2 : GS), GOK2 g2 → CC q2 g2 → RR q2 g2 → AW X G q2 1379 [some (.ref b), some (rfn G 0), some (rfn G 129), some (.int (nI i))] []) : AW X G q 759 [some (.ref b), some (rfn G 0), some (rfn G 129), some (.int (nI i))] [] := by
  refine aw_aload_1 C dL_law_759 rfl ?_
  refine aw_aload_0 C dL_law_760 rfl ?_
  refine aw_iload_3 C dL_law_761 ?_
  refine aw_iconst C dL_law_762 k1_1 ?_
  refine aw_iadd_n C dL_law_763 ?_
  refine aw_lsld C hL (i := i + 1) rfl (by omega) dL_law_764 ?_
  refine aw_cV1I C (s_X8_from (xs (i + 1)) hg.1 hc) mf_X8_from mv_X8_from sh_0 rfl ml_L_86 dL_law_765 (by omega) (Nat.le_of_ble_eq_true rfl) (fun r1 q1 h1 => ?_)
  refine aw_aload_2 C dL_law_768 rfl ?_
  refine aw_aload_0 C dL_law_769 rfl ?_
  refine aw_iload_3 C dL_law_770 ?_
  refine aw_iconst C dL_law_771 k1_1 ?_
  refine aw_iadd_n C dL_law_772 ?_
  refine aw_lsld C hL (i := i + 1) rfl (by omega) dL_law_773 ?_
  refine aw_cV1I C (s_X9_from (xs (i + 1)) hg.1 (hr.fr h1.2.2)) mf_X9_from mv_X9_from sh_129 rfl ml_L_89 dL_law_774 (by omega) (Nat.le_of_ble_eq_true rfl) (fun r2 q2 h2 => ?_)
  refine aw_icmp_eq C dL_law_777 (tgt := 1379) (by decide) (fun _ => ?_) (fun z => absurd (h1.1.trans h2.1.symm) z)
  exact hN q2 _ (ok_same hg (by unfold f_from; repeat first | rfl | split)) (h1.2.1.fm (ok_same hg (by unfold f_from; repeat first | rfl | split)).1 h2.2.2) h2.2.1

set_option maxRecDepth 100000 in
set_option maxHeartbeats 4000000 in
theorem law_18 {X : CT} {G : GT} {q : S_} {g : GS} {d b L i : Nat} {xs : Nat → Int32} (C : Cx X G cL_law RL 4 d) (hd : 31 ≤ d) (hL : LX X G b L xs) (hi : i + 6 ≤ L) (hg : GOK2 g) (hc : CC q g) (hr : RR q g) (hN : ∀ (q2 : S_) (g2 : GS), GOK2 g2 → CC q2 g2 → RR q2 g2 → AW X G q2 1379 [some (.ref b), some (rfn G 0), some (rfn G 129), some (.int (nI i))] []) : AW X G q 782 [some (.ref b), some (rfn G 0), some (rfn G 129), some (.int (nI i))] [] := by
  refine aw_aload_1 C dL_law_782 rfl ?_
  refine aw_aload_0 C dL_law_783 rfl ?_
  refine aw_iload_3 C dL_law_784 ?_
  refine aw_iconst C dL_law_785 k1_1 ?_
  refine aw_iadd_n C dL_law_786 ?_
  refine aw_lsld C hL (i := i + 1) rfl (by omega) dL_law_787 ?_
  refine aw_aload_0 C dL_law_788 rfl ?_
  refine aw_iload_3 C dL_law_789 ?_
  refine aw_iconst C dL_law_790 k1_2 ?_
  refine aw_iadd_n C dL_law_791 ?_
  refine aw_lsld C hL (i := i + 2) rfl (by omega) dL_law_792 ?_
  refine aw_cV2I C (s_X8_can (xs (i + 1)) (xs (i + 2)) hg.1 hc) mf_X8_can mv_X8_can sh_0 rfl ml_L_90 dL_law_793 (by omega) (Nat.le_of_ble_eq_true rfl) (fun r1 q1 h1 => ?_)
  refine aw_aload_2 C dL_law_796 rfl ?_
  refine aw_aload_0 C dL_law_797 rfl ?_
  refine aw_iload_3 C dL_law_798 ?_
  refine aw_iconst C dL_law_799 k1_1 ?_
  refine aw_iadd_n C dL_law_800 ?_
  refine aw_lsld C hL (i := i + 1) rfl (by omega) dL_law_801 ?_
  refine aw_aload_0 C dL_law_802 rfl ?_
  refine aw_iload_3 C dL_law_803 ?_
  refine aw_iconst C dL_law_804 k1_2 ?_
  refine aw_iadd_n C dL_law_805 ?_
  refine aw_lsld C hL (i := i + 2) rfl (by omega) dL_law_806 ?_
  refine aw_cV2I C (s_X9_can (xs (i + 1)) (xs (i + 2)) hg.1 (hr.fr h1.2.2)) mf_X9_can mv_X9_can sh_129 rfl ml_L_93 dL_law_807 (by omega) (Nat.le_of_ble_eq_true rfl) (fun r2 q2 h2 => ?_)
  refine aw_icmp_eq C dL_law_810 (tgt := 1379) (by decide) (fun _ => ?_) (fun z => absurd (h1.1.trans h2.1.symm) z)
  exact hN q2 _ (ok_same hg (by unfold f_can; repeat first | rfl | split)) (h1.2.1.fm (ok_same hg (by unfold f_can; repeat first | rfl | split)).1 h2.2.2) h2.2.1

set_option maxRecDepth 100000 in
set_option maxHeartbeats 4000000 in
theorem law_19 {X : CT} {G : GT} {q : S_} {g : GS} {d b L i : Nat} {xs : Nat → Int32} (C : Cx X G cL_law RL 4 d) (hd : 31 ≤ d) (hL : LX X G b L xs) (hi : i + 6 ≤ L) (hg : GOK2 g) (hc : CC q g) (hr : RR q g) (hN : ∀ (q2 : S_) (g2 : GS), GOK2 g2 → CC q2 g2 → RR q2 g2 → AW X G q2 1379 [some (.ref b), some (rfn G 0), some (rfn G 129), some (.int (nI i))] []) : AW X G q 815 [some (.ref b), some (rfn G 0), some (rfn G 129), some (.int (nI i))] [] := by
  refine aw_aload_1 C dL_law_815 rfl ?_
  refine aw_aload_0 C dL_law_816 rfl ?_
  refine aw_iload_3 C dL_law_817 ?_
  refine aw_iconst C dL_law_818 k1_1 ?_
  refine aw_iadd_n C dL_law_819 ?_
  refine aw_lsld C hL (i := i + 1) rfl (by omega) dL_law_820 ?_
  refine aw_aload_0 C dL_law_821 rfl ?_
  refine aw_iload_3 C dL_law_822 ?_
  refine aw_iconst C dL_law_823 k1_2 ?_
  refine aw_iadd_n C dL_law_824 ?_
  refine aw_lsld C hL (i := i + 2) rfl (by omega) dL_law_825 ?_
  refine aw_aload_0 C dL_law_826 rfl ?_
  refine aw_iload_3 C dL_law_827 ?_
  refine aw_iconst C dL_law_828 k1_3 ?_
  refine aw_iadd_n C dL_law_829 ?_
  refine aw_lsld C hL (i := i + 3) rfl (by omega) dL_law_830 ?_
  refine aw_cV3L C (s_X8_odds (xs (i + 1)) (xs (i + 2)) (xs (i + 3)) hg.1 hc) mf_X8_odds mv_X8_odds sh_0 rfl ml_L_94 dL_law_831 (by omega) (Nat.le_of_ble_eq_true rfl) (fun r1 q1 h1 => ?_)
  refine aw_aload_2 C dL_law_834 rfl ?_
  refine aw_aload_0 C dL_law_835 rfl ?_
  refine aw_iload_3 C dL_law_836 ?_
  refine aw_iconst C dL_law_837 k1_1 ?_
  refine aw_iadd_n C dL_law_838 ?_
  refine aw_lsld C hL (i := i + 1) rfl (by omega) dL_law_839 ?_
  refine aw_aload_0 C dL_law_840 rfl ?_
  refine aw_iload_3 C dL_law_841 ?_
  refine aw_iconst C dL_law_842 k1_2 ?_
  refine aw_iadd_n C dL_law_843 ?_
  refine aw_lsld C hL (i := i + 2) rfl (by omega) dL_law_844 ?_
  refine aw_aload_0 C dL_law_845 rfl ?_
  refine aw_iload_3 C dL_law_846 ?_
  refine aw_iconst C dL_law_847 k1_3 ?_
  refine aw_iadd_n C dL_law_848 ?_
  refine aw_lsld C hL (i := i + 3) rfl (by omega) dL_law_849 ?_
  refine aw_cV3L C (s_X9_odds (xs (i + 1)) (xs (i + 2)) (xs (i + 3)) hg.1 (hr.fr h1.2.2)) mf_X9_odds mv_X9_odds sh_129 rfl ml_L_98 dL_law_850 (by omega) (Nat.le_of_ble_eq_true rfl) (fun r2 q2 h2 => ?_)
  refine aw_lcmp C dL_law_853 ?_
  refine aw_if_eq C dL_law_854 (tgt := 1379) (by decide) (fun _ => ?_) (fun z => absurd (by rw [h1.1, h2.1]; exact lcmp_self _) z)
  exact hN q2 _ (ok_same hg (by unfold f_odds; repeat first | rfl | split)) (h1.2.1.fm (ok_same hg (by unfold f_odds; repeat first | rfl | split)).1 h2.2.2) h2.2.1

set_option maxRecDepth 100000 in
set_option maxHeartbeats 4000000 in
theorem law_20 {X : CT} {G : GT} {q : S_} {g : GS} {d b L i : Nat} {xs : Nat → Int32} (C : Cx X G cL_law RL 4 d) (hd : 31 ≤ d) (hL : LX X G b L xs) (hi : i + 6 ≤ L) (hg : GOK2 g) (hc : CC q g) (hr : RR q g) (hN : ∀ (q2 : S_) (g2 : GS), GOK2 g2 → CC q2 g2 → RR q2 g2 → AW X G q2 1379 [some (.ref b), some (rfn G 0), some (rfn G 129), some (.int (nI i))] []) : AW X G q 859 [some (.ref b), some (rfn G 0), some (rfn G 129), some (.int (nI i))] [] := by
  refine aw_aload_1 C dL_law_859 rfl ?_
  refine aw_aload_0 C dL_law_860 rfl ?_
  refine aw_iload_3 C dL_law_861 ?_
  refine aw_iconst C dL_law_862 k1_1 ?_
  refine aw_iadd_n C dL_law_863 ?_
  refine aw_lsld C hL (i := i + 1) rfl (by omega) dL_law_864 ?_
  refine aw_cV1L C (s_X8_mean (xs (i + 1)) hg.1 hc) mf_X8_mean mv_X8_mean sh_0 rfl ml_L_99 dL_law_865 (by omega) (Nat.le_of_ble_eq_true rfl) (fun r1 q1 h1 => ?_)
  refine aw_aload_2 C dL_law_868 rfl ?_
  refine aw_aload_0 C dL_law_869 rfl ?_
  refine aw_iload_3 C dL_law_870 ?_
  refine aw_iconst C dL_law_871 k1_1 ?_
  refine aw_iadd_n C dL_law_872 ?_
  refine aw_lsld C hL (i := i + 1) rfl (by omega) dL_law_873 ?_
  refine aw_cV1L C (s_X9_mean (xs (i + 1)) hg.1 (hr.fr h1.2.2)) mf_X9_mean mv_X9_mean sh_129 rfl ml_L_103 dL_law_874 (by omega) (Nat.le_of_ble_eq_true rfl) (fun r2 q2 h2 => ?_)
  refine aw_lcmp C dL_law_877 ?_
  refine aw_if_eq C dL_law_878 (tgt := 1379) (by decide) (fun _ => ?_) (fun z => absurd (by rw [h1.1, h2.1]; exact lcmp_self _) z)
  exact hN q2 _ (ok_same hg (by unfold f_mean; repeat first | rfl | split)) (h1.2.1.fm (ok_same hg (by unfold f_mean; repeat first | rfl | split)).1 h2.2.2) h2.2.1

set_option maxRecDepth 100000 in
set_option maxHeartbeats 4000000 in
theorem law_21 {X : CT} {G : GT} {q : S_} {g : GS} {d b L i : Nat} {xs : Nat → Int32} (C : Cx X G cL_law RL 4 d) (hd : 31 ≤ d) (hL : LX X G b L xs) (hi : i + 6 ≤ L) (hg : GOK2 g) (hc : CC q g) (hr : RR q g) (hN : ∀ (q2 : S_) (g2 : GS), GOK2 g2 → CC q2 g2 → RR q2 g2 → AW X G q2 1379 [some (.ref b), some (rfn G 0), some (rfn G 129), some (.int (nI i))] []) : AW X G q 883 [some (.ref b), some (rfn G 0), some (rfn G 129), some (.int (nI i))] [] := by
  refine aw_aload_1 C dL_law_883 rfl ?_
  refine aw_aload_0 C dL_law_884 rfl ?_
  refine aw_iload_3 C dL_law_885 ?_
  refine aw_iconst C dL_law_886 k1_1 ?_
  refine aw_iadd_n C dL_law_887 ?_
  refine aw_lsld C hL (i := i + 1) rfl (by omega) dL_law_888 ?_
  refine aw_aload_0 C dL_law_889 rfl ?_
  refine aw_iload_3 C dL_law_890 ?_
  refine aw_iconst C dL_law_891 k1_2 ?_
  refine aw_iadd_n C dL_law_892 ?_
  refine aw_lsld C hL (i := i + 2) rfl (by omega) dL_law_893 ?_
  refine aw_cV2I C (s_X8_plan (xs (i + 1)) (xs (i + 2)) hg.1 hc) mf_X8_plan mv_X8_plan sh_0 rfl ml_L_104 dL_law_894 (by omega) (Nat.le_of_ble_eq_true rfl) (fun r1 q1 h1 => ?_)
  refine aw_aload_2 C dL_law_897 rfl ?_
  refine aw_aload_0 C dL_law_898 rfl ?_
  refine aw_iload_3 C dL_law_899 ?_
  refine aw_iconst C dL_law_900 k1_1 ?_
  refine aw_iadd_n C dL_law_901 ?_
  refine aw_lsld C hL (i := i + 1) rfl (by omega) dL_law_902 ?_
  refine aw_aload_0 C dL_law_903 rfl ?_
  refine aw_iload_3 C dL_law_904 ?_
  refine aw_iconst C dL_law_905 k1_2 ?_
  refine aw_iadd_n C dL_law_906 ?_
  refine aw_lsld C hL (i := i + 2) rfl (by omega) dL_law_907 ?_
  refine aw_cV2I C (s_X9_plan (xs (i + 1)) (xs (i + 2)) hg.1 (hr.fr h1.2.2)) mf_X9_plan mv_X9_plan sh_129 rfl ml_L_107 dL_law_908 (by omega) (Nat.le_of_ble_eq_true rfl) (fun r2 q2 h2 => ?_)
  refine aw_icmp_eq C dL_law_911 (tgt := 1379) (by decide) (fun _ => ?_) (fun z => absurd (h1.1.trans h2.1.symm) z)
  exact hN q2 _ (ok_plan hg _ _) (h1.2.1.fm (ok_plan hg _ _).1 h2.2.2) h2.2.1

set_option maxRecDepth 100000 in
set_option maxHeartbeats 4000000 in
theorem law_22 {X : CT} {G : GT} {q : S_} {g : GS} {d b L i : Nat} {xs : Nat → Int32} (C : Cx X G cL_law RL 4 d) (hd : 31 ≤ d) (hL : LX X G b L xs) (hi : i + 6 ≤ L) (hg : GOK2 g) (hc : CC q g) (hr : RR q g) (hN : ∀ (q2 : S_) (g2 : GS), GOK2 g2 → CC q2 g2 → RR q2 g2 → AW X G q2 1379 [some (.ref b), some (rfn G 0), some (rfn G 129), some (.int (nI i))] []) : AW X G q 916 [some (.ref b), some (rfn G 0), some (rfn G 129), some (.int (nI i))] [] := by
  refine aw_aload_1 C dL_law_916 rfl ?_
  refine aw_aload_0 C dL_law_917 rfl ?_
  refine aw_iload_3 C dL_law_918 ?_
  refine aw_iconst C dL_law_919 k1_1 ?_
  refine aw_iadd_n C dL_law_920 ?_
  refine aw_lsld C hL (i := i + 1) rfl (by omega) dL_law_921 ?_
  refine aw_cV1I C (s_X8_ends (xs (i + 1)) hg.1 hc) mf_X8_ends mv_X8_ends sh_0 rfl ml_L_108 dL_law_922 (by omega) (Nat.le_of_ble_eq_true rfl) (fun r1 q1 h1 => ?_)
  refine aw_aload_2 C dL_law_925 rfl ?_
  refine aw_aload_0 C dL_law_926 rfl ?_
  refine aw_iload_3 C dL_law_927 ?_
  refine aw_iconst C dL_law_928 k1_1 ?_
  refine aw_iadd_n C dL_law_929 ?_
  refine aw_lsld C hL (i := i + 1) rfl (by omega) dL_law_930 ?_
  refine aw_cV1I C (s_X9_ends (xs (i + 1)) hg.1 (hr.fr h1.2.2)) mf_X9_ends mv_X9_ends sh_129 rfl ml_L_111 dL_law_931 (by omega) (Nat.le_of_ble_eq_true rfl) (fun r2 q2 h2 => ?_)
  refine aw_icmp_eq C dL_law_934 (tgt := 1379) (by decide) (fun _ => ?_) (fun z => absurd (h1.1.trans h2.1.symm) z)
  exact hN q2 _ (ok_same hg (by unfold f_ends; repeat first | rfl | split)) (h1.2.1.fm (ok_same hg (by unfold f_ends; repeat first | rfl | split)).1 h2.2.2) h2.2.1

set_option maxRecDepth 100000 in
set_option maxHeartbeats 4000000 in
theorem law_23 {X : CT} {G : GT} {q : S_} {g : GS} {d b L i : Nat} {xs : Nat → Int32} (C : Cx X G cL_law RL 4 d) (hd : 31 ≤ d) (hL : LX X G b L xs) (hi : i + 6 ≤ L) (hg : GOK2 g) (hc : CC q g) (hr : RR q g) (hN : ∀ (q2 : S_) (g2 : GS), GOK2 g2 → CC q2 g2 → RR q2 g2 → AW X G q2 1379 [some (.ref b), some (rfn G 0), some (rfn G 129), some (.int (nI i))] []) : AW X G q 939 [some (.ref b), some (rfn G 0), some (rfn G 129), some (.int (nI i))] [] := by
  refine aw_aload_1 C dL_law_939 rfl ?_
  refine aw_aload_0 C dL_law_940 rfl ?_
  refine aw_iload_3 C dL_law_941 ?_
  refine aw_iconst C dL_law_942 k1_1 ?_
  refine aw_iadd_n C dL_law_943 ?_
  refine aw_lsld C hL (i := i + 1) rfl (by omega) dL_law_944 ?_
  refine aw_aload_0 C dL_law_945 rfl ?_
  refine aw_iload_3 C dL_law_946 ?_
  refine aw_iconst C dL_law_947 k1_2 ?_
  refine aw_iadd_n C dL_law_948 ?_
  refine aw_lsld C hL (i := i + 2) rfl (by omega) dL_law_949 ?_
  refine aw_cV2I C (s_X8_book (xs (i + 1)) (xs (i + 2)) hg.1 hc) mf_X8_book mv_X8_book sh_0 rfl ml_L_112 dL_law_950 (by omega) (Nat.le_of_ble_eq_true rfl) (fun r1 q1 h1 => ?_)
  refine aw_aload_2 C dL_law_953 rfl ?_
  refine aw_aload_0 C dL_law_954 rfl ?_
  refine aw_iload_3 C dL_law_955 ?_
  refine aw_iconst C dL_law_956 k1_1 ?_
  refine aw_iadd_n C dL_law_957 ?_
  refine aw_lsld C hL (i := i + 1) rfl (by omega) dL_law_958 ?_
  refine aw_aload_0 C dL_law_959 rfl ?_
  refine aw_iload_3 C dL_law_960 ?_
  refine aw_iconst C dL_law_961 k1_2 ?_
  refine aw_iadd_n C dL_law_962 ?_
  refine aw_lsld C hL (i := i + 2) rfl (by omega) dL_law_963 ?_
  refine aw_cV2I C (s_X9_book (xs (i + 1)) (xs (i + 2)) hg.1 (hr.fr h1.2.2)) mf_X9_book mv_X9_book sh_129 rfl ml_L_115 dL_law_964 (by omega) (Nat.le_of_ble_eq_true rfl) (fun r2 q2 h2 => ?_)
  refine aw_icmp_eq C dL_law_967 (tgt := 1379) (by decide) (fun _ => ?_) (fun z => absurd (h1.1.trans h2.1.symm) z)
  exact hN q2 _ (ok_book hg _ _) (h1.2.1.fm (ok_book hg _ _).1 h2.2.2) h2.2.1

set_option maxRecDepth 100000 in
set_option maxHeartbeats 4000000 in
theorem law_24 {X : CT} {G : GT} {q : S_} {g : GS} {d b L i : Nat} {xs : Nat → Int32} (C : Cx X G cL_law RL 4 d) (hd : 31 ≤ d) (hL : LX X G b L xs) (hi : i + 6 ≤ L) (hg : GOK2 g) (hc : CC q g) (hr : RR q g) (hN : ∀ (q2 : S_) (g2 : GS), GOK2 g2 → CC q2 g2 → RR q2 g2 → AW X G q2 1379 [some (.ref b), some (rfn G 0), some (rfn G 129), some (.int (nI i))] []) : AW X G q 972 [some (.ref b), some (rfn G 0), some (rfn G 129), some (.int (nI i))] [] := by
  refine aw_aload_1 C dL_law_972 rfl ?_
  refine aw_cV0I C (s_X8_looked  hg.1 hc) mf_X8_looked mv_X8_looked sh_0 rfl ml_L_116 dL_law_973 (by omega) (Nat.le_of_ble_eq_true rfl) (fun r1 q1 h1 => ?_)
  refine aw_aload_2 C dL_law_976 rfl ?_
  refine aw_cV0I C (s_X9_looked  hg.1 (hr.fr h1.2.2)) mf_X9_looked mv_X9_looked sh_129 rfl ml_L_119 dL_law_977 (by omega) (Nat.le_of_ble_eq_true rfl) (fun r2 q2 h2 => ?_)
  refine aw_icmp_eq C dL_law_980 (tgt := 1379) (by decide) (fun _ => ?_) (fun z => absurd (h1.1.trans h2.1.symm) z)
  exact hN q2 _ (ok_same hg (by unfold f_looked; repeat first | rfl | split)) (h1.2.1.fm (ok_same hg (by unfold f_looked; repeat first | rfl | split)).1 h2.2.2) h2.2.1

set_option maxRecDepth 100000 in
set_option maxHeartbeats 4000000 in
theorem law_25 {X : CT} {G : GT} {q : S_} {g : GS} {d b L i : Nat} {xs : Nat → Int32} (C : Cx X G cL_law RL 4 d) (hd : 31 ≤ d) (hL : LX X G b L xs) (hi : i + 6 ≤ L) (hg : GOK2 g) (hc : CC q g) (hr : RR q g) (hN : ∀ (q2 : S_) (g2 : GS), GOK2 g2 → CC q2 g2 → RR q2 g2 → AW X G q2 1379 [some (.ref b), some (rfn G 0), some (rfn G 129), some (.int (nI i))] []) : AW X G q 985 [some (.ref b), some (rfn G 0), some (rfn G 129), some (.int (nI i))] [] := by
  refine aw_aload_1 C dL_law_985 rfl ?_
  refine aw_aload_0 C dL_law_986 rfl ?_
  refine aw_iload_3 C dL_law_987 ?_
  refine aw_iconst C dL_law_988 k1_1 ?_
  refine aw_iadd_n C dL_law_989 ?_
  refine aw_lsld C hL (i := i + 1) rfl (by omega) dL_law_990 ?_
  refine aw_aload_0 C dL_law_991 rfl ?_
  refine aw_iload_3 C dL_law_992 ?_
  refine aw_iconst C dL_law_993 k1_2 ?_
  refine aw_iadd_n C dL_law_994 ?_
  refine aw_lsld C hL (i := i + 2) rfl (by omega) dL_law_995 ?_
  refine aw_cV2I C (s_X8_judge (xs (i + 1)) (xs (i + 2)) hg.1 hc) mf_X8_judge mv_X8_judge sh_0 rfl ml_L_120 dL_law_996 (by omega) (Nat.le_of_ble_eq_true rfl) (fun r1 q1 h1 => ?_)
  refine aw_aload_2 C dL_law_999 rfl ?_
  refine aw_aload_0 C dL_law_1000 rfl ?_
  refine aw_iload_3 C dL_law_1001 ?_
  refine aw_iconst C dL_law_1002 k1_1 ?_
  refine aw_iadd_n C dL_law_1003 ?_
  refine aw_lsld C hL (i := i + 1) rfl (by omega) dL_law_1004 ?_
  refine aw_aload_0 C dL_law_1005 rfl ?_
  refine aw_iload_3 C dL_law_1006 ?_
  refine aw_iconst C dL_law_1007 k1_2 ?_
  refine aw_iadd_n C dL_law_1008 ?_
  refine aw_lsld C hL (i := i + 2) rfl (by omega) dL_law_1009 ?_
  refine aw_cV2I C (s_X9_judge (xs (i + 1)) (xs (i + 2)) hg.1 (hr.fr h1.2.2)) mf_X9_judge mv_X9_judge sh_129 rfl ml_L_123 dL_law_1010 (by omega) (Nat.le_of_ble_eq_true rfl) (fun r2 q2 h2 => ?_)
  refine aw_icmp_eq C dL_law_1013 (tgt := 1379) (by decide) (fun _ => ?_) (fun z => absurd (h1.1.trans h2.1.symm) z)
  exact hN q2 _ (ok_same hg (by unfold f_judge; repeat first | rfl | split)) (h1.2.1.fm (ok_same hg (by unfold f_judge; repeat first | rfl | split)).1 h2.2.2) h2.2.1

set_option maxRecDepth 100000 in
set_option maxHeartbeats 4000000 in
theorem law_26 {X : CT} {G : GT} {q : S_} {g : GS} {d b L i : Nat} {xs : Nat → Int32} (C : Cx X G cL_law RL 4 d) (hd : 31 ≤ d) (hL : LX X G b L xs) (hi : i + 6 ≤ L) (hg : GOK2 g) (hc : CC q g) (hr : RR q g) (hN : ∀ (q2 : S_) (g2 : GS), GOK2 g2 → CC q2 g2 → RR q2 g2 → AW X G q2 1379 [some (.ref b), some (rfn G 0), some (rfn G 129), some (.int (nI i))] []) : AW X G q 1018 [some (.ref b), some (rfn G 0), some (rfn G 129), some (.int (nI i))] [] := by
  refine aw_aload_1 C dL_law_1018 rfl ?_
  refine aw_cV0I C (s_X8_image  hg.1 hc) mf_X8_image mv_X8_image sh_0 rfl ml_L_124 dL_law_1019 (by omega) (Nat.le_of_ble_eq_true rfl) (fun r1 q1 h1 => ?_)
  refine aw_aload_2 C dL_law_1022 rfl ?_
  refine aw_cV0I C (s_X9_image  hg.1 (hr.fr h1.2.2)) mf_X9_image mv_X9_image sh_129 rfl ml_L_127 dL_law_1023 (by omega) (Nat.le_of_ble_eq_true rfl) (fun r2 q2 h2 => ?_)
  refine aw_icmp_eq C dL_law_1026 (tgt := 1379) (by decide) (fun _ => ?_) (fun z => absurd (h1.1.trans h2.1.symm) z)
  exact hN q2 _ (ok_image hg) (h1.2.1.fm (ok_image hg).1 h2.2.2) h2.2.1

set_option maxRecDepth 100000 in
set_option maxHeartbeats 4000000 in
theorem law_27 {X : CT} {G : GT} {q : S_} {g : GS} {d b L i : Nat} {xs : Nat → Int32} (C : Cx X G cL_law RL 4 d) (hd : 31 ≤ d) (hL : LX X G b L xs) (hi : i + 6 ≤ L) (hg : GOK2 g) (hc : CC q g) (hr : RR q g) (hN : ∀ (q2 : S_) (g2 : GS), GOK2 g2 → CC q2 g2 → RR q2 g2 → AW X G q2 1379 [some (.ref b), some (rfn G 0), some (rfn G 129), some (.int (nI i))] []) : AW X G q 1031 [some (.ref b), some (rfn G 0), some (rfn G 129), some (.int (nI i))] [] := by
  refine aw_aload_1 C dL_law_1031 rfl ?_
  refine aw_cV0I C (s_X8_undo  hg.1 hc) mf_X8_undo mv_X8_undo sh_0 rfl ml_L_128 dL_law_1032 (by omega) (Nat.le_of_ble_eq_true rfl) (fun r1 q1 h1 => ?_)
  refine aw_aload_2 C dL_law_1035 rfl ?_
  refine aw_cV0I C (s_X9_undo  hg.1 (hr.fr h1.2.2)) mf_X9_undo mv_X9_undo sh_129 rfl ml_L_131 dL_law_1036 (by omega) (Nat.le_of_ble_eq_true rfl) (fun r2 q2 h2 => ?_)
  refine aw_icmp_eq C dL_law_1039 (tgt := 1379) (by decide) (fun _ => ?_) (fun z => absurd (h1.1.trans h2.1.symm) z)
  exact hN q2 _ (ok_undo hg) (h1.2.1.fm (ok_undo hg).1 h2.2.2) h2.2.1

set_option maxRecDepth 100000 in
set_option maxHeartbeats 4000000 in
theorem law_28 {X : CT} {G : GT} {q : S_} {g : GS} {d b L i : Nat} {xs : Nat → Int32} (C : Cx X G cL_law RL 4 d) (hd : 31 ≤ d) (hL : LX X G b L xs) (hi : i + 6 ≤ L) (hg : GOK2 g) (hc : CC q g) (hr : RR q g) (hN : ∀ (q2 : S_) (g2 : GS), GOK2 g2 → CC q2 g2 → RR q2 g2 → AW X G q2 1379 [some (.ref b), some (rfn G 0), some (rfn G 129), some (.int (nI i))] []) : AW X G q 1044 [some (.ref b), some (rfn G 0), some (rfn G 129), some (.int (nI i))] [] := by
  refine aw_aload_1 C dL_law_1044 rfl ?_
  refine aw_aload_0 C dL_law_1045 rfl ?_
  refine aw_iload_3 C dL_law_1046 ?_
  refine aw_iconst C dL_law_1047 k1_1 ?_
  refine aw_iadd_n C dL_law_1048 ?_
  refine aw_lsld C hL (i := i + 1) rfl (by omega) dL_law_1049 ?_
  refine aw_aload_0 C dL_law_1050 rfl ?_
  refine aw_iload_3 C dL_law_1051 ?_
  refine aw_iconst C dL_law_1052 k1_2 ?_
  refine aw_iadd_n C dL_law_1053 ?_
  refine aw_lsld C hL (i := i + 2) rfl (by omega) dL_law_1054 ?_
  refine aw_aload_0 C dL_law_1055 rfl ?_
  refine aw_iload_3 C dL_law_1056 ?_
  refine aw_iconst C dL_law_1057 k1_3 ?_
  refine aw_iadd_n C dL_law_1058 ?_
  refine aw_lsld C hL (i := i + 3) rfl (by omega) dL_law_1059 ?_
  refine aw_cV3I C (s_X8_act (xs (i + 1)) (xs (i + 2)) (xs (i + 3)) hg.1 hc) mf_X8_act mv_X8_act sh_0 rfl ml_L_132 dL_law_1060 (by omega) (Nat.le_of_ble_eq_true rfl) (fun r1 q1 h1 => ?_)
  refine aw_aload_2 C dL_law_1063 rfl ?_
  refine aw_aload_0 C dL_law_1064 rfl ?_
  refine aw_iload_3 C dL_law_1065 ?_
  refine aw_iconst C dL_law_1066 k1_1 ?_
  refine aw_iadd_n C dL_law_1067 ?_
  refine aw_lsld C hL (i := i + 1) rfl (by omega) dL_law_1068 ?_
  refine aw_aload_0 C dL_law_1069 rfl ?_
  refine aw_iload_3 C dL_law_1070 ?_
  refine aw_iconst C dL_law_1071 k1_2 ?_
  refine aw_iadd_n C dL_law_1072 ?_
  refine aw_lsld C hL (i := i + 2) rfl (by omega) dL_law_1073 ?_
  refine aw_aload_0 C dL_law_1074 rfl ?_
  refine aw_iload_3 C dL_law_1075 ?_
  refine aw_iconst C dL_law_1076 k1_3 ?_
  refine aw_iadd_n C dL_law_1077 ?_
  refine aw_lsld C hL (i := i + 3) rfl (by omega) dL_law_1078 ?_
  refine aw_cV3I C (s_X9_act (xs (i + 1)) (xs (i + 2)) (xs (i + 3)) hg.1 (hr.fr h1.2.2)) mf_X9_act mv_X9_act sh_129 rfl ml_L_135 dL_law_1079 (by omega) (Nat.le_of_ble_eq_true rfl) (fun r2 q2 h2 => ?_)
  refine aw_icmp_eq C dL_law_1082 (tgt := 1379) (by decide) (fun _ => ?_) (fun z => absurd (h1.1.trans h2.1.symm) z)
  exact hN q2 _ (ok_act hg _ _ _) (h1.2.1.fm (ok_act hg _ _ _).1 h2.2.2) h2.2.1

set_option maxRecDepth 100000 in
set_option maxHeartbeats 4000000 in
theorem law_29 {X : CT} {G : GT} {q : S_} {g : GS} {d b L i : Nat} {xs : Nat → Int32} (C : Cx X G cL_law RL 4 d) (hd : 31 ≤ d) (hL : LX X G b L xs) (hi : i + 6 ≤ L) (hg : GOK2 g) (hc : CC q g) (hr : RR q g) (hN : ∀ (q2 : S_) (g2 : GS), GOK2 g2 → CC q2 g2 → RR q2 g2 → AW X G q2 1379 [some (.ref b), some (rfn G 0), some (rfn G 129), some (.int (nI i))] []) : AW X G q 1087 [some (.ref b), some (rfn G 0), some (rfn G 129), some (.int (nI i))] [] := by
  refine aw_aload_1 C dL_law_1087 rfl ?_
  refine aw_aload_0 C dL_law_1088 rfl ?_
  refine aw_iload_3 C dL_law_1089 ?_
  refine aw_iconst C dL_law_1090 k1_1 ?_
  refine aw_iadd_n C dL_law_1091 ?_
  refine aw_lsld C hL (i := i + 1) rfl (by omega) dL_law_1092 ?_
  refine aw_cV1I C (s_X8_trace (xs (i + 1)) hg.1 hc) mf_X8_trace mv_X8_trace sh_0 rfl ml_L_136 dL_law_1093 (by omega) (Nat.le_of_ble_eq_true rfl) (fun r1 q1 h1 => ?_)
  refine aw_aload_2 C dL_law_1096 rfl ?_
  refine aw_aload_0 C dL_law_1097 rfl ?_
  refine aw_iload_3 C dL_law_1098 ?_
  refine aw_iconst C dL_law_1099 k1_1 ?_
  refine aw_iadd_n C dL_law_1100 ?_
  refine aw_lsld C hL (i := i + 1) rfl (by omega) dL_law_1101 ?_
  refine aw_cV1I C (s_X9_trace (xs (i + 1)) hg.1 (hr.fr h1.2.2)) mf_X9_trace mv_X9_trace sh_129 rfl ml_L_139 dL_law_1102 (by omega) (Nat.le_of_ble_eq_true rfl) (fun r2 q2 h2 => ?_)
  refine aw_icmp_eq C dL_law_1105 (tgt := 1379) (by decide) (fun _ => ?_) (fun z => absurd (h1.1.trans h2.1.symm) z)
  exact hN q2 _ (ok_same hg (by unfold f_trace; repeat first | rfl | split)) (h1.2.1.fm (ok_same hg (by unfold f_trace; repeat first | rfl | split)).1 h2.2.2) h2.2.1

set_option maxRecDepth 100000 in
set_option maxHeartbeats 4000000 in
theorem law_30 {X : CT} {G : GT} {q : S_} {g : GS} {d b L i : Nat} {xs : Nat → Int32} (C : Cx X G cL_law RL 4 d) (hd : 31 ≤ d) (hL : LX X G b L xs) (hi : i + 6 ≤ L) (hg : GOK2 g) (hc : CC q g) (hr : RR q g) (hN : ∀ (q2 : S_) (g2 : GS), GOK2 g2 → CC q2 g2 → RR q2 g2 → AW X G q2 1379 [some (.ref b), some (rfn G 0), some (rfn G 129), some (.int (nI i))] []) : AW X G q 1110 [some (.ref b), some (rfn G 0), some (rfn G 129), some (.int (nI i))] [] := by
  refine aw_aload_1 C dL_law_1110 rfl ?_
  refine aw_aload_0 C dL_law_1111 rfl ?_
  refine aw_iload_3 C dL_law_1112 ?_
  refine aw_iconst C dL_law_1113 k1_1 ?_
  refine aw_iadd_n C dL_law_1114 ?_
  refine aw_lsld C hL (i := i + 1) rfl (by omega) dL_law_1115 ?_
  refine aw_aload_0 C dL_law_1116 rfl ?_
  refine aw_iload_3 C dL_law_1117 ?_
  refine aw_iconst C dL_law_1118 k1_2 ?_
  refine aw_iadd_n C dL_law_1119 ?_
  refine aw_lsld C hL (i := i + 2) rfl (by omega) dL_law_1120 ?_
  refine aw_cV2I C (s_X8_taken (xs (i + 1)) (xs (i + 2)) hg.1 hc) mf_X8_taken mv_X8_taken sh_0 rfl ml_L_140 dL_law_1121 (by omega) (Nat.le_of_ble_eq_true rfl) (fun r1 q1 h1 => ?_)
  refine aw_aload_2 C dL_law_1124 rfl ?_
  refine aw_aload_0 C dL_law_1125 rfl ?_
  refine aw_iload_3 C dL_law_1126 ?_
  refine aw_iconst C dL_law_1127 k1_1 ?_
  refine aw_iadd_n C dL_law_1128 ?_
  refine aw_lsld C hL (i := i + 1) rfl (by omega) dL_law_1129 ?_
  refine aw_aload_0 C dL_law_1130 rfl ?_
  refine aw_iload_3 C dL_law_1131 ?_
  refine aw_iconst C dL_law_1132 k1_2 ?_
  refine aw_iadd_n C dL_law_1133 ?_
  refine aw_lsld C hL (i := i + 2) rfl (by omega) dL_law_1134 ?_
  refine aw_cV2I C (s_X9_taken (xs (i + 1)) (xs (i + 2)) hg.1 (hr.fr h1.2.2)) mf_X9_taken mv_X9_taken sh_129 rfl ml_L_143 dL_law_1135 (by omega) (Nat.le_of_ble_eq_true rfl) (fun r2 q2 h2 => ?_)
  refine aw_icmp_eq C dL_law_1138 (tgt := 1379) (by decide) (fun _ => ?_) (fun z => absurd (h1.1.trans h2.1.symm) z)
  exact hN q2 _ (ok_same hg (by unfold f_taken; repeat first | rfl | split)) (h1.2.1.fm (ok_same hg (by unfold f_taken; repeat first | rfl | split)).1 h2.2.2) h2.2.1

set_option maxRecDepth 100000 in
set_option maxHeartbeats 4000000 in
theorem law_31 {X : CT} {G : GT} {q : S_} {g : GS} {d b L i : Nat} {xs : Nat → Int32} (C : Cx X G cL_law RL 4 d) (hd : 31 ≤ d) (hL : LX X G b L xs) (hi : i + 6 ≤ L) (hg : GOK2 g) (hc : CC q g) (hr : RR q g) (hN : ∀ (q2 : S_) (g2 : GS), GOK2 g2 → CC q2 g2 → RR q2 g2 → AW X G q2 1379 [some (.ref b), some (rfn G 0), some (rfn G 129), some (.int (nI i))] []) : AW X G q 1143 [some (.ref b), some (rfn G 0), some (rfn G 129), some (.int (nI i))] [] := by
  refine aw_aload_1 C dL_law_1143 rfl ?_
  refine aw_aload_0 C dL_law_1144 rfl ?_
  refine aw_iload_3 C dL_law_1145 ?_
  refine aw_iconst C dL_law_1146 k1_1 ?_
  refine aw_iadd_n C dL_law_1147 ?_
  refine aw_lsld C hL (i := i + 1) rfl (by omega) dL_law_1148 ?_
  refine aw_cV1I C (s_X8_count (xs (i + 1)) hg.1 hc) mf_X8_count mv_X8_count sh_0 rfl ml_L_144 dL_law_1149 (by omega) (Nat.le_of_ble_eq_true rfl) (fun r1 q1 h1 => ?_)
  refine aw_aload_2 C dL_law_1152 rfl ?_
  refine aw_aload_0 C dL_law_1153 rfl ?_
  refine aw_iload_3 C dL_law_1154 ?_
  refine aw_iconst C dL_law_1155 k1_1 ?_
  refine aw_iadd_n C dL_law_1156 ?_
  refine aw_lsld C hL (i := i + 1) rfl (by omega) dL_law_1157 ?_
  refine aw_cV1I C (s_X9_count (xs (i + 1)) hg.1 (hr.fr h1.2.2)) mf_X9_count mv_X9_count sh_129 rfl ml_L_147 dL_law_1158 (by omega) (Nat.le_of_ble_eq_true rfl) (fun r2 q2 h2 => ?_)
  refine aw_icmp_eq C dL_law_1161 (tgt := 1379) (by decide) (fun _ => ?_) (fun z => absurd (h1.1.trans h2.1.symm) z)
  exact hN q2 _ (ok_same hg (by unfold f_count; repeat first | rfl | split)) (h1.2.1.fm (ok_same hg (by unfold f_count; repeat first | rfl | split)).1 h2.2.2) h2.2.1

set_option maxRecDepth 100000 in
set_option maxHeartbeats 4000000 in
theorem law_32 {X : CT} {G : GT} {q : S_} {g : GS} {d b L i : Nat} {xs : Nat → Int32} (C : Cx X G cL_law RL 4 d) (hd : 31 ≤ d) (hL : LX X G b L xs) (hi : i + 6 ≤ L) (hg : GOK2 g) (hc : CC q g) (hr : RR q g) (hN : ∀ (q2 : S_) (g2 : GS), GOK2 g2 → CC q2 g2 → RR q2 g2 → AW X G q2 1379 [some (.ref b), some (rfn G 0), some (rfn G 129), some (.int (nI i))] []) : AW X G q 1166 [some (.ref b), some (rfn G 0), some (rfn G 129), some (.int (nI i))] [] := by
  refine aw_aload_1 C dL_law_1166 rfl ?_
  refine aw_aload_0 C dL_law_1167 rfl ?_
  refine aw_iload_3 C dL_law_1168 ?_
  refine aw_iconst C dL_law_1169 k1_1 ?_
  refine aw_iadd_n C dL_law_1170 ?_
  refine aw_lsld C hL (i := i + 1) rfl (by omega) dL_law_1171 ?_
  refine aw_aload_0 C dL_law_1172 rfl ?_
  refine aw_iload_3 C dL_law_1173 ?_
  refine aw_iconst C dL_law_1174 k1_2 ?_
  refine aw_iadd_n C dL_law_1175 ?_
  refine aw_lsld C hL (i := i + 2) rfl (by omega) dL_law_1176 ?_
  refine aw_aload_0 C dL_law_1177 rfl ?_
  refine aw_iload_3 C dL_law_1178 ?_
  refine aw_iconst C dL_law_1179 k1_3 ?_
  refine aw_iadd_n C dL_law_1180 ?_
  refine aw_lsld C hL (i := i + 3) rfl (by omega) dL_law_1181 ?_
  refine aw_cV3I C (s_X8_tape (xs (i + 1)) (xs (i + 2)) (xs (i + 3)) hg.1 hc) mf_X8_tape mv_X8_tape sh_0 rfl ml_L_148 dL_law_1182 (by omega) (Nat.le_of_ble_eq_true rfl) (fun r1 q1 h1 => ?_)
  refine aw_aload_2 C dL_law_1185 rfl ?_
  refine aw_aload_0 C dL_law_1186 rfl ?_
  refine aw_iload_3 C dL_law_1187 ?_
  refine aw_iconst C dL_law_1188 k1_1 ?_
  refine aw_iadd_n C dL_law_1189 ?_
  refine aw_lsld C hL (i := i + 1) rfl (by omega) dL_law_1190 ?_
  refine aw_aload_0 C dL_law_1191 rfl ?_
  refine aw_iload_3 C dL_law_1192 ?_
  refine aw_iconst C dL_law_1193 k1_2 ?_
  refine aw_iadd_n C dL_law_1194 ?_
  refine aw_lsld C hL (i := i + 2) rfl (by omega) dL_law_1195 ?_
  refine aw_aload_0 C dL_law_1196 rfl ?_
  refine aw_iload_3 C dL_law_1197 ?_
  refine aw_iconst C dL_law_1198 k1_3 ?_
  refine aw_iadd_n C dL_law_1199 ?_
  refine aw_lsld C hL (i := i + 3) rfl (by omega) dL_law_1200 ?_
  refine aw_cV3I C (s_X9_tape (xs (i + 1)) (xs (i + 2)) (xs (i + 3)) hg.1 (hr.fr h1.2.2)) mf_X9_tape mv_X9_tape sh_129 rfl ml_L_151 dL_law_1201 (by omega) (Nat.le_of_ble_eq_true rfl) (fun r2 q2 h2 => ?_)
  refine aw_icmp_eq C dL_law_1204 (tgt := 1379) (by decide) (fun _ => ?_) (fun z => absurd (h1.1.trans h2.1.symm) z)
  exact hN q2 _ (ok_tape hg _ _ _) (h1.2.1.fm (ok_tape hg _ _ _).1 h2.2.2) h2.2.1

set_option maxRecDepth 100000 in
set_option maxHeartbeats 4000000 in
theorem law_33 {X : CT} {G : GT} {q : S_} {g : GS} {d b L i : Nat} {xs : Nat → Int32} (C : Cx X G cL_law RL 4 d) (hd : 31 ≤ d) (hL : LX X G b L xs) (hi : i + 6 ≤ L) (hg : GOK2 g) (hc : CC q g) (hr : RR q g) (hN : ∀ (q2 : S_) (g2 : GS), GOK2 g2 → CC q2 g2 → RR q2 g2 → AW X G q2 1379 [some (.ref b), some (rfn G 0), some (rfn G 129), some (.int (nI i))] []) : AW X G q 1209 [some (.ref b), some (rfn G 0), some (rfn G 129), some (.int (nI i))] [] := by
  refine aw_aload_1 C dL_law_1209 rfl ?_
  refine aw_aload_0 C dL_law_1210 rfl ?_
  refine aw_iload_3 C dL_law_1211 ?_
  refine aw_iconst C dL_law_1212 k1_1 ?_
  refine aw_iadd_n C dL_law_1213 ?_
  refine aw_lsld C hL (i := i + 1) rfl (by omega) dL_law_1214 ?_
  refine aw_aload_0 C dL_law_1215 rfl ?_
  refine aw_iload_3 C dL_law_1216 ?_
  refine aw_iconst C dL_law_1217 k1_2 ?_
  refine aw_iadd_n C dL_law_1218 ?_
  refine aw_lsld C hL (i := i + 2) rfl (by omega) dL_law_1219 ?_
  refine aw_aload_0 C dL_law_1220 rfl ?_
  refine aw_iload_3 C dL_law_1221 ?_
  refine aw_iconst C dL_law_1222 k1_3 ?_
  refine aw_iadd_n C dL_law_1223 ?_
  refine aw_lsld C hL (i := i + 3) rfl (by omega) dL_law_1224 ?_
  refine aw_i2l C dL_law_1225 ?_
  refine aw_bipush C dL_law_1226 k2_32 ?_
  refine aw_lshl C dL_law_1228 ?_
  refine aw_aload_0 C dL_law_1229 rfl ?_
  refine aw_iload_3 C dL_law_1230 ?_
  refine aw_iconst C dL_law_1231 k1_4 ?_
  refine aw_iadd_n C dL_law_1232 ?_
  refine aw_lsld C hL (i := i + 4) rfl (by omega) dL_law_1233 ?_
  refine aw_i2l C dL_law_1234 ?_
  refine aw_ldc2 C dL_law_1235 kc_L_152 ?_
  refine aw_land C dL_law_1238 ?_
  refine aw_lor C dL_law_1239 ?_
  refine aw_cV3I C (s_X8_item (xs (i + 1)) (xs (i + 2)) _ hg.1 hc) mf_X8_item mv_X8_item sh_0 rfl ml_L_154 dL_law_1240 (by omega) (Nat.le_of_ble_eq_true rfl) (fun r1 q1 h1 => ?_)
  refine aw_aload_2 C dL_law_1243 rfl ?_
  refine aw_aload_0 C dL_law_1244 rfl ?_
  refine aw_iload_3 C dL_law_1245 ?_
  refine aw_iconst C dL_law_1246 k1_1 ?_
  refine aw_iadd_n C dL_law_1247 ?_
  refine aw_lsld C hL (i := i + 1) rfl (by omega) dL_law_1248 ?_
  refine aw_aload_0 C dL_law_1249 rfl ?_
  refine aw_iload_3 C dL_law_1250 ?_
  refine aw_iconst C dL_law_1251 k1_2 ?_
  refine aw_iadd_n C dL_law_1252 ?_
  refine aw_lsld C hL (i := i + 2) rfl (by omega) dL_law_1253 ?_
  refine aw_aload_0 C dL_law_1254 rfl ?_
  refine aw_iload_3 C dL_law_1255 ?_
  refine aw_iconst C dL_law_1256 k1_3 ?_
  refine aw_iadd_n C dL_law_1257 ?_
  refine aw_lsld C hL (i := i + 3) rfl (by omega) dL_law_1258 ?_
  refine aw_i2l C dL_law_1259 ?_
  refine aw_bipush C dL_law_1260 k2_32 ?_
  refine aw_lshl C dL_law_1262 ?_
  refine aw_aload_0 C dL_law_1263 rfl ?_
  refine aw_iload_3 C dL_law_1264 ?_
  refine aw_iconst C dL_law_1265 k1_4 ?_
  refine aw_iadd_n C dL_law_1266 ?_
  refine aw_lsld C hL (i := i + 4) rfl (by omega) dL_law_1267 ?_
  refine aw_i2l C dL_law_1268 ?_
  refine aw_ldc2 C dL_law_1269 kc_L_152 ?_
  refine aw_land C dL_law_1272 ?_
  refine aw_lor C dL_law_1273 ?_
  refine aw_cV3I C (s_X9_item (xs (i + 1)) (xs (i + 2)) _ hg.1 (hr.fr h1.2.2)) mf_X9_item mv_X9_item sh_129 rfl ml_L_158 dL_law_1274 (by omega) (Nat.le_of_ble_eq_true rfl) (fun r2 q2 h2 => ?_)
  refine aw_icmp_eq C dL_law_1277 (tgt := 1379) (by decide) (fun _ => ?_) (fun z => absurd (h1.1.trans h2.1.symm) z)
  exact hN q2 _ (ok_item hg _ _ _) (h1.2.1.fm (ok_item hg _ _ _).1 h2.2.2) h2.2.1

set_option maxRecDepth 100000 in
set_option maxHeartbeats 4000000 in
theorem law_34 {X : CT} {G : GT} {q : S_} {g : GS} {d b L i : Nat} {xs : Nat → Int32} (C : Cx X G cL_law RL 4 d) (hd : 31 ≤ d) (hL : LX X G b L xs) (hi : i + 6 ≤ L) (hg : GOK2 g) (hc : CC q g) (hr : RR q g) (hN : ∀ (q2 : S_) (g2 : GS), GOK2 g2 → CC q2 g2 → RR q2 g2 → AW X G q2 1379 [some (.ref b), some (rfn G 0), some (rfn G 129), some (.int (nI i))] []) : AW X G q 1282 [some (.ref b), some (rfn G 0), some (rfn G 129), some (.int (nI i))] [] := by
  refine aw_aload_1 C dL_law_1282 rfl ?_
  refine aw_aload_0 C dL_law_1283 rfl ?_
  refine aw_iload_3 C dL_law_1284 ?_
  refine aw_iconst C dL_law_1285 k1_1 ?_
  refine aw_iadd_n C dL_law_1286 ?_
  refine aw_lsld C hL (i := i + 1) rfl (by omega) dL_law_1287 ?_
  refine aw_aload_0 C dL_law_1288 rfl ?_
  refine aw_iload_3 C dL_law_1289 ?_
  refine aw_iconst C dL_law_1290 k1_2 ?_
  refine aw_iadd_n C dL_law_1291 ?_
  refine aw_lsld C hL (i := i + 2) rfl (by omega) dL_law_1292 ?_
  refine aw_cV2L C (s_X8_read (xs (i + 1)) (xs (i + 2)) hg.1 hc) mf_X8_read mv_X8_read sh_0 rfl ml_L_159 dL_law_1293 (by omega) (Nat.le_of_ble_eq_true rfl) (fun r1 q1 h1 => ?_)
  refine aw_aload_2 C dL_law_1296 rfl ?_
  refine aw_aload_0 C dL_law_1297 rfl ?_
  refine aw_iload_3 C dL_law_1298 ?_
  refine aw_iconst C dL_law_1299 k1_1 ?_
  refine aw_iadd_n C dL_law_1300 ?_
  refine aw_lsld C hL (i := i + 1) rfl (by omega) dL_law_1301 ?_
  refine aw_aload_0 C dL_law_1302 rfl ?_
  refine aw_iload_3 C dL_law_1303 ?_
  refine aw_iconst C dL_law_1304 k1_2 ?_
  refine aw_iadd_n C dL_law_1305 ?_
  refine aw_lsld C hL (i := i + 2) rfl (by omega) dL_law_1306 ?_
  refine aw_cV2L C (s_X9_read (xs (i + 1)) (xs (i + 2)) hg.1 (hr.fr h1.2.2)) mf_X9_read mv_X9_read sh_129 rfl ml_L_163 dL_law_1307 (by omega) (Nat.le_of_ble_eq_true rfl) (fun r2 q2 h2 => ?_)
  refine aw_lcmp C dL_law_1310 ?_
  refine aw_if_eq C dL_law_1311 (tgt := 1379) (by decide) (fun _ => ?_) (fun z => absurd (by rw [h1.1, h2.1]; exact lcmp_self _) z)
  exact hN q2 _ (ok_same hg (by unfold f_read; repeat first | rfl | split)) (h1.2.1.fm (ok_same hg (by unfold f_read; repeat first | rfl | split)).1 h2.2.2) h2.2.1

set_option maxRecDepth 100000 in
set_option maxHeartbeats 4000000 in
theorem law_35 {X : CT} {G : GT} {q : S_} {g : GS} {d b L i : Nat} {xs : Nat → Int32} (C : Cx X G cL_law RL 4 d) (hd : 31 ≤ d) (hL : LX X G b L xs) (hi : i + 6 ≤ L) (hg : GOK2 g) (hc : CC q g) (hr : RR q g) (hN : ∀ (q2 : S_) (g2 : GS), GOK2 g2 → CC q2 g2 → RR q2 g2 → AW X G q2 1379 [some (.ref b), some (rfn G 0), some (rfn G 129), some (.int (nI i))] []) : AW X G q 1316 [some (.ref b), some (rfn G 0), some (rfn G 129), some (.int (nI i))] [] := by
  refine aw_aload_1 C dL_law_1316 rfl ?_
  refine aw_aload_0 C dL_law_1317 rfl ?_
  refine aw_iload_3 C dL_law_1318 ?_
  refine aw_iconst C dL_law_1319 k1_1 ?_
  refine aw_iadd_n C dL_law_1320 ?_
  refine aw_lsld C hL (i := i + 1) rfl (by omega) dL_law_1321 ?_
  refine aw_aload_0 C dL_law_1322 rfl ?_
  refine aw_iload_3 C dL_law_1323 ?_
  refine aw_iconst C dL_law_1324 k1_2 ?_
  refine aw_iadd_n C dL_law_1325 ?_
  refine aw_lsld C hL (i := i + 2) rfl (by omega) dL_law_1326 ?_
  refine aw_aload_0 C dL_law_1327 rfl ?_
  refine aw_iload_3 C dL_law_1328 ?_
  refine aw_iconst C dL_law_1329 k1_3 ?_
  refine aw_iadd_n C dL_law_1330 ?_
  refine aw_lsld C hL (i := i + 3) rfl (by omega) dL_law_1331 ?_
  refine aw_aload_0 C dL_law_1332 rfl ?_
  refine aw_iload_3 C dL_law_1333 ?_
  refine aw_iconst C dL_law_1334 k1_4 ?_
  refine aw_iadd_n C dL_law_1335 ?_
  refine aw_lsld C hL (i := i + 4) rfl (by omega) dL_law_1336 ?_
  refine aw_aload_0 C dL_law_1337 rfl ?_
  refine aw_iload_3 C dL_law_1338 ?_
  refine aw_iconst C dL_law_1339 k1_5 ?_
  refine aw_iadd_n C dL_law_1340 ?_
  refine aw_lsld C hL (i := i + 5) rfl (by omega) dL_law_1341 ?_
  refine aw_cV5I C (s_X8_shift (xs (i + 1)) (xs (i + 2)) (xs (i + 3)) (xs (i + 4)) (xs (i + 5)) hg.1 hc) mf_X8_shift mv_X8_shift sh_0 rfl ml_L_164 dL_law_1342 (by omega) (Nat.le_of_ble_eq_true rfl) (fun r1 q1 h1 => ?_)
  refine aw_aload_2 C dL_law_1345 rfl ?_
  refine aw_aload_0 C dL_law_1346 rfl ?_
  refine aw_iload_3 C dL_law_1347 ?_
  refine aw_iconst C dL_law_1348 k1_1 ?_
  refine aw_iadd_n C dL_law_1349 ?_
  refine aw_lsld C hL (i := i + 1) rfl (by omega) dL_law_1350 ?_
  refine aw_aload_0 C dL_law_1351 rfl ?_
  refine aw_iload_3 C dL_law_1352 ?_
  refine aw_iconst C dL_law_1353 k1_2 ?_
  refine aw_iadd_n C dL_law_1354 ?_
  refine aw_lsld C hL (i := i + 2) rfl (by omega) dL_law_1355 ?_
  refine aw_aload_0 C dL_law_1356 rfl ?_
  refine aw_iload_3 C dL_law_1357 ?_
  refine aw_iconst C dL_law_1358 k1_3 ?_
  refine aw_iadd_n C dL_law_1359 ?_
  refine aw_lsld C hL (i := i + 3) rfl (by omega) dL_law_1360 ?_
  refine aw_aload_0 C dL_law_1361 rfl ?_
  refine aw_iload_3 C dL_law_1362 ?_
  refine aw_iconst C dL_law_1363 k1_4 ?_
  refine aw_iadd_n C dL_law_1364 ?_
  refine aw_lsld C hL (i := i + 4) rfl (by omega) dL_law_1365 ?_
  refine aw_aload_0 C dL_law_1366 rfl ?_
  refine aw_iload_3 C dL_law_1367 ?_
  refine aw_iconst C dL_law_1368 k1_5 ?_
  refine aw_iadd_n C dL_law_1369 ?_
  refine aw_lsld C hL (i := i + 5) rfl (by omega) dL_law_1370 ?_
  refine aw_cV5I C (s_X9_shift (xs (i + 1)) (xs (i + 2)) (xs (i + 3)) (xs (i + 4)) (xs (i + 5)) hg.1 (hr.fr h1.2.2)) mf_X9_shift mv_X9_shift sh_129 rfl ml_L_168 dL_law_1371 (by omega) (Nat.le_of_ble_eq_true rfl) (fun r2 q2 h2 => ?_)
  refine aw_icmp_eq C dL_law_1374 (tgt := 1379) (by decide) (fun _ => ?_) (fun z => absurd (h1.1.trans h2.1.symm) z)
  exact hN q2 _ (ok_shift hg _ _ _ _ _) (h1.2.1.fm (ok_shift hg _ _ _ _ _).1 h2.2.2) h2.2.1
