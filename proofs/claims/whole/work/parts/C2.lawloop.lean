/-! ===== the law's loop ===== -/
theorem lw_and (x : Int32) : ∃ j, j < 64 ∧ x &&& nI 63 = nI j := by
  refine ⟨x.toBitVec.toNat % 64, Nat.mod_lt _ (by decide), ?_⟩
  apply Int32.toBitVec_inj.1
  show x.toBitVec &&& BitVec.ofNat 32 63 = BitVec.ofNat 32 (x.toBitVec.toNat % 64)
  apply BitVec.eq_of_toNat_eq
  rw [BitVec.toNat_and, BitVec.toNat_ofNat, BitVec.toNat_ofNat]
  rw [show 63 % 2 ^ 32 = 2 ^ 6 - 1 by decide, Nat.and_two_pow_sub_one_eq_mod]
  rw [Nat.mod_eq_of_lt (a := x.toBitVec.toNat % 64) (by have := Nat.mod_lt x.toBitVec.toNat (show 0 < 64 by decide); omega)]

set_option maxRecDepth 20000 in
theorem lw_c_0 {sl i : Nat} {sx : Nat → Int32} (hi : i + 5 ≤ sl) (hsl : sl ≤ 2560) {K : sg_K} {E : sg_E} {P : Option sg_K} {M : dk_Mem} {Q : Option Value → dk_Mem → Prop} (h : dk_S K E P M) (hk : ∀ K2 E2 P2 M2, dk_S K2 E2 P2 M2 → dk_V sl sx 18 mL_law 1745 [some (.ref 300), some (.ref 0), some (.ref 104), some (.int (nI i))] [] M2 Q) : dk_V sl sx 18 mL_law 252 [some (.ref 300), some (.ref 0), some (.ref 104), some (.int (nI i))] [] M Q := by
  refine lj_al1 (n := 253) dL_law_252 rfl ?_
  refine lj_al0 (n := 254) dL_law_253 rfl ?_
  refine lj_il3 (n := 255) dL_law_254 rfl ?_
  refine lj_iconst (n := 256) (nI 1) dL_law_255 (by decide) rfl ?_
  refine lj_iadd (n := 257) dL_law_256 rfl ?_
  rw [nI_add]
  refine lj_sld (n := 258) (vp_in_nI (by omega) (by omega)) dL_law_257 rfl ?_
  refine lj_al0 (n := 259) dL_law_258 rfl ?_
  refine lj_il3 (n := 260) dL_law_259 rfl ?_
  refine lj_iconst (n := 261) (nI 2) dL_law_260 (by decide) rfl ?_
  refine lj_iadd (n := 262) dL_law_261 rfl ?_
  rw [nI_add]
  refine lj_sld (n := 263) (vp_in_nI (by omega) (by omega)) dL_law_262 rfl ?_
  refine lj_al0 (n := 264) dL_law_263 rfl ?_
  refine lj_il3 (n := 265) dL_law_264 rfl ?_
  refine lj_iconst (n := 266) (nI 3) dL_law_265 (by decide) rfl ?_
  refine lj_iadd (n := 267) dL_law_266 rfl ?_
  rw [nI_add]
  refine lj_sld (n := 268) (vp_in_nI (by omega) (by omega)) dL_law_267 rfl ?_
  refine lj_al0 (n := 269) dL_law_268 rfl ?_
  refine lj_il3 (n := 270) dL_law_269 rfl ?_
  refine lj_iconst (n := 271) (nI 4) dL_law_270 (by decide) rfl ?_
  refine lj_iadd (n := 272) dL_law_271 rfl ?_
  rw [nI_add]
  refine lj_sld (n := 273) (vp_in_nI (by omega) (by omega)) dL_law_272 rfl ?_
  refine lj_cV4 (n := 276) pl_0 cl_11 s0_X11_piece k_L_13 (Nat.le_of_ble_eq_true rfl) dL_law_273 rfl (lc_piece M _ h (fun M2 g1_h g2_h => ?_))
  refine lj_al2 (n := 277) dL_law_276 rfl ?_
  refine lj_al0 (n := 278) dL_law_277 rfl ?_
  refine lj_il3 (n := 279) dL_law_278 rfl ?_
  refine lj_iconst (n := 280) (nI 1) dL_law_279 (by decide) rfl ?_
  refine lj_iadd (n := 281) dL_law_280 rfl ?_
  rw [nI_add]
  refine lj_sld (n := 282) (vp_in_nI (by omega) (by omega)) dL_law_281 rfl ?_
  refine lj_al0 (n := 283) dL_law_282 rfl ?_
  refine lj_il3 (n := 284) dL_law_283 rfl ?_
  refine lj_iconst (n := 285) (nI 2) dL_law_284 (by decide) rfl ?_
  refine lj_iadd (n := 286) dL_law_285 rfl ?_
  rw [nI_add]
  refine lj_sld (n := 287) (vp_in_nI (by omega) (by omega)) dL_law_286 rfl ?_
  refine lj_al0 (n := 288) dL_law_287 rfl ?_
  refine lj_il3 (n := 289) dL_law_288 rfl ?_
  refine lj_iconst (n := 290) (nI 3) dL_law_289 (by decide) rfl ?_
  refine lj_iadd (n := 291) dL_law_290 rfl ?_
  rw [nI_add]
  refine lj_sld (n := 292) (vp_in_nI (by omega) (by omega)) dL_law_291 rfl ?_
  refine lj_al0 (n := 293) dL_law_292 rfl ?_
  refine lj_il3 (n := 294) dL_law_293 rfl ?_
  refine lj_iconst (n := 295) (nI 4) dL_law_294 (by decide) rfl ?_
  refine lj_iadd (n := 296) dL_law_295 rfl ?_
  rw [nI_add]
  refine lj_sld (n := 297) (vp_in_nI (by omega) (by omega)) dL_law_296 rfl ?_
  refine lj_cV4 (n := 300) pl_104 cl_12 s0_X12_piece k_L_17 (Nat.le_of_ble_eq_true rfl) dL_law_297 rfl (lr_piece M2 _ h.1 g2_h g1_h (fun M3 g3_h => ?_))
  exact lj_ic_eq (n := 303) 1745 dL_law_300 (by decide) rfl (fun _ => hk _ _ _ M3 g3_h) (fun z => absurd rfl z)

set_option maxRecDepth 20000 in
theorem lw_c_1 {sl i : Nat} {sx : Nat → Int32} (hi : i + 5 ≤ sl) (hsl : sl ≤ 2560) {K : sg_K} {E : sg_E} {P : Option sg_K} {M : dk_Mem} {Q : Option Value → dk_Mem → Prop} (h : dk_S K E P M) (hk : ∀ K2 E2 P2 M2, dk_S K2 E2 P2 M2 → dk_V sl sx 18 mL_law 1745 [some (.ref 300), some (.ref 0), some (.ref 104), some (.int (nI i))] [] M2 Q) : dk_V sl sx 18 mL_law 305 [some (.ref 300), some (.ref 0), some (.ref 104), some (.int (nI i))] [] M Q := by
  refine lj_al1 (n := 306) dL_law_305 rfl ?_
  refine lj_al0 (n := 307) dL_law_306 rfl ?_
  refine lj_il3 (n := 308) dL_law_307 rfl ?_
  refine lj_iconst (n := 309) (nI 1) dL_law_308 (by decide) rfl ?_
  refine lj_iadd (n := 310) dL_law_309 rfl ?_
  rw [nI_add]
  refine lj_sld (n := 311) (vp_in_nI (by omega) (by omega)) dL_law_310 rfl ?_
  refine lj_al0 (n := 312) dL_law_311 rfl ?_
  refine lj_il3 (n := 313) dL_law_312 rfl ?_
  refine lj_iconst (n := 314) (nI 2) dL_law_313 (by decide) rfl ?_
  refine lj_iadd (n := 315) dL_law_314 rfl ?_
  rw [nI_add]
  refine lj_sld (n := 316) (vp_in_nI (by omega) (by omega)) dL_law_315 rfl ?_
  refine lj_cV2 (n := 319) pl_0 cl_11 s0_X11_pieceOf k_L_18 (Nat.le_of_ble_eq_true rfl) dL_law_316 rfl (lc_pieceOf M _ h (fun M2 g1_h g2_h => ?_))
  refine lj_al2 (n := 320) dL_law_319 rfl ?_
  refine lj_al0 (n := 321) dL_law_320 rfl ?_
  refine lj_il3 (n := 322) dL_law_321 rfl ?_
  refine lj_iconst (n := 323) (nI 1) dL_law_322 (by decide) rfl ?_
  refine lj_iadd (n := 324) dL_law_323 rfl ?_
  rw [nI_add]
  refine lj_sld (n := 325) (vp_in_nI (by omega) (by omega)) dL_law_324 rfl ?_
  refine lj_al0 (n := 326) dL_law_325 rfl ?_
  refine lj_il3 (n := 327) dL_law_326 rfl ?_
  refine lj_iconst (n := 328) (nI 2) dL_law_327 (by decide) rfl ?_
  refine lj_iadd (n := 329) dL_law_328 rfl ?_
  rw [nI_add]
  refine lj_sld (n := 330) (vp_in_nI (by omega) (by omega)) dL_law_329 rfl ?_
  refine lj_cV2 (n := 333) pl_104 cl_12 s0_X12_pieceOf k_L_22 (Nat.le_of_ble_eq_true rfl) dL_law_330 rfl (lr_pieceOf M2 _ h.1 g2_h g1_h (fun M3 g3_h => ?_))
  exact lj_ic_eq (n := 336) 1745 dL_law_333 (by decide) rfl (fun _ => hk _ _ _ M3 g3_h) (fun z => absurd rfl z)

set_option maxRecDepth 20000 in
theorem lw_c_2 {sl i : Nat} {sx : Nat → Int32} (hi : i + 5 ≤ sl) (hsl : sl ≤ 2560) {K : sg_K} {E : sg_E} {P : Option sg_K} {M : dk_Mem} {Q : Option Value → dk_Mem → Prop} (h : dk_S K E P M) (hk : ∀ K2 E2 P2 M2, dk_S K2 E2 P2 M2 → dk_V sl sx 18 mL_law 1745 [some (.ref 300), some (.ref 0), some (.ref 104), some (.int (nI i))] [] M2 Q) : dk_V sl sx 18 mL_law 338 [some (.ref 300), some (.ref 0), some (.ref 104), some (.int (nI i))] [] M Q := by
  refine lj_al1 (n := 339) dL_law_338 rfl ?_
  refine lj_al0 (n := 340) dL_law_339 rfl ?_
  refine lj_il3 (n := 341) dL_law_340 rfl ?_
  refine lj_iconst (n := 342) (nI 1) dL_law_341 (by decide) rfl ?_
  refine lj_iadd (n := 343) dL_law_342 rfl ?_
  rw [nI_add]
  refine lj_sld (n := 344) (vp_in_nI (by omega) (by omega)) dL_law_343 rfl ?_
  refine lj_al0 (n := 345) dL_law_344 rfl ?_
  refine lj_il3 (n := 346) dL_law_345 rfl ?_
  refine lj_iconst (n := 347) (nI 2) dL_law_346 (by decide) rfl ?_
  refine lj_iadd (n := 348) dL_law_347 rfl ?_
  rw [nI_add]
  refine lj_sld (n := 349) (vp_in_nI (by omega) (by omega)) dL_law_348 rfl ?_
  refine lj_al0 (n := 350) dL_law_349 rfl ?_
  refine lj_il3 (n := 351) dL_law_350 rfl ?_
  refine lj_iconst (n := 352) (nI 3) dL_law_351 (by decide) rfl ?_
  refine lj_iadd (n := 353) dL_law_352 rfl ?_
  rw [nI_add]
  refine lj_sld (n := 354) (vp_in_nI (by omega) (by omega)) dL_law_353 rfl ?_
  refine lj_cV3 (n := 357) pl_0 cl_11 s0_X11_change k_L_23 (Nat.le_of_ble_eq_true rfl) dL_law_354 rfl (lc_change M _ h (fun M2 g1_h g2_h => ?_))
  refine lj_al2 (n := 358) dL_law_357 rfl ?_
  refine lj_al0 (n := 359) dL_law_358 rfl ?_
  refine lj_il3 (n := 360) dL_law_359 rfl ?_
  refine lj_iconst (n := 361) (nI 1) dL_law_360 (by decide) rfl ?_
  refine lj_iadd (n := 362) dL_law_361 rfl ?_
  rw [nI_add]
  refine lj_sld (n := 363) (vp_in_nI (by omega) (by omega)) dL_law_362 rfl ?_
  refine lj_al0 (n := 364) dL_law_363 rfl ?_
  refine lj_il3 (n := 365) dL_law_364 rfl ?_
  refine lj_iconst (n := 366) (nI 2) dL_law_365 (by decide) rfl ?_
  refine lj_iadd (n := 367) dL_law_366 rfl ?_
  rw [nI_add]
  refine lj_sld (n := 368) (vp_in_nI (by omega) (by omega)) dL_law_367 rfl ?_
  refine lj_al0 (n := 369) dL_law_368 rfl ?_
  refine lj_il3 (n := 370) dL_law_369 rfl ?_
  refine lj_iconst (n := 371) (nI 3) dL_law_370 (by decide) rfl ?_
  refine lj_iadd (n := 372) dL_law_371 rfl ?_
  rw [nI_add]
  refine lj_sld (n := 373) (vp_in_nI (by omega) (by omega)) dL_law_372 rfl ?_
  refine lj_cV3 (n := 376) pl_104 cl_12 s0_X12_change k_L_27 (Nat.le_of_ble_eq_true rfl) dL_law_373 rfl (lr_change M2 _ h.1 g2_h g1_h (fun M3 g3_h => ?_))
  exact lj_ic_eq (n := 379) 1745 dL_law_376 (by decide) rfl (fun _ => hk _ _ _ M3 g3_h) (fun z => absurd rfl z)

set_option maxRecDepth 20000 in
theorem lw_c_3 {sl i : Nat} {sx : Nat → Int32} (hi : i + 5 ≤ sl) (hsl : sl ≤ 2560) {K : sg_K} {E : sg_E} {P : Option sg_K} {M : dk_Mem} {Q : Option Value → dk_Mem → Prop} (h : dk_S K E P M) (hk : ∀ K2 E2 P2 M2, dk_S K2 E2 P2 M2 → dk_V sl sx 18 mL_law 1745 [some (.ref 300), some (.ref 0), some (.ref 104), some (.int (nI i))] [] M2 Q) : dk_V sl sx 18 mL_law 381 [some (.ref 300), some (.ref 0), some (.ref 104), some (.int (nI i))] [] M Q := by
  refine lj_al1 (n := 382) dL_law_381 rfl ?_
  refine lj_al0 (n := 383) dL_law_382 rfl ?_
  refine lj_il3 (n := 384) dL_law_383 rfl ?_
  refine lj_iconst (n := 385) (nI 1) dL_law_384 (by decide) rfl ?_
  refine lj_iadd (n := 386) dL_law_385 rfl ?_
  rw [nI_add]
  refine lj_sld (n := 387) (vp_in_nI (by omega) (by omega)) dL_law_386 rfl ?_
  refine lj_al0 (n := 388) dL_law_387 rfl ?_
  refine lj_il3 (n := 389) dL_law_388 rfl ?_
  refine lj_iconst (n := 390) (nI 2) dL_law_389 (by decide) rfl ?_
  refine lj_iadd (n := 391) dL_law_390 rfl ?_
  rw [nI_add]
  refine lj_sld (n := 392) (vp_in_nI (by omega) (by omega)) dL_law_391 rfl ?_
  refine lj_cV2 (n := 395) pl_0 cl_11 s0_X11_remake k_L_28 (Nat.le_of_ble_eq_true rfl) dL_law_392 rfl (lc_remake M _ h (fun M2 g1_h g2_h => ?_))
  refine lj_al2 (n := 396) dL_law_395 rfl ?_
  refine lj_al0 (n := 397) dL_law_396 rfl ?_
  refine lj_il3 (n := 398) dL_law_397 rfl ?_
  refine lj_iconst (n := 399) (nI 1) dL_law_398 (by decide) rfl ?_
  refine lj_iadd (n := 400) dL_law_399 rfl ?_
  rw [nI_add]
  refine lj_sld (n := 401) (vp_in_nI (by omega) (by omega)) dL_law_400 rfl ?_
  refine lj_al0 (n := 402) dL_law_401 rfl ?_
  refine lj_il3 (n := 403) dL_law_402 rfl ?_
  refine lj_iconst (n := 404) (nI 2) dL_law_403 (by decide) rfl ?_
  refine lj_iadd (n := 405) dL_law_404 rfl ?_
  rw [nI_add]
  refine lj_sld (n := 406) (vp_in_nI (by omega) (by omega)) dL_law_405 rfl ?_
  refine lj_cV2 (n := 409) pl_104 cl_12 s0_X12_remake k_L_31 (Nat.le_of_ble_eq_true rfl) dL_law_406 rfl (lr_remake M2 _ h.1 g2_h g1_h (fun M3 g3_h => ?_))
  exact lj_ic_eq (n := 412) 1745 dL_law_409 (by decide) rfl (fun _ => hk _ _ _ M3 g3_h) (fun z => absurd rfl z)

set_option maxRecDepth 20000 in
theorem lw_c_4 {sl i : Nat} {sx : Nat → Int32} (hi : i + 5 ≤ sl) (hsl : sl ≤ 2560) {K : sg_K} {E : sg_E} {P : Option sg_K} {M : dk_Mem} {Q : Option Value → dk_Mem → Prop} (h : dk_S K E P M) (hk : ∀ K2 E2 P2 M2, dk_S K2 E2 P2 M2 → dk_V sl sx 18 mL_law 1745 [some (.ref 300), some (.ref 0), some (.ref 104), some (.int (nI i))] [] M2 Q) : dk_V sl sx 18 mL_law 414 [some (.ref 300), some (.ref 0), some (.ref 104), some (.int (nI i))] [] M Q := by
  refine lj_al1 (n := 415) dL_law_414 rfl ?_
  refine lj_al0 (n := 416) dL_law_415 rfl ?_
  refine lj_il3 (n := 417) dL_law_416 rfl ?_
  refine lj_iconst (n := 418) (nI 1) dL_law_417 (by decide) rfl ?_
  refine lj_iadd (n := 419) dL_law_418 rfl ?_
  rw [nI_add]
  refine lj_sld (n := 420) (vp_in_nI (by omega) (by omega)) dL_law_419 rfl ?_
  refine lj_al0 (n := 421) dL_law_420 rfl ?_
  refine lj_il3 (n := 422) dL_law_421 rfl ?_
  refine lj_iconst (n := 423) (nI 2) dL_law_422 (by decide) rfl ?_
  refine lj_iadd (n := 424) dL_law_423 rfl ?_
  rw [nI_add]
  refine lj_sld (n := 425) (vp_in_nI (by omega) (by omega)) dL_law_424 rfl ?_
  refine lj_cV2 (n := 428) pl_0 cl_11 s0_X11_saying k_L_32 (Nat.le_of_ble_eq_true rfl) dL_law_425 rfl (lc_saying M _ h (fun M2 g1_h g2_h => ?_))
  refine lj_al2 (n := 429) dL_law_428 rfl ?_
  refine lj_al0 (n := 430) dL_law_429 rfl ?_
  refine lj_il3 (n := 431) dL_law_430 rfl ?_
  refine lj_iconst (n := 432) (nI 1) dL_law_431 (by decide) rfl ?_
  refine lj_iadd (n := 433) dL_law_432 rfl ?_
  rw [nI_add]
  refine lj_sld (n := 434) (vp_in_nI (by omega) (by omega)) dL_law_433 rfl ?_
  refine lj_al0 (n := 435) dL_law_434 rfl ?_
  refine lj_il3 (n := 436) dL_law_435 rfl ?_
  refine lj_iconst (n := 437) (nI 2) dL_law_436 (by decide) rfl ?_
  refine lj_iadd (n := 438) dL_law_437 rfl ?_
  rw [nI_add]
  refine lj_sld (n := 439) (vp_in_nI (by omega) (by omega)) dL_law_438 rfl ?_
  refine lj_cV2 (n := 442) pl_104 cl_12 s0_X12_saying k_L_35 (Nat.le_of_ble_eq_true rfl) dL_law_439 rfl (lr_saying M2 _ h.1 g2_h g1_h (fun M3 g3_h => ?_))
  exact lj_ic_eq (n := 445) 1745 dL_law_442 (by decide) rfl (fun _ => hk _ _ _ M3 g3_h) (fun z => absurd rfl z)

set_option maxRecDepth 20000 in
theorem lw_c_5 {sl i : Nat} {sx : Nat → Int32} (hi : i + 5 ≤ sl) (hsl : sl ≤ 2560) {K : sg_K} {E : sg_E} {P : Option sg_K} {M : dk_Mem} {Q : Option Value → dk_Mem → Prop} (h : dk_S K E P M) (hk : ∀ K2 E2 P2 M2, dk_S K2 E2 P2 M2 → dk_V sl sx 18 mL_law 1745 [some (.ref 300), some (.ref 0), some (.ref 104), some (.int (nI i))] [] M2 Q) : dk_V sl sx 18 mL_law 447 [some (.ref 300), some (.ref 0), some (.ref 104), some (.int (nI i))] [] M Q := by
  refine lj_al1 (n := 448) dL_law_447 rfl ?_
  refine lj_al0 (n := 449) dL_law_448 rfl ?_
  refine lj_il3 (n := 450) dL_law_449 rfl ?_
  refine lj_iconst (n := 451) (nI 1) dL_law_450 (by decide) rfl ?_
  refine lj_iadd (n := 452) dL_law_451 rfl ?_
  rw [nI_add]
  refine lj_sld (n := 453) (vp_in_nI (by omega) (by omega)) dL_law_452 rfl ?_
  refine lj_al0 (n := 454) dL_law_453 rfl ?_
  refine lj_il3 (n := 455) dL_law_454 rfl ?_
  refine lj_iconst (n := 456) (nI 2) dL_law_455 (by decide) rfl ?_
  refine lj_iadd (n := 457) dL_law_456 rfl ?_
  rw [nI_add]
  refine lj_sld (n := 458) (vp_in_nI (by omega) (by omega)) dL_law_457 rfl ?_
  refine lj_al0 (n := 459) dL_law_458 rfl ?_
  refine lj_il3 (n := 460) dL_law_459 rfl ?_
  refine lj_iconst (n := 461) (nI 3) dL_law_460 (by decide) rfl ?_
  refine lj_iadd (n := 462) dL_law_461 rfl ?_
  rw [nI_add]
  refine lj_sld (n := 463) (vp_in_nI (by omega) (by omega)) dL_law_462 rfl ?_
  refine lj_cV3 (n := 466) pl_0 cl_11 s0_X11_room k_L_36 (Nat.le_of_ble_eq_true rfl) dL_law_463 rfl (lc_room M _ h (fun M2 g1_h g2_h => ?_))
  refine lj_al2 (n := 467) dL_law_466 rfl ?_
  refine lj_al0 (n := 468) dL_law_467 rfl ?_
  refine lj_il3 (n := 469) dL_law_468 rfl ?_
  refine lj_iconst (n := 470) (nI 1) dL_law_469 (by decide) rfl ?_
  refine lj_iadd (n := 471) dL_law_470 rfl ?_
  rw [nI_add]
  refine lj_sld (n := 472) (vp_in_nI (by omega) (by omega)) dL_law_471 rfl ?_
  refine lj_al0 (n := 473) dL_law_472 rfl ?_
  refine lj_il3 (n := 474) dL_law_473 rfl ?_
  refine lj_iconst (n := 475) (nI 2) dL_law_474 (by decide) rfl ?_
  refine lj_iadd (n := 476) dL_law_475 rfl ?_
  rw [nI_add]
  refine lj_sld (n := 477) (vp_in_nI (by omega) (by omega)) dL_law_476 rfl ?_
  refine lj_al0 (n := 478) dL_law_477 rfl ?_
  refine lj_il3 (n := 479) dL_law_478 rfl ?_
  refine lj_iconst (n := 480) (nI 3) dL_law_479 (by decide) rfl ?_
  refine lj_iadd (n := 481) dL_law_480 rfl ?_
  rw [nI_add]
  refine lj_sld (n := 482) (vp_in_nI (by omega) (by omega)) dL_law_481 rfl ?_
  refine lj_cV3 (n := 485) pl_104 cl_12 s0_X12_room k_L_39 (Nat.le_of_ble_eq_true rfl) dL_law_482 rfl (lr_room M2 _ h.1 g2_h g1_h (fun M3 g3_h => ?_))
  exact lj_ic_eq (n := 488) 1745 dL_law_485 (by decide) rfl (fun _ => hk _ _ _ M3 g3_h) (fun z => absurd rfl z)

set_option maxRecDepth 20000 in
theorem lw_c_6 {sl i : Nat} {sx : Nat → Int32} (hi : i + 5 ≤ sl) (hsl : sl ≤ 2560) {K : sg_K} {E : sg_E} {P : Option sg_K} {M : dk_Mem} {Q : Option Value → dk_Mem → Prop} (h : dk_S K E P M) (hk : ∀ K2 E2 P2 M2, dk_S K2 E2 P2 M2 → dk_V sl sx 18 mL_law 1745 [some (.ref 300), some (.ref 0), some (.ref 104), some (.int (nI i))] [] M2 Q) : dk_V sl sx 18 mL_law 490 [some (.ref 300), some (.ref 0), some (.ref 104), some (.int (nI i))] [] M Q := by
  refine lj_al1 (n := 491) dL_law_490 rfl ?_
  refine lj_al0 (n := 492) dL_law_491 rfl ?_
  refine lj_il3 (n := 493) dL_law_492 rfl ?_
  refine lj_iconst (n := 494) (nI 1) dL_law_493 (by decide) rfl ?_
  refine lj_iadd (n := 495) dL_law_494 rfl ?_
  rw [nI_add]
  refine lj_sld (n := 496) (vp_in_nI (by omega) (by omega)) dL_law_495 rfl ?_
  refine lj_al0 (n := 497) dL_law_496 rfl ?_
  refine lj_il3 (n := 498) dL_law_497 rfl ?_
  refine lj_iconst (n := 499) (nI 2) dL_law_498 (by decide) rfl ?_
  refine lj_iadd (n := 500) dL_law_499 rfl ?_
  rw [nI_add]
  refine lj_sld (n := 501) (vp_in_nI (by omega) (by omega)) dL_law_500 rfl ?_
  refine lj_cV2 (n := 504) pl_0 cl_11 s0_X11_roomOf k_L_40 (Nat.le_of_ble_eq_true rfl) dL_law_501 rfl (lc_roomOf M _ h (fun M2 g1_h g2_h => ?_))
  refine lj_al2 (n := 505) dL_law_504 rfl ?_
  refine lj_al0 (n := 506) dL_law_505 rfl ?_
  refine lj_il3 (n := 507) dL_law_506 rfl ?_
  refine lj_iconst (n := 508) (nI 1) dL_law_507 (by decide) rfl ?_
  refine lj_iadd (n := 509) dL_law_508 rfl ?_
  rw [nI_add]
  refine lj_sld (n := 510) (vp_in_nI (by omega) (by omega)) dL_law_509 rfl ?_
  refine lj_al0 (n := 511) dL_law_510 rfl ?_
  refine lj_il3 (n := 512) dL_law_511 rfl ?_
  refine lj_iconst (n := 513) (nI 2) dL_law_512 (by decide) rfl ?_
  refine lj_iadd (n := 514) dL_law_513 rfl ?_
  rw [nI_add]
  refine lj_sld (n := 515) (vp_in_nI (by omega) (by omega)) dL_law_514 rfl ?_
  refine lj_cV2 (n := 518) pl_104 cl_12 s0_X12_roomOf k_L_43 (Nat.le_of_ble_eq_true rfl) dL_law_515 rfl (lr_roomOf M2 _ h.1 g2_h g1_h (fun M3 g3_h => ?_))
  exact lj_ic_eq (n := 521) 1745 dL_law_518 (by decide) rfl (fun _ => hk _ _ _ M3 g3_h) (fun z => absurd rfl z)

set_option maxRecDepth 20000 in
theorem lw_c_7 {sl i : Nat} {sx : Nat → Int32} (hi : i + 5 ≤ sl) (hsl : sl ≤ 2560) {K : sg_K} {E : sg_E} {P : Option sg_K} {M : dk_Mem} {Q : Option Value → dk_Mem → Prop} (h : dk_S K E P M) (hk : ∀ K2 E2 P2 M2, dk_S K2 E2 P2 M2 → dk_V sl sx 18 mL_law 1745 [some (.ref 300), some (.ref 0), some (.ref 104), some (.int (nI i))] [] M2 Q) : dk_V sl sx 18 mL_law 523 [some (.ref 300), some (.ref 0), some (.ref 104), some (.int (nI i))] [] M Q := by
  refine lj_al1 (n := 524) dL_law_523 rfl ?_
  refine lj_al0 (n := 525) dL_law_524 rfl ?_
  refine lj_il3 (n := 526) dL_law_525 rfl ?_
  refine lj_iconst (n := 527) (nI 1) dL_law_526 (by decide) rfl ?_
  refine lj_iadd (n := 528) dL_law_527 rfl ?_
  rw [nI_add]
  refine lj_sld (n := 529) (vp_in_nI (by omega) (by omega)) dL_law_528 rfl ?_
  refine lj_cV1 (n := 532) pl_0 cl_11 s0_X11_ends k_L_44 (Nat.le_of_ble_eq_true rfl) dL_law_529 rfl (lc_ends M _ h (fun M2 g1_h g2_h => ?_))
  refine lj_al2 (n := 533) dL_law_532 rfl ?_
  refine lj_al0 (n := 534) dL_law_533 rfl ?_
  refine lj_il3 (n := 535) dL_law_534 rfl ?_
  refine lj_iconst (n := 536) (nI 1) dL_law_535 (by decide) rfl ?_
  refine lj_iadd (n := 537) dL_law_536 rfl ?_
  rw [nI_add]
  refine lj_sld (n := 538) (vp_in_nI (by omega) (by omega)) dL_law_537 rfl ?_
  refine lj_cV1 (n := 541) pl_104 cl_12 s0_X12_ends k_L_48 (Nat.le_of_ble_eq_true rfl) dL_law_538 rfl (lr_ends M2 _ h.1 g2_h g1_h (fun M3 g3_h => ?_))
  exact lj_ic_eq (n := 544) 1745 dL_law_541 (by decide) rfl (fun _ => hk _ _ _ M3 g3_h) (fun z => absurd rfl z)

set_option maxRecDepth 20000 in
theorem lw_c_8 {sl i : Nat} {sx : Nat → Int32} (hi : i + 5 ≤ sl) (hsl : sl ≤ 2560) {K : sg_K} {E : sg_E} {P : Option sg_K} {M : dk_Mem} {Q : Option Value → dk_Mem → Prop} (h : dk_S K E P M) (hk : ∀ K2 E2 P2 M2, dk_S K2 E2 P2 M2 → dk_V sl sx 18 mL_law 1745 [some (.ref 300), some (.ref 0), some (.ref 104), some (.int (nI i))] [] M2 Q) : dk_V sl sx 18 mL_law 546 [some (.ref 300), some (.ref 0), some (.ref 104), some (.int (nI i))] [] M Q := by
  refine lj_al1 (n := 547) dL_law_546 rfl ?_
  refine lj_cV0 (n := 550) pl_0 cl_11 s0_X11_anew k_L_49 (Nat.le_of_ble_eq_true rfl) dL_law_547 rfl (lc_anew M _ h (fun M2 g1_h g2_h => ?_))
  refine lj_al2 (n := 551) dL_law_550 rfl ?_
  refine lj_cV0 (n := 554) pl_104 cl_12 s0_X12_anew k_L_53 (Nat.le_of_ble_eq_true rfl) dL_law_551 rfl (lr_anew M2 _ h.1 g2_h g1_h (fun M3 g3_h => ?_))
  exact lj_ic_eq (n := 557) 1745 dL_law_554 (by decide) rfl (fun _ => hk _ _ _ M3 g3_h) (fun z => absurd rfl z)

set_option maxRecDepth 20000 in
theorem lw_c_9 {sl i : Nat} {sx : Nat → Int32} (hi : i + 5 ≤ sl) (hsl : sl ≤ 2560) {K : sg_K} {E : sg_E} {P : Option sg_K} {M : dk_Mem} {Q : Option Value → dk_Mem → Prop} (h : dk_S K E P M) (hk : ∀ K2 E2 P2 M2, dk_S K2 E2 P2 M2 → dk_V sl sx 18 mL_law 1745 [some (.ref 300), some (.ref 0), some (.ref 104), some (.int (nI i))] [] M2 Q) : dk_V sl sx 18 mL_law 559 [some (.ref 300), some (.ref 0), some (.ref 104), some (.int (nI i))] [] M Q := by
  refine lj_al1 (n := 560) dL_law_559 rfl ?_
  refine lj_al0 (n := 561) dL_law_560 rfl ?_
  refine lj_il3 (n := 562) dL_law_561 rfl ?_
  refine lj_iconst (n := 563) (nI 1) dL_law_562 (by decide) rfl ?_
  refine lj_iadd (n := 564) dL_law_563 rfl ?_
  rw [nI_add]
  refine lj_sld (n := 565) (vp_in_nI (by omega) (by omega)) dL_law_564 rfl ?_
  refine lj_cV1 (n := 568) pl_0 cl_11 s0_X11_state k_L_54 (Nat.le_of_ble_eq_true rfl) dL_law_565 rfl (lc_state M _ h (fun M2 g1_h g2_h => ?_))
  refine lj_al2 (n := 569) dL_law_568 rfl ?_
  refine lj_al0 (n := 570) dL_law_569 rfl ?_
  refine lj_il3 (n := 571) dL_law_570 rfl ?_
  refine lj_iconst (n := 572) (nI 1) dL_law_571 (by decide) rfl ?_
  refine lj_iadd (n := 573) dL_law_572 rfl ?_
  rw [nI_add]
  refine lj_sld (n := 574) (vp_in_nI (by omega) (by omega)) dL_law_573 rfl ?_
  refine lj_cV1 (n := 577) pl_104 cl_12 s0_X12_state k_L_57 (Nat.le_of_ble_eq_true rfl) dL_law_574 rfl (lr_state M2 _ h.1 g2_h g1_h (fun M3 g3_h => ?_))
  exact lj_ic_eq (n := 580) 1745 dL_law_577 (by decide) rfl (fun _ => hk _ _ _ M3 g3_h) (fun z => absurd rfl z)

set_option maxRecDepth 20000 in
theorem lw_c_10 {sl i : Nat} {sx : Nat → Int32} (hi : i + 5 ≤ sl) (hsl : sl ≤ 2560) {K : sg_K} {E : sg_E} {P : Option sg_K} {M : dk_Mem} {Q : Option Value → dk_Mem → Prop} (h : dk_S K E P M) (hk : ∀ K2 E2 P2 M2, dk_S K2 E2 P2 M2 → dk_V sl sx 18 mL_law 1745 [some (.ref 300), some (.ref 0), some (.ref 104), some (.int (nI i))] [] M2 Q) : dk_V sl sx 18 mL_law 582 [some (.ref 300), some (.ref 0), some (.ref 104), some (.int (nI i))] [] M Q := by
  refine lj_al1 (n := 583) dL_law_582 rfl ?_
  refine lj_al0 (n := 584) dL_law_583 rfl ?_
  refine lj_il3 (n := 585) dL_law_584 rfl ?_
  refine lj_iconst (n := 586) (nI 1) dL_law_585 (by decide) rfl ?_
  refine lj_iadd (n := 587) dL_law_586 rfl ?_
  rw [nI_add]
  refine lj_sld (n := 588) (vp_in_nI (by omega) (by omega)) dL_law_587 rfl ?_
  refine lj_i2l (n := 589) dL_law_588 rfl ?_
  refine lj_bipush (n := 591) (nI 32) dL_law_589 (by decide) rfl ?_
  refine lj_lshl (n := 592) dL_law_591 rfl ?_
  refine lj_al0 (n := 593) dL_law_592 rfl ?_
  refine lj_il3 (n := 594) dL_law_593 rfl ?_
  refine lj_iconst (n := 595) (nI 2) dL_law_594 (by decide) rfl ?_
  refine lj_iadd (n := 596) dL_law_595 rfl ?_
  rw [nI_add]
  refine lj_sld (n := 597) (vp_in_nI (by omega) (by omega)) dL_law_596 rfl ?_
  refine lj_i2l (n := 598) dL_law_597 rfl ?_
  refine lj_ldc2 (n := 601) in_1842 dL_law_598 rfl ?_
  refine lj_land (n := 602) dL_law_601 rfl ?_
  refine lj_lor (n := 603) dL_law_602 rfl ?_
  refine lj_al0 (n := 604) dL_law_603 rfl ?_
  refine lj_il3 (n := 605) dL_law_604 rfl ?_
  refine lj_iconst (n := 606) (nI 3) dL_law_605 (by decide) rfl ?_
  refine lj_iadd (n := 607) dL_law_606 rfl ?_
  rw [nI_add]
  refine lj_sld (n := 608) (vp_in_nI (by omega) (by omega)) dL_law_607 rfl ?_
  refine lj_cV2 (n := 611) pl_0 cl_11 s0_X11_feed k_L_60 (Nat.le_of_ble_eq_true rfl) dL_law_608 rfl (lc_feed M _ h (fun M2 g1_h g2_h => ?_))
  refine lj_al2 (n := 612) dL_law_611 rfl ?_
  refine lj_al0 (n := 613) dL_law_612 rfl ?_
  refine lj_il3 (n := 614) dL_law_613 rfl ?_
  refine lj_iconst (n := 615) (nI 1) dL_law_614 (by decide) rfl ?_
  refine lj_iadd (n := 616) dL_law_615 rfl ?_
  rw [nI_add]
  refine lj_sld (n := 617) (vp_in_nI (by omega) (by omega)) dL_law_616 rfl ?_
  refine lj_i2l (n := 618) dL_law_617 rfl ?_
  refine lj_bipush (n := 620) (nI 32) dL_law_618 (by decide) rfl ?_
  refine lj_lshl (n := 621) dL_law_620 rfl ?_
  refine lj_al0 (n := 622) dL_law_621 rfl ?_
  refine lj_il3 (n := 623) dL_law_622 rfl ?_
  refine lj_iconst (n := 624) (nI 2) dL_law_623 (by decide) rfl ?_
  refine lj_iadd (n := 625) dL_law_624 rfl ?_
  rw [nI_add]
  refine lj_sld (n := 626) (vp_in_nI (by omega) (by omega)) dL_law_625 rfl ?_
  refine lj_i2l (n := 627) dL_law_626 rfl ?_
  refine lj_ldc2 (n := 630) in_1842 dL_law_627 rfl ?_
  refine lj_land (n := 631) dL_law_630 rfl ?_
  refine lj_lor (n := 632) dL_law_631 rfl ?_
  refine lj_al0 (n := 633) dL_law_632 rfl ?_
  refine lj_il3 (n := 634) dL_law_633 rfl ?_
  refine lj_iconst (n := 635) (nI 3) dL_law_634 (by decide) rfl ?_
  refine lj_iadd (n := 636) dL_law_635 rfl ?_
  rw [nI_add]
  refine lj_sld (n := 637) (vp_in_nI (by omega) (by omega)) dL_law_636 rfl ?_
  refine lj_cV2 (n := 640) pl_104 cl_12 s0_X12_feed k_L_64 (Nat.le_of_ble_eq_true rfl) dL_law_637 rfl (lr_feed M2 _ h.1 g2_h g1_h (fun M3 g3_h => ?_))
  exact lj_ic_eq (n := 643) 1745 dL_law_640 (by decide) rfl (fun _ => hk _ _ _ M3 g3_h) (fun z => absurd rfl z)

set_option maxRecDepth 20000 in
theorem lw_c_11 {sl i : Nat} {sx : Nat → Int32} (hi : i + 5 ≤ sl) (hsl : sl ≤ 2560) {K : sg_K} {E : sg_E} {P : Option sg_K} {M : dk_Mem} {Q : Option Value → dk_Mem → Prop} (h : dk_S K E P M) (hk : ∀ K2 E2 P2 M2, dk_S K2 E2 P2 M2 → dk_V sl sx 18 mL_law 1745 [some (.ref 300), some (.ref 0), some (.ref 104), some (.int (nI i))] [] M2 Q) : dk_V sl sx 18 mL_law 645 [some (.ref 300), some (.ref 0), some (.ref 104), some (.int (nI i))] [] M Q := by
  refine lj_al1 (n := 646) dL_law_645 rfl ?_
  refine lj_cV0 (n := 649) pl_0 cl_11 s0_X11_rules k_L_65 (Nat.le_of_ble_eq_true rfl) dL_law_646 rfl (lc_rules M _ h (fun M2 g1_h g2_h => ?_))
  refine lj_al2 (n := 650) dL_law_649 rfl ?_
  refine lj_cV0 (n := 653) pl_104 cl_12 s0_X12_rules k_L_68 (Nat.le_of_ble_eq_true rfl) dL_law_650 rfl (lr_rules M2 _ h.1 g2_h g1_h (fun M3 g3_h => ?_))
  exact lj_ic_eq (n := 656) 1745 dL_law_653 (by decide) rfl (fun _ => hk _ _ _ M3 g3_h) (fun z => absurd rfl z)

set_option maxRecDepth 20000 in
theorem lw_c_12 {sl i : Nat} {sx : Nat → Int32} (hi : i + 5 ≤ sl) (hsl : sl ≤ 2560) {K : sg_K} {E : sg_E} {P : Option sg_K} {M : dk_Mem} {Q : Option Value → dk_Mem → Prop} (h : dk_S K E P M) (hk : ∀ K2 E2 P2 M2, dk_S K2 E2 P2 M2 → dk_V sl sx 18 mL_law 1745 [some (.ref 300), some (.ref 0), some (.ref 104), some (.int (nI i))] [] M2 Q) : dk_V sl sx 18 mL_law 658 [some (.ref 300), some (.ref 0), some (.ref 104), some (.int (nI i))] [] M Q := by
  refine lj_al1 (n := 659) dL_law_658 rfl ?_
  refine lj_cV0 (n := 662) pl_0 cl_11 s0_X11_year k_L_69 (Nat.le_of_ble_eq_true rfl) dL_law_659 rfl (lc_year M _ h (fun M2 g1_h g2_h => ?_))
  refine lj_al2 (n := 663) dL_law_662 rfl ?_
  refine lj_cV0 (n := 666) pl_104 cl_12 s0_X12_year k_L_72 (Nat.le_of_ble_eq_true rfl) dL_law_663 rfl (lr_year M2 _ h.1 g2_h g1_h (fun M3 g3_h => ?_))
  exact lj_ic_eq (n := 669) 1745 dL_law_666 (by decide) rfl (fun _ => hk _ _ _ M3 g3_h) (fun z => absurd rfl z)

set_option maxRecDepth 20000 in
theorem lw_c_13 {sl i : Nat} {sx : Nat → Int32} (hi : i + 5 ≤ sl) (hsl : sl ≤ 2560) {K : sg_K} {E : sg_E} {P : Option sg_K} {M : dk_Mem} {Q : Option Value → dk_Mem → Prop} (h : dk_S K E P M) (hk : ∀ K2 E2 P2 M2, dk_S K2 E2 P2 M2 → dk_V sl sx 18 mL_law 1745 [some (.ref 300), some (.ref 0), some (.ref 104), some (.int (nI i))] [] M2 Q) : dk_V sl sx 18 mL_law 671 [some (.ref 300), some (.ref 0), some (.ref 104), some (.int (nI i))] [] M Q := by
  refine lj_al1 (n := 672) dL_law_671 rfl ?_
  refine lj_al0 (n := 673) dL_law_672 rfl ?_
  refine lj_il3 (n := 674) dL_law_673 rfl ?_
  refine lj_iconst (n := 675) (nI 1) dL_law_674 (by decide) rfl ?_
  refine lj_iadd (n := 676) dL_law_675 rfl ?_
  rw [nI_add]
  refine lj_sld (n := 677) (vp_in_nI (by omega) (by omega)) dL_law_676 rfl ?_
  refine lj_cV1 (n := 680) pl_0 cl_11 s0_X11_on k_L_73 (Nat.le_of_ble_eq_true rfl) dL_law_677 rfl (lc_on M _ h (fun M2 g1_h g2_h => ?_))
  refine lj_al2 (n := 681) dL_law_680 rfl ?_
  refine lj_al0 (n := 682) dL_law_681 rfl ?_
  refine lj_il3 (n := 683) dL_law_682 rfl ?_
  refine lj_iconst (n := 684) (nI 1) dL_law_683 (by decide) rfl ?_
  refine lj_iadd (n := 685) dL_law_684 rfl ?_
  rw [nI_add]
  refine lj_sld (n := 686) (vp_in_nI (by omega) (by omega)) dL_law_685 rfl ?_
  refine lj_cV1 (n := 689) pl_104 cl_12 s0_X12_on k_L_76 (Nat.le_of_ble_eq_true rfl) dL_law_686 rfl (lr_on M2 _ h.1 g2_h g1_h (fun M3 g3_h => ?_))
  exact lj_ic_eq (n := 692) 1745 dL_law_689 (by decide) rfl (fun _ => hk _ _ _ M3 g3_h) (fun z => absurd rfl z)

set_option maxRecDepth 20000 in
theorem lw_c_14 {sl i : Nat} {sx : Nat → Int32} (hi : i + 5 ≤ sl) (hsl : sl ≤ 2560) {K : sg_K} {E : sg_E} {P : Option sg_K} {M : dk_Mem} {Q : Option Value → dk_Mem → Prop} (h : dk_S K E P M) (hk : ∀ K2 E2 P2 M2, dk_S K2 E2 P2 M2 → dk_V sl sx 18 mL_law 1745 [some (.ref 300), some (.ref 0), some (.ref 104), some (.int (nI i))] [] M2 Q) : dk_V sl sx 18 mL_law 694 [some (.ref 300), some (.ref 0), some (.ref 104), some (.int (nI i))] [] M Q := by
  refine lj_al1 (n := 695) dL_law_694 rfl ?_
  refine lj_al0 (n := 696) dL_law_695 rfl ?_
  refine lj_il3 (n := 697) dL_law_696 rfl ?_
  refine lj_iconst (n := 698) (nI 1) dL_law_697 (by decide) rfl ?_
  refine lj_iadd (n := 699) dL_law_698 rfl ?_
  rw [nI_add]
  refine lj_sld (n := 700) (vp_in_nI (by omega) (by omega)) dL_law_699 rfl ?_
  refine lj_cV1 (n := 703) pl_0 cl_11 s0_X11_when k_L_77 (Nat.le_of_ble_eq_true rfl) dL_law_700 rfl (lc_when M _ h (fun M2 g1_h g2_h => ?_))
  refine lj_al2 (n := 704) dL_law_703 rfl ?_
  refine lj_al0 (n := 705) dL_law_704 rfl ?_
  refine lj_il3 (n := 706) dL_law_705 rfl ?_
  refine lj_iconst (n := 707) (nI 1) dL_law_706 (by decide) rfl ?_
  refine lj_iadd (n := 708) dL_law_707 rfl ?_
  rw [nI_add]
  refine lj_sld (n := 709) (vp_in_nI (by omega) (by omega)) dL_law_708 rfl ?_
  refine lj_cV1 (n := 712) pl_104 cl_12 s0_X12_when k_L_80 (Nat.le_of_ble_eq_true rfl) dL_law_709 rfl (lr_when M2 _ h.1 g2_h g1_h (fun M3 g3_h => ?_))
  exact lj_ic_eq (n := 715) 1745 dL_law_712 (by decide) rfl (fun _ => hk _ _ _ M3 g3_h) (fun z => absurd rfl z)

set_option maxRecDepth 20000 in
theorem lw_c_15 {sl i : Nat} {sx : Nat → Int32} (hi : i + 5 ≤ sl) (hsl : sl ≤ 2560) {K : sg_K} {E : sg_E} {P : Option sg_K} {M : dk_Mem} {Q : Option Value → dk_Mem → Prop} (h : dk_S K E P M) (hk : ∀ K2 E2 P2 M2, dk_S K2 E2 P2 M2 → dk_V sl sx 18 mL_law 1745 [some (.ref 300), some (.ref 0), some (.ref 104), some (.int (nI i))] [] M2 Q) : dk_V sl sx 18 mL_law 717 [some (.ref 300), some (.ref 0), some (.ref 104), some (.int (nI i))] [] M Q := by
  refine lj_al1 (n := 718) dL_law_717 rfl ?_
  refine lj_al0 (n := 719) dL_law_718 rfl ?_
  refine lj_il3 (n := 720) dL_law_719 rfl ?_
  refine lj_iconst (n := 721) (nI 1) dL_law_720 (by decide) rfl ?_
  refine lj_iadd (n := 722) dL_law_721 rfl ?_
  rw [nI_add]
  refine lj_sld (n := 723) (vp_in_nI (by omega) (by omega)) dL_law_722 rfl ?_
  refine lj_cV1 (n := 726) pl_0 cl_11 s0_X11_gapFor k_L_81 (Nat.le_of_ble_eq_true rfl) dL_law_723 rfl (lc_gapFor M _ h (fun M2 g1_h g2_h => ?_))
  refine lj_al2 (n := 727) dL_law_726 rfl ?_
  refine lj_al0 (n := 728) dL_law_727 rfl ?_
  refine lj_il3 (n := 729) dL_law_728 rfl ?_
  refine lj_iconst (n := 730) (nI 1) dL_law_729 (by decide) rfl ?_
  refine lj_iadd (n := 731) dL_law_730 rfl ?_
  rw [nI_add]
  refine lj_sld (n := 732) (vp_in_nI (by omega) (by omega)) dL_law_731 rfl ?_
  refine lj_cV1 (n := 735) pl_104 cl_12 s0_X12_gapFor k_L_84 (Nat.le_of_ble_eq_true rfl) dL_law_732 rfl (lr_gapFor M2 _ h.1 g2_h g1_h (fun M3 g3_h => ?_))
  exact lj_ic_eq (n := 738) 1745 dL_law_735 (by decide) rfl (fun _ => hk _ _ _ M3 g3_h) (fun z => absurd rfl z)

set_option maxRecDepth 20000 in
theorem lw_c_16 {sl i : Nat} {sx : Nat → Int32} (hi : i + 5 ≤ sl) (hsl : sl ≤ 2560) {K : sg_K} {E : sg_E} {P : Option sg_K} {M : dk_Mem} {Q : Option Value → dk_Mem → Prop} (h : dk_S K E P M) (hk : ∀ K2 E2 P2 M2, dk_S K2 E2 P2 M2 → dk_V sl sx 18 mL_law 1745 [some (.ref 300), some (.ref 0), some (.ref 104), some (.int (nI i))] [] M2 Q) : dk_V sl sx 18 mL_law 740 [some (.ref 300), some (.ref 0), some (.ref 104), some (.int (nI i))] [] M Q := by
  refine lj_al1 (n := 741) dL_law_740 rfl ?_
  refine lj_al0 (n := 742) dL_law_741 rfl ?_
  refine lj_il3 (n := 743) dL_law_742 rfl ?_
  refine lj_iconst (n := 744) (nI 1) dL_law_743 (by decide) rfl ?_
  refine lj_iadd (n := 745) dL_law_744 rfl ?_
  rw [nI_add]
  refine lj_sld (n := 746) (vp_in_nI (by omega) (by omega)) dL_law_745 rfl ?_
  refine lj_cV1 (n := 749) pl_0 cl_11 s0_X11_roomFor k_L_85 (Nat.le_of_ble_eq_true rfl) dL_law_746 rfl (lc_roomFor M _ h (fun M2 g1_h g2_h => ?_))
  refine lj_al2 (n := 750) dL_law_749 rfl ?_
  refine lj_al0 (n := 751) dL_law_750 rfl ?_
  refine lj_il3 (n := 752) dL_law_751 rfl ?_
  refine lj_iconst (n := 753) (nI 1) dL_law_752 (by decide) rfl ?_
  refine lj_iadd (n := 754) dL_law_753 rfl ?_
  rw [nI_add]
  refine lj_sld (n := 755) (vp_in_nI (by omega) (by omega)) dL_law_754 rfl ?_
  refine lj_cV1 (n := 758) pl_104 cl_12 s0_X12_roomFor k_L_88 (Nat.le_of_ble_eq_true rfl) dL_law_755 rfl (lr_roomFor M2 _ h.1 g2_h g1_h (fun M3 g3_h => ?_))
  exact lj_ic_eq (n := 761) 1745 dL_law_758 (by decide) rfl (fun _ => hk _ _ _ M3 g3_h) (fun z => absurd rfl z)

set_option maxRecDepth 20000 in
theorem lw_c_17 {sl i : Nat} {sx : Nat → Int32} (hi : i + 5 ≤ sl) (hsl : sl ≤ 2560) {K : sg_K} {E : sg_E} {P : Option sg_K} {M : dk_Mem} {Q : Option Value → dk_Mem → Prop} (h : dk_S K E P M) (hk : ∀ K2 E2 P2 M2, dk_S K2 E2 P2 M2 → dk_V sl sx 18 mL_law 1745 [some (.ref 300), some (.ref 0), some (.ref 104), some (.int (nI i))] [] M2 Q) : dk_V sl sx 18 mL_law 763 [some (.ref 300), some (.ref 0), some (.ref 104), some (.int (nI i))] [] M Q := by
  refine lj_al1 (n := 764) dL_law_763 rfl ?_
  refine lj_al0 (n := 765) dL_law_764 rfl ?_
  refine lj_il3 (n := 766) dL_law_765 rfl ?_
  refine lj_iconst (n := 767) (nI 1) dL_law_766 (by decide) rfl ?_
  refine lj_iadd (n := 768) dL_law_767 rfl ?_
  rw [nI_add]
  refine lj_sld (n := 769) (vp_in_nI (by omega) (by omega)) dL_law_768 rfl ?_
  refine lj_cV1 (n := 772) pl_0 cl_11 s0_X11_itself k_L_89 (Nat.le_of_ble_eq_true rfl) dL_law_769 rfl (lc_itself M _ h (fun M2 g1_h g2_h => ?_))
  refine lj_al2 (n := 773) dL_law_772 rfl ?_
  refine lj_al0 (n := 774) dL_law_773 rfl ?_
  refine lj_il3 (n := 775) dL_law_774 rfl ?_
  refine lj_iconst (n := 776) (nI 1) dL_law_775 (by decide) rfl ?_
  refine lj_iadd (n := 777) dL_law_776 rfl ?_
  rw [nI_add]
  refine lj_sld (n := 778) (vp_in_nI (by omega) (by omega)) dL_law_777 rfl ?_
  refine lj_cV1 (n := 781) pl_104 cl_12 s0_X12_itself k_L_92 (Nat.le_of_ble_eq_true rfl) dL_law_778 rfl (lr_itself M2 _ h.1 g2_h g1_h (fun M3 g3_h => ?_))
  exact lj_ic_eq (n := 784) 1745 dL_law_781 (by decide) rfl (fun _ => hk _ _ _ M3 g3_h) (fun z => absurd rfl z)

set_option maxRecDepth 20000 in
theorem lw_c_18 {sl i : Nat} {sx : Nat → Int32} (hi : i + 5 ≤ sl) (hsl : sl ≤ 2560) {K : sg_K} {E : sg_E} {P : Option sg_K} {M : dk_Mem} {Q : Option Value → dk_Mem → Prop} (h : dk_S K E P M) (hk : ∀ K2 E2 P2 M2, dk_S K2 E2 P2 M2 → dk_V sl sx 18 mL_law 1745 [some (.ref 300), some (.ref 0), some (.ref 104), some (.int (nI i))] [] M2 Q) : dk_V sl sx 18 mL_law 786 [some (.ref 300), some (.ref 0), some (.ref 104), some (.int (nI i))] [] M Q := by
  refine lj_al1 (n := 787) dL_law_786 rfl ?_
  refine lj_al0 (n := 788) dL_law_787 rfl ?_
  refine lj_il3 (n := 789) dL_law_788 rfl ?_
  refine lj_iconst (n := 790) (nI 1) dL_law_789 (by decide) rfl ?_
  refine lj_iadd (n := 791) dL_law_790 rfl ?_
  rw [nI_add]
  refine lj_sld (n := 792) (vp_in_nI (by omega) (by omega)) dL_law_791 rfl ?_
  refine lj_cV1 (n := 795) pl_0 cl_11 s0_X11_least k_L_93 (Nat.le_of_ble_eq_true rfl) dL_law_792 rfl (lc_least M _ h (fun M2 g1_h g2_h => ?_))
  refine lj_al2 (n := 796) dL_law_795 rfl ?_
  refine lj_al0 (n := 797) dL_law_796 rfl ?_
  refine lj_il3 (n := 798) dL_law_797 rfl ?_
  refine lj_iconst (n := 799) (nI 1) dL_law_798 (by decide) rfl ?_
  refine lj_iadd (n := 800) dL_law_799 rfl ?_
  rw [nI_add]
  refine lj_sld (n := 801) (vp_in_nI (by omega) (by omega)) dL_law_800 rfl ?_
  refine lj_cV1 (n := 804) pl_104 cl_12 s0_X12_least k_L_96 (Nat.le_of_ble_eq_true rfl) dL_law_801 rfl (lr_least M2 _ h.1 g2_h g1_h (fun M3 g3_h => ?_))
  exact lj_ic_eq (n := 807) 1745 dL_law_804 (by decide) rfl (fun _ => hk _ _ _ M3 g3_h) (fun z => absurd rfl z)

set_option maxRecDepth 20000 in
theorem lw_c_19 {sl i : Nat} {sx : Nat → Int32} (hi : i + 5 ≤ sl) (hsl : sl ≤ 2560) {K : sg_K} {E : sg_E} {P : Option sg_K} {M : dk_Mem} {Q : Option Value → dk_Mem → Prop} (h : dk_S K E P M) (hk : ∀ K2 E2 P2 M2, dk_S K2 E2 P2 M2 → dk_V sl sx 18 mL_law 1745 [some (.ref 300), some (.ref 0), some (.ref 104), some (.int (nI i))] [] M2 Q) : dk_V sl sx 18 mL_law 809 [some (.ref 300), some (.ref 0), some (.ref 104), some (.int (nI i))] [] M Q := by
  refine lj_al1 (n := 810) dL_law_809 rfl ?_
  refine lj_al0 (n := 811) dL_law_810 rfl ?_
  refine lj_il3 (n := 812) dL_law_811 rfl ?_
  refine lj_iconst (n := 813) (nI 1) dL_law_812 (by decide) rfl ?_
  refine lj_iadd (n := 814) dL_law_813 rfl ?_
  rw [nI_add]
  refine lj_sld (n := 815) (vp_in_nI (by omega) (by omega)) dL_law_814 rfl ?_
  refine lj_al0 (n := 816) dL_law_815 rfl ?_
  refine lj_il3 (n := 817) dL_law_816 rfl ?_
  refine lj_iconst (n := 818) (nI 2) dL_law_817 (by decide) rfl ?_
  refine lj_iadd (n := 819) dL_law_818 rfl ?_
  rw [nI_add]
  refine lj_sld (n := 820) (vp_in_nI (by omega) (by omega)) dL_law_819 rfl ?_
  refine lj_cV2 (n := 823) pl_0 cl_11 s0_X11_wave k_L_97 (Nat.le_of_ble_eq_true rfl) dL_law_820 rfl (lc_wave M _ h (fun M2 g1_h g2_h => ?_))
  refine lj_al2 (n := 824) dL_law_823 rfl ?_
  refine lj_al0 (n := 825) dL_law_824 rfl ?_
  refine lj_il3 (n := 826) dL_law_825 rfl ?_
  refine lj_iconst (n := 827) (nI 1) dL_law_826 (by decide) rfl ?_
  refine lj_iadd (n := 828) dL_law_827 rfl ?_
  rw [nI_add]
  refine lj_sld (n := 829) (vp_in_nI (by omega) (by omega)) dL_law_828 rfl ?_
  refine lj_al0 (n := 830) dL_law_829 rfl ?_
  refine lj_il3 (n := 831) dL_law_830 rfl ?_
  refine lj_iconst (n := 832) (nI 2) dL_law_831 (by decide) rfl ?_
  refine lj_iadd (n := 833) dL_law_832 rfl ?_
  rw [nI_add]
  refine lj_sld (n := 834) (vp_in_nI (by omega) (by omega)) dL_law_833 rfl ?_
  refine lj_cV2 (n := 837) pl_104 cl_12 s0_X12_wave k_L_100 (Nat.le_of_ble_eq_true rfl) dL_law_834 rfl (lr_wave M2 _ h.1 g2_h g1_h (fun M3 g3_h => ?_))
  exact lj_ic_eq (n := 840) 1745 dL_law_837 (by decide) rfl (fun _ => hk _ _ _ M3 g3_h) (fun z => absurd rfl z)

set_option maxRecDepth 20000 in
theorem lw_c_20 {sl i : Nat} {sx : Nat → Int32} (hi : i + 5 ≤ sl) (hsl : sl ≤ 2560) {K : sg_K} {E : sg_E} {P : Option sg_K} {M : dk_Mem} {Q : Option Value → dk_Mem → Prop} (h : dk_S K E P M) (hk : ∀ K2 E2 P2 M2, dk_S K2 E2 P2 M2 → dk_V sl sx 18 mL_law 1745 [some (.ref 300), some (.ref 0), some (.ref 104), some (.int (nI i))] [] M2 Q) : dk_V sl sx 18 mL_law 842 [some (.ref 300), some (.ref 0), some (.ref 104), some (.int (nI i))] [] M Q := by
  refine lj_al1 (n := 843) dL_law_842 rfl ?_
  refine lj_al0 (n := 844) dL_law_843 rfl ?_
  refine lj_il3 (n := 845) dL_law_844 rfl ?_
  refine lj_iconst (n := 846) (nI 1) dL_law_845 (by decide) rfl ?_
  refine lj_iadd (n := 847) dL_law_846 rfl ?_
  rw [nI_add]
  refine lj_sld (n := 848) (vp_in_nI (by omega) (by omega)) dL_law_847 rfl ?_
  refine lj_cV1 (n := 851) pl_0 cl_11 s0_X11_chains k_L_101 (Nat.le_of_ble_eq_true rfl) dL_law_848 rfl (lc_chains M _ h (fun M2 g1_h g2_h => ?_))
  refine lj_al2 (n := 852) dL_law_851 rfl ?_
  refine lj_al0 (n := 853) dL_law_852 rfl ?_
  refine lj_il3 (n := 854) dL_law_853 rfl ?_
  refine lj_iconst (n := 855) (nI 1) dL_law_854 (by decide) rfl ?_
  refine lj_iadd (n := 856) dL_law_855 rfl ?_
  rw [nI_add]
  refine lj_sld (n := 857) (vp_in_nI (by omega) (by omega)) dL_law_856 rfl ?_
  refine lj_cV1 (n := 860) pl_104 cl_12 s0_X12_chains k_L_104 (Nat.le_of_ble_eq_true rfl) dL_law_857 rfl (lr_chains M2 _ h.1 g2_h g1_h (fun M3 g3_h => ?_))
  exact lj_ic_eq (n := 863) 1745 dL_law_860 (by decide) rfl (fun _ => hk _ _ _ M3 g3_h) (fun z => absurd rfl z)

set_option maxRecDepth 20000 in
theorem lw_c_21 {sl i : Nat} {sx : Nat → Int32} (hi : i + 5 ≤ sl) (hsl : sl ≤ 2560) {K : sg_K} {E : sg_E} {P : Option sg_K} {M : dk_Mem} {Q : Option Value → dk_Mem → Prop} (h : dk_S K E P M) (hk : ∀ K2 E2 P2 M2, dk_S K2 E2 P2 M2 → dk_V sl sx 18 mL_law 1745 [some (.ref 300), some (.ref 0), some (.ref 104), some (.int (nI i))] [] M2 Q) : dk_V sl sx 18 mL_law 865 [some (.ref 300), some (.ref 0), some (.ref 104), some (.int (nI i))] [] M Q := by
  refine lj_al1 (n := 866) dL_law_865 rfl ?_
  refine lj_al0 (n := 867) dL_law_866 rfl ?_
  refine lj_il3 (n := 868) dL_law_867 rfl ?_
  refine lj_iconst (n := 869) (nI 1) dL_law_868 (by decide) rfl ?_
  refine lj_iadd (n := 870) dL_law_869 rfl ?_
  rw [nI_add]
  refine lj_sld (n := 871) (vp_in_nI (by omega) (by omega)) dL_law_870 rfl ?_
  refine lj_cV1 (n := 874) pl_0 cl_11 s0_X11_best k_L_105 (Nat.le_of_ble_eq_true rfl) dL_law_871 rfl (lc_best M _ h (fun M2 g1_h g2_h => ?_))
  refine lj_al2 (n := 875) dL_law_874 rfl ?_
  refine lj_al0 (n := 876) dL_law_875 rfl ?_
  refine lj_il3 (n := 877) dL_law_876 rfl ?_
  refine lj_iconst (n := 878) (nI 1) dL_law_877 (by decide) rfl ?_
  refine lj_iadd (n := 879) dL_law_878 rfl ?_
  rw [nI_add]
  refine lj_sld (n := 880) (vp_in_nI (by omega) (by omega)) dL_law_879 rfl ?_
  refine lj_cV1 (n := 883) pl_104 cl_12 s0_X12_best k_L_108 (Nat.le_of_ble_eq_true rfl) dL_law_880 rfl (lr_best M2 _ h.1 g2_h g1_h (fun M3 g3_h => ?_))
  exact lj_ic_eq (n := 886) 1745 dL_law_883 (by decide) rfl (fun _ => hk _ _ _ M3 g3_h) (fun z => absurd rfl z)

set_option maxRecDepth 20000 in
theorem lw_c_22 {sl i : Nat} {sx : Nat → Int32} (hi : i + 5 ≤ sl) (hsl : sl ≤ 2560) {K : sg_K} {E : sg_E} {P : Option sg_K} {M : dk_Mem} {Q : Option Value → dk_Mem → Prop} (h : dk_S K E P M) (hk : ∀ K2 E2 P2 M2, dk_S K2 E2 P2 M2 → dk_V sl sx 18 mL_law 1745 [some (.ref 300), some (.ref 0), some (.ref 104), some (.int (nI i))] [] M2 Q) : dk_V sl sx 18 mL_law 888 [some (.ref 300), some (.ref 0), some (.ref 104), some (.int (nI i))] [] M Q := by
  refine lj_al1 (n := 889) dL_law_888 rfl ?_
  refine lj_al0 (n := 890) dL_law_889 rfl ?_
  refine lj_il3 (n := 891) dL_law_890 rfl ?_
  refine lj_iconst (n := 892) (nI 1) dL_law_891 (by decide) rfl ?_
  refine lj_iadd (n := 893) dL_law_892 rfl ?_
  rw [nI_add]
  refine lj_sld (n := 894) (vp_in_nI (by omega) (by omega)) dL_law_893 rfl ?_
  refine lj_al0 (n := 895) dL_law_894 rfl ?_
  refine lj_il3 (n := 896) dL_law_895 rfl ?_
  refine lj_iconst (n := 897) (nI 2) dL_law_896 (by decide) rfl ?_
  refine lj_iadd (n := 898) dL_law_897 rfl ?_
  rw [nI_add]
  refine lj_sld (n := 899) (vp_in_nI (by omega) (by omega)) dL_law_898 rfl ?_
  refine lj_cV2 (n := 902) pl_0 cl_11 s0_X11_ith k_L_109 (Nat.le_of_ble_eq_true rfl) dL_law_899 rfl (lc_ith M _ h (fun M2 g1_h g2_h => ?_))
  refine lj_al2 (n := 903) dL_law_902 rfl ?_
  refine lj_al0 (n := 904) dL_law_903 rfl ?_
  refine lj_il3 (n := 905) dL_law_904 rfl ?_
  refine lj_iconst (n := 906) (nI 1) dL_law_905 (by decide) rfl ?_
  refine lj_iadd (n := 907) dL_law_906 rfl ?_
  rw [nI_add]
  refine lj_sld (n := 908) (vp_in_nI (by omega) (by omega)) dL_law_907 rfl ?_
  refine lj_al0 (n := 909) dL_law_908 rfl ?_
  refine lj_il3 (n := 910) dL_law_909 rfl ?_
  refine lj_iconst (n := 911) (nI 2) dL_law_910 (by decide) rfl ?_
  refine lj_iadd (n := 912) dL_law_911 rfl ?_
  rw [nI_add]
  refine lj_sld (n := 913) (vp_in_nI (by omega) (by omega)) dL_law_912 rfl ?_
  refine lj_cV2 (n := 916) pl_104 cl_12 s0_X12_ith k_L_112 (Nat.le_of_ble_eq_true rfl) dL_law_913 rfl (lr_ith M2 _ h.1 g2_h g1_h (fun M3 g3_h => ?_))
  exact lj_ic_eq (n := 919) 1745 dL_law_916 (by decide) rfl (fun _ => hk _ _ _ M3 g3_h) (fun z => absurd rfl z)

set_option maxRecDepth 20000 in
theorem lw_c_23 {sl i : Nat} {sx : Nat → Int32} (hi : i + 5 ≤ sl) (hsl : sl ≤ 2560) {K : sg_K} {E : sg_E} {P : Option sg_K} {M : dk_Mem} {Q : Option Value → dk_Mem → Prop} (h : dk_S K E P M) (hk : ∀ K2 E2 P2 M2, dk_S K2 E2 P2 M2 → dk_V sl sx 18 mL_law 1745 [some (.ref 300), some (.ref 0), some (.ref 104), some (.int (nI i))] [] M2 Q) : dk_V sl sx 18 mL_law 921 [some (.ref 300), some (.ref 0), some (.ref 104), some (.int (nI i))] [] M Q := by
  refine lj_al1 (n := 922) dL_law_921 rfl ?_
  refine lj_al0 (n := 923) dL_law_922 rfl ?_
  refine lj_il3 (n := 924) dL_law_923 rfl ?_
  refine lj_iconst (n := 925) (nI 1) dL_law_924 (by decide) rfl ?_
  refine lj_iadd (n := 926) dL_law_925 rfl ?_
  rw [nI_add]
  refine lj_sld (n := 927) (vp_in_nI (by omega) (by omega)) dL_law_926 rfl ?_
  refine lj_cV1 (n := 930) pl_0 cl_11 s0_X11_ways k_L_113 (Nat.le_of_ble_eq_true rfl) dL_law_927 rfl (lc_ways M _ h (fun M2 g1_h g2_h => ?_))
  refine lj_al2 (n := 931) dL_law_930 rfl ?_
  refine lj_al0 (n := 932) dL_law_931 rfl ?_
  refine lj_il3 (n := 933) dL_law_932 rfl ?_
  refine lj_iconst (n := 934) (nI 1) dL_law_933 (by decide) rfl ?_
  refine lj_iadd (n := 935) dL_law_934 rfl ?_
  rw [nI_add]
  refine lj_sld (n := 936) (vp_in_nI (by omega) (by omega)) dL_law_935 rfl ?_
  refine lj_cV1 (n := 939) pl_104 cl_12 s0_X12_ways k_L_116 (Nat.le_of_ble_eq_true rfl) dL_law_936 rfl (lr_ways M2 _ h.1 g2_h g1_h (fun M3 g3_h => ?_))
  exact lj_ic_eq (n := 942) 1745 dL_law_939 (by decide) rfl (fun _ => hk _ _ _ M3 g3_h) (fun z => absurd rfl z)

set_option maxRecDepth 20000 in
theorem lw_c_24 {sl i : Nat} {sx : Nat → Int32} (hi : i + 5 ≤ sl) (hsl : sl ≤ 2560) {K : sg_K} {E : sg_E} {P : Option sg_K} {M : dk_Mem} {Q : Option Value → dk_Mem → Prop} (h : dk_S K E P M) (hk : ∀ K2 E2 P2 M2, dk_S K2 E2 P2 M2 → dk_V sl sx 18 mL_law 1745 [some (.ref 300), some (.ref 0), some (.ref 104), some (.int (nI i))] [] M2 Q) : dk_V sl sx 18 mL_law 944 [some (.ref 300), some (.ref 0), some (.ref 104), some (.int (nI i))] [] M Q := by
  refine lj_al1 (n := 945) dL_law_944 rfl ?_
  refine lj_al0 (n := 946) dL_law_945 rfl ?_
  refine lj_il3 (n := 947) dL_law_946 rfl ?_
  refine lj_iconst (n := 948) (nI 1) dL_law_947 (by decide) rfl ?_
  refine lj_iadd (n := 949) dL_law_948 rfl ?_
  rw [nI_add]
  refine lj_sld (n := 950) (vp_in_nI (by omega) (by omega)) dL_law_949 rfl ?_
  refine lj_al0 (n := 951) dL_law_950 rfl ?_
  refine lj_il3 (n := 952) dL_law_951 rfl ?_
  refine lj_iconst (n := 953) (nI 2) dL_law_952 (by decide) rfl ?_
  refine lj_iadd (n := 954) dL_law_953 rfl ?_
  rw [nI_add]
  refine lj_sld (n := 955) (vp_in_nI (by omega) (by omega)) dL_law_954 rfl ?_
  refine lj_cV2 (n := 958) pl_0 cl_11 s0_X11_line k_L_117 (Nat.le_of_ble_eq_true rfl) dL_law_955 rfl (lc_line M _ h (fun M2 g1_h g2_h => ?_))
  refine lj_al2 (n := 959) dL_law_958 rfl ?_
  refine lj_al0 (n := 960) dL_law_959 rfl ?_
  refine lj_il3 (n := 961) dL_law_960 rfl ?_
  refine lj_iconst (n := 962) (nI 1) dL_law_961 (by decide) rfl ?_
  refine lj_iadd (n := 963) dL_law_962 rfl ?_
  rw [nI_add]
  refine lj_sld (n := 964) (vp_in_nI (by omega) (by omega)) dL_law_963 rfl ?_
  refine lj_al0 (n := 965) dL_law_964 rfl ?_
  refine lj_il3 (n := 966) dL_law_965 rfl ?_
  refine lj_iconst (n := 967) (nI 2) dL_law_966 (by decide) rfl ?_
  refine lj_iadd (n := 968) dL_law_967 rfl ?_
  rw [nI_add]
  refine lj_sld (n := 969) (vp_in_nI (by omega) (by omega)) dL_law_968 rfl ?_
  refine lj_cV2 (n := 972) pl_104 cl_12 s0_X12_line k_L_120 (Nat.le_of_ble_eq_true rfl) dL_law_969 rfl (lr_line M2 _ h.1 g2_h g1_h (fun M3 g3_h => ?_))
  exact lj_ic_eq (n := 975) 1745 dL_law_972 (by decide) rfl (fun _ => hk _ _ _ M3 g3_h) (fun z => absurd rfl z)

set_option maxRecDepth 20000 in
theorem lw_c_25 {sl i : Nat} {sx : Nat → Int32} (hi : i + 5 ≤ sl) (hsl : sl ≤ 2560) {K : sg_K} {E : sg_E} {P : Option sg_K} {M : dk_Mem} {Q : Option Value → dk_Mem → Prop} (h : dk_S K E P M) (hk : ∀ K2 E2 P2 M2, dk_S K2 E2 P2 M2 → dk_V sl sx 18 mL_law 1745 [some (.ref 300), some (.ref 0), some (.ref 104), some (.int (nI i))] [] M2 Q) : dk_V sl sx 18 mL_law 977 [some (.ref 300), some (.ref 0), some (.ref 104), some (.int (nI i))] [] M Q := by
  refine lj_al1 (n := 978) dL_law_977 rfl ?_
  refine lj_al0 (n := 979) dL_law_978 rfl ?_
  refine lj_il3 (n := 980) dL_law_979 rfl ?_
  refine lj_iconst (n := 981) (nI 1) dL_law_980 (by decide) rfl ?_
  refine lj_iadd (n := 982) dL_law_981 rfl ?_
  rw [nI_add]
  refine lj_sld (n := 983) (vp_in_nI (by omega) (by omega)) dL_law_982 rfl ?_
  refine lj_al0 (n := 984) dL_law_983 rfl ?_
  refine lj_il3 (n := 985) dL_law_984 rfl ?_
  refine lj_iconst (n := 986) (nI 2) dL_law_985 (by decide) rfl ?_
  refine lj_iadd (n := 987) dL_law_986 rfl ?_
  rw [nI_add]
  refine lj_sld (n := 988) (vp_in_nI (by omega) (by omega)) dL_law_987 rfl ?_
  refine lj_cV2 (n := 991) pl_0 cl_11 s0_X11_bars k_L_121 (Nat.le_of_ble_eq_true rfl) dL_law_988 rfl (lc_bars M _ h (fun M2 g1_h g2_h => ?_))
  refine lj_al2 (n := 992) dL_law_991 rfl ?_
  refine lj_al0 (n := 993) dL_law_992 rfl ?_
  refine lj_il3 (n := 994) dL_law_993 rfl ?_
  refine lj_iconst (n := 995) (nI 1) dL_law_994 (by decide) rfl ?_
  refine lj_iadd (n := 996) dL_law_995 rfl ?_
  rw [nI_add]
  refine lj_sld (n := 997) (vp_in_nI (by omega) (by omega)) dL_law_996 rfl ?_
  refine lj_al0 (n := 998) dL_law_997 rfl ?_
  refine lj_il3 (n := 999) dL_law_998 rfl ?_
  refine lj_iconst (n := 1000) (nI 2) dL_law_999 (by decide) rfl ?_
  refine lj_iadd (n := 1001) dL_law_1000 rfl ?_
  rw [nI_add]
  refine lj_sld (n := 1002) (vp_in_nI (by omega) (by omega)) dL_law_1001 rfl ?_
  refine lj_cV2 (n := 1005) pl_104 cl_12 s0_X12_bars k_L_124 (Nat.le_of_ble_eq_true rfl) dL_law_1002 rfl (lr_bars M2 _ h.1 g2_h g1_h (fun M3 g3_h => ?_))
  exact lj_ic_eq (n := 1008) 1745 dL_law_1005 (by decide) rfl (fun _ => hk _ _ _ M3 g3_h) (fun z => absurd rfl z)

set_option maxRecDepth 20000 in
theorem lw_c_26 {sl i : Nat} {sx : Nat → Int32} (hi : i + 5 ≤ sl) (hsl : sl ≤ 2560) {K : sg_K} {E : sg_E} {P : Option sg_K} {M : dk_Mem} {Q : Option Value → dk_Mem → Prop} (h : dk_S K E P M) (hk : ∀ K2 E2 P2 M2, dk_S K2 E2 P2 M2 → dk_V sl sx 18 mL_law 1745 [some (.ref 300), some (.ref 0), some (.ref 104), some (.int (nI i))] [] M2 Q) : dk_V sl sx 18 mL_law 1010 [some (.ref 300), some (.ref 0), some (.ref 104), some (.int (nI i))] [] M Q := by
  refine lj_al1 (n := 1011) dL_law_1010 rfl ?_
  refine lj_al0 (n := 1012) dL_law_1011 rfl ?_
  refine lj_il3 (n := 1013) dL_law_1012 rfl ?_
  refine lj_iconst (n := 1014) (nI 1) dL_law_1013 (by decide) rfl ?_
  refine lj_iadd (n := 1015) dL_law_1014 rfl ?_
  rw [nI_add]
  refine lj_sld (n := 1016) (vp_in_nI (by omega) (by omega)) dL_law_1015 rfl ?_
  refine lj_cV1 (n := 1019) pl_0 cl_11 s0_X11_game k_L_125 (Nat.le_of_ble_eq_true rfl) dL_law_1016 rfl (lc_game M _ h (fun M2 g1_h g2_h => ?_))
  refine lj_al2 (n := 1020) dL_law_1019 rfl ?_
  refine lj_al0 (n := 1021) dL_law_1020 rfl ?_
  refine lj_il3 (n := 1022) dL_law_1021 rfl ?_
  refine lj_iconst (n := 1023) (nI 1) dL_law_1022 (by decide) rfl ?_
  refine lj_iadd (n := 1024) dL_law_1023 rfl ?_
  rw [nI_add]
  refine lj_sld (n := 1025) (vp_in_nI (by omega) (by omega)) dL_law_1024 rfl ?_
  refine lj_cV1 (n := 1028) pl_104 cl_12 s0_X12_game k_L_128 (Nat.le_of_ble_eq_true rfl) dL_law_1025 rfl (lr_game M2 _ h.1 g2_h g1_h (fun M3 g3_h => ?_))
  exact lj_ic_eq (n := 1031) 1745 dL_law_1028 (by decide) rfl (fun _ => hk _ _ _ M3 g3_h) (fun z => absurd rfl z)

set_option maxRecDepth 20000 in
theorem lw_c_27 {sl i : Nat} {sx : Nat → Int32} (hi : i + 5 ≤ sl) (hsl : sl ≤ 2560) {K : sg_K} {E : sg_E} {P : Option sg_K} {M : dk_Mem} {Q : Option Value → dk_Mem → Prop} (h : dk_S K E P M) (hk : ∀ K2 E2 P2 M2, dk_S K2 E2 P2 M2 → dk_V sl sx 18 mL_law 1745 [some (.ref 300), some (.ref 0), some (.ref 104), some (.int (nI i))] [] M2 Q) : dk_V sl sx 18 mL_law 1033 [some (.ref 300), some (.ref 0), some (.ref 104), some (.int (nI i))] [] M Q := by
  refine lj_al1 (n := 1034) dL_law_1033 rfl ?_
  refine lj_al0 (n := 1035) dL_law_1034 rfl ?_
  refine lj_il3 (n := 1036) dL_law_1035 rfl ?_
  refine lj_iconst (n := 1037) (nI 1) dL_law_1036 (by decide) rfl ?_
  refine lj_iadd (n := 1038) dL_law_1037 rfl ?_
  rw [nI_add]
  refine lj_sld (n := 1039) (vp_in_nI (by omega) (by omega)) dL_law_1038 rfl ?_
  refine lj_cV1 (n := 1042) pl_0 cl_11 s0_X11_play k_L_129 (Nat.le_of_ble_eq_true rfl) dL_law_1039 rfl (lc_play M _ h (fun M2 g1_h g2_h => ?_))
  refine lj_al2 (n := 1043) dL_law_1042 rfl ?_
  refine lj_al0 (n := 1044) dL_law_1043 rfl ?_
  refine lj_il3 (n := 1045) dL_law_1044 rfl ?_
  refine lj_iconst (n := 1046) (nI 1) dL_law_1045 (by decide) rfl ?_
  refine lj_iadd (n := 1047) dL_law_1046 rfl ?_
  rw [nI_add]
  refine lj_sld (n := 1048) (vp_in_nI (by omega) (by omega)) dL_law_1047 rfl ?_
  refine lj_cV1 (n := 1051) pl_104 cl_12 s0_X12_play k_L_132 (Nat.le_of_ble_eq_true rfl) dL_law_1048 rfl (lr_play M2 _ h.1 g2_h g1_h (fun M3 g3_h => ?_))
  exact lj_ic_eq (n := 1054) 1745 dL_law_1051 (by decide) rfl (fun _ => hk _ _ _ M3 g3_h) (fun z => absurd rfl z)

set_option maxRecDepth 20000 in
theorem lw_c_28 {sl i : Nat} {sx : Nat → Int32} (hi : i + 5 ≤ sl) (hsl : sl ≤ 2560) {K : sg_K} {E : sg_E} {P : Option sg_K} {M : dk_Mem} {Q : Option Value → dk_Mem → Prop} (h : dk_S K E P M) (hk : ∀ K2 E2 P2 M2, dk_S K2 E2 P2 M2 → dk_V sl sx 18 mL_law 1745 [some (.ref 300), some (.ref 0), some (.ref 104), some (.int (nI i))] [] M2 Q) : dk_V sl sx 18 mL_law 1056 [some (.ref 300), some (.ref 0), some (.ref 104), some (.int (nI i))] [] M Q := by
  refine lj_al1 (n := 1057) dL_law_1056 rfl ?_
  refine lj_al0 (n := 1058) dL_law_1057 rfl ?_
  refine lj_il3 (n := 1059) dL_law_1058 rfl ?_
  refine lj_iconst (n := 1060) (nI 1) dL_law_1059 (by decide) rfl ?_
  refine lj_iadd (n := 1061) dL_law_1060 rfl ?_
  rw [nI_add]
  refine lj_sld (n := 1062) (vp_in_nI (by omega) (by omega)) dL_law_1061 rfl ?_
  refine lj_al0 (n := 1063) dL_law_1062 rfl ?_
  refine lj_il3 (n := 1064) dL_law_1063 rfl ?_
  refine lj_iconst (n := 1065) (nI 2) dL_law_1064 (by decide) rfl ?_
  refine lj_iadd (n := 1066) dL_law_1065 rfl ?_
  rw [nI_add]
  refine lj_sld (n := 1067) (vp_in_nI (by omega) (by omega)) dL_law_1066 rfl ?_
  refine lj_al0 (n := 1068) dL_law_1067 rfl ?_
  refine lj_il3 (n := 1069) dL_law_1068 rfl ?_
  refine lj_iconst (n := 1070) (nI 3) dL_law_1069 (by decide) rfl ?_
  refine lj_iadd (n := 1071) dL_law_1070 rfl ?_
  rw [nI_add]
  refine lj_sld (n := 1072) (vp_in_nI (by omega) (by omega)) dL_law_1071 rfl ?_
  refine lj_al0 (n := 1073) dL_law_1072 rfl ?_
  refine lj_il3 (n := 1074) dL_law_1073 rfl ?_
  refine lj_iconst (n := 1075) (nI 4) dL_law_1074 (by decide) rfl ?_
  refine lj_iadd (n := 1076) dL_law_1075 rfl ?_
  rw [nI_add]
  refine lj_sld (n := 1077) (vp_in_nI (by omega) (by omega)) dL_law_1076 rfl ?_
  refine lj_cV4 (n := 1080) pl_0 cl_11 s0_X11_report k_L_133 (Nat.le_of_ble_eq_true rfl) dL_law_1077 rfl (lc_report M _ h (fun M2 g1_h g2_h => ?_))
  refine lj_al2 (n := 1081) dL_law_1080 rfl ?_
  refine lj_al0 (n := 1082) dL_law_1081 rfl ?_
  refine lj_il3 (n := 1083) dL_law_1082 rfl ?_
  refine lj_iconst (n := 1084) (nI 1) dL_law_1083 (by decide) rfl ?_
  refine lj_iadd (n := 1085) dL_law_1084 rfl ?_
  rw [nI_add]
  refine lj_sld (n := 1086) (vp_in_nI (by omega) (by omega)) dL_law_1085 rfl ?_
  refine lj_al0 (n := 1087) dL_law_1086 rfl ?_
  refine lj_il3 (n := 1088) dL_law_1087 rfl ?_
  refine lj_iconst (n := 1089) (nI 2) dL_law_1088 (by decide) rfl ?_
  refine lj_iadd (n := 1090) dL_law_1089 rfl ?_
  rw [nI_add]
  refine lj_sld (n := 1091) (vp_in_nI (by omega) (by omega)) dL_law_1090 rfl ?_
  refine lj_al0 (n := 1092) dL_law_1091 rfl ?_
  refine lj_il3 (n := 1093) dL_law_1092 rfl ?_
  refine lj_iconst (n := 1094) (nI 3) dL_law_1093 (by decide) rfl ?_
  refine lj_iadd (n := 1095) dL_law_1094 rfl ?_
  rw [nI_add]
  refine lj_sld (n := 1096) (vp_in_nI (by omega) (by omega)) dL_law_1095 rfl ?_
  refine lj_al0 (n := 1097) dL_law_1096 rfl ?_
  refine lj_il3 (n := 1098) dL_law_1097 rfl ?_
  refine lj_iconst (n := 1099) (nI 4) dL_law_1098 (by decide) rfl ?_
  refine lj_iadd (n := 1100) dL_law_1099 rfl ?_
  rw [nI_add]
  refine lj_sld (n := 1101) (vp_in_nI (by omega) (by omega)) dL_law_1100 rfl ?_
  refine lj_cV4 (n := 1104) pl_104 cl_12 s0_X12_report k_L_136 (Nat.le_of_ble_eq_true rfl) dL_law_1101 rfl (lr_report M2 _ h.1 g2_h g1_h (fun M3 g3_h => ?_))
  exact lj_ic_eq (n := 1107) 1745 dL_law_1104 (by decide) rfl (fun _ => hk _ _ _ M3 g3_h) (fun z => absurd rfl z)

set_option maxRecDepth 20000 in
theorem lw_c_29 {sl i : Nat} {sx : Nat → Int32} (hi : i + 5 ≤ sl) (hsl : sl ≤ 2560) {K : sg_K} {E : sg_E} {P : Option sg_K} {M : dk_Mem} {Q : Option Value → dk_Mem → Prop} (h : dk_S K E P M) (hk : ∀ K2 E2 P2 M2, dk_S K2 E2 P2 M2 → dk_V sl sx 18 mL_law 1745 [some (.ref 300), some (.ref 0), some (.ref 104), some (.int (nI i))] [] M2 Q) : dk_V sl sx 18 mL_law 1109 [some (.ref 300), some (.ref 0), some (.ref 104), some (.int (nI i))] [] M Q := by
  refine lj_al1 (n := 1110) dL_law_1109 rfl ?_
  refine lj_cV0 (n := 1113) pl_0 cl_11 s0_X11_forget k_L_137 (Nat.le_of_ble_eq_true rfl) dL_law_1110 rfl (lc_forget M _ h (fun M2 g1_h g2_h => ?_))
  refine lj_al2 (n := 1114) dL_law_1113 rfl ?_
  refine lj_cV0 (n := 1117) pl_104 cl_12 s0_X12_forget k_L_140 (Nat.le_of_ble_eq_true rfl) dL_law_1114 rfl (lr_forget M2 _ h.1 g2_h g1_h (fun M3 g3_h => ?_))
  exact lj_ic_eq (n := 1120) 1745 dL_law_1117 (by decide) rfl (fun _ => hk _ _ _ M3 g3_h) (fun z => absurd rfl z)

set_option maxRecDepth 20000 in
theorem lw_c_30 {sl i : Nat} {sx : Nat → Int32} (hi : i + 5 ≤ sl) (hsl : sl ≤ 2560) {K : sg_K} {E : sg_E} {P : Option sg_K} {M : dk_Mem} {Q : Option Value → dk_Mem → Prop} (h : dk_S K E P M) (hk : ∀ K2 E2 P2 M2, dk_S K2 E2 P2 M2 → dk_V sl sx 18 mL_law 1745 [some (.ref 300), some (.ref 0), some (.ref 104), some (.int (nI i))] [] M2 Q) : dk_V sl sx 18 mL_law 1122 [some (.ref 300), some (.ref 0), some (.ref 104), some (.int (nI i))] [] M Q := by
  refine lj_al1 (n := 1123) dL_law_1122 rfl ?_
  refine lj_al0 (n := 1124) dL_law_1123 rfl ?_
  refine lj_il3 (n := 1125) dL_law_1124 rfl ?_
  refine lj_iconst (n := 1126) (nI 1) dL_law_1125 (by decide) rfl ?_
  refine lj_iadd (n := 1127) dL_law_1126 rfl ?_
  rw [nI_add]
  refine lj_sld (n := 1128) (vp_in_nI (by omega) (by omega)) dL_law_1127 rfl ?_
  refine lj_cV1 (n := 1131) pl_0 cl_11 s0_X11_lone k_L_141 (Nat.le_of_ble_eq_true rfl) dL_law_1128 rfl (lc_lone M _ h (fun M2 g1_h g2_h => ?_))
  refine lj_al2 (n := 1132) dL_law_1131 rfl ?_
  refine lj_al0 (n := 1133) dL_law_1132 rfl ?_
  refine lj_il3 (n := 1134) dL_law_1133 rfl ?_
  refine lj_iconst (n := 1135) (nI 1) dL_law_1134 (by decide) rfl ?_
  refine lj_iadd (n := 1136) dL_law_1135 rfl ?_
  rw [nI_add]
  refine lj_sld (n := 1137) (vp_in_nI (by omega) (by omega)) dL_law_1136 rfl ?_
  refine lj_cV1 (n := 1140) pl_104 cl_12 s0_X12_lone k_L_144 (Nat.le_of_ble_eq_true rfl) dL_law_1137 rfl (lr_lone M2 _ h.1 g2_h g1_h (fun M3 g3_h => ?_))
  exact lj_ic_eq (n := 1143) 1745 dL_law_1140 (by decide) rfl (fun _ => hk _ _ _ M3 g3_h) (fun z => absurd rfl z)

set_option maxRecDepth 20000 in
theorem lw_c_31 {sl i : Nat} {sx : Nat → Int32} (hi : i + 5 ≤ sl) (hsl : sl ≤ 2560) {K : sg_K} {E : sg_E} {P : Option sg_K} {M : dk_Mem} {Q : Option Value → dk_Mem → Prop} (h : dk_S K E P M) (hk : ∀ K2 E2 P2 M2, dk_S K2 E2 P2 M2 → dk_V sl sx 18 mL_law 1745 [some (.ref 300), some (.ref 0), some (.ref 104), some (.int (nI i))] [] M2 Q) : dk_V sl sx 18 mL_law 1145 [some (.ref 300), some (.ref 0), some (.ref 104), some (.int (nI i))] [] M Q := by
  refine lj_al1 (n := 1146) dL_law_1145 rfl ?_
  refine lj_cV0 (n := 1149) pl_0 cl_11 s0_X11_liar k_L_145 (Nat.le_of_ble_eq_true rfl) dL_law_1146 rfl (lc_liar M _ h (fun M2 g1_h g2_h => ?_))
  refine lj_al2 (n := 1150) dL_law_1149 rfl ?_
  refine lj_cV0 (n := 1153) pl_104 cl_12 s0_X12_liar k_L_148 (Nat.le_of_ble_eq_true rfl) dL_law_1150 rfl (lr_liar M2 _ h.1 g2_h g1_h (fun M3 g3_h => ?_))
  exact lj_ic_eq (n := 1156) 1745 dL_law_1153 (by decide) rfl (fun _ => hk _ _ _ M3 g3_h) (fun z => absurd rfl z)

set_option maxRecDepth 20000 in
theorem lw_c_32 {sl i : Nat} {sx : Nat → Int32} (hi : i + 5 ≤ sl) (hsl : sl ≤ 2560) {K : sg_K} {E : sg_E} {P : Option sg_K} {M : dk_Mem} {Q : Option Value → dk_Mem → Prop} (h : dk_S K E P M) (hk : ∀ K2 E2 P2 M2, dk_S K2 E2 P2 M2 → dk_V sl sx 18 mL_law 1745 [some (.ref 300), some (.ref 0), some (.ref 104), some (.int (nI i))] [] M2 Q) : dk_V sl sx 18 mL_law 1158 [some (.ref 300), some (.ref 0), some (.ref 104), some (.int (nI i))] [] M Q := by
  refine lj_al1 (n := 1159) dL_law_1158 rfl ?_
  refine lj_al0 (n := 1160) dL_law_1159 rfl ?_
  refine lj_il3 (n := 1161) dL_law_1160 rfl ?_
  refine lj_iconst (n := 1162) (nI 1) dL_law_1161 (by decide) rfl ?_
  refine lj_iadd (n := 1163) dL_law_1162 rfl ?_
  rw [nI_add]
  refine lj_sld (n := 1164) (vp_in_nI (by omega) (by omega)) dL_law_1163 rfl ?_
  refine lj_cV1 (n := 1167) pl_0 cl_11 s0_X11_seed k_L_149 (Nat.le_of_ble_eq_true rfl) dL_law_1164 rfl (lc_seed M _ h (fun M2 g1_h g2_h => ?_))
  refine lj_al2 (n := 1168) dL_law_1167 rfl ?_
  refine lj_al0 (n := 1169) dL_law_1168 rfl ?_
  refine lj_il3 (n := 1170) dL_law_1169 rfl ?_
  refine lj_iconst (n := 1171) (nI 1) dL_law_1170 (by decide) rfl ?_
  refine lj_iadd (n := 1172) dL_law_1171 rfl ?_
  rw [nI_add]
  refine lj_sld (n := 1173) (vp_in_nI (by omega) (by omega)) dL_law_1172 rfl ?_
  refine lj_cV1 (n := 1176) pl_104 cl_12 s0_X12_seed k_L_152 (Nat.le_of_ble_eq_true rfl) dL_law_1173 rfl (lr_seed M2 _ h.1 g2_h g1_h (fun M3 g3_h => ?_))
  exact lj_ic_eq (n := 1179) 1745 dL_law_1176 (by decide) rfl (fun _ => hk _ _ _ M3 g3_h) (fun z => absurd rfl z)

set_option maxRecDepth 20000 in
theorem lw_c_33 {sl i : Nat} {sx : Nat → Int32} (hi : i + 5 ≤ sl) (hsl : sl ≤ 2560) {K : sg_K} {E : sg_E} {P : Option sg_K} {M : dk_Mem} {Q : Option Value → dk_Mem → Prop} (h : dk_S K E P M) (hk : ∀ K2 E2 P2 M2, dk_S K2 E2 P2 M2 → dk_V sl sx 18 mL_law 1745 [some (.ref 300), some (.ref 0), some (.ref 104), some (.int (nI i))] [] M2 Q) : dk_V sl sx 18 mL_law 1181 [some (.ref 300), some (.ref 0), some (.ref 104), some (.int (nI i))] [] M Q := by
  refine lj_al1 (n := 1182) dL_law_1181 rfl ?_
  refine lj_cV0 (n := 1185) pl_0 cl_11 s0_X11_lot k_L_153 (Nat.le_of_ble_eq_true rfl) dL_law_1182 rfl (lc_lot M _ h (fun M2 g1_h g2_h => ?_))
  refine lj_al2 (n := 1186) dL_law_1185 rfl ?_
  refine lj_cV0 (n := 1189) pl_104 cl_12 s0_X12_lot k_L_156 (Nat.le_of_ble_eq_true rfl) dL_law_1186 rfl (lr_lot M2 _ h.1 g2_h g1_h (fun M3 g3_h => ?_))
  exact lj_ic_eq (n := 1192) 1745 dL_law_1189 (by decide) rfl (fun _ => hk _ _ _ M3 g3_h) (fun z => absurd rfl z)

set_option maxRecDepth 20000 in
theorem lw_c_34 {sl i : Nat} {sx : Nat → Int32} (hi : i + 5 ≤ sl) (hsl : sl ≤ 2560) {K : sg_K} {E : sg_E} {P : Option sg_K} {M : dk_Mem} {Q : Option Value → dk_Mem → Prop} (h : dk_S K E P M) (hk : ∀ K2 E2 P2 M2, dk_S K2 E2 P2 M2 → dk_V sl sx 18 mL_law 1745 [some (.ref 300), some (.ref 0), some (.ref 104), some (.int (nI i))] [] M2 Q) : dk_V sl sx 18 mL_law 1194 [some (.ref 300), some (.ref 0), some (.ref 104), some (.int (nI i))] [] M Q := by
  refine lj_al1 (n := 1195) dL_law_1194 rfl ?_
  refine lj_al0 (n := 1196) dL_law_1195 rfl ?_
  refine lj_il3 (n := 1197) dL_law_1196 rfl ?_
  refine lj_iconst (n := 1198) (nI 1) dL_law_1197 (by decide) rfl ?_
  refine lj_iadd (n := 1199) dL_law_1198 rfl ?_
  rw [nI_add]
  refine lj_sld (n := 1200) (vp_in_nI (by omega) (by omega)) dL_law_1199 rfl ?_
  refine lj_al0 (n := 1201) dL_law_1200 rfl ?_
  refine lj_il3 (n := 1202) dL_law_1201 rfl ?_
  refine lj_iconst (n := 1203) (nI 2) dL_law_1202 (by decide) rfl ?_
  refine lj_iadd (n := 1204) dL_law_1203 rfl ?_
  rw [nI_add]
  refine lj_sld (n := 1205) (vp_in_nI (by omega) (by omega)) dL_law_1204 rfl ?_
  refine lj_cV2 (n := 1208) pl_0 cl_11 s0_X11_times k_L_157 (Nat.le_of_ble_eq_true rfl) dL_law_1205 rfl (lc_times M _ h (fun M2 g1_h g2_h => ?_))
  refine lj_al2 (n := 1209) dL_law_1208 rfl ?_
  refine lj_al0 (n := 1210) dL_law_1209 rfl ?_
  refine lj_il3 (n := 1211) dL_law_1210 rfl ?_
  refine lj_iconst (n := 1212) (nI 1) dL_law_1211 (by decide) rfl ?_
  refine lj_iadd (n := 1213) dL_law_1212 rfl ?_
  rw [nI_add]
  refine lj_sld (n := 1214) (vp_in_nI (by omega) (by omega)) dL_law_1213 rfl ?_
  refine lj_al0 (n := 1215) dL_law_1214 rfl ?_
  refine lj_il3 (n := 1216) dL_law_1215 rfl ?_
  refine lj_iconst (n := 1217) (nI 2) dL_law_1216 (by decide) rfl ?_
  refine lj_iadd (n := 1218) dL_law_1217 rfl ?_
  rw [nI_add]
  refine lj_sld (n := 1219) (vp_in_nI (by omega) (by omega)) dL_law_1218 rfl ?_
  refine lj_cV2 (n := 1222) pl_104 cl_12 s0_X12_times k_L_160 (Nat.le_of_ble_eq_true rfl) dL_law_1219 rfl (lr_times M2 _ h.1 g2_h g1_h (fun M3 g3_h => ?_))
  exact lj_ic_eq (n := 1225) 1745 dL_law_1222 (by decide) rfl (fun _ => hk _ _ _ M3 g3_h) (fun z => absurd rfl z)

set_option maxRecDepth 20000 in
theorem lw_c_35 {sl i : Nat} {sx : Nat → Int32} (hi : i + 5 ≤ sl) (hsl : sl ≤ 2560) {K : sg_K} {E : sg_E} {P : Option sg_K} {M : dk_Mem} {Q : Option Value → dk_Mem → Prop} (h : dk_S K E P M) (hk : ∀ K2 E2 P2 M2, dk_S K2 E2 P2 M2 → dk_V sl sx 18 mL_law 1745 [some (.ref 300), some (.ref 0), some (.ref 104), some (.int (nI i))] [] M2 Q) : dk_V sl sx 18 mL_law 1227 [some (.ref 300), some (.ref 0), some (.ref 104), some (.int (nI i))] [] M Q := by
  refine lj_al1 (n := 1228) dL_law_1227 rfl ?_
  refine lj_al0 (n := 1229) dL_law_1228 rfl ?_
  refine lj_il3 (n := 1230) dL_law_1229 rfl ?_
  refine lj_iconst (n := 1231) (nI 1) dL_law_1230 (by decide) rfl ?_
  refine lj_iadd (n := 1232) dL_law_1231 rfl ?_
  rw [nI_add]
  refine lj_sld (n := 1233) (vp_in_nI (by omega) (by omega)) dL_law_1232 rfl ?_
  refine lj_cV1 (n := 1236) pl_0 cl_11 s0_X11_prove k_L_161 (Nat.le_of_ble_eq_true rfl) dL_law_1233 rfl (lc_prove M _ h (fun M2 g1_h g2_h => ?_))
  refine lj_al2 (n := 1237) dL_law_1236 rfl ?_
  refine lj_al0 (n := 1238) dL_law_1237 rfl ?_
  refine lj_il3 (n := 1239) dL_law_1238 rfl ?_
  refine lj_iconst (n := 1240) (nI 1) dL_law_1239 (by decide) rfl ?_
  refine lj_iadd (n := 1241) dL_law_1240 rfl ?_
  rw [nI_add]
  refine lj_sld (n := 1242) (vp_in_nI (by omega) (by omega)) dL_law_1241 rfl ?_
  refine lj_cV1 (n := 1245) pl_104 cl_12 s0_X12_prove k_L_164 (Nat.le_of_ble_eq_true rfl) dL_law_1242 rfl (lr_prove M2 _ h.1 g2_h g1_h (fun M3 g3_h => ?_))
  exact lj_ic_eq (n := 1248) 1745 dL_law_1245 (by decide) rfl (fun _ => hk _ _ _ M3 g3_h) (fun z => absurd rfl z)

set_option maxRecDepth 20000 in
theorem lw_c_36 {sl i : Nat} {sx : Nat → Int32} (hi : i + 5 ≤ sl) (hsl : sl ≤ 2560) {K : sg_K} {E : sg_E} {P : Option sg_K} {M : dk_Mem} {Q : Option Value → dk_Mem → Prop} (h : dk_S K E P M) (hk : ∀ K2 E2 P2 M2, dk_S K2 E2 P2 M2 → dk_V sl sx 18 mL_law 1745 [some (.ref 300), some (.ref 0), some (.ref 104), some (.int (nI i))] [] M2 Q) : dk_V sl sx 18 mL_law 1250 [some (.ref 300), some (.ref 0), some (.ref 104), some (.int (nI i))] [] M Q := by
  refine lj_al1 (n := 1251) dL_law_1250 rfl ?_
  refine lj_al0 (n := 1252) dL_law_1251 rfl ?_
  refine lj_il3 (n := 1253) dL_law_1252 rfl ?_
  refine lj_iconst (n := 1254) (nI 1) dL_law_1253 (by decide) rfl ?_
  refine lj_iadd (n := 1255) dL_law_1254 rfl ?_
  rw [nI_add]
  refine lj_sld (n := 1256) (vp_in_nI (by omega) (by omega)) dL_law_1255 rfl ?_
  refine lj_al0 (n := 1257) dL_law_1256 rfl ?_
  refine lj_il3 (n := 1258) dL_law_1257 rfl ?_
  refine lj_iconst (n := 1259) (nI 2) dL_law_1258 (by decide) rfl ?_
  refine lj_iadd (n := 1260) dL_law_1259 rfl ?_
  rw [nI_add]
  refine lj_sld (n := 1261) (vp_in_nI (by omega) (by omega)) dL_law_1260 rfl ?_
  refine lj_cV2 (n := 1264) pl_0 cl_11 s0_X11_row k_L_165 (Nat.le_of_ble_eq_true rfl) dL_law_1261 rfl (lc_row M _ h (fun M2 g1_h g2_h => ?_))
  refine lj_al2 (n := 1265) dL_law_1264 rfl ?_
  refine lj_al0 (n := 1266) dL_law_1265 rfl ?_
  refine lj_il3 (n := 1267) dL_law_1266 rfl ?_
  refine lj_iconst (n := 1268) (nI 1) dL_law_1267 (by decide) rfl ?_
  refine lj_iadd (n := 1269) dL_law_1268 rfl ?_
  rw [nI_add]
  refine lj_sld (n := 1270) (vp_in_nI (by omega) (by omega)) dL_law_1269 rfl ?_
  refine lj_al0 (n := 1271) dL_law_1270 rfl ?_
  refine lj_il3 (n := 1272) dL_law_1271 rfl ?_
  refine lj_iconst (n := 1273) (nI 2) dL_law_1272 (by decide) rfl ?_
  refine lj_iadd (n := 1274) dL_law_1273 rfl ?_
  rw [nI_add]
  refine lj_sld (n := 1275) (vp_in_nI (by omega) (by omega)) dL_law_1274 rfl ?_
  refine lj_cV2 (n := 1278) pl_104 cl_12 s0_X12_row k_L_168 (Nat.le_of_ble_eq_true rfl) dL_law_1275 rfl (lr_row M2 _ h.1 g2_h g1_h (fun M3 g3_h => ?_))
  exact lj_ic_eq (n := 1281) 1745 dL_law_1278 (by decide) rfl (fun _ => hk _ _ _ M3 g3_h) (fun z => absurd rfl z)

set_option maxRecDepth 20000 in
theorem lw_c_37 {sl i : Nat} {sx : Nat → Int32} (hi : i + 5 ≤ sl) (hsl : sl ≤ 2560) {K : sg_K} {E : sg_E} {P : Option sg_K} {M : dk_Mem} {Q : Option Value → dk_Mem → Prop} (h : dk_S K E P M) (hk : ∀ K2 E2 P2 M2, dk_S K2 E2 P2 M2 → dk_V sl sx 18 mL_law 1745 [some (.ref 300), some (.ref 0), some (.ref 104), some (.int (nI i))] [] M2 Q) : dk_V sl sx 18 mL_law 1283 [some (.ref 300), some (.ref 0), some (.ref 104), some (.int (nI i))] [] M Q := by
  refine lj_al1 (n := 1284) dL_law_1283 rfl ?_
  refine lj_al0 (n := 1285) dL_law_1284 rfl ?_
  refine lj_il3 (n := 1286) dL_law_1285 rfl ?_
  refine lj_iconst (n := 1287) (nI 1) dL_law_1286 (by decide) rfl ?_
  refine lj_iadd (n := 1288) dL_law_1287 rfl ?_
  rw [nI_add]
  refine lj_sld (n := 1289) (vp_in_nI (by omega) (by omega)) dL_law_1288 rfl ?_
  refine lj_al0 (n := 1290) dL_law_1289 rfl ?_
  refine lj_il3 (n := 1291) dL_law_1290 rfl ?_
  refine lj_iconst (n := 1292) (nI 2) dL_law_1291 (by decide) rfl ?_
  refine lj_iadd (n := 1293) dL_law_1292 rfl ?_
  rw [nI_add]
  refine lj_sld (n := 1294) (vp_in_nI (by omega) (by omega)) dL_law_1293 rfl ?_
  refine lj_al0 (n := 1295) dL_law_1294 rfl ?_
  refine lj_il3 (n := 1296) dL_law_1295 rfl ?_
  refine lj_iconst (n := 1297) (nI 3) dL_law_1296 (by decide) rfl ?_
  refine lj_iadd (n := 1298) dL_law_1297 rfl ?_
  rw [nI_add]
  refine lj_sld (n := 1299) (vp_in_nI (by omega) (by omega)) dL_law_1298 rfl ?_
  refine lj_cV3 (n := 1302) pl_0 cl_11 s0_X11_alterRow k_L_169 (Nat.le_of_ble_eq_true rfl) dL_law_1299 rfl (lc_alterRow M _ h (fun M2 g1_h g2_h => ?_))
  refine lj_al2 (n := 1303) dL_law_1302 rfl ?_
  refine lj_al0 (n := 1304) dL_law_1303 rfl ?_
  refine lj_il3 (n := 1305) dL_law_1304 rfl ?_
  refine lj_iconst (n := 1306) (nI 1) dL_law_1305 (by decide) rfl ?_
  refine lj_iadd (n := 1307) dL_law_1306 rfl ?_
  rw [nI_add]
  refine lj_sld (n := 1308) (vp_in_nI (by omega) (by omega)) dL_law_1307 rfl ?_
  refine lj_al0 (n := 1309) dL_law_1308 rfl ?_
  refine lj_il3 (n := 1310) dL_law_1309 rfl ?_
  refine lj_iconst (n := 1311) (nI 2) dL_law_1310 (by decide) rfl ?_
  refine lj_iadd (n := 1312) dL_law_1311 rfl ?_
  rw [nI_add]
  refine lj_sld (n := 1313) (vp_in_nI (by omega) (by omega)) dL_law_1312 rfl ?_
  refine lj_al0 (n := 1314) dL_law_1313 rfl ?_
  refine lj_il3 (n := 1315) dL_law_1314 rfl ?_
  refine lj_iconst (n := 1316) (nI 3) dL_law_1315 (by decide) rfl ?_
  refine lj_iadd (n := 1317) dL_law_1316 rfl ?_
  rw [nI_add]
  refine lj_sld (n := 1318) (vp_in_nI (by omega) (by omega)) dL_law_1317 rfl ?_
  refine lj_cV3 (n := 1321) pl_104 cl_12 s0_X12_alterRow k_L_172 (Nat.le_of_ble_eq_true rfl) dL_law_1318 rfl (lr_alterRow M2 _ h.1 g2_h g1_h (fun M3 g3_h => ?_))
  exact lj_ic_eq (n := 1324) 1745 dL_law_1321 (by decide) rfl (fun _ => hk _ _ _ M3 g3_h) (fun z => absurd rfl z)

set_option maxRecDepth 20000 in
theorem lw_c_38 {sl i : Nat} {sx : Nat → Int32} (hi : i + 5 ≤ sl) (hsl : sl ≤ 2560) {K : sg_K} {E : sg_E} {P : Option sg_K} {M : dk_Mem} {Q : Option Value → dk_Mem → Prop} (h : dk_S K E P M) (hk : ∀ K2 E2 P2 M2, dk_S K2 E2 P2 M2 → dk_V sl sx 18 mL_law 1745 [some (.ref 300), some (.ref 0), some (.ref 104), some (.int (nI i))] [] M2 Q) : dk_V sl sx 18 mL_law 1326 [some (.ref 300), some (.ref 0), some (.ref 104), some (.int (nI i))] [] M Q := by
  refine lj_al1 (n := 1327) dL_law_1326 rfl ?_
  refine lj_cV0 (n := 1330) pl_0 cl_11 s0_X11_judge k_L_173 (Nat.le_of_ble_eq_true rfl) dL_law_1327 rfl (lc_judge M _ h (fun M2 g1_h g2_h => ?_))
  refine lj_al2 (n := 1331) dL_law_1330 rfl ?_
  refine lj_cV0 (n := 1334) pl_104 cl_12 s0_X12_judge k_L_176 (Nat.le_of_ble_eq_true rfl) dL_law_1331 rfl (lr_judge M2 _ h.1 g2_h g1_h (fun M3 g3_h => ?_))
  exact lj_ic_eq (n := 1337) 1745 dL_law_1334 (by decide) rfl (fun _ => hk _ _ _ M3 g3_h) (fun z => absurd rfl z)

set_option maxRecDepth 20000 in
theorem lw_c_39 {sl i : Nat} {sx : Nat → Int32} (hi : i + 5 ≤ sl) (hsl : sl ≤ 2560) {K : sg_K} {E : sg_E} {P : Option sg_K} {M : dk_Mem} {Q : Option Value → dk_Mem → Prop} (h : dk_S K E P M) (hk : ∀ K2 E2 P2 M2, dk_S K2 E2 P2 M2 → dk_V sl sx 18 mL_law 1745 [some (.ref 300), some (.ref 0), some (.ref 104), some (.int (nI i))] [] M2 Q) : dk_V sl sx 18 mL_law 1339 [some (.ref 300), some (.ref 0), some (.ref 104), some (.int (nI i))] [] M Q := by
  refine lj_al1 (n := 1340) dL_law_1339 rfl ?_
  refine lj_al0 (n := 1341) dL_law_1340 rfl ?_
  refine lj_il3 (n := 1342) dL_law_1341 rfl ?_
  refine lj_iconst (n := 1343) (nI 1) dL_law_1342 (by decide) rfl ?_
  refine lj_iadd (n := 1344) dL_law_1343 rfl ?_
  rw [nI_add]
  refine lj_sld (n := 1345) (vp_in_nI (by omega) (by omega)) dL_law_1344 rfl ?_
  refine lj_al0 (n := 1346) dL_law_1345 rfl ?_
  refine lj_il3 (n := 1347) dL_law_1346 rfl ?_
  refine lj_iconst (n := 1348) (nI 2) dL_law_1347 (by decide) rfl ?_
  refine lj_iadd (n := 1349) dL_law_1348 rfl ?_
  rw [nI_add]
  refine lj_sld (n := 1350) (vp_in_nI (by omega) (by omega)) dL_law_1349 rfl ?_
  refine lj_al0 (n := 1351) dL_law_1350 rfl ?_
  refine lj_il3 (n := 1352) dL_law_1351 rfl ?_
  refine lj_iconst (n := 1353) (nI 3) dL_law_1352 (by decide) rfl ?_
  refine lj_iadd (n := 1354) dL_law_1353 rfl ?_
  rw [nI_add]
  refine lj_sld (n := 1355) (vp_in_nI (by omega) (by omega)) dL_law_1354 rfl ?_
  refine lj_cV3 (n := 1358) pl_0 cl_11 s0_X11_sheet k_L_177 (Nat.le_of_ble_eq_true rfl) dL_law_1355 rfl (lc_sheet M _ h (fun M2 g1_h g2_h => ?_))
  refine lj_al2 (n := 1359) dL_law_1358 rfl ?_
  refine lj_al0 (n := 1360) dL_law_1359 rfl ?_
  refine lj_il3 (n := 1361) dL_law_1360 rfl ?_
  refine lj_iconst (n := 1362) (nI 1) dL_law_1361 (by decide) rfl ?_
  refine lj_iadd (n := 1363) dL_law_1362 rfl ?_
  rw [nI_add]
  refine lj_sld (n := 1364) (vp_in_nI (by omega) (by omega)) dL_law_1363 rfl ?_
  refine lj_al0 (n := 1365) dL_law_1364 rfl ?_
  refine lj_il3 (n := 1366) dL_law_1365 rfl ?_
  refine lj_iconst (n := 1367) (nI 2) dL_law_1366 (by decide) rfl ?_
  refine lj_iadd (n := 1368) dL_law_1367 rfl ?_
  rw [nI_add]
  refine lj_sld (n := 1369) (vp_in_nI (by omega) (by omega)) dL_law_1368 rfl ?_
  refine lj_al0 (n := 1370) dL_law_1369 rfl ?_
  refine lj_il3 (n := 1371) dL_law_1370 rfl ?_
  refine lj_iconst (n := 1372) (nI 3) dL_law_1371 (by decide) rfl ?_
  refine lj_iadd (n := 1373) dL_law_1372 rfl ?_
  rw [nI_add]
  refine lj_sld (n := 1374) (vp_in_nI (by omega) (by omega)) dL_law_1373 rfl ?_
  refine lj_cV3 (n := 1377) pl_104 cl_12 s0_X12_sheet k_L_180 (Nat.le_of_ble_eq_true rfl) dL_law_1374 rfl (lr_sheet M2 _ h.1 g2_h g1_h (fun M3 g3_h => ?_))
  exact lj_ic_eq (n := 1380) 1745 dL_law_1377 (by decide) rfl (fun _ => hk _ _ _ M3 g3_h) (fun z => absurd rfl z)

set_option maxRecDepth 20000 in
theorem lw_c_40 {sl i : Nat} {sx : Nat → Int32} (hi : i + 5 ≤ sl) (hsl : sl ≤ 2560) {K : sg_K} {E : sg_E} {P : Option sg_K} {M : dk_Mem} {Q : Option Value → dk_Mem → Prop} (h : dk_S K E P M) (hk : ∀ K2 E2 P2 M2, dk_S K2 E2 P2 M2 → dk_V sl sx 18 mL_law 1745 [some (.ref 300), some (.ref 0), some (.ref 104), some (.int (nI i))] [] M2 Q) : dk_V sl sx 18 mL_law 1382 [some (.ref 300), some (.ref 0), some (.ref 104), some (.int (nI i))] [] M Q := by
  refine lj_al1 (n := 1383) dL_law_1382 rfl ?_
  refine lj_al0 (n := 1384) dL_law_1383 rfl ?_
  refine lj_il3 (n := 1385) dL_law_1384 rfl ?_
  refine lj_iconst (n := 1386) (nI 1) dL_law_1385 (by decide) rfl ?_
  refine lj_iadd (n := 1387) dL_law_1386 rfl ?_
  rw [nI_add]
  refine lj_sld (n := 1388) (vp_in_nI (by omega) (by omega)) dL_law_1387 rfl ?_
  refine lj_al0 (n := 1389) dL_law_1388 rfl ?_
  refine lj_il3 (n := 1390) dL_law_1389 rfl ?_
  refine lj_iconst (n := 1391) (nI 2) dL_law_1390 (by decide) rfl ?_
  refine lj_iadd (n := 1392) dL_law_1391 rfl ?_
  rw [nI_add]
  refine lj_sld (n := 1393) (vp_in_nI (by omega) (by omega)) dL_law_1392 rfl ?_
  refine lj_al0 (n := 1394) dL_law_1393 rfl ?_
  refine lj_il3 (n := 1395) dL_law_1394 rfl ?_
  refine lj_iconst (n := 1396) (nI 3) dL_law_1395 (by decide) rfl ?_
  refine lj_iadd (n := 1397) dL_law_1396 rfl ?_
  rw [nI_add]
  refine lj_sld (n := 1398) (vp_in_nI (by omega) (by omega)) dL_law_1397 rfl ?_
  refine lj_cV3 (n := 1401) pl_0 cl_11 s0_X11_write k_L_181 (Nat.le_of_ble_eq_true rfl) dL_law_1398 rfl (lc_write M _ h (fun M2 g1_h g2_h => ?_))
  refine lj_al2 (n := 1402) dL_law_1401 rfl ?_
  refine lj_al0 (n := 1403) dL_law_1402 rfl ?_
  refine lj_il3 (n := 1404) dL_law_1403 rfl ?_
  refine lj_iconst (n := 1405) (nI 1) dL_law_1404 (by decide) rfl ?_
  refine lj_iadd (n := 1406) dL_law_1405 rfl ?_
  rw [nI_add]
  refine lj_sld (n := 1407) (vp_in_nI (by omega) (by omega)) dL_law_1406 rfl ?_
  refine lj_al0 (n := 1408) dL_law_1407 rfl ?_
  refine lj_il3 (n := 1409) dL_law_1408 rfl ?_
  refine lj_iconst (n := 1410) (nI 2) dL_law_1409 (by decide) rfl ?_
  refine lj_iadd (n := 1411) dL_law_1410 rfl ?_
  rw [nI_add]
  refine lj_sld (n := 1412) (vp_in_nI (by omega) (by omega)) dL_law_1411 rfl ?_
  refine lj_al0 (n := 1413) dL_law_1412 rfl ?_
  refine lj_il3 (n := 1414) dL_law_1413 rfl ?_
  refine lj_iconst (n := 1415) (nI 3) dL_law_1414 (by decide) rfl ?_
  refine lj_iadd (n := 1416) dL_law_1415 rfl ?_
  rw [nI_add]
  refine lj_sld (n := 1417) (vp_in_nI (by omega) (by omega)) dL_law_1416 rfl ?_
  refine lj_cV3 (n := 1420) pl_104 cl_12 s0_X12_write k_L_184 (Nat.le_of_ble_eq_true rfl) dL_law_1417 rfl (lr_write M2 _ h.1 g2_h g1_h (fun M3 g3_h => ?_))
  exact lj_ic_eq (n := 1423) 1745 dL_law_1420 (by decide) rfl (fun _ => hk _ _ _ M3 g3_h) (fun z => absurd rfl z)

set_option maxRecDepth 20000 in
theorem lw_c_41 {sl i : Nat} {sx : Nat → Int32} (hi : i + 5 ≤ sl) (hsl : sl ≤ 2560) {K : sg_K} {E : sg_E} {P : Option sg_K} {M : dk_Mem} {Q : Option Value → dk_Mem → Prop} (h : dk_S K E P M) (hk : ∀ K2 E2 P2 M2, dk_S K2 E2 P2 M2 → dk_V sl sx 18 mL_law 1745 [some (.ref 300), some (.ref 0), some (.ref 104), some (.int (nI i))] [] M2 Q) : dk_V sl sx 18 mL_law 1425 [some (.ref 300), some (.ref 0), some (.ref 104), some (.int (nI i))] [] M Q := by
  refine lj_al1 (n := 1426) dL_law_1425 rfl ?_
  refine lj_al0 (n := 1427) dL_law_1426 rfl ?_
  refine lj_il3 (n := 1428) dL_law_1427 rfl ?_
  refine lj_iconst (n := 1429) (nI 1) dL_law_1428 (by decide) rfl ?_
  refine lj_iadd (n := 1430) dL_law_1429 rfl ?_
  rw [nI_add]
  refine lj_sld (n := 1431) (vp_in_nI (by omega) (by omega)) dL_law_1430 rfl ?_
  refine lj_al0 (n := 1432) dL_law_1431 rfl ?_
  refine lj_il3 (n := 1433) dL_law_1432 rfl ?_
  refine lj_iconst (n := 1434) (nI 2) dL_law_1433 (by decide) rfl ?_
  refine lj_iadd (n := 1435) dL_law_1434 rfl ?_
  rw [nI_add]
  refine lj_sld (n := 1436) (vp_in_nI (by omega) (by omega)) dL_law_1435 rfl ?_
  refine lj_al0 (n := 1437) dL_law_1436 rfl ?_
  refine lj_il3 (n := 1438) dL_law_1437 rfl ?_
  refine lj_iconst (n := 1439) (nI 3) dL_law_1438 (by decide) rfl ?_
  refine lj_iadd (n := 1440) dL_law_1439 rfl ?_
  rw [nI_add]
  refine lj_sld (n := 1441) (vp_in_nI (by omega) (by omega)) dL_law_1440 rfl ?_
  refine lj_cV3 (n := 1444) pl_0 cl_11 s0_X11_item k_L_185 (Nat.le_of_ble_eq_true rfl) dL_law_1441 rfl (lc_item M _ h (fun M2 g1_h g2_h => ?_))
  refine lj_al2 (n := 1445) dL_law_1444 rfl ?_
  refine lj_al0 (n := 1446) dL_law_1445 rfl ?_
  refine lj_il3 (n := 1447) dL_law_1446 rfl ?_
  refine lj_iconst (n := 1448) (nI 1) dL_law_1447 (by decide) rfl ?_
  refine lj_iadd (n := 1449) dL_law_1448 rfl ?_
  rw [nI_add]
  refine lj_sld (n := 1450) (vp_in_nI (by omega) (by omega)) dL_law_1449 rfl ?_
  refine lj_al0 (n := 1451) dL_law_1450 rfl ?_
  refine lj_il3 (n := 1452) dL_law_1451 rfl ?_
  refine lj_iconst (n := 1453) (nI 2) dL_law_1452 (by decide) rfl ?_
  refine lj_iadd (n := 1454) dL_law_1453 rfl ?_
  rw [nI_add]
  refine lj_sld (n := 1455) (vp_in_nI (by omega) (by omega)) dL_law_1454 rfl ?_
  refine lj_al0 (n := 1456) dL_law_1455 rfl ?_
  refine lj_il3 (n := 1457) dL_law_1456 rfl ?_
  refine lj_iconst (n := 1458) (nI 3) dL_law_1457 (by decide) rfl ?_
  refine lj_iadd (n := 1459) dL_law_1458 rfl ?_
  rw [nI_add]
  refine lj_sld (n := 1460) (vp_in_nI (by omega) (by omega)) dL_law_1459 rfl ?_
  refine lj_cV3 (n := 1463) pl_104 cl_12 s0_X12_item k_L_188 (Nat.le_of_ble_eq_true rfl) dL_law_1460 rfl (lr_item M2 _ h.1 g2_h g1_h (fun M3 g3_h => ?_))
  exact lj_ic_eq (n := 1466) 1745 dL_law_1463 (by decide) rfl (fun _ => hk _ _ _ M3 g3_h) (fun z => absurd rfl z)

set_option maxRecDepth 20000 in
theorem lw_c_42 {sl i : Nat} {sx : Nat → Int32} (hi : i + 5 ≤ sl) (hsl : sl ≤ 2560) {K : sg_K} {E : sg_E} {P : Option sg_K} {M : dk_Mem} {Q : Option Value → dk_Mem → Prop} (h : dk_S K E P M) (hk : ∀ K2 E2 P2 M2, dk_S K2 E2 P2 M2 → dk_V sl sx 18 mL_law 1745 [some (.ref 300), some (.ref 0), some (.ref 104), some (.int (nI i))] [] M2 Q) : dk_V sl sx 18 mL_law 1468 [some (.ref 300), some (.ref 0), some (.ref 104), some (.int (nI i))] [] M Q := by
  refine lj_al1 (n := 1469) dL_law_1468 rfl ?_
  refine lj_al0 (n := 1470) dL_law_1469 rfl ?_
  refine lj_il3 (n := 1471) dL_law_1470 rfl ?_
  refine lj_iconst (n := 1472) (nI 1) dL_law_1471 (by decide) rfl ?_
  refine lj_iadd (n := 1473) dL_law_1472 rfl ?_
  rw [nI_add]
  refine lj_sld (n := 1474) (vp_in_nI (by omega) (by omega)) dL_law_1473 rfl ?_
  refine lj_al0 (n := 1475) dL_law_1474 rfl ?_
  refine lj_il3 (n := 1476) dL_law_1475 rfl ?_
  refine lj_iconst (n := 1477) (nI 2) dL_law_1476 (by decide) rfl ?_
  refine lj_iadd (n := 1478) dL_law_1477 rfl ?_
  rw [nI_add]
  refine lj_sld (n := 1479) (vp_in_nI (by omega) (by omega)) dL_law_1478 rfl ?_
  refine lj_al0 (n := 1480) dL_law_1479 rfl ?_
  refine lj_il3 (n := 1481) dL_law_1480 rfl ?_
  refine lj_iconst (n := 1482) (nI 3) dL_law_1481 (by decide) rfl ?_
  refine lj_iadd (n := 1483) dL_law_1482 rfl ?_
  rw [nI_add]
  refine lj_sld (n := 1484) (vp_in_nI (by omega) (by omega)) dL_law_1483 rfl ?_
  refine lj_cV3 (n := 1487) pl_0 cl_11 s0_X11_goAll k_L_189 (Nat.le_of_ble_eq_true rfl) dL_law_1484 rfl (lc_goAll M _ h (fun M2 g1_h g2_h => ?_))
  refine lj_al2 (n := 1488) dL_law_1487 rfl ?_
  refine lj_al0 (n := 1489) dL_law_1488 rfl ?_
  refine lj_il3 (n := 1490) dL_law_1489 rfl ?_
  refine lj_iconst (n := 1491) (nI 1) dL_law_1490 (by decide) rfl ?_
  refine lj_iadd (n := 1492) dL_law_1491 rfl ?_
  rw [nI_add]
  refine lj_sld (n := 1493) (vp_in_nI (by omega) (by omega)) dL_law_1492 rfl ?_
  refine lj_al0 (n := 1494) dL_law_1493 rfl ?_
  refine lj_il3 (n := 1495) dL_law_1494 rfl ?_
  refine lj_iconst (n := 1496) (nI 2) dL_law_1495 (by decide) rfl ?_
  refine lj_iadd (n := 1497) dL_law_1496 rfl ?_
  rw [nI_add]
  refine lj_sld (n := 1498) (vp_in_nI (by omega) (by omega)) dL_law_1497 rfl ?_
  refine lj_al0 (n := 1499) dL_law_1498 rfl ?_
  refine lj_il3 (n := 1500) dL_law_1499 rfl ?_
  refine lj_iconst (n := 1501) (nI 3) dL_law_1500 (by decide) rfl ?_
  refine lj_iadd (n := 1502) dL_law_1501 rfl ?_
  rw [nI_add]
  refine lj_sld (n := 1503) (vp_in_nI (by omega) (by omega)) dL_law_1502 rfl ?_
  refine lj_cV3 (n := 1506) pl_104 cl_12 s0_X12_goAll k_L_192 (Nat.le_of_ble_eq_true rfl) dL_law_1503 rfl (lr_goAll M2 _ h.1 g2_h g1_h (fun M3 g3_h => ?_))
  exact lj_ic_eq (n := 1509) 1745 dL_law_1506 (by decide) rfl (fun _ => hk _ _ _ M3 g3_h) (fun z => absurd rfl z)

set_option maxRecDepth 20000 in
theorem lw_c_43 {sl i : Nat} {sx : Nat → Int32} (hi : i + 5 ≤ sl) (hsl : sl ≤ 2560) {K : sg_K} {E : sg_E} {P : Option sg_K} {M : dk_Mem} {Q : Option Value → dk_Mem → Prop} (h : dk_S K E P M) (hk : ∀ K2 E2 P2 M2, dk_S K2 E2 P2 M2 → dk_V sl sx 18 mL_law 1745 [some (.ref 300), some (.ref 0), some (.ref 104), some (.int (nI i))] [] M2 Q) : dk_V sl sx 18 mL_law 1511 [some (.ref 300), some (.ref 0), some (.ref 104), some (.int (nI i))] [] M Q := by
  refine lj_al1 (n := 1512) dL_law_1511 rfl ?_
  refine lj_al0 (n := 1513) dL_law_1512 rfl ?_
  refine lj_il3 (n := 1514) dL_law_1513 rfl ?_
  refine lj_iconst (n := 1515) (nI 1) dL_law_1514 (by decide) rfl ?_
  refine lj_iadd (n := 1516) dL_law_1515 rfl ?_
  rw [nI_add]
  refine lj_sld (n := 1517) (vp_in_nI (by omega) (by omega)) dL_law_1516 rfl ?_
  refine lj_al0 (n := 1518) dL_law_1517 rfl ?_
  refine lj_il3 (n := 1519) dL_law_1518 rfl ?_
  refine lj_iconst (n := 1520) (nI 2) dL_law_1519 (by decide) rfl ?_
  refine lj_iadd (n := 1521) dL_law_1520 rfl ?_
  rw [nI_add]
  refine lj_sld (n := 1522) (vp_in_nI (by omega) (by omega)) dL_law_1521 rfl ?_
  refine lj_al0 (n := 1523) dL_law_1522 rfl ?_
  refine lj_il3 (n := 1524) dL_law_1523 rfl ?_
  refine lj_iconst (n := 1525) (nI 3) dL_law_1524 (by decide) rfl ?_
  refine lj_iadd (n := 1526) dL_law_1525 rfl ?_
  rw [nI_add]
  refine lj_sld (n := 1527) (vp_in_nI (by omega) (by omega)) dL_law_1526 rfl ?_
  refine lj_cV3 (n := 1530) pl_0 cl_11 s0_X11_wouldBe k_L_193 (Nat.le_of_ble_eq_true rfl) dL_law_1527 rfl (lc_wouldBe M _ h (fun M2 g1_h g2_h => ?_))
  refine lj_al2 (n := 1531) dL_law_1530 rfl ?_
  refine lj_al0 (n := 1532) dL_law_1531 rfl ?_
  refine lj_il3 (n := 1533) dL_law_1532 rfl ?_
  refine lj_iconst (n := 1534) (nI 1) dL_law_1533 (by decide) rfl ?_
  refine lj_iadd (n := 1535) dL_law_1534 rfl ?_
  rw [nI_add]
  refine lj_sld (n := 1536) (vp_in_nI (by omega) (by omega)) dL_law_1535 rfl ?_
  refine lj_al0 (n := 1537) dL_law_1536 rfl ?_
  refine lj_il3 (n := 1538) dL_law_1537 rfl ?_
  refine lj_iconst (n := 1539) (nI 2) dL_law_1538 (by decide) rfl ?_
  refine lj_iadd (n := 1540) dL_law_1539 rfl ?_
  rw [nI_add]
  refine lj_sld (n := 1541) (vp_in_nI (by omega) (by omega)) dL_law_1540 rfl ?_
  refine lj_al0 (n := 1542) dL_law_1541 rfl ?_
  refine lj_il3 (n := 1543) dL_law_1542 rfl ?_
  refine lj_iconst (n := 1544) (nI 3) dL_law_1543 (by decide) rfl ?_
  refine lj_iadd (n := 1545) dL_law_1544 rfl ?_
  rw [nI_add]
  refine lj_sld (n := 1546) (vp_in_nI (by omega) (by omega)) dL_law_1545 rfl ?_
  refine lj_cV3 (n := 1549) pl_104 cl_12 s0_X12_wouldBe k_L_196 (Nat.le_of_ble_eq_true rfl) dL_law_1546 rfl (lr_wouldBe M2 _ h.1 g2_h g1_h (fun M3 g3_h => ?_))
  exact lj_ic_eq (n := 1552) 1745 dL_law_1549 (by decide) rfl (fun _ => hk _ _ _ M3 g3_h) (fun z => absurd rfl z)

set_option maxRecDepth 20000 in
theorem lw_c_44 {sl i : Nat} {sx : Nat → Int32} (hi : i + 5 ≤ sl) (hsl : sl ≤ 2560) {K : sg_K} {E : sg_E} {P : Option sg_K} {M : dk_Mem} {Q : Option Value → dk_Mem → Prop} (h : dk_S K E P M) (hk : ∀ K2 E2 P2 M2, dk_S K2 E2 P2 M2 → dk_V sl sx 18 mL_law 1745 [some (.ref 300), some (.ref 0), some (.ref 104), some (.int (nI i))] [] M2 Q) : dk_V sl sx 18 mL_law 1554 [some (.ref 300), some (.ref 0), some (.ref 104), some (.int (nI i))] [] M Q := by
  refine lj_al1 (n := 1555) dL_law_1554 rfl ?_
  refine lj_al0 (n := 1556) dL_law_1555 rfl ?_
  refine lj_il3 (n := 1557) dL_law_1556 rfl ?_
  refine lj_iconst (n := 1558) (nI 1) dL_law_1557 (by decide) rfl ?_
  refine lj_iadd (n := 1559) dL_law_1558 rfl ?_
  rw [nI_add]
  refine lj_sld (n := 1560) (vp_in_nI (by omega) (by omega)) dL_law_1559 rfl ?_
  refine lj_al0 (n := 1561) dL_law_1560 rfl ?_
  refine lj_il3 (n := 1562) dL_law_1561 rfl ?_
  refine lj_iconst (n := 1563) (nI 2) dL_law_1562 (by decide) rfl ?_
  refine lj_iadd (n := 1564) dL_law_1563 rfl ?_
  rw [nI_add]
  refine lj_sld (n := 1565) (vp_in_nI (by omega) (by omega)) dL_law_1564 rfl ?_
  refine lj_al0 (n := 1566) dL_law_1565 rfl ?_
  refine lj_il3 (n := 1567) dL_law_1566 rfl ?_
  refine lj_iconst (n := 1568) (nI 3) dL_law_1567 (by decide) rfl ?_
  refine lj_iadd (n := 1569) dL_law_1568 rfl ?_
  rw [nI_add]
  refine lj_sld (n := 1570) (vp_in_nI (by omega) (by omega)) dL_law_1569 rfl ?_
  refine lj_cV3 (n := 1573) pl_0 cl_11 s0_X11_shelf k_L_197 (Nat.le_of_ble_eq_true rfl) dL_law_1570 rfl (lc_shelf M _ h (fun M2 g1_h g2_h => ?_))
  refine lj_al2 (n := 1574) dL_law_1573 rfl ?_
  refine lj_al0 (n := 1575) dL_law_1574 rfl ?_
  refine lj_il3 (n := 1576) dL_law_1575 rfl ?_
  refine lj_iconst (n := 1577) (nI 1) dL_law_1576 (by decide) rfl ?_
  refine lj_iadd (n := 1578) dL_law_1577 rfl ?_
  rw [nI_add]
  refine lj_sld (n := 1579) (vp_in_nI (by omega) (by omega)) dL_law_1578 rfl ?_
  refine lj_al0 (n := 1580) dL_law_1579 rfl ?_
  refine lj_il3 (n := 1581) dL_law_1580 rfl ?_
  refine lj_iconst (n := 1582) (nI 2) dL_law_1581 (by decide) rfl ?_
  refine lj_iadd (n := 1583) dL_law_1582 rfl ?_
  rw [nI_add]
  refine lj_sld (n := 1584) (vp_in_nI (by omega) (by omega)) dL_law_1583 rfl ?_
  refine lj_al0 (n := 1585) dL_law_1584 rfl ?_
  refine lj_il3 (n := 1586) dL_law_1585 rfl ?_
  refine lj_iconst (n := 1587) (nI 3) dL_law_1586 (by decide) rfl ?_
  refine lj_iadd (n := 1588) dL_law_1587 rfl ?_
  rw [nI_add]
  refine lj_sld (n := 1589) (vp_in_nI (by omega) (by omega)) dL_law_1588 rfl ?_
  refine lj_cV3 (n := 1592) pl_104 cl_12 s0_X12_shelf k_L_200 (Nat.le_of_ble_eq_true rfl) dL_law_1589 rfl (lr_shelf M2 _ h.1 g2_h g1_h (fun M3 g3_h => ?_))
  exact lj_ic_eq (n := 1595) 1745 dL_law_1592 (by decide) rfl (fun _ => hk _ _ _ M3 g3_h) (fun z => absurd rfl z)

set_option maxRecDepth 20000 in
theorem lw_c_45 {sl i : Nat} {sx : Nat → Int32} (hi : i + 5 ≤ sl) (hsl : sl ≤ 2560) {K : sg_K} {E : sg_E} {P : Option sg_K} {M : dk_Mem} {Q : Option Value → dk_Mem → Prop} (h : dk_S K E P M) (hk : ∀ K2 E2 P2 M2, dk_S K2 E2 P2 M2 → dk_V sl sx 18 mL_law 1745 [some (.ref 300), some (.ref 0), some (.ref 104), some (.int (nI i))] [] M2 Q) : dk_V sl sx 18 mL_law 1597 [some (.ref 300), some (.ref 0), some (.ref 104), some (.int (nI i))] [] M Q := by
  refine lj_al1 (n := 1598) dL_law_1597 rfl ?_
  refine lj_al0 (n := 1599) dL_law_1598 rfl ?_
  refine lj_il3 (n := 1600) dL_law_1599 rfl ?_
  refine lj_iconst (n := 1601) (nI 1) dL_law_1600 (by decide) rfl ?_
  refine lj_iadd (n := 1602) dL_law_1601 rfl ?_
  rw [nI_add]
  refine lj_sld (n := 1603) (vp_in_nI (by omega) (by omega)) dL_law_1602 rfl ?_
  refine lj_al0 (n := 1604) dL_law_1603 rfl ?_
  refine lj_il3 (n := 1605) dL_law_1604 rfl ?_
  refine lj_iconst (n := 1606) (nI 2) dL_law_1605 (by decide) rfl ?_
  refine lj_iadd (n := 1607) dL_law_1606 rfl ?_
  rw [nI_add]
  refine lj_sld (n := 1608) (vp_in_nI (by omega) (by omega)) dL_law_1607 rfl ?_
  refine lj_cV2 (n := 1611) pl_0 cl_11 s0_X11_taken k_L_201 (Nat.le_of_ble_eq_true rfl) dL_law_1608 rfl (lc_taken M _ h (fun M2 g1_h g2_h => ?_))
  refine lj_al2 (n := 1612) dL_law_1611 rfl ?_
  refine lj_al0 (n := 1613) dL_law_1612 rfl ?_
  refine lj_il3 (n := 1614) dL_law_1613 rfl ?_
  refine lj_iconst (n := 1615) (nI 1) dL_law_1614 (by decide) rfl ?_
  refine lj_iadd (n := 1616) dL_law_1615 rfl ?_
  rw [nI_add]
  refine lj_sld (n := 1617) (vp_in_nI (by omega) (by omega)) dL_law_1616 rfl ?_
  refine lj_al0 (n := 1618) dL_law_1617 rfl ?_
  refine lj_il3 (n := 1619) dL_law_1618 rfl ?_
  refine lj_iconst (n := 1620) (nI 2) dL_law_1619 (by decide) rfl ?_
  refine lj_iadd (n := 1621) dL_law_1620 rfl ?_
  rw [nI_add]
  refine lj_sld (n := 1622) (vp_in_nI (by omega) (by omega)) dL_law_1621 rfl ?_
  refine lj_cV2 (n := 1625) pl_104 cl_12 s0_X12_taken k_L_204 (Nat.le_of_ble_eq_true rfl) dL_law_1622 rfl (lr_taken M2 _ h.1 g2_h g1_h (fun M3 g3_h => ?_))
  exact lj_ic_eq (n := 1628) 1745 dL_law_1625 (by decide) rfl (fun _ => hk _ _ _ M3 g3_h) (fun z => absurd rfl z)

set_option maxRecDepth 20000 in
theorem lw_c_46 {sl i : Nat} {sx : Nat → Int32} (hi : i + 5 ≤ sl) (hsl : sl ≤ 2560) {K : sg_K} {E : sg_E} {P : Option sg_K} {M : dk_Mem} {Q : Option Value → dk_Mem → Prop} (h : dk_S K E P M) (hk : ∀ K2 E2 P2 M2, dk_S K2 E2 P2 M2 → dk_V sl sx 18 mL_law 1745 [some (.ref 300), some (.ref 0), some (.ref 104), some (.int (nI i))] [] M2 Q) : dk_V sl sx 18 mL_law 1630 [some (.ref 300), some (.ref 0), some (.ref 104), some (.int (nI i))] [] M Q := by
  refine lj_al1 (n := 1631) dL_law_1630 rfl ?_
  refine lj_al0 (n := 1632) dL_law_1631 rfl ?_
  refine lj_il3 (n := 1633) dL_law_1632 rfl ?_
  refine lj_iconst (n := 1634) (nI 1) dL_law_1633 (by decide) rfl ?_
  refine lj_iadd (n := 1635) dL_law_1634 rfl ?_
  rw [nI_add]
  refine lj_sld (n := 1636) (vp_in_nI (by omega) (by omega)) dL_law_1635 rfl ?_
  refine lj_al0 (n := 1637) dL_law_1636 rfl ?_
  refine lj_il3 (n := 1638) dL_law_1637 rfl ?_
  refine lj_iconst (n := 1639) (nI 2) dL_law_1638 (by decide) rfl ?_
  refine lj_iadd (n := 1640) dL_law_1639 rfl ?_
  rw [nI_add]
  refine lj_sld (n := 1641) (vp_in_nI (by omega) (by omega)) dL_law_1640 rfl ?_
  refine lj_al0 (n := 1642) dL_law_1641 rfl ?_
  refine lj_il3 (n := 1643) dL_law_1642 rfl ?_
  refine lj_iconst (n := 1644) (nI 3) dL_law_1643 (by decide) rfl ?_
  refine lj_iadd (n := 1645) dL_law_1644 rfl ?_
  rw [nI_add]
  refine lj_sld (n := 1646) (vp_in_nI (by omega) (by omega)) dL_law_1645 rfl ?_
  refine lj_cV3 (n := 1649) pl_0 cl_11 s0_X11_act k_L_205 (Nat.le_of_ble_eq_true rfl) dL_law_1646 rfl (lc_act M _ h (fun M2 g1_h g2_h => ?_))
  refine lj_al2 (n := 1650) dL_law_1649 rfl ?_
  refine lj_al0 (n := 1651) dL_law_1650 rfl ?_
  refine lj_il3 (n := 1652) dL_law_1651 rfl ?_
  refine lj_iconst (n := 1653) (nI 1) dL_law_1652 (by decide) rfl ?_
  refine lj_iadd (n := 1654) dL_law_1653 rfl ?_
  rw [nI_add]
  refine lj_sld (n := 1655) (vp_in_nI (by omega) (by omega)) dL_law_1654 rfl ?_
  refine lj_al0 (n := 1656) dL_law_1655 rfl ?_
  refine lj_il3 (n := 1657) dL_law_1656 rfl ?_
  refine lj_iconst (n := 1658) (nI 2) dL_law_1657 (by decide) rfl ?_
  refine lj_iadd (n := 1659) dL_law_1658 rfl ?_
  rw [nI_add]
  refine lj_sld (n := 1660) (vp_in_nI (by omega) (by omega)) dL_law_1659 rfl ?_
  refine lj_al0 (n := 1661) dL_law_1660 rfl ?_
  refine lj_il3 (n := 1662) dL_law_1661 rfl ?_
  refine lj_iconst (n := 1663) (nI 3) dL_law_1662 (by decide) rfl ?_
  refine lj_iadd (n := 1664) dL_law_1663 rfl ?_
  rw [nI_add]
  refine lj_sld (n := 1665) (vp_in_nI (by omega) (by omega)) dL_law_1664 rfl ?_
  refine lj_cV3 (n := 1668) pl_104 cl_12 s0_X12_act k_L_208 (Nat.le_of_ble_eq_true rfl) dL_law_1665 rfl (lr_act M2 _ h.1 g2_h g1_h (fun M3 g3_h => ?_))
  exact lj_ic_eq (n := 1671) 1745 dL_law_1668 (by decide) rfl (fun _ => hk _ _ _ M3 g3_h) (fun z => absurd rfl z)

set_option maxRecDepth 20000 in
theorem lw_c_47 {sl i : Nat} {sx : Nat → Int32} (hi : i + 5 ≤ sl) (hsl : sl ≤ 2560) {K : sg_K} {E : sg_E} {P : Option sg_K} {M : dk_Mem} {Q : Option Value → dk_Mem → Prop} (h : dk_S K E P M) (hk : ∀ K2 E2 P2 M2, dk_S K2 E2 P2 M2 → dk_V sl sx 18 mL_law 1745 [some (.ref 300), some (.ref 0), some (.ref 104), some (.int (nI i))] [] M2 Q) : dk_V sl sx 18 mL_law 1673 [some (.ref 300), some (.ref 0), some (.ref 104), some (.int (nI i))] [] M Q := by
  refine lj_al1 (n := 1674) dL_law_1673 rfl ?_
  refine lj_al0 (n := 1675) dL_law_1674 rfl ?_
  refine lj_il3 (n := 1676) dL_law_1675 rfl ?_
  refine lj_iconst (n := 1677) (nI 1) dL_law_1676 (by decide) rfl ?_
  refine lj_iadd (n := 1678) dL_law_1677 rfl ?_
  rw [nI_add]
  refine lj_sld (n := 1679) (vp_in_nI (by omega) (by omega)) dL_law_1678 rfl ?_
  refine lj_cV1 (n := 1682) pl_0 cl_11 s0_X11_trace k_L_209 (Nat.le_of_ble_eq_true rfl) dL_law_1679 rfl (lc_trace M _ h (fun M2 g1_h g2_h => ?_))
  refine lj_al2 (n := 1683) dL_law_1682 rfl ?_
  refine lj_al0 (n := 1684) dL_law_1683 rfl ?_
  refine lj_il3 (n := 1685) dL_law_1684 rfl ?_
  refine lj_iconst (n := 1686) (nI 1) dL_law_1685 (by decide) rfl ?_
  refine lj_iadd (n := 1687) dL_law_1686 rfl ?_
  rw [nI_add]
  refine lj_sld (n := 1688) (vp_in_nI (by omega) (by omega)) dL_law_1687 rfl ?_
  refine lj_cV1 (n := 1691) pl_104 cl_12 s0_X12_trace k_L_212 (Nat.le_of_ble_eq_true rfl) dL_law_1688 rfl (lr_trace M2 _ h.1 g2_h g1_h (fun M3 g3_h => ?_))
  exact lj_ic_eq (n := 1694) 1745 dL_law_1691 (by decide) rfl (fun _ => hk _ _ _ M3 g3_h) (fun z => absurd rfl z)

set_option maxRecDepth 20000 in
theorem lw_c_48 {sl i : Nat} {sx : Nat → Int32} (hi : i + 5 ≤ sl) (hsl : sl ≤ 2560) {K : sg_K} {E : sg_E} {P : Option sg_K} {M : dk_Mem} {Q : Option Value → dk_Mem → Prop} (h : dk_S K E P M) (hk : ∀ K2 E2 P2 M2, dk_S K2 E2 P2 M2 → dk_V sl sx 18 mL_law 1745 [some (.ref 300), some (.ref 0), some (.ref 104), some (.int (nI i))] [] M2 Q) : dk_V sl sx 18 mL_law 1696 [some (.ref 300), some (.ref 0), some (.ref 104), some (.int (nI i))] [] M Q := by
  refine lj_al1 (n := 1697) dL_law_1696 rfl ?_
  refine lj_al0 (n := 1698) dL_law_1697 rfl ?_
  refine lj_il3 (n := 1699) dL_law_1698 rfl ?_
  refine lj_iconst (n := 1700) (nI 1) dL_law_1699 (by decide) rfl ?_
  refine lj_iadd (n := 1701) dL_law_1700 rfl ?_
  rw [nI_add]
  refine lj_sld (n := 1702) (vp_in_nI (by omega) (by omega)) dL_law_1701 rfl ?_
  refine lj_cV1 (n := 1705) pl_0 cl_11 s0_X11_many k_L_213 (Nat.le_of_ble_eq_true rfl) dL_law_1702 rfl (lc_many M _ h (fun M2 g1_h g2_h => ?_))
  refine lj_al2 (n := 1706) dL_law_1705 rfl ?_
  refine lj_al0 (n := 1707) dL_law_1706 rfl ?_
  refine lj_il3 (n := 1708) dL_law_1707 rfl ?_
  refine lj_iconst (n := 1709) (nI 1) dL_law_1708 (by decide) rfl ?_
  refine lj_iadd (n := 1710) dL_law_1709 rfl ?_
  rw [nI_add]
  refine lj_sld (n := 1711) (vp_in_nI (by omega) (by omega)) dL_law_1710 rfl ?_
  refine lj_cV1 (n := 1714) pl_104 cl_12 s0_X12_many k_L_216 (Nat.le_of_ble_eq_true rfl) dL_law_1711 rfl (lr_many M2 _ h.1 g2_h g1_h (fun M3 g3_h => ?_))
  exact lj_ic_eq (n := 1717) 1745 dL_law_1714 (by decide) rfl (fun _ => hk _ _ _ M3 g3_h) (fun z => absurd rfl z)

set_option maxRecDepth 20000 in
theorem lw_c_49 {sl i : Nat} {sx : Nat → Int32} (hi : i + 5 ≤ sl) (hsl : sl ≤ 2560) {K : sg_K} {E : sg_E} {P : Option sg_K} {M : dk_Mem} {Q : Option Value → dk_Mem → Prop} (h : dk_S K E P M) (hk : ∀ K2 E2 P2 M2, dk_S K2 E2 P2 M2 → dk_V sl sx 18 mL_law 1745 [some (.ref 300), some (.ref 0), some (.ref 104), some (.int (nI i))] [] M2 Q) : dk_V sl sx 18 mL_law 1719 [some (.ref 300), some (.ref 0), some (.ref 104), some (.int (nI i))] [] M Q := by
  refine lj_al1 (n := 1720) dL_law_1719 rfl ?_
  refine lj_cV0 (n := 1723) pl_0 cl_11 s0_X11_keep k_L_217 (Nat.le_of_ble_eq_true rfl) dL_law_1720 rfl (lc_keep M _ h (fun M2 g1_h g2_h => ?_))
  refine lj_al2 (n := 1724) dL_law_1723 rfl ?_
  refine lj_cV0 (n := 1727) pl_104 cl_12 s0_X12_keep k_L_220 (Nat.le_of_ble_eq_true rfl) dL_law_1724 rfl (lr_keep M2 _ h.1 g2_h g1_h (fun M3 g3_h => ?_))
  exact lj_ic_eq (n := 1730) 1745 dL_law_1727 (by decide) rfl (fun _ => hk _ _ _ M3 g3_h) (fun z => absurd rfl z)

set_option maxRecDepth 20000 in
theorem lw_c_50 {sl i : Nat} {sx : Nat → Int32} (hi : i + 5 ≤ sl) (hsl : sl ≤ 2560) {K : sg_K} {E : sg_E} {P : Option sg_K} {M : dk_Mem} {Q : Option Value → dk_Mem → Prop} (h : dk_S K E P M) (hk : ∀ K2 E2 P2 M2, dk_S K2 E2 P2 M2 → dk_V sl sx 18 mL_law 1745 [some (.ref 300), some (.ref 0), some (.ref 104), some (.int (nI i))] [] M2 Q) : dk_V sl sx 18 mL_law 1732 [some (.ref 300), some (.ref 0), some (.ref 104), some (.int (nI i))] [] M Q := by
  refine lj_al1 (n := 1733) dL_law_1732 rfl ?_
  refine lj_cV0 (n := 1736) pl_0 cl_11 s0_X11_again k_L_221 (Nat.le_of_ble_eq_true rfl) dL_law_1733 rfl (lc_again M _ h (fun M2 g1_h g2_h => ?_))
  refine lj_al2 (n := 1737) dL_law_1736 rfl ?_
  refine lj_cV0 (n := 1740) pl_104 cl_12 s0_X12_again k_L_224 (Nat.le_of_ble_eq_true rfl) dL_law_1737 rfl (lr_again M2 _ h.1 g2_h g1_h (fun M3 g3_h => ?_))
  exact lj_ic_eq (n := 1743) 1745 dL_law_1740 (by decide) rfl (fun _ => hk _ _ _ M3 g3_h) (fun z => absurd rfl z)

set_option maxRecDepth 20000 in
theorem lw_loop {sl : Nat} {sx : Nat → Int32} (hsl : sl ≤ 2560) : ∀ (n i : Nat) (K : sg_K) (E : sg_E) (P : Option sg_K) (M : dk_Mem), i ≤ sl → sl < i + n → dk_S K E P M → dk_V sl sx 18 mL_law 18 [some (.ref 300), some (.ref 0), some (.ref 104), some (.int (nI i))] [] M (fun v _ => v = some (.int 1)) := by
  intro n
  induction n with
  | zero => intro i K E P M h1_h h2_h; omega
  | succ n ih =>
    intro i K E P M h1_h h2_h h
    have hk : ∀ K2 E2 P2 M2, dk_S K2 E2 P2 M2 → i + 5 ≤ sl → dk_V sl sx 18 mL_law 1745 [some (.ref 300), some (.ref 0), some (.ref 104), some (.int (nI i))] [] M2 (fun v _ => v = some (.int 1)) := fun K2 E2 P2 M2 hx hi => by
      refine lj_inc3 (n := 1748) (nI 5) dL_law_1745 (by decide) rfl rfl (by decide) ?_
      rw [nI_add]
      exact lj_goto 18 dL_law_1748 (by decide) (ih (i + 5) K2 E2 P2 M2 hi (by omega) hx)
    refine lj_il3 (n := 19) dL_law_18 rfl ?_
    refine lj_al0 (n := 20) dL_law_19 rfl ?_
    refine lj_slen (n := 21) dL_law_20 rfl ?_
    refine lj_iconst (n := 22) (nI 5) dL_law_21 (by decide) rfl ?_
    refine lj_isub (n := 23) dL_law_22 rfl ?_
    refine lj_ic_gt (n := 26) 1751 dL_law_23 (by decide) rfl (fun z => ?_) (fun z => ?_)
    · refine lj_iconst (n := 1752) (nI 1) dL_law_1751 (by decide) rfl ?_
      exact lj_retZ1 dL_law_1752 rfl rfl
    · have hi : i + 5 ≤ sl := by
        have z2_h := mt Int32.lt_iff_toInt_lt.mpr z
        rw [pk_sub_toInt (by omega) (by omega)] at z2_h
        have e := pk_sub_toInt (a := i) (b := 0) (by omega) (by decide)
        rw [show nI i - nI 0 = nI i by rw [pk_sub (Nat.zero_le _)]; rfl] at e
        rw [e] at z2_h
        omega
      have hk := fun K2 E2 P2 M2 hx => hk K2 E2 P2 M2 hx hi
      refine lj_al0 (n := 27) dL_law_26 rfl ?_
      refine lj_il3 (n := 28) dL_law_27 rfl ?_
      refine lj_sld (n := 29) (vp_in_nI (by omega) (by omega)) dL_law_28 rfl ?_
      refine lj_bipush (n := 31) (nI 63) dL_law_29 (by decide) rfl ?_
      refine lj_iand (n := 32) dL_law_31 rfl ?_
      obtain ⟨j, hj, ej⟩ := lw_and (sx (nI i).toNatClampNeg)
      rw [ej]
      clear ej
      by_cases h51_h : 51 ≤ j
      · refine lj_tabOut 1745 dL_law_32 (Or.inr ?_) (by decide) (hk K E P M h)
        have e := pk_sub_toInt (a := j) (b := 0) (by omega) (by decide)
        rw [show nI j - nI 0 = nI j by rw [pk_sub (Nat.zero_le _)]; rfl] at e
        rw [e]
        omega
      · rcases (show j = 0 ∨ j = 1 ∨ j = 2 ∨ j = 3 ∨ j = 4 ∨ j = 5 ∨ j = 6 ∨ j = 7 ∨ j = 8 ∨ j = 9 ∨ j = 10 ∨ j = 11 ∨ j = 12 ∨ j = 13 ∨ j = 14 ∨ j = 15 ∨ j = 16 ∨ j = 17 ∨ j = 18 ∨ j = 19 ∨ j = 20 ∨ j = 21 ∨ j = 22 ∨ j = 23 ∨ j = 24 ∨ j = 25 ∨ j = 26 ∨ j = 27 ∨ j = 28 ∨ j = 29 ∨ j = 30 ∨ j = 31 ∨ j = 32 ∨ j = 33 ∨ j = 34 ∨ j = 35 ∨ j = 36 ∨ j = 37 ∨ j = 38 ∨ j = 39 ∨ j = 40 ∨ j = 41 ∨ j = 42 ∨ j = 43 ∨ j = 44 ∨ j = 45 ∨ j = 46 ∨ j = 47 ∨ j = 48 ∨ j = 49 ∨ j = 50 by omega) with ej | ej | ej | ej | ej | ej | ej | ej | ej | ej | ej | ej | ej | ej | ej | ej | ej | ej | ej | ej | ej | ej | ej | ej | ej | ej | ej | ej | ej | ej | ej | ej | ej | ej | ej | ej | ej | ej | ej | ej | ej | ej | ej | ej | ej | ej | ej | ej | ej | ej | ej
        · subst ej; exact lj_tabIn (off := 220) 252 dL_law_32 (by decide) (by decide) rfl (by decide) (lw_c_0 (by omega) hsl h hk)
        · subst ej; exact lj_tabIn (off := 273) 305 dL_law_32 (by decide) (by decide) rfl (by decide) (lw_c_1 (by omega) hsl h hk)
        · subst ej; exact lj_tabIn (off := 306) 338 dL_law_32 (by decide) (by decide) rfl (by decide) (lw_c_2 (by omega) hsl h hk)
        · subst ej; exact lj_tabIn (off := 349) 381 dL_law_32 (by decide) (by decide) rfl (by decide) (lw_c_3 (by omega) hsl h hk)
        · subst ej; exact lj_tabIn (off := 382) 414 dL_law_32 (by decide) (by decide) rfl (by decide) (lw_c_4 (by omega) hsl h hk)
        · subst ej; exact lj_tabIn (off := 415) 447 dL_law_32 (by decide) (by decide) rfl (by decide) (lw_c_5 (by omega) hsl h hk)
        · subst ej; exact lj_tabIn (off := 458) 490 dL_law_32 (by decide) (by decide) rfl (by decide) (lw_c_6 (by omega) hsl h hk)
        · subst ej; exact lj_tabIn (off := 491) 523 dL_law_32 (by decide) (by decide) rfl (by decide) (lw_c_7 (by omega) hsl h hk)
        · subst ej; exact lj_tabIn (off := 514) 546 dL_law_32 (by decide) (by decide) rfl (by decide) (lw_c_8 (by omega) hsl h hk)
        · subst ej; exact lj_tabIn (off := 527) 559 dL_law_32 (by decide) (by decide) rfl (by decide) (lw_c_9 (by omega) hsl h hk)
        · subst ej; exact lj_tabIn (off := 550) 582 dL_law_32 (by decide) (by decide) rfl (by decide) (lw_c_10 (by omega) hsl h hk)
        · subst ej; exact lj_tabIn (off := 613) 645 dL_law_32 (by decide) (by decide) rfl (by decide) (lw_c_11 (by omega) hsl h hk)
        · subst ej; exact lj_tabIn (off := 626) 658 dL_law_32 (by decide) (by decide) rfl (by decide) (lw_c_12 (by omega) hsl h hk)
        · subst ej; exact lj_tabIn (off := 639) 671 dL_law_32 (by decide) (by decide) rfl (by decide) (lw_c_13 (by omega) hsl h hk)
        · subst ej; exact lj_tabIn (off := 662) 694 dL_law_32 (by decide) (by decide) rfl (by decide) (lw_c_14 (by omega) hsl h hk)
        · subst ej; exact lj_tabIn (off := 685) 717 dL_law_32 (by decide) (by decide) rfl (by decide) (lw_c_15 (by omega) hsl h hk)
        · subst ej; exact lj_tabIn (off := 708) 740 dL_law_32 (by decide) (by decide) rfl (by decide) (lw_c_16 (by omega) hsl h hk)
        · subst ej; exact lj_tabIn (off := 731) 763 dL_law_32 (by decide) (by decide) rfl (by decide) (lw_c_17 (by omega) hsl h hk)
        · subst ej; exact lj_tabIn (off := 754) 786 dL_law_32 (by decide) (by decide) rfl (by decide) (lw_c_18 (by omega) hsl h hk)
        · subst ej; exact lj_tabIn (off := 777) 809 dL_law_32 (by decide) (by decide) rfl (by decide) (lw_c_19 (by omega) hsl h hk)
        · subst ej; exact lj_tabIn (off := 810) 842 dL_law_32 (by decide) (by decide) rfl (by decide) (lw_c_20 (by omega) hsl h hk)
        · subst ej; exact lj_tabIn (off := 833) 865 dL_law_32 (by decide) (by decide) rfl (by decide) (lw_c_21 (by omega) hsl h hk)
        · subst ej; exact lj_tabIn (off := 856) 888 dL_law_32 (by decide) (by decide) rfl (by decide) (lw_c_22 (by omega) hsl h hk)
        · subst ej; exact lj_tabIn (off := 889) 921 dL_law_32 (by decide) (by decide) rfl (by decide) (lw_c_23 (by omega) hsl h hk)
        · subst ej; exact lj_tabIn (off := 912) 944 dL_law_32 (by decide) (by decide) rfl (by decide) (lw_c_24 (by omega) hsl h hk)
        · subst ej; exact lj_tabIn (off := 945) 977 dL_law_32 (by decide) (by decide) rfl (by decide) (lw_c_25 (by omega) hsl h hk)
        · subst ej; exact lj_tabIn (off := 978) 1010 dL_law_32 (by decide) (by decide) rfl (by decide) (lw_c_26 (by omega) hsl h hk)
        · subst ej; exact lj_tabIn (off := 1001) 1033 dL_law_32 (by decide) (by decide) rfl (by decide) (lw_c_27 (by omega) hsl h hk)
        · subst ej; exact lj_tabIn (off := 1024) 1056 dL_law_32 (by decide) (by decide) rfl (by decide) (lw_c_28 (by omega) hsl h hk)
        · subst ej; exact lj_tabIn (off := 1077) 1109 dL_law_32 (by decide) (by decide) rfl (by decide) (lw_c_29 (by omega) hsl h hk)
        · subst ej; exact lj_tabIn (off := 1090) 1122 dL_law_32 (by decide) (by decide) rfl (by decide) (lw_c_30 (by omega) hsl h hk)
        · subst ej; exact lj_tabIn (off := 1113) 1145 dL_law_32 (by decide) (by decide) rfl (by decide) (lw_c_31 (by omega) hsl h hk)
        · subst ej; exact lj_tabIn (off := 1126) 1158 dL_law_32 (by decide) (by decide) rfl (by decide) (lw_c_32 (by omega) hsl h hk)
        · subst ej; exact lj_tabIn (off := 1149) 1181 dL_law_32 (by decide) (by decide) rfl (by decide) (lw_c_33 (by omega) hsl h hk)
        · subst ej; exact lj_tabIn (off := 1162) 1194 dL_law_32 (by decide) (by decide) rfl (by decide) (lw_c_34 (by omega) hsl h hk)
        · subst ej; exact lj_tabIn (off := 1195) 1227 dL_law_32 (by decide) (by decide) rfl (by decide) (lw_c_35 (by omega) hsl h hk)
        · subst ej; exact lj_tabIn (off := 1218) 1250 dL_law_32 (by decide) (by decide) rfl (by decide) (lw_c_36 (by omega) hsl h hk)
        · subst ej; exact lj_tabIn (off := 1251) 1283 dL_law_32 (by decide) (by decide) rfl (by decide) (lw_c_37 (by omega) hsl h hk)
        · subst ej; exact lj_tabIn (off := 1294) 1326 dL_law_32 (by decide) (by decide) rfl (by decide) (lw_c_38 (by omega) hsl h hk)
        · subst ej; exact lj_tabIn (off := 1307) 1339 dL_law_32 (by decide) (by decide) rfl (by decide) (lw_c_39 (by omega) hsl h hk)
        · subst ej; exact lj_tabIn (off := 1350) 1382 dL_law_32 (by decide) (by decide) rfl (by decide) (lw_c_40 (by omega) hsl h hk)
        · subst ej; exact lj_tabIn (off := 1393) 1425 dL_law_32 (by decide) (by decide) rfl (by decide) (lw_c_41 (by omega) hsl h hk)
        · subst ej; exact lj_tabIn (off := 1436) 1468 dL_law_32 (by decide) (by decide) rfl (by decide) (lw_c_42 (by omega) hsl h hk)
        · subst ej; exact lj_tabIn (off := 1479) 1511 dL_law_32 (by decide) (by decide) rfl (by decide) (lw_c_43 (by omega) hsl h hk)
        · subst ej; exact lj_tabIn (off := 1522) 1554 dL_law_32 (by decide) (by decide) rfl (by decide) (lw_c_44 (by omega) hsl h hk)
        · subst ej; exact lj_tabIn (off := 1565) 1597 dL_law_32 (by decide) (by decide) rfl (by decide) (lw_c_45 (by omega) hsl h hk)
        · subst ej; exact lj_tabIn (off := 1598) 1630 dL_law_32 (by decide) (by decide) rfl (by decide) (lw_c_46 (by omega) hsl h hk)
        · subst ej; exact lj_tabIn (off := 1641) 1673 dL_law_32 (by decide) (by decide) rfl (by decide) (lw_c_47 (by omega) hsl h hk)
        · subst ej; exact lj_tabIn (off := 1664) 1696 dL_law_32 (by decide) (by decide) rfl (by decide) (lw_c_48 (by omega) hsl h hk)
        · subst ej; exact lj_tabIn (off := 1687) 1719 dL_law_32 (by decide) (by decide) rfl (by decide) (lw_c_49 (by omega) hsl h hk)
        · subst ej; exact lj_tabIn (off := 1700) 1732 dL_law_32 (by decide) (by decide) rfl (by decide) (lw_c_50 (by omega) hsl h hk)
