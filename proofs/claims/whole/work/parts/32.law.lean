set_option maxHeartbeats 4000000 in
set_option maxRecDepth 100000 in
theorem wB_L_law_18 {SH : SHT} (hO : isOaths SH 0) (hR : isModel SH 53) (rec : Int32 → St → Option (Int32 × St)) (hrec : ∀ (c1 : Int32) (s2 : St), VF mL_law 200 SH jI 18 [(0, .ref 5000), (1, .ref 0), (2, .ref 53), (3, .int c1)] [] s2 (rec c1 s2)) (c1 : Int32) (s2 : St) : VF mL_law 200 SH jI 18 [(0, .ref 5000), (1, .ref 0), (2, .ref 53), (3, .int c1)] [] s2 (B_L_law_18 rec SH c1 s2) := by
  unfold B_L_law_18
  refine v_iload_n dL_law_18 rfl rfl ?_
  refine v_aload_n dL_law_19 rfl rfl ?_
  refine v_slen dL_law_20 ?_
  refine v_iconst (v := 5) dL_law_21 (by decide +kernel) ?_
  refine v_isub dL_law_22 ?_
  refine v_icmp_gt (tgt := 1793) dL_law_23 (by decide) (fun _ => ?_) (fun _ => ?_)
  · skip
    refine v_iconst (v := 1) dL_law_1793 (by decide +kernel) ?_
    exact v_ret (ty := .boolean) dL_law_1794 rfl rfl (by decide +kernel)
  refine v_aload_n dL_law_26 rfl rfl ?_
  refine v_iload_n dL_law_27 rfl rfl ?_
  refine v_gd (fun g3 => ?_)
  refine v_sld dL_law_28 g3 ?_
  refine v_bipush (v := 63) dL_law_29 (by decide +kernel) ?_
  refine v_iand dL_law_31 ?_
  refine v_topi (fun x4 => ?_)
  refine v_tsw (cs := [(0, 240), (1, 303), (2, 316), (3, 349), (4, 372), (5, 425), (6, 458), (7, 481), (8, 524), (9, 557), (10, 590), (11, 623), (12, 646), (13, 679), (14, 712), (15, 736), (16, 759), (17, 782), (18, 795), (19, 818), (20, 841), (21, 874), (22, 897), (23, 920), (24, 933), (25, 976), (26, 1019), (27, 1062), (28, 1095), (29, 1128), (30, 1151), (31, 1204), (32, 1248), (33, 1282), (34, 1315), (35, 1348), (36, 1391), (37, 1414), (38, 1467), (39, 1510), (40, 1553), (41, 1596), (42, 1639), (43, 1672), (44, 1715), (45, 1738), (46, 1761), (47, 1774)]) (dt := 1787) dL_law_32 (by decide +kernel) (by decide) (by decide +kernel) ?_
  refine v_swc (fun _ => ?_) (fun _ => ?_)
  · skip
    refine v_aload_n dL_law_240 rfl rfl ?_
    refine v_aload_n dL_law_241 rfl rfl ?_
    refine v_iload_n dL_law_242 rfl rfl ?_
    refine v_iconst (v := 1) dL_law_243 (by decide +kernel) ?_
    refine v_iadd dL_law_244 ?_
    refine v_gd (fun g5 => ?_)
    refine v_sld dL_law_245 g5 ?_
    refine v_i2l dL_law_246 ?_
    refine v_bipush (v := 32) dL_law_247 (by decide +kernel) ?_
    refine v_lshl dL_law_249 ?_
    refine v_aload_n dL_law_250 rfl rfl ?_
    refine v_iload_n dL_law_251 rfl rfl ?_
    refine v_iconst (v := 2) dL_law_252 (by decide +kernel) ?_
    refine v_iadd dL_law_253 ?_
    refine v_gd (fun g6 => ?_)
    refine v_sld dL_law_254 g6 ?_
    refine v_i2l dL_law_255 ?_
    refine v_ldc2 dL_law_256 kcL_L_13 ?_
    refine v_land dL_law_259 ?_
    refine v_lor dL_law_260 ?_
    refine v_aload_n dL_law_261 rfl rfl ?_
    refine v_iload_n dL_law_262 rfl rfl ?_
    refine v_iconst (v := 3) dL_law_263 (by decide +kernel) ?_
    refine v_iadd dL_law_264 ?_
    refine v_gd (fun g7 => ?_)
    refine v_sld dL_law_265 g7 ?_
    refine v_cbI (fun z hz => runV (as := [.long ((((SH.2.2 (ix (c1 + (1 : Int32))))).toInt64 <<< (((32 : Int32)).toInt64 &&& 63)) ||| (((SH.2.2 (ix (c1 + (2 : Int32))))).toInt64 &&& (4294967295 : Int64))), .int (SH.2.2 (ix (c1 + (3 : Int32))))]) dL_law_266 kv_L_15 rfl rfl (Nat.le_of_ble_eq_true rfl) (Nat.le_of_ble_eq_true rfl) (recvW hO.1 rfl rfl) (ct_X3_feed _ _ _ hO _) hz) (fun x9 s8 => ?_)
    refine v_aload_n dL_law_269 rfl rfl ?_
    refine v_aload_n dL_law_270 rfl rfl ?_
    refine v_iload_n dL_law_271 rfl rfl ?_
    refine v_iconst (v := 1) dL_law_272 (by decide +kernel) ?_
    refine v_iadd dL_law_273 ?_
    refine v_gd (fun g10 => ?_)
    refine v_sld dL_law_274 g10 ?_
    refine v_i2l dL_law_275 ?_
    refine v_bipush (v := 32) dL_law_276 (by decide +kernel) ?_
    refine v_lshl dL_law_278 ?_
    refine v_aload_n dL_law_279 rfl rfl ?_
    refine v_iload_n dL_law_280 rfl rfl ?_
    refine v_iconst (v := 2) dL_law_281 (by decide +kernel) ?_
    refine v_iadd dL_law_282 ?_
    refine v_gd (fun g11 => ?_)
    refine v_sld dL_law_283 g11 ?_
    refine v_i2l dL_law_284 ?_
    refine v_ldc2 dL_law_285 kcL_L_13 ?_
    refine v_land dL_law_288 ?_
    refine v_lor dL_law_289 ?_
    refine v_aload_n dL_law_290 rfl rfl ?_
    refine v_iload_n dL_law_291 rfl rfl ?_
    refine v_iconst (v := 3) dL_law_292 (by decide +kernel) ?_
    refine v_iadd dL_law_293 ?_
    refine v_gd (fun g12 => ?_)
    refine v_sld dL_law_294 g12 ?_
    refine v_cbI (fun z hz => runV (as := [.long ((((SH.2.2 (ix (c1 + (1 : Int32))))).toInt64 <<< (((32 : Int32)).toInt64 &&& 63)) ||| (((SH.2.2 (ix (c1 + (2 : Int32))))).toInt64 &&& (4294967295 : Int64))), .int (SH.2.2 (ix (c1 + (3 : Int32))))]) dL_law_295 kv_L_19 rfl rfl (Nat.le_of_ble_eq_true rfl) (Nat.le_of_ble_eq_true rfl) (recvW hR.1 rfl rfl) (ct_X4_feed _ _ _ hR _) hz) (fun x14 s13 => ?_)
    refine v_icmp_eq (tgt := 1787) dL_law_298 (by decide) (fun _ => ?_) (fun _ => ?_)
    · skip
      refine v_iinc (v := (c1 + (5 : Int32))) (L' := [(3, .int (c1 + (5 : Int32))), (0, .ref 5000), (1, .ref 0), (2, .ref 53)]) dL_law_1787 rfl rfl (by decide) rfl ?_
      refine v_goto (tgt := 18) dL_law_1790 (by decide) ?_
      exact v_pick [1, 2, 3, 0] rfl (hrec _ _)
    refine v_iconst (v := 0) dL_law_301 (by decide +kernel) ?_
    exact v_ret (ty := .boolean) dL_law_302 rfl rfl (by decide +kernel)
  refine v_swc (fun _ => ?_) (fun _ => ?_)
  · skip
    refine v_aload_n dL_law_303 rfl rfl ?_
    refine v_cbI (fun z hz => runV (as := []) dL_law_304 kv_L_20 rfl rfl (Nat.le_of_ble_eq_true rfl) (Nat.le_of_ble_eq_true rfl) (recvW hO.1 rfl rfl) (ct_X3_moor _ hO _) hz) (fun x16 s15 => ?_)
    refine v_aload_n dL_law_307 rfl rfl ?_
    refine v_cbI (fun z hz => runV (as := []) dL_law_308 kv_L_24 rfl rfl (Nat.le_of_ble_eq_true rfl) (Nat.le_of_ble_eq_true rfl) (recvW hR.1 rfl rfl) (ct_X4_moor _ hR _) hz) (fun x18 s17 => ?_)
    refine v_icmp_eq (tgt := 1787) dL_law_311 (by decide) (fun _ => ?_) (fun _ => ?_)
    · skip
      refine v_iinc (v := (c1 + (5 : Int32))) (L' := [(3, .int (c1 + (5 : Int32))), (0, .ref 5000), (1, .ref 0), (2, .ref 53)]) dL_law_1787 rfl rfl (by decide) rfl ?_
      refine v_goto (tgt := 18) dL_law_1790 (by decide) ?_
      exact v_pick [1, 2, 3, 0] rfl (hrec _ _)
    refine v_iconst (v := 0) dL_law_314 (by decide +kernel) ?_
    exact v_ret (ty := .boolean) dL_law_315 rfl rfl (by decide +kernel)
  refine v_swc (fun _ => ?_) (fun _ => ?_)
  · skip
    refine v_aload_n dL_law_316 rfl rfl ?_
    refine v_aload_n dL_law_317 rfl rfl ?_
    refine v_iload_n dL_law_318 rfl rfl ?_
    refine v_iconst (v := 1) dL_law_319 (by decide +kernel) ?_
    refine v_iadd dL_law_320 ?_
    refine v_gd (fun g19 => ?_)
    refine v_sld dL_law_321 g19 ?_
    refine v_aload_n dL_law_322 rfl rfl ?_
    refine v_iload_n dL_law_323 rfl rfl ?_
    refine v_iconst (v := 2) dL_law_324 (by decide +kernel) ?_
    refine v_iadd dL_law_325 ?_
    refine v_gd (fun g20 => ?_)
    refine v_sld dL_law_326 g20 ?_
    refine v_cbI (fun z hz => runV (as := [.int (SH.2.2 (ix (c1 + (1 : Int32)))), .int (SH.2.2 (ix (c1 + (2 : Int32))))]) dL_law_327 kv_L_25 rfl rfl (Nat.le_of_ble_eq_true rfl) (Nat.le_of_ble_eq_true rfl) (recvW hO.1 rfl rfl) (ct_X3_set _ _ _ hO _) hz) (fun x22 s21 => ?_)
    refine v_aload_n dL_law_330 rfl rfl ?_
    refine v_aload_n dL_law_331 rfl rfl ?_
    refine v_iload_n dL_law_332 rfl rfl ?_
    refine v_iconst (v := 1) dL_law_333 (by decide +kernel) ?_
    refine v_iadd dL_law_334 ?_
    refine v_gd (fun g23 => ?_)
    refine v_sld dL_law_335 g23 ?_
    refine v_aload_n dL_law_336 rfl rfl ?_
    refine v_iload_n dL_law_337 rfl rfl ?_
    refine v_iconst (v := 2) dL_law_338 (by decide +kernel) ?_
    refine v_iadd dL_law_339 ?_
    refine v_gd (fun g24 => ?_)
    refine v_sld dL_law_340 g24 ?_
    refine v_cbI (fun z hz => runV (as := [.int (SH.2.2 (ix (c1 + (1 : Int32)))), .int (SH.2.2 (ix (c1 + (2 : Int32))))]) dL_law_341 kv_L_29 rfl rfl (Nat.le_of_ble_eq_true rfl) (Nat.le_of_ble_eq_true rfl) (recvW hR.1 rfl rfl) (ct_X4_set _ _ _ hR _) hz) (fun x26 s25 => ?_)
    refine v_icmp_eq (tgt := 1787) dL_law_344 (by decide) (fun _ => ?_) (fun _ => ?_)
    · skip
      refine v_iinc (v := (c1 + (5 : Int32))) (L' := [(3, .int (c1 + (5 : Int32))), (0, .ref 5000), (1, .ref 0), (2, .ref 53)]) dL_law_1787 rfl rfl (by decide) rfl ?_
      refine v_goto (tgt := 18) dL_law_1790 (by decide) ?_
      exact v_pick [1, 2, 3, 0] rfl (hrec _ _)
    refine v_iconst (v := 0) dL_law_347 (by decide +kernel) ?_
    exact v_ret (ty := .boolean) dL_law_348 rfl rfl (by decide +kernel)
  refine v_swc (fun _ => ?_) (fun _ => ?_)
  · skip
    refine v_aload_n dL_law_349 rfl rfl ?_
    refine v_aload_n dL_law_350 rfl rfl ?_
    refine v_iload_n dL_law_351 rfl rfl ?_
    refine v_iconst (v := 1) dL_law_352 (by decide +kernel) ?_
    refine v_iadd dL_law_353 ?_
    refine v_gd (fun g27 => ?_)
    refine v_sld dL_law_354 g27 ?_
    refine v_cpI (fun z hz => runV (as := [.int (SH.2.2 (ix (c1 + (1 : Int32))))]) dL_law_355 kv_L_30 rfl rfl (Nat.le_of_ble_eq_true rfl) (Nat.le_of_ble_eq_true rfl) (recvW hO.1 rfl rfl) (ct_X3_lawOf _ _ hO _) hz) (fun x28 => ?_)
    refine v_aload_n dL_law_358 rfl rfl ?_
    refine v_aload_n dL_law_359 rfl rfl ?_
    refine v_iload_n dL_law_360 rfl rfl ?_
    refine v_iconst (v := 1) dL_law_361 (by decide +kernel) ?_
    refine v_iadd dL_law_362 ?_
    refine v_gd (fun g29 => ?_)
    refine v_sld dL_law_363 g29 ?_
    refine v_cpI (fun z hz => runV (as := [.int (SH.2.2 (ix (c1 + (1 : Int32))))]) dL_law_364 kv_L_34 rfl rfl (Nat.le_of_ble_eq_true rfl) (Nat.le_of_ble_eq_true rfl) (recvW hR.1 rfl rfl) (ct_X4_lawOf _ _ hR _) hz) (fun x30 => ?_)
    refine v_icmp_eq (tgt := 1787) dL_law_367 (by decide) (fun _ => ?_) (fun _ => ?_)
    · skip
      refine v_iinc (v := (c1 + (5 : Int32))) (L' := [(3, .int (c1 + (5 : Int32))), (0, .ref 5000), (1, .ref 0), (2, .ref 53)]) dL_law_1787 rfl rfl (by decide) rfl ?_
      refine v_goto (tgt := 18) dL_law_1790 (by decide) ?_
      exact v_pick [1, 2, 3, 0] rfl (hrec _ _)
    refine v_iconst (v := 0) dL_law_370 (by decide +kernel) ?_
    exact v_ret (ty := .boolean) dL_law_371 rfl rfl (by decide +kernel)
  refine v_swc (fun _ => ?_) (fun _ => ?_)
  · skip
    refine v_aload_n dL_law_372 rfl rfl ?_
    refine v_aload_n dL_law_373 rfl rfl ?_
    refine v_iload_n dL_law_374 rfl rfl ?_
    refine v_iconst (v := 1) dL_law_375 (by decide +kernel) ?_
    refine v_iadd dL_law_376 ?_
    refine v_gd (fun g31 => ?_)
    refine v_sld dL_law_377 g31 ?_
    refine v_aload_n dL_law_378 rfl rfl ?_
    refine v_iload_n dL_law_379 rfl rfl ?_
    refine v_iconst (v := 2) dL_law_380 (by decide +kernel) ?_
    refine v_iadd dL_law_381 ?_
    refine v_gd (fun g32 => ?_)
    refine v_sld dL_law_382 g32 ?_
    refine v_aload_n dL_law_383 rfl rfl ?_
    refine v_iload_n dL_law_384 rfl rfl ?_
    refine v_iconst (v := 3) dL_law_385 (by decide +kernel) ?_
    refine v_iadd dL_law_386 ?_
    refine v_gd (fun g33 => ?_)
    refine v_sld dL_law_387 g33 ?_
    refine v_aload_n dL_law_388 rfl rfl ?_
    refine v_iload_n dL_law_389 rfl rfl ?_
    refine v_iconst (v := 4) dL_law_390 (by decide +kernel) ?_
    refine v_iadd dL_law_391 ?_
    refine v_gd (fun g34 => ?_)
    refine v_sld dL_law_392 g34 ?_
    refine v_cbI (fun z hz => runV (as := [.int (SH.2.2 (ix (c1 + (1 : Int32)))), .int (SH.2.2 (ix (c1 + (2 : Int32)))), .int (SH.2.2 (ix (c1 + (3 : Int32)))), .int (SH.2.2 (ix (c1 + (4 : Int32))))]) dL_law_393 kv_L_35 rfl rfl (Nat.le_of_ble_eq_true rfl) (Nat.le_of_ble_eq_true rfl) (recvW hO.1 rfl rfl) (ct_X3_person _ _ _ _ _ hO _) hz) (fun x36 s35 => ?_)
    refine v_aload_n dL_law_396 rfl rfl ?_
    refine v_aload_n dL_law_397 rfl rfl ?_
    refine v_iload_n dL_law_398 rfl rfl ?_
    refine v_iconst (v := 1) dL_law_399 (by decide +kernel) ?_
    refine v_iadd dL_law_400 ?_
    refine v_gd (fun g37 => ?_)
    refine v_sld dL_law_401 g37 ?_
    refine v_aload_n dL_law_402 rfl rfl ?_
    refine v_iload_n dL_law_403 rfl rfl ?_
    refine v_iconst (v := 2) dL_law_404 (by decide +kernel) ?_
    refine v_iadd dL_law_405 ?_
    refine v_gd (fun g38 => ?_)
    refine v_sld dL_law_406 g38 ?_
    refine v_aload_n dL_law_407 rfl rfl ?_
    refine v_iload_n dL_law_408 rfl rfl ?_
    refine v_iconst (v := 3) dL_law_409 (by decide +kernel) ?_
    refine v_iadd dL_law_410 ?_
    refine v_gd (fun g39 => ?_)
    refine v_sld dL_law_411 g39 ?_
    refine v_aload_n dL_law_412 rfl rfl ?_
    refine v_iload_n dL_law_413 rfl rfl ?_
    refine v_iconst (v := 4) dL_law_414 (by decide +kernel) ?_
    refine v_iadd dL_law_415 ?_
    refine v_gd (fun g40 => ?_)
    refine v_sld dL_law_416 g40 ?_
    refine v_cbI (fun z hz => runV (as := [.int (SH.2.2 (ix (c1 + (1 : Int32)))), .int (SH.2.2 (ix (c1 + (2 : Int32)))), .int (SH.2.2 (ix (c1 + (3 : Int32)))), .int (SH.2.2 (ix (c1 + (4 : Int32))))]) dL_law_417 kv_L_39 rfl rfl (Nat.le_of_ble_eq_true rfl) (Nat.le_of_ble_eq_true rfl) (recvW hR.1 rfl rfl) (ct_X4_person _ _ _ _ _ hR _) hz) (fun x42 s41 => ?_)
    refine v_icmp_eq (tgt := 1787) dL_law_420 (by decide) (fun _ => ?_) (fun _ => ?_)
    · skip
      refine v_iinc (v := (c1 + (5 : Int32))) (L' := [(3, .int (c1 + (5 : Int32))), (0, .ref 5000), (1, .ref 0), (2, .ref 53)]) dL_law_1787 rfl rfl (by decide) rfl ?_
      refine v_goto (tgt := 18) dL_law_1790 (by decide) ?_
      exact v_pick [1, 2, 3, 0] rfl (hrec _ _)
    refine v_iconst (v := 0) dL_law_423 (by decide +kernel) ?_
    exact v_ret (ty := .boolean) dL_law_424 rfl rfl (by decide +kernel)
  refine v_swc (fun _ => ?_) (fun _ => ?_)
  · skip
    refine v_aload_n dL_law_425 rfl rfl ?_
    refine v_aload_n dL_law_426 rfl rfl ?_
    refine v_iload_n dL_law_427 rfl rfl ?_
    refine v_iconst (v := 1) dL_law_428 (by decide +kernel) ?_
    refine v_iadd dL_law_429 ?_
    refine v_gd (fun g43 => ?_)
    refine v_sld dL_law_430 g43 ?_
    refine v_aload_n dL_law_431 rfl rfl ?_
    refine v_iload_n dL_law_432 rfl rfl ?_
    refine v_iconst (v := 2) dL_law_433 (by decide +kernel) ?_
    refine v_iadd dL_law_434 ?_
    refine v_gd (fun g44 => ?_)
    refine v_sld dL_law_435 g44 ?_
    refine v_cpI (fun z hz => runV (as := [.int (SH.2.2 (ix (c1 + (1 : Int32)))), .int (SH.2.2 (ix (c1 + (2 : Int32))))]) dL_law_436 kv_L_40 rfl rfl (Nat.le_of_ble_eq_true rfl) (Nat.le_of_ble_eq_true rfl) (recvW hO.1 rfl rfl) (ct_X3_of _ _ _ hO _) hz) (fun x45 => ?_)
    refine v_aload_n dL_law_439 rfl rfl ?_
    refine v_aload_n dL_law_440 rfl rfl ?_
    refine v_iload_n dL_law_441 rfl rfl ?_
    refine v_iconst (v := 1) dL_law_442 (by decide +kernel) ?_
    refine v_iadd dL_law_443 ?_
    refine v_gd (fun g46 => ?_)
    refine v_sld dL_law_444 g46 ?_
    refine v_aload_n dL_law_445 rfl rfl ?_
    refine v_iload_n dL_law_446 rfl rfl ?_
    refine v_iconst (v := 2) dL_law_447 (by decide +kernel) ?_
    refine v_iadd dL_law_448 ?_
    refine v_gd (fun g47 => ?_)
    refine v_sld dL_law_449 g47 ?_
    refine v_cpI (fun z hz => runV (as := [.int (SH.2.2 (ix (c1 + (1 : Int32)))), .int (SH.2.2 (ix (c1 + (2 : Int32))))]) dL_law_450 kv_L_43 rfl rfl (Nat.le_of_ble_eq_true rfl) (Nat.le_of_ble_eq_true rfl) (recvW hR.1 rfl rfl) (ct_X4_of _ _ _ hR _) hz) (fun x48 => ?_)
    refine v_icmp_eq (tgt := 1787) dL_law_453 (by decide) (fun _ => ?_) (fun _ => ?_)
    · skip
      refine v_iinc (v := (c1 + (5 : Int32))) (L' := [(3, .int (c1 + (5 : Int32))), (0, .ref 5000), (1, .ref 0), (2, .ref 53)]) dL_law_1787 rfl rfl (by decide) rfl ?_
      refine v_goto (tgt := 18) dL_law_1790 (by decide) ?_
      exact v_pick [1, 2, 3, 0] rfl (hrec _ _)
    refine v_iconst (v := 0) dL_law_456 (by decide +kernel) ?_
    exact v_ret (ty := .boolean) dL_law_457 rfl rfl (by decide +kernel)
  refine v_swc (fun _ => ?_) (fun _ => ?_)
  · skip
    refine v_aload_n dL_law_458 rfl rfl ?_
    refine v_aload_n dL_law_459 rfl rfl ?_
    refine v_iload_n dL_law_460 rfl rfl ?_
    refine v_iconst (v := 1) dL_law_461 (by decide +kernel) ?_
    refine v_iadd dL_law_462 ?_
    refine v_gd (fun g49 => ?_)
    refine v_sld dL_law_463 g49 ?_
    refine v_cpI (fun z hz => runV (as := [.int (SH.2.2 (ix (c1 + (1 : Int32))))]) dL_law_464 kv_L_44 rfl rfl (Nat.le_of_ble_eq_true rfl) (Nat.le_of_ble_eq_true rfl) (recvW hO.1 rfl rfl) (ct_X3_loses _ _ hO _) hz) (fun x50 => ?_)
    refine v_aload_n dL_law_467 rfl rfl ?_
    refine v_aload_n dL_law_468 rfl rfl ?_
    refine v_iload_n dL_law_469 rfl rfl ?_
    refine v_iconst (v := 1) dL_law_470 (by decide +kernel) ?_
    refine v_iadd dL_law_471 ?_
    refine v_gd (fun g51 => ?_)
    refine v_sld dL_law_472 g51 ?_
    refine v_cpI (fun z hz => runV (as := [.int (SH.2.2 (ix (c1 + (1 : Int32))))]) dL_law_473 kv_L_47 rfl rfl (Nat.le_of_ble_eq_true rfl) (Nat.le_of_ble_eq_true rfl) (recvW hR.1 rfl rfl) (ct_X4_loses _ _ hR _) hz) (fun x52 => ?_)
    refine v_icmp_eq (tgt := 1787) dL_law_476 (by decide) (fun _ => ?_) (fun _ => ?_)
    · skip
      refine v_iinc (v := (c1 + (5 : Int32))) (L' := [(3, .int (c1 + (5 : Int32))), (0, .ref 5000), (1, .ref 0), (2, .ref 53)]) dL_law_1787 rfl rfl (by decide) rfl ?_
      refine v_goto (tgt := 18) dL_law_1790 (by decide) ?_
      exact v_pick [1, 2, 3, 0] rfl (hrec _ _)
    refine v_iconst (v := 0) dL_law_479 (by decide +kernel) ?_
    exact v_ret (ty := .boolean) dL_law_480 rfl rfl (by decide +kernel)
  refine v_swc (fun _ => ?_) (fun _ => ?_)
  · skip
    refine v_aload_n dL_law_481 rfl rfl ?_
    refine v_aload_n dL_law_482 rfl rfl ?_
    refine v_iload_n dL_law_483 rfl rfl ?_
    refine v_iconst (v := 1) dL_law_484 (by decide +kernel) ?_
    refine v_iadd dL_law_485 ?_
    refine v_gd (fun g53 => ?_)
    refine v_sld dL_law_486 g53 ?_
    refine v_aload_n dL_law_487 rfl rfl ?_
    refine v_iload_n dL_law_488 rfl rfl ?_
    refine v_iconst (v := 2) dL_law_489 (by decide +kernel) ?_
    refine v_iadd dL_law_490 ?_
    refine v_gd (fun g54 => ?_)
    refine v_sld dL_law_491 g54 ?_
    refine v_aload_n dL_law_492 rfl rfl ?_
    refine v_iload_n dL_law_493 rfl rfl ?_
    refine v_iconst (v := 3) dL_law_494 (by decide +kernel) ?_
    refine v_iadd dL_law_495 ?_
    refine v_gd (fun g55 => ?_)
    refine v_sld dL_law_496 g55 ?_
    refine v_cbI (fun z hz => runV (as := [.int (SH.2.2 (ix (c1 + (1 : Int32)))), .int (SH.2.2 (ix (c1 + (2 : Int32)))), .int (SH.2.2 (ix (c1 + (3 : Int32))))]) dL_law_497 kv_L_48 rfl rfl (Nat.le_of_ble_eq_true rfl) (Nat.le_of_ble_eq_true rfl) (recvW hO.1 rfl rfl) (ct_X3_mind _ _ _ _ hO _) hz) (fun x57 s56 => ?_)
    refine v_aload_n dL_law_500 rfl rfl ?_
    refine v_aload_n dL_law_501 rfl rfl ?_
    refine v_iload_n dL_law_502 rfl rfl ?_
    refine v_iconst (v := 1) dL_law_503 (by decide +kernel) ?_
    refine v_iadd dL_law_504 ?_
    refine v_gd (fun g58 => ?_)
    refine v_sld dL_law_505 g58 ?_
    refine v_aload_n dL_law_506 rfl rfl ?_
    refine v_iload_n dL_law_507 rfl rfl ?_
    refine v_iconst (v := 2) dL_law_508 (by decide +kernel) ?_
    refine v_iadd dL_law_509 ?_
    refine v_gd (fun g59 => ?_)
    refine v_sld dL_law_510 g59 ?_
    refine v_aload_n dL_law_511 rfl rfl ?_
    refine v_iload_n dL_law_512 rfl rfl ?_
    refine v_iconst (v := 3) dL_law_513 (by decide +kernel) ?_
    refine v_iadd dL_law_514 ?_
    refine v_gd (fun g60 => ?_)
    refine v_sld dL_law_515 g60 ?_
    refine v_cbI (fun z hz => runV (as := [.int (SH.2.2 (ix (c1 + (1 : Int32)))), .int (SH.2.2 (ix (c1 + (2 : Int32)))), .int (SH.2.2 (ix (c1 + (3 : Int32))))]) dL_law_516 kv_L_52 rfl rfl (Nat.le_of_ble_eq_true rfl) (Nat.le_of_ble_eq_true rfl) (recvW hR.1 rfl rfl) (ct_X4_mind _ _ _ _ hR _) hz) (fun x62 s61 => ?_)
    refine v_icmp_eq (tgt := 1787) dL_law_519 (by decide) (fun _ => ?_) (fun _ => ?_)
    · skip
      refine v_iinc (v := (c1 + (5 : Int32))) (L' := [(3, .int (c1 + (5 : Int32))), (0, .ref 5000), (1, .ref 0), (2, .ref 53)]) dL_law_1787 rfl rfl (by decide) rfl ?_
      refine v_goto (tgt := 18) dL_law_1790 (by decide) ?_
      exact v_pick [1, 2, 3, 0] rfl (hrec _ _)
    refine v_iconst (v := 0) dL_law_522 (by decide +kernel) ?_
    exact v_ret (ty := .boolean) dL_law_523 rfl rfl (by decide +kernel)
  refine v_swc (fun _ => ?_) (fun _ => ?_)
  · skip
    refine v_aload_n dL_law_524 rfl rfl ?_
    refine v_aload_n dL_law_525 rfl rfl ?_
    refine v_iload_n dL_law_526 rfl rfl ?_
    refine v_iconst (v := 1) dL_law_527 (by decide +kernel) ?_
    refine v_iadd dL_law_528 ?_
    refine v_gd (fun g63 => ?_)
    refine v_sld dL_law_529 g63 ?_
    refine v_aload_n dL_law_530 rfl rfl ?_
    refine v_iload_n dL_law_531 rfl rfl ?_
    refine v_iconst (v := 2) dL_law_532 (by decide +kernel) ?_
    refine v_iadd dL_law_533 ?_
    refine v_gd (fun g64 => ?_)
    refine v_sld dL_law_534 g64 ?_
    refine v_cbI (fun z hz => runV (as := [.int (SH.2.2 (ix (c1 + (1 : Int32)))), .int (SH.2.2 (ix (c1 + (2 : Int32))))]) dL_law_535 kv_L_53 rfl rfl (Nat.le_of_ble_eq_true rfl) (Nat.le_of_ble_eq_true rfl) (recvW hO.1 rfl rfl) (ct_X3_sure _ _ _ hO _) hz) (fun x66 s65 => ?_)
    refine v_aload_n dL_law_538 rfl rfl ?_
    refine v_aload_n dL_law_539 rfl rfl ?_
    refine v_iload_n dL_law_540 rfl rfl ?_
    refine v_iconst (v := 1) dL_law_541 (by decide +kernel) ?_
    refine v_iadd dL_law_542 ?_
    refine v_gd (fun g67 => ?_)
    refine v_sld dL_law_543 g67 ?_
    refine v_aload_n dL_law_544 rfl rfl ?_
    refine v_iload_n dL_law_545 rfl rfl ?_
    refine v_iconst (v := 2) dL_law_546 (by decide +kernel) ?_
    refine v_iadd dL_law_547 ?_
    refine v_gd (fun g68 => ?_)
    refine v_sld dL_law_548 g68 ?_
    refine v_cbI (fun z hz => runV (as := [.int (SH.2.2 (ix (c1 + (1 : Int32)))), .int (SH.2.2 (ix (c1 + (2 : Int32))))]) dL_law_549 kv_L_56 rfl rfl (Nat.le_of_ble_eq_true rfl) (Nat.le_of_ble_eq_true rfl) (recvW hR.1 rfl rfl) (ct_X4_sure _ _ _ hR _) hz) (fun x70 s69 => ?_)
    refine v_icmp_eq (tgt := 1787) dL_law_552 (by decide) (fun _ => ?_) (fun _ => ?_)
    · skip
      refine v_iinc (v := (c1 + (5 : Int32))) (L' := [(3, .int (c1 + (5 : Int32))), (0, .ref 5000), (1, .ref 0), (2, .ref 53)]) dL_law_1787 rfl rfl (by decide) rfl ?_
      refine v_goto (tgt := 18) dL_law_1790 (by decide) ?_
      exact v_pick [1, 2, 3, 0] rfl (hrec _ _)
    refine v_iconst (v := 0) dL_law_555 (by decide +kernel) ?_
    exact v_ret (ty := .boolean) dL_law_556 rfl rfl (by decide +kernel)
  refine v_swc (fun _ => ?_) (fun _ => ?_)
  · skip
    refine v_aload_n dL_law_557 rfl rfl ?_
    refine v_aload_n dL_law_558 rfl rfl ?_
    refine v_iload_n dL_law_559 rfl rfl ?_
    refine v_iconst (v := 1) dL_law_560 (by decide +kernel) ?_
    refine v_iadd dL_law_561 ?_
    refine v_gd (fun g71 => ?_)
    refine v_sld dL_law_562 g71 ?_
    refine v_aload_n dL_law_563 rfl rfl ?_
    refine v_iload_n dL_law_564 rfl rfl ?_
    refine v_iconst (v := 2) dL_law_565 (by decide +kernel) ?_
    refine v_iadd dL_law_566 ?_
    refine v_gd (fun g72 => ?_)
    refine v_sld dL_law_567 g72 ?_
    refine v_cbI (fun z hz => runV (as := [.int (SH.2.2 (ix (c1 + (1 : Int32)))), .int (SH.2.2 (ix (c1 + (2 : Int32))))]) dL_law_568 kv_L_57 rfl rfl (Nat.le_of_ble_eq_true rfl) (Nat.le_of_ble_eq_true rfl) (recvW hO.1 rfl rfl) (ct_X3_bring _ _ _ hO _) hz) (fun x74 s73 => ?_)
    refine v_aload_n dL_law_571 rfl rfl ?_
    refine v_aload_n dL_law_572 rfl rfl ?_
    refine v_iload_n dL_law_573 rfl rfl ?_
    refine v_iconst (v := 1) dL_law_574 (by decide +kernel) ?_
    refine v_iadd dL_law_575 ?_
    refine v_gd (fun g75 => ?_)
    refine v_sld dL_law_576 g75 ?_
    refine v_aload_n dL_law_577 rfl rfl ?_
    refine v_iload_n dL_law_578 rfl rfl ?_
    refine v_iconst (v := 2) dL_law_579 (by decide +kernel) ?_
    refine v_iadd dL_law_580 ?_
    refine v_gd (fun g76 => ?_)
    refine v_sld dL_law_581 g76 ?_
    refine v_cbI (fun z hz => runV (as := [.int (SH.2.2 (ix (c1 + (1 : Int32)))), .int (SH.2.2 (ix (c1 + (2 : Int32))))]) dL_law_582 kv_L_60 rfl rfl (Nat.le_of_ble_eq_true rfl) (Nat.le_of_ble_eq_true rfl) (recvW hR.1 rfl rfl) (ct_X4_bring _ _ _ hR _) hz) (fun x78 s77 => ?_)
    refine v_icmp_eq (tgt := 1787) dL_law_585 (by decide) (fun _ => ?_) (fun _ => ?_)
    · skip
      refine v_iinc (v := (c1 + (5 : Int32))) (L' := [(3, .int (c1 + (5 : Int32))), (0, .ref 5000), (1, .ref 0), (2, .ref 53)]) dL_law_1787 rfl rfl (by decide) rfl ?_
      refine v_goto (tgt := 18) dL_law_1790 (by decide) ?_
      exact v_pick [1, 2, 3, 0] rfl (hrec _ _)
    refine v_iconst (v := 0) dL_law_588 (by decide +kernel) ?_
    exact v_ret (ty := .boolean) dL_law_589 rfl rfl (by decide +kernel)
  refine v_swc (fun _ => ?_) (fun _ => ?_)
  · skip
    refine v_aload_n dL_law_590 rfl rfl ?_
    refine v_aload_n dL_law_591 rfl rfl ?_
    refine v_iload_n dL_law_592 rfl rfl ?_
    refine v_iconst (v := 1) dL_law_593 (by decide +kernel) ?_
    refine v_iadd dL_law_594 ?_
    refine v_gd (fun g79 => ?_)
    refine v_sld dL_law_595 g79 ?_
    refine v_aload_n dL_law_596 rfl rfl ?_
    refine v_iload_n dL_law_597 rfl rfl ?_
    refine v_iconst (v := 2) dL_law_598 (by decide +kernel) ?_
    refine v_iadd dL_law_599 ?_
    refine v_gd (fun g80 => ?_)
    refine v_sld dL_law_600 g80 ?_
    refine v_cpI (fun z hz => runV (as := [.int (SH.2.2 (ix (c1 + (1 : Int32)))), .int (SH.2.2 (ix (c1 + (2 : Int32))))]) dL_law_601 kv_L_61 rfl rfl (Nat.le_of_ble_eq_true rfl) (Nat.le_of_ble_eq_true rfl) (recvW hO.1 rfl rfl) (ct_X3_cell _ _ _ hO _) hz) (fun x81 => ?_)
    refine v_aload_n dL_law_604 rfl rfl ?_
    refine v_aload_n dL_law_605 rfl rfl ?_
    refine v_iload_n dL_law_606 rfl rfl ?_
    refine v_iconst (v := 1) dL_law_607 (by decide +kernel) ?_
    refine v_iadd dL_law_608 ?_
    refine v_gd (fun g82 => ?_)
    refine v_sld dL_law_609 g82 ?_
    refine v_aload_n dL_law_610 rfl rfl ?_
    refine v_iload_n dL_law_611 rfl rfl ?_
    refine v_iconst (v := 2) dL_law_612 (by decide +kernel) ?_
    refine v_iadd dL_law_613 ?_
    refine v_gd (fun g83 => ?_)
    refine v_sld dL_law_614 g83 ?_
    refine v_cpI (fun z hz => runV (as := [.int (SH.2.2 (ix (c1 + (1 : Int32)))), .int (SH.2.2 (ix (c1 + (2 : Int32))))]) dL_law_615 kv_L_64 rfl rfl (Nat.le_of_ble_eq_true rfl) (Nat.le_of_ble_eq_true rfl) (recvW hR.1 rfl rfl) (ct_X4_cell _ _ _ hR _) hz) (fun x84 => ?_)
    refine v_icmp_eq (tgt := 1787) dL_law_618 (by decide) (fun _ => ?_) (fun _ => ?_)
    · skip
      refine v_iinc (v := (c1 + (5 : Int32))) (L' := [(3, .int (c1 + (5 : Int32))), (0, .ref 5000), (1, .ref 0), (2, .ref 53)]) dL_law_1787 rfl rfl (by decide) rfl ?_
      refine v_goto (tgt := 18) dL_law_1790 (by decide) ?_
      exact v_pick [1, 2, 3, 0] rfl (hrec _ _)
    refine v_iconst (v := 0) dL_law_621 (by decide +kernel) ?_
    exact v_ret (ty := .boolean) dL_law_622 rfl rfl (by decide +kernel)
  refine v_swc (fun _ => ?_) (fun _ => ?_)
  · skip
    refine v_aload_n dL_law_623 rfl rfl ?_
    refine v_aload_n dL_law_624 rfl rfl ?_
    refine v_iload_n dL_law_625 rfl rfl ?_
    refine v_iconst (v := 1) dL_law_626 (by decide +kernel) ?_
    refine v_iadd dL_law_627 ?_
    refine v_gd (fun g85 => ?_)
    refine v_sld dL_law_628 g85 ?_
    refine v_cpI (fun z hz => runV (as := [.int (SH.2.2 (ix (c1 + (1 : Int32))))]) dL_law_629 kv_L_65 rfl rfl (Nat.le_of_ble_eq_true rfl) (Nat.le_of_ble_eq_true rfl) (recvW hO.1 rfl rfl) (ct_X3_lowest _ _ hO _) hz) (fun x86 => ?_)
    refine v_aload_n dL_law_632 rfl rfl ?_
    refine v_aload_n dL_law_633 rfl rfl ?_
    refine v_iload_n dL_law_634 rfl rfl ?_
    refine v_iconst (v := 1) dL_law_635 (by decide +kernel) ?_
    refine v_iadd dL_law_636 ?_
    refine v_gd (fun g87 => ?_)
    refine v_sld dL_law_637 g87 ?_
    refine v_cpI (fun z hz => runV (as := [.int (SH.2.2 (ix (c1 + (1 : Int32))))]) dL_law_638 kv_L_68 rfl rfl (Nat.le_of_ble_eq_true rfl) (Nat.le_of_ble_eq_true rfl) (recvW hR.1 rfl rfl) (ct_X4_lowest _ _ hR _) hz) (fun x88 => ?_)
    refine v_icmp_eq (tgt := 1787) dL_law_641 (by decide) (fun _ => ?_) (fun _ => ?_)
    · skip
      refine v_iinc (v := (c1 + (5 : Int32))) (L' := [(3, .int (c1 + (5 : Int32))), (0, .ref 5000), (1, .ref 0), (2, .ref 53)]) dL_law_1787 rfl rfl (by decide) rfl ?_
      refine v_goto (tgt := 18) dL_law_1790 (by decide) ?_
      exact v_pick [1, 2, 3, 0] rfl (hrec _ _)
    refine v_iconst (v := 0) dL_law_644 (by decide +kernel) ?_
    exact v_ret (ty := .boolean) dL_law_645 rfl rfl (by decide +kernel)
  refine v_swc (fun _ => ?_) (fun _ => ?_)
  · skip
    refine v_aload_n dL_law_646 rfl rfl ?_
    refine v_aload_n dL_law_647 rfl rfl ?_
    refine v_iload_n dL_law_648 rfl rfl ?_
    refine v_iconst (v := 1) dL_law_649 (by decide +kernel) ?_
    refine v_iadd dL_law_650 ?_
    refine v_gd (fun g89 => ?_)
    refine v_sld dL_law_651 g89 ?_
    refine v_aload_n dL_law_652 rfl rfl ?_
    refine v_iload_n dL_law_653 rfl rfl ?_
    refine v_iconst (v := 2) dL_law_654 (by decide +kernel) ?_
    refine v_iadd dL_law_655 ?_
    refine v_gd (fun g90 => ?_)
    refine v_sld dL_law_656 g90 ?_
    refine v_cbI (fun z hz => runV (as := [.int (SH.2.2 (ix (c1 + (1 : Int32)))), .int (SH.2.2 (ix (c1 + (2 : Int32))))]) dL_law_657 kv_L_69 rfl rfl (Nat.le_of_ble_eq_true rfl) (Nat.le_of_ble_eq_true rfl) (recvW hO.1 rfl rfl) (ct_X3_water _ _ _ hO _) hz) (fun x92 s91 => ?_)
    refine v_aload_n dL_law_660 rfl rfl ?_
    refine v_aload_n dL_law_661 rfl rfl ?_
    refine v_iload_n dL_law_662 rfl rfl ?_
    refine v_iconst (v := 1) dL_law_663 (by decide +kernel) ?_
    refine v_iadd dL_law_664 ?_
    refine v_gd (fun g93 => ?_)
    refine v_sld dL_law_665 g93 ?_
    refine v_aload_n dL_law_666 rfl rfl ?_
    refine v_iload_n dL_law_667 rfl rfl ?_
    refine v_iconst (v := 2) dL_law_668 (by decide +kernel) ?_
    refine v_iadd dL_law_669 ?_
    refine v_gd (fun g94 => ?_)
    refine v_sld dL_law_670 g94 ?_
    refine v_cbI (fun z hz => runV (as := [.int (SH.2.2 (ix (c1 + (1 : Int32)))), .int (SH.2.2 (ix (c1 + (2 : Int32))))]) dL_law_671 kv_L_72 rfl rfl (Nat.le_of_ble_eq_true rfl) (Nat.le_of_ble_eq_true rfl) (recvW hR.1 rfl rfl) (ct_X4_water _ _ _ hR _) hz) (fun x96 s95 => ?_)
    refine v_icmp_eq (tgt := 1787) dL_law_674 (by decide) (fun _ => ?_) (fun _ => ?_)
    · skip
      refine v_iinc (v := (c1 + (5 : Int32))) (L' := [(3, .int (c1 + (5 : Int32))), (0, .ref 5000), (1, .ref 0), (2, .ref 53)]) dL_law_1787 rfl rfl (by decide) rfl ?_
      refine v_goto (tgt := 18) dL_law_1790 (by decide) ?_
      exact v_pick [1, 2, 3, 0] rfl (hrec _ _)
    refine v_iconst (v := 0) dL_law_677 (by decide +kernel) ?_
    exact v_ret (ty := .boolean) dL_law_678 rfl rfl (by decide +kernel)
  refine v_swc (fun _ => ?_) (fun _ => ?_)
  · skip
    refine v_aload_n dL_law_679 rfl rfl ?_
    refine v_aload_n dL_law_680 rfl rfl ?_
    refine v_iload_n dL_law_681 rfl rfl ?_
    refine v_iconst (v := 1) dL_law_682 (by decide +kernel) ?_
    refine v_iadd dL_law_683 ?_
    refine v_gd (fun g97 => ?_)
    refine v_sld dL_law_684 g97 ?_
    refine v_aload_n dL_law_685 rfl rfl ?_
    refine v_iload_n dL_law_686 rfl rfl ?_
    refine v_iconst (v := 2) dL_law_687 (by decide +kernel) ?_
    refine v_iadd dL_law_688 ?_
    refine v_gd (fun g98 => ?_)
    refine v_sld dL_law_689 g98 ?_
    refine v_cbI (fun z hz => runV (as := [.int (SH.2.2 (ix (c1 + (1 : Int32)))), .int (SH.2.2 (ix (c1 + (2 : Int32))))]) dL_law_690 kv_L_73 rfl rfl (Nat.le_of_ble_eq_true rfl) (Nat.le_of_ble_eq_true rfl) (recvW hO.1 rfl rfl) (ct_X3_height _ _ _ hO _) hz) (fun x100 s99 => ?_)
    refine v_aload_n dL_law_693 rfl rfl ?_
    refine v_aload_n dL_law_694 rfl rfl ?_
    refine v_iload_n dL_law_695 rfl rfl ?_
    refine v_iconst (v := 1) dL_law_696 (by decide +kernel) ?_
    refine v_iadd dL_law_697 ?_
    refine v_gd (fun g101 => ?_)
    refine v_sld dL_law_698 g101 ?_
    refine v_aload_n dL_law_699 rfl rfl ?_
    refine v_iload_n dL_law_700 rfl rfl ?_
    refine v_iconst (v := 2) dL_law_701 (by decide +kernel) ?_
    refine v_iadd dL_law_702 ?_
    refine v_gd (fun g102 => ?_)
    refine v_sld dL_law_703 g102 ?_
    refine v_cbI (fun z hz => runV (as := [.int (SH.2.2 (ix (c1 + (1 : Int32)))), .int (SH.2.2 (ix (c1 + (2 : Int32))))]) dL_law_704 kv_L_76 rfl rfl (Nat.le_of_ble_eq_true rfl) (Nat.le_of_ble_eq_true rfl) (recvW hR.1 rfl rfl) (ct_X4_height _ _ _ hR _) hz) (fun x104 s103 => ?_)
    refine v_icmp_eq (tgt := 1787) dL_law_707 (by decide) (fun _ => ?_) (fun _ => ?_)
    · skip
      refine v_iinc (v := (c1 + (5 : Int32))) (L' := [(3, .int (c1 + (5 : Int32))), (0, .ref 5000), (1, .ref 0), (2, .ref 53)]) dL_law_1787 rfl rfl (by decide) rfl ?_
      refine v_goto (tgt := 18) dL_law_1790 (by decide) ?_
      exact v_pick [1, 2, 3, 0] rfl (hrec _ _)
    refine v_iconst (v := 0) dL_law_710 (by decide +kernel) ?_
    exact v_ret (ty := .boolean) dL_law_711 rfl rfl (by decide +kernel)
  refine v_swc (fun _ => ?_) (fun _ => ?_)
  · skip
    refine v_aload_n dL_law_712 rfl rfl ?_
    refine v_aload_n dL_law_713 rfl rfl ?_
    refine v_iload_n dL_law_714 rfl rfl ?_
    refine v_iconst (v := 1) dL_law_715 (by decide +kernel) ?_
    refine v_iadd dL_law_716 ?_
    refine v_gd (fun g105 => ?_)
    refine v_sld dL_law_717 g105 ?_
    refine v_cpL (fun z hz => runV (as := [.int (SH.2.2 (ix (c1 + (1 : Int32))))]) dL_law_718 kv_L_77 rfl rfl (Nat.le_of_ble_eq_true rfl) (Nat.le_of_ble_eq_true rfl) (recvW hO.1 rfl rfl) (ct_X3_wets _ _ hO _) hz) (fun x106 => ?_)
    refine v_aload_n dL_law_721 rfl rfl ?_
    refine v_aload_n dL_law_722 rfl rfl ?_
    refine v_iload_n dL_law_723 rfl rfl ?_
    refine v_iconst (v := 1) dL_law_724 (by decide +kernel) ?_
    refine v_iadd dL_law_725 ?_
    refine v_gd (fun g107 => ?_)
    refine v_sld dL_law_726 g107 ?_
    refine v_cpL (fun z hz => runV (as := [.int (SH.2.2 (ix (c1 + (1 : Int32))))]) dL_law_727 kv_L_81 rfl rfl (Nat.le_of_ble_eq_true rfl) (Nat.le_of_ble_eq_true rfl) (recvW hR.1 rfl rfl) (ct_X4_wets _ _ hR _) hz) (fun x108 => ?_)
    refine v_lcmp dL_law_730 ?_
    refine v_if_eq (tgt := 1787) dL_law_731 (by decide) (fun _ => ?_) (fun _ => ?_)
    · skip
      refine v_iinc (v := (c1 + (5 : Int32))) (L' := [(3, .int (c1 + (5 : Int32))), (0, .ref 5000), (1, .ref 0), (2, .ref 53)]) dL_law_1787 rfl rfl (by decide) rfl ?_
      refine v_goto (tgt := 18) dL_law_1790 (by decide) ?_
      exact v_pick [1, 2, 3, 0] rfl (hrec _ _)
    refine v_iconst (v := 0) dL_law_734 (by decide +kernel) ?_
    exact v_ret (ty := .boolean) dL_law_735 rfl rfl (by decide +kernel)
  refine v_swc (fun _ => ?_) (fun _ => ?_)
  · skip
    refine v_aload_n dL_law_736 rfl rfl ?_
    refine v_aload_n dL_law_737 rfl rfl ?_
    refine v_iload_n dL_law_738 rfl rfl ?_
    refine v_iconst (v := 1) dL_law_739 (by decide +kernel) ?_
    refine v_iadd dL_law_740 ?_
    refine v_gd (fun g109 => ?_)
    refine v_sld dL_law_741 g109 ?_
    refine v_cbI (fun z hz => runV (as := [.int (SH.2.2 (ix (c1 + (1 : Int32))))]) dL_law_742 kv_L_82 rfl rfl (Nat.le_of_ble_eq_true rfl) (Nat.le_of_ble_eq_true rfl) (recvW hO.1 rfl rfl) (ct_X3_years _ _ hO _) hz) (fun x111 s110 => ?_)
    refine v_aload_n dL_law_745 rfl rfl ?_
    refine v_aload_n dL_law_746 rfl rfl ?_
    refine v_iload_n dL_law_747 rfl rfl ?_
    refine v_iconst (v := 1) dL_law_748 (by decide +kernel) ?_
    refine v_iadd dL_law_749 ?_
    refine v_gd (fun g112 => ?_)
    refine v_sld dL_law_750 g112 ?_
    refine v_cbI (fun z hz => runV (as := [.int (SH.2.2 (ix (c1 + (1 : Int32))))]) dL_law_751 kv_L_85 rfl rfl (Nat.le_of_ble_eq_true rfl) (Nat.le_of_ble_eq_true rfl) (recvW hR.1 rfl rfl) (ct_X4_years _ _ hR _) hz) (fun x114 s113 => ?_)
    refine v_icmp_eq (tgt := 1787) dL_law_754 (by decide) (fun _ => ?_) (fun _ => ?_)
    · skip
      refine v_iinc (v := (c1 + (5 : Int32))) (L' := [(3, .int (c1 + (5 : Int32))), (0, .ref 5000), (1, .ref 0), (2, .ref 53)]) dL_law_1787 rfl rfl (by decide) rfl ?_
      refine v_goto (tgt := 18) dL_law_1790 (by decide) ?_
      exact v_pick [1, 2, 3, 0] rfl (hrec _ _)
    refine v_iconst (v := 0) dL_law_757 (by decide +kernel) ?_
    exact v_ret (ty := .boolean) dL_law_758 rfl rfl (by decide +kernel)
  refine v_swc (fun _ => ?_) (fun _ => ?_)
  · skip
    refine v_aload_n dL_law_759 rfl rfl ?_
    refine v_aload_n dL_law_760 rfl rfl ?_
    refine v_iload_n dL_law_761 rfl rfl ?_
    refine v_iconst (v := 1) dL_law_762 (by decide +kernel) ?_
    refine v_iadd dL_law_763 ?_
    refine v_gd (fun g115 => ?_)
    refine v_sld dL_law_764 g115 ?_
    refine v_cbI (fun z hz => runV (as := [.int (SH.2.2 (ix (c1 + (1 : Int32))))]) dL_law_765 kv_L_86 rfl rfl (Nat.le_of_ble_eq_true rfl) (Nat.le_of_ble_eq_true rfl) (recvW hO.1 rfl rfl) (ct_X3_seed _ _ hO _) hz) (fun x117 s116 => ?_)
    refine v_aload_n dL_law_768 rfl rfl ?_
    refine v_aload_n dL_law_769 rfl rfl ?_
    refine v_iload_n dL_law_770 rfl rfl ?_
    refine v_iconst (v := 1) dL_law_771 (by decide +kernel) ?_
    refine v_iadd dL_law_772 ?_
    refine v_gd (fun g118 => ?_)
    refine v_sld dL_law_773 g118 ?_
    refine v_cbI (fun z hz => runV (as := [.int (SH.2.2 (ix (c1 + (1 : Int32))))]) dL_law_774 kv_L_89 rfl rfl (Nat.le_of_ble_eq_true rfl) (Nat.le_of_ble_eq_true rfl) (recvW hR.1 rfl rfl) (ct_X4_seed _ _ hR _) hz) (fun x120 s119 => ?_)
    refine v_icmp_eq (tgt := 1787) dL_law_777 (by decide) (fun _ => ?_) (fun _ => ?_)
    · skip
      refine v_iinc (v := (c1 + (5 : Int32))) (L' := [(3, .int (c1 + (5 : Int32))), (0, .ref 5000), (1, .ref 0), (2, .ref 53)]) dL_law_1787 rfl rfl (by decide) rfl ?_
      refine v_goto (tgt := 18) dL_law_1790 (by decide) ?_
      exact v_pick [1, 2, 3, 0] rfl (hrec _ _)
    refine v_iconst (v := 0) dL_law_780 (by decide +kernel) ?_
    exact v_ret (ty := .boolean) dL_law_781 rfl rfl (by decide +kernel)
  refine v_swc (fun _ => ?_) (fun _ => ?_)
  · skip
    refine v_aload_n dL_law_782 rfl rfl ?_
    refine v_cbI (fun z hz => runV (as := []) dL_law_783 kv_L_90 rfl rfl (Nat.le_of_ble_eq_true rfl) (Nat.le_of_ble_eq_true rfl) (recvW hO.1 rfl rfl) (ct_X3_year _ hO _) hz) (fun x122 s121 => ?_)
    refine v_aload_n dL_law_786 rfl rfl ?_
    refine v_cbI (fun z hz => runV (as := []) dL_law_787 kv_L_93 rfl rfl (Nat.le_of_ble_eq_true rfl) (Nat.le_of_ble_eq_true rfl) (recvW hR.1 rfl rfl) (ct_X4_year _ hR _) hz) (fun x124 s123 => ?_)
    refine v_icmp_eq (tgt := 1787) dL_law_790 (by decide) (fun _ => ?_) (fun _ => ?_)
    · skip
      refine v_iinc (v := (c1 + (5 : Int32))) (L' := [(3, .int (c1 + (5 : Int32))), (0, .ref 5000), (1, .ref 0), (2, .ref 53)]) dL_law_1787 rfl rfl (by decide) rfl ?_
      refine v_goto (tgt := 18) dL_law_1790 (by decide) ?_
      exact v_pick [1, 2, 3, 0] rfl (hrec _ _)
    refine v_iconst (v := 0) dL_law_793 (by decide +kernel) ?_
    exact v_ret (ty := .boolean) dL_law_794 rfl rfl (by decide +kernel)
  refine v_swc (fun _ => ?_) (fun _ => ?_)
  · skip
    refine v_aload_n dL_law_795 rfl rfl ?_
    refine v_aload_n dL_law_796 rfl rfl ?_
    refine v_iload_n dL_law_797 rfl rfl ?_
    refine v_iconst (v := 1) dL_law_798 (by decide +kernel) ?_
    refine v_iadd dL_law_799 ?_
    refine v_gd (fun g125 => ?_)
    refine v_sld dL_law_800 g125 ?_
    refine v_cbI (fun z hz => runV (as := [.int (SH.2.2 (ix (c1 + (1 : Int32))))]) dL_law_801 kv_L_94 rfl rfl (Nat.le_of_ble_eq_true rfl) (Nat.le_of_ble_eq_true rfl) (recvW hO.1 rfl rfl) (ct_X3_revel _ _ hO _) hz) (fun x127 s126 => ?_)
    refine v_aload_n dL_law_804 rfl rfl ?_
    refine v_aload_n dL_law_805 rfl rfl ?_
    refine v_iload_n dL_law_806 rfl rfl ?_
    refine v_iconst (v := 1) dL_law_807 (by decide +kernel) ?_
    refine v_iadd dL_law_808 ?_
    refine v_gd (fun g128 => ?_)
    refine v_sld dL_law_809 g128 ?_
    refine v_cbI (fun z hz => runV (as := [.int (SH.2.2 (ix (c1 + (1 : Int32))))]) dL_law_810 kv_L_97 rfl rfl (Nat.le_of_ble_eq_true rfl) (Nat.le_of_ble_eq_true rfl) (recvW hR.1 rfl rfl) (ct_X4_revel _ _ hR _) hz) (fun x130 s129 => ?_)
    refine v_icmp_eq (tgt := 1787) dL_law_813 (by decide) (fun _ => ?_) (fun _ => ?_)
    · skip
      refine v_iinc (v := (c1 + (5 : Int32))) (L' := [(3, .int (c1 + (5 : Int32))), (0, .ref 5000), (1, .ref 0), (2, .ref 53)]) dL_law_1787 rfl rfl (by decide) rfl ?_
      refine v_goto (tgt := 18) dL_law_1790 (by decide) ?_
      exact v_pick [1, 2, 3, 0] rfl (hrec _ _)
    refine v_iconst (v := 0) dL_law_816 (by decide +kernel) ?_
    exact v_ret (ty := .boolean) dL_law_817 rfl rfl (by decide +kernel)
  refine v_swc (fun _ => ?_) (fun _ => ?_)
  · skip
    refine v_aload_n dL_law_818 rfl rfl ?_
    refine v_aload_n dL_law_819 rfl rfl ?_
    refine v_iload_n dL_law_820 rfl rfl ?_
    refine v_iconst (v := 1) dL_law_821 (by decide +kernel) ?_
    refine v_iadd dL_law_822 ?_
    refine v_gd (fun g131 => ?_)
    refine v_sld dL_law_823 g131 ?_
    refine v_cpI (fun z hz => runV (as := [.int (SH.2.2 (ix (c1 + (1 : Int32))))]) dL_law_824 kv_L_98 rfl rfl (Nat.le_of_ble_eq_true rfl) (Nat.le_of_ble_eq_true rfl) (recvW hO.1 rfl rfl) (ct_X3_state _ _ hO _) hz) (fun x132 => ?_)
    refine v_aload_n dL_law_827 rfl rfl ?_
    refine v_aload_n dL_law_828 rfl rfl ?_
    refine v_iload_n dL_law_829 rfl rfl ?_
    refine v_iconst (v := 1) dL_law_830 (by decide +kernel) ?_
    refine v_iadd dL_law_831 ?_
    refine v_gd (fun g133 => ?_)
    refine v_sld dL_law_832 g133 ?_
    refine v_cpI (fun z hz => runV (as := [.int (SH.2.2 (ix (c1 + (1 : Int32))))]) dL_law_833 kv_L_101 rfl rfl (Nat.le_of_ble_eq_true rfl) (Nat.le_of_ble_eq_true rfl) (recvW hR.1 rfl rfl) (ct_X4_state _ _ hR _) hz) (fun x134 => ?_)
    refine v_icmp_eq (tgt := 1787) dL_law_836 (by decide) (fun _ => ?_) (fun _ => ?_)
    · skip
      refine v_iinc (v := (c1 + (5 : Int32))) (L' := [(3, .int (c1 + (5 : Int32))), (0, .ref 5000), (1, .ref 0), (2, .ref 53)]) dL_law_1787 rfl rfl (by decide) rfl ?_
      refine v_goto (tgt := 18) dL_law_1790 (by decide) ?_
      exact v_pick [1, 2, 3, 0] rfl (hrec _ _)
    refine v_iconst (v := 0) dL_law_839 (by decide +kernel) ?_
    exact v_ret (ty := .boolean) dL_law_840 rfl rfl (by decide +kernel)
  refine v_swc (fun _ => ?_) (fun _ => ?_)
  · skip
    refine v_aload_n dL_law_841 rfl rfl ?_
    refine v_aload_n dL_law_842 rfl rfl ?_
    refine v_iload_n dL_law_843 rfl rfl ?_
    refine v_iconst (v := 1) dL_law_844 (by decide +kernel) ?_
    refine v_iadd dL_law_845 ?_
    refine v_gd (fun g135 => ?_)
    refine v_sld dL_law_846 g135 ?_
    refine v_aload_n dL_law_847 rfl rfl ?_
    refine v_iload_n dL_law_848 rfl rfl ?_
    refine v_iconst (v := 2) dL_law_849 (by decide +kernel) ?_
    refine v_iadd dL_law_850 ?_
    refine v_gd (fun g136 => ?_)
    refine v_sld dL_law_851 g136 ?_
    refine v_cbI (fun z hz => runV (as := [.int (SH.2.2 (ix (c1 + (1 : Int32)))), .int (SH.2.2 (ix (c1 + (2 : Int32))))]) dL_law_852 kv_L_102 rfl rfl (Nat.le_of_ble_eq_true rfl) (Nat.le_of_ble_eq_true rfl) (recvW hO.1 rfl rfl) (ct_X3_level _ _ _ hO _) hz) (fun x138 s137 => ?_)
    refine v_aload_n dL_law_855 rfl rfl ?_
    refine v_aload_n dL_law_856 rfl rfl ?_
    refine v_iload_n dL_law_857 rfl rfl ?_
    refine v_iconst (v := 1) dL_law_858 (by decide +kernel) ?_
    refine v_iadd dL_law_859 ?_
    refine v_gd (fun g139 => ?_)
    refine v_sld dL_law_860 g139 ?_
    refine v_aload_n dL_law_861 rfl rfl ?_
    refine v_iload_n dL_law_862 rfl rfl ?_
    refine v_iconst (v := 2) dL_law_863 (by decide +kernel) ?_
    refine v_iadd dL_law_864 ?_
    refine v_gd (fun g140 => ?_)
    refine v_sld dL_law_865 g140 ?_
    refine v_cbI (fun z hz => runV (as := [.int (SH.2.2 (ix (c1 + (1 : Int32)))), .int (SH.2.2 (ix (c1 + (2 : Int32))))]) dL_law_866 kv_L_105 rfl rfl (Nat.le_of_ble_eq_true rfl) (Nat.le_of_ble_eq_true rfl) (recvW hR.1 rfl rfl) (ct_X4_level _ _ _ hR _) hz) (fun x142 s141 => ?_)
    refine v_icmp_eq (tgt := 1787) dL_law_869 (by decide) (fun _ => ?_) (fun _ => ?_)
    · skip
      refine v_iinc (v := (c1 + (5 : Int32))) (L' := [(3, .int (c1 + (5 : Int32))), (0, .ref 5000), (1, .ref 0), (2, .ref 53)]) dL_law_1787 rfl rfl (by decide) rfl ?_
      refine v_goto (tgt := 18) dL_law_1790 (by decide) ?_
      exact v_pick [1, 2, 3, 0] rfl (hrec _ _)
    refine v_iconst (v := 0) dL_law_872 (by decide +kernel) ?_
    exact v_ret (ty := .boolean) dL_law_873 rfl rfl (by decide +kernel)
  refine v_swc (fun _ => ?_) (fun _ => ?_)
  · skip
    refine v_aload_n dL_law_874 rfl rfl ?_
    refine v_aload_n dL_law_875 rfl rfl ?_
    refine v_iload_n dL_law_876 rfl rfl ?_
    refine v_iconst (v := 1) dL_law_877 (by decide +kernel) ?_
    refine v_iadd dL_law_878 ?_
    refine v_gd (fun g143 => ?_)
    refine v_sld dL_law_879 g143 ?_
    refine v_cbI (fun z hz => runV (as := [.int (SH.2.2 (ix (c1 + (1 : Int32))))]) dL_law_880 kv_L_106 rfl rfl (Nat.le_of_ble_eq_true rfl) (Nat.le_of_ble_eq_true rfl) (recvW hO.1 rfl rfl) (ct_X3_damp _ _ hO _) hz) (fun x145 s144 => ?_)
    refine v_aload_n dL_law_883 rfl rfl ?_
    refine v_aload_n dL_law_884 rfl rfl ?_
    refine v_iload_n dL_law_885 rfl rfl ?_
    refine v_iconst (v := 1) dL_law_886 (by decide +kernel) ?_
    refine v_iadd dL_law_887 ?_
    refine v_gd (fun g146 => ?_)
    refine v_sld dL_law_888 g146 ?_
    refine v_cbI (fun z hz => runV (as := [.int (SH.2.2 (ix (c1 + (1 : Int32))))]) dL_law_889 kv_L_109 rfl rfl (Nat.le_of_ble_eq_true rfl) (Nat.le_of_ble_eq_true rfl) (recvW hR.1 rfl rfl) (ct_X4_damp _ _ hR _) hz) (fun x148 s147 => ?_)
    refine v_icmp_eq (tgt := 1787) dL_law_892 (by decide) (fun _ => ?_) (fun _ => ?_)
    · skip
      refine v_iinc (v := (c1 + (5 : Int32))) (L' := [(3, .int (c1 + (5 : Int32))), (0, .ref 5000), (1, .ref 0), (2, .ref 53)]) dL_law_1787 rfl rfl (by decide) rfl ?_
      refine v_goto (tgt := 18) dL_law_1790 (by decide) ?_
      exact v_pick [1, 2, 3, 0] rfl (hrec _ _)
    refine v_iconst (v := 0) dL_law_895 (by decide +kernel) ?_
    exact v_ret (ty := .boolean) dL_law_896 rfl rfl (by decide +kernel)
  refine v_swc (fun _ => ?_) (fun _ => ?_)
  · skip
    refine v_aload_n dL_law_897 rfl rfl ?_
    refine v_aload_n dL_law_898 rfl rfl ?_
    refine v_iload_n dL_law_899 rfl rfl ?_
    refine v_iconst (v := 1) dL_law_900 (by decide +kernel) ?_
    refine v_iadd dL_law_901 ?_
    refine v_gd (fun g149 => ?_)
    refine v_sld dL_law_902 g149 ?_
    refine v_cbI (fun z hz => runV (as := [.int (SH.2.2 (ix (c1 + (1 : Int32))))]) dL_law_903 kv_L_110 rfl rfl (Nat.le_of_ble_eq_true rfl) (Nat.le_of_ble_eq_true rfl) (recvW hO.1 rfl rfl) (ct_X3_loss _ _ hO _) hz) (fun x151 s150 => ?_)
    refine v_aload_n dL_law_906 rfl rfl ?_
    refine v_aload_n dL_law_907 rfl rfl ?_
    refine v_iload_n dL_law_908 rfl rfl ?_
    refine v_iconst (v := 1) dL_law_909 (by decide +kernel) ?_
    refine v_iadd dL_law_910 ?_
    refine v_gd (fun g152 => ?_)
    refine v_sld dL_law_911 g152 ?_
    refine v_cbI (fun z hz => runV (as := [.int (SH.2.2 (ix (c1 + (1 : Int32))))]) dL_law_912 kv_L_113 rfl rfl (Nat.le_of_ble_eq_true rfl) (Nat.le_of_ble_eq_true rfl) (recvW hR.1 rfl rfl) (ct_X4_loss _ _ hR _) hz) (fun x154 s153 => ?_)
    refine v_icmp_eq (tgt := 1787) dL_law_915 (by decide) (fun _ => ?_) (fun _ => ?_)
    · skip
      refine v_iinc (v := (c1 + (5 : Int32))) (L' := [(3, .int (c1 + (5 : Int32))), (0, .ref 5000), (1, .ref 0), (2, .ref 53)]) dL_law_1787 rfl rfl (by decide) rfl ?_
      refine v_goto (tgt := 18) dL_law_1790 (by decide) ?_
      exact v_pick [1, 2, 3, 0] rfl (hrec _ _)
    refine v_iconst (v := 0) dL_law_918 (by decide +kernel) ?_
    exact v_ret (ty := .boolean) dL_law_919 rfl rfl (by decide +kernel)
  refine v_swc (fun _ => ?_) (fun _ => ?_)
  · skip
    refine v_aload_n dL_law_920 rfl rfl ?_
    refine v_cbI (fun z hz => runV (as := []) dL_law_921 kv_L_114 rfl rfl (Nat.le_of_ble_eq_true rfl) (Nat.le_of_ble_eq_true rfl) (recvW hO.1 rfl rfl) (ct_X3_drowned _ hO _) hz) (fun x156 s155 => ?_)
    refine v_aload_n dL_law_924 rfl rfl ?_
    refine v_cbI (fun z hz => runV (as := []) dL_law_925 kv_L_117 rfl rfl (Nat.le_of_ble_eq_true rfl) (Nat.le_of_ble_eq_true rfl) (recvW hR.1 rfl rfl) (ct_X4_drowned _ hR _) hz) (fun x158 s157 => ?_)
    refine v_icmp_eq (tgt := 1787) dL_law_928 (by decide) (fun _ => ?_) (fun _ => ?_)
    · skip
      refine v_iinc (v := (c1 + (5 : Int32))) (L' := [(3, .int (c1 + (5 : Int32))), (0, .ref 5000), (1, .ref 0), (2, .ref 53)]) dL_law_1787 rfl rfl (by decide) rfl ?_
      refine v_goto (tgt := 18) dL_law_1790 (by decide) ?_
      exact v_pick [1, 2, 3, 0] rfl (hrec _ _)
    refine v_iconst (v := 0) dL_law_931 (by decide +kernel) ?_
    exact v_ret (ty := .boolean) dL_law_932 rfl rfl (by decide +kernel)
  refine v_swc (fun _ => ?_) (fun _ => ?_)
  · skip
    refine v_aload_n dL_law_933 rfl rfl ?_
    refine v_aload_n dL_law_934 rfl rfl ?_
    refine v_iload_n dL_law_935 rfl rfl ?_
    refine v_iconst (v := 1) dL_law_936 (by decide +kernel) ?_
    refine v_iadd dL_law_937 ?_
    refine v_gd (fun g159 => ?_)
    refine v_sld dL_law_938 g159 ?_
    refine v_aload_n dL_law_939 rfl rfl ?_
    refine v_iload_n dL_law_940 rfl rfl ?_
    refine v_iconst (v := 2) dL_law_941 (by decide +kernel) ?_
    refine v_iadd dL_law_942 ?_
    refine v_gd (fun g160 => ?_)
    refine v_sld dL_law_943 g160 ?_
    refine v_aload_n dL_law_944 rfl rfl ?_
    refine v_iload_n dL_law_945 rfl rfl ?_
    refine v_iconst (v := 3) dL_law_946 (by decide +kernel) ?_
    refine v_iadd dL_law_947 ?_
    refine v_gd (fun g161 => ?_)
    refine v_sld dL_law_948 g161 ?_
    refine v_cbI (fun z hz => runV (as := [.int (SH.2.2 (ix (c1 + (1 : Int32)))), .int (SH.2.2 (ix (c1 + (2 : Int32)))), .int (SH.2.2 (ix (c1 + (3 : Int32))))]) dL_law_949 kv_L_118 rfl rfl (Nat.le_of_ble_eq_true rfl) (Nat.le_of_ble_eq_true rfl) (recvW hO.1 rfl rfl) (ct_X3_whereFor _ _ _ _ hO _) hz) (fun x163 s162 => ?_)
    refine v_aload_n dL_law_952 rfl rfl ?_
    refine v_aload_n dL_law_953 rfl rfl ?_
    refine v_iload_n dL_law_954 rfl rfl ?_
    refine v_iconst (v := 1) dL_law_955 (by decide +kernel) ?_
    refine v_iadd dL_law_956 ?_
    refine v_gd (fun g164 => ?_)
    refine v_sld dL_law_957 g164 ?_
    refine v_aload_n dL_law_958 rfl rfl ?_
    refine v_iload_n dL_law_959 rfl rfl ?_
    refine v_iconst (v := 2) dL_law_960 (by decide +kernel) ?_
    refine v_iadd dL_law_961 ?_
    refine v_gd (fun g165 => ?_)
    refine v_sld dL_law_962 g165 ?_
    refine v_aload_n dL_law_963 rfl rfl ?_
    refine v_iload_n dL_law_964 rfl rfl ?_
    refine v_iconst (v := 3) dL_law_965 (by decide +kernel) ?_
    refine v_iadd dL_law_966 ?_
    refine v_gd (fun g166 => ?_)
    refine v_sld dL_law_967 g166 ?_
    refine v_cbI (fun z hz => runV (as := [.int (SH.2.2 (ix (c1 + (1 : Int32)))), .int (SH.2.2 (ix (c1 + (2 : Int32)))), .int (SH.2.2 (ix (c1 + (3 : Int32))))]) dL_law_968 kv_L_121 rfl rfl (Nat.le_of_ble_eq_true rfl) (Nat.le_of_ble_eq_true rfl) (recvW hR.1 rfl rfl) (ct_X4_whereFor _ _ _ _ hR _) hz) (fun x168 s167 => ?_)
    refine v_icmp_eq (tgt := 1787) dL_law_971 (by decide) (fun _ => ?_) (fun _ => ?_)
    · skip
      refine v_iinc (v := (c1 + (5 : Int32))) (L' := [(3, .int (c1 + (5 : Int32))), (0, .ref 5000), (1, .ref 0), (2, .ref 53)]) dL_law_1787 rfl rfl (by decide) rfl ?_
      refine v_goto (tgt := 18) dL_law_1790 (by decide) ?_
      exact v_pick [1, 2, 3, 0] rfl (hrec _ _)
    refine v_iconst (v := 0) dL_law_974 (by decide +kernel) ?_
    exact v_ret (ty := .boolean) dL_law_975 rfl rfl (by decide +kernel)
  refine v_swc (fun _ => ?_) (fun _ => ?_)
  · skip
    refine v_aload_n dL_law_976 rfl rfl ?_
    refine v_aload_n dL_law_977 rfl rfl ?_
    refine v_iload_n dL_law_978 rfl rfl ?_
    refine v_iconst (v := 1) dL_law_979 (by decide +kernel) ?_
    refine v_iadd dL_law_980 ?_
    refine v_gd (fun g169 => ?_)
    refine v_sld dL_law_981 g169 ?_
    refine v_aload_n dL_law_982 rfl rfl ?_
    refine v_iload_n dL_law_983 rfl rfl ?_
    refine v_iconst (v := 2) dL_law_984 (by decide +kernel) ?_
    refine v_iadd dL_law_985 ?_
    refine v_gd (fun g170 => ?_)
    refine v_sld dL_law_986 g170 ?_
    refine v_aload_n dL_law_987 rfl rfl ?_
    refine v_iload_n dL_law_988 rfl rfl ?_
    refine v_iconst (v := 3) dL_law_989 (by decide +kernel) ?_
    refine v_iadd dL_law_990 ?_
    refine v_gd (fun g171 => ?_)
    refine v_sld dL_law_991 g171 ?_
    refine v_cbI (fun z hz => runV (as := [.int (SH.2.2 (ix (c1 + (1 : Int32)))), .int (SH.2.2 (ix (c1 + (2 : Int32)))), .int (SH.2.2 (ix (c1 + (3 : Int32))))]) dL_law_992 kv_L_122 rfl rfl (Nat.le_of_ble_eq_true rfl) (Nat.le_of_ble_eq_true rfl) (recvW hO.1 rfl rfl) (ct_X3_kindFor _ _ _ _ hO _) hz) (fun x173 s172 => ?_)
    refine v_aload_n dL_law_995 rfl rfl ?_
    refine v_aload_n dL_law_996 rfl rfl ?_
    refine v_iload_n dL_law_997 rfl rfl ?_
    refine v_iconst (v := 1) dL_law_998 (by decide +kernel) ?_
    refine v_iadd dL_law_999 ?_
    refine v_gd (fun g174 => ?_)
    refine v_sld dL_law_1000 g174 ?_
    refine v_aload_n dL_law_1001 rfl rfl ?_
    refine v_iload_n dL_law_1002 rfl rfl ?_
    refine v_iconst (v := 2) dL_law_1003 (by decide +kernel) ?_
    refine v_iadd dL_law_1004 ?_
    refine v_gd (fun g175 => ?_)
    refine v_sld dL_law_1005 g175 ?_
    refine v_aload_n dL_law_1006 rfl rfl ?_
    refine v_iload_n dL_law_1007 rfl rfl ?_
    refine v_iconst (v := 3) dL_law_1008 (by decide +kernel) ?_
    refine v_iadd dL_law_1009 ?_
    refine v_gd (fun g176 => ?_)
    refine v_sld dL_law_1010 g176 ?_
    refine v_cbI (fun z hz => runV (as := [.int (SH.2.2 (ix (c1 + (1 : Int32)))), .int (SH.2.2 (ix (c1 + (2 : Int32)))), .int (SH.2.2 (ix (c1 + (3 : Int32))))]) dL_law_1011 kv_L_125 rfl rfl (Nat.le_of_ble_eq_true rfl) (Nat.le_of_ble_eq_true rfl) (recvW hR.1 rfl rfl) (ct_X4_kindFor _ _ _ _ hR _) hz) (fun x178 s177 => ?_)
    refine v_icmp_eq (tgt := 1787) dL_law_1014 (by decide) (fun _ => ?_) (fun _ => ?_)
    · skip
      refine v_iinc (v := (c1 + (5 : Int32))) (L' := [(3, .int (c1 + (5 : Int32))), (0, .ref 5000), (1, .ref 0), (2, .ref 53)]) dL_law_1787 rfl rfl (by decide) rfl ?_
      refine v_goto (tgt := 18) dL_law_1790 (by decide) ?_
      exact v_pick [1, 2, 3, 0] rfl (hrec _ _)
    refine v_iconst (v := 0) dL_law_1017 (by decide +kernel) ?_
    exact v_ret (ty := .boolean) dL_law_1018 rfl rfl (by decide +kernel)
  refine v_swc (fun _ => ?_) (fun _ => ?_)
  · skip
    refine v_aload_n dL_law_1019 rfl rfl ?_
    refine v_aload_n dL_law_1020 rfl rfl ?_
    refine v_iload_n dL_law_1021 rfl rfl ?_
    refine v_iconst (v := 1) dL_law_1022 (by decide +kernel) ?_
    refine v_iadd dL_law_1023 ?_
    refine v_gd (fun g179 => ?_)
    refine v_sld dL_law_1024 g179 ?_
    refine v_aload_n dL_law_1025 rfl rfl ?_
    refine v_iload_n dL_law_1026 rfl rfl ?_
    refine v_iconst (v := 2) dL_law_1027 (by decide +kernel) ?_
    refine v_iadd dL_law_1028 ?_
    refine v_gd (fun g180 => ?_)
    refine v_sld dL_law_1029 g180 ?_
    refine v_aload_n dL_law_1030 rfl rfl ?_
    refine v_iload_n dL_law_1031 rfl rfl ?_
    refine v_iconst (v := 3) dL_law_1032 (by decide +kernel) ?_
    refine v_iadd dL_law_1033 ?_
    refine v_gd (fun g181 => ?_)
    refine v_sld dL_law_1034 g181 ?_
    refine v_cbI (fun z hz => runV (as := [.int (SH.2.2 (ix (c1 + (1 : Int32)))), .int (SH.2.2 (ix (c1 + (2 : Int32)))), .int (SH.2.2 (ix (c1 + (3 : Int32))))]) dL_law_1035 kv_L_126 rfl rfl (Nat.le_of_ble_eq_true rfl) (Nat.le_of_ble_eq_true rfl) (recvW hO.1 rfl rfl) (ct_X3_annoyed _ _ _ _ hO _) hz) (fun x183 s182 => ?_)
    refine v_aload_n dL_law_1038 rfl rfl ?_
    refine v_aload_n dL_law_1039 rfl rfl ?_
    refine v_iload_n dL_law_1040 rfl rfl ?_
    refine v_iconst (v := 1) dL_law_1041 (by decide +kernel) ?_
    refine v_iadd dL_law_1042 ?_
    refine v_gd (fun g184 => ?_)
    refine v_sld dL_law_1043 g184 ?_
    refine v_aload_n dL_law_1044 rfl rfl ?_
    refine v_iload_n dL_law_1045 rfl rfl ?_
    refine v_iconst (v := 2) dL_law_1046 (by decide +kernel) ?_
    refine v_iadd dL_law_1047 ?_
    refine v_gd (fun g185 => ?_)
    refine v_sld dL_law_1048 g185 ?_
    refine v_aload_n dL_law_1049 rfl rfl ?_
    refine v_iload_n dL_law_1050 rfl rfl ?_
    refine v_iconst (v := 3) dL_law_1051 (by decide +kernel) ?_
    refine v_iadd dL_law_1052 ?_
    refine v_gd (fun g186 => ?_)
    refine v_sld dL_law_1053 g186 ?_
    refine v_cbI (fun z hz => runV (as := [.int (SH.2.2 (ix (c1 + (1 : Int32)))), .int (SH.2.2 (ix (c1 + (2 : Int32)))), .int (SH.2.2 (ix (c1 + (3 : Int32))))]) dL_law_1054 kv_L_129 rfl rfl (Nat.le_of_ble_eq_true rfl) (Nat.le_of_ble_eq_true rfl) (recvW hR.1 rfl rfl) (ct_X4_annoyed _ _ _ _ hR _) hz) (fun x188 s187 => ?_)
    refine v_icmp_eq (tgt := 1787) dL_law_1057 (by decide) (fun _ => ?_) (fun _ => ?_)
    · skip
      refine v_iinc (v := (c1 + (5 : Int32))) (L' := [(3, .int (c1 + (5 : Int32))), (0, .ref 5000), (1, .ref 0), (2, .ref 53)]) dL_law_1787 rfl rfl (by decide) rfl ?_
      refine v_goto (tgt := 18) dL_law_1790 (by decide) ?_
      exact v_pick [1, 2, 3, 0] rfl (hrec _ _)
    refine v_iconst (v := 0) dL_law_1060 (by decide +kernel) ?_
    exact v_ret (ty := .boolean) dL_law_1061 rfl rfl (by decide +kernel)
  refine v_swc (fun _ => ?_) (fun _ => ?_)
  · skip
    refine v_aload_n dL_law_1062 rfl rfl ?_
    refine v_aload_n dL_law_1063 rfl rfl ?_
    refine v_iload_n dL_law_1064 rfl rfl ?_
    refine v_iconst (v := 1) dL_law_1065 (by decide +kernel) ?_
    refine v_iadd dL_law_1066 ?_
    refine v_gd (fun g189 => ?_)
    refine v_sld dL_law_1067 g189 ?_
    refine v_aload_n dL_law_1068 rfl rfl ?_
    refine v_iload_n dL_law_1069 rfl rfl ?_
    refine v_iconst (v := 2) dL_law_1070 (by decide +kernel) ?_
    refine v_iadd dL_law_1071 ?_
    refine v_gd (fun g190 => ?_)
    refine v_sld dL_law_1072 g190 ?_
    refine v_cbI (fun z hz => runV (as := [.int (SH.2.2 (ix (c1 + (1 : Int32)))), .int (SH.2.2 (ix (c1 + (2 : Int32))))]) dL_law_1073 kv_L_130 rfl rfl (Nat.le_of_ble_eq_true rfl) (Nat.le_of_ble_eq_true rfl) (recvW hO.1 rfl rfl) (ct_X3_needed _ _ _ hO _) hz) (fun x192 s191 => ?_)
    refine v_aload_n dL_law_1076 rfl rfl ?_
    refine v_aload_n dL_law_1077 rfl rfl ?_
    refine v_iload_n dL_law_1078 rfl rfl ?_
    refine v_iconst (v := 1) dL_law_1079 (by decide +kernel) ?_
    refine v_iadd dL_law_1080 ?_
    refine v_gd (fun g193 => ?_)
    refine v_sld dL_law_1081 g193 ?_
    refine v_aload_n dL_law_1082 rfl rfl ?_
    refine v_iload_n dL_law_1083 rfl rfl ?_
    refine v_iconst (v := 2) dL_law_1084 (by decide +kernel) ?_
    refine v_iadd dL_law_1085 ?_
    refine v_gd (fun g194 => ?_)
    refine v_sld dL_law_1086 g194 ?_
    refine v_cbI (fun z hz => runV (as := [.int (SH.2.2 (ix (c1 + (1 : Int32)))), .int (SH.2.2 (ix (c1 + (2 : Int32))))]) dL_law_1087 kv_L_133 rfl rfl (Nat.le_of_ble_eq_true rfl) (Nat.le_of_ble_eq_true rfl) (recvW hR.1 rfl rfl) (ct_X4_needed _ _ _ hR _) hz) (fun x196 s195 => ?_)
    refine v_icmp_eq (tgt := 1787) dL_law_1090 (by decide) (fun _ => ?_) (fun _ => ?_)
    · skip
      refine v_iinc (v := (c1 + (5 : Int32))) (L' := [(3, .int (c1 + (5 : Int32))), (0, .ref 5000), (1, .ref 0), (2, .ref 53)]) dL_law_1787 rfl rfl (by decide) rfl ?_
      refine v_goto (tgt := 18) dL_law_1790 (by decide) ?_
      exact v_pick [1, 2, 3, 0] rfl (hrec _ _)
    refine v_iconst (v := 0) dL_law_1093 (by decide +kernel) ?_
    exact v_ret (ty := .boolean) dL_law_1094 rfl rfl (by decide +kernel)
  refine v_swc (fun _ => ?_) (fun _ => ?_)
  · skip
    refine v_aload_n dL_law_1095 rfl rfl ?_
    refine v_aload_n dL_law_1096 rfl rfl ?_
    refine v_iload_n dL_law_1097 rfl rfl ?_
    refine v_iconst (v := 1) dL_law_1098 (by decide +kernel) ?_
    refine v_iadd dL_law_1099 ?_
    refine v_gd (fun g197 => ?_)
    refine v_sld dL_law_1100 g197 ?_
    refine v_aload_n dL_law_1101 rfl rfl ?_
    refine v_iload_n dL_law_1102 rfl rfl ?_
    refine v_iconst (v := 2) dL_law_1103 (by decide +kernel) ?_
    refine v_iadd dL_law_1104 ?_
    refine v_gd (fun g198 => ?_)
    refine v_sld dL_law_1105 g198 ?_
    refine v_cbI (fun z hz => runV (as := [.int (SH.2.2 (ix (c1 + (1 : Int32)))), .int (SH.2.2 (ix (c1 + (2 : Int32))))]) dL_law_1106 kv_L_134 rfl rfl (Nat.le_of_ble_eq_true rfl) (Nat.le_of_ble_eq_true rfl) (recvW hO.1 rfl rfl) (ct_X3_fewest _ _ _ hO _) hz) (fun x200 s199 => ?_)
    refine v_aload_n dL_law_1109 rfl rfl ?_
    refine v_aload_n dL_law_1110 rfl rfl ?_
    refine v_iload_n dL_law_1111 rfl rfl ?_
    refine v_iconst (v := 1) dL_law_1112 (by decide +kernel) ?_
    refine v_iadd dL_law_1113 ?_
    refine v_gd (fun g201 => ?_)
    refine v_sld dL_law_1114 g201 ?_
    refine v_aload_n dL_law_1115 rfl rfl ?_
    refine v_iload_n dL_law_1116 rfl rfl ?_
    refine v_iconst (v := 2) dL_law_1117 (by decide +kernel) ?_
    refine v_iadd dL_law_1118 ?_
    refine v_gd (fun g202 => ?_)
    refine v_sld dL_law_1119 g202 ?_
    refine v_cbI (fun z hz => runV (as := [.int (SH.2.2 (ix (c1 + (1 : Int32)))), .int (SH.2.2 (ix (c1 + (2 : Int32))))]) dL_law_1120 kv_L_137 rfl rfl (Nat.le_of_ble_eq_true rfl) (Nat.le_of_ble_eq_true rfl) (recvW hR.1 rfl rfl) (ct_X4_fewest _ _ _ hR _) hz) (fun x204 s203 => ?_)
    refine v_icmp_eq (tgt := 1787) dL_law_1123 (by decide) (fun _ => ?_) (fun _ => ?_)
    · skip
      refine v_iinc (v := (c1 + (5 : Int32))) (L' := [(3, .int (c1 + (5 : Int32))), (0, .ref 5000), (1, .ref 0), (2, .ref 53)]) dL_law_1787 rfl rfl (by decide) rfl ?_
      refine v_goto (tgt := 18) dL_law_1790 (by decide) ?_
      exact v_pick [1, 2, 3, 0] rfl (hrec _ _)
    refine v_iconst (v := 0) dL_law_1126 (by decide +kernel) ?_
    exact v_ret (ty := .boolean) dL_law_1127 rfl rfl (by decide +kernel)
  refine v_swc (fun _ => ?_) (fun _ => ?_)
  · skip
    refine v_aload_n dL_law_1128 rfl rfl ?_
    refine v_aload_n dL_law_1129 rfl rfl ?_
    refine v_iload_n dL_law_1130 rfl rfl ?_
    refine v_iconst (v := 1) dL_law_1131 (by decide +kernel) ?_
    refine v_iadd dL_law_1132 ?_
    refine v_gd (fun g205 => ?_)
    refine v_sld dL_law_1133 g205 ?_
    refine v_cpI (fun z hz => runV (as := [.int (SH.2.2 (ix (c1 + (1 : Int32))))]) dL_law_1134 kv_L_138 rfl rfl (Nat.le_of_ble_eq_true rfl) (Nat.le_of_ble_eq_true rfl) (recvW hO.1 rfl rfl) (ct_X3_ends _ _ hO _) hz) (fun x206 => ?_)
    refine v_aload_n dL_law_1137 rfl rfl ?_
    refine v_aload_n dL_law_1138 rfl rfl ?_
    refine v_iload_n dL_law_1139 rfl rfl ?_
    refine v_iconst (v := 1) dL_law_1140 (by decide +kernel) ?_
    refine v_iadd dL_law_1141 ?_
    refine v_gd (fun g207 => ?_)
    refine v_sld dL_law_1142 g207 ?_
    refine v_cpI (fun z hz => runV (as := [.int (SH.2.2 (ix (c1 + (1 : Int32))))]) dL_law_1143 kv_L_141 rfl rfl (Nat.le_of_ble_eq_true rfl) (Nat.le_of_ble_eq_true rfl) (recvW hR.1 rfl rfl) (ct_X4_ends _ _ hR _) hz) (fun x208 => ?_)
    refine v_icmp_eq (tgt := 1787) dL_law_1146 (by decide) (fun _ => ?_) (fun _ => ?_)
    · skip
      refine v_iinc (v := (c1 + (5 : Int32))) (L' := [(3, .int (c1 + (5 : Int32))), (0, .ref 5000), (1, .ref 0), (2, .ref 53)]) dL_law_1787 rfl rfl (by decide) rfl ?_
      refine v_goto (tgt := 18) dL_law_1790 (by decide) ?_
      exact v_pick [1, 2, 3, 0] rfl (hrec _ _)
    refine v_iconst (v := 0) dL_law_1149 (by decide +kernel) ?_
    exact v_ret (ty := .boolean) dL_law_1150 rfl rfl (by decide +kernel)
  refine v_swc (fun _ => ?_) (fun _ => ?_)
  · skip
    refine v_aload_n dL_law_1151 rfl rfl ?_
    refine v_aload_n dL_law_1152 rfl rfl ?_
    refine v_iload_n dL_law_1153 rfl rfl ?_
    refine v_iconst (v := 1) dL_law_1154 (by decide +kernel) ?_
    refine v_iadd dL_law_1155 ?_
    refine v_gd (fun g209 => ?_)
    refine v_sld dL_law_1156 g209 ?_
    refine v_aload_n dL_law_1157 rfl rfl ?_
    refine v_iload_n dL_law_1158 rfl rfl ?_
    refine v_iconst (v := 2) dL_law_1159 (by decide +kernel) ?_
    refine v_iadd dL_law_1160 ?_
    refine v_gd (fun g210 => ?_)
    refine v_sld dL_law_1161 g210 ?_
    refine v_aload_n dL_law_1162 rfl rfl ?_
    refine v_iload_n dL_law_1163 rfl rfl ?_
    refine v_iconst (v := 3) dL_law_1164 (by decide +kernel) ?_
    refine v_iadd dL_law_1165 ?_
    refine v_gd (fun g211 => ?_)
    refine v_sld dL_law_1166 g211 ?_
    refine v_aload_n dL_law_1167 rfl rfl ?_
    refine v_iload_n dL_law_1168 rfl rfl ?_
    refine v_iconst (v := 4) dL_law_1169 (by decide +kernel) ?_
    refine v_iadd dL_law_1170 ?_
    refine v_gd (fun g212 => ?_)
    refine v_sld dL_law_1171 g212 ?_
    refine v_cbI (fun z hz => runV (as := [.int (SH.2.2 (ix (c1 + (1 : Int32)))), .int (SH.2.2 (ix (c1 + (2 : Int32)))), .int (SH.2.2 (ix (c1 + (3 : Int32)))), .int (SH.2.2 (ix (c1 + (4 : Int32))))]) dL_law_1172 kv_L_142 rfl rfl (Nat.le_of_ble_eq_true rfl) (Nat.le_of_ble_eq_true rfl) (recvW hO.1 rfl rfl) (ct_X3_fits _ _ _ _ _ hO _) hz) (fun x214 s213 => ?_)
    refine v_aload_n dL_law_1175 rfl rfl ?_
    refine v_aload_n dL_law_1176 rfl rfl ?_
    refine v_iload_n dL_law_1177 rfl rfl ?_
    refine v_iconst (v := 1) dL_law_1178 (by decide +kernel) ?_
    refine v_iadd dL_law_1179 ?_
    refine v_gd (fun g215 => ?_)
    refine v_sld dL_law_1180 g215 ?_
    refine v_aload_n dL_law_1181 rfl rfl ?_
    refine v_iload_n dL_law_1182 rfl rfl ?_
    refine v_iconst (v := 2) dL_law_1183 (by decide +kernel) ?_
    refine v_iadd dL_law_1184 ?_
    refine v_gd (fun g216 => ?_)
    refine v_sld dL_law_1185 g216 ?_
    refine v_aload_n dL_law_1186 rfl rfl ?_
    refine v_iload_n dL_law_1187 rfl rfl ?_
    refine v_iconst (v := 3) dL_law_1188 (by decide +kernel) ?_
    refine v_iadd dL_law_1189 ?_
    refine v_gd (fun g217 => ?_)
    refine v_sld dL_law_1190 g217 ?_
    refine v_aload_n dL_law_1191 rfl rfl ?_
    refine v_iload_n dL_law_1192 rfl rfl ?_
    refine v_iconst (v := 4) dL_law_1193 (by decide +kernel) ?_
    refine v_iadd dL_law_1194 ?_
    refine v_gd (fun g218 => ?_)
    refine v_sld dL_law_1195 g218 ?_
    refine v_cbI (fun z hz => runV (as := [.int (SH.2.2 (ix (c1 + (1 : Int32)))), .int (SH.2.2 (ix (c1 + (2 : Int32)))), .int (SH.2.2 (ix (c1 + (3 : Int32)))), .int (SH.2.2 (ix (c1 + (4 : Int32))))]) dL_law_1196 kv_L_145 rfl rfl (Nat.le_of_ble_eq_true rfl) (Nat.le_of_ble_eq_true rfl) (recvW hR.1 rfl rfl) (ct_X4_fits _ _ _ _ _ hR _) hz) (fun x220 s219 => ?_)
    refine v_icmp_eq (tgt := 1787) dL_law_1199 (by decide) (fun _ => ?_) (fun _ => ?_)
    · skip
      refine v_iinc (v := (c1 + (5 : Int32))) (L' := [(3, .int (c1 + (5 : Int32))), (0, .ref 5000), (1, .ref 0), (2, .ref 53)]) dL_law_1787 rfl rfl (by decide) rfl ?_
      refine v_goto (tgt := 18) dL_law_1790 (by decide) ?_
      exact v_pick [1, 2, 3, 0] rfl (hrec _ _)
    refine v_iconst (v := 0) dL_law_1202 (by decide +kernel) ?_
    exact v_ret (ty := .boolean) dL_law_1203 rfl rfl (by decide +kernel)
  refine v_swc (fun _ => ?_) (fun _ => ?_)
  · skip
    refine v_aload_n dL_law_1204 rfl rfl ?_
    refine v_aload_n dL_law_1205 rfl rfl ?_
    refine v_iload_n dL_law_1206 rfl rfl ?_
    refine v_iconst (v := 1) dL_law_1207 (by decide +kernel) ?_
    refine v_iadd dL_law_1208 ?_
    refine v_gd (fun g221 => ?_)
    refine v_sld dL_law_1209 g221 ?_
    refine v_aload_n dL_law_1210 rfl rfl ?_
    refine v_iload_n dL_law_1211 rfl rfl ?_
    refine v_iconst (v := 2) dL_law_1212 (by decide +kernel) ?_
    refine v_iadd dL_law_1213 ?_
    refine v_gd (fun g222 => ?_)
    refine v_sld dL_law_1214 g222 ?_
    refine v_aload_n dL_law_1215 rfl rfl ?_
    refine v_iload_n dL_law_1216 rfl rfl ?_
    refine v_iconst (v := 3) dL_law_1217 (by decide +kernel) ?_
    refine v_iadd dL_law_1218 ?_
    refine v_gd (fun g223 => ?_)
    refine v_sld dL_law_1219 g223 ?_
    refine v_cpL (fun z hz => runV (as := [.int (SH.2.2 (ix (c1 + (1 : Int32)))), .int (SH.2.2 (ix (c1 + (2 : Int32)))), .int (SH.2.2 (ix (c1 + (3 : Int32))))]) dL_law_1220 kv_L_146 rfl rfl (Nat.le_of_ble_eq_true rfl) (Nat.le_of_ble_eq_true rfl) (recvW hO.1 rfl rfl) (ct_X3_odds _ _ _ _ hO _) hz) (fun x224 => ?_)
    refine v_aload_n dL_law_1223 rfl rfl ?_
    refine v_aload_n dL_law_1224 rfl rfl ?_
    refine v_iload_n dL_law_1225 rfl rfl ?_
    refine v_iconst (v := 1) dL_law_1226 (by decide +kernel) ?_
    refine v_iadd dL_law_1227 ?_
    refine v_gd (fun g225 => ?_)
    refine v_sld dL_law_1228 g225 ?_
    refine v_aload_n dL_law_1229 rfl rfl ?_
    refine v_iload_n dL_law_1230 rfl rfl ?_
    refine v_iconst (v := 2) dL_law_1231 (by decide +kernel) ?_
    refine v_iadd dL_law_1232 ?_
    refine v_gd (fun g226 => ?_)
    refine v_sld dL_law_1233 g226 ?_
    refine v_aload_n dL_law_1234 rfl rfl ?_
    refine v_iload_n dL_law_1235 rfl rfl ?_
    refine v_iconst (v := 3) dL_law_1236 (by decide +kernel) ?_
    refine v_iadd dL_law_1237 ?_
    refine v_gd (fun g227 => ?_)
    refine v_sld dL_law_1238 g227 ?_
    refine v_cpL (fun z hz => runV (as := [.int (SH.2.2 (ix (c1 + (1 : Int32)))), .int (SH.2.2 (ix (c1 + (2 : Int32)))), .int (SH.2.2 (ix (c1 + (3 : Int32))))]) dL_law_1239 kv_L_150 rfl rfl (Nat.le_of_ble_eq_true rfl) (Nat.le_of_ble_eq_true rfl) (recvW hR.1 rfl rfl) (ct_X4_odds _ _ _ _ hR _) hz) (fun x228 => ?_)
    refine v_lcmp dL_law_1242 ?_
    refine v_if_eq (tgt := 1787) dL_law_1243 (by decide) (fun _ => ?_) (fun _ => ?_)
    · skip
      refine v_iinc (v := (c1 + (5 : Int32))) (L' := [(3, .int (c1 + (5 : Int32))), (0, .ref 5000), (1, .ref 0), (2, .ref 53)]) dL_law_1787 rfl rfl (by decide) rfl ?_
      refine v_goto (tgt := 18) dL_law_1790 (by decide) ?_
      exact v_pick [1, 2, 3, 0] rfl (hrec _ _)
    refine v_iconst (v := 0) dL_law_1246 (by decide +kernel) ?_
    exact v_ret (ty := .boolean) dL_law_1247 rfl rfl (by decide +kernel)
  refine v_swc (fun _ => ?_) (fun _ => ?_)
  · skip
    refine v_aload_n dL_law_1248 rfl rfl ?_
    refine v_aload_n dL_law_1249 rfl rfl ?_
    refine v_iload_n dL_law_1250 rfl rfl ?_
    refine v_iconst (v := 1) dL_law_1251 (by decide +kernel) ?_
    refine v_iadd dL_law_1252 ?_
    refine v_gd (fun g229 => ?_)
    refine v_sld dL_law_1253 g229 ?_
    refine v_aload_n dL_law_1254 rfl rfl ?_
    refine v_iload_n dL_law_1255 rfl rfl ?_
    refine v_iconst (v := 2) dL_law_1256 (by decide +kernel) ?_
    refine v_iadd dL_law_1257 ?_
    refine v_gd (fun g230 => ?_)
    refine v_sld dL_law_1258 g230 ?_
    refine v_cpL (fun z hz => runV (as := [.int (SH.2.2 (ix (c1 + (1 : Int32)))), .int (SH.2.2 (ix (c1 + (2 : Int32))))]) dL_law_1259 kv_L_151 rfl rfl (Nat.le_of_ble_eq_true rfl) (Nat.le_of_ble_eq_true rfl) (recvW hO.1 rfl rfl) (ct_X3_hope _ _ _ hO _) hz) (fun x231 => ?_)
    refine v_aload_n dL_law_1262 rfl rfl ?_
    refine v_aload_n dL_law_1263 rfl rfl ?_
    refine v_iload_n dL_law_1264 rfl rfl ?_
    refine v_iconst (v := 1) dL_law_1265 (by decide +kernel) ?_
    refine v_iadd dL_law_1266 ?_
    refine v_gd (fun g232 => ?_)
    refine v_sld dL_law_1267 g232 ?_
    refine v_aload_n dL_law_1268 rfl rfl ?_
    refine v_iload_n dL_law_1269 rfl rfl ?_
    refine v_iconst (v := 2) dL_law_1270 (by decide +kernel) ?_
    refine v_iadd dL_law_1271 ?_
    refine v_gd (fun g233 => ?_)
    refine v_sld dL_law_1272 g233 ?_
    refine v_cpL (fun z hz => runV (as := [.int (SH.2.2 (ix (c1 + (1 : Int32)))), .int (SH.2.2 (ix (c1 + (2 : Int32))))]) dL_law_1273 kv_L_155 rfl rfl (Nat.le_of_ble_eq_true rfl) (Nat.le_of_ble_eq_true rfl) (recvW hR.1 rfl rfl) (ct_X4_hope _ _ _ hR _) hz) (fun x234 => ?_)
    refine v_lcmp dL_law_1276 ?_
    refine v_if_eq (tgt := 1787) dL_law_1277 (by decide) (fun _ => ?_) (fun _ => ?_)
    · skip
      refine v_iinc (v := (c1 + (5 : Int32))) (L' := [(3, .int (c1 + (5 : Int32))), (0, .ref 5000), (1, .ref 0), (2, .ref 53)]) dL_law_1787 rfl rfl (by decide) rfl ?_
      refine v_goto (tgt := 18) dL_law_1790 (by decide) ?_
      exact v_pick [1, 2, 3, 0] rfl (hrec _ _)
    refine v_iconst (v := 0) dL_law_1280 (by decide +kernel) ?_
    exact v_ret (ty := .boolean) dL_law_1281 rfl rfl (by decide +kernel)
  refine v_swc (fun _ => ?_) (fun _ => ?_)
  · skip
    refine v_aload_n dL_law_1282 rfl rfl ?_
    refine v_aload_n dL_law_1283 rfl rfl ?_
    refine v_iload_n dL_law_1284 rfl rfl ?_
    refine v_iconst (v := 1) dL_law_1285 (by decide +kernel) ?_
    refine v_iadd dL_law_1286 ?_
    refine v_gd (fun g235 => ?_)
    refine v_sld dL_law_1287 g235 ?_
    refine v_aload_n dL_law_1288 rfl rfl ?_
    refine v_iload_n dL_law_1289 rfl rfl ?_
    refine v_iconst (v := 2) dL_law_1290 (by decide +kernel) ?_
    refine v_iadd dL_law_1291 ?_
    refine v_gd (fun g236 => ?_)
    refine v_sld dL_law_1292 g236 ?_
    refine v_cbI (fun z hz => runV (as := [.int (SH.2.2 (ix (c1 + (1 : Int32)))), .int (SH.2.2 (ix (c1 + (2 : Int32))))]) dL_law_1293 kv_L_156 rfl rfl (Nat.le_of_ble_eq_true rfl) (Nat.le_of_ble_eq_true rfl) (recvW hO.1 rfl rfl) (ct_X3_prove _ _ _ hO _) hz) (fun x238 s237 => ?_)
    refine v_aload_n dL_law_1296 rfl rfl ?_
    refine v_aload_n dL_law_1297 rfl rfl ?_
    refine v_iload_n dL_law_1298 rfl rfl ?_
    refine v_iconst (v := 1) dL_law_1299 (by decide +kernel) ?_
    refine v_iadd dL_law_1300 ?_
    refine v_gd (fun g239 => ?_)
    refine v_sld dL_law_1301 g239 ?_
    refine v_aload_n dL_law_1302 rfl rfl ?_
    refine v_iload_n dL_law_1303 rfl rfl ?_
    refine v_iconst (v := 2) dL_law_1304 (by decide +kernel) ?_
    refine v_iadd dL_law_1305 ?_
    refine v_gd (fun g240 => ?_)
    refine v_sld dL_law_1306 g240 ?_
    refine v_cbI (fun z hz => runV (as := [.int (SH.2.2 (ix (c1 + (1 : Int32)))), .int (SH.2.2 (ix (c1 + (2 : Int32))))]) dL_law_1307 kv_L_159 rfl rfl (Nat.le_of_ble_eq_true rfl) (Nat.le_of_ble_eq_true rfl) (recvW hR.1 rfl rfl) (ct_X4_prove _ _ _ hR _) hz) (fun x242 s241 => ?_)
    refine v_icmp_eq (tgt := 1787) dL_law_1310 (by decide) (fun _ => ?_) (fun _ => ?_)
    · skip
      refine v_iinc (v := (c1 + (5 : Int32))) (L' := [(3, .int (c1 + (5 : Int32))), (0, .ref 5000), (1, .ref 0), (2, .ref 53)]) dL_law_1787 rfl rfl (by decide) rfl ?_
      refine v_goto (tgt := 18) dL_law_1790 (by decide) ?_
      exact v_pick [1, 2, 3, 0] rfl (hrec _ _)
    refine v_iconst (v := 0) dL_law_1313 (by decide +kernel) ?_
    exact v_ret (ty := .boolean) dL_law_1314 rfl rfl (by decide +kernel)
  refine v_swc (fun _ => ?_) (fun _ => ?_)
  · skip
    refine v_aload_n dL_law_1315 rfl rfl ?_
    refine v_aload_n dL_law_1316 rfl rfl ?_
    refine v_iload_n dL_law_1317 rfl rfl ?_
    refine v_iconst (v := 1) dL_law_1318 (by decide +kernel) ?_
    refine v_iadd dL_law_1319 ?_
    refine v_gd (fun g243 => ?_)
    refine v_sld dL_law_1320 g243 ?_
    refine v_aload_n dL_law_1321 rfl rfl ?_
    refine v_iload_n dL_law_1322 rfl rfl ?_
    refine v_iconst (v := 2) dL_law_1323 (by decide +kernel) ?_
    refine v_iadd dL_law_1324 ?_
    refine v_gd (fun g244 => ?_)
    refine v_sld dL_law_1325 g244 ?_
    refine v_cpI (fun z hz => runV (as := [.int (SH.2.2 (ix (c1 + (1 : Int32)))), .int (SH.2.2 (ix (c1 + (2 : Int32))))]) dL_law_1326 kv_L_160 rfl rfl (Nat.le_of_ble_eq_true rfl) (Nat.le_of_ble_eq_true rfl) (recvW hO.1 rfl rfl) (ct_X3_row _ _ _ hO _) hz) (fun x245 => ?_)
    refine v_aload_n dL_law_1329 rfl rfl ?_
    refine v_aload_n dL_law_1330 rfl rfl ?_
    refine v_iload_n dL_law_1331 rfl rfl ?_
    refine v_iconst (v := 1) dL_law_1332 (by decide +kernel) ?_
    refine v_iadd dL_law_1333 ?_
    refine v_gd (fun g246 => ?_)
    refine v_sld dL_law_1334 g246 ?_
    refine v_aload_n dL_law_1335 rfl rfl ?_
    refine v_iload_n dL_law_1336 rfl rfl ?_
    refine v_iconst (v := 2) dL_law_1337 (by decide +kernel) ?_
    refine v_iadd dL_law_1338 ?_
    refine v_gd (fun g247 => ?_)
    refine v_sld dL_law_1339 g247 ?_
    refine v_cpI (fun z hz => runV (as := [.int (SH.2.2 (ix (c1 + (1 : Int32)))), .int (SH.2.2 (ix (c1 + (2 : Int32))))]) dL_law_1340 kv_L_163 rfl rfl (Nat.le_of_ble_eq_true rfl) (Nat.le_of_ble_eq_true rfl) (recvW hR.1 rfl rfl) (ct_X4_row _ _ _ hR _) hz) (fun x248 => ?_)
    refine v_icmp_eq (tgt := 1787) dL_law_1343 (by decide) (fun _ => ?_) (fun _ => ?_)
    · skip
      refine v_iinc (v := (c1 + (5 : Int32))) (L' := [(3, .int (c1 + (5 : Int32))), (0, .ref 5000), (1, .ref 0), (2, .ref 53)]) dL_law_1787 rfl rfl (by decide) rfl ?_
      refine v_goto (tgt := 18) dL_law_1790 (by decide) ?_
      exact v_pick [1, 2, 3, 0] rfl (hrec _ _)
    refine v_iconst (v := 0) dL_law_1346 (by decide +kernel) ?_
    exact v_ret (ty := .boolean) dL_law_1347 rfl rfl (by decide +kernel)
  refine v_swc (fun _ => ?_) (fun _ => ?_)
  · skip
    refine v_aload_n dL_law_1348 rfl rfl ?_
    refine v_aload_n dL_law_1349 rfl rfl ?_
    refine v_iload_n dL_law_1350 rfl rfl ?_
    refine v_iconst (v := 1) dL_law_1351 (by decide +kernel) ?_
    refine v_iadd dL_law_1352 ?_
    refine v_gd (fun g249 => ?_)
    refine v_sld dL_law_1353 g249 ?_
    refine v_aload_n dL_law_1354 rfl rfl ?_
    refine v_iload_n dL_law_1355 rfl rfl ?_
    refine v_iconst (v := 2) dL_law_1356 (by decide +kernel) ?_
    refine v_iadd dL_law_1357 ?_
    refine v_gd (fun g250 => ?_)
    refine v_sld dL_law_1358 g250 ?_
    refine v_aload_n dL_law_1359 rfl rfl ?_
    refine v_iload_n dL_law_1360 rfl rfl ?_
    refine v_iconst (v := 3) dL_law_1361 (by decide +kernel) ?_
    refine v_iadd dL_law_1362 ?_
    refine v_gd (fun g251 => ?_)
    refine v_sld dL_law_1363 g251 ?_
    refine v_cbI (fun z hz => runV (as := [.int (SH.2.2 (ix (c1 + (1 : Int32)))), .int (SH.2.2 (ix (c1 + (2 : Int32)))), .int (SH.2.2 (ix (c1 + (3 : Int32))))]) dL_law_1364 kv_L_164 rfl rfl (Nat.le_of_ble_eq_true rfl) (Nat.le_of_ble_eq_true rfl) (recvW hO.1 rfl rfl) (ct_X3_alterRow _ _ _ _ hO _) hz) (fun x253 s252 => ?_)
    refine v_aload_n dL_law_1367 rfl rfl ?_
    refine v_aload_n dL_law_1368 rfl rfl ?_
    refine v_iload_n dL_law_1369 rfl rfl ?_
    refine v_iconst (v := 1) dL_law_1370 (by decide +kernel) ?_
    refine v_iadd dL_law_1371 ?_
    refine v_gd (fun g254 => ?_)
    refine v_sld dL_law_1372 g254 ?_
    refine v_aload_n dL_law_1373 rfl rfl ?_
    refine v_iload_n dL_law_1374 rfl rfl ?_
    refine v_iconst (v := 2) dL_law_1375 (by decide +kernel) ?_
    refine v_iadd dL_law_1376 ?_
    refine v_gd (fun g255 => ?_)
    refine v_sld dL_law_1377 g255 ?_
    refine v_aload_n dL_law_1378 rfl rfl ?_
    refine v_iload_n dL_law_1379 rfl rfl ?_
    refine v_iconst (v := 3) dL_law_1380 (by decide +kernel) ?_
    refine v_iadd dL_law_1381 ?_
    refine v_gd (fun g256 => ?_)
    refine v_sld dL_law_1382 g256 ?_
    refine v_cbI (fun z hz => runV (as := [.int (SH.2.2 (ix (c1 + (1 : Int32)))), .int (SH.2.2 (ix (c1 + (2 : Int32)))), .int (SH.2.2 (ix (c1 + (3 : Int32))))]) dL_law_1383 kv_L_167 rfl rfl (Nat.le_of_ble_eq_true rfl) (Nat.le_of_ble_eq_true rfl) (recvW hR.1 rfl rfl) (ct_X4_alterRow _ _ _ _ hR _) hz) (fun x258 s257 => ?_)
    refine v_icmp_eq (tgt := 1787) dL_law_1386 (by decide) (fun _ => ?_) (fun _ => ?_)
    · skip
      refine v_iinc (v := (c1 + (5 : Int32))) (L' := [(3, .int (c1 + (5 : Int32))), (0, .ref 5000), (1, .ref 0), (2, .ref 53)]) dL_law_1787 rfl rfl (by decide) rfl ?_
      refine v_goto (tgt := 18) dL_law_1790 (by decide) ?_
      exact v_pick [1, 2, 3, 0] rfl (hrec _ _)
    refine v_iconst (v := 0) dL_law_1389 (by decide +kernel) ?_
    exact v_ret (ty := .boolean) dL_law_1390 rfl rfl (by decide +kernel)
  refine v_swc (fun _ => ?_) (fun _ => ?_)
  · skip
    refine v_aload_n dL_law_1391 rfl rfl ?_
    refine v_aload_n dL_law_1392 rfl rfl ?_
    refine v_iload_n dL_law_1393 rfl rfl ?_
    refine v_iconst (v := 1) dL_law_1394 (by decide +kernel) ?_
    refine v_iadd dL_law_1395 ?_
    refine v_gd (fun g259 => ?_)
    refine v_sld dL_law_1396 g259 ?_
    refine v_cbI (fun z hz => runV (as := [.int (SH.2.2 (ix (c1 + (1 : Int32))))]) dL_law_1397 kv_L_168 rfl rfl (Nat.le_of_ble_eq_true rfl) (Nat.le_of_ble_eq_true rfl) (recvW hO.1 rfl rfl) (ct_X3_judge _ _ hO _) hz) (fun x261 s260 => ?_)
    refine v_aload_n dL_law_1400 rfl rfl ?_
    refine v_aload_n dL_law_1401 rfl rfl ?_
    refine v_iload_n dL_law_1402 rfl rfl ?_
    refine v_iconst (v := 1) dL_law_1403 (by decide +kernel) ?_
    refine v_iadd dL_law_1404 ?_
    refine v_gd (fun g262 => ?_)
    refine v_sld dL_law_1405 g262 ?_
    refine v_cbI (fun z hz => runV (as := [.int (SH.2.2 (ix (c1 + (1 : Int32))))]) dL_law_1406 kv_L_171 rfl rfl (Nat.le_of_ble_eq_true rfl) (Nat.le_of_ble_eq_true rfl) (recvW hR.1 rfl rfl) (ct_X4_judge _ _ hR _) hz) (fun x264 s263 => ?_)
    refine v_icmp_eq (tgt := 1787) dL_law_1409 (by decide) (fun _ => ?_) (fun _ => ?_)
    · skip
      refine v_iinc (v := (c1 + (5 : Int32))) (L' := [(3, .int (c1 + (5 : Int32))), (0, .ref 5000), (1, .ref 0), (2, .ref 53)]) dL_law_1787 rfl rfl (by decide) rfl ?_
      refine v_goto (tgt := 18) dL_law_1790 (by decide) ?_
      exact v_pick [1, 2, 3, 0] rfl (hrec _ _)
    refine v_iconst (v := 0) dL_law_1412 (by decide +kernel) ?_
    exact v_ret (ty := .boolean) dL_law_1413 rfl rfl (by decide +kernel)
  refine v_swc (fun _ => ?_) (fun _ => ?_)
  · skip
    refine v_aload_n dL_law_1414 rfl rfl ?_
    refine v_aload_n dL_law_1415 rfl rfl ?_
    refine v_iload_n dL_law_1416 rfl rfl ?_
    refine v_iconst (v := 1) dL_law_1417 (by decide +kernel) ?_
    refine v_iadd dL_law_1418 ?_
    refine v_gd (fun g265 => ?_)
    refine v_sld dL_law_1419 g265 ?_
    refine v_aload_n dL_law_1420 rfl rfl ?_
    refine v_iload_n dL_law_1421 rfl rfl ?_
    refine v_iconst (v := 2) dL_law_1422 (by decide +kernel) ?_
    refine v_iadd dL_law_1423 ?_
    refine v_gd (fun g266 => ?_)
    refine v_sld dL_law_1424 g266 ?_
    refine v_aload_n dL_law_1425 rfl rfl ?_
    refine v_iload_n dL_law_1426 rfl rfl ?_
    refine v_iconst (v := 3) dL_law_1427 (by decide +kernel) ?_
    refine v_iadd dL_law_1428 ?_
    refine v_gd (fun g267 => ?_)
    refine v_sld dL_law_1429 g267 ?_
    refine v_aload_n dL_law_1430 rfl rfl ?_
    refine v_iload_n dL_law_1431 rfl rfl ?_
    refine v_iconst (v := 4) dL_law_1432 (by decide +kernel) ?_
    refine v_iadd dL_law_1433 ?_
    refine v_gd (fun g268 => ?_)
    refine v_sld dL_law_1434 g268 ?_
    refine v_cbI (fun z hz => runV (as := [.int (SH.2.2 (ix (c1 + (1 : Int32)))), .int (SH.2.2 (ix (c1 + (2 : Int32)))), .int (SH.2.2 (ix (c1 + (3 : Int32)))), .int (SH.2.2 (ix (c1 + (4 : Int32))))]) dL_law_1435 kv_L_172 rfl rfl (Nat.le_of_ble_eq_true rfl) (Nat.le_of_ble_eq_true rfl) (recvW hO.1 rfl rfl) (ct_X3_minds _ _ _ _ _ hO _) hz) (fun x270 s269 => ?_)
    refine v_aload_n dL_law_1438 rfl rfl ?_
    refine v_aload_n dL_law_1439 rfl rfl ?_
    refine v_iload_n dL_law_1440 rfl rfl ?_
    refine v_iconst (v := 1) dL_law_1441 (by decide +kernel) ?_
    refine v_iadd dL_law_1442 ?_
    refine v_gd (fun g271 => ?_)
    refine v_sld dL_law_1443 g271 ?_
    refine v_aload_n dL_law_1444 rfl rfl ?_
    refine v_iload_n dL_law_1445 rfl rfl ?_
    refine v_iconst (v := 2) dL_law_1446 (by decide +kernel) ?_
    refine v_iadd dL_law_1447 ?_
    refine v_gd (fun g272 => ?_)
    refine v_sld dL_law_1448 g272 ?_
    refine v_aload_n dL_law_1449 rfl rfl ?_
    refine v_iload_n dL_law_1450 rfl rfl ?_
    refine v_iconst (v := 3) dL_law_1451 (by decide +kernel) ?_
    refine v_iadd dL_law_1452 ?_
    refine v_gd (fun g273 => ?_)
    refine v_sld dL_law_1453 g273 ?_
    refine v_aload_n dL_law_1454 rfl rfl ?_
    refine v_iload_n dL_law_1455 rfl rfl ?_
    refine v_iconst (v := 4) dL_law_1456 (by decide +kernel) ?_
    refine v_iadd dL_law_1457 ?_
    refine v_gd (fun g274 => ?_)
    refine v_sld dL_law_1458 g274 ?_
    refine v_cbI (fun z hz => runV (as := [.int (SH.2.2 (ix (c1 + (1 : Int32)))), .int (SH.2.2 (ix (c1 + (2 : Int32)))), .int (SH.2.2 (ix (c1 + (3 : Int32)))), .int (SH.2.2 (ix (c1 + (4 : Int32))))]) dL_law_1459 kv_L_175 rfl rfl (Nat.le_of_ble_eq_true rfl) (Nat.le_of_ble_eq_true rfl) (recvW hR.1 rfl rfl) (ct_X4_minds _ _ _ _ _ hR _) hz) (fun x276 s275 => ?_)
    refine v_icmp_eq (tgt := 1787) dL_law_1462 (by decide) (fun _ => ?_) (fun _ => ?_)
    · skip
      refine v_iinc (v := (c1 + (5 : Int32))) (L' := [(3, .int (c1 + (5 : Int32))), (0, .ref 5000), (1, .ref 0), (2, .ref 53)]) dL_law_1787 rfl rfl (by decide) rfl ?_
      refine v_goto (tgt := 18) dL_law_1790 (by decide) ?_
      exact v_pick [1, 2, 3, 0] rfl (hrec _ _)
    refine v_iconst (v := 0) dL_law_1465 (by decide +kernel) ?_
    exact v_ret (ty := .boolean) dL_law_1466 rfl rfl (by decide +kernel)
  refine v_swc (fun _ => ?_) (fun _ => ?_)
  · skip
    refine v_aload_n dL_law_1467 rfl rfl ?_
    refine v_aload_n dL_law_1468 rfl rfl ?_
    refine v_iload_n dL_law_1469 rfl rfl ?_
    refine v_iconst (v := 1) dL_law_1470 (by decide +kernel) ?_
    refine v_iadd dL_law_1471 ?_
    refine v_gd (fun g277 => ?_)
    refine v_sld dL_law_1472 g277 ?_
    refine v_aload_n dL_law_1473 rfl rfl ?_
    refine v_iload_n dL_law_1474 rfl rfl ?_
    refine v_iconst (v := 2) dL_law_1475 (by decide +kernel) ?_
    refine v_iadd dL_law_1476 ?_
    refine v_gd (fun g278 => ?_)
    refine v_sld dL_law_1477 g278 ?_
    refine v_aload_n dL_law_1478 rfl rfl ?_
    refine v_iload_n dL_law_1479 rfl rfl ?_
    refine v_iconst (v := 3) dL_law_1480 (by decide +kernel) ?_
    refine v_iadd dL_law_1481 ?_
    refine v_gd (fun g279 => ?_)
    refine v_sld dL_law_1482 g279 ?_
    refine v_cbI (fun z hz => runV (as := [.int (SH.2.2 (ix (c1 + (1 : Int32)))), .int (SH.2.2 (ix (c1 + (2 : Int32)))), .int (SH.2.2 (ix (c1 + (3 : Int32))))]) dL_law_1483 kv_L_176 rfl rfl (Nat.le_of_ble_eq_true rfl) (Nat.le_of_ble_eq_true rfl) (recvW hO.1 rfl rfl) (ct_X3_sheet _ _ _ _ hO _) hz) (fun x281 s280 => ?_)
    refine v_aload_n dL_law_1486 rfl rfl ?_
    refine v_aload_n dL_law_1487 rfl rfl ?_
    refine v_iload_n dL_law_1488 rfl rfl ?_
    refine v_iconst (v := 1) dL_law_1489 (by decide +kernel) ?_
    refine v_iadd dL_law_1490 ?_
    refine v_gd (fun g282 => ?_)
    refine v_sld dL_law_1491 g282 ?_
    refine v_aload_n dL_law_1492 rfl rfl ?_
    refine v_iload_n dL_law_1493 rfl rfl ?_
    refine v_iconst (v := 2) dL_law_1494 (by decide +kernel) ?_
    refine v_iadd dL_law_1495 ?_
    refine v_gd (fun g283 => ?_)
    refine v_sld dL_law_1496 g283 ?_
    refine v_aload_n dL_law_1497 rfl rfl ?_
    refine v_iload_n dL_law_1498 rfl rfl ?_
    refine v_iconst (v := 3) dL_law_1499 (by decide +kernel) ?_
    refine v_iadd dL_law_1500 ?_
    refine v_gd (fun g284 => ?_)
    refine v_sld dL_law_1501 g284 ?_
    refine v_cbI (fun z hz => runV (as := [.int (SH.2.2 (ix (c1 + (1 : Int32)))), .int (SH.2.2 (ix (c1 + (2 : Int32)))), .int (SH.2.2 (ix (c1 + (3 : Int32))))]) dL_law_1502 kv_L_179 rfl rfl (Nat.le_of_ble_eq_true rfl) (Nat.le_of_ble_eq_true rfl) (recvW hR.1 rfl rfl) (ct_X4_sheet _ _ _ _ hR _) hz) (fun x286 s285 => ?_)
    refine v_icmp_eq (tgt := 1787) dL_law_1505 (by decide) (fun _ => ?_) (fun _ => ?_)
    · skip
      refine v_iinc (v := (c1 + (5 : Int32))) (L' := [(3, .int (c1 + (5 : Int32))), (0, .ref 5000), (1, .ref 0), (2, .ref 53)]) dL_law_1787 rfl rfl (by decide) rfl ?_
      refine v_goto (tgt := 18) dL_law_1790 (by decide) ?_
      exact v_pick [1, 2, 3, 0] rfl (hrec _ _)
    refine v_iconst (v := 0) dL_law_1508 (by decide +kernel) ?_
    exact v_ret (ty := .boolean) dL_law_1509 rfl rfl (by decide +kernel)
  refine v_swc (fun _ => ?_) (fun _ => ?_)
  · skip
    refine v_aload_n dL_law_1510 rfl rfl ?_
    refine v_aload_n dL_law_1511 rfl rfl ?_
    refine v_iload_n dL_law_1512 rfl rfl ?_
    refine v_iconst (v := 1) dL_law_1513 (by decide +kernel) ?_
    refine v_iadd dL_law_1514 ?_
    refine v_gd (fun g287 => ?_)
    refine v_sld dL_law_1515 g287 ?_
    refine v_aload_n dL_law_1516 rfl rfl ?_
    refine v_iload_n dL_law_1517 rfl rfl ?_
    refine v_iconst (v := 2) dL_law_1518 (by decide +kernel) ?_
    refine v_iadd dL_law_1519 ?_
    refine v_gd (fun g288 => ?_)
    refine v_sld dL_law_1520 g288 ?_
    refine v_aload_n dL_law_1521 rfl rfl ?_
    refine v_iload_n dL_law_1522 rfl rfl ?_
    refine v_iconst (v := 3) dL_law_1523 (by decide +kernel) ?_
    refine v_iadd dL_law_1524 ?_
    refine v_gd (fun g289 => ?_)
    refine v_sld dL_law_1525 g289 ?_
    refine v_cbI (fun z hz => runV (as := [.int (SH.2.2 (ix (c1 + (1 : Int32)))), .int (SH.2.2 (ix (c1 + (2 : Int32)))), .int (SH.2.2 (ix (c1 + (3 : Int32))))]) dL_law_1526 kv_L_180 rfl rfl (Nat.le_of_ble_eq_true rfl) (Nat.le_of_ble_eq_true rfl) (recvW hO.1 rfl rfl) (ct_X3_put _ _ _ _ hO _) hz) (fun x291 s290 => ?_)
    refine v_aload_n dL_law_1529 rfl rfl ?_
    refine v_aload_n dL_law_1530 rfl rfl ?_
    refine v_iload_n dL_law_1531 rfl rfl ?_
    refine v_iconst (v := 1) dL_law_1532 (by decide +kernel) ?_
    refine v_iadd dL_law_1533 ?_
    refine v_gd (fun g292 => ?_)
    refine v_sld dL_law_1534 g292 ?_
    refine v_aload_n dL_law_1535 rfl rfl ?_
    refine v_iload_n dL_law_1536 rfl rfl ?_
    refine v_iconst (v := 2) dL_law_1537 (by decide +kernel) ?_
    refine v_iadd dL_law_1538 ?_
    refine v_gd (fun g293 => ?_)
    refine v_sld dL_law_1539 g293 ?_
    refine v_aload_n dL_law_1540 rfl rfl ?_
    refine v_iload_n dL_law_1541 rfl rfl ?_
    refine v_iconst (v := 3) dL_law_1542 (by decide +kernel) ?_
    refine v_iadd dL_law_1543 ?_
    refine v_gd (fun g294 => ?_)
    refine v_sld dL_law_1544 g294 ?_
    refine v_cbI (fun z hz => runV (as := [.int (SH.2.2 (ix (c1 + (1 : Int32)))), .int (SH.2.2 (ix (c1 + (2 : Int32)))), .int (SH.2.2 (ix (c1 + (3 : Int32))))]) dL_law_1545 kv_L_183 rfl rfl (Nat.le_of_ble_eq_true rfl) (Nat.le_of_ble_eq_true rfl) (recvW hR.1 rfl rfl) (ct_X4_put _ _ _ _ hR _) hz) (fun x296 s295 => ?_)
    refine v_icmp_eq (tgt := 1787) dL_law_1548 (by decide) (fun _ => ?_) (fun _ => ?_)
    · skip
      refine v_iinc (v := (c1 + (5 : Int32))) (L' := [(3, .int (c1 + (5 : Int32))), (0, .ref 5000), (1, .ref 0), (2, .ref 53)]) dL_law_1787 rfl rfl (by decide) rfl ?_
      refine v_goto (tgt := 18) dL_law_1790 (by decide) ?_
      exact v_pick [1, 2, 3, 0] rfl (hrec _ _)
    refine v_iconst (v := 0) dL_law_1551 (by decide +kernel) ?_
    exact v_ret (ty := .boolean) dL_law_1552 rfl rfl (by decide +kernel)
  refine v_swc (fun _ => ?_) (fun _ => ?_)
  · skip
    refine v_aload_n dL_law_1553 rfl rfl ?_
    refine v_aload_n dL_law_1554 rfl rfl ?_
    refine v_iload_n dL_law_1555 rfl rfl ?_
    refine v_iconst (v := 1) dL_law_1556 (by decide +kernel) ?_
    refine v_iadd dL_law_1557 ?_
    refine v_gd (fun g297 => ?_)
    refine v_sld dL_law_1558 g297 ?_
    refine v_aload_n dL_law_1559 rfl rfl ?_
    refine v_iload_n dL_law_1560 rfl rfl ?_
    refine v_iconst (v := 2) dL_law_1561 (by decide +kernel) ?_
    refine v_iadd dL_law_1562 ?_
    refine v_gd (fun g298 => ?_)
    refine v_sld dL_law_1563 g298 ?_
    refine v_aload_n dL_law_1564 rfl rfl ?_
    refine v_iload_n dL_law_1565 rfl rfl ?_
    refine v_iconst (v := 3) dL_law_1566 (by decide +kernel) ?_
    refine v_iadd dL_law_1567 ?_
    refine v_gd (fun g299 => ?_)
    refine v_sld dL_law_1568 g299 ?_
    refine v_cpI (fun z hz => runV (as := [.int (SH.2.2 (ix (c1 + (1 : Int32)))), .int (SH.2.2 (ix (c1 + (2 : Int32)))), .int (SH.2.2 (ix (c1 + (3 : Int32))))]) dL_law_1569 kv_L_184 rfl rfl (Nat.le_of_ble_eq_true rfl) (Nat.le_of_ble_eq_true rfl) (recvW hO.1 rfl rfl) (ct_X3_item _ _ _ _ hO _) hz) (fun x300 => ?_)
    refine v_aload_n dL_law_1572 rfl rfl ?_
    refine v_aload_n dL_law_1573 rfl rfl ?_
    refine v_iload_n dL_law_1574 rfl rfl ?_
    refine v_iconst (v := 1) dL_law_1575 (by decide +kernel) ?_
    refine v_iadd dL_law_1576 ?_
    refine v_gd (fun g301 => ?_)
    refine v_sld dL_law_1577 g301 ?_
    refine v_aload_n dL_law_1578 rfl rfl ?_
    refine v_iload_n dL_law_1579 rfl rfl ?_
    refine v_iconst (v := 2) dL_law_1580 (by decide +kernel) ?_
    refine v_iadd dL_law_1581 ?_
    refine v_gd (fun g302 => ?_)
    refine v_sld dL_law_1582 g302 ?_
    refine v_aload_n dL_law_1583 rfl rfl ?_
    refine v_iload_n dL_law_1584 rfl rfl ?_
    refine v_iconst (v := 3) dL_law_1585 (by decide +kernel) ?_
    refine v_iadd dL_law_1586 ?_
    refine v_gd (fun g303 => ?_)
    refine v_sld dL_law_1587 g303 ?_
    refine v_cpI (fun z hz => runV (as := [.int (SH.2.2 (ix (c1 + (1 : Int32)))), .int (SH.2.2 (ix (c1 + (2 : Int32)))), .int (SH.2.2 (ix (c1 + (3 : Int32))))]) dL_law_1588 kv_L_187 rfl rfl (Nat.le_of_ble_eq_true rfl) (Nat.le_of_ble_eq_true rfl) (recvW hR.1 rfl rfl) (ct_X4_item _ _ _ _ hR _) hz) (fun x304 => ?_)
    refine v_icmp_eq (tgt := 1787) dL_law_1591 (by decide) (fun _ => ?_) (fun _ => ?_)
    · skip
      refine v_iinc (v := (c1 + (5 : Int32))) (L' := [(3, .int (c1 + (5 : Int32))), (0, .ref 5000), (1, .ref 0), (2, .ref 53)]) dL_law_1787 rfl rfl (by decide) rfl ?_
      refine v_goto (tgt := 18) dL_law_1790 (by decide) ?_
      exact v_pick [1, 2, 3, 0] rfl (hrec _ _)
    refine v_iconst (v := 0) dL_law_1594 (by decide +kernel) ?_
    exact v_ret (ty := .boolean) dL_law_1595 rfl rfl (by decide +kernel)
  refine v_swc (fun _ => ?_) (fun _ => ?_)
  · skip
    refine v_aload_n dL_law_1596 rfl rfl ?_
    refine v_aload_n dL_law_1597 rfl rfl ?_
    refine v_iload_n dL_law_1598 rfl rfl ?_
    refine v_iconst (v := 1) dL_law_1599 (by decide +kernel) ?_
    refine v_iadd dL_law_1600 ?_
    refine v_gd (fun g305 => ?_)
    refine v_sld dL_law_1601 g305 ?_
    refine v_aload_n dL_law_1602 rfl rfl ?_
    refine v_iload_n dL_law_1603 rfl rfl ?_
    refine v_iconst (v := 2) dL_law_1604 (by decide +kernel) ?_
    refine v_iadd dL_law_1605 ?_
    refine v_gd (fun g306 => ?_)
    refine v_sld dL_law_1606 g306 ?_
    refine v_aload_n dL_law_1607 rfl rfl ?_
    refine v_iload_n dL_law_1608 rfl rfl ?_
    refine v_iconst (v := 3) dL_law_1609 (by decide +kernel) ?_
    refine v_iadd dL_law_1610 ?_
    refine v_gd (fun g307 => ?_)
    refine v_sld dL_law_1611 g307 ?_
    refine v_cbI (fun z hz => runV (as := [.int (SH.2.2 (ix (c1 + (1 : Int32)))), .int (SH.2.2 (ix (c1 + (2 : Int32)))), .int (SH.2.2 (ix (c1 + (3 : Int32))))]) dL_law_1612 kv_L_188 rfl rfl (Nat.le_of_ble_eq_true rfl) (Nat.le_of_ble_eq_true rfl) (recvW hO.1 rfl rfl) (ct_X3_shelf _ _ _ _ hO _) hz) (fun x309 s308 => ?_)
    refine v_aload_n dL_law_1615 rfl rfl ?_
    refine v_aload_n dL_law_1616 rfl rfl ?_
    refine v_iload_n dL_law_1617 rfl rfl ?_
    refine v_iconst (v := 1) dL_law_1618 (by decide +kernel) ?_
    refine v_iadd dL_law_1619 ?_
    refine v_gd (fun g310 => ?_)
    refine v_sld dL_law_1620 g310 ?_
    refine v_aload_n dL_law_1621 rfl rfl ?_
    refine v_iload_n dL_law_1622 rfl rfl ?_
    refine v_iconst (v := 2) dL_law_1623 (by decide +kernel) ?_
    refine v_iadd dL_law_1624 ?_
    refine v_gd (fun g311 => ?_)
    refine v_sld dL_law_1625 g311 ?_
    refine v_aload_n dL_law_1626 rfl rfl ?_
    refine v_iload_n dL_law_1627 rfl rfl ?_
    refine v_iconst (v := 3) dL_law_1628 (by decide +kernel) ?_
    refine v_iadd dL_law_1629 ?_
    refine v_gd (fun g312 => ?_)
    refine v_sld dL_law_1630 g312 ?_
    refine v_cbI (fun z hz => runV (as := [.int (SH.2.2 (ix (c1 + (1 : Int32)))), .int (SH.2.2 (ix (c1 + (2 : Int32)))), .int (SH.2.2 (ix (c1 + (3 : Int32))))]) dL_law_1631 kv_L_191 rfl rfl (Nat.le_of_ble_eq_true rfl) (Nat.le_of_ble_eq_true rfl) (recvW hR.1 rfl rfl) (ct_X4_shelf _ _ _ _ hR _) hz) (fun x314 s313 => ?_)
    refine v_icmp_eq (tgt := 1787) dL_law_1634 (by decide) (fun _ => ?_) (fun _ => ?_)
    · skip
      refine v_iinc (v := (c1 + (5 : Int32))) (L' := [(3, .int (c1 + (5 : Int32))), (0, .ref 5000), (1, .ref 0), (2, .ref 53)]) dL_law_1787 rfl rfl (by decide) rfl ?_
      refine v_goto (tgt := 18) dL_law_1790 (by decide) ?_
      exact v_pick [1, 2, 3, 0] rfl (hrec _ _)
    refine v_iconst (v := 0) dL_law_1637 (by decide +kernel) ?_
    exact v_ret (ty := .boolean) dL_law_1638 rfl rfl (by decide +kernel)
  refine v_swc (fun _ => ?_) (fun _ => ?_)
  · skip
    refine v_aload_n dL_law_1639 rfl rfl ?_
    refine v_aload_n dL_law_1640 rfl rfl ?_
    refine v_iload_n dL_law_1641 rfl rfl ?_
    refine v_iconst (v := 1) dL_law_1642 (by decide +kernel) ?_
    refine v_iadd dL_law_1643 ?_
    refine v_gd (fun g315 => ?_)
    refine v_sld dL_law_1644 g315 ?_
    refine v_aload_n dL_law_1645 rfl rfl ?_
    refine v_iload_n dL_law_1646 rfl rfl ?_
    refine v_iconst (v := 2) dL_law_1647 (by decide +kernel) ?_
    refine v_iadd dL_law_1648 ?_
    refine v_gd (fun g316 => ?_)
    refine v_sld dL_law_1649 g316 ?_
    refine v_cpI (fun z hz => runV (as := [.int (SH.2.2 (ix (c1 + (1 : Int32)))), .int (SH.2.2 (ix (c1 + (2 : Int32))))]) dL_law_1650 kv_L_192 rfl rfl (Nat.le_of_ble_eq_true rfl) (Nat.le_of_ble_eq_true rfl) (recvW hO.1 rfl rfl) (ct_X3_taken _ _ _ hO _) hz) (fun x317 => ?_)
    refine v_aload_n dL_law_1653 rfl rfl ?_
    refine v_aload_n dL_law_1654 rfl rfl ?_
    refine v_iload_n dL_law_1655 rfl rfl ?_
    refine v_iconst (v := 1) dL_law_1656 (by decide +kernel) ?_
    refine v_iadd dL_law_1657 ?_
    refine v_gd (fun g318 => ?_)
    refine v_sld dL_law_1658 g318 ?_
    refine v_aload_n dL_law_1659 rfl rfl ?_
    refine v_iload_n dL_law_1660 rfl rfl ?_
    refine v_iconst (v := 2) dL_law_1661 (by decide +kernel) ?_
    refine v_iadd dL_law_1662 ?_
    refine v_gd (fun g319 => ?_)
    refine v_sld dL_law_1663 g319 ?_
    refine v_cpI (fun z hz => runV (as := [.int (SH.2.2 (ix (c1 + (1 : Int32)))), .int (SH.2.2 (ix (c1 + (2 : Int32))))]) dL_law_1664 kv_L_195 rfl rfl (Nat.le_of_ble_eq_true rfl) (Nat.le_of_ble_eq_true rfl) (recvW hR.1 rfl rfl) (ct_X4_taken _ _ _ hR _) hz) (fun x320 => ?_)
    refine v_icmp_eq (tgt := 1787) dL_law_1667 (by decide) (fun _ => ?_) (fun _ => ?_)
    · skip
      refine v_iinc (v := (c1 + (5 : Int32))) (L' := [(3, .int (c1 + (5 : Int32))), (0, .ref 5000), (1, .ref 0), (2, .ref 53)]) dL_law_1787 rfl rfl (by decide) rfl ?_
      refine v_goto (tgt := 18) dL_law_1790 (by decide) ?_
      exact v_pick [1, 2, 3, 0] rfl (hrec _ _)
    refine v_iconst (v := 0) dL_law_1670 (by decide +kernel) ?_
    exact v_ret (ty := .boolean) dL_law_1671 rfl rfl (by decide +kernel)
  refine v_swc (fun _ => ?_) (fun _ => ?_)
  · skip
    refine v_aload_n dL_law_1672 rfl rfl ?_
    refine v_aload_n dL_law_1673 rfl rfl ?_
    refine v_iload_n dL_law_1674 rfl rfl ?_
    refine v_iconst (v := 1) dL_law_1675 (by decide +kernel) ?_
    refine v_iadd dL_law_1676 ?_
    refine v_gd (fun g321 => ?_)
    refine v_sld dL_law_1677 g321 ?_
    refine v_aload_n dL_law_1678 rfl rfl ?_
    refine v_iload_n dL_law_1679 rfl rfl ?_
    refine v_iconst (v := 2) dL_law_1680 (by decide +kernel) ?_
    refine v_iadd dL_law_1681 ?_
    refine v_gd (fun g322 => ?_)
    refine v_sld dL_law_1682 g322 ?_
    refine v_aload_n dL_law_1683 rfl rfl ?_
    refine v_iload_n dL_law_1684 rfl rfl ?_
    refine v_iconst (v := 3) dL_law_1685 (by decide +kernel) ?_
    refine v_iadd dL_law_1686 ?_
    refine v_gd (fun g323 => ?_)
    refine v_sld dL_law_1687 g323 ?_
    refine v_cbI (fun z hz => runV (as := [.int (SH.2.2 (ix (c1 + (1 : Int32)))), .int (SH.2.2 (ix (c1 + (2 : Int32)))), .int (SH.2.2 (ix (c1 + (3 : Int32))))]) dL_law_1688 kv_L_196 rfl rfl (Nat.le_of_ble_eq_true rfl) (Nat.le_of_ble_eq_true rfl) (recvW hO.1 rfl rfl) (ct_X3_act _ _ _ _ hO _) hz) (fun x325 s324 => ?_)
    refine v_aload_n dL_law_1691 rfl rfl ?_
    refine v_aload_n dL_law_1692 rfl rfl ?_
    refine v_iload_n dL_law_1693 rfl rfl ?_
    refine v_iconst (v := 1) dL_law_1694 (by decide +kernel) ?_
    refine v_iadd dL_law_1695 ?_
    refine v_gd (fun g326 => ?_)
    refine v_sld dL_law_1696 g326 ?_
    refine v_aload_n dL_law_1697 rfl rfl ?_
    refine v_iload_n dL_law_1698 rfl rfl ?_
    refine v_iconst (v := 2) dL_law_1699 (by decide +kernel) ?_
    refine v_iadd dL_law_1700 ?_
    refine v_gd (fun g327 => ?_)
    refine v_sld dL_law_1701 g327 ?_
    refine v_aload_n dL_law_1702 rfl rfl ?_
    refine v_iload_n dL_law_1703 rfl rfl ?_
    refine v_iconst (v := 3) dL_law_1704 (by decide +kernel) ?_
    refine v_iadd dL_law_1705 ?_
    refine v_gd (fun g328 => ?_)
    refine v_sld dL_law_1706 g328 ?_
    refine v_cbI (fun z hz => runV (as := [.int (SH.2.2 (ix (c1 + (1 : Int32)))), .int (SH.2.2 (ix (c1 + (2 : Int32)))), .int (SH.2.2 (ix (c1 + (3 : Int32))))]) dL_law_1707 kv_L_199 rfl rfl (Nat.le_of_ble_eq_true rfl) (Nat.le_of_ble_eq_true rfl) (recvW hR.1 rfl rfl) (ct_X4_act _ _ _ _ hR _) hz) (fun x330 s329 => ?_)
    refine v_icmp_eq (tgt := 1787) dL_law_1710 (by decide) (fun _ => ?_) (fun _ => ?_)
    · skip
      refine v_iinc (v := (c1 + (5 : Int32))) (L' := [(3, .int (c1 + (5 : Int32))), (0, .ref 5000), (1, .ref 0), (2, .ref 53)]) dL_law_1787 rfl rfl (by decide) rfl ?_
      refine v_goto (tgt := 18) dL_law_1790 (by decide) ?_
      exact v_pick [1, 2, 3, 0] rfl (hrec _ _)
    refine v_iconst (v := 0) dL_law_1713 (by decide +kernel) ?_
    exact v_ret (ty := .boolean) dL_law_1714 rfl rfl (by decide +kernel)
  refine v_swc (fun _ => ?_) (fun _ => ?_)
  · skip
    refine v_aload_n dL_law_1715 rfl rfl ?_
    refine v_aload_n dL_law_1716 rfl rfl ?_
    refine v_iload_n dL_law_1717 rfl rfl ?_
    refine v_iconst (v := 1) dL_law_1718 (by decide +kernel) ?_
    refine v_iadd dL_law_1719 ?_
    refine v_gd (fun g331 => ?_)
    refine v_sld dL_law_1720 g331 ?_
    refine v_cpI (fun z hz => runV (as := [.int (SH.2.2 (ix (c1 + (1 : Int32))))]) dL_law_1721 kv_L_200 rfl rfl (Nat.le_of_ble_eq_true rfl) (Nat.le_of_ble_eq_true rfl) (recvW hO.1 rfl rfl) (ct_X3_trace _ _ hO _) hz) (fun x332 => ?_)
    refine v_aload_n dL_law_1724 rfl rfl ?_
    refine v_aload_n dL_law_1725 rfl rfl ?_
    refine v_iload_n dL_law_1726 rfl rfl ?_
    refine v_iconst (v := 1) dL_law_1727 (by decide +kernel) ?_
    refine v_iadd dL_law_1728 ?_
    refine v_gd (fun g333 => ?_)
    refine v_sld dL_law_1729 g333 ?_
    refine v_cpI (fun z hz => runV (as := [.int (SH.2.2 (ix (c1 + (1 : Int32))))]) dL_law_1730 kv_L_203 rfl rfl (Nat.le_of_ble_eq_true rfl) (Nat.le_of_ble_eq_true rfl) (recvW hR.1 rfl rfl) (ct_X4_trace _ _ hR _) hz) (fun x334 => ?_)
    refine v_icmp_eq (tgt := 1787) dL_law_1733 (by decide) (fun _ => ?_) (fun _ => ?_)
    · skip
      refine v_iinc (v := (c1 + (5 : Int32))) (L' := [(3, .int (c1 + (5 : Int32))), (0, .ref 5000), (1, .ref 0), (2, .ref 53)]) dL_law_1787 rfl rfl (by decide) rfl ?_
      refine v_goto (tgt := 18) dL_law_1790 (by decide) ?_
      exact v_pick [1, 2, 3, 0] rfl (hrec _ _)
    refine v_iconst (v := 0) dL_law_1736 (by decide +kernel) ?_
    exact v_ret (ty := .boolean) dL_law_1737 rfl rfl (by decide +kernel)
  refine v_swc (fun _ => ?_) (fun _ => ?_)
  · skip
    refine v_aload_n dL_law_1738 rfl rfl ?_
    refine v_aload_n dL_law_1739 rfl rfl ?_
    refine v_iload_n dL_law_1740 rfl rfl ?_
    refine v_iconst (v := 1) dL_law_1741 (by decide +kernel) ?_
    refine v_iadd dL_law_1742 ?_
    refine v_gd (fun g335 => ?_)
    refine v_sld dL_law_1743 g335 ?_
    refine v_cpI (fun z hz => runV (as := [.int (SH.2.2 (ix (c1 + (1 : Int32))))]) dL_law_1744 kv_L_204 rfl rfl (Nat.le_of_ble_eq_true rfl) (Nat.le_of_ble_eq_true rfl) (recvW hO.1 rfl rfl) (ct_X3_many _ _ hO _) hz) (fun x336 => ?_)
    refine v_aload_n dL_law_1747 rfl rfl ?_
    refine v_aload_n dL_law_1748 rfl rfl ?_
    refine v_iload_n dL_law_1749 rfl rfl ?_
    refine v_iconst (v := 1) dL_law_1750 (by decide +kernel) ?_
    refine v_iadd dL_law_1751 ?_
    refine v_gd (fun g337 => ?_)
    refine v_sld dL_law_1752 g337 ?_
    refine v_cpI (fun z hz => runV (as := [.int (SH.2.2 (ix (c1 + (1 : Int32))))]) dL_law_1753 kv_L_207 rfl rfl (Nat.le_of_ble_eq_true rfl) (Nat.le_of_ble_eq_true rfl) (recvW hR.1 rfl rfl) (ct_X4_many _ _ hR _) hz) (fun x338 => ?_)
    refine v_icmp_eq (tgt := 1787) dL_law_1756 (by decide) (fun _ => ?_) (fun _ => ?_)
    · skip
      refine v_iinc (v := (c1 + (5 : Int32))) (L' := [(3, .int (c1 + (5 : Int32))), (0, .ref 5000), (1, .ref 0), (2, .ref 53)]) dL_law_1787 rfl rfl (by decide) rfl ?_
      refine v_goto (tgt := 18) dL_law_1790 (by decide) ?_
      exact v_pick [1, 2, 3, 0] rfl (hrec _ _)
    refine v_iconst (v := 0) dL_law_1759 (by decide +kernel) ?_
    exact v_ret (ty := .boolean) dL_law_1760 rfl rfl (by decide +kernel)
  refine v_swc (fun _ => ?_) (fun _ => ?_)
  · skip
    refine v_aload_n dL_law_1761 rfl rfl ?_
    refine v_cbI (fun z hz => runV (as := []) dL_law_1762 kv_L_208 rfl rfl (Nat.le_of_ble_eq_true rfl) (Nat.le_of_ble_eq_true rfl) (recvW hO.1 rfl rfl) (ct_X3_keep _ hO _) hz) (fun x340 s339 => ?_)
    refine v_aload_n dL_law_1765 rfl rfl ?_
    refine v_cbI (fun z hz => runV (as := []) dL_law_1766 kv_L_211 rfl rfl (Nat.le_of_ble_eq_true rfl) (Nat.le_of_ble_eq_true rfl) (recvW hR.1 rfl rfl) (ct_X4_keep _ hR _) hz) (fun x342 s341 => ?_)
    refine v_icmp_eq (tgt := 1787) dL_law_1769 (by decide) (fun _ => ?_) (fun _ => ?_)
    · skip
      refine v_iinc (v := (c1 + (5 : Int32))) (L' := [(3, .int (c1 + (5 : Int32))), (0, .ref 5000), (1, .ref 0), (2, .ref 53)]) dL_law_1787 rfl rfl (by decide) rfl ?_
      refine v_goto (tgt := 18) dL_law_1790 (by decide) ?_
      exact v_pick [1, 2, 3, 0] rfl (hrec _ _)
    refine v_iconst (v := 0) dL_law_1772 (by decide +kernel) ?_
    exact v_ret (ty := .boolean) dL_law_1773 rfl rfl (by decide +kernel)
  refine v_swc (fun _ => ?_) (fun _ => ?_)
  · skip
    refine v_aload_n dL_law_1774 rfl rfl ?_
    refine v_cbI (fun z hz => runV (as := []) dL_law_1775 kv_L_212 rfl rfl (Nat.le_of_ble_eq_true rfl) (Nat.le_of_ble_eq_true rfl) (recvW hO.1 rfl rfl) (ct_X3_again _ hO _) hz) (fun x344 s343 => ?_)
    refine v_aload_n dL_law_1778 rfl rfl ?_
    refine v_cbI (fun z hz => runV (as := []) dL_law_1779 kv_L_215 rfl rfl (Nat.le_of_ble_eq_true rfl) (Nat.le_of_ble_eq_true rfl) (recvW hR.1 rfl rfl) (ct_X4_again _ hR _) hz) (fun x346 s345 => ?_)
    refine v_icmp_eq (tgt := 1787) dL_law_1782 (by decide) (fun _ => ?_) (fun _ => ?_)
    · skip
      refine v_iinc (v := (c1 + (5 : Int32))) (L' := [(3, .int (c1 + (5 : Int32))), (0, .ref 5000), (1, .ref 0), (2, .ref 53)]) dL_law_1787 rfl rfl (by decide) rfl ?_
      refine v_goto (tgt := 18) dL_law_1790 (by decide) ?_
      exact v_pick [1, 2, 3, 0] rfl (hrec _ _)
    refine v_iconst (v := 0) dL_law_1785 (by decide +kernel) ?_
    exact v_ret (ty := .boolean) dL_law_1786 rfl rfl (by decide +kernel)
  refine v_swn ?_
  refine v_iinc (v := (c1 + (5 : Int32))) (L' := [(3, .int (c1 + (5 : Int32))), (0, .ref 5000), (1, .ref 0), (2, .ref 53)]) dL_law_1787 rfl rfl (by decide) rfl ?_
  refine v_goto (tgt := 18) dL_law_1790 (by decide) ?_
  exact v_pick [1, 2, 3, 0] rfl (hrec _ _)
theorem wL_L_law_18 {SH : SHT} (hO : isOaths SH 0) (hR : isModel SH 53) : ∀ (n : Nat) (c1 : Int32) (s2 : St), VF mL_law 200 SH jI 18 [(0, .ref 5000), (1, .ref 0), (2, .ref 53), (3, .int c1)] [] s2 (L_L_law_18 SH n c1 s2) := by
  intro n
  induction n with
  | zero => intros; exact v_none
  | succ n ih => intro c1 s2; exact wB_L_law_18 hO hR _ ih c1 s2
set_option maxHeartbeats 4000000 in
set_option maxRecDepth 100000 in
theorem w_L_law {SH : SHT} (hO : isOaths SH 0) (hR : isModel SH 53) (s0 : St) : VF mL_law 200 SH jI 16 [(2, .ref 53), (1, .ref 0), (0, .ref 5000)] [] s0 (f_L_law SH s0) := by
  unfold f_L_law
  refine v_iconst (v := 0) dL_law_16 (by decide +kernel) ?_
  refine v_istore_n (L' := [(3, .int (0 : Int32)), (2, .ref 53), (1, .ref 0), (0, .ref 5000)]) dL_law_17 rfl (by decide) rfl ?_
  exact v_pick [3, 2, 1, 0] rfl (wL_L_law_18 hO hR FU _ _)
