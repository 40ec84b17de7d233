set_option maxHeartbeats 20000000 in
set_option maxRecDepth 100000 in
theorem wc_L_0 {SH : SHT} (hO : isOaths SH 0) (hR : isModel SH 53) (rec : Int32 → St → Option (Int32 × St)) (hrec : ∀ (c1 : Int32) (s2 : St), VF mL_law 200 SH jI 18 [(0, .ref 5000), (1, .ref 0), (2, .ref 53), (3, .int c1)] [] s2 (rec c1 s2)) (c1 : Int32) (s2 : St) : VF mL_law 200 SH jI 240 [(0, .ref 5000), (1, .ref 0), (2, .ref 53), (3, .int c1)] [] s2 (gd (ib (c1 + (1 : Int32)) SH.2.1) (gd (ib (c1 + (2 : Int32)) SH.2.1) (gd (ib (c1 + (3 : Int32)) SH.2.1) (cb (f_X3_feed 0 ((((SH.2.2 (ix (c1 + (1 : Int32))))).toInt64 <<< (((32 : Int32)).toInt64 &&& 63)) ||| (((SH.2.2 (ix (c1 + (2 : Int32))))).toInt64 &&& (4294967295 : Int64))) (SH.2.2 (ix (c1 + (3 : Int32)))) s2) fun x9 s8 => gd (ib (c1 + (1 : Int32)) SH.2.1) (gd (ib (c1 + (2 : Int32)) SH.2.1) (gd (ib (c1 + (3 : Int32)) SH.2.1) (cb (f_X4_feed 53 ((((SH.2.2 (ix (c1 + (1 : Int32))))).toInt64 <<< (((32 : Int32)).toInt64 &&& 63)) ||| (((SH.2.2 (ix (c1 + (2 : Int32))))).toInt64 &&& (4294967295 : Int64))) (SH.2.2 (ix (c1 + (3 : Int32)))) s8) fun x14 s13 => (if x9 = x14 then rec (c1 + (5 : Int32)) s13 else some ((0 : Int32), s13))))))))) := by
  refine v_aload_n dL_law_240 rfl rfl ?_
  refine v_aload_n dL_law_241 rfl rfl ?_
  refine v_iload_n dL_law_242 rfl rfl ?_
  refine v_iconst (v := 1) dL_law_243 (by decide +kernel) ?_
  refine v_iadd dL_law_244 ?_
  refine v_gd (fun g5 => ?_)
  refine v_sld dL_law_245 g5 ?_
  refine v_i2l dL_law_246 ?_
  refine v_bipush (v := 32) dL_law_247 (by decide +kernel) ?_
  refine v_lshl dL_law_249 ?_
  refine v_aload_n dL_law_250 rfl rfl ?_
  refine v_iload_n dL_law_251 rfl rfl ?_
  refine v_iconst (v := 2) dL_law_252 (by decide +kernel) ?_
  refine v_iadd dL_law_253 ?_
  refine v_gd (fun g6 => ?_)
  refine v_sld dL_law_254 g6 ?_
  refine v_i2l dL_law_255 ?_
  refine v_ldc2 dL_law_256 kcL_L_13 ?_
  refine v_land dL_law_259 ?_
  refine v_lor dL_law_260 ?_
  refine v_aload_n dL_law_261 rfl rfl ?_
  refine v_iload_n dL_law_262 rfl rfl ?_
  refine v_iconst (v := 3) dL_law_263 (by decide +kernel) ?_
  refine v_iadd dL_law_264 ?_
  refine v_gd (fun g7 => ?_)
  refine v_sld dL_law_265 g7 ?_
  refine v_cbI (fun z hz => runV (as := [.long ((((SH.2.2 (ix (c1 + (1 : Int32))))).toInt64 <<< (((32 : Int32)).toInt64 &&& 63)) ||| (((SH.2.2 (ix (c1 + (2 : Int32))))).toInt64 &&& (4294967295 : Int64))), .int (SH.2.2 (ix (c1 + (3 : Int32))))]) dL_law_266 kv_L_15 rfl rfl (Nat.le_of_ble_eq_true rfl) (Nat.le_of_ble_eq_true rfl) (recvW hO.1 rfl rfl) (ct_X3_feed _ _ _ hO _) hz) (fun x9 s8 => ?_)
  refine v_aload_n dL_law_269 rfl rfl ?_
  refine v_aload_n dL_law_270 rfl rfl ?_
  refine v_iload_n dL_law_271 rfl rfl ?_
  refine v_iconst (v := 1) dL_law_272 (by decide +kernel) ?_
  refine v_iadd dL_law_273 ?_
  refine v_gd (fun g10 => ?_)
  refine v_sld dL_law_274 g10 ?_
  refine v_i2l dL_law_275 ?_
  refine v_bipush (v := 32) dL_law_276 (by decide +kernel) ?_
  refine v_lshl dL_law_278 ?_
  refine v_aload_n dL_law_279 rfl rfl ?_
  refine v_iload_n dL_law_280 rfl rfl ?_
  refine v_iconst (v := 2) dL_law_281 (by decide +kernel) ?_
  refine v_iadd dL_law_282 ?_
  refine v_gd (fun g11 => ?_)
  refine v_sld dL_law_283 g11 ?_
  refine v_i2l dL_law_284 ?_
  refine v_ldc2 dL_law_285 kcL_L_13 ?_
  refine v_land dL_law_288 ?_
  refine v_lor dL_law_289 ?_
  refine v_aload_n dL_law_290 rfl rfl ?_
  refine v_iload_n dL_law_291 rfl rfl ?_
  refine v_iconst (v := 3) dL_law_292 (by decide +kernel) ?_
  refine v_iadd dL_law_293 ?_
  refine v_gd (fun g12 => ?_)
  refine v_sld dL_law_294 g12 ?_
  refine v_cbI (fun z hz => runV (as := [.long ((((SH.2.2 (ix (c1 + (1 : Int32))))).toInt64 <<< (((32 : Int32)).toInt64 &&& 63)) ||| (((SH.2.2 (ix (c1 + (2 : Int32))))).toInt64 &&& (4294967295 : Int64))), .int (SH.2.2 (ix (c1 + (3 : Int32))))]) dL_law_295 kv_L_19 rfl rfl (Nat.le_of_ble_eq_true rfl) (Nat.le_of_ble_eq_true rfl) (recvW hR.1 rfl rfl) (ct_X4_feed _ _ _ hR _) hz) (fun x14 s13 => ?_)
  refine v_icmp_eq (tgt := 1787) dL_law_298 (by decide) (fun _ => ?_) (fun _ => ?_)
  · skip
    refine v_iinc (v := (c1 + (5 : Int32))) (L' := [(3, .int (c1 + (5 : Int32))), (0, .ref 5000), (1, .ref 0), (2, .ref 53)]) dL_law_1787 rfl rfl (by decide) rfl ?_
    refine v_goto (tgt := 18) dL_law_1790 (by decide) ?_
    exact v_pick [1, 2, 3, 0] rfl (hrec _ _)
  refine v_iconst (v := 0) dL_law_301 (by decide +kernel) ?_
  exact v_ret (ty := .boolean) dL_law_302 rfl rfl (by decide +kernel)
set_option maxHeartbeats 20000000 in
set_option maxRecDepth 100000 in
theorem wc_L_1 {SH : SHT} (hO : isOaths SH 0) (hR : isModel SH 53) (rec : Int32 → St → Option (Int32 × St)) (hrec : ∀ (c1 : Int32) (s2 : St), VF mL_law 200 SH jI 18 [(0, .ref 5000), (1, .ref 0), (2, .ref 53), (3, .int c1)] [] s2 (rec c1 s2)) (c1 : Int32) (s2 : St) : VF mL_law 200 SH jI 303 [(0, .ref 5000), (1, .ref 0), (2, .ref 53), (3, .int c1)] [] s2 (cb (f_X3_moor 0 s2) fun x16 s15 => cb (f_X4_moor 53 s15) fun x18 s17 => (if x16 = x18 then rec (c1 + (5 : Int32)) s17 else some ((0 : Int32), s17))) := by
  refine v_aload_n dL_law_303 rfl rfl ?_
  refine v_cbI (fun z hz => runV (as := []) dL_law_304 kv_L_20 rfl rfl (Nat.le_of_ble_eq_true rfl) (Nat.le_of_ble_eq_true rfl) (recvW hO.1 rfl rfl) (ct_X3_moor _ hO _) hz) (fun x16 s15 => ?_)
  refine v_aload_n dL_law_307 rfl rfl ?_
  refine v_cbI (fun z hz => runV (as := []) dL_law_308 kv_L_24 rfl rfl (Nat.le_of_ble_eq_true rfl) (Nat.le_of_ble_eq_true rfl) (recvW hR.1 rfl rfl) (ct_X4_moor _ hR _) hz) (fun x18 s17 => ?_)
  refine v_icmp_eq (tgt := 1787) dL_law_311 (by decide) (fun _ => ?_) (fun _ => ?_)
  · skip
    refine v_iinc (v := (c1 + (5 : Int32))) (L' := [(3, .int (c1 + (5 : Int32))), (0, .ref 5000), (1, .ref 0), (2, .ref 53)]) dL_law_1787 rfl rfl (by decide) rfl ?_
    refine v_goto (tgt := 18) dL_law_1790 (by decide) ?_
    exact v_pick [1, 2, 3, 0] rfl (hrec _ _)
  refine v_iconst (v := 0) dL_law_314 (by decide +kernel) ?_
  exact v_ret (ty := .boolean) dL_law_315 rfl rfl (by decide +kernel)
set_option maxHeartbeats 20000000 in
set_option maxRecDepth 100000 in
theorem wc_L_2 {SH : SHT} (hO : isOaths SH 0) (hR : isModel SH 53) (rec : Int32 → St → Option (Int32 × St)) (hrec : ∀ (c1 : Int32) (s2 : St), VF mL_law 200 SH jI 18 [(0, .ref 5000), (1, .ref 0), (2, .ref 53), (3, .int c1)] [] s2 (rec c1 s2)) (c1 : Int32) (s2 : St) : VF mL_law 200 SH jI 316 [(0, .ref 5000), (1, .ref 0), (2, .ref 53), (3, .int c1)] [] s2 (gd (ib (c1 + (1 : Int32)) SH.2.1) (gd (ib (c1 + (2 : Int32)) SH.2.1) (cb (f_X3_set 0 (SH.2.2 (ix (c1 + (1 : Int32)))) (SH.2.2 (ix (c1 + (2 : Int32)))) s2) fun x22 s21 => gd (ib (c1 + (1 : Int32)) SH.2.1) (gd (ib (c1 + (2 : Int32)) SH.2.1) (cb (f_X4_set 53 (SH.2.2 (ix (c1 + (1 : Int32)))) (SH.2.2 (ix (c1 + (2 : Int32)))) s21) fun x26 s25 => (if x22 = x26 then rec (c1 + (5 : Int32)) s25 else some ((0 : Int32), s25))))))) := by
  refine v_aload_n dL_law_316 rfl rfl ?_
  refine v_aload_n dL_law_317 rfl rfl ?_
  refine v_iload_n dL_law_318 rfl rfl ?_
  refine v_iconst (v := 1) dL_law_319 (by decide +kernel) ?_
  refine v_iadd dL_law_320 ?_
  refine v_gd (fun g19 => ?_)
  refine v_sld dL_law_321 g19 ?_
  refine v_aload_n dL_law_322 rfl rfl ?_
  refine v_iload_n dL_law_323 rfl rfl ?_
  refine v_iconst (v := 2) dL_law_324 (by decide +kernel) ?_
  refine v_iadd dL_law_325 ?_
  refine v_gd (fun g20 => ?_)
  refine v_sld dL_law_326 g20 ?_
  refine v_cbI (fun z hz => runV (as := [.int (SH.2.2 (ix (c1 + (1 : Int32)))), .int (SH.2.2 (ix (c1 + (2 : Int32))))]) dL_law_327 kv_L_25 rfl rfl (Nat.le_of_ble_eq_true rfl) (Nat.le_of_ble_eq_true rfl) (recvW hO.1 rfl rfl) (ct_X3_set _ _ _ hO _) hz) (fun x22 s21 => ?_)
  refine v_aload_n dL_law_330 rfl rfl ?_
  refine v_aload_n dL_law_331 rfl rfl ?_
  refine v_iload_n dL_law_332 rfl rfl ?_
  refine v_iconst (v := 1) dL_law_333 (by decide +kernel) ?_
  refine v_iadd dL_law_334 ?_
  refine v_gd (fun g23 => ?_)
  refine v_sld dL_law_335 g23 ?_
  refine v_aload_n dL_law_336 rfl rfl ?_
  refine v_iload_n dL_law_337 rfl rfl ?_
  refine v_iconst (v := 2) dL_law_338 (by decide +kernel) ?_
  refine v_iadd dL_law_339 ?_
  refine v_gd (fun g24 => ?_)
  refine v_sld dL_law_340 g24 ?_
  refine v_cbI (fun z hz => runV (as := [.int (SH.2.2 (ix (c1 + (1 : Int32)))), .int (SH.2.2 (ix (c1 + (2 : Int32))))]) dL_law_341 kv_L_29 rfl rfl (Nat.le_of_ble_eq_true rfl) (Nat.le_of_ble_eq_true rfl) (recvW hR.1 rfl rfl) (ct_X4_set _ _ _ hR _) hz) (fun x26 s25 => ?_)
  refine v_icmp_eq (tgt := 1787) dL_law_344 (by decide) (fun _ => ?_) (fun _ => ?_)
  · skip
    refine v_iinc (v := (c1 + (5 : Int32))) (L' := [(3, .int (c1 + (5 : Int32))), (0, .ref 5000), (1, .ref 0), (2, .ref 53)]) dL_law_1787 rfl rfl (by decide) rfl ?_
    refine v_goto (tgt := 18) dL_law_1790 (by decide) ?_
    exact v_pick [1, 2, 3, 0] rfl (hrec _ _)
  refine v_iconst (v := 0) dL_law_347 (by decide +kernel) ?_
  exact v_ret (ty := .boolean) dL_law_348 rfl rfl (by decide +kernel)
set_option maxHeartbeats 20000000 in
set_option maxRecDepth 100000 in
theorem wc_L_3 {SH : SHT} (hO : isOaths SH 0) (hR : isModel SH 53) (rec : Int32 → St → Option (Int32 × St)) (hrec : ∀ (c1 : Int32) (s2 : St), VF mL_law 200 SH jI 18 [(0, .ref 5000), (1, .ref 0), (2, .ref 53), (3, .int c1)] [] s2 (rec c1 s2)) (c1 : Int32) (s2 : St) : VF mL_law 200 SH jI 349 [(0, .ref 5000), (1, .ref 0), (2, .ref 53), (3, .int c1)] [] s2 (gd (ib (c1 + (1 : Int32)) SH.2.1) (cp (f_X3_lawOf 0 (SH.2.2 (ix (c1 + (1 : Int32)))) s2) fun x28 => gd (ib (c1 + (1 : Int32)) SH.2.1) (cp (f_X4_lawOf 53 (SH.2.2 (ix (c1 + (1 : Int32)))) s2) fun x30 => (if x28 = x30 then rec (c1 + (5 : Int32)) s2 else some ((0 : Int32), s2))))) := by
  refine v_aload_n dL_law_349 rfl rfl ?_
  refine v_aload_n dL_law_350 rfl rfl ?_
  refine v_iload_n dL_law_351 rfl rfl ?_
  refine v_iconst (v := 1) dL_law_352 (by decide +kernel) ?_
  refine v_iadd dL_law_353 ?_
  refine v_gd (fun g27 => ?_)
  refine v_sld dL_law_354 g27 ?_
  refine v_cpI (fun z hz => runV (as := [.int (SH.2.2 (ix (c1 + (1 : Int32))))]) dL_law_355 kv_L_30 rfl rfl (Nat.le_of_ble_eq_true rfl) (Nat.le_of_ble_eq_true rfl) (recvW hO.1 rfl rfl) (ct_X3_lawOf _ _ hO _) hz) (fun x28 => ?_)
  refine v_aload_n dL_law_358 rfl rfl ?_
  refine v_aload_n dL_law_359 rfl rfl ?_
  refine v_iload_n dL_law_360 rfl rfl ?_
  refine v_iconst (v := 1) dL_law_361 (by decide +kernel) ?_
  refine v_iadd dL_law_362 ?_
  refine v_gd (fun g29 => ?_)
  refine v_sld dL_law_363 g29 ?_
  refine v_cpI (fun z hz => runV (as := [.int (SH.2.2 (ix (c1 + (1 : Int32))))]) dL_law_364 kv_L_34 rfl rfl (Nat.le_of_ble_eq_true rfl) (Nat.le_of_ble_eq_true rfl) (recvW hR.1 rfl rfl) (ct_X4_lawOf _ _ hR _) hz) (fun x30 => ?_)
  refine v_icmp_eq (tgt := 1787) dL_law_367 (by decide) (fun _ => ?_) (fun _ => ?_)
  · skip
    refine v_iinc (v := (c1 + (5 : Int32))) (L' := [(3, .int (c1 + (5 : Int32))), (0, .ref 5000), (1, .ref 0), (2, .ref 53)]) dL_law_1787 rfl rfl (by decide) rfl ?_
    refine v_goto (tgt := 18) dL_law_1790 (by decide) ?_
    exact v_pick [1, 2, 3, 0] rfl (hrec _ _)
  refine v_iconst (v := 0) dL_law_370 (by decide +kernel) ?_
  exact v_ret (ty := .boolean) dL_law_371 rfl rfl (by decide +kernel)
set_option maxHeartbeats 20000000 in
set_option maxRecDepth 100000 in
theorem wc_L_4 {SH : SHT} (hO : isOaths SH 0) (hR : isModel SH 53) (rec : Int32 → St → Option (Int32 × St)) (hrec : ∀ (c1 : Int32) (s2 : St), VF mL_law 200 SH jI 18 [(0, .ref 5000), (1, .ref 0), (2, .ref 53), (3, .int c1)] [] s2 (rec c1 s2)) (c1 : Int32) (s2 : St) : VF mL_law 200 SH jI 372 [(0, .ref 5000), (1, .ref 0), (2, .ref 53), (3, .int c1)] [] s2 (gd (ib (c1 + (1 : Int32)) SH.2.1) (gd (ib (c1 + (2 : Int32)) SH.2.1) (gd (ib (c1 + (3 : Int32)) SH.2.1) (gd (ib (c1 + (4 : Int32)) SH.2.1) (cb (f_X3_person 0 (SH.2.2 (ix (c1 + (1 : Int32)))) (SH.2.2 (ix (c1 + (2 : Int32)))) (SH.2.2 (ix (c1 + (3 : Int32)))) (SH.2.2 (ix (c1 + (4 : Int32)))) s2) fun x36 s35 => gd (ib (c1 + (1 : Int32)) SH.2.1) (gd (ib (c1 + (2 : Int32)) SH.2.1) (gd (ib (c1 + (3 : Int32)) SH.2.1) (gd (ib (c1 + (4 : Int32)) SH.2.1) (cb (f_X4_person 53 (SH.2.2 (ix (c1 + (1 : Int32)))) (SH.2.2 (ix (c1 + (2 : Int32)))) (SH.2.2 (ix (c1 + (3 : Int32)))) (SH.2.2 (ix (c1 + (4 : Int32)))) s35) fun x42 s41 => (if x36 = x42 then rec (c1 + (5 : Int32)) s41 else some ((0 : Int32), s41))))))))))) := by
  refine v_aload_n dL_law_372 rfl rfl ?_
  refine v_aload_n dL_law_373 rfl rfl ?_
  refine v_iload_n dL_law_374 rfl rfl ?_
  refine v_iconst (v := 1) dL_law_375 (by decide +kernel) ?_
  refine v_iadd dL_law_376 ?_
  refine v_gd (fun g31 => ?_)
  refine v_sld dL_law_377 g31 ?_
  refine v_aload_n dL_law_378 rfl rfl ?_
  refine v_iload_n dL_law_379 rfl rfl ?_
  refine v_iconst (v := 2) dL_law_380 (by decide +kernel) ?_
  refine v_iadd dL_law_381 ?_
  refine v_gd (fun g32 => ?_)
  refine v_sld dL_law_382 g32 ?_
  refine v_aload_n dL_law_383 rfl rfl ?_
  refine v_iload_n dL_law_384 rfl rfl ?_
  refine v_iconst (v := 3) dL_law_385 (by decide +kernel) ?_
  refine v_iadd dL_law_386 ?_
  refine v_gd (fun g33 => ?_)
  refine v_sld dL_law_387 g33 ?_
  refine v_aload_n dL_law_388 rfl rfl ?_
  refine v_iload_n dL_law_389 rfl rfl ?_
  refine v_iconst (v := 4) dL_law_390 (by decide +kernel) ?_
  refine v_iadd dL_law_391 ?_
  refine v_gd (fun g34 => ?_)
  refine v_sld dL_law_392 g34 ?_
  refine v_cbI (fun z hz => runV (as := [.int (SH.2.2 (ix (c1 + (1 : Int32)))), .int (SH.2.2 (ix (c1 + (2 : Int32)))), .int (SH.2.2 (ix (c1 + (3 : Int32)))), .int (SH.2.2 (ix (c1 + (4 : Int32))))]) dL_law_393 kv_L_35 rfl rfl (Nat.le_of_ble_eq_true rfl) (Nat.le_of_ble_eq_true rfl) (recvW hO.1 rfl rfl) (ct_X3_person _ _ _ _ _ hO _) hz) (fun x36 s35 => ?_)
  refine v_aload_n dL_law_396 rfl rfl ?_
  refine v_aload_n dL_law_397 rfl rfl ?_
  refine v_iload_n dL_law_398 rfl rfl ?_
  refine v_iconst (v := 1) dL_law_399 (by decide +kernel) ?_
  refine v_iadd dL_law_400 ?_
  refine v_gd (fun g37 => ?_)
  refine v_sld dL_law_401 g37 ?_
  refine v_aload_n dL_law_402 rfl rfl ?_
  refine v_iload_n dL_law_403 rfl rfl ?_
  refine v_iconst (v := 2) dL_law_404 (by decide +kernel) ?_
  refine v_iadd dL_law_405 ?_
  refine v_gd (fun g38 => ?_)
  refine v_sld dL_law_406 g38 ?_
  refine v_aload_n dL_law_407 rfl rfl ?_
  refine v_iload_n dL_law_408 rfl rfl ?_
  refine v_iconst (v := 3) dL_law_409 (by decide +kernel) ?_
  refine v_iadd dL_law_410 ?_
  refine v_gd (fun g39 => ?_)
  refine v_sld dL_law_411 g39 ?_
  refine v_aload_n dL_law_412 rfl rfl ?_
  refine v_iload_n dL_law_413 rfl rfl ?_
  refine v_iconst (v := 4) dL_law_414 (by decide +kernel) ?_
  refine v_iadd dL_law_415 ?_
  refine v_gd (fun g40 => ?_)
  refine v_sld dL_law_416 g40 ?_
  refine v_cbI (fun z hz => runV (as := [.int (SH.2.2 (ix (c1 + (1 : Int32)))), .int (SH.2.2 (ix (c1 + (2 : Int32)))), .int (SH.2.2 (ix (c1 + (3 : Int32)))), .int (SH.2.2 (ix (c1 + (4 : Int32))))]) dL_law_417 kv_L_39 rfl rfl (Nat.le_of_ble_eq_true rfl) (Nat.le_of_ble_eq_true rfl) (recvW hR.1 rfl rfl) (ct_X4_person _ _ _ _ _ hR _) hz) (fun x42 s41 => ?_)
  refine v_icmp_eq (tgt := 1787) dL_law_420 (by decide) (fun _ => ?_) (fun _ => ?_)
  · skip
    refine v_iinc (v := (c1 + (5 : Int32))) (L' := [(3, .int (c1 + (5 : Int32))), (0, .ref 5000), (1, .ref 0), (2, .ref 53)]) dL_law_1787 rfl rfl (by decide) rfl ?_
    refine v_goto (tgt := 18) dL_law_1790 (by decide) ?_
    exact v_pick [1, 2, 3, 0] rfl (hrec _ _)
  refine v_iconst (v := 0) dL_law_423 (by decide +kernel) ?_
  exact v_ret (ty := .boolean) dL_law_424 rfl rfl (by decide +kernel)
set_option maxHeartbeats 20000000 in
set_option maxRecDepth 100000 in
theorem wc_L_5 {SH : SHT} (hO : isOaths SH 0) (hR : isModel SH 53) (rec : Int32 → St → Option (Int32 × St)) (hrec : ∀ (c1 : Int32) (s2 : St), VF mL_law 200 SH jI 18 [(0, .ref 5000), (1, .ref 0), (2, .ref 53), (3, .int c1)] [] s2 (rec c1 s2)) (c1 : Int32) (s2 : St) : VF mL_law 200 SH jI 425 [(0, .ref 5000), (1, .ref 0), (2, .ref 53), (3, .int c1)] [] s2 (gd (ib (c1 + (1 : Int32)) SH.2.1) (gd (ib (c1 + (2 : Int32)) SH.2.1) (cp (f_X3_of 0 (SH.2.2 (ix (c1 + (1 : Int32)))) (SH.2.2 (ix (c1 + (2 : Int32)))) s2) fun x45 => gd (ib (c1 + (1 : Int32)) SH.2.1) (gd (ib (c1 + (2 : Int32)) SH.2.1) (cp (f_X4_of 53 (SH.2.2 (ix (c1 + (1 : Int32)))) (SH.2.2 (ix (c1 + (2 : Int32)))) s2) fun x48 => (if x45 = x48 then rec (c1 + (5 : Int32)) s2 else some ((0 : Int32), s2))))))) := by
  refine v_aload_n dL_law_425 rfl rfl ?_
  refine v_aload_n dL_law_426 rfl rfl ?_
  refine v_iload_n dL_law_427 rfl rfl ?_
  refine v_iconst (v := 1) dL_law_428 (by decide +kernel) ?_
  refine v_iadd dL_law_429 ?_
  refine v_gd (fun g43 => ?_)
  refine v_sld dL_law_430 g43 ?_
  refine v_aload_n dL_law_431 rfl rfl ?_
  refine v_iload_n dL_law_432 rfl rfl ?_
  refine v_iconst (v := 2) dL_law_433 (by decide +kernel) ?_
  refine v_iadd dL_law_434 ?_
  refine v_gd (fun g44 => ?_)
  refine v_sld dL_law_435 g44 ?_
  refine v_cpI (fun z hz => runV (as := [.int (SH.2.2 (ix (c1 + (1 : Int32)))), .int (SH.2.2 (ix (c1 + (2 : Int32))))]) dL_law_436 kv_L_40 rfl rfl (Nat.le_of_ble_eq_true rfl) (Nat.le_of_ble_eq_true rfl) (recvW hO.1 rfl rfl) (ct_X3_of _ _ _ hO _) hz) (fun x45 => ?_)
  refine v_aload_n dL_law_439 rfl rfl ?_
  refine v_aload_n dL_law_440 rfl rfl ?_
  refine v_iload_n dL_law_441 rfl rfl ?_
  refine v_iconst (v := 1) dL_law_442 (by decide +kernel) ?_
  refine v_iadd dL_law_443 ?_
  refine v_gd (fun g46 => ?_)
  refine v_sld dL_law_444 g46 ?_
  refine v_aload_n dL_law_445 rfl rfl ?_
  refine v_iload_n dL_law_446 rfl rfl ?_
  refine v_iconst (v := 2) dL_law_447 (by decide +kernel) ?_
  refine v_iadd dL_law_448 ?_
  refine v_gd (fun g47 => ?_)
  refine v_sld dL_law_449 g47 ?_
  refine v_cpI (fun z hz => runV (as := [.int (SH.2.2 (ix (c1 + (1 : Int32)))), .int (SH.2.2 (ix (c1 + (2 : Int32))))]) dL_law_450 kv_L_43 rfl rfl (Nat.le_of_ble_eq_true rfl) (Nat.le_of_ble_eq_true rfl) (recvW hR.1 rfl rfl) (ct_X4_of _ _ _ hR _) hz) (fun x48 => ?_)
  refine v_icmp_eq (tgt := 1787) dL_law_453 (by decide) (fun _ => ?_) (fun _ => ?_)
  · skip
    refine v_iinc (v := (c1 + (5 : Int32))) (L' := [(3, .int (c1 + (5 : Int32))), (0, .ref 5000), (1, .ref 0), (2, .ref 53)]) dL_law_1787 rfl rfl (by decide) rfl ?_
    refine v_goto (tgt := 18) dL_law_1790 (by decide) ?_
    exact v_pick [1, 2, 3, 0] rfl (hrec _ _)
  refine v_iconst (v := 0) dL_law_456 (by decide +kernel) ?_
  exact v_ret (ty := .boolean) dL_law_457 rfl rfl (by decide +kernel)
set_option maxHeartbeats 20000000 in
set_option maxRecDepth 100000 in
theorem wc_L_6 {SH : SHT} (hO : isOaths SH 0) (hR : isModel SH 53) (rec : Int32 → St → Option (Int32 × St)) (hrec : ∀ (c1 : Int32) (s2 : St), VF mL_law 200 SH jI 18 [(0, .ref 5000), (1, .ref 0), (2, .ref 53), (3, .int c1)] [] s2 (rec c1 s2)) (c1 : Int32) (s2 : St) : VF mL_law 200 SH jI 458 [(0, .ref 5000), (1, .ref 0), (2, .ref 53), (3, .int c1)] [] s2 (gd (ib (c1 + (1 : Int32)) SH.2.1) (cp (f_X3_loses 0 (SH.2.2 (ix (c1 + (1 : Int32)))) s2) fun x50 => gd (ib (c1 + (1 : Int32)) SH.2.1) (cp (f_X4_loses 53 (SH.2.2 (ix (c1 + (1 : Int32)))) s2) fun x52 => (if x50 = x52 then rec (c1 + (5 : Int32)) s2 else some ((0 : Int32), s2))))) := by
  refine v_aload_n dL_law_458 rfl rfl ?_
  refine v_aload_n dL_law_459 rfl rfl ?_
  refine v_iload_n dL_law_460 rfl rfl ?_
  refine v_iconst (v := 1) dL_law_461 (by decide +kernel) ?_
  refine v_iadd dL_law_462 ?_
  refine v_gd (fun g49 => ?_)
  refine v_sld dL_law_463 g49 ?_
  refine v_cpI (fun z hz => runV (as := [.int (SH.2.2 (ix (c1 + (1 : Int32))))]) dL_law_464 kv_L_44 rfl rfl (Nat.le_of_ble_eq_true rfl) (Nat.le_of_ble_eq_true rfl) (recvW hO.1 rfl rfl) (ct_X3_loses _ _ hO _) hz) (fun x50 => ?_)
  refine v_aload_n dL_law_467 rfl rfl ?_
  refine v_aload_n dL_law_468 rfl rfl ?_
  refine v_iload_n dL_law_469 rfl rfl ?_
  refine v_iconst (v := 1) dL_law_470 (by decide +kernel) ?_
  refine v_iadd dL_law_471 ?_
  refine v_gd (fun g51 => ?_)
  refine v_sld dL_law_472 g51 ?_
  refine v_cpI (fun z hz => runV (as := [.int (SH.2.2 (ix (c1 + (1 : Int32))))]) dL_law_473 kv_L_47 rfl rfl (Nat.le_of_ble_eq_true rfl) (Nat.le_of_ble_eq_true rfl) (recvW hR.1 rfl rfl) (ct_X4_loses _ _ hR _) hz) (fun x52 => ?_)
  refine v_icmp_eq (tgt := 1787) dL_law_476 (by decide) (fun _ => ?_) (fun _ => ?_)
  · skip
    refine v_iinc (v := (c1 + (5 : Int32))) (L' := [(3, .int (c1 + (5 : Int32))), (0, .ref 5000), (1, .ref 0), (2, .ref 53)]) dL_law_1787 rfl rfl (by decide) rfl ?_
    refine v_goto (tgt := 18) dL_law_1790 (by decide) ?_
    exact v_pick [1, 2, 3, 0] rfl (hrec _ _)
  refine v_iconst (v := 0) dL_law_479 (by decide +kernel) ?_
  exact v_ret (ty := .boolean) dL_law_480 rfl rfl (by decide +kernel)
set_option maxHeartbeats 20000000 in
set_option maxRecDepth 100000 in
theorem wc_L_7 {SH : SHT} (hO : isOaths SH 0) (hR : isModel SH 53) (rec : Int32 → St → Option (Int32 × St)) (hrec : ∀ (c1 : Int32) (s2 : St), VF mL_law 200 SH jI 18 [(0, .ref 5000), (1, .ref 0), (2, .ref 53), (3, .int c1)] [] s2 (rec c1 s2)) (c1 : Int32) (s2 : St) : VF mL_law 200 SH jI 481 [(0, .ref 5000), (1, .ref 0), (2, .ref 53), (3, .int c1)] [] s2 (gd (ib (c1 + (1 : Int32)) SH.2.1) (gd (ib (c1 + (2 : Int32)) SH.2.1) (gd (ib (c1 + (3 : Int32)) SH.2.1) (cb (f_X3_mind 0 (SH.2.2 (ix (c1 + (1 : Int32)))) (SH.2.2 (ix (c1 + (2 : Int32)))) (SH.2.2 (ix (c1 + (3 : Int32)))) s2) fun x57 s56 => gd (ib (c1 + (1 : Int32)) SH.2.1) (gd (ib (c1 + (2 : Int32)) SH.2.1) (gd (ib (c1 + (3 : Int32)) SH.2.1) (cb (f_X4_mind 53 (SH.2.2 (ix (c1 + (1 : Int32)))) (SH.2.2 (ix (c1 + (2 : Int32)))) (SH.2.2 (ix (c1 + (3 : Int32)))) s56) fun x62 s61 => (if x57 = x62 then rec (c1 + (5 : Int32)) s61 else some ((0 : Int32), s61))))))))) := by
  refine v_aload_n dL_law_481 rfl rfl ?_
  refine v_aload_n dL_law_482 rfl rfl ?_
  refine v_iload_n dL_law_483 rfl rfl ?_
  refine v_iconst (v := 1) dL_law_484 (by decide +kernel) ?_
  refine v_iadd dL_law_485 ?_
  refine v_gd (fun g53 => ?_)
  refine v_sld dL_law_486 g53 ?_
  refine v_aload_n dL_law_487 rfl rfl ?_
  refine v_iload_n dL_law_488 rfl rfl ?_
  refine v_iconst (v := 2) dL_law_489 (by decide +kernel) ?_
  refine v_iadd dL_law_490 ?_
  refine v_gd (fun g54 => ?_)
  refine v_sld dL_law_491 g54 ?_
  refine v_aload_n dL_law_492 rfl rfl ?_
  refine v_iload_n dL_law_493 rfl rfl ?_
  refine v_iconst (v := 3) dL_law_494 (by decide +kernel) ?_
  refine v_iadd dL_law_495 ?_
  refine v_gd (fun g55 => ?_)
  refine v_sld dL_law_496 g55 ?_
  refine v_cbI (fun z hz => runV (as := [.int (SH.2.2 (ix (c1 + (1 : Int32)))), .int (SH.2.2 (ix (c1 + (2 : Int32)))), .int (SH.2.2 (ix (c1 + (3 : Int32))))]) dL_law_497 kv_L_48 rfl rfl (Nat.le_of_ble_eq_true rfl) (Nat.le_of_ble_eq_true rfl) (recvW hO.1 rfl rfl) (ct_X3_mind _ _ _ _ hO _) hz) (fun x57 s56 => ?_)
  refine v_aload_n dL_law_500 rfl rfl ?_
  refine v_aload_n dL_law_501 rfl rfl ?_
  refine v_iload_n dL_law_502 rfl rfl ?_
  refine v_iconst (v := 1) dL_law_503 (by decide +kernel) ?_
  refine v_iadd dL_law_504 ?_
  refine v_gd (fun g58 => ?_)
  refine v_sld dL_law_505 g58 ?_
  refine v_aload_n dL_law_506 rfl rfl ?_
  refine v_iload_n dL_law_507 rfl rfl ?_
  refine v_iconst (v := 2) dL_law_508 (by decide +kernel) ?_
  refine v_iadd dL_law_509 ?_
  refine v_gd (fun g59 => ?_)
  refine v_sld dL_law_510 g59 ?_
  refine v_aload_n dL_law_511 rfl rfl ?_
  refine v_iload_n dL_law_512 rfl rfl ?_
  refine v_iconst (v := 3) dL_law_513 (by decide +kernel) ?_
  refine v_iadd dL_law_514 ?_
  refine v_gd (fun g60 => ?_)
  refine v_sld dL_law_515 g60 ?_
  refine v_cbI (fun z hz => runV (as := [.int (SH.2.2 (ix (c1 + (1 : Int32)))), .int (SH.2.2 (ix (c1 + (2 : Int32)))), .int (SH.2.2 (ix (c1 + (3 : Int32))))]) dL_law_516 kv_L_52 rfl rfl (Nat.le_of_ble_eq_true rfl) (Nat.le_of_ble_eq_true rfl) (recvW hR.1 rfl rfl) (ct_X4_mind _ _ _ _ hR _) hz) (fun x62 s61 => ?_)
  refine v_icmp_eq (tgt := 1787) dL_law_519 (by decide) (fun _ => ?_) (fun _ => ?_)
  · skip
    refine v_iinc (v := (c1 + (5 : Int32))) (L' := [(3, .int (c1 + (5 : Int32))), (0, .ref 5000), (1, .ref 0), (2, .ref 53)]) dL_law_1787 rfl rfl (by decide) rfl ?_
    refine v_goto (tgt := 18) dL_law_1790 (by decide) ?_
    exact v_pick [1, 2, 3, 0] rfl (hrec _ _)
  refine v_iconst (v := 0) dL_law_522 (by decide +kernel) ?_
  exact v_ret (ty := .boolean) dL_law_523 rfl rfl (by decide +kernel)
set_option maxHeartbeats 20000000 in
set_option maxRecDepth 100000 in
theorem wc_L_8 {SH : SHT} (hO : isOaths SH 0) (hR : isModel SH 53) (rec : Int32 → St → Option (Int32 × St)) (hrec : ∀ (c1 : Int32) (s2 : St), VF mL_law 200 SH jI 18 [(0, .ref 5000), (1, .ref 0), (2, .ref 53), (3, .int c1)] [] s2 (rec c1 s2)) (c1 : Int32) (s2 : St) : VF mL_law 200 SH jI 524 [(0, .ref 5000), (1, .ref 0), (2, .ref 53), (3, .int c1)] [] s2 (gd (ib (c1 + (1 : Int32)) SH.2.1) (gd (ib (c1 + (2 : Int32)) SH.2.1) (cb (f_X3_sure 0 (SH.2.2 (ix (c1 + (1 : Int32)))) (SH.2.2 (ix (c1 + (2 : Int32)))) s2) fun x66 s65 => gd (ib (c1 + (1 : Int32)) SH.2.1) (gd (ib (c1 + (2 : Int32)) SH.2.1) (cb (f_X4_sure 53 (SH.2.2 (ix (c1 + (1 : Int32)))) (SH.2.2 (ix (c1 + (2 : Int32)))) s65) fun x70 s69 => (if x66 = x70 then rec (c1 + (5 : Int32)) s69 else some ((0 : Int32), s69))))))) := by
  refine v_aload_n dL_law_524 rfl rfl ?_
  refine v_aload_n dL_law_525 rfl rfl ?_
  refine v_iload_n dL_law_526 rfl rfl ?_
  refine v_iconst (v := 1) dL_law_527 (by decide +kernel) ?_
  refine v_iadd dL_law_528 ?_
  refine v_gd (fun g63 => ?_)
  refine v_sld dL_law_529 g63 ?_
  refine v_aload_n dL_law_530 rfl rfl ?_
  refine v_iload_n dL_law_531 rfl rfl ?_
  refine v_iconst (v := 2) dL_law_532 (by decide +kernel) ?_
  refine v_iadd dL_law_533 ?_
  refine v_gd (fun g64 => ?_)
  refine v_sld dL_law_534 g64 ?_
  refine v_cbI (fun z hz => runV (as := [.int (SH.2.2 (ix (c1 + (1 : Int32)))), .int (SH.2.2 (ix (c1 + (2 : Int32))))]) dL_law_535 kv_L_53 rfl rfl (Nat.le_of_ble_eq_true rfl) (Nat.le_of_ble_eq_true rfl) (recvW hO.1 rfl rfl) (ct_X3_sure _ _ _ hO _) hz) (fun x66 s65 => ?_)
  refine v_aload_n dL_law_538 rfl rfl ?_
  refine v_aload_n dL_law_539 rfl rfl ?_
  refine v_iload_n dL_law_540 rfl rfl ?_
  refine v_iconst (v := 1) dL_law_541 (by decide +kernel) ?_
  refine v_iadd dL_law_542 ?_
  refine v_gd (fun g67 => ?_)
  refine v_sld dL_law_543 g67 ?_
  refine v_aload_n dL_law_544 rfl rfl ?_
  refine v_iload_n dL_law_545 rfl rfl ?_
  refine v_iconst (v := 2) dL_law_546 (by decide +kernel) ?_
  refine v_iadd dL_law_547 ?_
  refine v_gd (fun g68 => ?_)
  refine v_sld dL_law_548 g68 ?_
  refine v_cbI (fun z hz => runV (as := [.int (SH.2.2 (ix (c1 + (1 : Int32)))), .int (SH.2.2 (ix (c1 + (2 : Int32))))]) dL_law_549 kv_L_56 rfl rfl (Nat.le_of_ble_eq_true rfl) (Nat.le_of_ble_eq_true rfl) (recvW hR.1 rfl rfl) (ct_X4_sure _ _ _ hR _) hz) (fun x70 s69 => ?_)
  refine v_icmp_eq (tgt := 1787) dL_law_552 (by decide) (fun _ => ?_) (fun _ => ?_)
  · skip
    refine v_iinc (v := (c1 + (5 : Int32))) (L' := [(3, .int (c1 + (5 : Int32))), (0, .ref 5000), (1, .ref 0), (2, .ref 53)]) dL_law_1787 rfl rfl (by decide) rfl ?_
    refine v_goto (tgt := 18) dL_law_1790 (by decide) ?_
    exact v_pick [1, 2, 3, 0] rfl (hrec _ _)
  refine v_iconst (v := 0) dL_law_555 (by decide +kernel) ?_
  exact v_ret (ty := .boolean) dL_law_556 rfl rfl (by decide +kernel)
set_option maxHeartbeats 20000000 in
set_option maxRecDepth 100000 in
theorem wc_L_9 {SH : SHT} (hO : isOaths SH 0) (hR : isModel SH 53) (rec : Int32 → St → Option (Int32 × St)) (hrec : ∀ (c1 : Int32) (s2 : St), VF mL_law 200 SH jI 18 [(0, .ref 5000), (1, .ref 0), (2, .ref 53), (3, .int c1)] [] s2 (rec c1 s2)) (c1 : Int32) (s2 : St) : VF mL_law 200 SH jI 557 [(0, .ref 5000), (1, .ref 0), (2, .ref 53), (3, .int c1)] [] s2 (gd (ib (c1 + (1 : Int32)) SH.2.1) (gd (ib (c1 + (2 : Int32)) SH.2.1) (cb (f_X3_bring 0 (SH.2.2 (ix (c1 + (1 : Int32)))) (SH.2.2 (ix (c1 + (2 : Int32)))) s2) fun x74 s73 => gd (ib (c1 + (1 : Int32)) SH.2.1) (gd (ib (c1 + (2 : Int32)) SH.2.1) (cb (f_X4_bring 53 (SH.2.2 (ix (c1 + (1 : Int32)))) (SH.2.2 (ix (c1 + (2 : Int32)))) s73) fun x78 s77 => (if x74 = x78 then rec (c1 + (5 : Int32)) s77 else some ((0 : Int32), s77))))))) := by
  refine v_aload_n dL_law_557 rfl rfl ?_
  refine v_aload_n dL_law_558 rfl rfl ?_
  refine v_iload_n dL_law_559 rfl rfl ?_
  refine v_iconst (v := 1) dL_law_560 (by decide +kernel) ?_
  refine v_iadd dL_law_561 ?_
  refine v_gd (fun g71 => ?_)
  refine v_sld dL_law_562 g71 ?_
  refine v_aload_n dL_law_563 rfl rfl ?_
  refine v_iload_n dL_law_564 rfl rfl ?_
  refine v_iconst (v := 2) dL_law_565 (by decide +kernel) ?_
  refine v_iadd dL_law_566 ?_
  refine v_gd (fun g72 => ?_)
  refine v_sld dL_law_567 g72 ?_
  refine v_cbI (fun z hz => runV (as := [.int (SH.2.2 (ix (c1 + (1 : Int32)))), .int (SH.2.2 (ix (c1 + (2 : Int32))))]) dL_law_568 kv_L_57 rfl rfl (Nat.le_of_ble_eq_true rfl) (Nat.le_of_ble_eq_true rfl) (recvW hO.1 rfl rfl) (ct_X3_bring _ _ _ hO _) hz) (fun x74 s73 => ?_)
  refine v_aload_n dL_law_571 rfl rfl ?_
  refine v_aload_n dL_law_572 rfl rfl ?_
  refine v_iload_n dL_law_573 rfl rfl ?_
  refine v_iconst (v := 1) dL_law_574 (by decide +kernel) ?_
  refine v_iadd dL_law_575 ?_
  refine v_gd (fun g75 => ?_)
  refine v_sld dL_law_576 g75 ?_
  refine v_aload_n dL_law_577 rfl rfl ?_
  refine v_iload_n dL_law_578 rfl rfl ?_
  refine v_iconst (v := 2) dL_law_579 (by decide +kernel) ?_
  refine v_iadd dL_law_580 ?_
  refine v_gd (fun g76 => ?_)
  refine v_sld dL_law_581 g76 ?_
  refine v_cbI (fun z hz => runV (as := [.int (SH.2.2 (ix (c1 + (1 : Int32)))), .int (SH.2.2 (ix (c1 + (2 : Int32))))]) dL_law_582 kv_L_60 rfl rfl (Nat.le_of_ble_eq_true rfl) (Nat.le_of_ble_eq_true rfl) (recvW hR.1 rfl rfl) (ct_X4_bring _ _ _ hR _) hz) (fun x78 s77 => ?_)
  refine v_icmp_eq (tgt := 1787) dL_law_585 (by decide) (fun _ => ?_) (fun _ => ?_)
  · skip
    refine v_iinc (v := (c1 + (5 : Int32))) (L' := [(3, .int (c1 + (5 : Int32))), (0, .ref 5000), (1, .ref 0), (2, .ref 53)]) dL_law_1787 rfl rfl (by decide) rfl ?_
    refine v_goto (tgt := 18) dL_law_1790 (by decide) ?_
    exact v_pick [1, 2, 3, 0] rfl (hrec _ _)
  refine v_iconst (v := 0) dL_law_588 (by decide +kernel) ?_
  exact v_ret (ty := .boolean) dL_law_589 rfl rfl (by decide +kernel)
set_option maxHeartbeats 20000000 in
set_option maxRecDepth 100000 in
theorem wc_L_10 {SH : SHT} (hO : isOaths SH 0) (hR : isModel SH 53) (rec : Int32 → St → Option (Int32 × St)) (hrec : ∀ (c1 : Int32) (s2 : St), VF mL_law 200 SH jI 18 [(0, .ref 5000), (1, .ref 0), (2, .ref 53), (3, .int c1)] [] s2 (rec c1 s2)) (c1 : Int32) (s2 : St) : VF mL_law 200 SH jI 590 [(0, .ref 5000), (1, .ref 0), (2, .ref 53), (3, .int c1)] [] s2 (gd (ib (c1 + (1 : Int32)) SH.2.1) (gd (ib (c1 + (2 : Int32)) SH.2.1) (cp (f_X3_cell 0 (SH.2.2 (ix (c1 + (1 : Int32)))) (SH.2.2 (ix (c1 + (2 : Int32)))) s2) fun x81 => gd (ib (c1 + (1 : Int32)) SH.2.1) (gd (ib (c1 + (2 : Int32)) SH.2.1) (cp (f_X4_cell 53 (SH.2.2 (ix (c1 + (1 : Int32)))) (SH.2.2 (ix (c1 + (2 : Int32)))) s2) fun x84 => (if x81 = x84 then rec (c1 + (5 : Int32)) s2 else some ((0 : Int32), s2))))))) := by
  refine v_aload_n dL_law_590 rfl rfl ?_
  refine v_aload_n dL_law_591 rfl rfl ?_
  refine v_iload_n dL_law_592 rfl rfl ?_
  refine v_iconst (v := 1) dL_law_593 (by decide +kernel) ?_
  refine v_iadd dL_law_594 ?_
  refine v_gd (fun g79 => ?_)
  refine v_sld dL_law_595 g79 ?_
  refine v_aload_n dL_law_596 rfl rfl ?_
  refine v_iload_n dL_law_597 rfl rfl ?_
  refine v_iconst (v := 2) dL_law_598 (by decide +kernel) ?_
  refine v_iadd dL_law_599 ?_
  refine v_gd (fun g80 => ?_)
  refine v_sld dL_law_600 g80 ?_
  refine v_cpI (fun z hz => runV (as := [.int (SH.2.2 (ix (c1 + (1 : Int32)))), .int (SH.2.2 (ix (c1 + (2 : Int32))))]) dL_law_601 kv_L_61 rfl rfl (Nat.le_of_ble_eq_true rfl) (Nat.le_of_ble_eq_true rfl) (recvW hO.1 rfl rfl) (ct_X3_cell _ _ _ hO _) hz) (fun x81 => ?_)
  refine v_aload_n dL_law_604 rfl rfl ?_
  refine v_aload_n dL_law_605 rfl rfl ?_
  refine v_iload_n dL_law_606 rfl rfl ?_
  refine v_iconst (v := 1) dL_law_607 (by decide +kernel) ?_
  refine v_iadd dL_law_608 ?_
  refine v_gd (fun g82 => ?_)
  refine v_sld dL_law_609 g82 ?_
  refine v_aload_n dL_law_610 rfl rfl ?_
  refine v_iload_n dL_law_611 rfl rfl ?_
  refine v_iconst (v := 2) dL_law_612 (by decide +kernel) ?_
  refine v_iadd dL_law_613 ?_
  refine v_gd (fun g83 => ?_)
  refine v_sld dL_law_614 g83 ?_
  refine v_cpI (fun z hz => runV (as := [.int (SH.2.2 (ix (c1 + (1 : Int32)))), .int (SH.2.2 (ix (c1 + (2 : Int32))))]) dL_law_615 kv_L_64 rfl rfl (Nat.le_of_ble_eq_true rfl) (Nat.le_of_ble_eq_true rfl) (recvW hR.1 rfl rfl) (ct_X4_cell _ _ _ hR _) hz) (fun x84 => ?_)
  refine v_icmp_eq (tgt := 1787) dL_law_618 (by decide) (fun _ => ?_) (fun _ => ?_)
  · skip
    refine v_iinc (v := (c1 + (5 : Int32))) (L' := [(3, .int (c1 + (5 : Int32))), (0, .ref 5000), (1, .ref 0), (2, .ref 53)]) dL_law_1787 rfl rfl (by decide) rfl ?_
    refine v_goto (tgt := 18) dL_law_1790 (by decide) ?_
    exact v_pick [1, 2, 3, 0] rfl (hrec _ _)
  refine v_iconst (v := 0) dL_law_621 (by decide +kernel) ?_
  exact v_ret (ty := .boolean) dL_law_622 rfl rfl (by decide +kernel)
set_option maxHeartbeats 20000000 in
set_option maxRecDepth 100000 in
theorem wc_L_11 {SH : SHT} (hO : isOaths SH 0) (hR : isModel SH 53) (rec : Int32 → St → Option (Int32 × St)) (hrec : ∀ (c1 : Int32) (s2 : St), VF mL_law 200 SH jI 18 [(0, .ref 5000), (1, .ref 0), (2, .ref 53), (3, .int c1)] [] s2 (rec c1 s2)) (c1 : Int32) (s2 : St) : VF mL_law 200 SH jI 623 [(0, .ref 5000), (1, .ref 0), (2, .ref 53), (3, .int c1)] [] s2 (gd (ib (c1 + (1 : Int32)) SH.2.1) (cp (f_X3_lowest 0 (SH.2.2 (ix (c1 + (1 : Int32)))) s2) fun x86 => gd (ib (c1 + (1 : Int32)) SH.2.1) (cp (f_X4_lowest 53 (SH.2.2 (ix (c1 + (1 : Int32)))) s2) fun x88 => (if x86 = x88 then rec (c1 + (5 : Int32)) s2 else some ((0 : Int32), s2))))) := by
  refine v_aload_n dL_law_623 rfl rfl ?_
  refine v_aload_n dL_law_624 rfl rfl ?_
  refine v_iload_n dL_law_625 rfl rfl ?_
  refine v_iconst (v := 1) dL_law_626 (by decide +kernel) ?_
  refine v_iadd dL_law_627 ?_
  refine v_gd (fun g85 => ?_)
  refine v_sld dL_law_628 g85 ?_
  refine v_cpI (fun z hz => runV (as := [.int (SH.2.2 (ix (c1 + (1 : Int32))))]) dL_law_629 kv_L_65 rfl rfl (Nat.le_of_ble_eq_true rfl) (Nat.le_of_ble_eq_true rfl) (recvW hO.1 rfl rfl) (ct_X3_lowest _ _ hO _) hz) (fun x86 => ?_)
  refine v_aload_n dL_law_632 rfl rfl ?_
  refine v_aload_n dL_law_633 rfl rfl ?_
  refine v_iload_n dL_law_634 rfl rfl ?_
  refine v_iconst (v := 1) dL_law_635 (by decide +kernel) ?_
  refine v_iadd dL_law_636 ?_
  refine v_gd (fun g87 => ?_)
  refine v_sld dL_law_637 g87 ?_
  refine v_cpI (fun z hz => runV (as := [.int (SH.2.2 (ix (c1 + (1 : Int32))))]) dL_law_638 kv_L_68 rfl rfl (Nat.le_of_ble_eq_true rfl) (Nat.le_of_ble_eq_true rfl) (recvW hR.1 rfl rfl) (ct_X4_lowest _ _ hR _) hz) (fun x88 => ?_)
  refine v_icmp_eq (tgt := 1787) dL_law_641 (by decide) (fun _ => ?_) (fun _ => ?_)
  · skip
    refine v_iinc (v := (c1 + (5 : Int32))) (L' := [(3, .int (c1 + (5 : Int32))), (0, .ref 5000), (1, .ref 0), (2, .ref 53)]) dL_law_1787 rfl rfl (by decide) rfl ?_
    refine v_goto (tgt := 18) dL_law_1790 (by decide) ?_
    exact v_pick [1, 2, 3, 0] rfl (hrec _ _)
  refine v_iconst (v := 0) dL_law_644 (by decide +kernel) ?_
  exact v_ret (ty := .boolean) dL_law_645 rfl rfl (by decide +kernel)
