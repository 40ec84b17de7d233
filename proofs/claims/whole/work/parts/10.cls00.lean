set_option maxHeartbeats 4000000 in
set_option maxRecDepth 100000 in
theorem w_X0_own {SH : SHT} (b : Nat) (a1 : Int32) (h : isActing SH b) (s0 : St) : VF mX0_own 0 SH (jP s0) 0 [(0, .ref b), (1, .int a1)] [] s0 (f_X0_own b a1 s0) := by
  unfold f_X0_own
  refine v_gets dX0_own_0 ks_X0_37 ?_
  refine v_aload_n dX0_own_3 rfl rfl ?_
  refine v_geti dX0_own_4 kf_X0_19 h.1 rfl ?_
  refine v_iconst (v := 4) dX0_own_7 (by decide +kernel) ?_
  refine v_imul dX0_own_8 ?_
  refine v_iload_n dX0_own_9 rfl rfl ?_
  refine v_iadd dX0_own_10 ?_
  refine v_gd (fun g1 => ?_)
  refine v_tald (i := 3) dX0_own_11 rfl (by decide) g1 rfl ?_
  exact v_ret (ty := .int) dX0_own_12 rfl rfl rfl
theorem ct_X0_own {SH : SHT} (b : Nat) (a1 : Int32) (h : isActing SH b) (s0 : St) : CT yX0_own mX0_own 0 SH (jP s0) [.ref b, .int a1] s0 (f_X0_own b a1 s0) := CT.of (by decide +kernel) rfl (fun E => Nat.le_of_ble_eq_true rfl) (w_X0_own b a1 h s0)
set_option maxHeartbeats 4000000 in
set_option maxRecDepth 100000 in
theorem w_X0_note {SH : SHT} (b : Nat) (a1 : Int32) (h : isActing SH b) (s0 : St) : VF mX0_note 0 SH jV 0 [(0, .ref b), (1, .int a1)] [] s0 (f_X0_note b a1 s0) := by
  unfold f_X0_note
  refine v_aload_n dX0_note_0 rfl rfl ?_
  refine v_geti dX0_note_1 kf_X0_47 h.1 rfl ?_
  refine v_bipush (v := 30) dX0_note_4 (by decide +kernel) ?_
  refine v_icmp_ge (tgt := 29) dX0_note_6 (by decide) (fun _ => ?_) (fun _ => ?_)
  · skip
    exact v_vret dX0_note_29 rfl rfl
  refine v_aload_n dX0_note_9 rfl rfl ?_
  refine v_getr dX0_note_10 kf_X0_9 h.1 rfl ?_
  refine v_aload_n dX0_note_13 rfl rfl ?_
  refine v_geti dX0_note_14 kf_X0_47 h.1 rfl ?_
  refine v_iload_n dX0_note_17 rfl rfl ?_
  refine v_gd (fun g1 => ?_)
  refine v_iast dX0_note_18 h.2 g1 rfl (v_st fun s2 => ?_)
  refine v_aload_n dX0_note_19 rfl rfl ?_
  refine v_dup dX0_note_20 rfl ?_
  refine v_geti dX0_note_21 kf_X0_47 h.1 rfl ?_
  refine v_iconst (v := 1) dX0_note_24 (by decide +kernel) ?_
  refine v_iadd dX0_note_25 ?_
  refine v_puti dX0_note_26 kp_X0_47 h.1 rfl rfl rfl (v_st fun s3 => ?_)
  exact v_vret dX0_note_29 rfl rfl
theorem ct_X0_note {SH : SHT} (b : Nat) (a1 : Int32) (h : isActing SH b) (s0 : St) : CT yX0_note mX0_note 0 SH jV [.ref b, .int a1] s0 (f_X0_note b a1 s0) := CT.of (by decide +kernel) rfl (fun E => Nat.le_of_ble_eq_true rfl) (w_X0_note b a1 h s0)
set_option maxHeartbeats 4000000 in
set_option maxRecDepth 100000 in
theorem w_X0_part {SH : SHT} (b : Nat) (a1 : Int32) (h : isActing SH b) (s0 : St) : VF mX0_part 0 SH jI 0 [(0, .ref b), (1, .int a1)] [] s0 (f_X0_part b a1 s0) := by
  unfold f_X0_part
  refine v_aload_n dX0_part_0 rfl rfl ?_
  refine v_geti dX0_part_1 kf_X0_22 h.1 rfl ?_
  refine v_aload_n dX0_part_4 rfl rfl ?_
  refine v_geti dX0_part_5 kf_X0_15 h.1 rfl ?_
  refine v_icmp_ne (tgt := 18) dX0_part_8 (by decide) (fun _ => ?_) (fun _ => ?_)
  · skip
    refine v_iload_n dX0_part_18 rfl rfl ?_
    refine v_aload_n dX0_part_19 rfl rfl ?_
    refine v_geti dX0_part_20 kf_X0_22 h.1 rfl ?_
    refine v_aload_n dX0_part_23 rfl rfl ?_
    refine v_geti dX0_part_24 kf_X0_15 h.1 rfl ?_
    refine v_isub dX0_part_27 ?_
    refine v_idiv dX0_part_28 (fun _ => ?_)
    exact v_ret (ty := .int) dX0_part_29 rfl rfl rfl
  refine v_aload_n dX0_part_11 rfl rfl ?_
  refine v_iconst (v := 1) dX0_part_12 (by decide +kernel) ?_
  refine v_puti dX0_part_13 kp_X0_25 h.1 rfl (by decide +kernel) (by decide +kernel) (v_st fun s1 => ?_)
  refine v_iconst (v := 0) dX0_part_16 (by decide +kernel) ?_
  exact v_ret (ty := .int) dX0_part_17 rfl rfl rfl
theorem ct_X0_part {SH : SHT} (b : Nat) (a1 : Int32) (h : isActing SH b) (s0 : St) : CT yX0_part mX0_part 0 SH jI [.ref b, .int a1] s0 (f_X0_part b a1 s0) := CT.of (by decide +kernel) rfl (fun E => Nat.le_of_ble_eq_true rfl) (w_X0_part b a1 h s0)
set_option maxHeartbeats 4000000 in
set_option maxRecDepth 100000 in
theorem ct_X0_run {SH : SHT} (b : Nat) (h : isActing SH b) : ∀ (n : Nat) (a1 : Int32) (a2 : Int32) (a3 : Int32) (s0 : St), CT yX0_run mX0_run (n + 1) SH jI [.ref b, .int a1, .int a2, .int a3] s0 (f_X0_run n b a1 a2 a3 s0) := by
  intro n
  induction n with
  | zero => intros; exact fun z hz => by cases hz
  | succ n ih =>
    intro a1 a2 a3 s0
    refine CT.of (by decide +kernel) rfl (fun E => Nat.le_of_ble_eq_true rfl) (show VF mX0_run (n + 1 + 1) SH jI 0 [(0, .ref b), (1, .int a1), (2, .int a2), (3, .int a3)] [] s0 (f_X0_run (n + 1) b a1 a2 a3 s0) from ?_)
    unfold f_X0_run
    refine v_aload_n dX0_run_0 rfl rfl ?_
    refine v_geti dX0_run_1 kf_X0_25 h.1 rfl ?_
    refine v_if_ne (tgt := 13) dX0_run_4 (by decide) (fun _ => ?_) (fun _ => ?_)
    · skip
      refine v_iconst (v := 0) dX0_run_13 (by decide +kernel) ?_
      exact v_ret (ty := .int) dX0_run_14 rfl rfl rfl
    refine v_iload_n dX0_run_7 rfl rfl ?_
    refine v_bipush (v := 40) dX0_run_8 (by decide +kernel) ?_
    refine v_icmp_le (tgt := 15) dX0_run_10 (by decide) (fun _ => ?_) (fun _ => ?_)
    · skip
      refine v_aload_n dX0_run_15 rfl rfl ?_
      refine v_iload_n dX0_run_16 rfl rfl ?_
      refine v_cw (fun z hz => runV (as := [.int a1]) dX0_run_17 kv_X0_40 rfl rfl (Nat.le_of_ble_eq_true rfl) (by omega) (recvW h.1 rfl rfl) (ct_X0_note _ _ h _) hz) (fun s1 => ?_)
      refine v_iload_n dX0_run_20 rfl rfl ?_
      refine v_iconst (v := 1) dX0_run_21 (by decide +kernel) ?_
      refine v_iadd dX0_run_22 ?_
      refine v_topi (fun x2 => ?_)
      refine v_istore (L' := [(4, .int x2), (0, .ref b), (1, .int a1), (2, .int a2), (3, .int a3)]) dX0_run_23 (by decide) rfl ?_
      refine v_iload_n dX0_run_25 rfl rfl ?_
      refine v_tsw (cs := [(10, 248), (11, 257), (12, 275), (13, 281), (20, 297), (30, 309), (31, 321), (40, 347), (41, 359), (50, 385), (51, 402), (60, 417), (61, 430)]) (dt := 456) dX0_run_26 (by decide +kernel) (by decide) (by decide +kernel) ?_
      refine v_swc (fun _ => ?_) (fun _ => ?_)
      · skip
        refine v_iload_n dX0_run_248 rfl rfl ?_
        refine v_aload_n dX0_run_249 rfl rfl ?_
        refine v_geti dX0_run_250 kf_X0_15 h.1 rfl ?_
        refine v_iconst (v := 3) dX0_run_253 (by decide +kernel) ?_
        refine v_imul dX0_run_254 ?_
        refine v_iadd dX0_run_255 ?_
        exact v_ret (ty := .int) dX0_run_256 rfl rfl rfl
      refine v_swc (fun _ => ?_) (fun _ => ?_)
      · skip
        refine v_aload_n dX0_run_257 rfl rfl ?_
        refine v_aload_n dX0_run_258 rfl rfl ?_
        refine v_iconst (v := 0) dX0_run_259 (by decide +kernel) ?_
        refine v_cpI (fun z hz => runV (as := [.int (0 : Int32)]) dX0_run_260 kv_X0_29 rfl rfl (Nat.le_of_ble_eq_true rfl) (by omega) (recvW h.1 rfl rfl) (ct_X0_own _ _ h _) hz) (fun x3 => ?_)
        refine v_iload_n dX0_run_263 rfl rfl ?_
        refine v_iload dX0_run_264 rfl ?_
        refine v_cbI (fun z hz => runV (as := [.int x3, .int a2, .int x2]) dX0_run_266 kv_X0_33 rfl rfl (Nat.le_of_ble_eq_true rfl) (by omega) (recvW h.1 rfl rfl) (ih _ _ _ _) hz) (fun x5 s4 => ?_)
        refine v_aload_n dX0_run_269 rfl rfl ?_
        refine v_geti dX0_run_270 kf_X0_22 h.1 rfl ?_
        refine v_isub dX0_run_273 ?_
        exact v_ret (ty := .int) dX0_run_274 rfl rfl rfl
      refine v_swc (fun _ => ?_) (fun _ => ?_)
      · skip
        refine v_aload_n dX0_run_275 rfl rfl ?_
        refine v_iload_n dX0_run_276 rfl rfl ?_
        refine v_cbI (fun z hz => runV (as := [.int a2]) dX0_run_277 kv_X0_44 rfl rfl (Nat.le_of_ble_eq_true rfl) (by omega) (recvW h.1 rfl rfl) (ct_X0_part _ _ h _) hz) (fun x7 s6 => ?_)
        exact v_ret (ty := .int) dX0_run_280 rfl rfl rfl
      refine v_swc (fun _ => ?_) (fun _ => ?_)
      · skip
        refine v_aload_n dX0_run_281 rfl rfl ?_
        refine v_aload_n dX0_run_282 rfl rfl ?_
        refine v_iconst (v := 1) dX0_run_283 (by decide +kernel) ?_
        refine v_cpI (fun z hz => runV (as := [.int (1 : Int32)]) dX0_run_284 kv_X0_29 rfl rfl (Nat.le_of_ble_eq_true rfl) (by omega) (recvW h.1 rfl rfl) (ct_X0_own _ _ h _) hz) (fun x8 => ?_)
        refine v_iload_n dX0_run_287 rfl rfl ?_
        refine v_iload dX0_run_288 rfl ?_
        refine v_cbI (fun z hz => runV (as := [.int x8, .int a2, .int x2]) dX0_run_290 kv_X0_33 rfl rfl (Nat.le_of_ble_eq_true rfl) (by omega) (recvW h.1 rfl rfl) (ih _ _ _ _) hz) (fun x10 s9 => ?_)
        refine v_bipush (v := 9) dX0_run_293 (by decide +kernel) ?_
        refine v_ixor dX0_run_295 ?_
        exact v_ret (ty := .int) dX0_run_296 rfl rfl rfl
      refine v_swc (fun _ => ?_) (fun _ => ?_)
      · skip
        refine v_aload_n dX0_run_297 rfl rfl ?_
        refine v_bipush (v := 11) dX0_run_298 (by decide +kernel) ?_
        refine v_iload_n dX0_run_300 rfl rfl ?_
        refine v_iload dX0_run_301 rfl ?_
        refine v_cbI (fun z hz => runV (as := [.int (11 : Int32), .int a2, .int x2]) dX0_run_303 kv_X0_33 rfl rfl (Nat.le_of_ble_eq_true rfl) (by omega) (recvW h.1 rfl rfl) (ih _ _ _ _) hz) (fun x12 s11 => ?_)
        refine v_iconst (v := 2) dX0_run_306 (by decide +kernel) ?_
        refine v_imul dX0_run_307 ?_
        exact v_ret (ty := .int) dX0_run_308 rfl rfl rfl
      refine v_swc (fun _ => ?_) (fun _ => ?_)
      · skip
        refine v_aload_n dX0_run_309 rfl rfl ?_
        refine v_bipush (v := 10) dX0_run_310 (by decide +kernel) ?_
        refine v_iload_n dX0_run_312 rfl rfl ?_
        refine v_iload dX0_run_313 rfl ?_
        refine v_cbI (fun z hz => runV (as := [.int (10 : Int32), .int a2, .int x2]) dX0_run_315 kv_X0_33 rfl rfl (Nat.le_of_ble_eq_true rfl) (by omega) (recvW h.1 rfl rfl) (ih _ _ _ _) hz) (fun x14 s13 => ?_)
        refine v_iconst (v := 1) dX0_run_318 (by decide +kernel) ?_
        refine v_iadd dX0_run_319 ?_
        exact v_ret (ty := .int) dX0_run_320 rfl rfl rfl
      refine v_swc (fun _ => ?_) (fun _ => ?_)
      · skip
        refine v_aload_n dX0_run_321 rfl rfl ?_
        refine v_bipush (v := 13) dX0_run_322 (by decide +kernel) ?_
        refine v_iload_n dX0_run_324 rfl rfl ?_
        refine v_iload dX0_run_325 rfl ?_
        refine v_cbI (fun z hz => runV (as := [.int (13 : Int32), .int a2, .int x2]) dX0_run_327 kv_X0_33 rfl rfl (Nat.le_of_ble_eq_true rfl) (by omega) (recvW h.1 rfl rfl) (ih _ _ _ _) hz) (fun x16 s15 => ?_)
        refine v_aload_n dX0_run_330 rfl rfl ?_
        refine v_aload_n dX0_run_331 rfl rfl ?_
        refine v_iconst (v := 2) dX0_run_332 (by decide +kernel) ?_
        refine v_cpI (fun z hz => runV (as := [.int (2 : Int32)]) dX0_run_333 kv_X0_29 rfl rfl (Nat.le_of_ble_eq_true rfl) (by omega) (recvW h.1 rfl rfl) (ct_X0_own _ _ h _) hz) (fun x17 => ?_)
        refine v_aload_n dX0_run_336 rfl rfl ?_
        refine v_geti dX0_run_337 kf_X0_15 h.1 rfl ?_
        refine v_iload dX0_run_340 rfl ?_
        refine v_cbI (fun z hz => runV (as := [.int x17, .int (gF s15 b 2), .int x2]) dX0_run_342 kv_X0_33 rfl rfl (Nat.le_of_ble_eq_true rfl) (by omega) (recvW h.1 rfl rfl) (ih _ _ _ _) hz) (fun x19 s18 => ?_)
        refine v_isub dX0_run_345 ?_
        exact v_ret (ty := .int) dX0_run_346 rfl rfl rfl
      refine v_swc (fun _ => ?_) (fun _ => ?_)
      · skip
        refine v_iconst (v := 0) dX0_run_347 (by decide +kernel) ?_
        refine v_aload_n dX0_run_348 rfl rfl ?_
        refine v_bipush (v := 30) dX0_run_349 (by decide +kernel) ?_
        refine v_iload_n dX0_run_351 rfl rfl ?_
        refine v_iload dX0_run_352 rfl ?_
        refine v_cbI (fun z hz => runV (as := [.int (30 : Int32), .int a2, .int x2]) dX0_run_354 kv_X0_33 rfl rfl (Nat.le_of_ble_eq_true rfl) (by omega) (recvW h.1 rfl rfl) (ih _ _ _ _) hz) (fun x21 s20 => ?_)
        refine v_isub dX0_run_357 ?_
        exact v_ret (ty := .int) dX0_run_358 rfl rfl rfl
      refine v_swc (fun _ => ?_) (fun _ => ?_)
      · skip
        refine v_aload_n dX0_run_359 rfl rfl ?_
        refine v_bipush (v := 11) dX0_run_360 (by decide +kernel) ?_
        refine v_iload_n dX0_run_362 rfl rfl ?_
        refine v_iload dX0_run_363 rfl ?_
        refine v_cbI (fun z hz => runV (as := [.int (11 : Int32), .int a2, .int x2]) dX0_run_365 kv_X0_33 rfl rfl (Nat.le_of_ble_eq_true rfl) (by omega) (recvW h.1 rfl rfl) (ih _ _ _ _) hz) (fun x23 s22 => ?_)
        refine v_aload_n dX0_run_368 rfl rfl ?_
        refine v_aload_n dX0_run_369 rfl rfl ?_
        refine v_iconst (v := 0) dX0_run_370 (by decide +kernel) ?_
        refine v_cpI (fun z hz => runV (as := [.int (0 : Int32)]) dX0_run_371 kv_X0_29 rfl rfl (Nat.le_of_ble_eq_true rfl) (by omega) (recvW h.1 rfl rfl) (ct_X0_own _ _ h _) hz) (fun x24 => ?_)
        refine v_aload_n dX0_run_374 rfl rfl ?_
        refine v_geti dX0_run_375 kf_X0_22 h.1 rfl ?_
        refine v_iload dX0_run_378 rfl ?_
        refine v_cbI (fun z hz => runV (as := [.int x24, .int (gF s22 b 4), .int x2]) dX0_run_380 kv_X0_33 rfl rfl (Nat.le_of_ble_eq_true rfl) (by omega) (recvW h.1 rfl rfl) (ih _ _ _ _) hz) (fun x26 s25 => ?_)
        refine v_iadd dX0_run_383 ?_
        exact v_ret (ty := .int) dX0_run_384 rfl rfl rfl
      refine v_swc (fun _ => ?_) (fun _ => ?_)
      · skip
        refine v_aload_n dX0_run_385 rfl rfl ?_
        refine v_bipush (v := 12) dX0_run_386 (by decide +kernel) ?_
        refine v_iload_n dX0_run_388 rfl rfl ?_
        refine v_iconst (v := 4) dX0_run_389 (by decide +kernel) ?_
        refine v_imul dX0_run_390 ?_
        refine v_iload dX0_run_391 rfl ?_
        refine v_cbI (fun z hz => runV (as := [.int (12 : Int32), .int (a2 * (4 : Int32)), .int x2]) dX0_run_393 kv_X0_33 rfl rfl (Nat.le_of_ble_eq_true rfl) (by omega) (recvW h.1 rfl rfl) (ih _ _ _ _) hz) (fun x28 s27 => ?_)
        refine v_aload_n dX0_run_396 rfl rfl ?_
        refine v_geti dX0_run_397 kf_X0_22 h.1 rfl ?_
        refine v_isub dX0_run_400 ?_
        exact v_ret (ty := .int) dX0_run_401 rfl rfl rfl
      refine v_swc (fun _ => ?_) (fun _ => ?_)
      · skip
        refine v_aload_n dX0_run_402 rfl rfl ?_
        refine v_bipush (v := 10) dX0_run_403 (by decide +kernel) ?_
        refine v_iload_n dX0_run_405 rfl rfl ?_
        refine v_iload dX0_run_406 rfl ?_
        refine v_cbI (fun z hz => runV (as := [.int (10 : Int32), .int a2, .int x2]) dX0_run_408 kv_X0_33 rfl rfl (Nat.le_of_ble_eq_true rfl) (by omega) (recvW h.1 rfl rfl) (ih _ _ _ _) hz) (fun x30 s29 => ?_)
        refine v_aload_n dX0_run_411 rfl rfl ?_
        refine v_geti dX0_run_412 kf_X0_15 h.1 rfl ?_
        refine v_ixor dX0_run_415 ?_
        exact v_ret (ty := .int) dX0_run_416 rfl rfl rfl
      refine v_swc (fun _ => ?_) (fun _ => ?_)
      · skip
        refine v_bipush (v := 50) dX0_run_417 (by decide +kernel) ?_
        refine v_aload_n dX0_run_419 rfl rfl ?_
        refine v_bipush (v := 13) dX0_run_420 (by decide +kernel) ?_
        refine v_iload_n dX0_run_422 rfl rfl ?_
        refine v_iload dX0_run_423 rfl ?_
        refine v_cbI (fun z hz => runV (as := [.int (13 : Int32), .int a2, .int x2]) dX0_run_425 kv_X0_33 rfl rfl (Nat.le_of_ble_eq_true rfl) (by omega) (recvW h.1 rfl rfl) (ih _ _ _ _) hz) (fun x32 s31 => ?_)
        refine v_isub dX0_run_428 ?_
        exact v_ret (ty := .int) dX0_run_429 rfl rfl rfl
      refine v_swc (fun _ => ?_) (fun _ => ?_)
      · skip
        refine v_aload_n dX0_run_430 rfl rfl ?_
        refine v_bipush (v := 12) dX0_run_431 (by decide +kernel) ?_
        refine v_iload_n dX0_run_433 rfl rfl ?_
        refine v_iload dX0_run_434 rfl ?_
        refine v_cbI (fun z hz => runV (as := [.int (12 : Int32), .int a2, .int x2]) dX0_run_436 kv_X0_33 rfl rfl (Nat.le_of_ble_eq_true rfl) (by omega) (recvW h.1 rfl rfl) (ih _ _ _ _) hz) (fun x34 s33 => ?_)
        refine v_aload_n dX0_run_439 rfl rfl ?_
        refine v_aload_n dX0_run_440 rfl rfl ?_
        refine v_iconst (v := 0) dX0_run_441 (by decide +kernel) ?_
        refine v_cpI (fun z hz => runV (as := [.int (0 : Int32)]) dX0_run_442 kv_X0_29 rfl rfl (Nat.le_of_ble_eq_true rfl) (by omega) (recvW h.1 rfl rfl) (ct_X0_own _ _ h _) hz) (fun x35 => ?_)
        refine v_aload_n dX0_run_445 rfl rfl ?_
        refine v_geti dX0_run_446 kf_X0_15 h.1 rfl ?_
        refine v_iload dX0_run_449 rfl ?_
        refine v_cbI (fun z hz => runV (as := [.int x35, .int (gF s33 b 2), .int x2]) dX0_run_451 kv_X0_33 rfl rfl (Nat.le_of_ble_eq_true rfl) (by omega) (recvW h.1 rfl rfl) (ih _ _ _ _) hz) (fun x37 s36 => ?_)
        refine v_iadd dX0_run_454 ?_
        exact v_ret (ty := .int) dX0_run_455 rfl rfl rfl
      refine v_swn ?_
      refine v_iconst (v := 0) dX0_run_456 (by decide +kernel) ?_
      exact v_ret (ty := .int) dX0_run_457 rfl rfl rfl
    refine v_iconst (v := 0) dX0_run_13 (by decide +kernel) ?_
    exact v_ret (ty := .int) dX0_run_14 rfl rfl rfl
set_option maxHeartbeats 4000000 in
set_option maxRecDepth 100000 in
theorem w_X0_perform {SH : SHT} (b : Nat) (a1 : Int32) (a2 : Int32) (a3 : Int32) (a4 : Int32) (a5 : Int32) (h : isActing SH b) (s0 : St) : VF mX0_perform 62 SH jI 0 [(0, .ref b), (1, .int a1), (2, .int a2), (3, .int a3), (4, .int a4), (5, .int a5)] [] s0 (f_X0_perform b a1 a2 a3 a4 a5 s0) := by
  unfold f_X0_perform
  refine v_aload_n dX0_perform_0 rfl rfl ?_
  refine v_iload_n dX0_perform_1 rfl rfl ?_
  refine v_puti dX0_perform_2 kp_X0_15 h.1 rfl rfl rfl (v_st fun s1 => ?_)
  refine v_aload_n dX0_perform_5 rfl rfl ?_
  refine v_iload_n dX0_perform_6 rfl rfl ?_
  refine v_puti dX0_perform_7 kp_X0_19 h.1 rfl rfl rfl (v_st fun s2 => ?_)
  refine v_aload_n dX0_perform_10 rfl rfl ?_
  refine v_iload_n dX0_perform_11 rfl rfl ?_
  refine v_puti dX0_perform_12 kp_X0_22 h.1 rfl rfl rfl (v_st fun s3 => ?_)
  refine v_aload_n dX0_perform_15 rfl rfl ?_
  refine v_iconst (v := 0) dX0_perform_16 (by decide +kernel) ?_
  refine v_puti dX0_perform_17 kp_X0_25 h.1 rfl (by decide +kernel) (by decide +kernel) (v_st fun s4 => ?_)
  refine v_aload_n dX0_perform_20 rfl rfl ?_
  refine v_aload_n dX0_perform_21 rfl rfl ?_
  refine v_iload dX0_perform_22 rfl ?_
  refine v_cpI (fun z hz => runV (as := [.int a4]) dX0_perform_24 kv_X0_29 rfl rfl (Nat.le_of_ble_eq_true rfl) (Nat.le_of_ble_eq_true rfl) (recvW h.1 rfl rfl) (ct_X0_own _ _ h _) hz) (fun x5 => ?_)
  refine v_iload dX0_perform_27 rfl ?_
  refine v_iconst (v := 0) dX0_perform_29 (by decide +kernel) ?_
  refine v_cbI (fun z hz => runV (as := [.int x5, .int a5, .int (0 : Int32)]) dX0_perform_30 kv_X0_33 rfl rfl (Nat.le_of_ble_eq_true rfl) (by decide) (recvW h.1 rfl rfl) (ct_X0_run b h 60 _ _ _ _) hz) (fun x7 s6 => ?_)
  refine v_istore (L' := [(6, .int x7), (0, .ref b), (1, .int a1), (2, .int a2), (3, .int a3), (4, .int a4), (5, .int a5)]) dX0_perform_33 (by decide) rfl ?_
  refine v_aload_n dX0_perform_35 rfl rfl ?_
  refine v_geti dX0_perform_36 kf_X0_25 h.1 rfl ?_
  refine v_if_eq (tgt := 47) dX0_perform_39 (by decide) (fun _ => ?_) (fun _ => ?_)
  · skip
    refine v_iload dX0_perform_47 rfl ?_
    exact v_ret (ty := .int) dX0_perform_49 rfl rfl rfl
  refine v_bipush (v := -15) dX0_perform_42 (by decide +kernel) ?_
  refine v_goto (tgt := 49) dX0_perform_44 (by decide) ?_
  exact v_ret (ty := .int) dX0_perform_49 rfl rfl rfl
theorem ct_X0_perform {SH : SHT} (b : Nat) (a1 : Int32) (a2 : Int32) (a3 : Int32) (a4 : Int32) (a5 : Int32) (h : isActing SH b) (s0 : St) : CT yX0_perform mX0_perform 62 SH jI [.ref b, .int a1, .int a2, .int a3, .int a4, .int a5] s0 (f_X0_perform b a1 a2 a3 a4 a5 s0) := CT.of (by decide +kernel) rfl (fun E => Nat.le_of_ble_eq_true rfl) (w_X0_perform b a1 a2 a3 a4 a5 h s0)
set_option maxHeartbeats 4000000 in
set_option maxRecDepth 100000 in
theorem w_X0_forget {SH : SHT} (b : Nat) (h : isActing SH b) (s0 : St) : VF mX0_forget 0 SH jV 0 [(0, .ref b)] [] s0 (f_X0_forget b s0) := by
  unfold f_X0_forget
  refine v_aload_n dX0_forget_0 rfl rfl ?_
  refine v_iconst (v := 0) dX0_forget_1 (by decide +kernel) ?_
  refine v_puti dX0_forget_2 kp_X0_47 h.1 rfl rfl rfl (v_st fun s1 => ?_)
  exact v_vret dX0_forget_5 rfl rfl
theorem ct_X0_forget {SH : SHT} (b : Nat) (h : isActing SH b) (s0 : St) : CT yX0_forget mX0_forget 0 SH jV [.ref b] s0 (f_X0_forget b s0) := CT.of (by decide +kernel) rfl (fun E => Nat.le_of_ble_eq_true rfl) (w_X0_forget b h s0)
set_option maxHeartbeats 4000000 in
set_option maxRecDepth 100000 in
theorem wB_X1_clear_2 {SH : SHT} (b : Nat) (h : isMoor SH b) (rec : Int32 → St → Option St) (hrec : ∀ (c1 : Int32) (s2 : St), VF mX1_clear 0 SH jV 2 [(0, .ref b), (1, .int c1)] [] s2 (rec c1 s2)) (K : St → Option St) (hK : ∀ (s3 : St), VF mX1_clear 0 SH jV 24 [(0, .ref b)] [] s3 (K s3)) (c1 : Int32) (s2 : St) : VF mX1_clear 0 SH jV 2 [(0, .ref b), (1, .int c1)] [] s2 (B_X1_clear_2 rec b K c1 s2) := by
  unfold B_X1_clear_2
  refine v_iload_n dX1_clear_2 rfl rfl ?_
  refine v_iconst (v := 4) dX1_clear_3 (by decide +kernel) ?_
  refine v_icmp_ge (tgt := 24) dX1_clear_4 (by decide) (fun _ => ?_) (fun _ => ?_)
  · skip
    exact v_pick [0] rfl (hK _)
  refine v_aload_n dX1_clear_7 rfl rfl ?_
  refine v_getr dX1_clear_8 kf_X1_9 h.1 rfl ?_
  refine v_iload_n dX1_clear_11 rfl rfl ?_
  refine v_gets dX1_clear_12 ks_X1_43 ?_
  refine v_iload_n dX1_clear_15 rfl rfl ?_
  refine v_gd (fun g4 => ?_)
  refine v_tald (i := 2) dX1_clear_16 rfl (by decide) g4 rfl ?_
  refine v_gd (fun g5 => ?_)
  refine v_iast dX1_clear_17 h.2.1 g5 rfl (v_st fun s6 => ?_)
  refine v_iinc (v := (c1 + (1 : Int32))) (L' := [(1, .int (c1 + (1 : Int32))), (0, .ref b)]) dX1_clear_18 rfl rfl (by decide) rfl ?_
  refine v_goto (tgt := 2) dX1_clear_21 (by decide) ?_
  exact v_pick [1, 0] rfl (hrec _ _)
theorem wL_X1_clear_2 {SH : SHT} (b : Nat) (h : isMoor SH b) (K : St → Option St) (hK : ∀ (s3 : St), VF mX1_clear 0 SH jV 24 [(0, .ref b)] [] s3 (K s3)) : ∀ (n : Nat) (c1 : Int32) (s2 : St), VF mX1_clear 0 SH jV 2 [(0, .ref b), (1, .int c1)] [] s2 (L_X1_clear_2 b K n c1 s2) := by
  intro n
  induction n with
  | zero => intros; exact v_none
  | succ n ih => intro c1 s2; exact wB_X1_clear_2 b h _ ih K hK c1 s2
set_option maxHeartbeats 4000000 in
set_option maxRecDepth 100000 in
theorem wB_X1_clear_26 {SH : SHT} (b : Nat) (h : isMoor SH b) (rec : Int32 → St → Option St) (hrec : ∀ (c7 : Int32) (s8 : St), VF mX1_clear 0 SH jV 26 [(0, .ref b), (1, .int c7)] [] s8 (rec c7 s8)) (K : St → Option St) (hK : ∀ (s9 : St), VF mX1_clear 0 SH jV 59 [(0, .ref b)] [] s9 (K s9)) (c7 : Int32) (s8 : St) : VF mX1_clear 0 SH jV 26 [(0, .ref b), (1, .int c7)] [] s8 (B_X1_clear_26 rec b K c7 s8) := by
  unfold B_X1_clear_26
  refine v_iload_n dX1_clear_26 rfl rfl ?_
  refine v_bipush (v := 32) dX1_clear_27 (by decide +kernel) ?_
  refine v_icmp_ge (tgt := 59) dX1_clear_29 (by decide) (fun _ => ?_) (fun _ => ?_)
  · skip
    exact v_pick [0] rfl (hK _)
  refine v_aload_n dX1_clear_32 rfl rfl ?_
  refine v_getr dX1_clear_33 kf_X1_15 h.1 rfl ?_
  refine v_iload_n dX1_clear_36 rfl rfl ?_
  refine v_iconst (v := 5) dX1_clear_37 (by decide +kernel) ?_
  refine v_gd (fun g10 => ?_)
  refine v_iast dX1_clear_38 h.2.2.1 g10 rfl (v_st fun s11 => ?_)
  refine v_aload_n dX1_clear_39 rfl rfl ?_
  refine v_getr dX1_clear_40 kf_X1_18 h.1 rfl ?_
  refine v_iload_n dX1_clear_43 rfl rfl ?_
  refine v_iconst (v := 0) dX1_clear_44 (by decide +kernel) ?_
  refine v_gd (fun g12 => ?_)
  refine v_iast dX1_clear_45 h.2.2.2.1 g12 rfl (v_st fun s13 => ?_)
  refine v_aload_n dX1_clear_46 rfl rfl ?_
  refine v_getr dX1_clear_47 kf_X1_21 h.1 rfl ?_
  refine v_iload_n dX1_clear_50 rfl rfl ?_
  refine v_iconst (v := -1) dX1_clear_51 (by decide +kernel) ?_
  refine v_gd (fun g14 => ?_)
  refine v_iast dX1_clear_52 h.2.2.2.2.1 g14 rfl (v_st fun s15 => ?_)
  refine v_iinc (v := (c7 + (1 : Int32))) (L' := [(1, .int (c7 + (1 : Int32))), (0, .ref b)]) dX1_clear_53 rfl rfl (by decide) rfl ?_
  refine v_goto (tgt := 26) dX1_clear_56 (by decide) ?_
  exact v_pick [1, 0] rfl (hrec _ _)
theorem wL_X1_clear_26 {SH : SHT} (b : Nat) (h : isMoor SH b) (K : St → Option St) (hK : ∀ (s9 : St), VF mX1_clear 0 SH jV 59 [(0, .ref b)] [] s9 (K s9)) : ∀ (n : Nat) (c7 : Int32) (s8 : St), VF mX1_clear 0 SH jV 26 [(0, .ref b), (1, .int c7)] [] s8 (L_X1_clear_26 b K n c7 s8) := by
  intro n
  induction n with
  | zero => intros; exact v_none
  | succ n ih => intro c7 s8; exact wB_X1_clear_26 b h _ ih K hK c7 s8
set_option maxHeartbeats 4000000 in
set_option maxRecDepth 100000 in
theorem w_X1_clear {SH : SHT} (b : Nat) (h : isMoor SH b) (s0 : St) : VF mX1_clear 0 SH jV 0 [(0, .ref b)] [] s0 (f_X1_clear b s0) := by
  unfold f_X1_clear
  refine v_iconst (v := 0) dX1_clear_0 (by decide +kernel) ?_
  refine v_istore_n (L' := [(1, .int (0 : Int32)), (0, .ref b)]) dX1_clear_1 rfl (by decide) rfl ?_
  refine v_pick [1, 0] rfl (wL_X1_clear_2 b h _ (fun s3 => ?_) FU _ _)
  refine v_iconst (v := 0) dX1_clear_24 (by decide +kernel) ?_
  refine v_istore_n (L' := [(1, .int (0 : Int32)), (0, .ref b)]) dX1_clear_25 rfl (by decide) rfl ?_
  refine v_pick [1, 0] rfl (wL_X1_clear_26 b h _ (fun s9 => ?_) FU _ _)
  refine v_aload_n dX1_clear_59 rfl rfl ?_
  refine v_iconst (v := 0) dX1_clear_60 (by decide +kernel) ?_
  refine v_puti dX1_clear_61 kp_X1_46 h.1 rfl rfl rfl (v_st fun s16 => ?_)
  refine v_aload_n dX1_clear_64 rfl rfl ?_
  refine v_iconst (v := 0) dX1_clear_65 (by decide +kernel) ?_
  refine v_puti dX1_clear_66 kp_X1_49 h.1 rfl rfl rfl (v_st fun s17 => ?_)
  refine v_aload_n dX1_clear_69 rfl rfl ?_
  refine v_iconst (v := 0) dX1_clear_70 (by decide +kernel) ?_
  refine v_puti dX1_clear_71 kp_X1_52 h.1 rfl rfl rfl (v_st fun s18 => ?_)
  exact v_vret dX1_clear_74 rfl rfl
theorem ct_X1_clear {SH : SHT} (b : Nat) (h : isMoor SH b) (s0 : St) : CT yX1_clear mX1_clear 0 SH jV [.ref b] s0 (f_X1_clear b s0) := CT.of (by decide +kernel) rfl (fun E => Nat.le_of_ble_eq_true rfl) (w_X1_clear b h s0)
set_option maxHeartbeats 4000000 in
set_option maxRecDepth 100000 in
theorem w_X1_become {SH : SHT} (b : Nat) (a1 : Nat) (h : isMoor SH b) (ha1 : isMoor SH a1) (s0 : St) : VF mX1_become 1 SH jV 0 [(0, .ref b), (1, .ref a1)] [] s0 (f_X1_become b a1 s0) := by
  unfold f_X1_become
  refine v_aload_n dX1_become_0 rfl rfl ?_
  refine v_getr dX1_become_1 kf_X1_9 ha1.1 rfl ?_
  refine v_iconst (v := 0) dX1_become_4 (by decide +kernel) ?_
  refine v_aload_n dX1_become_5 rfl rfl ?_
  refine v_getr dX1_become_6 kf_X1_9 h.1 rfl ?_
  refine v_iconst (v := 0) dX1_become_9 (by decide +kernel) ?_
  refine v_iconst (v := 4) dX1_become_10 (by decide +kernel) ?_
  refine v_copy (n := 4) dX1_become_11 kcopy_X1_55 ha1.2.1 h.2.1 (by decide +kernel) (by decide) (by decide) (by decide) (v_st fun s1 => ?_)
  refine v_aload_n dX1_become_14 rfl rfl ?_
  refine v_getr dX1_become_15 kf_X1_15 ha1.1 rfl ?_
  refine v_iconst (v := 0) dX1_become_18 (by decide +kernel) ?_
  refine v_aload_n dX1_become_19 rfl rfl ?_
  refine v_getr dX1_become_20 kf_X1_15 h.1 rfl ?_
  refine v_iconst (v := 0) dX1_become_23 (by decide +kernel) ?_
  refine v_bipush (v := 32) dX1_become_24 (by decide +kernel) ?_
  refine v_copy (n := 32) dX1_become_26 kcopy_X1_55 ha1.2.2.1 h.2.2.1 (by decide +kernel) (by decide) (by decide) (by decide) (v_st fun s2 => ?_)
  refine v_aload_n dX1_become_29 rfl rfl ?_
  refine v_getr dX1_become_30 kf_X1_18 ha1.1 rfl ?_
  refine v_iconst (v := 0) dX1_become_33 (by decide +kernel) ?_
  refine v_aload_n dX1_become_34 rfl rfl ?_
  refine v_getr dX1_become_35 kf_X1_18 h.1 rfl ?_
  refine v_iconst (v := 0) dX1_become_38 (by decide +kernel) ?_
  refine v_bipush (v := 32) dX1_become_39 (by decide +kernel) ?_
  refine v_copy (n := 32) dX1_become_41 kcopy_X1_55 ha1.2.2.2.1 h.2.2.2.1 (by decide +kernel) (by decide) (by decide) (by decide) (v_st fun s3 => ?_)
  refine v_aload_n dX1_become_44 rfl rfl ?_
  refine v_getr dX1_become_45 kf_X1_21 ha1.1 rfl ?_
  refine v_iconst (v := 0) dX1_become_48 (by decide +kernel) ?_
  refine v_aload_n dX1_become_49 rfl rfl ?_
  refine v_getr dX1_become_50 kf_X1_21 h.1 rfl ?_
  refine v_iconst (v := 0) dX1_become_53 (by decide +kernel) ?_
  refine v_bipush (v := 32) dX1_become_54 (by decide +kernel) ?_
  refine v_copy (n := 32) dX1_become_56 kcopy_X1_55 ha1.2.2.2.2.1 h.2.2.2.2.1 (by decide +kernel) (by decide) (by decide) (by decide) (v_st fun s4 => ?_)
  refine v_aload_n dX1_become_59 rfl rfl ?_
  refine v_getr dX1_become_60 kf_X1_24 ha1.1 rfl ?_
  refine v_iconst (v := 0) dX1_become_63 (by decide +kernel) ?_
  refine v_aload_n dX1_become_64 rfl rfl ?_
  refine v_getr dX1_become_65 kf_X1_24 h.1 rfl ?_
  refine v_iconst (v := 0) dX1_become_68 (by decide +kernel) ?_
  refine v_bipush (v := 8) dX1_become_69 (by decide +kernel) ?_
  refine v_copy (n := 8) dX1_become_71 kcopy_X1_55 ha1.2.2.2.2.2.1 h.2.2.2.2.2.1 (by decide +kernel) (by decide) (by decide) (by decide) (v_st fun s5 => ?_)
  refine v_aload_n dX1_become_74 rfl rfl ?_
  refine v_getr dX1_become_75 kf_X1_27 ha1.1 rfl ?_
  refine v_iconst (v := 0) dX1_become_78 (by decide +kernel) ?_
  refine v_aload_n dX1_become_79 rfl rfl ?_
  refine v_getr dX1_become_80 kf_X1_27 h.1 rfl ?_
  refine v_iconst (v := 0) dX1_become_83 (by decide +kernel) ?_
  refine v_bipush (v := 8) dX1_become_84 (by decide +kernel) ?_
  refine v_copy (n := 8) dX1_become_86 kcopy_X1_55 ha1.2.2.2.2.2.2.1 h.2.2.2.2.2.2.1 (by decide +kernel) (by decide) (by decide) (by decide) (v_st fun s6 => ?_)
  refine v_aload_n dX1_become_89 rfl rfl ?_
  refine v_getr dX1_become_90 kf_X1_30 ha1.1 rfl ?_
  refine v_iconst (v := 0) dX1_become_93 (by decide +kernel) ?_
  refine v_aload_n dX1_become_94 rfl rfl ?_
  refine v_getr dX1_become_95 kf_X1_30 h.1 rfl ?_
  refine v_iconst (v := 0) dX1_become_98 (by decide +kernel) ?_
  refine v_bipush (v := 8) dX1_become_99 (by decide +kernel) ?_
  refine v_copy (n := 8) dX1_become_101 kcopy_X1_55 ha1.2.2.2.2.2.2.2.1 h.2.2.2.2.2.2.2.1 (by decide +kernel) (by decide) (by decide) (by decide) (v_st fun s7 => ?_)
  refine v_aload_n dX1_become_104 rfl rfl ?_
  refine v_getr dX1_become_105 kf_X1_33 ha1.1 rfl ?_
  refine v_iconst (v := 0) dX1_become_108 (by decide +kernel) ?_
  refine v_aload_n dX1_become_109 rfl rfl ?_
  refine v_getr dX1_become_110 kf_X1_33 h.1 rfl ?_
  refine v_iconst (v := 0) dX1_become_113 (by decide +kernel) ?_
  refine v_bipush (v := 8) dX1_become_114 (by decide +kernel) ?_
  refine v_copy (n := 8) dX1_become_116 kcopy_X1_55 ha1.2.2.2.2.2.2.2.2 h.2.2.2.2.2.2.2.2 (by decide +kernel) (by decide) (by decide) (by decide) (v_st fun s8 => ?_)
  refine v_aload_n dX1_become_119 rfl rfl ?_
  refine v_aload_n dX1_become_120 rfl rfl ?_
  refine v_geti dX1_become_121 kf_X1_46 ha1.1 rfl ?_
  refine v_puti dX1_become_124 kp_X1_46 h.1 rfl rfl rfl (v_st fun s9 => ?_)
  refine v_aload_n dX1_become_127 rfl rfl ?_
  refine v_aload_n dX1_become_128 rfl rfl ?_
  refine v_geti dX1_become_129 kf_X1_36 ha1.1 rfl ?_
  refine v_puti dX1_become_132 kp_X1_36 h.1 rfl rfl rfl (v_st fun s10 => ?_)
  refine v_aload_n dX1_become_135 rfl rfl ?_
  refine v_aload_n dX1_become_136 rfl rfl ?_
  refine v_geti dX1_become_137 kf_X1_49 ha1.1 rfl ?_
  refine v_puti dX1_become_140 kp_X1_49 h.1 rfl rfl rfl (v_st fun s11 => ?_)
  refine v_aload_n dX1_become_143 rfl rfl ?_
  refine v_aload_n dX1_become_144 rfl rfl ?_
  refine v_geti dX1_become_145 kf_X1_52 ha1.1 rfl ?_
  refine v_puti dX1_become_148 kp_X1_52 h.1 rfl rfl rfl (v_st fun s12 => ?_)
  exact v_vret dX1_become_151 rfl rfl
theorem ct_X1_become {SH : SHT} (b : Nat) (a1 : Nat) (h : isMoor SH b) (ha1 : isMoor SH a1) (s0 : St) : CT yX1_become mX1_become 1 SH jV [.ref b, .ref a1] s0 (f_X1_become b a1 s0) := CT.of (by decide +kernel) rfl (fun E => Nat.le_of_ble_eq_true rfl) (w_X1_become b a1 h ha1 s0)
set_option maxHeartbeats 4000000 in
set_option maxRecDepth 100000 in
theorem w_X1_comes {SH : SHT} (b : Nat) (a1 : Int32) (a2 : Int32) (a3 : Int32) (a4 : Int32) (h : isMoor SH b) (s0 : St) : VF mX1_comes 0 SH jI 0 [(0, .ref b), (1, .int a1), (2, .int a2), (3, .int a3), (4, .int a4)] [] s0 (f_X1_comes b a1 a2 a3 a4 s0) := by
  unfold f_X1_comes
  refine v_aload_n dX1_comes_0 rfl rfl ?_
  refine v_geti dX1_comes_1 kf_X1_49 h.1 rfl ?_
  refine v_bipush (v := 8) dX1_comes_4 (by decide +kernel) ?_
  refine v_icmp_lt (tgt := 12) dX1_comes_6 (by decide) (fun _ => ?_) (fun _ => ?_)
  · skip
    refine v_aload_n dX1_comes_12 rfl rfl ?_
    refine v_getr dX1_comes_13 kf_X1_24 h.1 rfl ?_
    refine v_aload_n dX1_comes_16 rfl rfl ?_
    refine v_geti dX1_comes_17 kf_X1_49 h.1 rfl ?_
    refine v_iload_n dX1_comes_20 rfl rfl ?_
    refine v_gd (fun g1 => ?_)
    refine v_iast dX1_comes_21 h.2.2.2.2.2.1 g1 rfl (v_st fun s2 => ?_)
    refine v_aload_n dX1_comes_22 rfl rfl ?_
    refine v_getr dX1_comes_23 kf_X1_27 h.1 rfl ?_
    refine v_aload_n dX1_comes_26 rfl rfl ?_
    refine v_geti dX1_comes_27 kf_X1_49 h.1 rfl ?_
    refine v_iload_n dX1_comes_30 rfl rfl ?_
    refine v_gd (fun g3 => ?_)
    refine v_iast dX1_comes_31 h.2.2.2.2.2.2.1 g3 rfl (v_st fun s4 => ?_)
    refine v_aload_n dX1_comes_32 rfl rfl ?_
    refine v_getr dX1_comes_33 kf_X1_30 h.1 rfl ?_
    refine v_aload_n dX1_comes_36 rfl rfl ?_
    refine v_geti dX1_comes_37 kf_X1_49 h.1 rfl ?_
    refine v_iload_n dX1_comes_40 rfl rfl ?_
    refine v_gd (fun g5 => ?_)
    refine v_iast dX1_comes_41 h.2.2.2.2.2.2.2.1 g5 rfl (v_st fun s6 => ?_)
    refine v_aload_n dX1_comes_42 rfl rfl ?_
    refine v_getr dX1_comes_43 kf_X1_33 h.1 rfl ?_
    refine v_aload_n dX1_comes_46 rfl rfl ?_
    refine v_geti dX1_comes_47 kf_X1_49 h.1 rfl ?_
    refine v_iload dX1_comes_50 rfl ?_
    refine v_gd (fun g7 => ?_)
    refine v_iast dX1_comes_52 h.2.2.2.2.2.2.2.2 g7 rfl (v_st fun s8 => ?_)
    refine v_aload_n dX1_comes_53 rfl rfl ?_
    refine v_dup dX1_comes_54 rfl ?_
    refine v_geti dX1_comes_55 kf_X1_49 h.1 rfl ?_
    refine v_iconst (v := 1) dX1_comes_58 (by decide +kernel) ?_
    refine v_iadd dX1_comes_59 ?_
    refine v_puti dX1_comes_60 kp_X1_49 h.1 rfl rfl rfl (v_st fun s9 => ?_)
    refine v_aload_n dX1_comes_63 rfl rfl ?_
    refine v_geti dX1_comes_64 kf_X1_49 h.1 rfl ?_
    refine v_iconst (v := 1) dX1_comes_67 (by decide +kernel) ?_
    refine v_isub dX1_comes_68 ?_
    exact v_ret (ty := .int) dX1_comes_69 rfl rfl rfl
  refine v_bipush (v := -2) dX1_comes_9 (by decide +kernel) ?_
  exact v_ret (ty := .int) dX1_comes_11 rfl rfl rfl
theorem ct_X1_comes {SH : SHT} (b : Nat) (a1 : Int32) (a2 : Int32) (a3 : Int32) (a4 : Int32) (h : isMoor SH b) (s0 : St) : CT yX1_comes mX1_comes 0 SH jI [.ref b, .int a1, .int a2, .int a3, .int a4] s0 (f_X1_comes b a1 a2 a3 a4 s0) := CT.of (by decide +kernel) rfl (fun E => Nat.le_of_ble_eq_true rfl) (w_X1_comes b a1 a2 a3 a4 h s0)
set_option maxHeartbeats 4000000 in
set_option maxRecDepth 100000 in
theorem w_X1_lower {SH : SHT} (b : Nat) (a1 : Int32) (a2 : Int32) (h : isMoor SH b) (s0 : St) : VF mX1_lower 0 SH (jP s0) 0 [(0, .ref b), (1, .int a1), (2, .int a2)] [] s0 (f_X1_lower b a1 a2 s0) := by
  unfold f_X1_lower
  refine v_aload_n dX1_lower_0 rfl rfl ?_
  refine v_getr dX1_lower_1 kf_X1_15 h.1 rfl ?_
  refine v_iload_n dX1_lower_4 rfl rfl ?_
  refine v_gd (fun g1 => ?_)
  refine v_iald dX1_lower_5 h.2.2.1 g1 rfl ?_
  refine v_aload_n dX1_lower_6 rfl rfl ?_
  refine v_getr dX1_lower_7 kf_X1_15 h.1 rfl ?_
  refine v_iload_n dX1_lower_10 rfl rfl ?_
  refine v_gd (fun g2 => ?_)
  refine v_iald dX1_lower_11 h.2.2.1 g2 rfl ?_
  refine v_icmp_ge (tgt := 19) dX1_lower_12 (by decide) (fun _ => ?_) (fun _ => ?_)
  · skip
    refine v_iload_n dX1_lower_19 rfl rfl ?_
    exact v_ret (ty := .int) dX1_lower_20 rfl rfl rfl
  refine v_iload_n dX1_lower_15 rfl rfl ?_
  refine v_goto (tgt := 20) dX1_lower_16 (by decide) ?_
  exact v_ret (ty := .int) dX1_lower_20 rfl rfl rfl
theorem ct_X1_lower {SH : SHT} (b : Nat) (a1 : Int32) (a2 : Int32) (h : isMoor SH b) (s0 : St) : CT yX1_lower mX1_lower 0 SH (jP s0) [.ref b, .int a1, .int a2] s0 (f_X1_lower b a1 a2 s0) := CT.of (by decide +kernel) rfl (fun E => Nat.le_of_ble_eq_true rfl) (w_X1_lower b a1 a2 h s0)
set_option maxHeartbeats 4000000 in
set_option maxRecDepth 100000 in
theorem w_X1_lowestBeside {SH : SHT} (b : Nat) (a1 : Int32) (h : isMoor SH b) (s0 : St) : VF mX1_lowestBeside 1 SH (jP s0) 0 [(0, .ref b), (1, .int a1)] [] s0 (f_X1_lowestBeside b a1 s0) := by
  unfold f_X1_lowestBeside
  refine v_iload_n dX1_lowestBeside_0 rfl rfl ?_
  refine v_istore_n (L' := [(2, .int a1), (0, .ref b), (1, .int a1)]) dX1_lowestBeside_1 rfl (by decide) rfl ?_
  refine v_iload_n dX1_lowestBeside_2 rfl rfl ?_
  refine v_bipush (v := 8) dX1_lowestBeside_3 (by decide +kernel) ?_
  refine v_bnK (fun K2 => ∀ (t1 : Int32), VF mX1_lowestBeside 1 SH (jP s0) 18 [(0, .ref b), (1, .int a1), (2, .int t1)] [] s0 (K2 t1)) (fun K2 hK2 => ?_) (fun t1 => ?_)
  · skip
    refine v_icmp_lt (tgt := 18) dX1_lowestBeside_5 (by decide) (fun _ => ?_) (fun _ => ?_)
    · skip
      exact v_pick [1, 2, 0] rfl (hK2 _)
    refine v_aload_n dX1_lowestBeside_8 rfl rfl ?_
    refine v_iload_n dX1_lowestBeside_9 rfl rfl ?_
    refine v_iload_n dX1_lowestBeside_10 rfl rfl ?_
    refine v_bipush (v := 8) dX1_lowestBeside_11 (by decide +kernel) ?_
    refine v_isub dX1_lowestBeside_13 ?_
    refine v_cpI (fun z hz => runV (as := [.int a1, .int (a1 - (8 : Int32))]) dX1_lowestBeside_14 kv_X1_65 rfl rfl (Nat.le_of_ble_eq_true rfl) (Nat.le_of_ble_eq_true rfl) (recvW h.1 rfl rfl) (ct_X1_lower _ _ _ h _) hz) (fun x3 => ?_)
    refine v_istore_n (L' := [(2, .int x3), (0, .ref b), (1, .int a1)]) dX1_lowestBeside_17 rfl (by decide) rfl ?_
    exact v_pick [1, 2, 0] rfl (hK2 _)
  refine v_iload_n dX1_lowestBeside_18 rfl rfl ?_
  refine v_bipush (v := 8) dX1_lowestBeside_19 (by decide +kernel) ?_
  refine v_irem' dX1_lowestBeside_21 (by decide +kernel) ?_
  refine v_bnK (fun K5 => ∀ (t4 : Int32), VF mX1_lowestBeside 1 SH (jP s0) 34 [(0, .ref b), (1, .int a1), (2, .int t4)] [] s0 (K5 t4)) (fun K5 hK5 => ?_) (fun t4 => ?_)
  · skip
    refine v_if_le (tgt := 34) dX1_lowestBeside_22 (by decide) (fun _ => ?_) (fun _ => ?_)
    · skip
      exact v_pick [0, 1, 2] rfl (hK5 _)
    refine v_aload_n dX1_lowestBeside_25 rfl rfl ?_
    refine v_iload_n dX1_lowestBeside_26 rfl rfl ?_
    refine v_iload_n dX1_lowestBeside_27 rfl rfl ?_
    refine v_iconst (v := 1) dX1_lowestBeside_28 (by decide +kernel) ?_
    refine v_isub dX1_lowestBeside_29 ?_
    refine v_cpI (fun z hz => runV (as := [.int t1, .int (a1 - (1 : Int32))]) dX1_lowestBeside_30 kv_X1_65 rfl rfl (Nat.le_of_ble_eq_true rfl) (Nat.le_of_ble_eq_true rfl) (recvW h.1 rfl rfl) (ct_X1_lower _ _ _ h _) hz) (fun x6 => ?_)
    refine v_istore_n (L' := [(2, .int x6), (0, .ref b), (1, .int a1)]) dX1_lowestBeside_33 rfl (by decide) rfl ?_
    exact v_pick [1, 2, 0] rfl (hK5 _)
  refine v_iload_n dX1_lowestBeside_34 rfl rfl ?_
  refine v_bipush (v := 8) dX1_lowestBeside_35 (by decide +kernel) ?_
  refine v_irem' dX1_lowestBeside_37 (by decide +kernel) ?_
  refine v_bipush (v := 7) dX1_lowestBeside_38 (by decide +kernel) ?_
  refine v_bnK (fun K8 => ∀ (t7 : Int32), VF mX1_lowestBeside 1 SH (jP s0) 52 [(0, .ref b), (1, .int a1), (2, .int t7)] [] s0 (K8 t7)) (fun K8 hK8 => ?_) (fun t7 => ?_)
  · skip
    refine v_icmp_ge (tgt := 52) dX1_lowestBeside_40 (by decide) (fun _ => ?_) (fun _ => ?_)
    · skip
      exact v_pick [0, 1, 2] rfl (hK8 _)
    refine v_aload_n dX1_lowestBeside_43 rfl rfl ?_
    refine v_iload_n dX1_lowestBeside_44 rfl rfl ?_
    refine v_iload_n dX1_lowestBeside_45 rfl rfl ?_
    refine v_iconst (v := 1) dX1_lowestBeside_46 (by decide +kernel) ?_
    refine v_iadd dX1_lowestBeside_47 ?_
    refine v_cpI (fun z hz => runV (as := [.int t4, .int (a1 + (1 : Int32))]) dX1_lowestBeside_48 kv_X1_65 rfl rfl (Nat.le_of_ble_eq_true rfl) (Nat.le_of_ble_eq_true rfl) (recvW h.1 rfl rfl) (ct_X1_lower _ _ _ h _) hz) (fun x9 => ?_)
    refine v_istore_n (L' := [(2, .int x9), (0, .ref b), (1, .int a1)]) dX1_lowestBeside_51 rfl (by decide) rfl ?_
    exact v_pick [1, 2, 0] rfl (hK8 _)
  refine v_iload_n dX1_lowestBeside_52 rfl rfl ?_
  refine v_bipush (v := 24) dX1_lowestBeside_53 (by decide +kernel) ?_
  refine v_bnK (fun K11 => ∀ (t10 : Int32), VF mX1_lowestBeside 1 SH (jP s0) 68 [(1, .int a1), (2, .int t10)] [] s0 (K11 t10)) (fun K11 hK11 => ?_) (fun t10 => ?_)
  · skip
    refine v_icmp_ge (tgt := 68) dX1_lowestBeside_55 (by decide) (fun _ => ?_) (fun _ => ?_)
    · skip
      exact v_pick [1, 2] rfl (hK11 _)
    refine v_aload_n dX1_lowestBeside_58 rfl rfl ?_
    refine v_iload_n dX1_lowestBeside_59 rfl rfl ?_
    refine v_iload_n dX1_lowestBeside_60 rfl rfl ?_
    refine v_bipush (v := 8) dX1_lowestBeside_61 (by decide +kernel) ?_
    refine v_iadd dX1_lowestBeside_63 ?_
    refine v_cpI (fun z hz => runV (as := [.int t7, .int (a1 + (8 : Int32))]) dX1_lowestBeside_64 kv_X1_65 rfl rfl (Nat.le_of_ble_eq_true rfl) (Nat.le_of_ble_eq_true rfl) (recvW h.1 rfl rfl) (ct_X1_lower _ _ _ h _) hz) (fun x12 => ?_)
    refine v_istore_n (L' := [(2, .int x12), (0, .ref b), (1, .int a1)]) dX1_lowestBeside_67 rfl (by decide) rfl ?_
    exact v_pick [2, 0] rfl (hK11 _)
  refine v_iload_n dX1_lowestBeside_68 rfl rfl ?_
  refine v_iload_n dX1_lowestBeside_69 rfl rfl ?_
  refine v_icmp_ne (tgt := 77) dX1_lowestBeside_70 (by decide) (fun _ => ?_) (fun _ => ?_)
  · skip
    refine v_iload_n dX1_lowestBeside_77 rfl rfl ?_
    exact v_ret (ty := .int) dX1_lowestBeside_78 rfl rfl rfl
  refine v_iconst (v := -1) dX1_lowestBeside_73 (by decide +kernel) ?_
  refine v_goto (tgt := 78) dX1_lowestBeside_74 (by decide) ?_
  exact v_ret (ty := .int) dX1_lowestBeside_78 rfl rfl rfl
theorem ct_X1_lowestBeside {SH : SHT} (b : Nat) (a1 : Int32) (h : isMoor SH b) (s0 : St) : CT yX1_lowestBeside mX1_lowestBeside 1 SH (jP s0) [.ref b, .int a1] s0 (f_X1_lowestBeside b a1 s0) := CT.of (by decide +kernel) rfl (fun E => Nat.le_of_ble_eq_true rfl) (w_X1_lowestBeside b a1 h s0)
