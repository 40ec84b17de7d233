set_option maxHeartbeats 20000000 in
set_option maxRecDepth 100000 in
theorem wc_L_36 {SH : SHT} (hO : isOaths SH 0) (hR : isModel SH 53) (rec : Int32 → St → Option (Int32 × St)) (hrec : ∀ (c1 : Int32) (s2 : St), VF mL_law 200 SH jI 18 [(0, .ref 5000), (1, .ref 0), (2, .ref 53), (3, .int c1)] [] s2 (rec c1 s2)) (c1 : Int32) (s2 : St) : VF mL_law 200 SH jI 1391 [(0, .ref 5000), (1, .ref 0), (2, .ref 53), (3, .int c1)] [] s2 (gd (ib (c1 + (1 : Int32)) SH.2.1) (cb (f_X3_judge 0 (SH.2.2 (ix (c1 + (1 : Int32)))) s2) fun x261 s260 => gd (ib (c1 + (1 : Int32)) SH.2.1) (cb (f_X4_judge 53 (SH.2.2 (ix (c1 + (1 : Int32)))) s260) fun x264 s263 => (if x261 = x264 then rec (c1 + (5 : Int32)) s263 else some ((0 : Int32), s263))))) := by
  refine v_aload_n dL_law_1391 rfl rfl ?_
  refine v_aload_n dL_law_1392 rfl rfl ?_
  refine v_iload_n dL_law_1393 rfl rfl ?_
  refine v_iconst (v := 1) dL_law_1394 (by decide +kernel) ?_
  refine v_iadd dL_law_1395 ?_
  refine v_gd (fun g259 => ?_)
  refine v_sld dL_law_1396 g259 ?_
  refine v_cbI (fun z hz => runV (as := [.int (SH.2.2 (ix (c1 + (1 : Int32))))]) dL_law_1397 kv_L_168 rfl rfl (Nat.le_of_ble_eq_true rfl) (Nat.le_of_ble_eq_true rfl) (recvW hO.1 rfl rfl) (ct_X3_judge _ _ hO _) hz) (fun x261 s260 => ?_)
  refine v_aload_n dL_law_1400 rfl rfl ?_
  refine v_aload_n dL_law_1401 rfl rfl ?_
  refine v_iload_n dL_law_1402 rfl rfl ?_
  refine v_iconst (v := 1) dL_law_1403 (by decide +kernel) ?_
  refine v_iadd dL_law_1404 ?_
  refine v_gd (fun g262 => ?_)
  refine v_sld dL_law_1405 g262 ?_
  refine v_cbI (fun z hz => runV (as := [.int (SH.2.2 (ix (c1 + (1 : Int32))))]) dL_law_1406 kv_L_171 rfl rfl (Nat.le_of_ble_eq_true rfl) (Nat.le_of_ble_eq_true rfl) (recvW hR.1 rfl rfl) (ct_X4_judge _ _ hR _) hz) (fun x264 s263 => ?_)
  refine v_icmp_eq (tgt := 1787) dL_law_1409 (by decide) (fun _ => ?_) (fun _ => ?_)
  · skip
    refine v_iinc (v := (c1 + (5 : Int32))) (L' := [(3, .int (c1 + (5 : Int32))), (0, .ref 5000), (1, .ref 0), (2, .ref 53)]) dL_law_1787 rfl rfl (by decide) rfl ?_
    refine v_goto (tgt := 18) dL_law_1790 (by decide) ?_
    exact v_pick [1, 2, 3, 0] rfl (hrec _ _)
  refine v_iconst (v := 0) dL_law_1412 (by decide +kernel) ?_
  exact v_ret (ty := .boolean) dL_law_1413 rfl rfl (by decide +kernel)
set_option maxHeartbeats 20000000 in
set_option maxRecDepth 100000 in
theorem wc_L_37 {SH : SHT} (hO : isOaths SH 0) (hR : isModel SH 53) (rec : Int32 → St → Option (Int32 × St)) (hrec : ∀ (c1 : Int32) (s2 : St), VF mL_law 200 SH jI 18 [(0, .ref 5000), (1, .ref 0), (2, .ref 53), (3, .int c1)] [] s2 (rec c1 s2)) (c1 : Int32) (s2 : St) : VF mL_law 200 SH jI 1414 [(0, .ref 5000), (1, .ref 0), (2, .ref 53), (3, .int c1)] [] s2 (gd (ib (c1 + (1 : Int32)) SH.2.1) (gd (ib (c1 + (2 : Int32)) SH.2.1) (gd (ib (c1 + (3 : Int32)) SH.2.1) (gd (ib (c1 + (4 : Int32)) SH.2.1) (cb (f_X3_minds 0 (SH.2.2 (ix (c1 + (1 : Int32)))) (SH.2.2 (ix (c1 + (2 : Int32)))) (SH.2.2 (ix (c1 + (3 : Int32)))) (SH.2.2 (ix (c1 + (4 : Int32)))) s2) fun x270 s269 => gd (ib (c1 + (1 : Int32)) SH.2.1) (gd (ib (c1 + (2 : Int32)) SH.2.1) (gd (ib (c1 + (3 : Int32)) SH.2.1) (gd (ib (c1 + (4 : Int32)) SH.2.1) (cb (f_X4_minds 53 (SH.2.2 (ix (c1 + (1 : Int32)))) (SH.2.2 (ix (c1 + (2 : Int32)))) (SH.2.2 (ix (c1 + (3 : Int32)))) (SH.2.2 (ix (c1 + (4 : Int32)))) s269) fun x276 s275 => (if x270 = x276 then rec (c1 + (5 : Int32)) s275 else some ((0 : Int32), s275))))))))))) := by
  refine v_aload_n dL_law_1414 rfl rfl ?_
  refine v_aload_n dL_law_1415 rfl rfl ?_
  refine v_iload_n dL_law_1416 rfl rfl ?_
  refine v_iconst (v := 1) dL_law_1417 (by decide +kernel) ?_
  refine v_iadd dL_law_1418 ?_
  refine v_gd (fun g265 => ?_)
  refine v_sld dL_law_1419 g265 ?_
  refine v_aload_n dL_law_1420 rfl rfl ?_
  refine v_iload_n dL_law_1421 rfl rfl ?_
  refine v_iconst (v := 2) dL_law_1422 (by decide +kernel) ?_
  refine v_iadd dL_law_1423 ?_
  refine v_gd (fun g266 => ?_)
  refine v_sld dL_law_1424 g266 ?_
  refine v_aload_n dL_law_1425 rfl rfl ?_
  refine v_iload_n dL_law_1426 rfl rfl ?_
  refine v_iconst (v := 3) dL_law_1427 (by decide +kernel) ?_
  refine v_iadd dL_law_1428 ?_
  refine v_gd (fun g267 => ?_)
  refine v_sld dL_law_1429 g267 ?_
  refine v_aload_n dL_law_1430 rfl rfl ?_
  refine v_iload_n dL_law_1431 rfl rfl ?_
  refine v_iconst (v := 4) dL_law_1432 (by decide +kernel) ?_
  refine v_iadd dL_law_1433 ?_
  refine v_gd (fun g268 => ?_)
  refine v_sld dL_law_1434 g268 ?_
  refine v_cbI (fun z hz => runV (as := [.int (SH.2.2 (ix (c1 + (1 : Int32)))), .int (SH.2.2 (ix (c1 + (2 : Int32)))), .int (SH.2.2 (ix (c1 + (3 : Int32)))), .int (SH.2.2 (ix (c1 + (4 : Int32))))]) dL_law_1435 kv_L_172 rfl rfl (Nat.le_of_ble_eq_true rfl) (Nat.le_of_ble_eq_true rfl) (recvW hO.1 rfl rfl) (ct_X3_minds _ _ _ _ _ hO _) hz) (fun x270 s269 => ?_)
  refine v_aload_n dL_law_1438 rfl rfl ?_
  refine v_aload_n dL_law_1439 rfl rfl ?_
  refine v_iload_n dL_law_1440 rfl rfl ?_
  refine v_iconst (v := 1) dL_law_1441 (by decide +kernel) ?_
  refine v_iadd dL_law_1442 ?_
  refine v_gd (fun g271 => ?_)
  refine v_sld dL_law_1443 g271 ?_
  refine v_aload_n dL_law_1444 rfl rfl ?_
  refine v_iload_n dL_law_1445 rfl rfl ?_
  refine v_iconst (v := 2) dL_law_1446 (by decide +kernel) ?_
  refine v_iadd dL_law_1447 ?_
  refine v_gd (fun g272 => ?_)
  refine v_sld dL_law_1448 g272 ?_
  refine v_aload_n dL_law_1449 rfl rfl ?_
  refine v_iload_n dL_law_1450 rfl rfl ?_
  refine v_iconst (v := 3) dL_law_1451 (by decide +kernel) ?_
  refine v_iadd dL_law_1452 ?_
  refine v_gd (fun g273 => ?_)
  refine v_sld dL_law_1453 g273 ?_
  refine v_aload_n dL_law_1454 rfl rfl ?_
  refine v_iload_n dL_law_1455 rfl rfl ?_
  refine v_iconst (v := 4) dL_law_1456 (by decide +kernel) ?_
  refine v_iadd dL_law_1457 ?_
  refine v_gd (fun g274 => ?_)
  refine v_sld dL_law_1458 g274 ?_
  refine v_cbI (fun z hz => runV (as := [.int (SH.2.2 (ix (c1 + (1 : Int32)))), .int (SH.2.2 (ix (c1 + (2 : Int32)))), .int (SH.2.2 (ix (c1 + (3 : Int32)))), .int (SH.2.2 (ix (c1 + (4 : Int32))))]) dL_law_1459 kv_L_175 rfl rfl (Nat.le_of_ble_eq_true rfl) (Nat.le_of_ble_eq_true rfl) (recvW hR.1 rfl rfl) (ct_X4_minds _ _ _ _ _ hR _) hz) (fun x276 s275 => ?_)
  refine v_icmp_eq (tgt := 1787) dL_law_1462 (by decide) (fun _ => ?_) (fun _ => ?_)
  · skip
    refine v_iinc (v := (c1 + (5 : Int32))) (L' := [(3, .int (c1 + (5 : Int32))), (0, .ref 5000), (1, .ref 0), (2, .ref 53)]) dL_law_1787 rfl rfl (by decide) rfl ?_
    refine v_goto (tgt := 18) dL_law_1790 (by decide) ?_
    exact v_pick [1, 2, 3, 0] rfl (hrec _ _)
  refine v_iconst (v := 0) dL_law_1465 (by decide +kernel) ?_
  exact v_ret (ty := .boolean) dL_law_1466 rfl rfl (by decide +kernel)
set_option maxHeartbeats 20000000 in
set_option maxRecDepth 100000 in
theorem wc_L_38 {SH : SHT} (hO : isOaths SH 0) (hR : isModel SH 53) (rec : Int32 → St → Option (Int32 × St)) (hrec : ∀ (c1 : Int32) (s2 : St), VF mL_law 200 SH jI 18 [(0, .ref 5000), (1, .ref 0), (2, .ref 53), (3, .int c1)] [] s2 (rec c1 s2)) (c1 : Int32) (s2 : St) : VF mL_law 200 SH jI 1467 [(0, .ref 5000), (1, .ref 0), (2, .ref 53), (3, .int c1)] [] s2 (gd (ib (c1 + (1 : Int32)) SH.2.1) (gd (ib (c1 + (2 : Int32)) SH.2.1) (gd (ib (c1 + (3 : Int32)) SH.2.1) (cb (f_X3_sheet 0 (SH.2.2 (ix (c1 + (1 : Int32)))) (SH.2.2 (ix (c1 + (2 : Int32)))) (SH.2.2 (ix (c1 + (3 : Int32)))) s2) fun x281 s280 => gd (ib (c1 + (1 : Int32)) SH.2.1) (gd (ib (c1 + (2 : Int32)) SH.2.1) (gd (ib (c1 + (3 : Int32)) SH.2.1) (cb (f_X4_sheet 53 (SH.2.2 (ix (c1 + (1 : Int32)))) (SH.2.2 (ix (c1 + (2 : Int32)))) (SH.2.2 (ix (c1 + (3 : Int32)))) s280) fun x286 s285 => (if x281 = x286 then rec (c1 + (5 : Int32)) s285 else some ((0 : Int32), s285))))))))) := by
  refine v_aload_n dL_law_1467 rfl rfl ?_
  refine v_aload_n dL_law_1468 rfl rfl ?_
  refine v_iload_n dL_law_1469 rfl rfl ?_
  refine v_iconst (v := 1) dL_law_1470 (by decide +kernel) ?_
  refine v_iadd dL_law_1471 ?_
  refine v_gd (fun g277 => ?_)
  refine v_sld dL_law_1472 g277 ?_
  refine v_aload_n dL_law_1473 rfl rfl ?_
  refine v_iload_n dL_law_1474 rfl rfl ?_
  refine v_iconst (v := 2) dL_law_1475 (by decide +kernel) ?_
  refine v_iadd dL_law_1476 ?_
  refine v_gd (fun g278 => ?_)
  refine v_sld dL_law_1477 g278 ?_
  refine v_aload_n dL_law_1478 rfl rfl ?_
  refine v_iload_n dL_law_1479 rfl rfl ?_
  refine v_iconst (v := 3) dL_law_1480 (by decide +kernel) ?_
  refine v_iadd dL_law_1481 ?_
  refine v_gd (fun g279 => ?_)
  refine v_sld dL_law_1482 g279 ?_
  refine v_cbI (fun z hz => runV (as := [.int (SH.2.2 (ix (c1 + (1 : Int32)))), .int (SH.2.2 (ix (c1 + (2 : Int32)))), .int (SH.2.2 (ix (c1 + (3 : Int32))))]) dL_law_1483 kv_L_176 rfl rfl (Nat.le_of_ble_eq_true rfl) (Nat.le_of_ble_eq_true rfl) (recvW hO.1 rfl rfl) (ct_X3_sheet _ _ _ _ hO _) hz) (fun x281 s280 => ?_)
  refine v_aload_n dL_law_1486 rfl rfl ?_
  refine v_aload_n dL_law_1487 rfl rfl ?_
  refine v_iload_n dL_law_1488 rfl rfl ?_
  refine v_iconst (v := 1) dL_law_1489 (by decide +kernel) ?_
  refine v_iadd dL_law_1490 ?_
  refine v_gd (fun g282 => ?_)
  refine v_sld dL_law_1491 g282 ?_
  refine v_aload_n dL_law_1492 rfl rfl ?_
  refine v_iload_n dL_law_1493 rfl rfl ?_
  refine v_iconst (v := 2) dL_law_1494 (by decide +kernel) ?_
  refine v_iadd dL_law_1495 ?_
  refine v_gd (fun g283 => ?_)
  refine v_sld dL_law_1496 g283 ?_
  refine v_aload_n dL_law_1497 rfl rfl ?_
  refine v_iload_n dL_law_1498 rfl rfl ?_
  refine v_iconst (v := 3) dL_law_1499 (by decide +kernel) ?_
  refine v_iadd dL_law_1500 ?_
  refine v_gd (fun g284 => ?_)
  refine v_sld dL_law_1501 g284 ?_
  refine v_cbI (fun z hz => runV (as := [.int (SH.2.2 (ix (c1 + (1 : Int32)))), .int (SH.2.2 (ix (c1 + (2 : Int32)))), .int (SH.2.2 (ix (c1 + (3 : Int32))))]) dL_law_1502 kv_L_179 rfl rfl (Nat.le_of_ble_eq_true rfl) (Nat.le_of_ble_eq_true rfl) (recvW hR.1 rfl rfl) (ct_X4_sheet _ _ _ _ hR _) hz) (fun x286 s285 => ?_)
  refine v_icmp_eq (tgt := 1787) dL_law_1505 (by decide) (fun _ => ?_) (fun _ => ?_)
  · skip
    refine v_iinc (v := (c1 + (5 : Int32))) (L' := [(3, .int (c1 + (5 : Int32))), (0, .ref 5000), (1, .ref 0), (2, .ref 53)]) dL_law_1787 rfl rfl (by decide) rfl ?_
    refine v_goto (tgt := 18) dL_law_1790 (by decide) ?_
    exact v_pick [1, 2, 3, 0] rfl (hrec _ _)
  refine v_iconst (v := 0) dL_law_1508 (by decide +kernel) ?_
  exact v_ret (ty := .boolean) dL_law_1509 rfl rfl (by decide +kernel)
set_option maxHeartbeats 20000000 in
set_option maxRecDepth 100000 in
theorem wc_L_39 {SH : SHT} (hO : isOaths SH 0) (hR : isModel SH 53) (rec : Int32 → St → Option (Int32 × St)) (hrec : ∀ (c1 : Int32) (s2 : St), VF mL_law 200 SH jI 18 [(0, .ref 5000), (1, .ref 0), (2, .ref 53), (3, .int c1)] [] s2 (rec c1 s2)) (c1 : Int32) (s2 : St) : VF mL_law 200 SH jI 1510 [(0, .ref 5000), (1, .ref 0), (2, .ref 53), (3, .int c1)] [] s2 (gd (ib (c1 + (1 : Int32)) SH.2.1) (gd (ib (c1 + (2 : Int32)) SH.2.1) (gd (ib (c1 + (3 : Int32)) SH.2.1) (cb (f_X3_put 0 (SH.2.2 (ix (c1 + (1 : Int32)))) (SH.2.2 (ix (c1 + (2 : Int32)))) (SH.2.2 (ix (c1 + (3 : Int32)))) s2) fun x291 s290 => gd (ib (c1 + (1 : Int32)) SH.2.1) (gd (ib (c1 + (2 : Int32)) SH.2.1) (gd (ib (c1 + (3 : Int32)) SH.2.1) (cb (f_X4_put 53 (SH.2.2 (ix (c1 + (1 : Int32)))) (SH.2.2 (ix (c1 + (2 : Int32)))) (SH.2.2 (ix (c1 + (3 : Int32)))) s290) fun x296 s295 => (if x291 = x296 then rec (c1 + (5 : Int32)) s295 else some ((0 : Int32), s295))))))))) := by
  refine v_aload_n dL_law_1510 rfl rfl ?_
  refine v_aload_n dL_law_1511 rfl rfl ?_
  refine v_iload_n dL_law_1512 rfl rfl ?_
  refine v_iconst (v := 1) dL_law_1513 (by decide +kernel) ?_
  refine v_iadd dL_law_1514 ?_
  refine v_gd (fun g287 => ?_)
  refine v_sld dL_law_1515 g287 ?_
  refine v_aload_n dL_law_1516 rfl rfl ?_
  refine v_iload_n dL_law_1517 rfl rfl ?_
  refine v_iconst (v := 2) dL_law_1518 (by decide +kernel) ?_
  refine v_iadd dL_law_1519 ?_
  refine v_gd (fun g288 => ?_)
  refine v_sld dL_law_1520 g288 ?_
  refine v_aload_n dL_law_1521 rfl rfl ?_
  refine v_iload_n dL_law_1522 rfl rfl ?_
  refine v_iconst (v := 3) dL_law_1523 (by decide +kernel) ?_
  refine v_iadd dL_law_1524 ?_
  refine v_gd (fun g289 => ?_)
  refine v_sld dL_law_1525 g289 ?_
  refine v_cbI (fun z hz => runV (as := [.int (SH.2.2 (ix (c1 + (1 : Int32)))), .int (SH.2.2 (ix (c1 + (2 : Int32)))), .int (SH.2.2 (ix (c1 + (3 : Int32))))]) dL_law_1526 kv_L_180 rfl rfl (Nat.le_of_ble_eq_true rfl) (Nat.le_of_ble_eq_true rfl) (recvW hO.1 rfl rfl) (ct_X3_put _ _ _ _ hO _) hz) (fun x291 s290 => ?_)
  refine v_aload_n dL_law_1529 rfl rfl ?_
  refine v_aload_n dL_law_1530 rfl rfl ?_
  refine v_iload_n dL_law_1531 rfl rfl ?_
  refine v_iconst (v := 1) dL_law_1532 (by decide +kernel) ?_
  refine v_iadd dL_law_1533 ?_
  refine v_gd (fun g292 => ?_)
  refine v_sld dL_law_1534 g292 ?_
  refine v_aload_n dL_law_1535 rfl rfl ?_
  refine v_iload_n dL_law_1536 rfl rfl ?_
  refine v_iconst (v := 2) dL_law_1537 (by decide +kernel) ?_
  refine v_iadd dL_law_1538 ?_
  refine v_gd (fun g293 => ?_)
  refine v_sld dL_law_1539 g293 ?_
  refine v_aload_n dL_law_1540 rfl rfl ?_
  refine v_iload_n dL_law_1541 rfl rfl ?_
  refine v_iconst (v := 3) dL_law_1542 (by decide +kernel) ?_
  refine v_iadd dL_law_1543 ?_
  refine v_gd (fun g294 => ?_)
  refine v_sld dL_law_1544 g294 ?_
  refine v_cbI (fun z hz => runV (as := [.int (SH.2.2 (ix (c1 + (1 : Int32)))), .int (SH.2.2 (ix (c1 + (2 : Int32)))), .int (SH.2.2 (ix (c1 + (3 : Int32))))]) dL_law_1545 kv_L_183 rfl rfl (Nat.le_of_ble_eq_true rfl) (Nat.le_of_ble_eq_true rfl) (recvW hR.1 rfl rfl) (ct_X4_put _ _ _ _ hR _) hz) (fun x296 s295 => ?_)
  refine v_icmp_eq (tgt := 1787) dL_law_1548 (by decide) (fun _ => ?_) (fun _ => ?_)
  · skip
    refine v_iinc (v := (c1 + (5 : Int32))) (L' := [(3, .int (c1 + (5 : Int32))), (0, .ref 5000), (1, .ref 0), (2, .ref 53)]) dL_law_1787 rfl rfl (by decide) rfl ?_
    refine v_goto (tgt := 18) dL_law_1790 (by decide) ?_
    exact v_pick [1, 2, 3, 0] rfl (hrec _ _)
  refine v_iconst (v := 0) dL_law_1551 (by decide +kernel) ?_
  exact v_ret (ty := .boolean) dL_law_1552 rfl rfl (by decide +kernel)
set_option maxHeartbeats 20000000 in
set_option maxRecDepth 100000 in
theorem wc_L_40 {SH : SHT} (hO : isOaths SH 0) (hR : isModel SH 53) (rec : Int32 → St → Option (Int32 × St)) (hrec : ∀ (c1 : Int32) (s2 : St), VF mL_law 200 SH jI 18 [(0, .ref 5000), (1, .ref 0), (2, .ref 53), (3, .int c1)] [] s2 (rec c1 s2)) (c1 : Int32) (s2 : St) : VF mL_law 200 SH jI 1553 [(0, .ref 5000), (1, .ref 0), (2, .ref 53), (3, .int c1)] [] s2 (gd (ib (c1 + (1 : Int32)) SH.2.1) (gd (ib (c1 + (2 : Int32)) SH.2.1) (gd (ib (c1 + (3 : Int32)) SH.2.1) (cp (f_X3_item 0 (SH.2.2 (ix (c1 + (1 : Int32)))) (SH.2.2 (ix (c1 + (2 : Int32)))) (SH.2.2 (ix (c1 + (3 : Int32)))) s2) fun x300 => gd (ib (c1 + (1 : Int32)) SH.2.1) (gd (ib (c1 + (2 : Int32)) SH.2.1) (gd (ib (c1 + (3 : Int32)) SH.2.1) (cp (f_X4_item 53 (SH.2.2 (ix (c1 + (1 : Int32)))) (SH.2.2 (ix (c1 + (2 : Int32)))) (SH.2.2 (ix (c1 + (3 : Int32)))) s2) fun x304 => (if x300 = x304 then rec (c1 + (5 : Int32)) s2 else some ((0 : Int32), s2))))))))) := by
  refine v_aload_n dL_law_1553 rfl rfl ?_
  refine v_aload_n dL_law_1554 rfl rfl ?_
  refine v_iload_n dL_law_1555 rfl rfl ?_
  refine v_iconst (v := 1) dL_law_1556 (by decide +kernel) ?_
  refine v_iadd dL_law_1557 ?_
  refine v_gd (fun g297 => ?_)
  refine v_sld dL_law_1558 g297 ?_
  refine v_aload_n dL_law_1559 rfl rfl ?_
  refine v_iload_n dL_law_1560 rfl rfl ?_
  refine v_iconst (v := 2) dL_law_1561 (by decide +kernel) ?_
  refine v_iadd dL_law_1562 ?_
  refine v_gd (fun g298 => ?_)
  refine v_sld dL_law_1563 g298 ?_
  refine v_aload_n dL_law_1564 rfl rfl ?_
  refine v_iload_n dL_law_1565 rfl rfl ?_
  refine v_iconst (v := 3) dL_law_1566 (by decide +kernel) ?_
  refine v_iadd dL_law_1567 ?_
  refine v_gd (fun g299 => ?_)
  refine v_sld dL_law_1568 g299 ?_
  refine v_cpI (fun z hz => runV (as := [.int (SH.2.2 (ix (c1 + (1 : Int32)))), .int (SH.2.2 (ix (c1 + (2 : Int32)))), .int (SH.2.2 (ix (c1 + (3 : Int32))))]) dL_law_1569 kv_L_184 rfl rfl (Nat.le_of_ble_eq_true rfl) (Nat.le_of_ble_eq_true rfl) (recvW hO.1 rfl rfl) (ct_X3_item _ _ _ _ hO _) hz) (fun x300 => ?_)
  refine v_aload_n dL_law_1572 rfl rfl ?_
  refine v_aload_n dL_law_1573 rfl rfl ?_
  refine v_iload_n dL_law_1574 rfl rfl ?_
  refine v_iconst (v := 1) dL_law_1575 (by decide +kernel) ?_
  refine v_iadd dL_law_1576 ?_
  refine v_gd (fun g301 => ?_)
  refine v_sld dL_law_1577 g301 ?_
  refine v_aload_n dL_law_1578 rfl rfl ?_
  refine v_iload_n dL_law_1579 rfl rfl ?_
  refine v_iconst (v := 2) dL_law_1580 (by decide +kernel) ?_
  refine v_iadd dL_law_1581 ?_
  refine v_gd (fun g302 => ?_)
  refine v_sld dL_law_1582 g302 ?_
  refine v_aload_n dL_law_1583 rfl rfl ?_
  refine v_iload_n dL_law_1584 rfl rfl ?_
  refine v_iconst (v := 3) dL_law_1585 (by decide +kernel) ?_
  refine v_iadd dL_law_1586 ?_
  refine v_gd (fun g303 => ?_)
  refine v_sld dL_law_1587 g303 ?_
  refine v_cpI (fun z hz => runV (as := [.int (SH.2.2 (ix (c1 + (1 : Int32)))), .int (SH.2.2 (ix (c1 + (2 : Int32)))), .int (SH.2.2 (ix (c1 + (3 : Int32))))]) dL_law_1588 kv_L_187 rfl rfl (Nat.le_of_ble_eq_true rfl) (Nat.le_of_ble_eq_true rfl) (recvW hR.1 rfl rfl) (ct_X4_item _ _ _ _ hR _) hz) (fun x304 => ?_)
  refine v_icmp_eq (tgt := 1787) dL_law_1591 (by decide) (fun _ => ?_) (fun _ => ?_)
  · skip
    refine v_iinc (v := (c1 + (5 : Int32))) (L' := [(3, .int (c1 + (5 : Int32))), (0, .ref 5000), (1, .ref 0), (2, .ref 53)]) dL_law_1787 rfl rfl (by decide) rfl ?_
    refine v_goto (tgt := 18) dL_law_1790 (by decide) ?_
    exact v_pick [1, 2, 3, 0] rfl (hrec _ _)
  refine v_iconst (v := 0) dL_law_1594 (by decide +kernel) ?_
  exact v_ret (ty := .boolean) dL_law_1595 rfl rfl (by decide +kernel)
set_option maxHeartbeats 20000000 in
set_option maxRecDepth 100000 in
theorem wc_L_41 {SH : SHT} (hO : isOaths SH 0) (hR : isModel SH 53) (rec : Int32 → St → Option (Int32 × St)) (hrec : ∀ (c1 : Int32) (s2 : St), VF mL_law 200 SH jI 18 [(0, .ref 5000), (1, .ref 0), (2, .ref 53), (3, .int c1)] [] s2 (rec c1 s2)) (c1 : Int32) (s2 : St) : VF mL_law 200 SH jI 1596 [(0, .ref 5000), (1, .ref 0), (2, .ref 53), (3, .int c1)] [] s2 (gd (ib (c1 + (1 : Int32)) SH.2.1) (gd (ib (c1 + (2 : Int32)) SH.2.1) (gd (ib (c1 + (3 : Int32)) SH.2.1) (cb (f_X3_shelf 0 (SH.2.2 (ix (c1 + (1 : Int32)))) (SH.2.2 (ix (c1 + (2 : Int32)))) (SH.2.2 (ix (c1 + (3 : Int32)))) s2) fun x309 s308 => gd (ib (c1 + (1 : Int32)) SH.2.1) (gd (ib (c1 + (2 : Int32)) SH.2.1) (gd (ib (c1 + (3 : Int32)) SH.2.1) (cb (f_X4_shelf 53 (SH.2.2 (ix (c1 + (1 : Int32)))) (SH.2.2 (ix (c1 + (2 : Int32)))) (SH.2.2 (ix (c1 + (3 : Int32)))) s308) fun x314 s313 => (if x309 = x314 then rec (c1 + (5 : Int32)) s313 else some ((0 : Int32), s313))))))))) := by
  refine v_aload_n dL_law_1596 rfl rfl ?_
  refine v_aload_n dL_law_1597 rfl rfl ?_
  refine v_iload_n dL_law_1598 rfl rfl ?_
  refine v_iconst (v := 1) dL_law_1599 (by decide +kernel) ?_
  refine v_iadd dL_law_1600 ?_
  refine v_gd (fun g305 => ?_)
  refine v_sld dL_law_1601 g305 ?_
  refine v_aload_n dL_law_1602 rfl rfl ?_
  refine v_iload_n dL_law_1603 rfl rfl ?_
  refine v_iconst (v := 2) dL_law_1604 (by decide +kernel) ?_
  refine v_iadd dL_law_1605 ?_
  refine v_gd (fun g306 => ?_)
  refine v_sld dL_law_1606 g306 ?_
  refine v_aload_n dL_law_1607 rfl rfl ?_
  refine v_iload_n dL_law_1608 rfl rfl ?_
  refine v_iconst (v := 3) dL_law_1609 (by decide +kernel) ?_
  refine v_iadd dL_law_1610 ?_
  refine v_gd (fun g307 => ?_)
  refine v_sld dL_law_1611 g307 ?_
  refine v_cbI (fun z hz => runV (as := [.int (SH.2.2 (ix (c1 + (1 : Int32)))), .int (SH.2.2 (ix (c1 + (2 : Int32)))), .int (SH.2.2 (ix (c1 + (3 : Int32))))]) dL_law_1612 kv_L_188 rfl rfl (Nat.le_of_ble_eq_true rfl) (Nat.le_of_ble_eq_true rfl) (recvW hO.1 rfl rfl) (ct_X3_shelf _ _ _ _ hO _) hz) (fun x309 s308 => ?_)
  refine v_aload_n dL_law_1615 rfl rfl ?_
  refine v_aload_n dL_law_1616 rfl rfl ?_
  refine v_iload_n dL_law_1617 rfl rfl ?_
  refine v_iconst (v := 1) dL_law_1618 (by decide +kernel) ?_
  refine v_iadd dL_law_1619 ?_
  refine v_gd (fun g310 => ?_)
  refine v_sld dL_law_1620 g310 ?_
  refine v_aload_n dL_law_1621 rfl rfl ?_
  refine v_iload_n dL_law_1622 rfl rfl ?_
  refine v_iconst (v := 2) dL_law_1623 (by decide +kernel) ?_
  refine v_iadd dL_law_1624 ?_
  refine v_gd (fun g311 => ?_)
  refine v_sld dL_law_1625 g311 ?_
  refine v_aload_n dL_law_1626 rfl rfl ?_
  refine v_iload_n dL_law_1627 rfl rfl ?_
  refine v_iconst (v := 3) dL_law_1628 (by decide +kernel) ?_
  refine v_iadd dL_law_1629 ?_
  refine v_gd (fun g312 => ?_)
  refine v_sld dL_law_1630 g312 ?_
  refine v_cbI (fun z hz => runV (as := [.int (SH.2.2 (ix (c1 + (1 : Int32)))), .int (SH.2.2 (ix (c1 + (2 : Int32)))), .int (SH.2.2 (ix (c1 + (3 : Int32))))]) dL_law_1631 kv_L_191 rfl rfl (Nat.le_of_ble_eq_true rfl) (Nat.le_of_ble_eq_true rfl) (recvW hR.1 rfl rfl) (ct_X4_shelf _ _ _ _ hR _) hz) (fun x314 s313 => ?_)
  refine v_icmp_eq (tgt := 1787) dL_law_1634 (by decide) (fun _ => ?_) (fun _ => ?_)
  · skip
    refine v_iinc (v := (c1 + (5 : Int32))) (L' := [(3, .int (c1 + (5 : Int32))), (0, .ref 5000), (1, .ref 0), (2, .ref 53)]) dL_law_1787 rfl rfl (by decide) rfl ?_
    refine v_goto (tgt := 18) dL_law_1790 (by decide) ?_
    exact v_pick [1, 2, 3, 0] rfl (hrec _ _)
  refine v_iconst (v := 0) dL_law_1637 (by decide +kernel) ?_
  exact v_ret (ty := .boolean) dL_law_1638 rfl rfl (by decide +kernel)
set_option maxHeartbeats 20000000 in
set_option maxRecDepth 100000 in
theorem wc_L_42 {SH : SHT} (hO : isOaths SH 0) (hR : isModel SH 53) (rec : Int32 → St → Option (Int32 × St)) (hrec : ∀ (c1 : Int32) (s2 : St), VF mL_law 200 SH jI 18 [(0, .ref 5000), (1, .ref 0), (2, .ref 53), (3, .int c1)] [] s2 (rec c1 s2)) (c1 : Int32) (s2 : St) : VF mL_law 200 SH jI 1639 [(0, .ref 5000), (1, .ref 0), (2, .ref 53), (3, .int c1)] [] s2 (gd (ib (c1 + (1 : Int32)) SH.2.1) (gd (ib (c1 + (2 : Int32)) SH.2.1) (cp (f_X3_taken 0 (SH.2.2 (ix (c1 + (1 : Int32)))) (SH.2.2 (ix (c1 + (2 : Int32)))) s2) fun x317 => gd (ib (c1 + (1 : Int32)) SH.2.1) (gd (ib (c1 + (2 : Int32)) SH.2.1) (cp (f_X4_taken 53 (SH.2.2 (ix (c1 + (1 : Int32)))) (SH.2.2 (ix (c1 + (2 : Int32)))) s2) fun x320 => (if x317 = x320 then rec (c1 + (5 : Int32)) s2 else some ((0 : Int32), s2))))))) := by
  refine v_aload_n dL_law_1639 rfl rfl ?_
  refine v_aload_n dL_law_1640 rfl rfl ?_
  refine v_iload_n dL_law_1641 rfl rfl ?_
  refine v_iconst (v := 1) dL_law_1642 (by decide +kernel) ?_
  refine v_iadd dL_law_1643 ?_
  refine v_gd (fun g315 => ?_)
  refine v_sld dL_law_1644 g315 ?_
  refine v_aload_n dL_law_1645 rfl rfl ?_
  refine v_iload_n dL_law_1646 rfl rfl ?_
  refine v_iconst (v := 2) dL_law_1647 (by decide +kernel) ?_
  refine v_iadd dL_law_1648 ?_
  refine v_gd (fun g316 => ?_)
  refine v_sld dL_law_1649 g316 ?_
  refine v_cpI (fun z hz => runV (as := [.int (SH.2.2 (ix (c1 + (1 : Int32)))), .int (SH.2.2 (ix (c1 + (2 : Int32))))]) dL_law_1650 kv_L_192 rfl rfl (Nat.le_of_ble_eq_true rfl) (Nat.le_of_ble_eq_true rfl) (recvW hO.1 rfl rfl) (ct_X3_taken _ _ _ hO _) hz) (fun x317 => ?_)
  refine v_aload_n dL_law_1653 rfl rfl ?_
  refine v_aload_n dL_law_1654 rfl rfl ?_
  refine v_iload_n dL_law_1655 rfl rfl ?_
  refine v_iconst (v := 1) dL_law_1656 (by decide +kernel) ?_
  refine v_iadd dL_law_1657 ?_
  refine v_gd (fun g318 => ?_)
  refine v_sld dL_law_1658 g318 ?_
  refine v_aload_n dL_law_1659 rfl rfl ?_
  refine v_iload_n dL_law_1660 rfl rfl ?_
  refine v_iconst (v := 2) dL_law_1661 (by decide +kernel) ?_
  refine v_iadd dL_law_1662 ?_
  refine v_gd (fun g319 => ?_)
  refine v_sld dL_law_1663 g319 ?_
  refine v_cpI (fun z hz => runV (as := [.int (SH.2.2 (ix (c1 + (1 : Int32)))), .int (SH.2.2 (ix (c1 + (2 : Int32))))]) dL_law_1664 kv_L_195 rfl rfl (Nat.le_of_ble_eq_true rfl) (Nat.le_of_ble_eq_true rfl) (recvW hR.1 rfl rfl) (ct_X4_taken _ _ _ hR _) hz) (fun x320 => ?_)
  refine v_icmp_eq (tgt := 1787) dL_law_1667 (by decide) (fun _ => ?_) (fun _ => ?_)
  · skip
    refine v_iinc (v := (c1 + (5 : Int32))) (L' := [(3, .int (c1 + (5 : Int32))), (0, .ref 5000), (1, .ref 0), (2, .ref 53)]) dL_law_1787 rfl rfl (by decide) rfl ?_
    refine v_goto (tgt := 18) dL_law_1790 (by decide) ?_
    exact v_pick [1, 2, 3, 0] rfl (hrec _ _)
  refine v_iconst (v := 0) dL_law_1670 (by decide +kernel) ?_
  exact v_ret (ty := .boolean) dL_law_1671 rfl rfl (by decide +kernel)
set_option maxHeartbeats 20000000 in
set_option maxRecDepth 100000 in
theorem wc_L_43 {SH : SHT} (hO : isOaths SH 0) (hR : isModel SH 53) (rec : Int32 → St → Option (Int32 × St)) (hrec : ∀ (c1 : Int32) (s2 : St), VF mL_law 200 SH jI 18 [(0, .ref 5000), (1, .ref 0), (2, .ref 53), (3, .int c1)] [] s2 (rec c1 s2)) (c1 : Int32) (s2 : St) : VF mL_law 200 SH jI 1672 [(0, .ref 5000), (1, .ref 0), (2, .ref 53), (3, .int c1)] [] s2 (gd (ib (c1 + (1 : Int32)) SH.2.1) (gd (ib (c1 + (2 : Int32)) SH.2.1) (gd (ib (c1 + (3 : Int32)) SH.2.1) (cb (f_X3_act 0 (SH.2.2 (ix (c1 + (1 : Int32)))) (SH.2.2 (ix (c1 + (2 : Int32)))) (SH.2.2 (ix (c1 + (3 : Int32)))) s2) fun x325 s324 => gd (ib (c1 + (1 : Int32)) SH.2.1) (gd (ib (c1 + (2 : Int32)) SH.2.1) (gd (ib (c1 + (3 : Int32)) SH.2.1) (cb (f_X4_act 53 (SH.2.2 (ix (c1 + (1 : Int32)))) (SH.2.2 (ix (c1 + (2 : Int32)))) (SH.2.2 (ix (c1 + (3 : Int32)))) s324) fun x330 s329 => (if x325 = x330 then rec (c1 + (5 : Int32)) s329 else some ((0 : Int32), s329))))))))) := by
  refine v_aload_n dL_law_1672 rfl rfl ?_
  refine v_aload_n dL_law_1673 rfl rfl ?_
  refine v_iload_n dL_law_1674 rfl rfl ?_
  refine v_iconst (v := 1) dL_law_1675 (by decide +kernel) ?_
  refine v_iadd dL_law_1676 ?_
  refine v_gd (fun g321 => ?_)
  refine v_sld dL_law_1677 g321 ?_
  refine v_aload_n dL_law_1678 rfl rfl ?_
  refine v_iload_n dL_law_1679 rfl rfl ?_
  refine v_iconst (v := 2) dL_law_1680 (by decide +kernel) ?_
  refine v_iadd dL_law_1681 ?_
  refine v_gd (fun g322 => ?_)
  refine v_sld dL_law_1682 g322 ?_
  refine v_aload_n dL_law_1683 rfl rfl ?_
  refine v_iload_n dL_law_1684 rfl rfl ?_
  refine v_iconst (v := 3) dL_law_1685 (by decide +kernel) ?_
  refine v_iadd dL_law_1686 ?_
  refine v_gd (fun g323 => ?_)
  refine v_sld dL_law_1687 g323 ?_
  refine v_cbI (fun z hz => runV (as := [.int (SH.2.2 (ix (c1 + (1 : Int32)))), .int (SH.2.2 (ix (c1 + (2 : Int32)))), .int (SH.2.2 (ix (c1 + (3 : Int32))))]) dL_law_1688 kv_L_196 rfl rfl (Nat.le_of_ble_eq_true rfl) (Nat.le_of_ble_eq_true rfl) (recvW hO.1 rfl rfl) (ct_X3_act _ _ _ _ hO _) hz) (fun x325 s324 => ?_)
  refine v_aload_n dL_law_1691 rfl rfl ?_
  refine v_aload_n dL_law_1692 rfl rfl ?_
  refine v_iload_n dL_law_1693 rfl rfl ?_
  refine v_iconst (v := 1) dL_law_1694 (by decide +kernel) ?_
  refine v_iadd dL_law_1695 ?_
  refine v_gd (fun g326 => ?_)
  refine v_sld dL_law_1696 g326 ?_
  refine v_aload_n dL_law_1697 rfl rfl ?_
  refine v_iload_n dL_law_1698 rfl rfl ?_
  refine v_iconst (v := 2) dL_law_1699 (by decide +kernel) ?_
  refine v_iadd dL_law_1700 ?_
  refine v_gd (fun g327 => ?_)
  refine v_sld dL_law_1701 g327 ?_
  refine v_aload_n dL_law_1702 rfl rfl ?_
  refine v_iload_n dL_law_1703 rfl rfl ?_
  refine v_iconst (v := 3) dL_law_1704 (by decide +kernel) ?_
  refine v_iadd dL_law_1705 ?_
  refine v_gd (fun g328 => ?_)
  refine v_sld dL_law_1706 g328 ?_
  refine v_cbI (fun z hz => runV (as := [.int (SH.2.2 (ix (c1 + (1 : Int32)))), .int (SH.2.2 (ix (c1 + (2 : Int32)))), .int (SH.2.2 (ix (c1 + (3 : Int32))))]) dL_law_1707 kv_L_199 rfl rfl (Nat.le_of_ble_eq_true rfl) (Nat.le_of_ble_eq_true rfl) (recvW hR.1 rfl rfl) (ct_X4_act _ _ _ _ hR _) hz) (fun x330 s329 => ?_)
  refine v_icmp_eq (tgt := 1787) dL_law_1710 (by decide) (fun _ => ?_) (fun _ => ?_)
  · skip
    refine v_iinc (v := (c1 + (5 : Int32))) (L' := [(3, .int (c1 + (5 : Int32))), (0, .ref 5000), (1, .ref 0), (2, .ref 53)]) dL_law_1787 rfl rfl (by decide) rfl ?_
    refine v_goto (tgt := 18) dL_law_1790 (by decide) ?_
    exact v_pick [1, 2, 3, 0] rfl (hrec _ _)
  refine v_iconst (v := 0) dL_law_1713 (by decide +kernel) ?_
  exact v_ret (ty := .boolean) dL_law_1714 rfl rfl (by decide +kernel)
set_option maxHeartbeats 20000000 in
set_option maxRecDepth 100000 in
theorem wc_L_44 {SH : SHT} (hO : isOaths SH 0) (hR : isModel SH 53) (rec : Int32 → St → Option (Int32 × St)) (hrec : ∀ (c1 : Int32) (s2 : St), VF mL_law 200 SH jI 18 [(0, .ref 5000), (1, .ref 0), (2, .ref 53), (3, .int c1)] [] s2 (rec c1 s2)) (c1 : Int32) (s2 : St) : VF mL_law 200 SH jI 1715 [(0, .ref 5000), (1, .ref 0), (2, .ref 53), (3, .int c1)] [] s2 (gd (ib (c1 + (1 : Int32)) SH.2.1) (cp (f_X3_trace 0 (SH.2.2 (ix (c1 + (1 : Int32)))) s2) fun x332 => gd (ib (c1 + (1 : Int32)) SH.2.1) (cp (f_X4_trace 53 (SH.2.2 (ix (c1 + (1 : Int32)))) s2) fun x334 => (if x332 = x334 then rec (c1 + (5 : Int32)) s2 else some ((0 : Int32), s2))))) := by
  refine v_aload_n dL_law_1715 rfl rfl ?_
  refine v_aload_n dL_law_1716 rfl rfl ?_
  refine v_iload_n dL_law_1717 rfl rfl ?_
  refine v_iconst (v := 1) dL_law_1718 (by decide +kernel) ?_
  refine v_iadd dL_law_1719 ?_
  refine v_gd (fun g331 => ?_)
  refine v_sld dL_law_1720 g331 ?_
  refine v_cpI (fun z hz => runV (as := [.int (SH.2.2 (ix (c1 + (1 : Int32))))]) dL_law_1721 kv_L_200 rfl rfl (Nat.le_of_ble_eq_true rfl) (Nat.le_of_ble_eq_true rfl) (recvW hO.1 rfl rfl) (ct_X3_trace _ _ hO _) hz) (fun x332 => ?_)
  refine v_aload_n dL_law_1724 rfl rfl ?_
  refine v_aload_n dL_law_1725 rfl rfl ?_
  refine v_iload_n dL_law_1726 rfl rfl ?_
  refine v_iconst (v := 1) dL_law_1727 (by decide +kernel) ?_
  refine v_iadd dL_law_1728 ?_
  refine v_gd (fun g333 => ?_)
  refine v_sld dL_law_1729 g333 ?_
  refine v_cpI (fun z hz => runV (as := [.int (SH.2.2 (ix (c1 + (1 : Int32))))]) dL_law_1730 kv_L_203 rfl rfl (Nat.le_of_ble_eq_true rfl) (Nat.le_of_ble_eq_true rfl) (recvW hR.1 rfl rfl) (ct_X4_trace _ _ hR _) hz) (fun x334 => ?_)
  refine v_icmp_eq (tgt := 1787) dL_law_1733 (by decide) (fun _ => ?_) (fun _ => ?_)
  · skip
    refine v_iinc (v := (c1 + (5 : Int32))) (L' := [(3, .int (c1 + (5 : Int32))), (0, .ref 5000), (1, .ref 0), (2, .ref 53)]) dL_law_1787 rfl rfl (by decide) rfl ?_
    refine v_goto (tgt := 18) dL_law_1790 (by decide) ?_
    exact v_pick [1, 2, 3, 0] rfl (hrec _ _)
  refine v_iconst (v := 0) dL_law_1736 (by decide +kernel) ?_
  exact v_ret (ty := .boolean) dL_law_1737 rfl rfl (by decide +kernel)
set_option maxHeartbeats 20000000 in
set_option maxRecDepth 100000 in
theorem wc_L_45 {SH : SHT} (hO : isOaths SH 0) (hR : isModel SH 53) (rec : Int32 → St → Option (Int32 × St)) (hrec : ∀ (c1 : Int32) (s2 : St), VF mL_law 200 SH jI 18 [(0, .ref 5000), (1, .ref 0), (2, .ref 53), (3, .int c1)] [] s2 (rec c1 s2)) (c1 : Int32) (s2 : St) : VF mL_law 200 SH jI 1738 [(0, .ref 5000), (1, .ref 0), (2, .ref 53), (3, .int c1)] [] s2 (gd (ib (c1 + (1 : Int32)) SH.2.1) (cp (f_X3_many 0 (SH.2.2 (ix (c1 + (1 : Int32)))) s2) fun x336 => gd (ib (c1 + (1 : Int32)) SH.2.1) (cp (f_X4_many 53 (SH.2.2 (ix (c1 + (1 : Int32)))) s2) fun x338 => (if x336 = x338 then rec (c1 + (5 : Int32)) s2 else some ((0 : Int32), s2))))) := by
  refine v_aload_n dL_law_1738 rfl rfl ?_
  refine v_aload_n dL_law_1739 rfl rfl ?_
  refine v_iload_n dL_law_1740 rfl rfl ?_
  refine v_iconst (v := 1) dL_law_1741 (by decide +kernel) ?_
  refine v_iadd dL_law_1742 ?_
  refine v_gd (fun g335 => ?_)
  refine v_sld dL_law_1743 g335 ?_
  refine v_cpI (fun z hz => runV (as := [.int (SH.2.2 (ix (c1 + (1 : Int32))))]) dL_law_1744 kv_L_204 rfl rfl (Nat.le_of_ble_eq_true rfl) (Nat.le_of_ble_eq_true rfl) (recvW hO.1 rfl rfl) (ct_X3_many _ _ hO _) hz) (fun x336 => ?_)
  refine v_aload_n dL_law_1747 rfl rfl ?_
  refine v_aload_n dL_law_1748 rfl rfl ?_
  refine v_iload_n dL_law_1749 rfl rfl ?_
  refine v_iconst (v := 1) dL_law_1750 (by decide +kernel) ?_
  refine v_iadd dL_law_1751 ?_
  refine v_gd (fun g337 => ?_)
  refine v_sld dL_law_1752 g337 ?_
  refine v_cpI (fun z hz => runV (as := [.int (SH.2.2 (ix (c1 + (1 : Int32))))]) dL_law_1753 kv_L_207 rfl rfl (Nat.le_of_ble_eq_true rfl) (Nat.le_of_ble_eq_true rfl) (recvW hR.1 rfl rfl) (ct_X4_many _ _ hR _) hz) (fun x338 => ?_)
  refine v_icmp_eq (tgt := 1787) dL_law_1756 (by decide) (fun _ => ?_) (fun _ => ?_)
  · skip
    refine v_iinc (v := (c1 + (5 : Int32))) (L' := [(3, .int (c1 + (5 : Int32))), (0, .ref 5000), (1, .ref 0), (2, .ref 53)]) dL_law_1787 rfl rfl (by decide) rfl ?_
    refine v_goto (tgt := 18) dL_law_1790 (by decide) ?_
    exact v_pick [1, 2, 3, 0] rfl (hrec _ _)
  refine v_iconst (v := 0) dL_law_1759 (by decide +kernel) ?_
  exact v_ret (ty := .boolean) dL_law_1760 rfl rfl (by decide +kernel)
set_option maxHeartbeats 20000000 in
set_option maxRecDepth 100000 in
theorem wc_L_46 {SH : SHT} (hO : isOaths SH 0) (hR : isModel SH 53) (rec : Int32 → St → Option (Int32 × St)) (hrec : ∀ (c1 : Int32) (s2 : St), VF mL_law 200 SH jI 18 [(0, .ref 5000), (1, .ref 0), (2, .ref 53), (3, .int c1)] [] s2 (rec c1 s2)) (c1 : Int32) (s2 : St) : VF mL_law 200 SH jI 1761 [(0, .ref 5000), (1, .ref 0), (2, .ref 53), (3, .int c1)] [] s2 (cb (f_X3_keep 0 s2) fun x340 s339 => cb (f_X4_keep 53 s339) fun x342 s341 => (if x340 = x342 then rec (c1 + (5 : Int32)) s341 else some ((0 : Int32), s341))) := by
  refine v_aload_n dL_law_1761 rfl rfl ?_
  refine v_cbI (fun z hz => runV (as := []) dL_law_1762 kv_L_208 rfl rfl (Nat.le_of_ble_eq_true rfl) (Nat.le_of_ble_eq_true rfl) (recvW hO.1 rfl rfl) (ct_X3_keep _ hO _) hz) (fun x340 s339 => ?_)
  refine v_aload_n dL_law_1765 rfl rfl ?_
  refine v_cbI (fun z hz => runV (as := []) dL_law_1766 kv_L_211 rfl rfl (Nat.le_of_ble_eq_true rfl) (Nat.le_of_ble_eq_true rfl) (recvW hR.1 rfl rfl) (ct_X4_keep _ hR _) hz) (fun x342 s341 => ?_)
  refine v_icmp_eq (tgt := 1787) dL_law_1769 (by decide) (fun _ => ?_) (fun _ => ?_)
  · skip
    refine v_iinc (v := (c1 + (5 : Int32))) (L' := [(3, .int (c1 + (5 : Int32))), (0, .ref 5000), (1, .ref 0), (2, .ref 53)]) dL_law_1787 rfl rfl (by decide) rfl ?_
    refine v_goto (tgt := 18) dL_law_1790 (by decide) ?_
    exact v_pick [1, 2, 3, 0] rfl (hrec _ _)
  refine v_iconst (v := 0) dL_law_1772 (by decide +kernel) ?_
  exact v_ret (ty := .boolean) dL_law_1773 rfl rfl (by decide +kernel)
set_option maxHeartbeats 20000000 in
set_option maxRecDepth 100000 in
theorem wc_L_47 {SH : SHT} (hO : isOaths SH 0) (hR : isModel SH 53) (rec : Int32 → St → Option (Int32 × St)) (hrec : ∀ (c1 : Int32) (s2 : St), VF mL_law 200 SH jI 18 [(0, .ref 5000), (1, .ref 0), (2, .ref 53), (3, .int c1)] [] s2 (rec c1 s2)) (c1 : Int32) (s2 : St) : VF mL_law 200 SH jI 1774 [(0, .ref 5000), (1, .ref 0), (2, .ref 53), (3, .int c1)] [] s2 (cb (f_X3_again 0 s2) fun x344 s343 => cb (f_X4_again 53 s343) fun x346 s345 => (if x344 = x346 then rec (c1 + (5 : Int32)) s345 else some ((0 : Int32), s345))) := by
  refine v_aload_n dL_law_1774 rfl rfl ?_
  refine v_cbI (fun z hz => runV (as := []) dL_law_1775 kv_L_212 rfl rfl (Nat.le_of_ble_eq_true rfl) (Nat.le_of_ble_eq_true rfl) (recvW hO.1 rfl rfl) (ct_X3_again _ hO _) hz) (fun x344 s343 => ?_)
  refine v_aload_n dL_law_1778 rfl rfl ?_
  refine v_cbI (fun z hz => runV (as := []) dL_law_1779 kv_L_215 rfl rfl (Nat.le_of_ble_eq_true rfl) (Nat.le_of_ble_eq_true rfl) (recvW hR.1 rfl rfl) (ct_X4_again _ hR _) hz) (fun x346 s345 => ?_)
  refine v_icmp_eq (tgt := 1787) dL_law_1782 (by decide) (fun _ => ?_) (fun _ => ?_)
  · skip
    refine v_iinc (v := (c1 + (5 : Int32))) (L' := [(3, .int (c1 + (5 : Int32))), (0, .ref 5000), (1, .ref 0), (2, .ref 53)]) dL_law_1787 rfl rfl (by decide) rfl ?_
    refine v_goto (tgt := 18) dL_law_1790 (by decide) ?_
    exact v_pick [1, 2, 3, 0] rfl (hrec _ _)
  refine v_iconst (v := 0) dL_law_1785 (by decide +kernel) ?_
  exact v_ret (ty := .boolean) dL_law_1786 rfl rfl (by decide +kernel)
