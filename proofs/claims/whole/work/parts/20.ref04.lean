set_option maxHeartbeats 4000000 in
set_option maxRecDepth 100000 in
theorem w_X4_isSheet {SH : SHT} (a0 : Int32) (s0 : St) : VF mX4_isSheet 1 SH (jP s0) 0 [(0, .int a0)] [] s0 (f_X4_isSheet a0) := by
  unfold f_X4_isSheet
  refine v_iload_n dX4_isSheet_0 rfl rfl ?_
  refine v_i2l dX4_isSheet_1 ?_
  refine v_lconst (v := 0) dX4_isSheet_2 (by decide +kernel) ?_
  refine v_ldc2 dX4_isSheet_3 kcL_X4_110 ?_
  refine v_cpI (fun z hz => runT (as := [.long (a0).toInt64, .long (0 : Int64), .long (3 : Int64)]) dX4_isSheet_6 kt_X4_61 rfl rfl (Nat.le_of_ble_eq_true rfl) (Nat.le_of_ble_eq_true rfl) (ct_X4_in _ _ _  _) hz) (fun x1 => ?_)
  exact v_retz dX4_isSheet_9 rfl rfl
theorem ct_X4_isSheet {SH : SHT} (a0 : Int32) (s0 : St) : CT yX4_isSheet mX4_isSheet 1 SH (jP s0) [.int a0] s0 (f_X4_isSheet a0) := CT.of (by decide +kernel) rfl (fun E => Nat.le_of_ble_eq_true rfl) (w_X4_isSheet a0  s0)
set_option maxHeartbeats 4000000 in
set_option maxRecDepth 100000 in
theorem wB_X4_fits_61 {SH : SHT} (b : Nat) (a1 : Int32) (a2 : Int32) (a3 : Int32) (a4 : Int32) (h : isModel SH b) (rec : Int32 → Int32 → Int32 → St → Option (Int32 × St)) (hrec : ∀ (c7 : Int32) (c8 : Int32) (c9 : Int32) (s10 : St), VF mX4_fits 4 SH jI 61 [(0, .ref b), (1, .int a1), (2, .int a2), (3, .int a3), (4, .int a4), (5, .int c7), (6, .int c8), (7, .int c9)] [] s10 (rec c7 c8 c9 s10)) (K : Int32 → Int32 → St → Option (Int32 × St)) (hK : ∀ (e11 : Int32) (e12 : Int32) (s13 : St), VF mX4_fits 4 SH jI 103 [(4, .int a4), (5, .int e11), (6, .int e12)] [] s13 (K e11 e12 s13)) (c7 : Int32) (c8 : Int32) (c9 : Int32) (s10 : St) : VF mX4_fits 4 SH jI 61 [(0, .ref b), (1, .int a1), (2, .int a2), (3, .int a3), (4, .int a4), (5, .int c7), (6, .int c8), (7, .int c9)] [] s10 (B_X4_fits_61 rec b a1 a2 a3 a4 K c7 c8 c9 s10) := by
  unfold B_X4_fits_61
  refine v_iload dX4_fits_61 rfl ?_
  refine v_bipush (v := 99) dX4_fits_63 (by decide +kernel) ?_
  refine v_icmp_gt (tgt := 103) dX4_fits_65 (by decide) (fun _ => ?_) (fun _ => ?_)
  · skip
    exact v_pick [4, 5, 6] rfl (hK _ _ _)
  refine v_aload_n dX4_fits_68 rfl rfl ?_
  refine v_iload_n dX4_fits_69 rfl rfl ?_
  refine v_iload_n dX4_fits_70 rfl rfl ?_
  refine v_iload_n dX4_fits_71 rfl rfl ?_
  refine v_iload dX4_fits_72 rfl ?_
  refine v_cbI (fun z hz => runV (as := [.int a1, .int a2, .int a3, .int c9]) dX4_fits_74 kv_X4_202 rfl rfl (Nat.le_of_ble_eq_true rfl) (Nat.le_of_ble_eq_true rfl) (recvW h.1 rfl rfl) (ct_X4_isTold _ _ _ _ _ h _) hz) (fun x15 s14 => ?_)
  refine v_bnK (fun K18 => ∀ (t16 : Int32) (t17 : Int32), VF mX4_fits 4 SH jI 97 [(0, .ref b), (1, .int a1), (2, .int a2), (3, .int a3), (4, .int a4), (5, .int t16), (6, .int t17), (7, .int c9)] [] s14 (K18 t16 t17)) (fun K18 hK18 => ?_) (fun t16 t17 => ?_)
  · skip
    refine v_if_eq (tgt := 97) dX4_fits_77 (by decide) (fun _ => ?_) (fun _ => ?_)
    · skip
      exact v_pick [0, 1, 2, 3, 4, 5, 6, 7] rfl (hK18 _ _)
    refine v_iload dX4_fits_80 rfl ?_
    refine v_bnK (fun K20 => ∀ (t19 : Int32), VF mX4_fits 4 SH jI 92 [(0, .ref b), (1, .int a1), (2, .int a2), (3, .int a3), (4, .int a4), (5, .int c7), (7, .int c9)] [.int t19] s14 (K20 t19)) (fun K20 hK20 => ?_) (fun t19 => ?_)
    · skip
      refine v_if_ne (tgt := 90) dX4_fits_82 (by decide) (fun _ => ?_) (fun _ => ?_)
      · skip
        refine v_iload dX4_fits_90 rfl ?_
        exact v_pick [0, 1, 2, 3, 4, 5, 7] rfl (hK20 _)
      refine v_iload dX4_fits_85 rfl ?_
      refine v_goto (tgt := 92) dX4_fits_87 (by decide) ?_
      exact v_pick [0, 1, 2, 3, 4, 5, 7] rfl (hK20 _)
    refine v_istore (L' := [(6, .int t19), (0, .ref b), (1, .int a1), (2, .int a2), (3, .int a3), (4, .int a4), (5, .int c7), (7, .int c9)]) dX4_fits_92 (by decide) rfl ?_
    refine v_iinc (v := (c7 + (1 : Int32))) (L' := [(5, .int (c7 + (1 : Int32))), (6, .int t19), (0, .ref b), (1, .int a1), (2, .int a2), (3, .int a3), (4, .int a4), (7, .int c9)]) dX4_fits_94 rfl rfl (by decide) rfl ?_
    exact v_pick [2, 3, 4, 5, 6, 0, 1, 7] rfl (hK18 _ _)
  refine v_iinc (v := (c9 + (1 : Int32))) (L' := [(7, .int (c9 + (1 : Int32))), (0, .ref b), (1, .int a1), (2, .int a2), (3, .int a3), (4, .int a4), (5, .int t16), (6, .int t17)]) dX4_fits_97 rfl rfl (by decide) rfl ?_
  refine v_goto (tgt := 61) dX4_fits_100 (by decide) ?_
  exact v_pick [1, 2, 3, 4, 5, 6, 7, 0] rfl (hrec _ _ _ _)
theorem wL_X4_fits_61 {SH : SHT} (b : Nat) (a1 : Int32) (a2 : Int32) (a3 : Int32) (a4 : Int32) (h : isModel SH b) (K : Int32 → Int32 → St → Option (Int32 × St)) (hK : ∀ (e11 : Int32) (e12 : Int32) (s13 : St), VF mX4_fits 4 SH jI 103 [(4, .int a4), (5, .int e11), (6, .int e12)] [] s13 (K e11 e12 s13)) : ∀ (n : Nat) (c7 : Int32) (c8 : Int32) (c9 : Int32) (s10 : St), VF mX4_fits 4 SH jI 61 [(0, .ref b), (1, .int a1), (2, .int a2), (3, .int a3), (4, .int a4), (5, .int c7), (6, .int c8), (7, .int c9)] [] s10 (L_X4_fits_61 b a1 a2 a3 a4 K n c7 c8 c9 s10) := by
  intro n
  induction n with
  | zero => intros; exact v_none
  | succ n ih => intro c7 c8 c9 s10; exact wB_X4_fits_61 b a1 a2 a3 a4 h _ ih K hK c7 c8 c9 s10
set_option maxHeartbeats 4000000 in
set_option maxRecDepth 100000 in
theorem w_X4_fits {SH : SHT} (b : Nat) (a1 : Int32) (a2 : Int32) (a3 : Int32) (a4 : Int32) (h : isModel SH b) (s0 : St) : VF mX4_fits 4 SH jI 0 [(0, .ref b), (1, .int a1), (2, .int a2), (3, .int a3), (4, .int a4)] [] s0 (f_X4_fits b a1 a2 a3 a4 s0) := by
  unfold f_X4_fits
  refine v_iload_n dX4_fits_0 rfl rfl ?_
  refine v_cpI (fun z hz => runT (as := [.int a1]) dX4_fits_1 kt_X4_199 rfl rfl (Nat.le_of_ble_eq_true rfl) (Nat.le_of_ble_eq_true rfl) (ct_X4_isSheet _  _) hz) (fun x1 => ?_)
  refine v_if_eq (tgt := 33) dX4_fits_4 (by decide) (fun _ => ?_) (fun _ => ?_)
  · skip
    refine v_iconst (v := -1) dX4_fits_33 (by decide +kernel) ?_
    exact v_ret (ty := .int) dX4_fits_34 rfl rfl rfl
  refine v_iload_n dX4_fits_7 rfl rfl ?_
  refine v_cpI (fun z hz => runT (as := [.int a2]) dX4_fits_8 kt_X4_120 rfl rfl (Nat.le_of_ble_eq_true rfl) (Nat.le_of_ble_eq_true rfl) (ct_X4_isCell _  _) hz) (fun x2 => ?_)
  refine v_if_eq (tgt := 33) dX4_fits_11 (by decide) (fun _ => ?_) (fun _ => ?_)
  · skip
    refine v_iconst (v := -1) dX4_fits_33 (by decide +kernel) ?_
    exact v_ret (ty := .int) dX4_fits_34 rfl rfl rfl
  refine v_aload_n dX4_fits_14 rfl rfl ?_
  refine v_iload_n dX4_fits_15 rfl rfl ?_
  refine v_cpI (fun z hz => runV (as := [.int a3]) dX4_fits_16 kv_X4_127 rfl rfl (Nat.le_of_ble_eq_true rfl) (Nat.le_of_ble_eq_true rfl) (recvW h.1 rfl rfl) (ct_X4_isPerson _ _ h _) hz) (fun x3 => ?_)
  refine v_if_eq (tgt := 33) dX4_fits_19 (by decide) (fun _ => ?_) (fun _ => ?_)
  · skip
    refine v_iconst (v := -1) dX4_fits_33 (by decide +kernel) ?_
    exact v_ret (ty := .int) dX4_fits_34 rfl rfl rfl
  refine v_iload dX4_fits_22 rfl ?_
  refine v_i2l dX4_fits_24 ?_
  refine v_lconst (v := 0) dX4_fits_25 (by decide +kernel) ?_
  refine v_lconst (v := 1) dX4_fits_26 (by decide +kernel) ?_
  refine v_cpI (fun z hz => runT (as := [.long (a4).toInt64, .long (0 : Int64), .long (1 : Int64)]) dX4_fits_27 kt_X4_61 rfl rfl (Nat.le_of_ble_eq_true rfl) (Nat.le_of_ble_eq_true rfl) (ct_X4_in _ _ _  _) hz) (fun x4 => ?_)
  refine v_if_ne (tgt := 35) dX4_fits_30 (by decide) (fun _ => ?_) (fun _ => ?_)
  · skip
    refine v_aload_n dX4_fits_35 rfl rfl ?_
    refine v_getr dX4_fits_36 kf_X4_32 h.1 rfl ?_
    refine v_iload_n dX4_fits_39 rfl rfl ?_
    refine v_gd (fun g5 => ?_)
    refine v_iald dX4_fits_40 h.2.2.2.2.2.2.2.2.1 g5 rfl ?_
    refine v_if_ne (tgt := 47) dX4_fits_41 (by decide) (fun _ => ?_) (fun _ => ?_)
    · skip
      refine v_aload_n dX4_fits_47 rfl rfl ?_
      refine v_cw (fun z hz => runV (as := []) dX4_fits_48 kv_X4_170 rfl rfl (Nat.le_of_ble_eq_true rfl) (Nat.le_of_ble_eq_true rfl) (recvW h.1 rfl rfl) (ct_X4_keepAside _ h _) hz) (fun s6 => ?_)
      refine v_iconst (v := 0) dX4_fits_51 (by decide +kernel) ?_
      refine v_istore (L' := [(5, .int (0 : Int32)), (0, .ref b), (1, .int a1), (2, .int a2), (3, .int a3), (4, .int a4)]) dX4_fits_52 (by decide) rfl ?_
      refine v_bipush (v := -3) dX4_fits_54 (by decide +kernel) ?_
      refine v_istore (L' := [(6, .int (-3 : Int32)), (5, .int (0 : Int32)), (0, .ref b), (1, .int a1), (2, .int a2), (3, .int a3), (4, .int a4)]) dX4_fits_56 (by decide) rfl ?_
      refine v_iconst (v := 0) dX4_fits_58 (by decide +kernel) ?_
      refine v_istore (L' := [(7, .int (0 : Int32)), (6, .int (-3 : Int32)), (5, .int (0 : Int32)), (0, .ref b), (1, .int a1), (2, .int a2), (3, .int a3), (4, .int a4)]) dX4_fits_59 (by decide) rfl ?_
      refine v_pick [3, 4, 5, 6, 7, 2, 1, 0] rfl (wL_X4_fits_61 b a1 a2 a3 a4 h _ (fun e11 e12 s13 => ?_) FU _ _ _ _)
      refine v_iload dX4_fits_103 rfl ?_
      refine v_if_ne (tgt := 113) dX4_fits_105 (by decide) (fun _ => ?_) (fun _ => ?_)
      · skip
        refine v_iload dX4_fits_113 rfl ?_
        exact v_ret (ty := .int) dX4_fits_115 rfl rfl rfl
      refine v_iload dX4_fits_108 rfl ?_
      refine v_goto (tgt := 115) dX4_fits_110 (by decide) ?_
      exact v_ret (ty := .int) dX4_fits_115 rfl rfl rfl
    refine v_bipush (v := -11) dX4_fits_44 (by decide +kernel) ?_
    exact v_ret (ty := .int) dX4_fits_46 rfl rfl rfl
  refine v_iconst (v := -1) dX4_fits_33 (by decide +kernel) ?_
  exact v_ret (ty := .int) dX4_fits_34 rfl rfl rfl
theorem ct_X4_fits {SH : SHT} (b : Nat) (a1 : Int32) (a2 : Int32) (a3 : Int32) (a4 : Int32) (h : isModel SH b) (s0 : St) : CT yX4_fits mX4_fits 4 SH jI [.ref b, .int a1, .int a2, .int a3, .int a4] s0 (f_X4_fits b a1 a2 a3 a4 s0) := CT.of (by decide +kernel) rfl (fun E => Nat.le_of_ble_eq_true rfl) (w_X4_fits b a1 a2 a3 a4 h s0)
set_option maxHeartbeats 4000000 in
set_option maxRecDepth 100000 in
theorem wB_X4_common_6 {SH : SHT} (s0 : St) (rec : Int64 → Int64 → Option Int64) (hrec : ∀ (c1 : Int64) (c2 : Int64), VF mX4_common 0 SH (jQ s0) 6 [(4, .long c1), (6, .long c2)] [] s0 (rec c1 c2)) (K : Int64 → Option Int64) (hK : ∀ (e3 : Int64), VF mX4_common 0 SH (jQ s0) 31 [(4, .long e3)] [] s0 (K e3)) (c1 : Int64) (c2 : Int64) : VF mX4_common 0 SH (jQ s0) 6 [(4, .long c1), (6, .long c2)] [] s0 (B_X4_common_6 rec K c1 c2) := by
  unfold B_X4_common_6
  refine v_lload dX4_common_6 rfl ?_
  refine v_lconst (v := 0) dX4_common_8 (by decide +kernel) ?_
  refine v_lcmp dX4_common_9 ?_
  refine v_if_eq (tgt := 31) dX4_common_10 (by decide) (fun _ => ?_) (fun _ => ?_)
  · skip
    exact v_pick [0] rfl (hK _)
  refine v_lload dX4_common_13 rfl ?_
  refine v_lload dX4_common_15 rfl ?_
  refine v_lrem dX4_common_17 (fun _ => ?_)
  refine v_topl (fun x4 => ?_)
  refine v_lstore (L' := [(8, .long x4), (4, .long c1), (6, .long c2)]) dX4_common_18 (by decide) rfl ?_
  refine v_lload dX4_common_20 rfl ?_
  refine v_lstore (L' := [(4, .long c2), (8, .long x4), (6, .long c2)]) dX4_common_22 (by decide) rfl ?_
  refine v_lload dX4_common_24 rfl ?_
  refine v_lstore (L' := [(6, .long x4), (4, .long c2), (8, .long x4)]) dX4_common_26 (by decide) rfl ?_
  refine v_goto (tgt := 6) dX4_common_28 (by decide) ?_
  exact v_pick [1, 0] rfl (hrec _ _)
theorem wL_X4_common_6 {SH : SHT} (s0 : St) (K : Int64 → Option Int64) (hK : ∀ (e3 : Int64), VF mX4_common 0 SH (jQ s0) 31 [(4, .long e3)] [] s0 (K e3)) : ∀ (n : Nat) (c1 : Int64) (c2 : Int64), VF mX4_common 0 SH (jQ s0) 6 [(4, .long c1), (6, .long c2)] [] s0 (L_X4_common_6 K n c1 c2) := by
  intro n
  induction n with
  | zero => intros; exact v_none
  | succ n ih => intro c1 c2; exact wB_X4_common_6 s0 _ ih K hK c1 c2
set_option maxHeartbeats 4000000 in
set_option maxRecDepth 100000 in
theorem w_X4_common {SH : SHT} (a0 : Int64) (a2 : Int64) (s0 : St) : VF mX4_common 0 SH (jQ s0) 0 [(0, .long a0), (2, .long a2)] [] s0 (f_X4_common a0 a2) := by
  unfold f_X4_common
  refine v_lload_n dX4_common_0 rfl rfl ?_
  refine v_lstore (L' := [(4, .long a0), (0, .long a0), (2, .long a2)]) dX4_common_1 (by decide) rfl ?_
  refine v_lload_n dX4_common_3 rfl rfl ?_
  refine v_lstore (L' := [(6, .long a2), (4, .long a0), (0, .long a0), (2, .long a2)]) dX4_common_4 (by decide) rfl ?_
  refine v_pick [1, 0] rfl (wL_X4_common_6 s0 _ (fun e3 => ?_) FU _ _)
  refine v_lload dX4_common_31 rfl ?_
  exact v_lret dX4_common_33 rfl rfl
theorem ct_X4_common {SH : SHT} (a0 : Int64) (a2 : Int64) (s0 : St) : CT yX4_common mX4_common 0 SH (jQ s0) [.long a0, .long a2] s0 (f_X4_common a0 a2) := CT.of (by decide +kernel) rfl (fun E => Nat.le_of_ble_eq_true rfl) (w_X4_common a0 a2  s0)
set_option maxHeartbeats 4000000 in
set_option maxRecDepth 100000 in
theorem w_X4_partOf {SH : SHT} (a0 : Int64) (a2 : Int64) (a4 : Int32) (s0 : St) : VF mX4_partOf 1 SH (jQ s0) 0 [(0, .long a0), (2, .long a2), (4, .int a4)] [] s0 (f_X4_partOf a0 a2 a4) := by
  unfold f_X4_partOf
  refine v_iload dX4_partOf_0 rfl ?_
  refine v_bnK (fun K2 => ∀ (t1 : Int64), VF mX4_partOf 1 SH (jQ s0) 10 [(0, .long a0), (2, .long a2)] [.long t1] s0 (K2 t1)) (fun K2 hK2 => ?_) (fun t1 => ?_)
  · skip
    refine v_if_ne (tgt := 9) dX4_partOf_2 (by decide) (fun _ => ?_) (fun _ => ?_)
    · skip
      refine v_lload_n dX4_partOf_9 rfl rfl ?_
      exact v_pick [0, 1] rfl (hK2 _)
    refine v_lload_n dX4_partOf_5 rfl rfl ?_
    refine v_goto (tgt := 10) dX4_partOf_6 (by decide) ?_
    exact v_pick [0, 1] rfl (hK2 _)
  refine v_lload_n dX4_partOf_10 rfl rfl ?_
  refine v_lload_n dX4_partOf_11 rfl rfl ?_
  refine v_cpL (fun z hz => runT (as := [.long a0, .long a2]) dX4_partOf_12 kt_X4_206 rfl rfl (Nat.le_of_ble_eq_true rfl) (Nat.le_of_ble_eq_true rfl) (ct_X4_common _ _  _) hz) (fun x3 => ?_)
  refine v_ldiv dX4_partOf_15 (fun _ => ?_)
  exact v_lret dX4_partOf_16 rfl rfl
theorem ct_X4_partOf {SH : SHT} (a0 : Int64) (a2 : Int64) (a4 : Int32) (s0 : St) : CT yX4_partOf mX4_partOf 1 SH (jQ s0) [.long a0, .long a2, .int a4] s0 (f_X4_partOf a0 a2 a4) := CT.of (by decide +kernel) rfl (fun E => Nat.le_of_ble_eq_true rfl) (w_X4_partOf a0 a2 a4  s0)
set_option maxHeartbeats 4000000 in
set_option maxRecDepth 100000 in
theorem wB_X4_odds_46 {SH : SHT} (b : Nat) (a1 : Int32) (a2 : Int32) (a3 : Int32) (s0 : St) (h : isModel SH b) (rec : Int64 → Int64 → Int32 → Option Int64) (hrec : ∀ (c4 : Int64) (c5 : Int64) (c6 : Int32), VF mX4_odds 2 SH (jQ s0) 46 [(0, .ref b), (1, .int a1), (2, .int a2), (3, .int a3), (4, .long c4), (6, .long c5), (8, .int c6)] [] s0 (rec c4 c5 c6)) (K : Int64 → Int64 → Option Int64) (hK : ∀ (e7 : Int64) (e8 : Int64), VF mX4_odds 2 SH (jQ s0) 97 [(1, .int a1), (2, .int a2), (3, .int a3), (4, .long e7), (6, .long e8)] [] s0 (K e7 e8)) (c4 : Int64) (c5 : Int64) (c6 : Int32) : VF mX4_odds 2 SH (jQ s0) 46 [(0, .ref b), (1, .int a1), (2, .int a2), (3, .int a3), (4, .long c4), (6, .long c5), (8, .int c6)] [] s0 (B_X4_odds_46 rec b a1 a2 a3 s0 K c4 c5 c6) := by
  unfold B_X4_odds_46
  refine v_iload dX4_odds_46 rfl ?_
  refine v_iload_n dX4_odds_48 rfl rfl ?_
  refine v_icmp_ge (tgt := 97) dX4_odds_49 (by decide) (fun _ => ?_) (fun _ => ?_)
  · skip
    exact v_pick [1, 2, 3, 4, 5] rfl (hK _ _)
  refine v_lload dX4_odds_52 rfl ?_
  refine v_iload dX4_odds_54 rfl ?_
  refine v_iload_n dX4_odds_56 rfl rfl ?_
  refine v_bnK (fun K10 => ∀ (t9 : Int64), VF mX4_odds 2 SH (jQ s0) 80 [(0, .ref b), (1, .int a1), (2, .int a2), (3, .int a3), (6, .long c5), (8, .int c6)] [.long t9, .long c4] s0 (K10 t9)) (fun K10 hK10 => ?_) (fun t9 => ?_)
  · skip
    refine v_icmp_ge (tgt := 70) dX4_odds_57 (by decide) (fun _ => ?_) (fun _ => ?_)
    · skip
      refine v_bipush (v := 100) dX4_odds_70 (by decide +kernel) ?_
      refine v_aload_n dX4_odds_72 rfl rfl ?_
      refine v_getr dX4_odds_73 kf_X4_7 h.1 rfl ?_
      refine v_iconst (v := 3) dX4_odds_76 (by decide +kernel) ?_
      refine v_iald dX4_odds_77 h.2.1 (by decide +kernel) (j := 3) (by decide +kernel) ?_
      refine v_isub dX4_odds_78 ?_
      refine v_i2l dX4_odds_79 ?_
      exact v_pick [0, 1, 2, 3, 5, 6] rfl (hK10 _)
    refine v_aload_n dX4_odds_60 rfl rfl ?_
    refine v_getr dX4_odds_61 kf_X4_7 h.1 rfl ?_
    refine v_iconst (v := 3) dX4_odds_64 (by decide +kernel) ?_
    refine v_iald dX4_odds_65 h.2.1 (by decide +kernel) (j := 3) (by decide +kernel) ?_
    refine v_i2l dX4_odds_66 ?_
    refine v_goto (tgt := 80) dX4_odds_67 (by decide) ?_
    exact v_pick [0, 1, 2, 3, 5, 6] rfl (hK10 _)
  refine v_lmul dX4_odds_80 ?_
  refine v_topl (fun x11 => ?_)
  refine v_lstore (L' := [(4, .long x11), (0, .ref b), (1, .int a1), (2, .int a2), (3, .int a3), (6, .long c5), (8, .int c6)]) dX4_odds_81 (by decide) rfl ?_
  refine v_lload dX4_odds_83 rfl ?_
  refine v_ldc2 dX4_odds_85 kcL_X4_212 ?_
  refine v_lmul dX4_odds_88 ?_
  refine v_topl (fun x12 => ?_)
  refine v_lstore (L' := [(6, .long x12), (4, .long x11), (0, .ref b), (1, .int a1), (2, .int a2), (3, .int a3), (8, .int c6)]) dX4_odds_89 (by decide) rfl ?_
  refine v_iinc (v := (c6 + (1 : Int32))) (L' := [(8, .int (c6 + (1 : Int32))), (6, .long x12), (4, .long x11), (0, .ref b), (1, .int a1), (2, .int a2), (3, .int a3)]) dX4_odds_91 rfl rfl (by decide) rfl ?_
  refine v_goto (tgt := 46) dX4_odds_94 (by decide) ?_
  exact v_pick [3, 4, 5, 6, 2, 1, 0] rfl (hrec _ _ _)
theorem wL_X4_odds_46 {SH : SHT} (b : Nat) (a1 : Int32) (a2 : Int32) (a3 : Int32) (s0 : St) (h : isModel SH b) (K : Int64 → Int64 → Option Int64) (hK : ∀ (e7 : Int64) (e8 : Int64), VF mX4_odds 2 SH (jQ s0) 97 [(1, .int a1), (2, .int a2), (3, .int a3), (4, .long e7), (6, .long e8)] [] s0 (K e7 e8)) : ∀ (n : Nat) (c4 : Int64) (c5 : Int64) (c6 : Int32), VF mX4_odds 2 SH (jQ s0) 46 [(0, .ref b), (1, .int a1), (2, .int a2), (3, .int a3), (4, .long c4), (6, .long c5), (8, .int c6)] [] s0 (L_X4_odds_46 b a1 a2 a3 s0 K n c4 c5 c6) := by
  intro n
  induction n with
  | zero => intros; exact v_none
  | succ n ih => intro c4 c5 c6; exact wB_X4_odds_46 b a1 a2 a3 s0 h _ ih K hK c4 c5 c6
set_option maxHeartbeats 4000000 in
set_option maxRecDepth 100000 in
theorem wB_X4_odds_103 {SH : SHT} (b : Nat) (a1 : Int32) (a2 : Int32) (a3 : Int32) (e7 : Int64) (e8 : Int64) (s0 : St) (h : isModel SH b) (rec : Int64 → Int32 → Option Int64) (hrec : ∀ (c13 : Int64) (c14 : Int32), VF mX4_odds 2 SH (jQ s0) 103 [(1, .int a1), (2, .int a2), (3, .int a3), (4, .long e7), (6, .long e8), (8, .long c13), (10, .int c14)] [] s0 (rec c13 c14)) (K : Int64 → Option Int64) (hK : ∀ (e15 : Int64), VF mX4_odds 2 SH (jQ s0) 131 [(3, .int a3), (4, .long e7), (6, .long e8), (8, .long e15)] [] s0 (K e15)) (c13 : Int64) (c14 : Int32) : VF mX4_odds 2 SH (jQ s0) 103 [(1, .int a1), (2, .int a2), (3, .int a3), (4, .long e7), (6, .long e8), (8, .long c13), (10, .int c14)] [] s0 (B_X4_odds_103 rec a1 a2 a3 e7 e8 K c13 c14) := by
  unfold B_X4_odds_103
  refine v_iload dX4_odds_103 rfl ?_
  refine v_iload_n dX4_odds_105 rfl rfl ?_
  refine v_icmp_gt (tgt := 131) dX4_odds_106 (by decide) (fun _ => ?_) (fun _ => ?_)
  · skip
    exact v_pick [2, 3, 4, 5] rfl (hK _)
  refine v_lload dX4_odds_109 rfl ?_
  refine v_iload_n dX4_odds_111 rfl rfl ?_
  refine v_iload_n dX4_odds_112 rfl rfl ?_
  refine v_isub dX4_odds_113 ?_
  refine v_iload dX4_odds_114 rfl ?_
  refine v_iadd dX4_odds_116 ?_
  refine v_i2l dX4_odds_117 ?_
  refine v_lmul dX4_odds_118 ?_
  refine v_iload dX4_odds_119 rfl ?_
  refine v_i2l dX4_odds_121 ?_
  refine v_ldiv dX4_odds_122 (fun _ => ?_)
  refine v_topl (fun x16 => ?_)
  refine v_lstore (L' := [(8, .long x16), (1, .int a1), (2, .int a2), (3, .int a3), (4, .long e7), (6, .long e8), (10, .int c14)]) dX4_odds_123 (by decide) rfl ?_
  refine v_iinc (v := (c14 + (1 : Int32))) (L' := [(10, .int (c14 + (1 : Int32))), (8, .long x16), (1, .int a1), (2, .int a2), (3, .int a3), (4, .long e7), (6, .long e8)]) dX4_odds_125 rfl rfl (by decide) rfl ?_
  refine v_goto (tgt := 103) dX4_odds_128 (by decide) ?_
  exact v_pick [2, 3, 4, 5, 6, 1, 0] rfl (hrec _ _)
theorem wL_X4_odds_103 {SH : SHT} (b : Nat) (a1 : Int32) (a2 : Int32) (a3 : Int32) (e7 : Int64) (e8 : Int64) (s0 : St) (h : isModel SH b) (K : Int64 → Option Int64) (hK : ∀ (e15 : Int64), VF mX4_odds 2 SH (jQ s0) 131 [(3, .int a3), (4, .long e7), (6, .long e8), (8, .long e15)] [] s0 (K e15)) : ∀ (n : Nat) (c13 : Int64) (c14 : Int32), VF mX4_odds 2 SH (jQ s0) 103 [(1, .int a1), (2, .int a2), (3, .int a3), (4, .long e7), (6, .long e8), (8, .long c13), (10, .int c14)] [] s0 (L_X4_odds_103 a1 a2 a3 e7 e8 K n c13 c14) := by
  intro n
  induction n with
  | zero => intros; exact v_none
  | succ n ih => intro c13 c14; exact wB_X4_odds_103 b a1 a2 a3 e7 e8 s0 h _ ih K hK c13 c14
set_option maxHeartbeats 4000000 in
set_option maxRecDepth 100000 in
theorem w_X4_odds {SH : SHT} (b : Nat) (a1 : Int32) (a2 : Int32) (a3 : Int32) (h : isModel SH b) (s0 : St) : VF mX4_odds 2 SH (jQ s0) 0 [(0, .ref b), (1, .int a1), (2, .int a2), (3, .int a3)] [] s0 (f_X4_odds b a1 a2 a3 s0) := by
  unfold f_X4_odds
  refine v_iload_n dX4_odds_0 rfl rfl ?_
  refine v_i2l dX4_odds_1 ?_
  refine v_lconst (v := 0) dX4_odds_2 (by decide +kernel) ?_
  refine v_ldc2 dX4_odds_3 kcL_X4_210 ?_
  refine v_cpI (fun z hz => runT (as := [.long (a1).toInt64, .long (0 : Int64), .long (8 : Int64)]) dX4_odds_6 kt_X4_61 rfl rfl (Nat.le_of_ble_eq_true rfl) (Nat.le_of_ble_eq_true rfl) (ct_X4_in _ _ _  _) hz) (fun x1 => ?_)
  refine v_if_eq (tgt := 33) dX4_odds_9 (by decide) (fun _ => ?_) (fun _ => ?_)
  · skip
    refine v_ldc2 dX4_odds_33 kcL_X4_143 ?_
    exact v_lret dX4_odds_36 rfl rfl
  refine v_iload_n dX4_odds_12 rfl rfl ?_
  refine v_i2l dX4_odds_13 ?_
  refine v_lconst (v := 0) dX4_odds_14 (by decide +kernel) ?_
  refine v_iload_n dX4_odds_15 rfl rfl ?_
  refine v_i2l dX4_odds_16 ?_
  refine v_cpI (fun z hz => runT (as := [.long (a2).toInt64, .long (0 : Int64), .long (a1).toInt64]) dX4_odds_17 kt_X4_61 rfl rfl (Nat.le_of_ble_eq_true rfl) (Nat.le_of_ble_eq_true rfl) (ct_X4_in _ _ _  _) hz) (fun x2 => ?_)
  refine v_if_eq (tgt := 33) dX4_odds_20 (by decide) (fun _ => ?_) (fun _ => ?_)
  · skip
    refine v_ldc2 dX4_odds_33 kcL_X4_143 ?_
    exact v_lret dX4_odds_36 rfl rfl
  refine v_iload_n dX4_odds_23 rfl rfl ?_
  refine v_i2l dX4_odds_24 ?_
  refine v_lconst (v := 0) dX4_odds_25 (by decide +kernel) ?_
  refine v_lconst (v := 1) dX4_odds_26 (by decide +kernel) ?_
  refine v_cpI (fun z hz => runT (as := [.long (a3).toInt64, .long (0 : Int64), .long (1 : Int64)]) dX4_odds_27 kt_X4_61 rfl rfl (Nat.le_of_ble_eq_true rfl) (Nat.le_of_ble_eq_true rfl) (ct_X4_in _ _ _  _) hz) (fun x3 => ?_)
  refine v_if_ne (tgt := 37) dX4_odds_30 (by decide) (fun _ => ?_) (fun _ => ?_)
  · skip
    refine v_lconst (v := 1) dX4_odds_37 (by decide +kernel) ?_
    refine v_lstore (L' := [(4, .long (1 : Int64)), (0, .ref b), (1, .int a1), (2, .int a2), (3, .int a3)]) dX4_odds_38 (by decide) rfl ?_
    refine v_lconst (v := 1) dX4_odds_40 (by decide +kernel) ?_
    refine v_lstore (L' := [(6, .long (1 : Int64)), (4, .long (1 : Int64)), (0, .ref b), (1, .int a1), (2, .int a2), (3, .int a3)]) dX4_odds_41 (by decide) rfl ?_
    refine v_iconst (v := 0) dX4_odds_43 (by decide +kernel) ?_
    refine v_istore (L' := [(8, .int (0 : Int32)), (6, .long (1 : Int64)), (4, .long (1 : Int64)), (0, .ref b), (1, .int a1), (2, .int a2), (3, .int a3)]) dX4_odds_44 (by decide) rfl ?_
    refine v_pick [3, 4, 5, 6, 2, 1, 0] rfl (wL_X4_odds_46 b a1 a2 a3 s0 h _ (fun e7 e8 => ?_) FU _ _ _)
    refine v_lconst (v := 1) dX4_odds_97 (by decide +kernel) ?_
    refine v_lstore (L' := [(8, .long (1 : Int64)), (1, .int a1), (2, .int a2), (3, .int a3), (4, .long e7), (6, .long e8)]) dX4_odds_98 (by decide) rfl ?_
    refine v_iconst (v := 1) dX4_odds_100 (by decide +kernel) ?_
    refine v_istore (L' := [(10, .int (1 : Int32)), (8, .long (1 : Int64)), (1, .int a1), (2, .int a2), (3, .int a3), (4, .long e7), (6, .long e8)]) dX4_odds_101 (by decide) rfl ?_
    refine v_pick [2, 3, 4, 5, 6, 1, 0] rfl (wL_X4_odds_103 b a1 a2 a3 e7 e8 s0 h _ (fun e15 => ?_) FU _ _)
    refine v_lload dX4_odds_131 rfl ?_
    refine v_lload dX4_odds_133 rfl ?_
    refine v_lmul dX4_odds_135 ?_
    refine v_lload dX4_odds_136 rfl ?_
    refine v_iload_n dX4_odds_138 rfl rfl ?_
    refine v_cpL (fun z hz => runT (as := [.long (e15 * e7), .long e8, .int a3]) dX4_odds_139 kt_X4_214 rfl rfl (Nat.le_of_ble_eq_true rfl) (Nat.le_of_ble_eq_true rfl) (ct_X4_partOf _ _ _  _) hz) (fun x17 => ?_)
    exact v_lret dX4_odds_142 rfl rfl
  refine v_ldc2 dX4_odds_33 kcL_X4_143 ?_
  exact v_lret dX4_odds_36 rfl rfl
theorem ct_X4_odds {SH : SHT} (b : Nat) (a1 : Int32) (a2 : Int32) (a3 : Int32) (h : isModel SH b) (s0 : St) : CT yX4_odds mX4_odds 2 SH (jQ s0) [.ref b, .int a1, .int a2, .int a3] s0 (f_X4_odds b a1 a2 a3 s0) := CT.of (by decide +kernel) rfl (fun E => Nat.le_of_ble_eq_true rfl) (w_X4_odds b a1 a2 a3 h s0)
set_option maxHeartbeats 4000000 in
set_option maxRecDepth 100000 in
theorem w_X4_hope {SH : SHT} (b : Nat) (a1 : Int32) (a2 : Int32) (h : isModel SH b) (s0 : St) : VF mX4_hope 2 SH (jQ s0) 0 [(0, .ref b), (1, .int a1), (2, .int a2)] [] s0 (f_X4_hope b a1 a2 s0) := by
  unfold f_X4_hope
  refine v_iload_n dX4_hope_0 rfl rfl ?_
  refine v_i2l dX4_hope_1 ?_
  refine v_lconst (v := 0) dX4_hope_2 (by decide +kernel) ?_
  refine v_ldc2 dX4_hope_3 kcL_X4_116 ?_
  refine v_cpI (fun z hz => runT (as := [.long (a1).toInt64, .long (0 : Int64), .long (99 : Int64)]) dX4_hope_6 kt_X4_61 rfl rfl (Nat.le_of_ble_eq_true rfl) (Nat.le_of_ble_eq_true rfl) (ct_X4_in _ _ _  _) hz) (fun x1 => ?_)
  refine v_if_eq (tgt := 42) dX4_hope_9 (by decide) (fun _ => ?_) (fun _ => ?_)
  · skip
    refine v_ldc2 dX4_hope_42 kcL_X4_143 ?_
    exact v_lret dX4_hope_45 rfl rfl
  refine v_iload_n dX4_hope_12 rfl rfl ?_
  refine v_i2l dX4_hope_13 ?_
  refine v_lconst (v := 0) dX4_hope_14 (by decide +kernel) ?_
  refine v_lconst (v := 1) dX4_hope_15 (by decide +kernel) ?_
  refine v_cpI (fun z hz => runT (as := [.long (a2).toInt64, .long (0 : Int64), .long (1 : Int64)]) dX4_hope_16 kt_X4_61 rfl rfl (Nat.le_of_ble_eq_true rfl) (Nat.le_of_ble_eq_true rfl) (ct_X4_in _ _ _  _) hz) (fun x2 => ?_)
  refine v_if_eq (tgt := 42) dX4_hope_19 (by decide) (fun _ => ?_) (fun _ => ?_)
  · skip
    refine v_ldc2 dX4_hope_42 kcL_X4_143 ?_
    exact v_lret dX4_hope_45 rfl rfl
  refine v_iload_n dX4_hope_22 rfl rfl ?_
  refine v_i2l dX4_hope_23 ?_
  refine v_aload_n dX4_hope_24 rfl rfl ?_
  refine v_getr dX4_hope_25 kf_X4_7 h.1 rfl ?_
  refine v_iconst (v := 3) dX4_hope_28 (by decide +kernel) ?_
  refine v_iald dX4_hope_29 h.2.1 (by decide +kernel) (j := 3) (by decide +kernel) ?_
  refine v_i2l dX4_hope_30 ?_
  refine v_lmul dX4_hope_31 ?_
  refine v_ldc2 dX4_hope_32 kcL_X4_212 ?_
  refine v_iload_n dX4_hope_35 rfl rfl ?_
  refine v_cpL (fun z hz => runT (as := [.long ((a1).toInt64 * ((gA s0 (b + 1) 3)).toInt64), .long (100 : Int64), .int a2]) dX4_hope_36 kt_X4_214 rfl rfl (Nat.le_of_ble_eq_true rfl) (Nat.le_of_ble_eq_true rfl) (ct_X4_partOf _ _ _  _) hz) (fun x3 => ?_)
  refine v_goto (tgt := 45) dX4_hope_39 (by decide) ?_
  exact v_lret dX4_hope_45 rfl rfl
theorem ct_X4_hope {SH : SHT} (b : Nat) (a1 : Int32) (a2 : Int32) (h : isModel SH b) (s0 : St) : CT yX4_hope mX4_hope 2 SH (jQ s0) [.ref b, .int a1, .int a2] s0 (f_X4_hope b a1 a2 s0) := CT.of (by decide +kernel) rfl (fun E => Nat.le_of_ble_eq_true rfl) (w_X4_hope b a1 a2 h s0)
set_option maxHeartbeats 4000000 in
set_option maxRecDepth 100000 in
theorem wB_X4_feed_32 {SH : SHT} (b : Nat) (a1 : Int64) (a3 : Int32) (h : isModel SH b) (rec : Int32 → St → Option (Int32 × St)) (hrec : ∀ (c2 : Int32) (s3 : St), VF mX4_feed 1 SH jI 32 [(0, .ref b), (1, .long a1), (3, .int a3), (4, .int c2)] [] s3 (rec c2 s3)) (K : St → Option (Int32 × St)) (hK : ∀ (s4 : St), VF mX4_feed 1 SH jI 75 [(0, .ref b)] [] s4 (K s4)) (c2 : Int32) (s3 : St) : VF mX4_feed 1 SH jI 32 [(0, .ref b), (1, .long a1), (3, .int a3), (4, .int c2)] [] s3 (B_X4_feed_32 rec b a1 a3 K c2 s3) := by
  unfold B_X4_feed_32
  refine v_iload dX4_feed_32 rfl ?_
  refine v_iload_n dX4_feed_34 rfl rfl ?_
  refine v_icmp_ge (tgt := 75) dX4_feed_35 (by decide) (fun _ => ?_) (fun _ => ?_)
  · skip
    exact v_pick [0] rfl (hK _)
  refine v_aload_n dX4_feed_38 rfl rfl ?_
  refine v_getr dX4_feed_39 kf_X4_22 h.1 rfl ?_
  refine v_aload_n dX4_feed_42 rfl rfl ?_
  refine v_geti dX4_feed_43 kf_X4_218 h.1 rfl ?_
  refine v_lload_n dX4_feed_46 rfl rfl ?_
  refine v_bipush (v := 8) dX4_feed_47 (by decide +kernel) ?_
  refine v_iload dX4_feed_49 rfl ?_
  refine v_imul dX4_feed_51 ?_
  refine v_lshr dX4_feed_52 ?_
  refine v_ldc2 dX4_feed_53 kcL_X4_221 ?_
  refine v_land dX4_feed_56 ?_
  refine v_l2i dX4_feed_57 ?_
  refine v_gd (fun g5 => ?_)
  refine v_iast dX4_feed_58 h.2.2.2.2.2.1 g5 rfl (v_st fun s6 => ?_)
  refine v_aload_n dX4_feed_59 rfl rfl ?_
  refine v_dup dX4_feed_60 rfl ?_
  refine v_geti dX4_feed_61 kf_X4_218 h.1 rfl ?_
  refine v_iconst (v := 1) dX4_feed_64 (by decide +kernel) ?_
  refine v_iadd dX4_feed_65 ?_
  refine v_puti dX4_feed_66 kp_X4_218 h.1 rfl rfl rfl (v_st fun s7 => ?_)
  refine v_iinc (v := (c2 + (1 : Int32))) (L' := [(4, .int (c2 + (1 : Int32))), (0, .ref b), (1, .long a1), (3, .int a3)]) dX4_feed_69 rfl rfl (by decide) rfl ?_
  refine v_goto (tgt := 32) dX4_feed_72 (by decide) ?_
  exact v_pick [1, 2, 3, 0] rfl (hrec _ _)
theorem wL_X4_feed_32 {SH : SHT} (b : Nat) (a1 : Int64) (a3 : Int32) (h : isModel SH b) (K : St → Option (Int32 × St)) (hK : ∀ (s4 : St), VF mX4_feed 1 SH jI 75 [(0, .ref b)] [] s4 (K s4)) : ∀ (n : Nat) (c2 : Int32) (s3 : St), VF mX4_feed 1 SH jI 32 [(0, .ref b), (1, .long a1), (3, .int a3), (4, .int c2)] [] s3 (L_X4_feed_32 b a1 a3 K n c2 s3) := by
  intro n
  induction n with
  | zero => intros; exact v_none
  | succ n ih => intro c2 s3; exact wB_X4_feed_32 b a1 a3 h _ ih K hK c2 s3
set_option maxHeartbeats 4000000 in
set_option maxRecDepth 100000 in
theorem w_X4_feed {SH : SHT} (b : Nat) (a1 : Int64) (a3 : Int32) (h : isModel SH b) (s0 : St) : VF mX4_feed 1 SH jI 0 [(0, .ref b), (1, .long a1), (3, .int a3)] [] s0 (f_X4_feed b a1 a3 s0) := by
  unfold f_X4_feed
  refine v_iload_n dX4_feed_0 rfl rfl ?_
  refine v_i2l dX4_feed_1 ?_
  refine v_lconst (v := 1) dX4_feed_2 (by decide +kernel) ?_
  refine v_ldc2 dX4_feed_3 kcL_X4_210 ?_
  refine v_cpI (fun z hz => runT (as := [.long (a3).toInt64, .long (1 : Int64), .long (8 : Int64)]) dX4_feed_6 kt_X4_61 rfl rfl (Nat.le_of_ble_eq_true rfl) (Nat.le_of_ble_eq_true rfl) (ct_X4_in _ _ _  _) hz) (fun x1 => ?_)
  refine v_if_ne (tgt := 14) dX4_feed_9 (by decide) (fun _ => ?_) (fun _ => ?_)
  · skip
    refine v_aload_n dX4_feed_14 rfl rfl ?_
    refine v_geti dX4_feed_15 kf_X4_218 h.1 rfl ?_
    refine v_iload_n dX4_feed_18 rfl rfl ?_
    refine v_iadd dX4_feed_19 ?_
    refine v_sipush (v := 200) dX4_feed_20 (by decide +kernel) ?_
    refine v_icmp_le (tgt := 29) dX4_feed_23 (by decide) (fun _ => ?_) (fun _ => ?_)
    · skip
      refine v_iconst (v := 0) dX4_feed_29 (by decide +kernel) ?_
      refine v_istore (L' := [(4, .int (0 : Int32)), (0, .ref b), (1, .long a1), (3, .int a3)]) dX4_feed_30 (by decide) rfl ?_
      refine v_pick [1, 2, 3, 0] rfl (wL_X4_feed_32 b a1 a3 h _ (fun s4 => ?_) FU _ _)
      refine v_aload_n dX4_feed_75 rfl rfl ?_
      refine v_geti dX4_feed_76 kf_X4_218 h.1 rfl ?_
      exact v_ret (ty := .int) dX4_feed_79 rfl rfl rfl
    refine v_bipush (v := -2) dX4_feed_26 (by decide +kernel) ?_
    exact v_ret (ty := .int) dX4_feed_28 rfl rfl rfl
  refine v_iconst (v := -1) dX4_feed_12 (by decide +kernel) ?_
  exact v_ret (ty := .int) dX4_feed_13 rfl rfl rfl
theorem ct_X4_feed {SH : SHT} (b : Nat) (a1 : Int64) (a3 : Int32) (h : isModel SH b) (s0 : St) : CT yX4_feed mX4_feed 1 SH jI [.ref b, .long a1, .int a3] s0 (f_X4_feed b a1 a3 s0) := CT.of (by decide +kernel) rfl (fun E => Nat.le_of_ble_eq_true rfl) (w_X4_feed b a1 a3 h s0)
set_option maxHeartbeats 4000000 in
set_option maxRecDepth 100000 in
theorem w_X4_isRow {SH : SHT} (b : Nat) (a1 : Int32) (a2 : Int32) (h : isModel SH b) (s0 : St) : VF mX4_isRow 1 SH (jP s0) 0 [(0, .ref b), (1, .int a1), (2, .int a2)] [] s0 (f_X4_isRow b a1 a2 s0) := by
  unfold f_X4_isRow
  refine v_aload_n dX4_isRow_0 rfl rfl ?_
  refine v_geti dX4_isRow_1 kf_X4_223 h.1 rfl ?_
  refine v_aload_n dX4_isRow_4 rfl rfl ?_
  refine v_geti dX4_isRow_5 kf_X4_218 h.1 rfl ?_
  refine v_icmp_ge (tgt := 35) dX4_isRow_8 (by decide) (fun _ => ?_) (fun _ => ?_)
  · skip
    refine v_iconst (v := 0) dX4_isRow_35 (by decide +kernel) ?_
    exact v_ret (ty := .boolean) dX4_isRow_36 rfl rfl (by decide +kernel)
  refine v_aload_n dX4_isRow_11 rfl rfl ?_
  refine v_getr dX4_isRow_12 kf_X4_22 h.1 rfl ?_
  refine v_aload_n dX4_isRow_15 rfl rfl ?_
  refine v_geti dX4_isRow_16 kf_X4_223 h.1 rfl ?_
  refine v_gd (fun g1 => ?_)
  refine v_iald dX4_isRow_19 h.2.2.2.2.2.1 g1 rfl ?_
  refine v_i2l dX4_isRow_20 ?_
  refine v_iload_n dX4_isRow_21 rfl rfl ?_
  refine v_i2l dX4_isRow_22 ?_
  refine v_iload_n dX4_isRow_23 rfl rfl ?_
  refine v_i2l dX4_isRow_24 ?_
  refine v_cpI (fun z hz => runT (as := [.long ((gA s0 (b + 5) (ix (gF s0 b 8)))).toInt64, .long (a1).toInt64, .long (a2).toInt64]) dX4_isRow_25 kt_X4_61 rfl rfl (Nat.le_of_ble_eq_true rfl) (Nat.le_of_ble_eq_true rfl) (ct_X4_in _ _ _  _) hz) (fun x2 => ?_)
  refine v_if_eq (tgt := 35) dX4_isRow_28 (by decide) (fun _ => ?_) (fun _ => ?_)
  · skip
    refine v_iconst (v := 0) dX4_isRow_35 (by decide +kernel) ?_
    exact v_ret (ty := .boolean) dX4_isRow_36 rfl rfl (by decide +kernel)
  refine v_iconst (v := 1) dX4_isRow_31 (by decide +kernel) ?_
  refine v_goto (tgt := 36) dX4_isRow_32 (by decide) ?_
  exact v_ret (ty := .boolean) dX4_isRow_36 rfl rfl (by decide +kernel)
theorem ct_X4_isRow {SH : SHT} (b : Nat) (a1 : Int32) (a2 : Int32) (h : isModel SH b) (s0 : St) : CT yX4_isRow mX4_isRow 1 SH (jP s0) [.ref b, .int a1, .int a2] s0 (f_X4_isRow b a1 a2 s0) := CT.of (by decide +kernel) rfl (fun E => Nat.le_of_ble_eq_true rfl) (w_X4_isRow b a1 a2 h s0)
set_option maxHeartbeats 4000000 in
set_option maxRecDepth 100000 in
theorem wB_X4_wordThere_30 {SH : SHT} (b : Nat) (s0 : St) (c1 : Int32) (h : isModel SH b) (rec : Int32 → Int32 → Option Int32) (hrec : ∀ (c4 : Int32) (c5 : Int32), VF mX4_wordThere 0 SH (jP s0) 30 [(0, .ref b), (1, .int c1), (2, .int c4), (3, .int c5)] [] s0 (rec c4 c5)) (K : Int32 → Option Int32) (hK : ∀ (e6 : Int32), VF mX4_wordThere 0 SH (jP s0) 95 [(0, .ref b), (1, .int c1), (2, .int e6)] [] s0 (K e6)) (c4 : Int32) (c5 : Int32) : VF mX4_wordThere 0 SH (jP s0) 30 [(0, .ref b), (1, .int c1), (2, .int c4), (3, .int c5)] [] s0 (B_X4_wordThere_30 rec b s0 c1 K c4 c5) := by
  unfold B_X4_wordThere_30
  refine v_iload_n dX4_wordThere_30 rfl rfl ?_
  refine v_bipush (v := 8) dX4_wordThere_31 (by decide +kernel) ?_
  refine v_icmp_ge (tgt := 95) dX4_wordThere_33 (by decide) (fun _ => ?_) (fun _ => ?_)
  · skip
    exact v_pick [0, 1, 2] rfl (hK _)
  refine v_iload_n dX4_wordThere_36 rfl rfl ?_
  refine v_if_eq (tgt := 95) dX4_wordThere_37 (by decide) (fun _ => ?_) (fun _ => ?_)
  · skip
    exact v_pick [0, 1, 2] rfl (hK _)
  refine v_aload_n dX4_wordThere_40 rfl rfl ?_
  refine v_getr dX4_wordThere_41 kf_X4_25 h.1 rfl ?_
  refine v_bipush (v := 8) dX4_wordThere_44 (by decide +kernel) ?_
  refine v_iload_n dX4_wordThere_46 rfl rfl ?_
  refine v_imul dX4_wordThere_47 ?_
  refine v_iload_n dX4_wordThere_48 rfl rfl ?_
  refine v_iadd dX4_wordThere_49 ?_
  refine v_gd (fun g7 => ?_)
  refine v_cald dX4_wordThere_50 h.2.2.2.2.2.2.1 g7 rfl ?_
  refine v_aload_n dX4_wordThere_51 rfl rfl ?_
  refine v_geti dX4_wordThere_52 kf_X4_226 h.1 rfl ?_
  refine v_iload_n dX4_wordThere_55 rfl rfl ?_
  refine v_iadd dX4_wordThere_56 ?_
  refine v_aload_n dX4_wordThere_57 rfl rfl ?_
  refine v_geti dX4_wordThere_58 kf_X4_223 h.1 rfl ?_
  refine v_bnK (fun K9 => ∀ (t8 : Int32), VF mX4_wordThere 0 SH (jP s0) 80 [(0, .ref b), (1, .int c1), (3, .int c5)] [.int t8, .int (gA s0 (b + 6) (ix (((8 : Int32) * c1) + c5)))] s0 (K9 t8)) (fun K9 hK9 => ?_) (fun t8 => ?_)
  · skip
    refine v_icmp_ge (tgt := 78) dX4_wordThere_61 (by decide) (fun _ => ?_) (fun _ => ?_)
    · skip
      refine v_bipush (v := 32) dX4_wordThere_78 (by decide +kernel) ?_
      exact v_pick [0, 1, 3] rfl (hK9 _)
    refine v_aload_n dX4_wordThere_64 rfl rfl ?_
    refine v_getr dX4_wordThere_65 kf_X4_22 h.1 rfl ?_
    refine v_aload_n dX4_wordThere_68 rfl rfl ?_
    refine v_geti dX4_wordThere_69 kf_X4_226 h.1 rfl ?_
    refine v_iload_n dX4_wordThere_72 rfl rfl ?_
    refine v_iadd dX4_wordThere_73 ?_
    refine v_gd (fun g10 => ?_)
    refine v_iald dX4_wordThere_74 h.2.2.2.2.2.1 g10 rfl ?_
    refine v_goto (tgt := 80) dX4_wordThere_75 (by decide) ?_
    exact v_pick [0, 1, 3] rfl (hK9 _)
  refine v_bnK (fun K12 => ∀ (t11 : Int32), VF mX4_wordThere 0 SH (jP s0) 88 [(0, .ref b), (1, .int c1), (3, .int c5)] [.int t11] s0 (K12 t11)) (fun K12 hK12 => ?_) (fun t11 => ?_)
  · skip
    refine v_icmp_ne (tgt := 87) dX4_wordThere_80 (by decide) (fun _ => ?_) (fun _ => ?_)
    · skip
      refine v_iconst (v := 0) dX4_wordThere_87 (by decide +kernel) ?_
      exact v_pick [0, 1, 2] rfl (hK12 _)
    refine v_iconst (v := 1) dX4_wordThere_83 (by decide +kernel) ?_
    refine v_goto (tgt := 88) dX4_wordThere_84 (by decide) ?_
    exact v_pick [0, 1, 2] rfl (hK12 _)
  refine v_istore_n (L' := [(2, .int t11), (0, .ref b), (1, .int c1), (3, .int c5)]) dX4_wordThere_88 rfl (by decide) rfl ?_
  refine v_iinc (v := (c5 + (1 : Int32))) (L' := [(3, .int (c5 + (1 : Int32))), (2, .int t11), (0, .ref b), (1, .int c1)]) dX4_wordThere_89 rfl rfl (by decide) rfl ?_
  refine v_goto (tgt := 30) dX4_wordThere_92 (by decide) ?_
  exact v_pick [2, 3, 1, 0] rfl (hrec _ _)
theorem wL_X4_wordThere_30 {SH : SHT} (b : Nat) (s0 : St) (c1 : Int32) (h : isModel SH b) (K : Int32 → Option Int32) (hK : ∀ (e6 : Int32), VF mX4_wordThere 0 SH (jP s0) 95 [(0, .ref b), (1, .int c1), (2, .int e6)] [] s0 (K e6)) : ∀ (n : Nat) (c4 : Int32) (c5 : Int32), VF mX4_wordThere 0 SH (jP s0) 30 [(0, .ref b), (1, .int c1), (2, .int c4), (3, .int c5)] [] s0 (L_X4_wordThere_30 b s0 c1 K n c4 c5) := by
  intro n
  induction n with
  | zero => intros; exact v_none
  | succ n ih => intro c4 c5; exact wB_X4_wordThere_30 b s0 c1 h _ ih K hK c4 c5
set_option maxHeartbeats 4000000 in
set_option maxRecDepth 100000 in
theorem wB_X4_wordThere_2 {SH : SHT} (b : Nat) (s0 : St) (h : isModel SH b) (rec : Int32 → Option Int32) (hrec : ∀ (c1 : Int32), VF mX4_wordThere 0 SH (jP s0) 2 [(0, .ref b), (1, .int c1)] [] s0 (rec c1)) (c1 : Int32) : VF mX4_wordThere 0 SH (jP s0) 2 [(0, .ref b), (1, .int c1)] [] s0 (B_X4_wordThere_2 rec b s0 c1) := by
  unfold B_X4_wordThere_2
  refine v_iload_n dX4_wordThere_2 rfl rfl ?_
  refine v_bipush (v := 16) dX4_wordThere_3 (by decide +kernel) ?_
  refine v_icmp_ge (tgt := 107) dX4_wordThere_5 (by decide) (fun _ => ?_) (fun _ => ?_)
  · skip
    refine v_iconst (v := -1) dX4_wordThere_107 (by decide +kernel) ?_
    exact v_ret (ty := .int) dX4_wordThere_108 rfl rfl rfl
  refine v_aload_n dX4_wordThere_8 rfl rfl ?_
  refine v_geti dX4_wordThere_9 kf_X4_223 h.1 rfl ?_
  refine v_aload_n dX4_wordThere_12 rfl rfl ?_
  refine v_geti dX4_wordThere_13 kf_X4_226 h.1 rfl ?_
  refine v_isub dX4_wordThere_16 ?_
  refine v_bipush (v := 8) dX4_wordThere_17 (by decide +kernel) ?_
  refine v_bnK (fun K3 => ∀ (t2 : Int32), VF mX4_wordThere 0 SH (jP s0) 27 [(0, .ref b), (1, .int c1)] [.int t2] s0 (K3 t2)) (fun K3 hK3 => ?_) (fun t2 => ?_)
  · skip
    refine v_icmp_gt (tgt := 26) dX4_wordThere_19 (by decide) (fun _ => ?_) (fun _ => ?_)
    · skip
      refine v_iconst (v := 0) dX4_wordThere_26 (by decide +kernel) ?_
      exact v_pick [0, 1] rfl (hK3 _)
    refine v_iconst (v := 1) dX4_wordThere_22 (by decide +kernel) ?_
    refine v_goto (tgt := 27) dX4_wordThere_23 (by decide) ?_
    exact v_pick [0, 1] rfl (hK3 _)
  refine v_istore_n (L' := [(2, .int t2), (0, .ref b), (1, .int c1)]) dX4_wordThere_27 rfl (by decide) rfl ?_
  refine v_iconst (v := 0) dX4_wordThere_28 (by decide +kernel) ?_
  refine v_istore_n (L' := [(3, .int (0 : Int32)), (2, .int t2), (0, .ref b), (1, .int c1)]) dX4_wordThere_29 rfl (by decide) rfl ?_
  refine v_pick [2, 3, 1, 0] rfl (wL_X4_wordThere_30 b s0 c1 h _ (fun e6 => ?_) FU _ _)
  refine v_iload_n dX4_wordThere_95 rfl rfl ?_
  refine v_if_eq (tgt := 101) dX4_wordThere_96 (by decide) (fun _ => ?_) (fun _ => ?_)
  · skip
    refine v_iinc (v := (c1 + (1 : Int32))) (L' := [(1, .int (c1 + (1 : Int32))), (0, .ref b), (2, .int e6)]) dX4_wordThere_101 rfl rfl (by decide) rfl ?_
    refine v_goto (tgt := 2) dX4_wordThere_104 (by decide) ?_
    exact v_pick [1, 0] rfl (hrec _)
  refine v_iload_n dX4_wordThere_99 rfl rfl ?_
  exact v_ret (ty := .int) dX4_wordThere_100 rfl rfl rfl
theorem wL_X4_wordThere_2 {SH : SHT} (b : Nat) (s0 : St) (h : isModel SH b) : ∀ (n : Nat) (c1 : Int32), VF mX4_wordThere 0 SH (jP s0) 2 [(0, .ref b), (1, .int c1)] [] s0 (L_X4_wordThere_2 b s0 n c1) := by
  intro n
  induction n with
  | zero => intros; exact v_none
  | succ n ih => intro c1; exact wB_X4_wordThere_2 b s0 h _ ih c1
set_option maxHeartbeats 4000000 in
set_option maxRecDepth 100000 in
theorem w_X4_wordThere {SH : SHT} (b : Nat) (h : isModel SH b) (s0 : St) : VF mX4_wordThere 0 SH (jP s0) 0 [(0, .ref b)] [] s0 (f_X4_wordThere b s0) := by
  unfold f_X4_wordThere
  refine v_iconst (v := 0) dX4_wordThere_0 (by decide +kernel) ?_
  refine v_istore_n (L' := [(1, .int (0 : Int32)), (0, .ref b)]) dX4_wordThere_1 rfl (by decide) rfl ?_
  exact v_pick [1, 0] rfl (wL_X4_wordThere_2 b s0 h FU _)
theorem ct_X4_wordThere {SH : SHT} (b : Nat) (h : isModel SH b) (s0 : St) : CT yX4_wordThere mX4_wordThere 0 SH (jP s0) [.ref b] s0 (f_X4_wordThere b s0) := CT.of (by decide +kernel) rfl (fun E => Nat.le_of_ble_eq_true rfl) (w_X4_wordThere b h s0)
set_option maxHeartbeats 4000000 in
set_option maxRecDepth 100000 in
theorem wB_X4_next_0 {SH : SHT} (b : Nat) (h : isModel SH b) (rec : St → Option St) (hrec : ∀ (s1 : St), VF mX4_next 2 SH jV 0 [(0, .ref b)] [] s1 (rec s1)) (K : St → Option St) (hK : ∀ (s2 : St), VF mX4_next 2 SH jV 38 [(0, .ref b)] [] s2 (K s2)) (s1 : St) : VF mX4_next 2 SH jV 0 [(0, .ref b)] [] s1 (B_X4_next_0 rec b K s1) := by
  unfold B_X4_next_0
  refine v_aload_n dX4_next_0 rfl rfl ?_
  refine v_geti dX4_next_1 kf_X4_223 h.1 rfl ?_
  refine v_aload_n dX4_next_4 rfl rfl ?_
  refine v_geti dX4_next_5 kf_X4_218 h.1 rfl ?_
  refine v_icmp_ge (tgt := 38) dX4_next_8 (by decide) (fun _ => ?_) (fun _ => ?_)
  · skip
    exact v_pick [0] rfl (hK _)
  refine v_aload_n dX4_next_11 rfl rfl ?_
  refine v_getr dX4_next_12 kf_X4_22 h.1 rfl ?_
  refine v_aload_n dX4_next_15 rfl rfl ?_
  refine v_geti dX4_next_16 kf_X4_223 h.1 rfl ?_
  refine v_gd (fun g3 => ?_)
  refine v_iald dX4_next_19 h.2.2.2.2.2.1 g3 rfl ?_
  refine v_bipush (v := 32) dX4_next_20 (by decide +kernel) ?_
  refine v_icmp_ne (tgt := 38) dX4_next_22 (by decide) (fun _ => ?_) (fun _ => ?_)
  · skip
    exact v_pick [0] rfl (hK _)
  refine v_aload_n dX4_next_25 rfl rfl ?_
  refine v_dup dX4_next_26 rfl ?_
  refine v_geti dX4_next_27 kf_X4_223 h.1 rfl ?_
  refine v_iconst (v := 1) dX4_next_30 (by decide +kernel) ?_
  refine v_iadd dX4_next_31 ?_
  refine v_puti dX4_next_32 kp_X4_223 h.1 rfl rfl rfl (v_st fun s4 => ?_)
  refine v_goto (tgt := 0) dX4_next_35 (by decide) ?_
  exact v_pick [0] rfl (hrec _)
theorem wL_X4_next_0 {SH : SHT} (b : Nat) (h : isModel SH b) (K : St → Option St) (hK : ∀ (s2 : St), VF mX4_next 2 SH jV 38 [(0, .ref b)] [] s2 (K s2)) : ∀ (n : Nat) (s1 : St), VF mX4_next 2 SH jV 0 [(0, .ref b)] [] s1 (L_X4_next_0 b K n s1) := by
  intro n
  induction n with
  | zero => intros; exact v_none
  | succ n ih => intro s1; exact wB_X4_next_0 b h _ ih K hK s1
set_option maxHeartbeats 4000000 in
set_option maxRecDepth 100000 in
theorem wB_X4_next_137 {SH : SHT} (b : Nat) (h : isModel SH b) (rec : St → Option St) (hrec : ∀ (s15 : St), VF mX4_next 2 SH jV 137 [(0, .ref b)] [] s15 (rec s15)) (K : St → Option St) (hK : ∀ (s16 : St), VF mX4_next 2 SH jV 237 [] [] s16 (K s16)) (s15 : St) : VF mX4_next 2 SH jV 137 [(0, .ref b)] [] s15 (B_X4_next_137 rec b K s15) := by
  unfold B_X4_next_137
  refine v_aload_n dX4_next_137 rfl rfl ?_
  refine v_bipush (v := 48) dX4_next_138 (by decide +kernel) ?_
  refine v_bipush (v := 57) dX4_next_140 (by decide +kernel) ?_
  refine v_cpI (fun z hz => runV (as := [.int (48 : Int32), .int (57 : Int32)]) dX4_next_142 kv_X4_235 rfl rfl (Nat.le_of_ble_eq_true rfl) (Nat.le_of_ble_eq_true rfl) (recvW h.1 rfl rfl) (ct_X4_isRow _ _ _ h _) hz) (fun x17 => ?_)
  refine v_if_eq (tgt := 237) dX4_next_145 (by decide) (fun _ => ?_) (fun _ => ?_)
  · skip
    exact v_pick [] rfl (hK _)
  refine v_aload_n dX4_next_148 rfl rfl ?_
  refine v_aload_n dX4_next_149 rfl rfl ?_
  refine v_geti dX4_next_150 kf_X4_223 h.1 rfl ?_
  refine v_aload_n dX4_next_153 rfl rfl ?_
  refine v_geti dX4_next_154 kf_X4_226 h.1 rfl ?_
  refine v_isub dX4_next_157 ?_
  refine v_iconst (v := 3) dX4_next_158 (by decide +kernel) ?_
  refine v_bnK (fun K19 => ∀ (t18 : Int32), VF mX4_next 2 SH jV 188 [(0, .ref b)] [.int t18, .ref b] s15 (K19 t18)) (fun K19 hK19 => ?_) (fun t18 => ?_)
  · skip
    refine v_icmp_ge (tgt := 185) dX4_next_159 (by decide) (fun _ => ?_) (fun _ => ?_)
    · skip
      refine v_sipush (v := 1000) dX4_next_185 (by decide +kernel) ?_
      exact v_pick [0] rfl (hK19 _)
    refine v_bipush (v := 10) dX4_next_162 (by decide +kernel) ?_
    refine v_aload_n dX4_next_164 rfl rfl ?_
    refine v_geti dX4_next_165 kf_X4_229 h.1 rfl ?_
    refine v_imul dX4_next_168 ?_
    refine v_aload_n dX4_next_169 rfl rfl ?_
    refine v_getr dX4_next_170 kf_X4_22 h.1 rfl ?_
    refine v_aload_n dX4_next_173 rfl rfl ?_
    refine v_geti dX4_next_174 kf_X4_223 h.1 rfl ?_
    refine v_gd (fun g20 => ?_)
    refine v_iald dX4_next_177 h.2.2.2.2.2.1 g20 rfl ?_
    refine v_iadd dX4_next_178 ?_
    refine v_bipush (v := 48) dX4_next_179 (by decide +kernel) ?_
    refine v_isub dX4_next_181 ?_
    refine v_goto (tgt := 188) dX4_next_182 (by decide) ?_
    exact v_pick [0] rfl (hK19 _)
  refine v_puti dX4_next_188 kp_X4_229 h.1 rfl rfl rfl (v_st fun s21 => ?_)
  refine v_aload_n dX4_next_191 rfl rfl ?_
  refine v_dup dX4_next_192 rfl ?_
  refine v_geti dX4_next_193 kf_X4_223 h.1 rfl ?_
  refine v_iconst (v := 1) dX4_next_196 (by decide +kernel) ?_
  refine v_iadd dX4_next_197 ?_
  refine v_puti dX4_next_198 kp_X4_223 h.1 rfl rfl rfl (v_st fun s22 => ?_)
  refine v_goto (tgt := 137) dX4_next_201 (by decide) ?_
  exact v_pick [0] rfl (hrec _)
theorem wL_X4_next_137 {SH : SHT} (b : Nat) (h : isModel SH b) (K : St → Option St) (hK : ∀ (s16 : St), VF mX4_next 2 SH jV 237 [] [] s16 (K s16)) : ∀ (n : Nat) (s15 : St), VF mX4_next 2 SH jV 137 [(0, .ref b)] [] s15 (L_X4_next_137 b K n s15) := by
  intro n
  induction n with
  | zero => intros; exact v_none
  | succ n ih => intro s15; exact wB_X4_next_137 b h _ ih K hK s15
set_option maxHeartbeats 4000000 in
set_option maxRecDepth 100000 in
theorem wB_X4_next_86 {SH : SHT} (b : Nat) (h : isModel SH b) (rec : St → Option St) (hrec : ∀ (s24 : St), VF mX4_next 2 SH jV 86 [(0, .ref b)] [] s24 (rec s24)) (K : St → Option St) (hK : ∀ (s25 : St), VF mX4_next 2 SH jV 110 [(0, .ref b)] [] s25 (K s25)) (s24 : St) : VF mX4_next 2 SH jV 86 [(0, .ref b)] [] s24 (B_X4_next_86 rec b K s24) := by
  unfold B_X4_next_86
  refine v_aload_n dX4_next_86 rfl rfl ?_
  refine v_bipush (v := 97) dX4_next_87 (by decide +kernel) ?_
  refine v_bipush (v := 122) dX4_next_89 (by decide +kernel) ?_
  refine v_cpI (fun z hz => runV (as := [.int (97 : Int32), .int (122 : Int32)]) dX4_next_91 kv_X4_235 rfl rfl (Nat.le_of_ble_eq_true rfl) (Nat.le_of_ble_eq_true rfl) (recvW h.1 rfl rfl) (ct_X4_isRow _ _ _ h _) hz) (fun x26 => ?_)
  refine v_if_eq (tgt := 110) dX4_next_94 (by decide) (fun _ => ?_) (fun _ => ?_)
  · skip
    exact v_pick [0] rfl (hK _)
  refine v_aload_n dX4_next_97 rfl rfl ?_
  refine v_dup dX4_next_98 rfl ?_
  refine v_geti dX4_next_99 kf_X4_223 h.1 rfl ?_
  refine v_iconst (v := 1) dX4_next_102 (by decide +kernel) ?_
  refine v_iadd dX4_next_103 ?_
  refine v_puti dX4_next_104 kp_X4_223 h.1 rfl rfl rfl (v_st fun s27 => ?_)
  refine v_goto (tgt := 86) dX4_next_107 (by decide) ?_
  exact v_pick [0] rfl (hrec _)
theorem wL_X4_next_86 {SH : SHT} (b : Nat) (h : isModel SH b) (K : St → Option St) (hK : ∀ (s25 : St), VF mX4_next 2 SH jV 110 [(0, .ref b)] [] s25 (K s25)) : ∀ (n : Nat) (s24 : St), VF mX4_next 2 SH jV 86 [(0, .ref b)] [] s24 (L_X4_next_86 b K n s24) := by
  intro n
  induction n with
  | zero => intros; exact v_none
  | succ n ih => intro s24; exact wB_X4_next_86 b h _ ih K hK s24
set_option maxHeartbeats 4000000 in
set_option maxRecDepth 100000 in
theorem w_X4_next {SH : SHT} (b : Nat) (h : isModel SH b) (s0 : St) : VF mX4_next 2 SH jV 0 [(0, .ref b)] [] s0 (f_X4_next b s0) := by
  unfold f_X4_next
  refine v_pick [0] rfl (wL_X4_next_0 b h _ (fun s2 => ?_) FU _)
  refine v_aload_n dX4_next_38 rfl rfl ?_
  refine v_aload_n dX4_next_39 rfl rfl ?_
  refine v_geti dX4_next_40 kf_X4_223 h.1 rfl ?_
  refine v_puti dX4_next_43 kp_X4_226 h.1 rfl rfl rfl (v_st fun s5 => ?_)
  refine v_aload_n dX4_next_46 rfl rfl ?_
  refine v_iconst (v := 0) dX4_next_47 (by decide +kernel) ?_
  refine v_puti dX4_next_48 kp_X4_229 h.1 rfl rfl rfl (v_st fun s6 => ?_)
  refine v_aload_n dX4_next_51 rfl rfl ?_
  refine v_geti dX4_next_52 kf_X4_223 h.1 rfl ?_
  refine v_aload_n dX4_next_55 rfl rfl ?_
  refine v_geti dX4_next_56 kf_X4_218 h.1 rfl ?_
  refine v_icmp_ne (tgt := 70) dX4_next_59 (by decide) (fun _ => ?_) (fun _ => ?_)
  · skip
    refine v_aload_n dX4_next_70 rfl rfl ?_
    refine v_bipush (v := 97) dX4_next_71 (by decide +kernel) ?_
    refine v_bipush (v := 122) dX4_next_73 (by decide +kernel) ?_
    refine v_cpI (fun z hz => runV (as := [.int (97 : Int32), .int (122 : Int32)]) dX4_next_75 kv_X4_235 rfl rfl (Nat.le_of_ble_eq_true rfl) (Nat.le_of_ble_eq_true rfl) (recvW h.1 rfl rfl) (ct_X4_isRow _ _ _ h _) hz) (fun x7 => ?_)
    refine v_if_eq (tgt := 121) dX4_next_78 (by decide) (fun _ => ?_) (fun _ => ?_)
    · skip
      refine v_aload_n dX4_next_121 rfl rfl ?_
      refine v_bipush (v := 48) dX4_next_122 (by decide +kernel) ?_
      refine v_bipush (v := 57) dX4_next_124 (by decide +kernel) ?_
      refine v_cpI (fun z hz => runV (as := [.int (48 : Int32), .int (57 : Int32)]) dX4_next_126 kv_X4_235 rfl rfl (Nat.le_of_ble_eq_true rfl) (Nat.le_of_ble_eq_true rfl) (recvW h.1 rfl rfl) (ct_X4_isRow _ _ _ h _) hz) (fun x8 => ?_)
      refine v_if_eq (tgt := 204) dX4_next_129 (by decide) (fun _ => ?_) (fun _ => ?_)
      · skip
        refine v_aload_n dX4_next_204 rfl rfl ?_
        refine v_aload_n dX4_next_205 rfl rfl ?_
        refine v_getr dX4_next_206 kf_X4_22 h.1 rfl ?_
        refine v_aload_n dX4_next_209 rfl rfl ?_
        refine v_geti dX4_next_210 kf_X4_223 h.1 rfl ?_
        refine v_gd (fun g9 => ?_)
        refine v_iald dX4_next_213 h.2.2.2.2.2.1 g9 rfl ?_
        refine v_bipush (v := 59) dX4_next_214 (by decide +kernel) ?_
        refine v_bnK (fun K11 => ∀ (t10 : Int32), VF mX4_next 2 SH jV 224 [(0, .ref b)] [.int t10, .ref b] s6 (K11 t10)) (fun K11 hK11 => ?_) (fun t10 => ?_)
        · skip
          refine v_icmp_ne (tgt := 223) dX4_next_216 (by decide) (fun _ => ?_) (fun _ => ?_)
          · skip
            refine v_iconst (v := 4) dX4_next_223 (by decide +kernel) ?_
            exact v_pick [0] rfl (hK11 _)
          refine v_iconst (v := 3) dX4_next_219 (by decide +kernel) ?_
          refine v_goto (tgt := 224) dX4_next_220 (by decide) ?_
          exact v_pick [0] rfl (hK11 _)
        refine v_puti dX4_next_224 kp_X4_232 h.1 rfl rfl rfl (v_st fun s12 => ?_)
        refine v_aload_n dX4_next_227 rfl rfl ?_
        refine v_dup dX4_next_228 rfl ?_
        refine v_geti dX4_next_229 kf_X4_223 h.1 rfl ?_
        refine v_iconst (v := 1) dX4_next_232 (by decide +kernel) ?_
        refine v_iadd dX4_next_233 ?_
        refine v_puti dX4_next_234 kp_X4_223 h.1 rfl rfl rfl (v_st fun s13 => ?_)
        exact v_vret dX4_next_237 rfl rfl
      refine v_aload_n dX4_next_132 rfl rfl ?_
      refine v_iconst (v := 2) dX4_next_133 (by decide +kernel) ?_
      refine v_puti dX4_next_134 kp_X4_232 h.1 rfl rfl rfl (v_st fun s14 => ?_)
      refine v_pick [0] rfl (wL_X4_next_137 b h _ (fun s16 => ?_) FU _)
      exact v_vret dX4_next_237 rfl rfl
    refine v_aload_n dX4_next_81 rfl rfl ?_
    refine v_iconst (v := 1) dX4_next_82 (by decide +kernel) ?_
    refine v_puti dX4_next_83 kp_X4_232 h.1 rfl rfl rfl (v_st fun s23 => ?_)
    refine v_pick [0] rfl (wL_X4_next_86 b h _ (fun s25 => ?_) FU _)
    refine v_aload_n dX4_next_110 rfl rfl ?_
    refine v_aload_n dX4_next_111 rfl rfl ?_
    refine v_cpI (fun z hz => runV (as := []) dX4_next_112 kv_X4_239 rfl rfl (Nat.le_of_ble_eq_true rfl) (Nat.le_of_ble_eq_true rfl) (recvW h.1 rfl rfl) (ct_X4_wordThere _ h _) hz) (fun x28 => ?_)
    refine v_puti dX4_next_115 kp_X4_229 h.1 rfl rfl rfl (v_st fun s29 => ?_)
    refine v_goto (tgt := 237) dX4_next_118 (by decide) ?_
    exact v_vret dX4_next_237 rfl rfl
  refine v_aload_n dX4_next_62 rfl rfl ?_
  refine v_iconst (v := 0) dX4_next_63 (by decide +kernel) ?_
  refine v_puti dX4_next_64 kp_X4_232 h.1 rfl rfl rfl (v_st fun s30 => ?_)
  refine v_goto (tgt := 237) dX4_next_67 (by decide) ?_
  exact v_vret dX4_next_237 rfl rfl
theorem ct_X4_next {SH : SHT} (b : Nat) (h : isModel SH b) (s0 : St) : CT yX4_next mX4_next 2 SH jV [.ref b] s0 (f_X4_next b s0) := CT.of (by decide +kernel) rfl (fun E => Nat.le_of_ble_eq_true rfl) (w_X4_next b h s0)
