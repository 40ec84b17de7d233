set_option maxHeartbeats 4000000 in
set_option maxRecDepth 100000 in
theorem wB_X3_partOf_9 {SH : SHT} (a0 : Int64) (a2 : Int64) (a4 : Int32) (s0 : St) (rec : Int64 → Int64 → Int32 → Option Int64) (hrec : ∀ (c1 : Int64) (c2 : Int64) (c3 : Int32), VF mX3_partOf 0 SH (jQ s0) 9 [(0, .long a0), (2, .long a2), (4, .int a4), (5, .long c1), (7, .long c2), (9, .int c3)] [] s0 (rec c1 c2 c3)) (K : Int64 → Option Int64) (hK : ∀ (e4 : Int64), VF mX3_partOf 0 SH (jQ s0) 44 [(0, .long a0), (2, .long a2), (4, .int a4), (5, .long e4)] [] s0 (K e4)) (c1 : Int64) (c2 : Int64) (c3 : Int32) : VF mX3_partOf 0 SH (jQ s0) 9 [(0, .long a0), (2, .long a2), (4, .int a4), (5, .long c1), (7, .long c2), (9, .int c3)] [] s0 (B_X3_partOf_9 rec a0 a2 a4 K c1 c2 c3) := by
  unfold B_X3_partOf_9
  refine v_iload dX3_partOf_9 rfl ?_
  refine v_bipush (v := 100) dX3_partOf_11 (by decide +kernel) ?_
  refine v_icmp_ge (tgt := 44) dX3_partOf_13 (by decide) (fun _ => ?_) (fun _ => ?_)
  · skip
    exact v_pick [0, 1, 2, 3] rfl (hK _)
  refine v_lload dX3_partOf_16 rfl ?_
  refine v_lconst (v := 0) dX3_partOf_18 (by decide +kernel) ?_
  refine v_lcmp dX3_partOf_19 ?_
  refine v_if_eq (tgt := 44) dX3_partOf_20 (by decide) (fun _ => ?_) (fun _ => ?_)
  · skip
    exact v_pick [0, 1, 2, 3] rfl (hK _)
  refine v_lload dX3_partOf_23 rfl ?_
  refine v_lload dX3_partOf_25 rfl ?_
  refine v_lrem dX3_partOf_27 (fun _ => ?_)
  refine v_topl (fun x5 => ?_)
  refine v_lstore (L' := [(10, .long x5), (0, .long a0), (2, .long a2), (4, .int a4), (5, .long c1), (7, .long c2), (9, .int c3)]) dX3_partOf_28 (by decide) rfl ?_
  refine v_lload dX3_partOf_30 rfl ?_
  refine v_lstore (L' := [(5, .long c2), (10, .long x5), (0, .long a0), (2, .long a2), (4, .int a4), (7, .long c2), (9, .int c3)]) dX3_partOf_32 (by decide) rfl ?_
  refine v_lload dX3_partOf_34 rfl ?_
  refine v_lstore (L' := [(7, .long x5), (5, .long c2), (10, .long x5), (0, .long a0), (2, .long a2), (4, .int a4), (9, .int c3)]) dX3_partOf_36 (by decide) rfl ?_
  refine v_iinc (v := (c3 + (1 : Int32))) (L' := [(9, .int (c3 + (1 : Int32))), (7, .long x5), (5, .long c2), (10, .long x5), (0, .long a0), (2, .long a2), (4, .int a4)]) dX3_partOf_38 rfl rfl (by decide) rfl ?_
  refine v_goto (tgt := 9) dX3_partOf_41 (by decide) ?_
  exact v_pick [4, 5, 6, 2, 1, 0] rfl (hrec _ _ _)
theorem wL_X3_partOf_9 {SH : SHT} (a0 : Int64) (a2 : Int64) (a4 : Int32) (s0 : St) (K : Int64 → Option Int64) (hK : ∀ (e4 : Int64), VF mX3_partOf 0 SH (jQ s0) 44 [(0, .long a0), (2, .long a2), (4, .int a4), (5, .long e4)] [] s0 (K e4)) : ∀ (n : Nat) (c1 : Int64) (c2 : Int64) (c3 : Int32), VF mX3_partOf 0 SH (jQ s0) 9 [(0, .long a0), (2, .long a2), (4, .int a4), (5, .long c1), (7, .long c2), (9, .int c3)] [] s0 (L_X3_partOf_9 a0 a2 a4 K n c1 c2 c3) := by
  intro n
  induction n with
  | zero => intros; exact v_none
  | succ n ih => intro c1 c2 c3; exact wB_X3_partOf_9 a0 a2 a4 s0 _ ih K hK c1 c2 c3
set_option maxHeartbeats 4000000 in
set_option maxRecDepth 100000 in
theorem w_X3_partOf {SH : SHT} (a0 : Int64) (a2 : Int64) (a4 : Int32) (s0 : St) : VF mX3_partOf 0 SH (jQ s0) 0 [(0, .long a0), (2, .long a2), (4, .int a4)] [] s0 (f_X3_partOf a0 a2 a4) := by
  unfold f_X3_partOf
  refine v_lload_n dX3_partOf_0 rfl rfl ?_
  refine v_lstore (L' := [(5, .long a2), (0, .long a0), (2, .long a2), (4, .int a4)]) dX3_partOf_1 (by decide) rfl ?_
  refine v_lload_n dX3_partOf_3 rfl rfl ?_
  refine v_lstore (L' := [(7, .long a0), (5, .long a2), (0, .long a0), (2, .long a2), (4, .int a4)]) dX3_partOf_4 (by decide) rfl ?_
  refine v_iconst (v := 0) dX3_partOf_6 (by decide +kernel) ?_
  refine v_istore (L' := [(9, .int (0 : Int32)), (7, .long a0), (5, .long a2), (0, .long a0), (2, .long a2), (4, .int a4)]) dX3_partOf_7 (by decide) rfl ?_
  refine v_pick [3, 4, 5, 2, 1, 0] rfl (wL_X3_partOf_9 a0 a2 a4 s0 _ (fun e4 => ?_) FU _ _ _)
  refine v_lload dX3_partOf_44 rfl ?_
  refine v_lconst (v := 0) dX3_partOf_46 (by decide +kernel) ?_
  refine v_lcmp dX3_partOf_47 ?_
  refine v_if_ne (tgt := 55) dX3_partOf_48 (by decide) (fun _ => ?_) (fun _ => ?_)
  · skip
    refine v_iload dX3_partOf_55 rfl ?_
    refine v_if_ne (tgt := 64) dX3_partOf_57 (by decide) (fun _ => ?_) (fun _ => ?_)
    · skip
      refine v_lload_n dX3_partOf_64 rfl rfl ?_
      refine v_lload dX3_partOf_65 rfl ?_
      refine v_ldiv dX3_partOf_67 (fun _ => ?_)
      exact v_lret dX3_partOf_68 rfl rfl
    refine v_lload_n dX3_partOf_60 rfl rfl ?_
    refine v_goto (tgt := 65) dX3_partOf_61 (by decide) ?_
    refine v_lload dX3_partOf_65 rfl ?_
    refine v_ldiv dX3_partOf_67 (fun _ => ?_)
    exact v_lret dX3_partOf_68 rfl rfl
  refine v_ldc2 dX3_partOf_51 kcL_X3_177 ?_
  exact v_lret dX3_partOf_54 rfl rfl
theorem ct_X3_partOf {SH : SHT} (a0 : Int64) (a2 : Int64) (a4 : Int32) (s0 : St) : CT yX3_partOf mX3_partOf 0 SH (jQ s0) [.long a0, .long a2, .int a4] s0 (f_X3_partOf a0 a2 a4) := CT.of (by decide +kernel) rfl (fun E => Nat.le_of_ble_eq_true rfl) (w_X3_partOf a0 a2 a4  s0)
set_option maxHeartbeats 4000000 in
set_option maxRecDepth 100000 in
theorem wB_X3_odds_38 {SH : SHT} (b : Nat) (a1 : Int32) (a2 : Int32) (a3 : Int32) (s0 : St) (h : isOaths SH b) (rec : Int64 → Int32 → Option Int64) (hrec : ∀ (c4 : Int64) (c5 : Int32), VF mX3_odds 1 SH (jQ s0) 38 [(0, .ref b), (1, .int a1), (2, .int a2), (3, .int a3), (4, .long c4), (6, .long (1 : Int64)), (8, .int c5)] [] s0 (rec c4 c5)) (K : Int64 → Option Int64) (hK : ∀ (e6 : Int64), VF mX3_odds 1 SH (jQ s0) 66 [(0, .ref b), (1, .int a1), (2, .int a2), (3, .int a3), (4, .long e6), (6, .long (1 : Int64))] [] s0 (K e6)) (c4 : Int64) (c5 : Int32) : VF mX3_odds 1 SH (jQ s0) 38 [(0, .ref b), (1, .int a1), (2, .int a2), (3, .int a3), (4, .long c4), (6, .long (1 : Int64)), (8, .int c5)] [] s0 (B_X3_odds_38 rec b a1 a2 a3 K c4 c5) := by
  unfold B_X3_odds_38
  refine v_iload dX3_odds_38 rfl ?_
  refine v_iload_n dX3_odds_40 rfl rfl ?_
  refine v_icmp_ge (tgt := 66) dX3_odds_41 (by decide) (fun _ => ?_) (fun _ => ?_)
  · skip
    exact v_pick [0, 1, 2, 3, 4, 5] rfl (hK _)
  refine v_lload dX3_odds_44 rfl ?_
  refine v_iload_n dX3_odds_46 rfl rfl ?_
  refine v_iload dX3_odds_47 rfl ?_
  refine v_isub dX3_odds_49 ?_
  refine v_i2l dX3_odds_50 ?_
  refine v_lmul dX3_odds_51 ?_
  refine v_iload dX3_odds_52 rfl ?_
  refine v_iconst (v := 1) dX3_odds_54 (by decide +kernel) ?_
  refine v_iadd dX3_odds_55 ?_
  refine v_i2l dX3_odds_56 ?_
  refine v_ldiv dX3_odds_57 (fun _ => ?_)
  refine v_topl (fun x7 => ?_)
  refine v_lstore (L' := [(4, .long x7), (0, .ref b), (1, .int a1), (2, .int a2), (3, .int a3), (6, .long (1 : Int64)), (8, .int c5)]) dX3_odds_58 (by decide) rfl ?_
  refine v_iinc (v := (c5 + (1 : Int32))) (L' := [(8, .int (c5 + (1 : Int32))), (4, .long x7), (0, .ref b), (1, .int a1), (2, .int a2), (3, .int a3), (6, .long (1 : Int64))]) dX3_odds_60 rfl rfl (by decide) rfl ?_
  refine v_goto (tgt := 38) dX3_odds_63 (by decide) ?_
  exact v_pick [2, 3, 4, 5, 1, 6, 0] rfl (hrec _ _)
theorem wL_X3_odds_38 {SH : SHT} (b : Nat) (a1 : Int32) (a2 : Int32) (a3 : Int32) (s0 : St) (h : isOaths SH b) (K : Int64 → Option Int64) (hK : ∀ (e6 : Int64), VF mX3_odds 1 SH (jQ s0) 66 [(0, .ref b), (1, .int a1), (2, .int a2), (3, .int a3), (4, .long e6), (6, .long (1 : Int64))] [] s0 (K e6)) : ∀ (n : Nat) (c4 : Int64) (c5 : Int32), VF mX3_odds 1 SH (jQ s0) 38 [(0, .ref b), (1, .int a1), (2, .int a2), (3, .int a3), (4, .long c4), (6, .long (1 : Int64)), (8, .int c5)] [] s0 (L_X3_odds_38 b a1 a2 a3 K n c4 c5) := by
  intro n
  induction n with
  | zero => intros; exact v_none
  | succ n ih => intro c4 c5; exact wB_X3_odds_38 b a1 a2 a3 s0 h _ ih K hK c4 c5
set_option maxHeartbeats 4000000 in
set_option maxRecDepth 100000 in
theorem wB_X3_odds_69 {SH : SHT} (b : Nat) (a1 : Int32) (a2 : Int32) (a3 : Int32) (s0 : St) (h : isOaths SH b) (rec : Int64 → Int64 → Int32 → Option Int64) (hrec : ∀ (c8 : Int64) (c9 : Int64) (c10 : Int32), VF mX3_odds 1 SH (jQ s0) 69 [(0, .ref b), (1, .int a1), (2, .int a2), (3, .int a3), (4, .long c8), (6, .long c9), (8, .int c10)] [] s0 (rec c8 c9 c10)) (K : Int64 → Int64 → Option Int64) (hK : ∀ (e11 : Int64) (e12 : Int64), VF mX3_odds 1 SH (jQ s0) 126 [(3, .int a3), (4, .long e11), (6, .long e12)] [] s0 (K e11 e12)) (c8 : Int64) (c9 : Int64) (c10 : Int32) : VF mX3_odds 1 SH (jQ s0) 69 [(0, .ref b), (1, .int a1), (2, .int a2), (3, .int a3), (4, .long c8), (6, .long c9), (8, .int c10)] [] s0 (B_X3_odds_69 rec b a1 a2 a3 s0 K c8 c9 c10) := by
  unfold B_X3_odds_69
  refine v_iload dX3_odds_69 rfl ?_
  refine v_iload_n dX3_odds_71 rfl rfl ?_
  refine v_icmp_ge (tgt := 126) dX3_odds_72 (by decide) (fun _ => ?_) (fun _ => ?_)
  · skip
    exact v_pick [3, 4, 5] rfl (hK _ _)
  refine v_lload dX3_odds_75 rfl ?_
  refine v_iload dX3_odds_77 rfl ?_
  refine v_iload_n dX3_odds_79 rfl rfl ?_
  refine v_bnK (fun K14 => ∀ (t13 : Int64), VF mX3_odds 1 SH (jQ s0) 109 [(0, .ref b), (1, .int a1), (2, .int a2), (3, .int a3), (6, .long c9), (8, .int c10)] [.long t13, .long c8] s0 (K14 t13)) (fun K14 hK14 => ?_) (fun t13 => ?_)
  · skip
    refine v_icmp_ge (tgt := 96) dX3_odds_80 (by decide) (fun _ => ?_) (fun _ => ?_)
    · skip
      refine v_bipush (v := 100) dX3_odds_96 (by decide +kernel) ?_
      refine v_aload_n dX3_odds_98 rfl rfl ?_
      refine v_getr dX3_odds_99 kf_X3_10 h.1 rfl ?_
      refine v_getr dX3_odds_102 kf_X3_101 h.2.1.1 rfl ?_
      refine v_iconst (v := 3) dX3_odds_105 (by decide +kernel) ?_
      refine v_iald dX3_odds_106 h.2.1.2.1 (by decide +kernel) (j := 3) (by decide +kernel) ?_
      refine v_isub dX3_odds_107 ?_
      refine v_i2l dX3_odds_108 ?_
      exact v_pick [0, 1, 2, 3, 5, 6] rfl (hK14 _)
    refine v_aload_n dX3_odds_83 rfl rfl ?_
    refine v_getr dX3_odds_84 kf_X3_10 h.1 rfl ?_
    refine v_getr dX3_odds_87 kf_X3_101 h.2.1.1 rfl ?_
    refine v_iconst (v := 3) dX3_odds_90 (by decide +kernel) ?_
    refine v_iald dX3_odds_91 h.2.1.2.1 (by decide +kernel) (j := 3) (by decide +kernel) ?_
    refine v_i2l dX3_odds_92 ?_
    refine v_goto (tgt := 109) dX3_odds_93 (by decide) ?_
    exact v_pick [0, 1, 2, 3, 5, 6] rfl (hK14 _)
  refine v_lmul dX3_odds_109 ?_
  refine v_topl (fun x15 => ?_)
  refine v_lstore (L' := [(4, .long x15), (0, .ref b), (1, .int a1), (2, .int a2), (3, .int a3), (6, .long c9), (8, .int c10)]) dX3_odds_110 (by decide) rfl ?_
  refine v_lload dX3_odds_112 rfl ?_
  refine v_ldc2 dX3_odds_114 kcL_X3_232 ?_
  refine v_lmul dX3_odds_117 ?_
  refine v_topl (fun x16 => ?_)
  refine v_lstore (L' := [(6, .long x16), (4, .long x15), (0, .ref b), (1, .int a1), (2, .int a2), (3, .int a3), (8, .int c10)]) dX3_odds_118 (by decide) rfl ?_
  refine v_iinc (v := (c10 + (1 : Int32))) (L' := [(8, .int (c10 + (1 : Int32))), (6, .long x16), (4, .long x15), (0, .ref b), (1, .int a1), (2, .int a2), (3, .int a3)]) dX3_odds_120 rfl rfl (by decide) rfl ?_
  refine v_goto (tgt := 69) dX3_odds_123 (by decide) ?_
  exact v_pick [3, 4, 5, 6, 2, 1, 0] rfl (hrec _ _ _)
theorem wL_X3_odds_69 {SH : SHT} (b : Nat) (a1 : Int32) (a2 : Int32) (a3 : Int32) (s0 : St) (h : isOaths SH b) (K : Int64 → Int64 → Option Int64) (hK : ∀ (e11 : Int64) (e12 : Int64), VF mX3_odds 1 SH (jQ s0) 126 [(3, .int a3), (4, .long e11), (6, .long e12)] [] s0 (K e11 e12)) : ∀ (n : Nat) (c8 : Int64) (c9 : Int64) (c10 : Int32), VF mX3_odds 1 SH (jQ s0) 69 [(0, .ref b), (1, .int a1), (2, .int a2), (3, .int a3), (4, .long c8), (6, .long c9), (8, .int c10)] [] s0 (L_X3_odds_69 b a1 a2 a3 s0 K n c8 c9 c10) := by
  intro n
  induction n with
  | zero => intros; exact v_none
  | succ n ih => intro c8 c9 c10; exact wB_X3_odds_69 b a1 a2 a3 s0 h _ ih K hK c8 c9 c10
set_option maxHeartbeats 4000000 in
set_option maxRecDepth 100000 in
theorem w_X3_odds {SH : SHT} (b : Nat) (a1 : Int32) (a2 : Int32) (a3 : Int32) (h : isOaths SH b) (s0 : St) : VF mX3_odds 1 SH (jQ s0) 0 [(0, .ref b), (1, .int a1), (2, .int a2), (3, .int a3)] [] s0 (f_X3_odds b a1 a2 a3 s0) := by
  unfold f_X3_odds
  refine v_iload_n dX3_odds_0 rfl rfl ?_
  refine v_bipush (v := 8) dX3_odds_1 (by decide +kernel) ?_
  refine v_cpI (fun z hz => runT (as := [.int a1, .int (8 : Int32)]) dX3_odds_3 kt_X3_97 rfl rfl (Nat.le_of_ble_eq_true rfl) (Nat.le_of_ble_eq_true rfl) (ct_X3_isWithin _ _  _) hz) (fun x1 => ?_)
  refine v_if_eq (tgt := 25) dX3_odds_6 (by decide) (fun _ => ?_) (fun _ => ?_)
  · skip
    refine v_ldc2 dX3_odds_25 kcL_X3_177 ?_
    exact v_lret dX3_odds_28 rfl rfl
  refine v_iload_n dX3_odds_9 rfl rfl ?_
  refine v_iload_n dX3_odds_10 rfl rfl ?_
  refine v_cpI (fun z hz => runT (as := [.int a2, .int a1]) dX3_odds_11 kt_X3_97 rfl rfl (Nat.le_of_ble_eq_true rfl) (Nat.le_of_ble_eq_true rfl) (ct_X3_isWithin _ _  _) hz) (fun x2 => ?_)
  refine v_if_eq (tgt := 25) dX3_odds_14 (by decide) (fun _ => ?_) (fun _ => ?_)
  · skip
    refine v_ldc2 dX3_odds_25 kcL_X3_177 ?_
    exact v_lret dX3_odds_28 rfl rfl
  refine v_iload_n dX3_odds_17 rfl rfl ?_
  refine v_iconst (v := 1) dX3_odds_18 (by decide +kernel) ?_
  refine v_cpI (fun z hz => runT (as := [.int a3, .int (1 : Int32)]) dX3_odds_19 kt_X3_97 rfl rfl (Nat.le_of_ble_eq_true rfl) (Nat.le_of_ble_eq_true rfl) (ct_X3_isWithin _ _  _) hz) (fun x3 => ?_)
  refine v_if_ne (tgt := 29) dX3_odds_22 (by decide) (fun _ => ?_) (fun _ => ?_)
  · skip
    refine v_lconst (v := 1) dX3_odds_29 (by decide +kernel) ?_
    refine v_lstore (L' := [(4, .long (1 : Int64)), (0, .ref b), (1, .int a1), (2, .int a2), (3, .int a3)]) dX3_odds_30 (by decide) rfl ?_
    refine v_lconst (v := 1) dX3_odds_32 (by decide +kernel) ?_
    refine v_lstore (L' := [(6, .long (1 : Int64)), (4, .long (1 : Int64)), (0, .ref b), (1, .int a1), (2, .int a2), (3, .int a3)]) dX3_odds_33 (by decide) rfl ?_
    refine v_iconst (v := 0) dX3_odds_35 (by decide +kernel) ?_
    refine v_istore (L' := [(8, .int (0 : Int32)), (6, .long (1 : Int64)), (4, .long (1 : Int64)), (0, .ref b), (1, .int a1), (2, .int a2), (3, .int a3)]) dX3_odds_36 (by decide) rfl ?_
    refine v_pick [3, 4, 5, 6, 2, 1, 0] rfl (wL_X3_odds_38 b a1 a2 a3 s0 h _ (fun e6 => ?_) FU _ _)
    refine v_iconst (v := 0) dX3_odds_66 (by decide +kernel) ?_
    refine v_istore (L' := [(8, .int (0 : Int32)), (0, .ref b), (1, .int a1), (2, .int a2), (3, .int a3), (4, .long e6), (6, .long (1 : Int64))]) dX3_odds_67 (by decide) rfl ?_
    refine v_pick [1, 2, 3, 4, 5, 6, 0] rfl (wL_X3_odds_69 b a1 a2 a3 s0 h _ (fun e11 e12 => ?_) FU _ _ _)
    refine v_lload dX3_odds_126 rfl ?_
    refine v_lload dX3_odds_128 rfl ?_
    refine v_iload_n dX3_odds_130 rfl rfl ?_
    refine v_cpL (fun z hz => runT (as := [.long e11, .long e12, .int a3]) dX3_odds_131 kt_X3_234 rfl rfl (Nat.le_of_ble_eq_true rfl) (Nat.le_of_ble_eq_true rfl) (ct_X3_partOf _ _ _  _) hz) (fun x17 => ?_)
    exact v_lret dX3_odds_134 rfl rfl
  refine v_ldc2 dX3_odds_25 kcL_X3_177 ?_
  exact v_lret dX3_odds_28 rfl rfl
theorem ct_X3_odds {SH : SHT} (b : Nat) (a1 : Int32) (a2 : Int32) (a3 : Int32) (h : isOaths SH b) (s0 : St) : CT yX3_odds mX3_odds 1 SH (jQ s0) [.ref b, .int a1, .int a2, .int a3] s0 (f_X3_odds b a1 a2 a3 s0) := CT.of (by decide +kernel) rfl (fun E => Nat.le_of_ble_eq_true rfl) (w_X3_odds b a1 a2 a3 h s0)
set_option maxHeartbeats 4000000 in
set_option maxRecDepth 100000 in
theorem w_X3_hope {SH : SHT} (b : Nat) (a1 : Int32) (a2 : Int32) (h : isOaths SH b) (s0 : St) : VF mX3_hope 1 SH (jQ s0) 0 [(0, .ref b), (1, .int a1), (2, .int a2)] [] s0 (f_X3_hope b a1 a2 s0) := by
  unfold f_X3_hope
  refine v_iload_n dX3_hope_0 rfl rfl ?_
  refine v_bipush (v := 99) dX3_hope_1 (by decide +kernel) ?_
  refine v_cpI (fun z hz => runT (as := [.int a1, .int (99 : Int32)]) dX3_hope_3 kt_X3_97 rfl rfl (Nat.le_of_ble_eq_true rfl) (Nat.le_of_ble_eq_true rfl) (ct_X3_isWithin _ _  _) hz) (fun x1 => ?_)
  refine v_if_eq (tgt := 17) dX3_hope_6 (by decide) (fun _ => ?_) (fun _ => ?_)
  · skip
    refine v_ldc2 dX3_hope_17 kcL_X3_177 ?_
    exact v_lret dX3_hope_20 rfl rfl
  refine v_iload_n dX3_hope_9 rfl rfl ?_
  refine v_iconst (v := 1) dX3_hope_10 (by decide +kernel) ?_
  refine v_cpI (fun z hz => runT (as := [.int a2, .int (1 : Int32)]) dX3_hope_11 kt_X3_97 rfl rfl (Nat.le_of_ble_eq_true rfl) (Nat.le_of_ble_eq_true rfl) (ct_X3_isWithin _ _  _) hz) (fun x2 => ?_)
  refine v_if_ne (tgt := 21) dX3_hope_14 (by decide) (fun _ => ?_) (fun _ => ?_)
  · skip
    refine v_iload_n dX3_hope_21 rfl rfl ?_
    refine v_i2l dX3_hope_22 ?_
    refine v_aload_n dX3_hope_23 rfl rfl ?_
    refine v_getr dX3_hope_24 kf_X3_10 h.1 rfl ?_
    refine v_getr dX3_hope_27 kf_X3_101 h.2.1.1 rfl ?_
    refine v_iconst (v := 3) dX3_hope_30 (by decide +kernel) ?_
    refine v_iald dX3_hope_31 h.2.1.2.1 (by decide +kernel) (j := 3) (by decide +kernel) ?_
    refine v_i2l dX3_hope_32 ?_
    refine v_lmul dX3_hope_33 ?_
    refine v_ldc2 dX3_hope_34 kcL_X3_232 ?_
    refine v_iload_n dX3_hope_37 rfl rfl ?_
    refine v_cpL (fun z hz => runT (as := [.long ((a1).toInt64 * ((gA s0 ((b + 1) + 1) 3)).toInt64), .long (100 : Int64), .int a2]) dX3_hope_38 kt_X3_234 rfl rfl (Nat.le_of_ble_eq_true rfl) (Nat.le_of_ble_eq_true rfl) (ct_X3_partOf _ _ _  _) hz) (fun x3 => ?_)
    exact v_lret dX3_hope_41 rfl rfl
  refine v_ldc2 dX3_hope_17 kcL_X3_177 ?_
  exact v_lret dX3_hope_20 rfl rfl
theorem ct_X3_hope {SH : SHT} (b : Nat) (a1 : Int32) (a2 : Int32) (h : isOaths SH b) (s0 : St) : CT yX3_hope mX3_hope 1 SH (jQ s0) [.ref b, .int a1, .int a2] s0 (f_X3_hope b a1 a2 s0) := CT.of (by decide +kernel) rfl (fun E => Nat.le_of_ble_eq_true rfl) (w_X3_hope b a1 a2 h s0)
set_option maxHeartbeats 4000000 in
set_option maxRecDepth 100000 in
theorem wB_X3_prove_49 {SH : SHT} (b : Nat) (a1 : Int32) (a2 : Int32) (c3 : Int32) (h : isOaths SH b) (rec : Int32 → St → Option (Int32 × St)) (hrec : ∀ (c7 : Int32) (s8 : St), VF mX3_prove 4 SH jI 49 [(0, .ref b), (1, .int a1), (2, .int a2), (3, .int c3), (4, .int c7)] [] s8 (rec c7 s8)) (K : St → Option (Int32 × St)) (hK : ∀ (s9 : St), VF mX3_prove 4 SH jI 80 [(0, .ref b), (1, .int a1), (2, .int a2), (3, .int c3)] [] s9 (K s9)) (c7 : Int32) (s8 : St) : VF mX3_prove 4 SH jI 49 [(0, .ref b), (1, .int a1), (2, .int a2), (3, .int c3), (4, .int c7)] [] s8 (B_X3_prove_49 rec b a1 a2 c3 K c7 s8) := by
  unfold B_X3_prove_49
  refine v_iload dX3_prove_49 rfl ?_
  refine v_iconst (v := 3) dX3_prove_51 (by decide +kernel) ?_
  refine v_icmp_ge (tgt := 80) dX3_prove_52 (by decide) (fun _ => ?_) (fun _ => ?_)
  · skip
    exact v_pick [0, 1, 2, 3] rfl (hK _)
  refine v_aload_n dX3_prove_55 rfl rfl ?_
  refine v_getr dX3_prove_56 kf_X3_31 h.1 rfl ?_
  refine v_iload_n dX3_prove_59 rfl rfl ?_
  refine v_gd (fun g10 => ?_)
  refine v_aald dX3_prove_60 (Or.inl rfl) h.2.2.2.2.2.1 g10 (rng_get (ib_lt g10)) ?_
  refine v_iload dX3_prove_61 rfl ?_
  refine v_aload_n dX3_prove_63 rfl rfl ?_
  refine v_getr dX3_prove_64 kf_X3_16 h.1 rfl ?_
  refine v_iload_n dX3_prove_67 rfl rfl ?_
  refine v_iload dX3_prove_68 rfl ?_
  refine v_cpI (fun z hz => runV (as := [.int a1, .int c7]) dX3_prove_70 kv_X3_238 rfl rfl (Nat.le_of_ble_eq_true rfl) (Nat.le_of_ble_eq_true rfl) (recvW h.2.2.1.1 rfl rfl) (ct_X1_partOfRow _ _ _ h.2.2.1 _) hz) (fun x11 => ?_)
  refine v_gd (fun g12 => ?_)
  refine v_iast dX3_prove_73 (h.2.2.2.2.2.2.1 _ (ib_lt g10)) g12 rfl (v_st fun s13 => ?_)
  refine v_iinc (v := (c7 + (1 : Int32))) (L' := [(4, .int (c7 + (1 : Int32))), (0, .ref b), (1, .int a1), (2, .int a2), (3, .int c3)]) dX3_prove_74 rfl rfl (by decide) rfl ?_
  refine v_goto (tgt := 49) dX3_prove_77 (by decide) ?_
  exact v_pick [1, 2, 3, 4, 0] rfl (hrec _ _)
theorem wL_X3_prove_49 {SH : SHT} (b : Nat) (a1 : Int32) (a2 : Int32) (c3 : Int32) (h : isOaths SH b) (K : St → Option (Int32 × St)) (hK : ∀ (s9 : St), VF mX3_prove 4 SH jI 80 [(0, .ref b), (1, .int a1), (2, .int a2), (3, .int c3)] [] s9 (K s9)) : ∀ (n : Nat) (c7 : Int32) (s8 : St), VF mX3_prove 4 SH jI 49 [(0, .ref b), (1, .int a1), (2, .int a2), (3, .int c3), (4, .int c7)] [] s8 (L_X3_prove_49 b a1 a2 c3 K n c7 s8) := by
  intro n
  induction n with
  | zero => intros; exact v_none
  | succ n ih => intro c7 s8; exact wB_X3_prove_49 b a1 a2 c3 h _ ih K hK c7 s8
set_option maxHeartbeats 4000000 in
set_option maxRecDepth 100000 in
theorem wB_X3_prove_34 {SH : SHT} (b : Nat) (a1 : Int32) (a2 : Int32) (h : isOaths SH b) (rec : Int32 → St → Option (Int32 × St)) (hrec : ∀ (c3 : Int32) (s4 : St), VF mX3_prove 4 SH jI 34 [(0, .ref b), (1, .int a1), (2, .int a2), (3, .int c3)] [] s4 (rec c3 s4)) (K : St → Option (Int32 × St)) (hK : ∀ (s5 : St), VF mX3_prove 4 SH jI 86 [(0, .ref b), (2, .int a2)] [] s5 (K s5)) (c3 : Int32) (s4 : St) : VF mX3_prove 4 SH jI 34 [(0, .ref b), (1, .int a1), (2, .int a2), (3, .int c3)] [] s4 (B_X3_prove_34 rec b a1 a2 K c3 s4) := by
  unfold B_X3_prove_34
  refine v_iload_n dX3_prove_34 rfl rfl ?_
  refine v_iload_n dX3_prove_35 rfl rfl ?_
  refine v_icmp_ge (tgt := 86) dX3_prove_36 (by decide) (fun _ => ?_) (fun _ => ?_)
  · skip
    exact v_pick [0, 2] rfl (hK _)
  refine v_aload_n dX3_prove_39 rfl rfl ?_
  refine v_getr dX3_prove_40 kf_X3_16 h.1 rfl ?_
  refine v_cw (fun z hz => runV (as := []) dX3_prove_43 kv_X3_215 rfl rfl (Nat.le_of_ble_eq_true rfl) (Nat.le_of_ble_eq_true rfl) (recvW h.2.2.1.1 rfl rfl) (ct_X1_passYear _ h.2.2.1 _) hz) (fun s6 => ?_)
  refine v_iconst (v := 0) dX3_prove_46 (by decide +kernel) ?_
  refine v_istore (L' := [(4, .int (0 : Int32)), (0, .ref b), (1, .int a1), (2, .int a2), (3, .int c3)]) dX3_prove_47 (by decide) rfl ?_
  refine v_pick [1, 2, 3, 4, 0] rfl (wL_X3_prove_49 b a1 a2 c3 h _ (fun s9 => ?_) FU _ _)
  refine v_iinc (v := (c3 + (1 : Int32))) (L' := [(3, .int (c3 + (1 : Int32))), (0, .ref b), (1, .int a1), (2, .int a2)]) dX3_prove_80 rfl rfl (by decide) rfl ?_
  refine v_goto (tgt := 34) dX3_prove_83 (by decide) ?_
  exact v_pick [1, 2, 3, 0] rfl (hrec _ _)
theorem wL_X3_prove_34 {SH : SHT} (b : Nat) (a1 : Int32) (a2 : Int32) (h : isOaths SH b) (K : St → Option (Int32 × St)) (hK : ∀ (s5 : St), VF mX3_prove 4 SH jI 86 [(0, .ref b), (2, .int a2)] [] s5 (K s5)) : ∀ (n : Nat) (c3 : Int32) (s4 : St), VF mX3_prove 4 SH jI 34 [(0, .ref b), (1, .int a1), (2, .int a2), (3, .int c3)] [] s4 (L_X3_prove_34 b a1 a2 K n c3 s4) := by
  intro n
  induction n with
  | zero => intros; exact v_none
  | succ n ih => intro c3 s4; exact wB_X3_prove_34 b a1 a2 h _ ih K hK c3 s4
set_option maxHeartbeats 4000000 in
set_option maxRecDepth 100000 in
theorem w_X3_prove {SH : SHT} (b : Nat) (a1 : Int32) (a2 : Int32) (h : isOaths SH b) (s0 : St) : VF mX3_prove 4 SH jI 0 [(0, .ref b), (1, .int a1), (2, .int a2)] [] s0 (f_X3_prove b a1 a2 s0) := by
  unfold f_X3_prove
  refine v_aload_n dX3_prove_0 rfl rfl ?_
  refine v_iload_n dX3_prove_1 rfl rfl ?_
  refine v_cpI (fun z hz => runV (as := [.int a1]) dX3_prove_2 kv_X3_114 rfl rfl (Nat.le_of_ble_eq_true rfl) (Nat.le_of_ble_eq_true rfl) (recvW h.1 rfl rfl) (ct_X3_isPerson _ _ h _) hz) (fun x1 => ?_)
  refine v_if_eq (tgt := 19) dX3_prove_5 (by decide) (fun _ => ?_) (fun _ => ?_)
  · skip
    refine v_iconst (v := -1) dX3_prove_19 (by decide +kernel) ?_
    exact v_ret (ty := .int) dX3_prove_20 rfl rfl rfl
  refine v_iload_n dX3_prove_8 rfl rfl ?_
  refine v_iconst (v := 1) dX3_prove_9 (by decide +kernel) ?_
  refine v_icmp_lt (tgt := 19) dX3_prove_10 (by decide) (fun _ => ?_) (fun _ => ?_)
  · skip
    refine v_iconst (v := -1) dX3_prove_19 (by decide +kernel) ?_
    exact v_ret (ty := .int) dX3_prove_20 rfl rfl rfl
  refine v_iload_n dX3_prove_13 rfl rfl ?_
  refine v_bipush (v := 10) dX3_prove_14 (by decide +kernel) ?_
  refine v_icmp_le (tgt := 21) dX3_prove_16 (by decide) (fun _ => ?_) (fun _ => ?_)
  · skip
    refine v_aload_n dX3_prove_21 rfl rfl ?_
    refine v_getr dX3_prove_22 kf_X3_16 h.1 rfl ?_
    refine v_aload_n dX3_prove_25 rfl rfl ?_
    refine v_getr dX3_prove_26 kf_X3_10 h.1 rfl ?_
    refine v_cw (fun z hz => runV (as := [.ref (b + 1)]) dX3_prove_29 kv_X3_80 rfl rfl (Nat.le_of_ble_eq_true rfl) (Nat.le_of_ble_eq_true rfl) (recvW h.2.2.1.1 rfl rfl) (ct_X1_become _ _ h.2.2.1 h.2.1 _) hz) (fun s2 => ?_)
    refine v_iconst (v := 0) dX3_prove_32 (by decide +kernel) ?_
    refine v_istore_n (L' := [(3, .int (0 : Int32)), (0, .ref b), (1, .int a1), (2, .int a2)]) dX3_prove_33 rfl (by decide) rfl ?_
    refine v_pick [1, 2, 3, 0] rfl (wL_X3_prove_34 b a1 a2 h _ (fun s5 => ?_) FU _ _)
    refine v_aload_n dX3_prove_86 rfl rfl ?_
    refine v_iload_n dX3_prove_87 rfl rfl ?_
    refine v_puti dX3_prove_88 kp_X3_84 h.1 rfl rfl rfl (v_st fun s14 => ?_)
    refine v_iload_n dX3_prove_91 rfl rfl ?_
    exact v_ret (ty := .int) dX3_prove_92 rfl rfl rfl
  refine v_iconst (v := -1) dX3_prove_19 (by decide +kernel) ?_
  exact v_ret (ty := .int) dX3_prove_20 rfl rfl rfl
theorem ct_X3_prove {SH : SHT} (b : Nat) (a1 : Int32) (a2 : Int32) (h : isOaths SH b) (s0 : St) : CT yX3_prove mX3_prove 4 SH jI [.ref b, .int a1, .int a2] s0 (f_X3_prove b a1 a2 s0) := CT.of (by decide +kernel) rfl (fun E => Nat.le_of_ble_eq_true rfl) (w_X3_prove b a1 a2 h s0)
set_option maxHeartbeats 4000000 in
set_option maxRecDepth 100000 in
theorem w_X3_isRowPart {SH : SHT} (b : Nat) (a1 : Int32) (a2 : Int32) (h : isOaths SH b) (s0 : St) : VF mX3_isRowPart 0 SH (jP s0) 0 [(0, .ref b), (1, .int a1), (2, .int a2)] [] s0 (f_X3_isRowPart b a1 a2 s0) := by
  unfold f_X3_isRowPart
  refine v_iload_n dX3_isRowPart_0 rfl rfl ?_
  refine v_if_lt (tgt := 25) dX3_isRowPart_1 (by decide) (fun _ => ?_) (fun _ => ?_)
  · skip
    refine v_iconst (v := 0) dX3_isRowPart_25 (by decide +kernel) ?_
    exact v_ret (ty := .boolean) dX3_isRowPart_26 rfl rfl (by decide +kernel)
  refine v_iload_n dX3_isRowPart_4 rfl rfl ?_
  refine v_aload_n dX3_isRowPart_5 rfl rfl ?_
  refine v_geti dX3_isRowPart_6 kf_X3_84 h.1 rfl ?_
  refine v_icmp_ge (tgt := 25) dX3_isRowPart_9 (by decide) (fun _ => ?_) (fun _ => ?_)
  · skip
    refine v_iconst (v := 0) dX3_isRowPart_25 (by decide +kernel) ?_
    exact v_ret (ty := .boolean) dX3_isRowPart_26 rfl rfl (by decide +kernel)
  refine v_iload_n dX3_isRowPart_12 rfl rfl ?_
  refine v_if_lt (tgt := 25) dX3_isRowPart_13 (by decide) (fun _ => ?_) (fun _ => ?_)
  · skip
    refine v_iconst (v := 0) dX3_isRowPart_25 (by decide +kernel) ?_
    exact v_ret (ty := .boolean) dX3_isRowPart_26 rfl rfl (by decide +kernel)
  refine v_iload_n dX3_isRowPart_16 rfl rfl ?_
  refine v_iconst (v := 3) dX3_isRowPart_17 (by decide +kernel) ?_
  refine v_icmp_ge (tgt := 25) dX3_isRowPart_18 (by decide) (fun _ => ?_) (fun _ => ?_)
  · skip
    refine v_iconst (v := 0) dX3_isRowPart_25 (by decide +kernel) ?_
    exact v_ret (ty := .boolean) dX3_isRowPart_26 rfl rfl (by decide +kernel)
  refine v_iconst (v := 1) dX3_isRowPart_21 (by decide +kernel) ?_
  refine v_goto (tgt := 26) dX3_isRowPart_22 (by decide) ?_
  exact v_ret (ty := .boolean) dX3_isRowPart_26 rfl rfl (by decide +kernel)
theorem ct_X3_isRowPart {SH : SHT} (b : Nat) (a1 : Int32) (a2 : Int32) (h : isOaths SH b) (s0 : St) : CT yX3_isRowPart mX3_isRowPart 0 SH (jP s0) [.ref b, .int a1, .int a2] s0 (f_X3_isRowPart b a1 a2 s0) := CT.of (by decide +kernel) rfl (fun E => Nat.le_of_ble_eq_true rfl) (w_X3_isRowPart b a1 a2 h s0)
set_option maxHeartbeats 4000000 in
set_option maxRecDepth 100000 in
theorem w_X3_row {SH : SHT} (b : Nat) (a1 : Int32) (a2 : Int32) (h : isOaths SH b) (s0 : St) : VF mX3_row 1 SH (jP s0) 0 [(0, .ref b), (1, .int a1), (2, .int a2)] [] s0 (f_X3_row b a1 a2 s0) := by
  unfold f_X3_row
  refine v_aload_n dX3_row_0 rfl rfl ?_
  refine v_iload_n dX3_row_1 rfl rfl ?_
  refine v_iload_n dX3_row_2 rfl rfl ?_
  refine v_cpI (fun z hz => runV (as := [.int a1, .int a2]) dX3_row_3 kv_X3_242 rfl rfl (Nat.le_of_ble_eq_true rfl) (Nat.le_of_ble_eq_true rfl) (recvW h.1 rfl rfl) (ct_X3_isRowPart _ _ _ h _) hz) (fun x1 => ?_)
  refine v_if_eq (tgt := 20) dX3_row_6 (by decide) (fun _ => ?_) (fun _ => ?_)
  · skip
    refine v_bipush (v := -9) dX3_row_20 (by decide +kernel) ?_
    exact v_ret (ty := .int) dX3_row_22 rfl rfl rfl
  refine v_aload_n dX3_row_9 rfl rfl ?_
  refine v_getr dX3_row_10 kf_X3_31 h.1 rfl ?_
  refine v_iload_n dX3_row_13 rfl rfl ?_
  refine v_gd (fun g2 => ?_)
  refine v_aald dX3_row_14 (Or.inl rfl) h.2.2.2.2.2.1 g2 (rng_get (ib_lt g2)) ?_
  refine v_iload_n dX3_row_15 rfl rfl ?_
  refine v_gd (fun g3 => ?_)
  refine v_iald dX3_row_16 (h.2.2.2.2.2.2.1 _ (ib_lt g2)) g3 rfl ?_
  refine v_goto (tgt := 22) dX3_row_17 (by decide) ?_
  exact v_ret (ty := .int) dX3_row_22 rfl rfl rfl
theorem ct_X3_row {SH : SHT} (b : Nat) (a1 : Int32) (a2 : Int32) (h : isOaths SH b) (s0 : St) : CT yX3_row mX3_row 1 SH (jP s0) [.ref b, .int a1, .int a2] s0 (f_X3_row b a1 a2 s0) := CT.of (by decide +kernel) rfl (fun E => Nat.le_of_ble_eq_true rfl) (w_X3_row b a1 a2 h s0)
set_option maxHeartbeats 4000000 in
set_option maxRecDepth 100000 in
theorem w_X3_alterRow {SH : SHT} (b : Nat) (a1 : Int32) (a2 : Int32) (a3 : Int32) (h : isOaths SH b) (s0 : St) : VF mX3_alterRow 1 SH jI 0 [(0, .ref b), (1, .int a1), (2, .int a2), (3, .int a3)] [] s0 (f_X3_alterRow b a1 a2 a3 s0) := by
  unfold f_X3_alterRow
  refine v_aload_n dX3_alterRow_0 rfl rfl ?_
  refine v_iload_n dX3_alterRow_1 rfl rfl ?_
  refine v_iload_n dX3_alterRow_2 rfl rfl ?_
  refine v_cpI (fun z hz => runV (as := [.int a1, .int a2]) dX3_alterRow_3 kv_X3_242 rfl rfl (Nat.le_of_ble_eq_true rfl) (Nat.le_of_ble_eq_true rfl) (recvW h.1 rfl rfl) (ct_X3_isRowPart _ _ _ h _) hz) (fun x1 => ?_)
  refine v_if_ne (tgt := 12) dX3_alterRow_6 (by decide) (fun _ => ?_) (fun _ => ?_)
  · skip
    refine v_aload_n dX3_alterRow_12 rfl rfl ?_
    refine v_getr dX3_alterRow_13 kf_X3_31 h.1 rfl ?_
    refine v_iload_n dX3_alterRow_16 rfl rfl ?_
    refine v_gd (fun g2 => ?_)
    refine v_aald dX3_alterRow_17 (Or.inl rfl) h.2.2.2.2.2.1 g2 (rng_get (ib_lt g2)) ?_
    refine v_iload_n dX3_alterRow_18 rfl rfl ?_
    refine v_gd (fun g3 => ?_)
    refine v_iald dX3_alterRow_19 (h.2.2.2.2.2.2.1 _ (ib_lt g2)) g3 rfl ?_
    refine v_topi (fun x4 => ?_)
    refine v_istore (L' := [(4, .int x4), (0, .ref b), (1, .int a1), (2, .int a2), (3, .int a3)]) dX3_alterRow_20 (by decide) rfl ?_
    refine v_aload_n dX3_alterRow_22 rfl rfl ?_
    refine v_getr dX3_alterRow_23 kf_X3_31 h.1 rfl ?_
    refine v_iload_n dX3_alterRow_26 rfl rfl ?_
    refine v_gd (fun g5 => ?_)
    refine v_aald dX3_alterRow_27 (Or.inl rfl) h.2.2.2.2.2.1 g5 (rng_get (ib_lt g5)) ?_
    refine v_iload_n dX3_alterRow_28 rfl rfl ?_
    refine v_iload_n dX3_alterRow_29 rfl rfl ?_
    refine v_gd (fun g6 => ?_)
    refine v_iast dX3_alterRow_30 (h.2.2.2.2.2.2.1 _ (ib_lt g5)) g6 rfl (v_st fun s7 => ?_)
    refine v_iload dX3_alterRow_31 rfl ?_
    exact v_ret (ty := .int) dX3_alterRow_33 rfl rfl rfl
  refine v_bipush (v := -9) dX3_alterRow_9 (by decide +kernel) ?_
  exact v_ret (ty := .int) dX3_alterRow_11 rfl rfl rfl
theorem ct_X3_alterRow {SH : SHT} (b : Nat) (a1 : Int32) (a2 : Int32) (a3 : Int32) (h : isOaths SH b) (s0 : St) : CT yX3_alterRow mX3_alterRow 1 SH jI [.ref b, .int a1, .int a2, .int a3] s0 (f_X3_alterRow b a1 a2 a3 s0) := CT.of (by decide +kernel) rfl (fun E => Nat.le_of_ble_eq_true rfl) (w_X3_alterRow b a1 a2 a3 h s0)
set_option maxHeartbeats 4000000 in
set_option maxRecDepth 100000 in
theorem wB_X3_judge_40 {SH : SHT} (b : Nat) (a1 : Int32) (c3 : Int32) (s5 : St) (h : isOaths SH b) (rec : Int32 → Option (Int32 × St)) (hrec : ∀ (c6 : Int32), VF mX3_judge 4 SH jI 40 [(0, .ref b), (1, .int a1), (2, .int c3), (3, .int c6)] [] s5 (rec c6)) (K : Unit → Option (Int32 × St)) (hK : ∀ (u : Unit), VF mX3_judge 4 SH jI 75 [(0, .ref b), (1, .int a1), (2, .int c3)] [] s5 (K u)) (c6 : Int32) : VF mX3_judge 4 SH jI 40 [(0, .ref b), (1, .int a1), (2, .int c3), (3, .int c6)] [] s5 (B_X3_judge_40 rec b a1 c3 s5 K c6) := by
  unfold B_X3_judge_40
  refine v_iload_n dX3_judge_40 rfl rfl ?_
  refine v_iconst (v := 3) dX3_judge_41 (by decide +kernel) ?_
  refine v_icmp_ge (tgt := 75) dX3_judge_42 (by decide) (fun _ => ?_) (fun _ => ?_)
  · skip
    exact v_pick [0, 1, 2] rfl (hK _)
  refine v_aload_n dX3_judge_45 rfl rfl ?_
  refine v_getr dX3_judge_46 kf_X3_31 h.1 rfl ?_
  refine v_iload_n dX3_judge_49 rfl rfl ?_
  refine v_gd (fun g7 => ?_)
  refine v_aald dX3_judge_50 (Or.inl rfl) h.2.2.2.2.2.1 g7 (rng_get (ib_lt g7)) ?_
  refine v_iload_n dX3_judge_51 rfl rfl ?_
  refine v_gd (fun g8 => ?_)
  refine v_iald dX3_judge_52 (h.2.2.2.2.2.2.1 _ (ib_lt g7)) g8 rfl ?_
  refine v_aload_n dX3_judge_53 rfl rfl ?_
  refine v_getr dX3_judge_54 kf_X3_16 h.1 rfl ?_
  refine v_iload_n dX3_judge_57 rfl rfl ?_
  refine v_iload_n dX3_judge_58 rfl rfl ?_
  refine v_cpI (fun z hz => runV (as := [.int a1, .int c6]) dX3_judge_59 kv_X3_238 rfl rfl (Nat.le_of_ble_eq_true rfl) (Nat.le_of_ble_eq_true rfl) (recvW h.2.2.1.1 rfl rfl) (ct_X1_partOfRow _ _ _ h.2.2.1 _) hz) (fun x9 => ?_)
  refine v_icmp_eq (tgt := 69) dX3_judge_62 (by decide) (fun _ => ?_) (fun _ => ?_)
  · skip
    refine v_iinc (v := (c6 + (1 : Int32))) (L' := [(3, .int (c6 + (1 : Int32))), (0, .ref b), (1, .int a1), (2, .int c3)]) dX3_judge_69 rfl rfl (by decide) rfl ?_
    refine v_goto (tgt := 40) dX3_judge_72 (by decide) ?_
    exact v_pick [1, 2, 3, 0] rfl (hrec _)
  refine v_iload_n dX3_judge_65 rfl rfl ?_
  refine v_iconst (v := 1) dX3_judge_66 (by decide +kernel) ?_
  refine v_iadd dX3_judge_67 ?_
  exact v_ret (ty := .int) dX3_judge_68 rfl rfl rfl
theorem wL_X3_judge_40 {SH : SHT} (b : Nat) (a1 : Int32) (c3 : Int32) (s5 : St) (h : isOaths SH b) (K : Unit → Option (Int32 × St)) (hK : ∀ (u : Unit), VF mX3_judge 4 SH jI 75 [(0, .ref b), (1, .int a1), (2, .int c3)] [] s5 (K u)) : ∀ (n : Nat) (c6 : Int32), VF mX3_judge 4 SH jI 40 [(0, .ref b), (1, .int a1), (2, .int c3), (3, .int c6)] [] s5 (L_X3_judge_40 b a1 c3 s5 K n c6) := by
  intro n
  induction n with
  | zero => intros; exact v_none
  | succ n ih => intro c6; exact wB_X3_judge_40 b a1 c3 s5 h _ ih K hK c6
set_option maxHeartbeats 4000000 in
set_option maxRecDepth 100000 in
theorem wB_X3_judge_23 {SH : SHT} (b : Nat) (a1 : Int32) (h : isOaths SH b) (rec : Int32 → St → Option (Int32 × St)) (hrec : ∀ (c3 : Int32) (s4 : St), VF mX3_judge 4 SH jI 23 [(0, .ref b), (1, .int a1), (2, .int c3)] [] s4 (rec c3 s4)) (c3 : Int32) (s4 : St) : VF mX3_judge 4 SH jI 23 [(0, .ref b), (1, .int a1), (2, .int c3)] [] s4 (B_X3_judge_23 rec b a1 c3 s4) := by
  unfold B_X3_judge_23
  refine v_iload_n dX3_judge_23 rfl rfl ?_
  refine v_aload_n dX3_judge_24 rfl rfl ?_
  refine v_geti dX3_judge_25 kf_X3_84 h.1 rfl ?_
  refine v_icmp_ge (tgt := 81) dX3_judge_28 (by decide) (fun _ => ?_) (fun _ => ?_)
  · skip
    refine v_iconst (v := 0) dX3_judge_81 (by decide +kernel) ?_
    exact v_ret (ty := .int) dX3_judge_82 rfl rfl rfl
  refine v_aload_n dX3_judge_31 rfl rfl ?_
  refine v_getr dX3_judge_32 kf_X3_16 h.1 rfl ?_
  refine v_cw (fun z hz => runV (as := []) dX3_judge_35 kv_X3_215 rfl rfl (Nat.le_of_ble_eq_true rfl) (Nat.le_of_ble_eq_true rfl) (recvW h.2.2.1.1 rfl rfl) (ct_X1_passYear _ h.2.2.1 _) hz) (fun s5 => ?_)
  refine v_iconst (v := 0) dX3_judge_38 (by decide +kernel) ?_
  refine v_istore_n (L' := [(3, .int (0 : Int32)), (0, .ref b), (1, .int a1), (2, .int c3)]) dX3_judge_39 rfl (by decide) rfl ?_
  refine v_pick [1, 2, 3, 0] rfl (wL_X3_judge_40 b a1 c3 s5 h _ (fun _ => ?_) FU _)
  refine v_iinc (v := (c3 + (1 : Int32))) (L' := [(2, .int (c3 + (1 : Int32))), (0, .ref b), (1, .int a1)]) dX3_judge_75 rfl rfl (by decide) rfl ?_
  refine v_goto (tgt := 23) dX3_judge_78 (by decide) ?_
  exact v_pick [1, 2, 0] rfl (hrec _ _)
theorem wL_X3_judge_23 {SH : SHT} (b : Nat) (a1 : Int32) (h : isOaths SH b) : ∀ (n : Nat) (c3 : Int32) (s4 : St), VF mX3_judge 4 SH jI 23 [(0, .ref b), (1, .int a1), (2, .int c3)] [] s4 (L_X3_judge_23 b a1 n c3 s4) := by
  intro n
  induction n with
  | zero => intros; exact v_none
  | succ n ih => intro c3 s4; exact wB_X3_judge_23 b a1 h _ ih c3 s4
set_option maxHeartbeats 4000000 in
set_option maxRecDepth 100000 in
theorem w_X3_judge {SH : SHT} (b : Nat) (a1 : Int32) (h : isOaths SH b) (s0 : St) : VF mX3_judge 4 SH jI 0 [(0, .ref b), (1, .int a1)] [] s0 (f_X3_judge b a1 s0) := by
  unfold f_X3_judge
  refine v_aload_n dX3_judge_0 rfl rfl ?_
  refine v_iload_n dX3_judge_1 rfl rfl ?_
  refine v_cpI (fun z hz => runV (as := [.int a1]) dX3_judge_2 kv_X3_114 rfl rfl (Nat.le_of_ble_eq_true rfl) (Nat.le_of_ble_eq_true rfl) (recvW h.1 rfl rfl) (ct_X3_isPerson _ _ h _) hz) (fun x1 => ?_)
  refine v_if_ne (tgt := 10) dX3_judge_5 (by decide) (fun _ => ?_) (fun _ => ?_)
  · skip
    refine v_aload_n dX3_judge_10 rfl rfl ?_
    refine v_getr dX3_judge_11 kf_X3_16 h.1 rfl ?_
    refine v_aload_n dX3_judge_14 rfl rfl ?_
    refine v_getr dX3_judge_15 kf_X3_10 h.1 rfl ?_
    refine v_cw (fun z hz => runV (as := [.ref (b + 1)]) dX3_judge_18 kv_X3_80 rfl rfl (Nat.le_of_ble_eq_true rfl) (Nat.le_of_ble_eq_true rfl) (recvW h.2.2.1.1 rfl rfl) (ct_X1_become _ _ h.2.2.1 h.2.1 _) hz) (fun s2 => ?_)
    refine v_iconst (v := 0) dX3_judge_21 (by decide +kernel) ?_
    refine v_istore_n (L' := [(2, .int (0 : Int32)), (0, .ref b), (1, .int a1)]) dX3_judge_22 rfl (by decide) rfl ?_
    exact v_pick [1, 2, 0] rfl (wL_X3_judge_23 b a1 h FU _ _)
  refine v_iconst (v := -1) dX3_judge_8 (by decide +kernel) ?_
  exact v_ret (ty := .int) dX3_judge_9 rfl rfl rfl
theorem ct_X3_judge {SH : SHT} (b : Nat) (a1 : Int32) (h : isOaths SH b) (s0 : St) : CT yX3_judge mX3_judge 4 SH jI [.ref b, .int a1] s0 (f_X3_judge b a1 s0) := CT.of (by decide +kernel) rfl (fun E => Nat.le_of_ble_eq_true rfl) (w_X3_judge b a1 h s0)
set_option maxHeartbeats 4000000 in
set_option maxRecDepth 100000 in
theorem wB_X3_minds_98 {SH : SHT} (b : Nat) (a1 : Int32) (a2 : Int32) (a3 : Int32) (a4 : Int32) (h : isOaths SH b) (rec : Int32 → St → Option (Int32 × St)) (hrec : ∀ (c9 : Int32) (s10 : St), VF mX3_minds 2 SH jI 98 [(0, .ref b), (1, .int a1), (2, .int a2), (3, .int a3), (4, .int a4), (5, .int c9)] [] s10 (rec c9 s10)) (K : St → Option (Int32 × St)) (hK : ∀ (s11 : St), VF mX3_minds 2 SH jI 138 [(4, .int a4)] [] s11 (K s11)) (c9 : Int32) (s10 : St) : VF mX3_minds 2 SH jI 98 [(0, .ref b), (1, .int a1), (2, .int a2), (3, .int a3), (4, .int a4), (5, .int c9)] [] s10 (B_X3_minds_98 rec b a1 a2 a3 a4 K c9 s10) := by
  unfold B_X3_minds_98
  refine v_iload dX3_minds_98 rfl ?_
  refine v_iload dX3_minds_100 rfl ?_
  refine v_icmp_ge (tgt := 138) dX3_minds_102 (by decide) (fun _ => ?_) (fun _ => ?_)
  · skip
    exact v_pick [4] rfl (hK _)
  refine v_aload_n dX3_minds_105 rfl rfl ?_
  refine v_getr dX3_minds_106 kf_X3_10 h.1 rfl ?_
  refine v_getr dX3_minds_109 kf_X3_123 h.2.1.1 rfl ?_
  refine v_iload_n dX3_minds_112 rfl rfl ?_
  refine v_iload dX3_minds_113 rfl ?_
  refine v_iadd dX3_minds_115 ?_
  refine v_aload_n dX3_minds_116 rfl rfl ?_
  refine v_getr dX3_minds_117 kf_X3_43 h.1 rfl ?_
  refine v_iload_n dX3_minds_120 rfl rfl ?_
  refine v_gd (fun g12 => ?_)
  refine v_aald dX3_minds_121 (Or.inr rfl) h.2.2.2.2.2.2.2.2.2.1 g12 (rng_get (ib_lt g12)) ?_
  refine v_iload_n dX3_minds_122 rfl rfl ?_
  refine v_iload dX3_minds_123 rfl ?_
  refine v_iadd dX3_minds_125 ?_
  refine v_gd (fun g13 => ?_)
  refine v_lald dX3_minds_126 (h.2.2.2.2.2.2.2.2.2.2.1 _ (ib_lt g12)) g13 rfl ?_
  refine v_l2i dX3_minds_127 ?_
  refine v_cpI (fun z hz => runT (as := [.int ((gL s10 ((b + 44) + ix a1) (ix (a2 + c9)))).toInt32]) dX3_minds_128 kt_X3_245 rfl rfl (Nat.le_of_ble_eq_true rfl) (Nat.le_of_ble_eq_true rfl) (ct_X3_heldSure _  _) hz) (fun x14 => ?_)
  refine v_gd (fun g15 => ?_)
  refine v_iast dX3_minds_131 h.2.1.2.2.2.2.2.2.2.1 g15 rfl (v_st fun s16 => ?_)
  refine v_iinc (v := (c9 + (1 : Int32))) (L' := [(5, .int (c9 + (1 : Int32))), (0, .ref b), (1, .int a1), (2, .int a2), (3, .int a3), (4, .int a4)]) dX3_minds_132 rfl rfl (by decide) rfl ?_
  refine v_goto (tgt := 98) dX3_minds_135 (by decide) ?_
  exact v_pick [1, 2, 3, 4, 5, 0] rfl (hrec _ _)
theorem wL_X3_minds_98 {SH : SHT} (b : Nat) (a1 : Int32) (a2 : Int32) (a3 : Int32) (a4 : Int32) (h : isOaths SH b) (K : St → Option (Int32 × St)) (hK : ∀ (s11 : St), VF mX3_minds 2 SH jI 138 [(4, .int a4)] [] s11 (K s11)) : ∀ (n : Nat) (c9 : Int32) (s10 : St), VF mX3_minds 2 SH jI 98 [(0, .ref b), (1, .int a1), (2, .int a2), (3, .int a3), (4, .int a4), (5, .int c9)] [] s10 (L_X3_minds_98 b a1 a2 a3 a4 K n c9 s10) := by
  intro n
  induction n with
  | zero => intros; exact v_none
  | succ n ih => intro c9 s10; exact wB_X3_minds_98 b a1 a2 a3 a4 h _ ih K hK c9 s10
set_option maxHeartbeats 4000000 in
set_option maxRecDepth 100000 in
theorem w_X3_minds {SH : SHT} (b : Nat) (a1 : Int32) (a2 : Int32) (a3 : Int32) (a4 : Int32) (h : isOaths SH b) (s0 : St) : VF mX3_minds 2 SH jI 0 [(0, .ref b), (1, .int a1), (2, .int a2), (3, .int a3), (4, .int a4)] [] s0 (f_X3_minds b a1 a2 a3 a4 s0) := by
  unfold f_X3_minds
  refine v_iload_n dX3_minds_0 rfl rfl ?_
  refine v_cpI (fun z hz => runT (as := [.int a1]) dX3_minds_1 kt_X3_225 rfl rfl (Nat.le_of_ble_eq_true rfl) (Nat.le_of_ble_eq_true rfl) (ct_X3_isSheet _  _) hz) (fun x1 => ?_)
  refine v_if_eq (tgt := 39) dX3_minds_4 (by decide) (fun _ => ?_) (fun _ => ?_)
  · skip
    refine v_iconst (v := -1) dX3_minds_39 (by decide +kernel) ?_
    exact v_ret (ty := .int) dX3_minds_40 rfl rfl rfl
  refine v_aload_n dX3_minds_7 rfl rfl ?_
  refine v_iload_n dX3_minds_8 rfl rfl ?_
  refine v_cpI (fun z hz => runV (as := [.int a3]) dX3_minds_9 kv_X3_114 rfl rfl (Nat.le_of_ble_eq_true rfl) (Nat.le_of_ble_eq_true rfl) (recvW h.1 rfl rfl) (ct_X3_isPerson _ _ h _) hz) (fun x2 => ?_)
  refine v_if_eq (tgt := 39) dX3_minds_12 (by decide) (fun _ => ?_) (fun _ => ?_)
  · skip
    refine v_iconst (v := -1) dX3_minds_39 (by decide +kernel) ?_
    exact v_ret (ty := .int) dX3_minds_40 rfl rfl rfl
  refine v_iload dX3_minds_15 rfl ?_
  refine v_bipush (v := 8) dX3_minds_17 (by decide +kernel) ?_
  refine v_cpI (fun z hz => runT (as := [.int a4, .int (8 : Int32)]) dX3_minds_19 kt_X3_97 rfl rfl (Nat.le_of_ble_eq_true rfl) (Nat.le_of_ble_eq_true rfl) (ct_X3_isWithin _ _  _) hz) (fun x3 => ?_)
  refine v_if_eq (tgt := 39) dX3_minds_22 (by decide) (fun _ => ?_) (fun _ => ?_)
  · skip
    refine v_iconst (v := -1) dX3_minds_39 (by decide +kernel) ?_
    exact v_ret (ty := .int) dX3_minds_40 rfl rfl rfl
  refine v_iload_n dX3_minds_25 rfl rfl ?_
  refine v_iload dX3_minds_26 rfl ?_
  refine v_iadd dX3_minds_28 ?_
  refine v_aload_n dX3_minds_29 rfl rfl ?_
  refine v_getr dX3_minds_30 kf_X3_10 h.1 rfl ?_
  refine v_geti dX3_minds_33 kf_X3_87 h.2.1.1 rfl ?_
  refine v_icmp_le (tgt := 41) dX3_minds_36 (by decide) (fun _ => ?_) (fun _ => ?_)
  · skip
    refine v_aload_n dX3_minds_41 rfl rfl ?_
    refine v_getr dX3_minds_42 kf_X3_34 h.1 rfl ?_
    refine v_iload_n dX3_minds_45 rfl rfl ?_
    refine v_gd (fun g4 => ?_)
    refine v_iald dX3_minds_46 h.2.2.2.2.2.2.2.1 g4 rfl ?_
    refine v_iconst (v := -1) dX3_minds_47 (by decide +kernel) ?_
    refine v_icmp_ne (tgt := 54) dX3_minds_48 (by decide) (fun _ => ?_) (fun _ => ?_)
    · skip
      refine v_aload_n dX3_minds_54 rfl rfl ?_
      refine v_getr dX3_minds_55 kf_X3_34 h.1 rfl ?_
      refine v_iload_n dX3_minds_58 rfl rfl ?_
      refine v_gd (fun g5 => ?_)
      refine v_iald dX3_minds_59 h.2.2.2.2.2.2.2.1 g5 rfl ?_
      refine v_if_eq (tgt := 66) dX3_minds_60 (by decide) (fun _ => ?_) (fun _ => ?_)
      · skip
        refine v_iload_n dX3_minds_66 rfl rfl ?_
        refine v_aload_n dX3_minds_67 rfl rfl ?_
        refine v_getr dX3_minds_68 kf_X3_38 h.1 rfl ?_
        refine v_iload_n dX3_minds_71 rfl rfl ?_
        refine v_gd (fun g6 => ?_)
        refine v_iald dX3_minds_72 h.2.2.2.2.2.2.2.2.1 g6 rfl ?_
        refine v_cpI (fun z hz => runT (as := [.int a2, .int (gA s0 (b + 42) (ix a1))]) dX3_minds_73 kt_X3_97 rfl rfl (Nat.le_of_ble_eq_true rfl) (Nat.le_of_ble_eq_true rfl) (ct_X3_isWithin _ _  _) hz) (fun x7 => ?_)
        refine v_if_eq (tgt := 92) dX3_minds_76 (by decide) (fun _ => ?_) (fun _ => ?_)
        · skip
          refine v_bipush (v := -12) dX3_minds_92 (by decide +kernel) ?_
          exact v_ret (ty := .int) dX3_minds_94 rfl rfl rfl
        refine v_iload dX3_minds_79 rfl ?_
        refine v_aload_n dX3_minds_81 rfl rfl ?_
        refine v_getr dX3_minds_82 kf_X3_38 h.1 rfl ?_
        refine v_iload_n dX3_minds_85 rfl rfl ?_
        refine v_gd (fun g8 => ?_)
        refine v_iald dX3_minds_86 h.2.2.2.2.2.2.2.2.1 g8 rfl ?_
        refine v_iload_n dX3_minds_87 rfl rfl ?_
        refine v_isub dX3_minds_88 ?_
        refine v_icmp_le (tgt := 95) dX3_minds_89 (by decide) (fun _ => ?_) (fun _ => ?_)
        · skip
          refine v_iconst (v := 0) dX3_minds_95 (by decide +kernel) ?_
          refine v_istore (L' := [(5, .int (0 : Int32)), (0, .ref b), (1, .int a1), (2, .int a2), (3, .int a3), (4, .int a4)]) dX3_minds_96 (by decide) rfl ?_
          refine v_pick [1, 2, 3, 4, 5, 0] rfl (wL_X3_minds_98 b a1 a2 a3 a4 h _ (fun s11 => ?_) FU _ _)
          refine v_iload dX3_minds_138 rfl ?_
          exact v_ret (ty := .int) dX3_minds_140 rfl rfl rfl
        refine v_bipush (v := -12) dX3_minds_92 (by decide +kernel) ?_
        exact v_ret (ty := .int) dX3_minds_94 rfl rfl rfl
      refine v_bipush (v := -13) dX3_minds_63 (by decide +kernel) ?_
      exact v_ret (ty := .int) dX3_minds_65 rfl rfl rfl
    refine v_bipush (v := -11) dX3_minds_51 (by decide +kernel) ?_
    exact v_ret (ty := .int) dX3_minds_53 rfl rfl rfl
  refine v_iconst (v := -1) dX3_minds_39 (by decide +kernel) ?_
  exact v_ret (ty := .int) dX3_minds_40 rfl rfl rfl
theorem ct_X3_minds {SH : SHT} (b : Nat) (a1 : Int32) (a2 : Int32) (a3 : Int32) (a4 : Int32) (h : isOaths SH b) (s0 : St) : CT yX3_minds mX3_minds 2 SH jI [.ref b, .int a1, .int a2, .int a3, .int a4] s0 (f_X3_minds b a1 a2 a3 a4 s0) := CT.of (by decide +kernel) rfl (fun E => Nat.le_of_ble_eq_true rfl) (w_X3_minds b a1 a2 a3 a4 h s0)
set_option maxHeartbeats 4000000 in
set_option maxRecDepth 100000 in
theorem wB_X3_sheet_66 {SH : SHT} (b : Nat) (a1 : Int32) (h : isOaths SH b) (rec : Int32 → St → Option (Int32 × St)) (hrec : ∀ (c8 : Int32) (s9 : St), VF mX3_sheet 1 SH jI 66 [(0, .ref b), (1, .int a1), (5, .int c8)] [] s9 (rec c8 s9)) (K : St → Option (Int32 × St)) (hK : ∀ (s10 : St), VF mX3_sheet 1 SH jI 89 [] [] s10 (K s10)) (c8 : Int32) (s9 : St) : VF mX3_sheet 1 SH jI 66 [(0, .ref b), (1, .int a1), (5, .int c8)] [] s9 (B_X3_sheet_66 rec b a1 K c8 s9) := by
  unfold B_X3_sheet_66
  refine v_iload dX3_sheet_66 rfl ?_
  refine v_bipush (v := 40) dX3_sheet_68 (by decide +kernel) ?_
  refine v_icmp_ge (tgt := 89) dX3_sheet_70 (by decide) (fun _ => ?_) (fun _ => ?_)
  · skip
    exact v_pick [] rfl (hK _)
  refine v_aload_n dX3_sheet_73 rfl rfl ?_
  refine v_getr dX3_sheet_74 kf_X3_43 h.1 rfl ?_
  refine v_iload_n dX3_sheet_77 rfl rfl ?_
  refine v_gd (fun g11 => ?_)
  refine v_aald dX3_sheet_78 (Or.inr rfl) h.2.2.2.2.2.2.2.2.2.1 g11 (rng_get (ib_lt g11)) ?_
  refine v_iload dX3_sheet_79 rfl ?_
  refine v_lconst (v := 0) dX3_sheet_81 (by decide +kernel) ?_
  refine v_gd (fun g12 => ?_)
  refine v_last dX3_sheet_82 (h.2.2.2.2.2.2.2.2.2.2.1 _ (ib_lt g11)) g12 rfl (v_st fun s13 => ?_)
  refine v_iinc (v := (c8 + (1 : Int32))) (L' := [(5, .int (c8 + (1 : Int32))), (0, .ref b), (1, .int a1)]) dX3_sheet_83 rfl rfl (by decide) rfl ?_
  refine v_goto (tgt := 66) dX3_sheet_86 (by decide) ?_
  exact v_pick [1, 2, 0] rfl (hrec _ _)
theorem wL_X3_sheet_66 {SH : SHT} (b : Nat) (a1 : Int32) (h : isOaths SH b) (K : St → Option (Int32 × St)) (hK : ∀ (s10 : St), VF mX3_sheet 1 SH jI 89 [] [] s10 (K s10)) : ∀ (n : Nat) (c8 : Int32) (s9 : St), VF mX3_sheet 1 SH jI 66 [(0, .ref b), (1, .int a1), (5, .int c8)] [] s9 (L_X3_sheet_66 b a1 K n c8 s9) := by
  intro n
  induction n with
  | zero => intros; exact v_none
  | succ n ih => intro c8 s9; exact wB_X3_sheet_66 b a1 h _ ih K hK c8 s9
set_option maxHeartbeats 4000000 in
set_option maxRecDepth 100000 in
theorem w_X3_sheet {SH : SHT} (b : Nat) (a1 : Int32) (a2 : Int32) (a3 : Int32) (h : isOaths SH b) (s0 : St) : VF mX3_sheet 1 SH jI 0 [(0, .ref b), (1, .int a1), (2, .int a2), (3, .int a3)] [] s0 (f_X3_sheet b a1 a2 a3 s0) := by
  unfold f_X3_sheet
  refine v_iload_n dX3_sheet_0 rfl rfl ?_
  refine v_cpI (fun z hz => runT (as := [.int a1]) dX3_sheet_1 kt_X3_225 rfl rfl (Nat.le_of_ble_eq_true rfl) (Nat.le_of_ble_eq_true rfl) (ct_X3_isSheet _  _) hz) (fun x1 => ?_)
  refine v_if_eq (tgt := 17) dX3_sheet_4 (by decide) (fun _ => ?_) (fun _ => ?_)
  · skip
    refine v_iconst (v := -1) dX3_sheet_17 (by decide +kernel) ?_
    exact v_ret (ty := .int) dX3_sheet_18 rfl rfl rfl
  refine v_iload_n dX3_sheet_7 rfl rfl ?_
  refine v_iconst (v := -1) dX3_sheet_8 (by decide +kernel) ?_
  refine v_icmp_lt (tgt := 17) dX3_sheet_9 (by decide) (fun _ => ?_) (fun _ => ?_)
  · skip
    refine v_iconst (v := -1) dX3_sheet_17 (by decide +kernel) ?_
    exact v_ret (ty := .int) dX3_sheet_18 rfl rfl rfl
  refine v_iload_n dX3_sheet_12 rfl rfl ?_
  refine v_iconst (v := 4) dX3_sheet_13 (by decide +kernel) ?_
  refine v_icmp_lt (tgt := 19) dX3_sheet_14 (by decide) (fun _ => ?_) (fun _ => ?_)
  · skip
    refine v_iload_n dX3_sheet_19 rfl rfl ?_
    refine v_iconst (v := -1) dX3_sheet_20 (by decide +kernel) ?_
    refine v_bnK (fun K3 => ∀ (t2 : Int32), VF mX3_sheet 1 SH jI 29 [(0, .ref b), (1, .int a1), (2, .int a2)] [.int t2] s0 (K3 t2)) (fun K3 hK3 => ?_) (fun t2 => ?_)
    · skip
      refine v_icmp_ne (tgt := 28) dX3_sheet_21 (by decide) (fun _ => ?_) (fun _ => ?_)
      · skip
        refine v_iload_n dX3_sheet_28 rfl rfl ?_
        exact v_pick [0, 1, 2] rfl (hK3 _)
      refine v_iconst (v := 0) dX3_sheet_24 (by decide +kernel) ?_
      refine v_goto (tgt := 29) dX3_sheet_25 (by decide) ?_
      exact v_pick [0, 1, 2] rfl (hK3 _)
    refine v_istore (L' := [(4, .int t2), (0, .ref b), (1, .int a1), (2, .int a2)]) dX3_sheet_29 (by decide) rfl ?_
    refine v_iload dX3_sheet_31 rfl ?_
    refine v_bipush (v := 40) dX3_sheet_33 (by decide +kernel) ?_
    refine v_icmp_le (tgt := 40) dX3_sheet_35 (by decide) (fun _ => ?_) (fun _ => ?_)
    · skip
      refine v_iload dX3_sheet_40 rfl ?_
      refine v_if_ge (tgt := 48) dX3_sheet_42 (by decide) (fun _ => ?_) (fun _ => ?_)
      · skip
        refine v_aload_n dX3_sheet_48 rfl rfl ?_
        refine v_getr dX3_sheet_49 kf_X3_34 h.1 rfl ?_
        refine v_iload_n dX3_sheet_52 rfl rfl ?_
        refine v_iload_n dX3_sheet_53 rfl rfl ?_
        refine v_gd (fun g4 => ?_)
        refine v_iast dX3_sheet_54 h.2.2.2.2.2.2.2.1 g4 rfl (v_st fun s5 => ?_)
        refine v_aload_n dX3_sheet_55 rfl rfl ?_
        refine v_getr dX3_sheet_56 kf_X3_38 h.1 rfl ?_
        refine v_iload_n dX3_sheet_59 rfl rfl ?_
        refine v_iload dX3_sheet_60 rfl ?_
        refine v_gd (fun g6 => ?_)
        refine v_iast dX3_sheet_62 h.2.2.2.2.2.2.2.2.1 g6 rfl (v_st fun s7 => ?_)
        refine v_iconst (v := 0) dX3_sheet_63 (by decide +kernel) ?_
        refine v_istore (L' := [(5, .int (0 : Int32)), (4, .int t2), (0, .ref b), (1, .int a1), (2, .int a2)]) dX3_sheet_64 (by decide) rfl ?_
        refine v_pick [2, 3, 0] rfl (wL_X3_sheet_66 b a1 h _ (fun s10 => ?_) FU _ _)
        refine v_iconst (v := 1) dX3_sheet_89 (by decide +kernel) ?_
        exact v_ret (ty := .int) dX3_sheet_90 rfl rfl rfl
      refine v_bipush (v := -14) dX3_sheet_45 (by decide +kernel) ?_
      exact v_ret (ty := .int) dX3_sheet_47 rfl rfl rfl
    refine v_iconst (v := -1) dX3_sheet_38 (by decide +kernel) ?_
    exact v_ret (ty := .int) dX3_sheet_39 rfl rfl rfl
  refine v_iconst (v := -1) dX3_sheet_17 (by decide +kernel) ?_
  exact v_ret (ty := .int) dX3_sheet_18 rfl rfl rfl
theorem ct_X3_sheet {SH : SHT} (b : Nat) (a1 : Int32) (a2 : Int32) (a3 : Int32) (h : isOaths SH b) (s0 : St) : CT yX3_sheet mX3_sheet 1 SH jI [.ref b, .int a1, .int a2, .int a3] s0 (f_X3_sheet b a1 a2 a3 s0) := CT.of (by decide +kernel) rfl (fun E => Nat.le_of_ble_eq_true rfl) (w_X3_sheet b a1 a2 a3 h s0)
set_option maxHeartbeats 4000000 in
set_option maxRecDepth 100000 in
theorem w_X3_narrowed {SH : SHT} (a0 : Int32) (a1 : Int32) (s0 : St) : VF mX3_narrowed 0 SH (jQ s0) 0 [(0, .int a0), (1, .int a1)] [] s0 (f_X3_narrowed a0 a1) := by
  unfold f_X3_narrowed
  refine v_iload_n dX3_narrowed_0 rfl rfl ?_
  refine v_lsw (cs := [(0, 28), (1, 32)]) (dt := 36) dX3_narrowed_1 (by decide +kernel) (by decide) (by decide +kernel) (by decide +kernel) ?_
  refine v_swc (fun _ => ?_) (fun _ => ?_)
  · skip
    refine v_iload_n dX3_narrowed_28 rfl rfl ?_
    refine v_i2b dX3_narrowed_29 ?_
    refine v_i2l dX3_narrowed_30 ?_
    exact v_lret dX3_narrowed_31 rfl rfl
  refine v_swc (fun _ => ?_) (fun _ => ?_)
  · skip
    refine v_iload_n dX3_narrowed_32 rfl rfl ?_
    refine v_i2s dX3_narrowed_33 ?_
    refine v_i2l dX3_narrowed_34 ?_
    exact v_lret dX3_narrowed_35 rfl rfl
  refine v_swn ?_
  refine v_iload_n dX3_narrowed_36 rfl rfl ?_
  refine v_i2l dX3_narrowed_37 ?_
  exact v_lret dX3_narrowed_38 rfl rfl
theorem ct_X3_narrowed {SH : SHT} (a0 : Int32) (a1 : Int32) (s0 : St) : CT yX3_narrowed mX3_narrowed 0 SH (jQ s0) [.int a0, .int a1] s0 (f_X3_narrowed a0 a1) := CT.of (by decide +kernel) rfl (fun E => Nat.le_of_ble_eq_true rfl) (w_X3_narrowed a0 a1  s0)
set_option maxHeartbeats 4000000 in
set_option maxRecDepth 100000 in
theorem w_X3_put {SH : SHT} (b : Nat) (a1 : Int32) (a2 : Int32) (a3 : Int32) (h : isOaths SH b) (s0 : St) : VF mX3_put 1 SH jI 0 [(0, .ref b), (1, .int a1), (2, .int a2), (3, .int a3)] [] s0 (f_X3_put b a1 a2 a3 s0) := by
  unfold f_X3_put
  refine v_iload_n dX3_put_0 rfl rfl ?_
  refine v_cpI (fun z hz => runT (as := [.int a1]) dX3_put_1 kt_X3_225 rfl rfl (Nat.le_of_ble_eq_true rfl) (Nat.le_of_ble_eq_true rfl) (ct_X3_isSheet _  _) hz) (fun x1 => ?_)
  refine v_if_ne (tgt := 9) dX3_put_4 (by decide) (fun _ => ?_) (fun _ => ?_)
  · skip
    refine v_aload_n dX3_put_9 rfl rfl ?_
    refine v_getr dX3_put_10 kf_X3_34 h.1 rfl ?_
    refine v_iload_n dX3_put_13 rfl rfl ?_
    refine v_gd (fun g2 => ?_)
    refine v_iald dX3_put_14 h.2.2.2.2.2.2.2.1 g2 rfl ?_
    refine v_iconst (v := -1) dX3_put_15 (by decide +kernel) ?_
    refine v_icmp_ne (tgt := 22) dX3_put_16 (by decide) (fun _ => ?_) (fun _ => ?_)
    · skip
      refine v_iload_n dX3_put_22 rfl rfl ?_
      refine v_if_lt (tgt := 36) dX3_put_23 (by decide) (fun _ => ?_) (fun _ => ?_)
      · skip
        refine v_bipush (v := -12) dX3_put_36 (by decide +kernel) ?_
        exact v_ret (ty := .int) dX3_put_38 rfl rfl rfl
      refine v_iload_n dX3_put_26 rfl rfl ?_
      refine v_aload_n dX3_put_27 rfl rfl ?_
      refine v_getr dX3_put_28 kf_X3_38 h.1 rfl ?_
      refine v_iload_n dX3_put_31 rfl rfl ?_
      refine v_gd (fun g3 => ?_)
      refine v_iald dX3_put_32 h.2.2.2.2.2.2.2.2.1 g3 rfl ?_
      refine v_icmp_lt (tgt := 39) dX3_put_33 (by decide) (fun _ => ?_) (fun _ => ?_)
      · skip
        refine v_aload_n dX3_put_39 rfl rfl ?_
        refine v_getr dX3_put_40 kf_X3_43 h.1 rfl ?_
        refine v_iload_n dX3_put_43 rfl rfl ?_
        refine v_gd (fun g4 => ?_)
        refine v_aald dX3_put_44 (Or.inr rfl) h.2.2.2.2.2.2.2.2.2.1 g4 (rng_get (ib_lt g4)) ?_
        refine v_iload_n dX3_put_45 rfl rfl ?_
        refine v_iload_n dX3_put_46 rfl rfl ?_
        refine v_aload_n dX3_put_47 rfl rfl ?_
        refine v_getr dX3_put_48 kf_X3_34 h.1 rfl ?_
        refine v_iload_n dX3_put_51 rfl rfl ?_
        refine v_gd (fun g5 => ?_)
        refine v_iald dX3_put_52 h.2.2.2.2.2.2.2.1 g5 rfl ?_
        refine v_cpL (fun z hz => runT (as := [.int a3, .int (gA s0 (b + 41) (ix a1))]) dX3_put_53 kt_X3_248 rfl rfl (Nat.le_of_ble_eq_true rfl) (Nat.le_of_ble_eq_true rfl) (ct_X3_narrowed _ _  _) hz) (fun x6 => ?_)
        refine v_gd (fun g7 => ?_)
        refine v_last dX3_put_56 (h.2.2.2.2.2.2.2.2.2.2.1 _ (ib_lt g4)) g7 rfl (v_st fun s8 => ?_)
        refine v_iconst (v := 1) dX3_put_57 (by decide +kernel) ?_
        exact v_ret (ty := .int) dX3_put_58 rfl rfl rfl
      refine v_bipush (v := -12) dX3_put_36 (by decide +kernel) ?_
      exact v_ret (ty := .int) dX3_put_38 rfl rfl rfl
    refine v_bipush (v := -11) dX3_put_19 (by decide +kernel) ?_
    exact v_ret (ty := .int) dX3_put_21 rfl rfl rfl
  refine v_iconst (v := -1) dX3_put_7 (by decide +kernel) ?_
  exact v_ret (ty := .int) dX3_put_8 rfl rfl rfl
theorem ct_X3_put {SH : SHT} (b : Nat) (a1 : Int32) (a2 : Int32) (a3 : Int32) (h : isOaths SH b) (s0 : St) : CT yX3_put mX3_put 1 SH jI [.ref b, .int a1, .int a2, .int a3] s0 (f_X3_put b a1 a2 a3 s0) := CT.of (by decide +kernel) rfl (fun E => Nat.le_of_ble_eq_true rfl) (w_X3_put b a1 a2 a3 h s0)
