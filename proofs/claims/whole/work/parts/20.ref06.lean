set_option maxHeartbeats 4000000 in
set_option maxRecDepth 100000 in
theorem wB_X4_minds_103 {SH : SHT} (b : Nat) (a1 : Int32) (a2 : Int32) (a3 : Int32) (a4 : Int32) (h : isModel SH b) (rec : Int32 → St → Option (Int32 × St)) (hrec : ∀ (c9 : Int32) (s10 : St), VF mX4_minds 2 SH jI 103 [(0, .ref b), (1, .int a1), (2, .int a2), (3, .int a3), (4, .int a4), (5, .int c9)] [] s10 (rec c9 s10)) (K : St → Option (Int32 × St)) (hK : ∀ (s11 : St), VF mX4_minds 2 SH jI 143 [(4, .int a4)] [] s11 (K s11)) (c9 : Int32) (s10 : St) : VF mX4_minds 2 SH jI 103 [(0, .ref b), (1, .int a1), (2, .int a2), (3, .int a3), (4, .int a4), (5, .int c9)] [] s10 (B_X4_minds_103 rec b a1 a2 a3 a4 K c9 s10) := by
  unfold B_X4_minds_103
  refine v_iload dX4_minds_103 rfl ?_
  refine v_iload dX4_minds_105 rfl ?_
  refine v_icmp_ge (tgt := 143) dX4_minds_107 (by decide) (fun _ => ?_) (fun _ => ?_)
  · skip
    exact v_pick [4] rfl (hK _)
  refine v_aload_n dX4_minds_110 rfl rfl ?_
  refine v_iload_n dX4_minds_111 rfl rfl ?_
  refine v_iload dX4_minds_112 rfl ?_
  refine v_iadd dX4_minds_114 ?_
  refine v_iconst (v := 2) dX4_minds_115 (by decide +kernel) ?_
  refine v_aload_n dX4_minds_116 rfl rfl ?_
  refine v_getr dX4_minds_117 kf_X4_38 h.1 rfl ?_
  refine v_bipush (v := 40) dX4_minds_120 (by decide +kernel) ?_
  refine v_iload_n dX4_minds_122 rfl rfl ?_
  refine v_imul dX4_minds_123 ?_
  refine v_iload_n dX4_minds_124 rfl rfl ?_
  refine v_iadd dX4_minds_125 ?_
  refine v_iload dX4_minds_126 rfl ?_
  refine v_iadd dX4_minds_128 ?_
  refine v_gd (fun g12 => ?_)
  refine v_lald dX4_minds_129 h.2.2.2.2.2.2.2.2.2.2.1 g12 rfl ?_
  refine v_l2i dX4_minds_130 ?_
  refine v_cpI (fun z hz => runT (as := [.int ((gL s10 (b + 10) (ix ((((40 : Int32) * a1) + a2) + c9)))).toInt32]) dX4_minds_131 kt_X4_75 rfl rfl (Nat.le_of_ble_eq_true rfl) (Nat.le_of_ble_eq_true rfl) (ct_X4_held _  _) hz) (fun x13 => ?_)
  refine v_cw (fun z hz => runV (as := [.int (a3 + c9), .int (2 : Int32), .int x13]) dX4_minds_134 kv_X4_103 rfl rfl (Nat.le_of_ble_eq_true rfl) (Nat.le_of_ble_eq_true rfl) (recvW h.1 rfl rfl) (ct_X4_puts _ _ _ _ h _) hz) (fun s14 => ?_)
  refine v_iinc (v := (c9 + (1 : Int32))) (L' := [(5, .int (c9 + (1 : Int32))), (0, .ref b), (1, .int a1), (2, .int a2), (3, .int a3), (4, .int a4)]) dX4_minds_137 rfl rfl (by decide) rfl ?_
  refine v_goto (tgt := 103) dX4_minds_140 (by decide) ?_
  exact v_pick [1, 2, 3, 4, 5, 0] rfl (hrec _ _)
theorem wL_X4_minds_103 {SH : SHT} (b : Nat) (a1 : Int32) (a2 : Int32) (a3 : Int32) (a4 : Int32) (h : isModel SH b) (K : St → Option (Int32 × St)) (hK : ∀ (s11 : St), VF mX4_minds 2 SH jI 143 [(4, .int a4)] [] s11 (K s11)) : ∀ (n : Nat) (c9 : Int32) (s10 : St), VF mX4_minds 2 SH jI 103 [(0, .ref b), (1, .int a1), (2, .int a2), (3, .int a3), (4, .int a4), (5, .int c9)] [] s10 (L_X4_minds_103 b a1 a2 a3 a4 K n c9 s10) := by
  intro n
  induction n with
  | zero => intros; exact v_none
  | succ n ih => intro c9 s10; exact wB_X4_minds_103 b a1 a2 a3 a4 h _ ih K hK c9 s10
set_option maxHeartbeats 4000000 in
set_option maxRecDepth 100000 in
theorem w_X4_minds {SH : SHT} (b : Nat) (a1 : Int32) (a2 : Int32) (a3 : Int32) (a4 : Int32) (h : isModel SH b) (s0 : St) : VF mX4_minds 2 SH jI 0 [(0, .ref b), (1, .int a1), (2, .int a2), (3, .int a3), (4, .int a4)] [] s0 (f_X4_minds b a1 a2 a3 a4 s0) := by
  unfold f_X4_minds
  refine v_iload_n dX4_minds_0 rfl rfl ?_
  refine v_cpI (fun z hz => runT (as := [.int a1]) dX4_minds_1 kt_X4_199 rfl rfl (Nat.le_of_ble_eq_true rfl) (Nat.le_of_ble_eq_true rfl) (ct_X4_isSheet _  _) hz) (fun x1 => ?_)
  refine v_if_eq (tgt := 41) dX4_minds_4 (by decide) (fun _ => ?_) (fun _ => ?_)
  · skip
    refine v_iconst (v := -1) dX4_minds_41 (by decide +kernel) ?_
    exact v_ret (ty := .int) dX4_minds_42 rfl rfl rfl
  refine v_aload_n dX4_minds_7 rfl rfl ?_
  refine v_iload_n dX4_minds_8 rfl rfl ?_
  refine v_cpI (fun z hz => runV (as := [.int a3]) dX4_minds_9 kv_X4_127 rfl rfl (Nat.le_of_ble_eq_true rfl) (Nat.le_of_ble_eq_true rfl) (recvW h.1 rfl rfl) (ct_X4_isPerson _ _ h _) hz) (fun x2 => ?_)
  refine v_if_eq (tgt := 41) dX4_minds_12 (by decide) (fun _ => ?_) (fun _ => ?_)
  · skip
    refine v_iconst (v := -1) dX4_minds_41 (by decide +kernel) ?_
    exact v_ret (ty := .int) dX4_minds_42 rfl rfl rfl
  refine v_iload dX4_minds_15 rfl ?_
  refine v_i2l dX4_minds_17 ?_
  refine v_lconst (v := 0) dX4_minds_18 (by decide +kernel) ?_
  refine v_ldc2 dX4_minds_19 kcL_X4_210 ?_
  refine v_cpI (fun z hz => runT (as := [.long (a4).toInt64, .long (0 : Int64), .long (8 : Int64)]) dX4_minds_22 kt_X4_61 rfl rfl (Nat.le_of_ble_eq_true rfl) (Nat.le_of_ble_eq_true rfl) (ct_X4_in _ _ _  _) hz) (fun x3 => ?_)
  refine v_if_eq (tgt := 41) dX4_minds_25 (by decide) (fun _ => ?_) (fun _ => ?_)
  · skip
    refine v_iconst (v := -1) dX4_minds_41 (by decide +kernel) ?_
    exact v_ret (ty := .int) dX4_minds_42 rfl rfl rfl
  refine v_iload dX4_minds_28 rfl ?_
  refine v_aload_n dX4_minds_30 rfl rfl ?_
  refine v_getr dX4_minds_31 kf_X4_7 h.1 rfl ?_
  refine v_iconst (v := 5) dX4_minds_34 (by decide +kernel) ?_
  refine v_iald dX4_minds_35 h.2.1 (by decide +kernel) (j := 5) (by decide +kernel) ?_
  refine v_iload_n dX4_minds_36 rfl rfl ?_
  refine v_isub dX4_minds_37 ?_
  refine v_icmp_le (tgt := 43) dX4_minds_38 (by decide) (fun _ => ?_) (fun _ => ?_)
  · skip
    refine v_aload_n dX4_minds_43 rfl rfl ?_
    refine v_getr dX4_minds_44 kf_X4_32 h.1 rfl ?_
    refine v_iload_n dX4_minds_47 rfl rfl ?_
    refine v_gd (fun g4 => ?_)
    refine v_iald dX4_minds_48 h.2.2.2.2.2.2.2.2.1 g4 rfl ?_
    refine v_if_ne (tgt := 55) dX4_minds_49 (by decide) (fun _ => ?_) (fun _ => ?_)
    · skip
      refine v_aload_n dX4_minds_55 rfl rfl ?_
      refine v_getr dX4_minds_56 kf_X4_32 h.1 rfl ?_
      refine v_iload_n dX4_minds_59 rfl rfl ?_
      refine v_gd (fun g5 => ?_)
      refine v_iald dX4_minds_60 h.2.2.2.2.2.2.2.2.1 g5 rfl ?_
      refine v_iconst (v := 1) dX4_minds_61 (by decide +kernel) ?_
      refine v_icmp_eq (tgt := 68) dX4_minds_62 (by decide) (fun _ => ?_) (fun _ => ?_)
      · skip
        refine v_iload_n dX4_minds_68 rfl rfl ?_
        refine v_i2l dX4_minds_69 ?_
        refine v_lconst (v := 0) dX4_minds_70 (by decide +kernel) ?_
        refine v_aload_n dX4_minds_71 rfl rfl ?_
        refine v_getr dX4_minds_72 kf_X4_35 h.1 rfl ?_
        refine v_iload_n dX4_minds_75 rfl rfl ?_
        refine v_gd (fun g6 => ?_)
        refine v_iald dX4_minds_76 h.2.2.2.2.2.2.2.2.2.1 g6 rfl ?_
        refine v_i2l dX4_minds_77 ?_
        refine v_cpI (fun z hz => runT (as := [.long (a2).toInt64, .long (0 : Int64), .long ((gA s0 (b + 9) (ix a1))).toInt64]) dX4_minds_78 kt_X4_61 rfl rfl (Nat.le_of_ble_eq_true rfl) (Nat.le_of_ble_eq_true rfl) (ct_X4_in _ _ _  _) hz) (fun x7 => ?_)
        refine v_if_eq (tgt := 97) dX4_minds_81 (by decide) (fun _ => ?_) (fun _ => ?_)
        · skip
          refine v_bipush (v := -12) dX4_minds_97 (by decide +kernel) ?_
          exact v_ret (ty := .int) dX4_minds_99 rfl rfl rfl
        refine v_iload dX4_minds_84 rfl ?_
        refine v_aload_n dX4_minds_86 rfl rfl ?_
        refine v_getr dX4_minds_87 kf_X4_35 h.1 rfl ?_
        refine v_iload_n dX4_minds_90 rfl rfl ?_
        refine v_gd (fun g8 => ?_)
        refine v_iald dX4_minds_91 h.2.2.2.2.2.2.2.2.2.1 g8 rfl ?_
        refine v_iload_n dX4_minds_92 rfl rfl ?_
        refine v_isub dX4_minds_93 ?_
        refine v_icmp_le (tgt := 100) dX4_minds_94 (by decide) (fun _ => ?_) (fun _ => ?_)
        · skip
          refine v_iconst (v := 0) dX4_minds_100 (by decide +kernel) ?_
          refine v_istore (L' := [(5, .int (0 : Int32)), (0, .ref b), (1, .int a1), (2, .int a2), (3, .int a3), (4, .int a4)]) dX4_minds_101 (by decide) rfl ?_
          refine v_pick [1, 2, 3, 4, 5, 0] rfl (wL_X4_minds_103 b a1 a2 a3 a4 h _ (fun s11 => ?_) FU _ _)
          refine v_iload dX4_minds_143 rfl ?_
          exact v_ret (ty := .int) dX4_minds_145 rfl rfl rfl
        refine v_bipush (v := -12) dX4_minds_97 (by decide +kernel) ?_
        exact v_ret (ty := .int) dX4_minds_99 rfl rfl rfl
      refine v_bipush (v := -13) dX4_minds_65 (by decide +kernel) ?_
      exact v_ret (ty := .int) dX4_minds_67 rfl rfl rfl
    refine v_bipush (v := -11) dX4_minds_52 (by decide +kernel) ?_
    exact v_ret (ty := .int) dX4_minds_54 rfl rfl rfl
  refine v_iconst (v := -1) dX4_minds_41 (by decide +kernel) ?_
  exact v_ret (ty := .int) dX4_minds_42 rfl rfl rfl
theorem ct_X4_minds {SH : SHT} (b : Nat) (a1 : Int32) (a2 : Int32) (a3 : Int32) (a4 : Int32) (h : isModel SH b) (s0 : St) : CT yX4_minds mX4_minds 2 SH jI [.ref b, .int a1, .int a2, .int a3, .int a4] s0 (f_X4_minds b a1 a2 a3 a4 s0) := CT.of (by decide +kernel) rfl (fun E => Nat.le_of_ble_eq_true rfl) (w_X4_minds b a1 a2 a3 a4 h s0)
set_option maxHeartbeats 4000000 in
set_option maxRecDepth 100000 in
theorem wB_X4_sheet_71 {SH : SHT} (b : Nat) (a1 : Int32) (h : isModel SH b) (rec : Int32 → St → Option (Int32 × St)) (hrec : ∀ (c9 : Int32) (s10 : St), VF mX4_sheet 2 SH jI 71 [(0, .ref b), (1, .int a1), (4, .int c9)] [] s10 (rec c9 s10)) (K : St → Option (Int32 × St)) (hK : ∀ (s11 : St), VF mX4_sheet 2 SH jI 97 [] [] s11 (K s11)) (c9 : Int32) (s10 : St) : VF mX4_sheet 2 SH jI 71 [(0, .ref b), (1, .int a1), (4, .int c9)] [] s10 (B_X4_sheet_71 rec b a1 K c9 s10) := by
  unfold B_X4_sheet_71
  refine v_iload dX4_sheet_71 rfl ?_
  refine v_bipush (v := 40) dX4_sheet_73 (by decide +kernel) ?_
  refine v_icmp_ge (tgt := 97) dX4_sheet_75 (by decide) (fun _ => ?_) (fun _ => ?_)
  · skip
    exact v_pick [] rfl (hK _)
  refine v_aload_n dX4_sheet_78 rfl rfl ?_
  refine v_getr dX4_sheet_79 kf_X4_38 h.1 rfl ?_
  refine v_bipush (v := 40) dX4_sheet_82 (by decide +kernel) ?_
  refine v_iload_n dX4_sheet_84 rfl rfl ?_
  refine v_imul dX4_sheet_85 ?_
  refine v_iload dX4_sheet_86 rfl ?_
  refine v_iadd dX4_sheet_88 ?_
  refine v_lconst (v := 0) dX4_sheet_89 (by decide +kernel) ?_
  refine v_gd (fun g12 => ?_)
  refine v_last dX4_sheet_90 h.2.2.2.2.2.2.2.2.2.2.1 g12 rfl (v_st fun s13 => ?_)
  refine v_iinc (v := (c9 + (1 : Int32))) (L' := [(4, .int (c9 + (1 : Int32))), (0, .ref b), (1, .int a1)]) dX4_sheet_91 rfl rfl (by decide) rfl ?_
  refine v_goto (tgt := 71) dX4_sheet_94 (by decide) ?_
  exact v_pick [1, 2, 0] rfl (hrec _ _)
theorem wL_X4_sheet_71 {SH : SHT} (b : Nat) (a1 : Int32) (h : isModel SH b) (K : St → Option (Int32 × St)) (hK : ∀ (s11 : St), VF mX4_sheet 2 SH jI 97 [] [] s11 (K s11)) : ∀ (n : Nat) (c9 : Int32) (s10 : St), VF mX4_sheet 2 SH jI 71 [(0, .ref b), (1, .int a1), (4, .int c9)] [] s10 (L_X4_sheet_71 b a1 K n c9 s10) := by
  intro n
  induction n with
  | zero => intros; exact v_none
  | succ n ih => intro c9 s10; exact wB_X4_sheet_71 b a1 h _ ih K hK c9 s10
set_option maxHeartbeats 4000000 in
set_option maxRecDepth 100000 in
theorem w_X4_sheet {SH : SHT} (b : Nat) (a1 : Int32) (a2 : Int32) (a3 : Int32) (h : isModel SH b) (s0 : St) : VF mX4_sheet 2 SH jI 0 [(0, .ref b), (1, .int a1), (2, .int a2), (3, .int a3)] [] s0 (f_X4_sheet b a1 a2 a3 s0) := by
  unfold f_X4_sheet
  refine v_iload_n dX4_sheet_0 rfl rfl ?_
  refine v_cpI (fun z hz => runT (as := [.int a1]) dX4_sheet_1 kt_X4_199 rfl rfl (Nat.le_of_ble_eq_true rfl) (Nat.le_of_ble_eq_true rfl) (ct_X4_isSheet _  _) hz) (fun x1 => ?_)
  refine v_if_eq (tgt := 31) dX4_sheet_4 (by decide) (fun _ => ?_) (fun _ => ?_)
  · skip
    refine v_iconst (v := -1) dX4_sheet_31 (by decide +kernel) ?_
    exact v_ret (ty := .int) dX4_sheet_32 rfl rfl rfl
  refine v_iload_n dX4_sheet_7 rfl rfl ?_
  refine v_i2l dX4_sheet_8 ?_
  refine v_ldc2 dX4_sheet_9 kcL_X4_143 ?_
  refine v_ldc2 dX4_sheet_12 kcL_X4_110 ?_
  refine v_cpI (fun z hz => runT (as := [.long (a2).toInt64, .long (-1 : Int64), .long (3 : Int64)]) dX4_sheet_15 kt_X4_61 rfl rfl (Nat.le_of_ble_eq_true rfl) (Nat.le_of_ble_eq_true rfl) (ct_X4_in _ _ _  _) hz) (fun x2 => ?_)
  refine v_if_eq (tgt := 31) dX4_sheet_18 (by decide) (fun _ => ?_) (fun _ => ?_)
  · skip
    refine v_iconst (v := -1) dX4_sheet_31 (by decide +kernel) ?_
    exact v_ret (ty := .int) dX4_sheet_32 rfl rfl rfl
  refine v_iload_n dX4_sheet_21 rfl rfl ?_
  refine v_if_lt (tgt := 33) dX4_sheet_22 (by decide) (fun _ => ?_) (fun _ => ?_)
  · skip
    refine v_iload_n dX4_sheet_33 rfl rfl ?_
    refine v_if_lt (tgt := 44) dX4_sheet_34 (by decide) (fun _ => ?_) (fun _ => ?_)
    · skip
      refine v_aload_n dX4_sheet_44 rfl rfl ?_
      refine v_getr dX4_sheet_45 kf_X4_32 h.1 rfl ?_
      refine v_iload_n dX4_sheet_48 rfl rfl ?_
      refine v_iload_n dX4_sheet_49 rfl rfl ?_
      refine v_iconst (v := 1) dX4_sheet_50 (by decide +kernel) ?_
      refine v_iadd dX4_sheet_51 ?_
      refine v_gd (fun g3 => ?_)
      refine v_iast dX4_sheet_52 h.2.2.2.2.2.2.2.2.1 g3 rfl (v_st fun s4 => ?_)
      refine v_aload_n dX4_sheet_53 rfl rfl ?_
      refine v_getr dX4_sheet_54 kf_X4_35 h.1 rfl ?_
      refine v_iload_n dX4_sheet_57 rfl rfl ?_
      refine v_iload_n dX4_sheet_58 rfl rfl ?_
      refine v_bnK (fun K6 => ∀ (t5 : Int32), VF mX4_sheet 2 SH jI 67 [(0, .ref b), (1, .int a1)] [.int t5, .int a1, .ref (b + 9)] s4 (K6 t5)) (fun K6 hK6 => ?_) (fun t5 => ?_)
      · skip
        refine v_if_ge (tgt := 66) dX4_sheet_59 (by decide) (fun _ => ?_) (fun _ => ?_)
        · skip
          refine v_iload_n dX4_sheet_66 rfl rfl ?_
          exact v_pick [0, 1] rfl (hK6 _)
        refine v_iconst (v := 0) dX4_sheet_62 (by decide +kernel) ?_
        refine v_goto (tgt := 67) dX4_sheet_63 (by decide) ?_
        exact v_pick [0, 1] rfl (hK6 _)
      refine v_gd (fun g7 => ?_)
      refine v_iast dX4_sheet_67 h.2.2.2.2.2.2.2.2.2.1 g7 rfl (v_st fun s8 => ?_)
      refine v_iconst (v := 0) dX4_sheet_68 (by decide +kernel) ?_
      refine v_istore (L' := [(4, .int (0 : Int32)), (0, .ref b), (1, .int a1)]) dX4_sheet_69 (by decide) rfl ?_
      refine v_pick [1, 2, 0] rfl (wL_X4_sheet_71 b a1 h _ (fun s11 => ?_) FU _ _)
      refine v_iconst (v := 1) dX4_sheet_97 (by decide +kernel) ?_
      exact v_ret (ty := .int) dX4_sheet_98 rfl rfl rfl
    refine v_iload_n dX4_sheet_37 rfl rfl ?_
    refine v_if_ge (tgt := 44) dX4_sheet_38 (by decide) (fun _ => ?_) (fun _ => ?_)
    · skip
      refine v_aload_n dX4_sheet_44 rfl rfl ?_
      refine v_getr dX4_sheet_45 kf_X4_32 h.1 rfl ?_
      refine v_iload_n dX4_sheet_48 rfl rfl ?_
      refine v_iload_n dX4_sheet_49 rfl rfl ?_
      refine v_iconst (v := 1) dX4_sheet_50 (by decide +kernel) ?_
      refine v_iadd dX4_sheet_51 ?_
      refine v_gd (fun g14 => ?_)
      refine v_iast dX4_sheet_52 h.2.2.2.2.2.2.2.2.1 g14 rfl (v_st fun s15 => ?_)
      refine v_aload_n dX4_sheet_53 rfl rfl ?_
      refine v_getr dX4_sheet_54 kf_X4_35 h.1 rfl ?_
      refine v_iload_n dX4_sheet_57 rfl rfl ?_
      refine v_iload_n dX4_sheet_58 rfl rfl ?_
      refine v_bnK (fun K17 => ∀ (t16 : Int32), VF mX4_sheet 2 SH jI 67 [(0, .ref b), (1, .int a1)] [.int t16, .int a1, .ref (b + 9)] s15 (K17 t16)) (fun K17 hK17 => ?_) (fun t16 => ?_)
      · skip
        refine v_if_ge (tgt := 66) dX4_sheet_59 (by decide) (fun _ => ?_) (fun _ => ?_)
        · skip
          refine v_iload_n dX4_sheet_66 rfl rfl ?_
          exact v_pick [0, 1] rfl (hK17 _)
        refine v_iconst (v := 0) dX4_sheet_62 (by decide +kernel) ?_
        refine v_goto (tgt := 67) dX4_sheet_63 (by decide) ?_
        exact v_pick [0, 1] rfl (hK17 _)
      refine v_gd (fun g18 => ?_)
      refine v_iast dX4_sheet_67 h.2.2.2.2.2.2.2.2.2.1 g18 rfl (v_st fun s19 => ?_)
      refine v_iconst (v := 0) dX4_sheet_68 (by decide +kernel) ?_
      refine v_istore (L' := [(4, .int (0 : Int32)), (0, .ref b), (1, .int a1)]) dX4_sheet_69 (by decide) rfl ?_
      refine v_pick [1, 2, 0] rfl (wL_X4_sheet_71 b a1 h _ (fun s22 => ?_) FU _ _)
      refine v_iconst (v := 1) dX4_sheet_97 (by decide +kernel) ?_
      exact v_ret (ty := .int) dX4_sheet_98 rfl rfl rfl
    refine v_bipush (v := -14) dX4_sheet_41 (by decide +kernel) ?_
    exact v_ret (ty := .int) dX4_sheet_43 rfl rfl rfl
  refine v_iload_n dX4_sheet_25 rfl rfl ?_
  refine v_bipush (v := 40) dX4_sheet_26 (by decide +kernel) ?_
  refine v_icmp_le (tgt := 33) dX4_sheet_28 (by decide) (fun _ => ?_) (fun _ => ?_)
  · skip
    refine v_iload_n dX4_sheet_33 rfl rfl ?_
    refine v_if_lt (tgt := 44) dX4_sheet_34 (by decide) (fun _ => ?_) (fun _ => ?_)
    · skip
      refine v_aload_n dX4_sheet_44 rfl rfl ?_
      refine v_getr dX4_sheet_45 kf_X4_32 h.1 rfl ?_
      refine v_iload_n dX4_sheet_48 rfl rfl ?_
      refine v_iload_n dX4_sheet_49 rfl rfl ?_
      refine v_iconst (v := 1) dX4_sheet_50 (by decide +kernel) ?_
      refine v_iadd dX4_sheet_51 ?_
      refine v_gd (fun g25 => ?_)
      refine v_iast dX4_sheet_52 h.2.2.2.2.2.2.2.2.1 g25 rfl (v_st fun s26 => ?_)
      refine v_aload_n dX4_sheet_53 rfl rfl ?_
      refine v_getr dX4_sheet_54 kf_X4_35 h.1 rfl ?_
      refine v_iload_n dX4_sheet_57 rfl rfl ?_
      refine v_iload_n dX4_sheet_58 rfl rfl ?_
      refine v_bnK (fun K28 => ∀ (t27 : Int32), VF mX4_sheet 2 SH jI 67 [(0, .ref b), (1, .int a1)] [.int t27, .int a1, .ref (b + 9)] s26 (K28 t27)) (fun K28 hK28 => ?_) (fun t27 => ?_)
      · skip
        refine v_if_ge (tgt := 66) dX4_sheet_59 (by decide) (fun _ => ?_) (fun _ => ?_)
        · skip
          refine v_iload_n dX4_sheet_66 rfl rfl ?_
          exact v_pick [0, 1] rfl (hK28 _)
        refine v_iconst (v := 0) dX4_sheet_62 (by decide +kernel) ?_
        refine v_goto (tgt := 67) dX4_sheet_63 (by decide) ?_
        exact v_pick [0, 1] rfl (hK28 _)
      refine v_gd (fun g29 => ?_)
      refine v_iast dX4_sheet_67 h.2.2.2.2.2.2.2.2.2.1 g29 rfl (v_st fun s30 => ?_)
      refine v_iconst (v := 0) dX4_sheet_68 (by decide +kernel) ?_
      refine v_istore (L' := [(4, .int (0 : Int32)), (0, .ref b), (1, .int a1)]) dX4_sheet_69 (by decide) rfl ?_
      refine v_pick [1, 2, 0] rfl (wL_X4_sheet_71 b a1 h _ (fun s33 => ?_) FU _ _)
      refine v_iconst (v := 1) dX4_sheet_97 (by decide +kernel) ?_
      exact v_ret (ty := .int) dX4_sheet_98 rfl rfl rfl
    refine v_iload_n dX4_sheet_37 rfl rfl ?_
    refine v_if_ge (tgt := 44) dX4_sheet_38 (by decide) (fun _ => ?_) (fun _ => ?_)
    · skip
      refine v_aload_n dX4_sheet_44 rfl rfl ?_
      refine v_getr dX4_sheet_45 kf_X4_32 h.1 rfl ?_
      refine v_iload_n dX4_sheet_48 rfl rfl ?_
      refine v_iload_n dX4_sheet_49 rfl rfl ?_
      refine v_iconst (v := 1) dX4_sheet_50 (by decide +kernel) ?_
      refine v_iadd dX4_sheet_51 ?_
      refine v_gd (fun g36 => ?_)
      refine v_iast dX4_sheet_52 h.2.2.2.2.2.2.2.2.1 g36 rfl (v_st fun s37 => ?_)
      refine v_aload_n dX4_sheet_53 rfl rfl ?_
      refine v_getr dX4_sheet_54 kf_X4_35 h.1 rfl ?_
      refine v_iload_n dX4_sheet_57 rfl rfl ?_
      refine v_iload_n dX4_sheet_58 rfl rfl ?_
      refine v_bnK (fun K39 => ∀ (t38 : Int32), VF mX4_sheet 2 SH jI 67 [(0, .ref b), (1, .int a1)] [.int t38, .int a1, .ref (b + 9)] s37 (K39 t38)) (fun K39 hK39 => ?_) (fun t38 => ?_)
      · skip
        refine v_if_ge (tgt := 66) dX4_sheet_59 (by decide) (fun _ => ?_) (fun _ => ?_)
        · skip
          refine v_iload_n dX4_sheet_66 rfl rfl ?_
          exact v_pick [0, 1] rfl (hK39 _)
        refine v_iconst (v := 0) dX4_sheet_62 (by decide +kernel) ?_
        refine v_goto (tgt := 67) dX4_sheet_63 (by decide) ?_
        exact v_pick [0, 1] rfl (hK39 _)
      refine v_gd (fun g40 => ?_)
      refine v_iast dX4_sheet_67 h.2.2.2.2.2.2.2.2.2.1 g40 rfl (v_st fun s41 => ?_)
      refine v_iconst (v := 0) dX4_sheet_68 (by decide +kernel) ?_
      refine v_istore (L' := [(4, .int (0 : Int32)), (0, .ref b), (1, .int a1)]) dX4_sheet_69 (by decide) rfl ?_
      refine v_pick [1, 2, 0] rfl (wL_X4_sheet_71 b a1 h _ (fun s44 => ?_) FU _ _)
      refine v_iconst (v := 1) dX4_sheet_97 (by decide +kernel) ?_
      exact v_ret (ty := .int) dX4_sheet_98 rfl rfl rfl
    refine v_bipush (v := -14) dX4_sheet_41 (by decide +kernel) ?_
    exact v_ret (ty := .int) dX4_sheet_43 rfl rfl rfl
  refine v_iconst (v := -1) dX4_sheet_31 (by decide +kernel) ?_
  exact v_ret (ty := .int) dX4_sheet_32 rfl rfl rfl
theorem ct_X4_sheet {SH : SHT} (b : Nat) (a1 : Int32) (a2 : Int32) (a3 : Int32) (h : isModel SH b) (s0 : St) : CT yX4_sheet mX4_sheet 2 SH jI [.ref b, .int a1, .int a2, .int a3] s0 (f_X4_sheet b a1 a2 a3 s0) := CT.of (by decide +kernel) rfl (fun E => Nat.le_of_ble_eq_true rfl) (w_X4_sheet b a1 a2 a3 h s0)
set_option maxHeartbeats 4000000 in
set_option maxRecDepth 100000 in
theorem w_X4_put {SH : SHT} (b : Nat) (a1 : Int32) (a2 : Int32) (a3 : Int32) (h : isModel SH b) (s0 : St) : VF mX4_put 2 SH jI 0 [(0, .ref b), (1, .int a1), (2, .int a2), (3, .int a3)] [] s0 (f_X4_put b a1 a2 a3 s0) := by
  unfold f_X4_put
  refine v_iload_n dX4_put_0 rfl rfl ?_
  refine v_cpI (fun z hz => runT (as := [.int a1]) dX4_put_1 kt_X4_199 rfl rfl (Nat.le_of_ble_eq_true rfl) (Nat.le_of_ble_eq_true rfl) (ct_X4_isSheet _  _) hz) (fun x1 => ?_)
  refine v_if_ne (tgt := 9) dX4_put_4 (by decide) (fun _ => ?_) (fun _ => ?_)
  · skip
    refine v_aload_n dX4_put_9 rfl rfl ?_
    refine v_getr dX4_put_10 kf_X4_32 h.1 rfl ?_
    refine v_iload_n dX4_put_13 rfl rfl ?_
    refine v_gd (fun g2 => ?_)
    refine v_iald dX4_put_14 h.2.2.2.2.2.2.2.2.1 g2 rfl ?_
    refine v_if_ne (tgt := 21) dX4_put_15 (by decide) (fun _ => ?_) (fun _ => ?_)
    · skip
      refine v_iload_n dX4_put_21 rfl rfl ?_
      refine v_i2l dX4_put_22 ?_
      refine v_lconst (v := 0) dX4_put_23 (by decide +kernel) ?_
      refine v_aload_n dX4_put_24 rfl rfl ?_
      refine v_getr dX4_put_25 kf_X4_35 h.1 rfl ?_
      refine v_iload_n dX4_put_28 rfl rfl ?_
      refine v_gd (fun g3 => ?_)
      refine v_iald dX4_put_29 h.2.2.2.2.2.2.2.2.2.1 g3 rfl ?_
      refine v_iconst (v := 1) dX4_put_30 (by decide +kernel) ?_
      refine v_isub dX4_put_31 ?_
      refine v_i2l dX4_put_32 ?_
      refine v_cpI (fun z hz => runT (as := [.long (a2).toInt64, .long (0 : Int64), .long (((gA s0 (b + 9) (ix a1)) - (1 : Int32))).toInt64]) dX4_put_33 kt_X4_61 rfl rfl (Nat.le_of_ble_eq_true rfl) (Nat.le_of_ble_eq_true rfl) (ct_X4_in _ _ _  _) hz) (fun x4 => ?_)
      refine v_if_ne (tgt := 42) dX4_put_36 (by decide) (fun _ => ?_) (fun _ => ?_)
      · skip
        refine v_aload_n dX4_put_42 rfl rfl ?_
        refine v_getr dX4_put_43 kf_X4_38 h.1 rfl ?_
        refine v_bipush (v := 40) dX4_put_46 (by decide +kernel) ?_
        refine v_iload_n dX4_put_48 rfl rfl ?_
        refine v_imul dX4_put_49 ?_
        refine v_iload_n dX4_put_50 rfl rfl ?_
        refine v_iadd dX4_put_51 ?_
        refine v_aload_n dX4_put_52 rfl rfl ?_
        refine v_getr dX4_put_53 kf_X4_32 h.1 rfl ?_
        refine v_iload_n dX4_put_56 rfl rfl ?_
        refine v_gd (fun g5 => ?_)
        refine v_iald dX4_put_57 h.2.2.2.2.2.2.2.2.1 g5 rfl ?_
        refine v_iconst (v := 1) dX4_put_58 (by decide +kernel) ?_
        refine v_icmp_ne (tgt := 68) dX4_put_59 (by decide) (fun _ => ?_) (fun _ => ?_)
        · skip
          refine v_aload_n dX4_put_68 rfl rfl ?_
          refine v_getr dX4_put_69 kf_X4_32 h.1 rfl ?_
          refine v_iload_n dX4_put_72 rfl rfl ?_
          refine v_gd (fun g6 => ?_)
          refine v_iald dX4_put_73 h.2.2.2.2.2.2.2.2.1 g6 rfl ?_
          refine v_iconst (v := 2) dX4_put_74 (by decide +kernel) ?_
          refine v_icmp_ne (tgt := 84) dX4_put_75 (by decide) (fun _ => ?_) (fun _ => ?_)
          · skip
            refine v_iload_n dX4_put_84 rfl rfl ?_
            refine v_i2l dX4_put_85 ?_
            refine v_gd (fun g7 => ?_)
            refine v_last dX4_put_86 h.2.2.2.2.2.2.2.2.2.2.1 g7 rfl (v_st fun s8 => ?_)
            refine v_iconst (v := 1) dX4_put_87 (by decide +kernel) ?_
            exact v_ret (ty := .int) dX4_put_88 rfl rfl rfl
          refine v_iload_n dX4_put_78 rfl rfl ?_
          refine v_i2s dX4_put_79 ?_
          refine v_i2l dX4_put_80 ?_
          refine v_goto (tgt := 86) dX4_put_81 (by decide) ?_
          refine v_gd (fun g9 => ?_)
          refine v_last dX4_put_86 h.2.2.2.2.2.2.2.2.2.2.1 g9 rfl (v_st fun s10 => ?_)
          refine v_iconst (v := 1) dX4_put_87 (by decide +kernel) ?_
          exact v_ret (ty := .int) dX4_put_88 rfl rfl rfl
        refine v_iload_n dX4_put_62 rfl rfl ?_
        refine v_i2b dX4_put_63 ?_
        refine v_i2l dX4_put_64 ?_
        refine v_goto (tgt := 86) dX4_put_65 (by decide) ?_
        refine v_gd (fun g11 => ?_)
        refine v_last dX4_put_86 h.2.2.2.2.2.2.2.2.2.2.1 g11 rfl (v_st fun s12 => ?_)
        refine v_iconst (v := 1) dX4_put_87 (by decide +kernel) ?_
        exact v_ret (ty := .int) dX4_put_88 rfl rfl rfl
      refine v_bipush (v := -12) dX4_put_39 (by decide +kernel) ?_
      exact v_ret (ty := .int) dX4_put_41 rfl rfl rfl
    refine v_bipush (v := -11) dX4_put_18 (by decide +kernel) ?_
    exact v_ret (ty := .int) dX4_put_20 rfl rfl rfl
  refine v_iconst (v := -1) dX4_put_7 (by decide +kernel) ?_
  exact v_ret (ty := .int) dX4_put_8 rfl rfl rfl
theorem ct_X4_put {SH : SHT} (b : Nat) (a1 : Int32) (a2 : Int32) (a3 : Int32) (h : isModel SH b) (s0 : St) : CT yX4_put mX4_put 2 SH jI [.ref b, .int a1, .int a2, .int a3] s0 (f_X4_put b a1 a2 a3 s0) := CT.of (by decide +kernel) rfl (fun E => Nat.le_of_ble_eq_true rfl) (w_X4_put b a1 a2 a3 h s0)
set_option maxHeartbeats 4000000 in
set_option maxRecDepth 100000 in
theorem w_X4_item {SH : SHT} (b : Nat) (a1 : Int32) (a2 : Int32) (a3 : Int32) (h : isModel SH b) (s0 : St) : VF mX4_item 2 SH (jP s0) 0 [(0, .ref b), (1, .int a1), (2, .int a2), (3, .int a3)] [] s0 (f_X4_item b a1 a2 a3 s0) := by
  unfold f_X4_item
  refine v_iload_n dX4_item_0 rfl rfl ?_
  refine v_cpI (fun z hz => runT (as := [.int a1]) dX4_item_1 kt_X4_199 rfl rfl (Nat.le_of_ble_eq_true rfl) (Nat.le_of_ble_eq_true rfl) (ct_X4_isSheet _  _) hz) (fun x1 => ?_)
  refine v_if_eq (tgt := 19) dX4_item_4 (by decide) (fun _ => ?_) (fun _ => ?_)
  · skip
    refine v_iconst (v := -1) dX4_item_19 (by decide +kernel) ?_
    exact v_ret (ty := .int) dX4_item_20 rfl rfl rfl
  refine v_iload_n dX4_item_7 rfl rfl ?_
  refine v_i2l dX4_item_8 ?_
  refine v_lconst (v := 0) dX4_item_9 (by decide +kernel) ?_
  refine v_ldc2 dX4_item_10 kcL_X4_110 ?_
  refine v_cpI (fun z hz => runT (as := [.long (a2).toInt64, .long (0 : Int64), .long (3 : Int64)]) dX4_item_13 kt_X4_61 rfl rfl (Nat.le_of_ble_eq_true rfl) (Nat.le_of_ble_eq_true rfl) (ct_X4_in _ _ _  _) hz) (fun x2 => ?_)
  refine v_if_ne (tgt := 21) dX4_item_16 (by decide) (fun _ => ?_) (fun _ => ?_)
  · skip
    refine v_aload_n dX4_item_21 rfl rfl ?_
    refine v_getr dX4_item_22 kf_X4_32 h.1 rfl ?_
    refine v_iload_n dX4_item_25 rfl rfl ?_
    refine v_gd (fun g3 => ?_)
    refine v_iald dX4_item_26 h.2.2.2.2.2.2.2.2.1 g3 rfl ?_
    refine v_if_ne (tgt := 33) dX4_item_27 (by decide) (fun _ => ?_) (fun _ => ?_)
    · skip
      refine v_aload_n dX4_item_33 rfl rfl ?_
      refine v_getr dX4_item_34 kf_X4_32 h.1 rfl ?_
      refine v_iload_n dX4_item_37 rfl rfl ?_
      refine v_gd (fun g4 => ?_)
      refine v_iald dX4_item_38 h.2.2.2.2.2.2.2.2.1 g4 rfl ?_
      refine v_iload_n dX4_item_39 rfl rfl ?_
      refine v_iconst (v := 1) dX4_item_40 (by decide +kernel) ?_
      refine v_iadd dX4_item_41 ?_
      refine v_icmp_eq (tgt := 48) dX4_item_42 (by decide) (fun _ => ?_) (fun _ => ?_)
      · skip
        refine v_iload_n dX4_item_48 rfl rfl ?_
        refine v_i2l dX4_item_49 ?_
        refine v_lconst (v := 0) dX4_item_50 (by decide +kernel) ?_
        refine v_aload_n dX4_item_51 rfl rfl ?_
        refine v_getr dX4_item_52 kf_X4_35 h.1 rfl ?_
        refine v_iload_n dX4_item_55 rfl rfl ?_
        refine v_gd (fun g5 => ?_)
        refine v_iald dX4_item_56 h.2.2.2.2.2.2.2.2.2.1 g5 rfl ?_
        refine v_iconst (v := 1) dX4_item_57 (by decide +kernel) ?_
        refine v_isub dX4_item_58 ?_
        refine v_i2l dX4_item_59 ?_
        refine v_cpI (fun z hz => runT (as := [.long (a3).toInt64, .long (0 : Int64), .long (((gA s0 (b + 9) (ix a1)) - (1 : Int32))).toInt64]) dX4_item_60 kt_X4_61 rfl rfl (Nat.le_of_ble_eq_true rfl) (Nat.le_of_ble_eq_true rfl) (ct_X4_in _ _ _  _) hz) (fun x6 => ?_)
        refine v_if_eq (tgt := 81) dX4_item_63 (by decide) (fun _ => ?_) (fun _ => ?_)
        · skip
          refine v_bipush (v := -12) dX4_item_81 (by decide +kernel) ?_
          exact v_ret (ty := .int) dX4_item_83 rfl rfl rfl
        refine v_aload_n dX4_item_66 rfl rfl ?_
        refine v_getr dX4_item_67 kf_X4_38 h.1 rfl ?_
        refine v_bipush (v := 40) dX4_item_70 (by decide +kernel) ?_
        refine v_iload_n dX4_item_72 rfl rfl ?_
        refine v_imul dX4_item_73 ?_
        refine v_iload_n dX4_item_74 rfl rfl ?_
        refine v_iadd dX4_item_75 ?_
        refine v_gd (fun g7 => ?_)
        refine v_lald dX4_item_76 h.2.2.2.2.2.2.2.2.2.2.1 g7 rfl ?_
        refine v_l2i dX4_item_77 ?_
        refine v_goto (tgt := 83) dX4_item_78 (by decide) ?_
        exact v_ret (ty := .int) dX4_item_83 rfl rfl rfl
      refine v_bipush (v := -13) dX4_item_45 (by decide +kernel) ?_
      exact v_ret (ty := .int) dX4_item_47 rfl rfl rfl
    refine v_bipush (v := -11) dX4_item_30 (by decide +kernel) ?_
    exact v_ret (ty := .int) dX4_item_32 rfl rfl rfl
  refine v_iconst (v := -1) dX4_item_19 (by decide +kernel) ?_
  exact v_ret (ty := .int) dX4_item_20 rfl rfl rfl
theorem ct_X4_item {SH : SHT} (b : Nat) (a1 : Int32) (a2 : Int32) (a3 : Int32) (h : isModel SH b) (s0 : St) : CT yX4_item mX4_item 2 SH (jP s0) [.ref b, .int a1, .int a2, .int a3] s0 (f_X4_item b a1 a2 a3 s0) := CT.of (by decide +kernel) rfl (fun E => Nat.le_of_ble_eq_true rfl) (w_X4_item b a1 a2 a3 h s0)
set_option maxHeartbeats 4000000 in
set_option maxRecDepth 100000 in
theorem w_X4_shelf {SH : SHT} (b : Nat) (a1 : Int32) (a2 : Int32) (a3 : Int32) (h : isModel SH b) (s0 : St) : VF mX4_shelf 2 SH jI 0 [(0, .ref b), (1, .int a1), (2, .int a2), (3, .int a3)] [] s0 (f_X4_shelf b a1 a2 a3 s0) := by
  unfold f_X4_shelf
  refine v_iload_n dX4_shelf_0 rfl rfl ?_
  refine v_bnK (fun K2 => ∀ (t1 : Int32), VF mX4_shelf 2 SH jI 34 [(0, .ref b), (1, .int a1), (2, .int a2), (3, .int a3)] [.int t1] s0 (K2 t1)) (fun K2 hK2 => ?_) (fun t1 => ?_)
  · skip
    refine v_if_ne (tgt := 12) dX4_shelf_1 (by decide) (fun _ => ?_) (fun _ => ?_)
    · skip
      refine v_iload_n dX4_shelf_12 rfl rfl ?_
      refine v_iconst (v := 1) dX4_shelf_13 (by decide +kernel) ?_
      refine v_icmp_ne (tgt := 24) dX4_shelf_14 (by decide) (fun _ => ?_) (fun _ => ?_)
      · skip
        refine v_iload_n dX4_shelf_24 rfl rfl ?_
        refine v_iconst (v := 2) dX4_shelf_25 (by decide +kernel) ?_
        refine v_icmp_ne (tgt := 33) dX4_shelf_26 (by decide) (fun _ => ?_) (fun _ => ?_)
        · skip
          refine v_iconst (v := 0) dX4_shelf_33 (by decide +kernel) ?_
          exact v_pick [0, 1, 2, 3] rfl (hK2 _)
        refine v_iconst (v := 1) dX4_shelf_29 (by decide +kernel) ?_
        refine v_goto (tgt := 34) dX4_shelf_30 (by decide) ?_
        exact v_pick [0, 1, 2, 3] rfl (hK2 _)
      refine v_iload_n dX4_shelf_17 rfl rfl ?_
      refine v_cpI (fun z hz => runT (as := [.int a3]) dX4_shelf_18 kt_X4_199 rfl rfl (Nat.le_of_ble_eq_true rfl) (Nat.le_of_ble_eq_true rfl) (ct_X4_isSheet _  _) hz) (fun x3 => ?_)
      refine v_goto (tgt := 34) dX4_shelf_21 (by decide) ?_
      exact v_pick [0, 1, 2, 3] rfl (hK2 _)
    refine v_aload_n dX4_shelf_4 rfl rfl ?_
    refine v_iload_n dX4_shelf_5 rfl rfl ?_
    refine v_cpI (fun z hz => runV (as := [.int a3]) dX4_shelf_6 kv_X4_127 rfl rfl (Nat.le_of_ble_eq_true rfl) (Nat.le_of_ble_eq_true rfl) (recvW h.1 rfl rfl) (ct_X4_isPerson _ _ h _) hz) (fun x4 => ?_)
    refine v_goto (tgt := 34) dX4_shelf_9 (by decide) ?_
    exact v_pick [0, 1, 2, 3] rfl (hK2 _)
  refine v_istore (L' := [(4, .int t1), (0, .ref b), (1, .int a1), (2, .int a2), (3, .int a3)]) dX4_shelf_34 (by decide) rfl ?_
  refine v_iload_n dX4_shelf_36 rfl rfl ?_
  refine v_i2l dX4_shelf_37 ?_
  refine v_lconst (v := 0) dX4_shelf_38 (by decide +kernel) ?_
  refine v_ldc2 dX4_shelf_39 kcL_X4_110 ?_
  refine v_cpI (fun z hz => runT (as := [.long (a1).toInt64, .long (0 : Int64), .long (3 : Int64)]) dX4_shelf_42 kt_X4_61 rfl rfl (Nat.le_of_ble_eq_true rfl) (Nat.le_of_ble_eq_true rfl) (ct_X4_in _ _ _  _) hz) (fun x5 => ?_)
  refine v_if_eq (tgt := 53) dX4_shelf_45 (by decide) (fun _ => ?_) (fun _ => ?_)
  · skip
    refine v_iconst (v := -1) dX4_shelf_53 (by decide +kernel) ?_
    exact v_ret (ty := .int) dX4_shelf_54 rfl rfl rfl
  refine v_iload dX4_shelf_48 rfl ?_
  refine v_if_ne (tgt := 55) dX4_shelf_50 (by decide) (fun _ => ?_) (fun _ => ?_)
  · skip
    refine v_iload_n dX4_shelf_55 rfl rfl ?_
    refine v_iconst (v := 1) dX4_shelf_56 (by decide +kernel) ?_
    refine v_bnK (fun K7 => ∀ (t6 : Int32), VF mX4_shelf 2 SH jI 74 [(0, .ref b), (1, .int a1), (2, .int a2), (3, .int a3)] [.int t6] s0 (K7 t6)) (fun K7 hK7 => ?_) (fun t6 => ?_)
    · skip
      refine v_icmp_ne (tgt := 73) dX4_shelf_57 (by decide) (fun _ => ?_) (fun _ => ?_)
      · skip
        refine v_iconst (v := 0) dX4_shelf_73 (by decide +kernel) ?_
        exact v_pick [1, 2, 3, 4] rfl (hK7 _)
      refine v_aload_n dX4_shelf_60 rfl rfl ?_
      refine v_getr dX4_shelf_61 kf_X4_32 h.1 rfl ?_
      refine v_iload_n dX4_shelf_64 rfl rfl ?_
      refine v_gd (fun g8 => ?_)
      refine v_iald dX4_shelf_65 h.2.2.2.2.2.2.2.2.1 g8 rfl ?_
      refine v_if_le (tgt := 73) dX4_shelf_66 (by decide) (fun _ => ?_) (fun _ => ?_)
      · skip
        refine v_iconst (v := 0) dX4_shelf_73 (by decide +kernel) ?_
        exact v_pick [1, 2, 3, 4] rfl (hK7 _)
      refine v_iconst (v := 1) dX4_shelf_69 (by decide +kernel) ?_
      refine v_goto (tgt := 74) dX4_shelf_70 (by decide) ?_
      exact v_pick [1, 2, 3, 4] rfl (hK7 _)
    refine v_istore (L' := [(5, .int t6), (0, .ref b), (1, .int a1), (2, .int a2), (3, .int a3)]) dX4_shelf_74 (by decide) rfl ?_
    refine v_aload_n dX4_shelf_76 rfl rfl ?_
    refine v_getr dX4_shelf_77 kf_X4_42 h.1 rfl ?_
    refine v_iload_n dX4_shelf_80 rfl rfl ?_
    refine v_iload_n dX4_shelf_81 rfl rfl ?_
    refine v_bnK (fun K10 => ∀ (t9 : Int32), VF mX4_shelf 2 SH jI 99 [(0, .ref b), (1, .int a1), (2, .int a2), (3, .int a3), (5, .int t6)] [.int t9, .int a1, .ref (b + 11)] s0 (K10 t9)) (fun K10 hK10 => ?_) (fun t9 => ?_)
    · skip
      refine v_if_ne (tgt := 89) dX4_shelf_82 (by decide) (fun _ => ?_) (fun _ => ?_)
      · skip
        refine v_iload dX4_shelf_89 rfl ?_
        refine v_if_eq (tgt := 98) dX4_shelf_91 (by decide) (fun _ => ?_) (fun _ => ?_)
        · skip
          refine v_iconst (v := 0) dX4_shelf_98 (by decide +kernel) ?_
          exact v_pick [1, 2, 3, 4, 0] rfl (hK10 _)
        refine v_iconst (v := 2) dX4_shelf_94 (by decide +kernel) ?_
        refine v_goto (tgt := 99) dX4_shelf_95 (by decide) ?_
        exact v_pick [1, 2, 3, 4, 0] rfl (hK10 _)
      refine v_iconst (v := 1) dX4_shelf_85 (by decide +kernel) ?_
      refine v_goto (tgt := 99) dX4_shelf_86 (by decide) ?_
      exact v_pick [1, 2, 3, 4, 0] rfl (hK10 _)
    refine v_gd (fun g11 => ?_)
    refine v_iast dX4_shelf_99 h.2.2.2.2.2.2.2.2.2.2.2.1 g11 rfl (v_st fun s12 => ?_)
    refine v_aload_n dX4_shelf_100 rfl rfl ?_
    refine v_getr dX4_shelf_101 kf_X4_45 h.1 rfl ?_
    refine v_iload_n dX4_shelf_104 rfl rfl ?_
    refine v_iload_n dX4_shelf_105 rfl rfl ?_
    refine v_bnK (fun K14 => ∀ (t13 : Int32), VF mX4_shelf 2 SH jI 130 [(0, .ref b), (1, .int a1), (3, .int a3), (5, .int t6)] [.int t13, .int a1, .ref (b + 12)] s12 (K14 t13)) (fun K14 hK14 => ?_) (fun t13 => ?_)
    · skip
      refine v_if_ne (tgt := 113) dX4_shelf_106 (by decide) (fun _ => ?_) (fun _ => ?_)
      · skip
        refine v_iload dX4_shelf_113 rfl ?_
        refine v_if_eq (tgt := 129) dX4_shelf_115 (by decide) (fun _ => ?_) (fun _ => ?_)
        · skip
          refine v_iconst (v := 0) dX4_shelf_129 (by decide +kernel) ?_
          exact v_pick [0, 1, 3, 4] rfl (hK14 _)
        refine v_aload_n dX4_shelf_118 rfl rfl ?_
        refine v_getr dX4_shelf_119 kf_X4_32 h.1 rfl ?_
        refine v_iload_n dX4_shelf_122 rfl rfl ?_
        refine v_gd (fun g15 => ?_)
        refine v_iald dX4_shelf_123 h.2.2.2.2.2.2.2.2.1 g15 rfl ?_
        refine v_iconst (v := 1) dX4_shelf_124 (by decide +kernel) ?_
        refine v_isub dX4_shelf_125 ?_
        refine v_goto (tgt := 130) dX4_shelf_126 (by decide) ?_
        exact v_pick [0, 1, 3, 4] rfl (hK14 _)
      refine v_iload_n dX4_shelf_109 rfl rfl ?_
      refine v_goto (tgt := 130) dX4_shelf_110 (by decide) ?_
      exact v_pick [0, 1, 3, 4] rfl (hK14 _)
    refine v_gd (fun g16 => ?_)
    refine v_iast dX4_shelf_130 h.2.2.2.2.2.2.2.2.2.2.2.2.1 g16 rfl (v_st fun s17 => ?_)
    refine v_aload_n dX4_shelf_131 rfl rfl ?_
    refine v_getr dX4_shelf_132 kf_X4_48 h.1 rfl ?_
    refine v_iload_n dX4_shelf_135 rfl rfl ?_
    refine v_iload dX4_shelf_136 rfl ?_
    refine v_if_eq (tgt := 150) dX4_shelf_138 (by decide) (fun _ => ?_) (fun _ => ?_)
    · skip
      refine v_iconst (v := 0) dX4_shelf_150 (by decide +kernel) ?_
      refine v_gd (fun g18 => ?_)
      refine v_iast dX4_shelf_151 h.2.2.2.2.2.2.2.2.2.2.2.2.2.1 g18 rfl (v_st fun s19 => ?_)
      refine v_iconst (v := 1) dX4_shelf_152 (by decide +kernel) ?_
      exact v_ret (ty := .int) dX4_shelf_153 rfl rfl rfl
    refine v_aload_n dX4_shelf_141 rfl rfl ?_
    refine v_getr dX4_shelf_142 kf_X4_35 h.1 rfl ?_
    refine v_iload_n dX4_shelf_145 rfl rfl ?_
    refine v_gd (fun g20 => ?_)
    refine v_iald dX4_shelf_146 h.2.2.2.2.2.2.2.2.2.1 g20 rfl ?_
    refine v_goto (tgt := 151) dX4_shelf_147 (by decide) ?_
    refine v_gd (fun g21 => ?_)
    refine v_iast dX4_shelf_151 h.2.2.2.2.2.2.2.2.2.2.2.2.2.1 g21 rfl (v_st fun s22 => ?_)
    refine v_iconst (v := 1) dX4_shelf_152 (by decide +kernel) ?_
    exact v_ret (ty := .int) dX4_shelf_153 rfl rfl rfl
  refine v_iconst (v := -1) dX4_shelf_53 (by decide +kernel) ?_
  exact v_ret (ty := .int) dX4_shelf_54 rfl rfl rfl
theorem ct_X4_shelf {SH : SHT} (b : Nat) (a1 : Int32) (a2 : Int32) (a3 : Int32) (h : isModel SH b) (s0 : St) : CT yX4_shelf mX4_shelf 2 SH jI [.ref b, .int a1, .int a2, .int a3] s0 (f_X4_shelf b a1 a2 a3 s0) := CT.of (by decide +kernel) rfl (fun E => Nat.le_of_ble_eq_true rfl) (w_X4_shelf b a1 a2 a3 h s0)
set_option maxHeartbeats 4000000 in
set_option maxRecDepth 100000 in
theorem w_X4_holdsNothing {SH : SHT} (b : Nat) (a1 : Int32) (h : isModel SH b) (s0 : St) : VF mX4_holdsNothing 2 SH (jP s0) 0 [(0, .ref b), (1, .int a1)] [] s0 (f_X4_holdsNothing b a1 s0) := by
  unfold f_X4_holdsNothing
  refine v_aload_n dX4_holdsNothing_0 rfl rfl ?_
  refine v_getr dX4_holdsNothing_1 kf_X4_42 h.1 rfl ?_
  refine v_iload_n dX4_holdsNothing_4 rfl rfl ?_
  refine v_gd (fun g1 => ?_)
  refine v_iald dX4_holdsNothing_5 h.2.2.2.2.2.2.2.2.2.2.2.1 g1 rfl ?_
  refine v_if_eq (tgt := 32) dX4_holdsNothing_6 (by decide) (fun _ => ?_) (fun _ => ?_)
  · skip
    refine v_iconst (v := 1) dX4_holdsNothing_32 (by decide +kernel) ?_
    refine v_goto (tgt := 37) dX4_holdsNothing_33 (by decide) ?_
    exact v_ret (ty := .boolean) dX4_holdsNothing_37 rfl rfl (by decide +kernel)
  refine v_aload_n dX4_holdsNothing_9 rfl rfl ?_
  refine v_getr dX4_holdsNothing_10 kf_X4_42 h.1 rfl ?_
  refine v_iload_n dX4_holdsNothing_13 rfl rfl ?_
  refine v_gd (fun g2 => ?_)
  refine v_iald dX4_holdsNothing_14 h.2.2.2.2.2.2.2.2.2.2.2.1 g2 rfl ?_
  refine v_iconst (v := 1) dX4_holdsNothing_15 (by decide +kernel) ?_
  refine v_icmp_ne (tgt := 36) dX4_holdsNothing_16 (by decide) (fun _ => ?_) (fun _ => ?_)
  · skip
    refine v_iconst (v := 0) dX4_holdsNothing_36 (by decide +kernel) ?_
    exact v_ret (ty := .boolean) dX4_holdsNothing_37 rfl rfl (by decide +kernel)
  refine v_aload_n dX4_holdsNothing_19 rfl rfl ?_
  refine v_aload_n dX4_holdsNothing_20 rfl rfl ?_
  refine v_getr dX4_holdsNothing_21 kf_X4_45 h.1 rfl ?_
  refine v_iload_n dX4_holdsNothing_24 rfl rfl ?_
  refine v_gd (fun g3 => ?_)
  refine v_iald dX4_holdsNothing_25 h.2.2.2.2.2.2.2.2.2.2.2.2.1 g3 rfl ?_
  refine v_cpI (fun z hz => runV (as := [.int (gA s0 (b + 12) (ix a1))]) dX4_holdsNothing_26 kv_X4_127 rfl rfl (Nat.le_of_ble_eq_true rfl) (Nat.le_of_ble_eq_true rfl) (recvW h.1 rfl rfl) (ct_X4_isPerson _ _ h _) hz) (fun x4 => ?_)
  refine v_if_ne (tgt := 36) dX4_holdsNothing_29 (by decide) (fun _ => ?_) (fun _ => ?_)
  · skip
    refine v_iconst (v := 0) dX4_holdsNothing_36 (by decide +kernel) ?_
    exact v_ret (ty := .boolean) dX4_holdsNothing_37 rfl rfl (by decide +kernel)
  refine v_iconst (v := 1) dX4_holdsNothing_32 (by decide +kernel) ?_
  refine v_goto (tgt := 37) dX4_holdsNothing_33 (by decide) ?_
  exact v_ret (ty := .boolean) dX4_holdsNothing_37 rfl rfl (by decide +kernel)
theorem ct_X4_holdsNothing {SH : SHT} (b : Nat) (a1 : Int32) (h : isModel SH b) (s0 : St) : CT yX4_holdsNothing mX4_holdsNothing 2 SH (jP s0) [.ref b, .int a1] s0 (f_X4_holdsNothing b a1 s0) := CT.of (by decide +kernel) rfl (fun E => Nat.le_of_ble_eq_true rfl) (w_X4_holdsNothing b a1 h s0)
set_option maxHeartbeats 4000000 in
set_option maxRecDepth 100000 in
theorem w_X4_above {SH : SHT} (a0 : Int32) (s0 : St) : VF mX4_above 0 SH (jP s0) 0 [(0, .int a0)] [] s0 (f_X4_above a0) := by
  unfold f_X4_above
  refine v_iload_n dX4_above_0 rfl rfl ?_
  refine v_iconst (v := 3) dX4_above_1 (by decide +kernel) ?_
  refine v_icmp_ne (tgt := 9) dX4_above_2 (by decide) (fun _ => ?_) (fun _ => ?_)
  · skip
    refine v_iload_n dX4_above_9 rfl rfl ?_
    refine v_iconst (v := 4) dX4_above_10 (by decide +kernel) ?_
    refine v_icmp_ne (tgt := 18) dX4_above_11 (by decide) (fun _ => ?_) (fun _ => ?_)
    · skip
      refine v_iconst (v := 0) dX4_above_18 (by decide +kernel) ?_
      exact v_ret (ty := .int) dX4_above_19 rfl rfl rfl
    refine v_iconst (v := 2) dX4_above_14 (by decide +kernel) ?_
    refine v_goto (tgt := 19) dX4_above_15 (by decide) ?_
    exact v_ret (ty := .int) dX4_above_19 rfl rfl rfl
  refine v_iconst (v := 1) dX4_above_5 (by decide +kernel) ?_
  refine v_goto (tgt := 19) dX4_above_6 (by decide) ?_
  exact v_ret (ty := .int) dX4_above_19 rfl rfl rfl
theorem ct_X4_above {SH : SHT} (a0 : Int32) (s0 : St) : CT yX4_above mX4_above 0 SH (jP s0) [.int a0] s0 (f_X4_above a0) := CT.of (by decide +kernel) rfl (fun E => Nat.le_of_ble_eq_true rfl) (w_X4_above a0  s0)
set_option maxHeartbeats 4000000 in
set_option maxRecDepth 100000 in
theorem w_X4_taken {SH : SHT} (b : Nat) (a1 : Int32) (a2 : Int32) (h : isModel SH b) (s0 : St) : VF mX4_taken 3 SH (jP s0) 0 [(0, .ref b), (1, .int a1), (2, .int a2)] [] s0 (f_X4_taken b a1 a2 s0) := by
  unfold f_X4_taken
  refine v_iload_n dX4_taken_0 rfl rfl ?_
  refine v_i2l dX4_taken_1 ?_
  refine v_lconst (v := 0) dX4_taken_2 (by decide +kernel) ?_
  refine v_ldc2 dX4_taken_3 kcL_X4_110 ?_
  refine v_cpI (fun z hz => runT (as := [.long (a1).toInt64, .long (0 : Int64), .long (3 : Int64)]) dX4_taken_6 kt_X4_61 rfl rfl (Nat.le_of_ble_eq_true rfl) (Nat.le_of_ble_eq_true rfl) (ct_X4_in _ _ _  _) hz) (fun x1 => ?_)
  refine v_if_eq (tgt := 38) dX4_taken_9 (by decide) (fun _ => ?_) (fun _ => ?_)
  · skip
    refine v_iconst (v := -1) dX4_taken_38 (by decide +kernel) ?_
    exact v_ret (ty := .int) dX4_taken_39 rfl rfl rfl
  refine v_iload_n dX4_taken_12 rfl rfl ?_
  refine v_i2l dX4_taken_13 ?_
  refine v_lconst (v := 0) dX4_taken_14 (by decide +kernel) ?_
  refine v_ldc2 dX4_taken_15 kcL_X4_118 ?_
  refine v_cpI (fun z hz => runT (as := [.long (a2).toInt64, .long (0 : Int64), .long (5 : Int64)]) dX4_taken_18 kt_X4_61 rfl rfl (Nat.le_of_ble_eq_true rfl) (Nat.le_of_ble_eq_true rfl) (ct_X4_in _ _ _  _) hz) (fun x2 => ?_)
  refine v_if_ne (tgt := 40) dX4_taken_21 (by decide) (fun _ => ?_) (fun _ => ?_)
  · skip
    refine v_aload_n dX4_taken_40 rfl rfl ?_
    refine v_iload_n dX4_taken_41 rfl rfl ?_
    refine v_cpI (fun z hz => runV (as := [.int a1]) dX4_taken_42 kv_X4_284 rfl rfl (Nat.le_of_ble_eq_true rfl) (Nat.le_of_ble_eq_true rfl) (recvW h.1 rfl rfl) (ct_X4_holdsNothing _ _ h _) hz) (fun x3 => ?_)
    refine v_if_eq (tgt := 51) dX4_taken_45 (by decide) (fun _ => ?_) (fun _ => ?_)
    · skip
      refine v_aload_n dX4_taken_51 rfl rfl ?_
      refine v_getr dX4_taken_52 kf_X4_42 h.1 rfl ?_
      refine v_iload_n dX4_taken_55 rfl rfl ?_
      refine v_gd (fun g4 => ?_)
      refine v_iald dX4_taken_56 h.2.2.2.2.2.2.2.2.2.2.2.1 g4 rfl ?_
      refine v_iconst (v := 2) dX4_taken_57 (by decide +kernel) ?_
      refine v_icmp_ne (tgt := 86) dX4_taken_58 (by decide) (fun _ => ?_) (fun _ => ?_)
      · skip
        refine v_aload_n dX4_taken_86 rfl rfl ?_
        refine v_aload_n dX4_taken_87 rfl rfl ?_
        refine v_getr dX4_taken_88 kf_X4_45 h.1 rfl ?_
        refine v_iload_n dX4_taken_91 rfl rfl ?_
        refine v_gd (fun g5 => ?_)
        refine v_iald dX4_taken_92 h.2.2.2.2.2.2.2.2.2.2.2.2.1 g5 rfl ?_
        refine v_iconst (v := 0) dX4_taken_93 (by decide +kernel) ?_
        refine v_cpI (fun z hz => runV (as := [.int (gA s0 (b + 12) (ix a1)), .int (0 : Int32)]) dX4_taken_94 kv_X4_67 rfl rfl (Nat.le_of_ble_eq_true rfl) (Nat.le_of_ble_eq_true rfl) (recvW h.1 rfl rfl) (ct_X4_get _ _ _ h _) hz) (fun x6 => ?_)
        refine v_istore_n (L' := [(3, .int x6), (0, .ref b), (1, .int a1), (2, .int a2)]) dX4_taken_97 rfl (by decide) rfl ?_
        refine v_iload_n dX4_taken_98 rfl rfl ?_
        refine v_bipush (v := 10) dX4_taken_99 (by decide +kernel) ?_
        refine v_icmp_ge (tgt := 130) dX4_taken_101 (by decide) (fun _ => ?_) (fun _ => ?_)
        · skip
          refine v_bipush (v := -13) dX4_taken_130 (by decide +kernel) ?_
          exact v_ret (ty := .int) dX4_taken_132 rfl rfl rfl
        refine v_iload_n dX4_taken_104 rfl rfl ?_
        refine v_if_eq (tgt := 121) dX4_taken_105 (by decide) (fun _ => ?_) (fun _ => ?_)
        · skip
          refine v_aload_n dX4_taken_121 rfl rfl ?_
          refine v_getr dX4_taken_122 kf_X4_45 h.1 rfl ?_
          refine v_iload_n dX4_taken_125 rfl rfl ?_
          refine v_gd (fun g7 => ?_)
          refine v_iald dX4_taken_126 h.2.2.2.2.2.2.2.2.2.2.2.2.1 g7 rfl ?_
          refine v_goto (tgt := 132) dX4_taken_127 (by decide) ?_
          exact v_ret (ty := .int) dX4_taken_132 rfl rfl rfl
        refine v_iload_n dX4_taken_108 rfl rfl ?_
        refine v_iload_n dX4_taken_109 rfl rfl ?_
        refine v_icmp_eq (tgt := 121) dX4_taken_110 (by decide) (fun _ => ?_) (fun _ => ?_)
        · skip
          refine v_aload_n dX4_taken_121 rfl rfl ?_
          refine v_getr dX4_taken_122 kf_X4_45 h.1 rfl ?_
          refine v_iload_n dX4_taken_125 rfl rfl ?_
          refine v_gd (fun g8 => ?_)
          refine v_iald dX4_taken_126 h.2.2.2.2.2.2.2.2.2.2.2.2.1 g8 rfl ?_
          refine v_goto (tgt := 132) dX4_taken_127 (by decide) ?_
          exact v_ret (ty := .int) dX4_taken_132 rfl rfl rfl
        refine v_iload_n dX4_taken_113 rfl rfl ?_
        refine v_cpI (fun z hz => runT (as := [.int x6]) dX4_taken_114 kt_X4_287 rfl rfl (Nat.le_of_ble_eq_true rfl) (Nat.le_of_ble_eq_true rfl) (ct_X4_above _  _) hz) (fun x9 => ?_)
        refine v_iload_n dX4_taken_117 rfl rfl ?_
        refine v_icmp_ne (tgt := 130) dX4_taken_118 (by decide) (fun _ => ?_) (fun _ => ?_)
        · skip
          refine v_bipush (v := -13) dX4_taken_130 (by decide +kernel) ?_
          exact v_ret (ty := .int) dX4_taken_132 rfl rfl rfl
        refine v_aload_n dX4_taken_121 rfl rfl ?_
        refine v_getr dX4_taken_122 kf_X4_45 h.1 rfl ?_
        refine v_iload_n dX4_taken_125 rfl rfl ?_
        refine v_gd (fun g10 => ?_)
        refine v_iald dX4_taken_126 h.2.2.2.2.2.2.2.2.2.2.2.2.1 g10 rfl ?_
        refine v_goto (tgt := 132) dX4_taken_127 (by decide) ?_
        exact v_ret (ty := .int) dX4_taken_132 rfl rfl rfl
      refine v_aload_n dX4_taken_61 rfl rfl ?_
      refine v_getr dX4_taken_62 kf_X4_45 h.1 rfl ?_
      refine v_iload_n dX4_taken_65 rfl rfl ?_
      refine v_gd (fun g11 => ?_)
      refine v_iald dX4_taken_66 h.2.2.2.2.2.2.2.2.2.2.2.2.1 g11 rfl ?_
      refine v_iload_n dX4_taken_67 rfl rfl ?_
      refine v_bipush (v := 10) dX4_taken_68 (by decide +kernel) ?_
      refine v_isub dX4_taken_70 ?_
      refine v_icmp_ne (tgt := 83) dX4_taken_71 (by decide) (fun _ => ?_) (fun _ => ?_)
      · skip
        refine v_bipush (v := -13) dX4_taken_83 (by decide +kernel) ?_
        exact v_ret (ty := .int) dX4_taken_85 rfl rfl rfl
      refine v_aload_n dX4_taken_74 rfl rfl ?_
      refine v_getr dX4_taken_75 kf_X4_48 h.1 rfl ?_
      refine v_iload_n dX4_taken_78 rfl rfl ?_
      refine v_gd (fun g12 => ?_)
      refine v_iald dX4_taken_79 h.2.2.2.2.2.2.2.2.2.2.2.2.2.1 g12 rfl ?_
      refine v_goto (tgt := 85) dX4_taken_80 (by decide) ?_
      exact v_ret (ty := .int) dX4_taken_85 rfl rfl rfl
    refine v_bipush (v := -11) dX4_taken_48 (by decide +kernel) ?_
    exact v_ret (ty := .int) dX4_taken_50 rfl rfl rfl
  refine v_iload_n dX4_taken_24 rfl rfl ?_
  refine v_i2l dX4_taken_25 ?_
  refine v_ldc2 dX4_taken_26 kcL_X4_261 ?_
  refine v_ldc2 dX4_taken_29 kcL_X4_282 ?_
  refine v_cpI (fun z hz => runT (as := [.long (a2).toInt64, .long (10 : Int64), .long (13 : Int64)]) dX4_taken_32 kt_X4_61 rfl rfl (Nat.le_of_ble_eq_true rfl) (Nat.le_of_ble_eq_true rfl) (ct_X4_in _ _ _  _) hz) (fun x13 => ?_)
  refine v_if_ne (tgt := 40) dX4_taken_35 (by decide) (fun _ => ?_) (fun _ => ?_)
  · skip
    refine v_aload_n dX4_taken_40 rfl rfl ?_
    refine v_iload_n dX4_taken_41 rfl rfl ?_
    refine v_cpI (fun z hz => runV (as := [.int a1]) dX4_taken_42 kv_X4_284 rfl rfl (Nat.le_of_ble_eq_true rfl) (Nat.le_of_ble_eq_true rfl) (recvW h.1 rfl rfl) (ct_X4_holdsNothing _ _ h _) hz) (fun x14 => ?_)
    refine v_if_eq (tgt := 51) dX4_taken_45 (by decide) (fun _ => ?_) (fun _ => ?_)
    · skip
      refine v_aload_n dX4_taken_51 rfl rfl ?_
      refine v_getr dX4_taken_52 kf_X4_42 h.1 rfl ?_
      refine v_iload_n dX4_taken_55 rfl rfl ?_
      refine v_gd (fun g15 => ?_)
      refine v_iald dX4_taken_56 h.2.2.2.2.2.2.2.2.2.2.2.1 g15 rfl ?_
      refine v_iconst (v := 2) dX4_taken_57 (by decide +kernel) ?_
      refine v_icmp_ne (tgt := 86) dX4_taken_58 (by decide) (fun _ => ?_) (fun _ => ?_)
      · skip
        refine v_aload_n dX4_taken_86 rfl rfl ?_
        refine v_aload_n dX4_taken_87 rfl rfl ?_
        refine v_getr dX4_taken_88 kf_X4_45 h.1 rfl ?_
        refine v_iload_n dX4_taken_91 rfl rfl ?_
        refine v_gd (fun g16 => ?_)
        refine v_iald dX4_taken_92 h.2.2.2.2.2.2.2.2.2.2.2.2.1 g16 rfl ?_
        refine v_iconst (v := 0) dX4_taken_93 (by decide +kernel) ?_
        refine v_cpI (fun z hz => runV (as := [.int (gA s0 (b + 12) (ix a1)), .int (0 : Int32)]) dX4_taken_94 kv_X4_67 rfl rfl (Nat.le_of_ble_eq_true rfl) (Nat.le_of_ble_eq_true rfl) (recvW h.1 rfl rfl) (ct_X4_get _ _ _ h _) hz) (fun x17 => ?_)
        refine v_istore_n (L' := [(3, .int x17), (0, .ref b), (1, .int a1), (2, .int a2)]) dX4_taken_97 rfl (by decide) rfl ?_
        refine v_iload_n dX4_taken_98 rfl rfl ?_
        refine v_bipush (v := 10) dX4_taken_99 (by decide +kernel) ?_
        refine v_icmp_ge (tgt := 130) dX4_taken_101 (by decide) (fun _ => ?_) (fun _ => ?_)
        · skip
          refine v_bipush (v := -13) dX4_taken_130 (by decide +kernel) ?_
          exact v_ret (ty := .int) dX4_taken_132 rfl rfl rfl
        refine v_iload_n dX4_taken_104 rfl rfl ?_
        refine v_if_eq (tgt := 121) dX4_taken_105 (by decide) (fun _ => ?_) (fun _ => ?_)
        · skip
          refine v_aload_n dX4_taken_121 rfl rfl ?_
          refine v_getr dX4_taken_122 kf_X4_45 h.1 rfl ?_
          refine v_iload_n dX4_taken_125 rfl rfl ?_
          refine v_gd (fun g18 => ?_)
          refine v_iald dX4_taken_126 h.2.2.2.2.2.2.2.2.2.2.2.2.1 g18 rfl ?_
          refine v_goto (tgt := 132) dX4_taken_127 (by decide) ?_
          exact v_ret (ty := .int) dX4_taken_132 rfl rfl rfl
        refine v_iload_n dX4_taken_108 rfl rfl ?_
        refine v_iload_n dX4_taken_109 rfl rfl ?_
        refine v_icmp_eq (tgt := 121) dX4_taken_110 (by decide) (fun _ => ?_) (fun _ => ?_)
        · skip
          refine v_aload_n dX4_taken_121 rfl rfl ?_
          refine v_getr dX4_taken_122 kf_X4_45 h.1 rfl ?_
          refine v_iload_n dX4_taken_125 rfl rfl ?_
          refine v_gd (fun g19 => ?_)
          refine v_iald dX4_taken_126 h.2.2.2.2.2.2.2.2.2.2.2.2.1 g19 rfl ?_
          refine v_goto (tgt := 132) dX4_taken_127 (by decide) ?_
          exact v_ret (ty := .int) dX4_taken_132 rfl rfl rfl
        refine v_iload_n dX4_taken_113 rfl rfl ?_
        refine v_cpI (fun z hz => runT (as := [.int x17]) dX4_taken_114 kt_X4_287 rfl rfl (Nat.le_of_ble_eq_true rfl) (Nat.le_of_ble_eq_true rfl) (ct_X4_above _  _) hz) (fun x20 => ?_)
        refine v_iload_n dX4_taken_117 rfl rfl ?_
        refine v_icmp_ne (tgt := 130) dX4_taken_118 (by decide) (fun _ => ?_) (fun _ => ?_)
        · skip
          refine v_bipush (v := -13) dX4_taken_130 (by decide +kernel) ?_
          exact v_ret (ty := .int) dX4_taken_132 rfl rfl rfl
        refine v_aload_n dX4_taken_121 rfl rfl ?_
        refine v_getr dX4_taken_122 kf_X4_45 h.1 rfl ?_
        refine v_iload_n dX4_taken_125 rfl rfl ?_
        refine v_gd (fun g21 => ?_)
        refine v_iald dX4_taken_126 h.2.2.2.2.2.2.2.2.2.2.2.2.1 g21 rfl ?_
        refine v_goto (tgt := 132) dX4_taken_127 (by decide) ?_
        exact v_ret (ty := .int) dX4_taken_132 rfl rfl rfl
      refine v_aload_n dX4_taken_61 rfl rfl ?_
      refine v_getr dX4_taken_62 kf_X4_45 h.1 rfl ?_
      refine v_iload_n dX4_taken_65 rfl rfl ?_
      refine v_gd (fun g22 => ?_)
      refine v_iald dX4_taken_66 h.2.2.2.2.2.2.2.2.2.2.2.2.1 g22 rfl ?_
      refine v_iload_n dX4_taken_67 rfl rfl ?_
      refine v_bipush (v := 10) dX4_taken_68 (by decide +kernel) ?_
      refine v_isub dX4_taken_70 ?_
      refine v_icmp_ne (tgt := 83) dX4_taken_71 (by decide) (fun _ => ?_) (fun _ => ?_)
      · skip
        refine v_bipush (v := -13) dX4_taken_83 (by decide +kernel) ?_
        exact v_ret (ty := .int) dX4_taken_85 rfl rfl rfl
      refine v_aload_n dX4_taken_74 rfl rfl ?_
      refine v_getr dX4_taken_75 kf_X4_48 h.1 rfl ?_
      refine v_iload_n dX4_taken_78 rfl rfl ?_
      refine v_gd (fun g23 => ?_)
      refine v_iald dX4_taken_79 h.2.2.2.2.2.2.2.2.2.2.2.2.2.1 g23 rfl ?_
      refine v_goto (tgt := 85) dX4_taken_80 (by decide) ?_
      exact v_ret (ty := .int) dX4_taken_85 rfl rfl rfl
    refine v_bipush (v := -11) dX4_taken_48 (by decide +kernel) ?_
    exact v_ret (ty := .int) dX4_taken_50 rfl rfl rfl
  refine v_iconst (v := -1) dX4_taken_38 (by decide +kernel) ?_
  exact v_ret (ty := .int) dX4_taken_39 rfl rfl rfl
theorem ct_X4_taken {SH : SHT} (b : Nat) (a1 : Int32) (a2 : Int32) (h : isModel SH b) (s0 : St) : CT yX4_taken mX4_taken 3 SH (jP s0) [.ref b, .int a1, .int a2] s0 (f_X4_taken b a1 a2 s0) := CT.of (by decide +kernel) rfl (fun E => Nat.le_of_ble_eq_true rfl) (w_X4_taken b a1 a2 h s0)
set_option maxHeartbeats 4000000 in
set_option maxRecDepth 100000 in
theorem w_X4_ran {SH : SHT} (b : Nat) (a1 : Int32) (h : isModel SH b) (s0 : St) : VF mX4_ran 0 SH jV 0 [(0, .ref b), (1, .int a1)] [] s0 (f_X4_ran b a1 s0) := by
  unfold f_X4_ran
  refine v_aload_n dX4_ran_0 rfl rfl ?_
  refine v_geti dX4_ran_1 kf_X4_290 h.1 rfl ?_
  refine v_bipush (v := 30) dX4_ran_4 (by decide +kernel) ?_
  refine v_icmp_ge (tgt := 36) dX4_ran_6 (by decide) (fun _ => ?_) (fun _ => ?_)
  · skip
    exact v_vret dX4_ran_36 rfl rfl
  refine v_aload_n dX4_ran_9 rfl rfl ?_
  refine v_geti dX4_ran_10 kf_X4_293 h.1 rfl ?_
  refine v_if_ne (tgt := 36) dX4_ran_13 (by decide) (fun _ => ?_) (fun _ => ?_)
  · skip
    exact v_vret dX4_ran_36 rfl rfl
  refine v_aload_n dX4_ran_16 rfl rfl ?_
  refine v_getr dX4_ran_17 kf_X4_51 h.1 rfl ?_
  refine v_aload_n dX4_ran_20 rfl rfl ?_
  refine v_geti dX4_ran_21 kf_X4_290 h.1 rfl ?_
  refine v_iload_n dX4_ran_24 rfl rfl ?_
  refine v_gd (fun g1 => ?_)
  refine v_iast dX4_ran_25 h.2.2.2.2.2.2.2.2.2.2.2.2.2.2 g1 rfl (v_st fun s2 => ?_)
  refine v_aload_n dX4_ran_26 rfl rfl ?_
  refine v_dup dX4_ran_27 rfl ?_
  refine v_geti dX4_ran_28 kf_X4_290 h.1 rfl ?_
  refine v_iconst (v := 1) dX4_ran_31 (by decide +kernel) ?_
  refine v_iadd dX4_ran_32 ?_
  refine v_puti dX4_ran_33 kp_X4_290 h.1 rfl rfl rfl (v_st fun s3 => ?_)
  exact v_vret dX4_ran_36 rfl rfl
theorem ct_X4_ran {SH : SHT} (b : Nat) (a1 : Int32) (h : isModel SH b) (s0 : St) : CT yX4_ran mX4_ran 0 SH jV [.ref b, .int a1] s0 (f_X4_ran b a1 s0) := CT.of (by decide +kernel) rfl (fun E => Nat.le_of_ble_eq_true rfl) (w_X4_ran b a1 h s0)
