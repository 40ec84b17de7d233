set_option maxHeartbeats 4000000 in
set_option maxRecDepth 100000 in
theorem ct_X4_swearsBy {SH : SHT} (b : Nat) (h : isModel SH b) : ∀ (n : Nat) (a1 : Int32) (a2 : Int32) (s0 : St), CT yX4_swearsBy mX4_swearsBy (n + 1) SH jI [.ref b, .int a1, .int a2] s0 (f_X4_swearsBy n b a1 a2 s0) := by
  intro n
  induction n with
  | zero => intros; exact fun z hz => by cases hz
  | succ n ih =>
    intro a1 a2 s0
    refine CT.of (by decide +kernel) rfl (fun E => Nat.le_of_ble_eq_true rfl) (show VF mX4_swearsBy (n + 1 + 1) SH jI 0 [(0, .ref b), (1, .int a1), (2, .int a2)] [] s0 (f_X4_swearsBy (n + 1) b a1 a2 s0) from ?_)
    unfold f_X4_swearsBy
    refine v_iload_n dX4_swearsBy_0 rfl rfl ?_
    refine v_tsw (cs := [(0, 36), (2, 51), (3, 81), (4, 66)]) (dt := 99) dX4_swearsBy_1 (by decide +kernel) (by decide) (by decide +kernel) ?_
    refine v_swc (fun _ => ?_) (fun _ => ?_)
    · skip
      refine v_aload_n dX4_swearsBy_36 rfl rfl ?_
      refine v_bipush (v := 10) dX4_swearsBy_37 (by decide +kernel) ?_
      refine v_cw (fun z hz => runV (as := [.int (10 : Int32)]) dX4_swearsBy_39 kv_X4_297 rfl rfl (Nat.le_of_ble_eq_true rfl) (by omega) (recvW h.1 rfl rfl) (ct_X4_ran _ _ h _) hz) (fun s1 => ?_)
      refine v_iload_n dX4_swearsBy_42 rfl rfl ?_
      refine v_aload_n dX4_swearsBy_43 rfl rfl ?_
      refine v_geti dX4_swearsBy_44 kf_X4_300 h.1 rfl ?_
      refine v_iconst (v := 3) dX4_swearsBy_47 (by decide +kernel) ?_
      refine v_imul dX4_swearsBy_48 ?_
      refine v_iadd dX4_swearsBy_49 ?_
      exact v_ret (ty := .int) dX4_swearsBy_50 rfl rfl rfl
    refine v_swc (fun _ => ?_) (fun _ => ?_)
    · skip
      refine v_aload_n dX4_swearsBy_51 rfl rfl ?_
      refine v_bipush (v := 30) dX4_swearsBy_52 (by decide +kernel) ?_
      refine v_cw (fun z hz => runV (as := [.int (30 : Int32)]) dX4_swearsBy_54 kv_X4_297 rfl rfl (Nat.le_of_ble_eq_true rfl) (by omega) (recvW h.1 rfl rfl) (ct_X4_ran _ _ h _) hz) (fun s2 => ?_)
      refine v_aload_n dX4_swearsBy_57 rfl rfl ?_
      refine v_iconst (v := 0) dX4_swearsBy_58 (by decide +kernel) ?_
      refine v_iload_n dX4_swearsBy_59 rfl rfl ?_
      refine v_cbI (fun z hz => runV (as := [.int (0 : Int32), .int a2]) dX4_swearsBy_60 kv_X4_303 rfl rfl (Nat.le_of_ble_eq_true rfl) (by omega) (recvW h.1 rfl rfl) (ih _ _ _) hz) (fun x4 s3 => ?_)
      refine v_iconst (v := 1) dX4_swearsBy_63 (by decide +kernel) ?_
      refine v_iadd dX4_swearsBy_64 ?_
      exact v_ret (ty := .int) dX4_swearsBy_65 rfl rfl rfl
    refine v_swc (fun _ => ?_) (fun _ => ?_)
    · skip
      refine v_aload_n dX4_swearsBy_81 rfl rfl ?_
      refine v_bipush (v := 51) dX4_swearsBy_82 (by decide +kernel) ?_
      refine v_cw (fun z hz => runV (as := [.int (51 : Int32)]) dX4_swearsBy_84 kv_X4_297 rfl rfl (Nat.le_of_ble_eq_true rfl) (by omega) (recvW h.1 rfl rfl) (ct_X4_ran _ _ h _) hz) (fun s5 => ?_)
      refine v_aload_n dX4_swearsBy_87 rfl rfl ?_
      refine v_iconst (v := 1) dX4_swearsBy_88 (by decide +kernel) ?_
      refine v_iload_n dX4_swearsBy_89 rfl rfl ?_
      refine v_cbI (fun z hz => runV (as := [.int (1 : Int32), .int a2]) dX4_swearsBy_90 kv_X4_303 rfl rfl (Nat.le_of_ble_eq_true rfl) (by omega) (recvW h.1 rfl rfl) (ih _ _ _) hz) (fun x7 s6 => ?_)
      refine v_aload_n dX4_swearsBy_93 rfl rfl ?_
      refine v_geti dX4_swearsBy_94 kf_X4_300 h.1 rfl ?_
      refine v_ixor dX4_swearsBy_97 ?_
      exact v_ret (ty := .int) dX4_swearsBy_98 rfl rfl rfl
    refine v_swc (fun _ => ?_) (fun _ => ?_)
    · skip
      refine v_aload_n dX4_swearsBy_66 rfl rfl ?_
      refine v_bipush (v := 40) dX4_swearsBy_67 (by decide +kernel) ?_
      refine v_cw (fun z hz => runV (as := [.int (40 : Int32)]) dX4_swearsBy_69 kv_X4_297 rfl rfl (Nat.le_of_ble_eq_true rfl) (by omega) (recvW h.1 rfl rfl) (ct_X4_ran _ _ h _) hz) (fun s8 => ?_)
      refine v_iconst (v := 0) dX4_swearsBy_72 (by decide +kernel) ?_
      refine v_aload_n dX4_swearsBy_73 rfl rfl ?_
      refine v_iconst (v := 2) dX4_swearsBy_74 (by decide +kernel) ?_
      refine v_iload_n dX4_swearsBy_75 rfl rfl ?_
      refine v_cbI (fun z hz => runV (as := [.int (2 : Int32), .int a2]) dX4_swearsBy_76 kv_X4_303 rfl rfl (Nat.le_of_ble_eq_true rfl) (by omega) (recvW h.1 rfl rfl) (ih _ _ _) hz) (fun x10 s9 => ?_)
      refine v_isub dX4_swearsBy_79 ?_
      exact v_ret (ty := .int) dX4_swearsBy_80 rfl rfl rfl
    refine v_swn ?_
    refine v_aload_n dX4_swearsBy_99 rfl rfl ?_
    refine v_iconst (v := 0) dX4_swearsBy_100 (by decide +kernel) ?_
    refine v_iload_n dX4_swearsBy_101 rfl rfl ?_
    refine v_cbI (fun z hz => runV (as := [.int (0 : Int32), .int a2]) dX4_swearsBy_102 kv_X4_303 rfl rfl (Nat.le_of_ble_eq_true rfl) (by omega) (recvW h.1 rfl rfl) (ih _ _ _) hz) (fun x12 s11 => ?_)
    exact v_ret (ty := .int) dX4_swearsBy_105 rfl rfl rfl
set_option maxHeartbeats 4000000 in
set_option maxRecDepth 100000 in
theorem ct_X4_doubtsBy {SH : SHT} (b : Nat) (h : isModel SH b) : ∀ (n : Nat) (a1 : Int32) (a2 : Int32) (s0 : St), CT yX4_doubtsBy mX4_doubtsBy (n + 62) SH jI [.ref b, .int a1, .int a2] s0 (f_X4_doubtsBy n b a1 a2 s0) := by
  intro n
  induction n with
  | zero => intros; exact fun z hz => by cases hz
  | succ n ih =>
    intro a1 a2 s0
    refine CT.of (by decide +kernel) rfl (fun E => Nat.le_of_ble_eq_true rfl) (show VF mX4_doubtsBy (n + 1 + 62) SH jI 0 [(0, .ref b), (1, .int a1), (2, .int a2)] [] s0 (f_X4_doubtsBy (n + 1) b a1 a2 s0) from ?_)
    unfold f_X4_doubtsBy
    refine v_iconst (v := 0) dX4_doubtsBy_0 (by decide +kernel) ?_
    refine v_istore_n (L' := [(3, .int (0 : Int32)), (0, .ref b), (1, .int a1), (2, .int a2)]) dX4_doubtsBy_1 rfl (by decide) rfl ?_
    refine v_iload_n dX4_doubtsBy_2 rfl rfl ?_
    refine v_tsw (cs := [(0, 36), (1, 67), (4, 82)]) (dt := 120) dX4_doubtsBy_3 (by decide +kernel) (by decide) (by decide +kernel) ?_
    refine v_swc (fun _ => ?_) (fun _ => ?_)
    · skip
      refine v_aload_n dX4_doubtsBy_36 rfl rfl ?_
      refine v_bipush (v := 11) dX4_doubtsBy_37 (by decide +kernel) ?_
      refine v_cw (fun z hz => runV (as := [.int (11 : Int32)]) dX4_doubtsBy_39 kv_X4_297 rfl rfl (Nat.le_of_ble_eq_true rfl) (by omega) (recvW h.1 rfl rfl) (ct_X4_ran _ _ h _) hz) (fun s1 => ?_)
      refine v_aload_n dX4_doubtsBy_42 rfl rfl ?_
      refine v_aload_n dX4_doubtsBy_43 rfl rfl ?_
      refine v_aload_n dX4_doubtsBy_44 rfl rfl ?_
      refine v_geti dX4_doubtsBy_45 kf_X4_300 h.1 rfl ?_
      refine v_iconst (v := 0) dX4_doubtsBy_48 (by decide +kernel) ?_
      refine v_cpI (fun z hz => runV (as := [.int (gF s1 b 24), .int (0 : Int32)]) dX4_doubtsBy_49 kv_X4_67 rfl rfl (Nat.le_of_ble_eq_true rfl) (by omega) (recvW h.1 rfl rfl) (ct_X4_get _ _ _ h _) hz) (fun x2 => ?_)
      refine v_iload_n dX4_doubtsBy_52 rfl rfl ?_
      refine v_cbI (fun z hz => runV (as := [.int x2, .int a2]) dX4_doubtsBy_53 kv_X4_303 rfl rfl (Nat.le_of_ble_eq_true rfl) (by omega) (recvW h.1 rfl rfl) (ct_X4_swearsBy b h 60 _ _ _) hz) (fun x4 s3 => ?_)
      refine v_aload_n dX4_doubtsBy_56 rfl rfl ?_
      refine v_aload_n dX4_doubtsBy_57 rfl rfl ?_
      refine v_geti dX4_doubtsBy_58 kf_X4_300 h.1 rfl ?_
      refine v_iconst (v := 1) dX4_doubtsBy_61 (by decide +kernel) ?_
      refine v_cpI (fun z hz => runV (as := [.int (gF s3 b 24), .int (1 : Int32)]) dX4_doubtsBy_62 kv_X4_67 rfl rfl (Nat.le_of_ble_eq_true rfl) (by omega) (recvW h.1 rfl rfl) (ct_X4_get _ _ _ h _) hz) (fun x5 => ?_)
      refine v_isub dX4_doubtsBy_65 ?_
      exact v_ret (ty := .int) dX4_doubtsBy_66 rfl rfl rfl
    refine v_swc (fun _ => ?_) (fun _ => ?_)
    · skip
      refine v_aload_n dX4_doubtsBy_67 rfl rfl ?_
      refine v_bipush (v := 20) dX4_doubtsBy_68 (by decide +kernel) ?_
      refine v_cw (fun z hz => runV (as := [.int (20 : Int32)]) dX4_doubtsBy_70 kv_X4_297 rfl rfl (Nat.le_of_ble_eq_true rfl) (by omega) (recvW h.1 rfl rfl) (ct_X4_ran _ _ h _) hz) (fun s6 => ?_)
      refine v_aload_n dX4_doubtsBy_73 rfl rfl ?_
      refine v_iconst (v := 0) dX4_doubtsBy_74 (by decide +kernel) ?_
      refine v_iload_n dX4_doubtsBy_75 rfl rfl ?_
      refine v_cbI (fun z hz => runV (as := [.int (0 : Int32), .int a2]) dX4_doubtsBy_76 kv_X4_306 rfl rfl (Nat.le_of_ble_eq_true rfl) (by omega) (recvW h.1 rfl rfl) (ih _ _ _) hz) (fun x8 s7 => ?_)
      refine v_iconst (v := 2) dX4_doubtsBy_79 (by decide +kernel) ?_
      refine v_imul dX4_doubtsBy_80 ?_
      exact v_ret (ty := .int) dX4_doubtsBy_81 rfl rfl rfl
    refine v_swc (fun _ => ?_) (fun _ => ?_)
    · skip
      refine v_aload_n dX4_doubtsBy_82 rfl rfl ?_
      refine v_bipush (v := 41) dX4_doubtsBy_83 (by decide +kernel) ?_
      refine v_cw (fun z hz => runV (as := [.int (41 : Int32)]) dX4_doubtsBy_85 kv_X4_297 rfl rfl (Nat.le_of_ble_eq_true rfl) (by omega) (recvW h.1 rfl rfl) (ct_X4_ran _ _ h _) hz) (fun s9 => ?_)
      refine v_aload_n dX4_doubtsBy_88 rfl rfl ?_
      refine v_iconst (v := 2) dX4_doubtsBy_89 (by decide +kernel) ?_
      refine v_iload_n dX4_doubtsBy_90 rfl rfl ?_
      refine v_cbI (fun z hz => runV (as := [.int (2 : Int32), .int a2]) dX4_doubtsBy_91 kv_X4_306 rfl rfl (Nat.le_of_ble_eq_true rfl) (by omega) (recvW h.1 rfl rfl) (ih _ _ _) hz) (fun x11 s10 => ?_)
      refine v_istore_n (L' := [(3, .int x11), (0, .ref b), (1, .int a1), (2, .int a2)]) dX4_doubtsBy_94 rfl (by decide) rfl ?_
      refine v_iload_n dX4_doubtsBy_95 rfl rfl ?_
      refine v_aload_n dX4_doubtsBy_96 rfl rfl ?_
      refine v_aload_n dX4_doubtsBy_97 rfl rfl ?_
      refine v_aload_n dX4_doubtsBy_98 rfl rfl ?_
      refine v_geti dX4_doubtsBy_99 kf_X4_300 h.1 rfl ?_
      refine v_iconst (v := 0) dX4_doubtsBy_102 (by decide +kernel) ?_
      refine v_cpI (fun z hz => runV (as := [.int (gF s10 b 24), .int (0 : Int32)]) dX4_doubtsBy_103 kv_X4_67 rfl rfl (Nat.le_of_ble_eq_true rfl) (by omega) (recvW h.1 rfl rfl) (ct_X4_get _ _ _ h _) hz) (fun x12 => ?_)
      refine v_aload_n dX4_doubtsBy_106 rfl rfl ?_
      refine v_aload_n dX4_doubtsBy_107 rfl rfl ?_
      refine v_geti dX4_doubtsBy_108 kf_X4_300 h.1 rfl ?_
      refine v_iconst (v := 1) dX4_doubtsBy_111 (by decide +kernel) ?_
      refine v_cpI (fun z hz => runV (as := [.int (gF s10 b 24), .int (1 : Int32)]) dX4_doubtsBy_112 kv_X4_67 rfl rfl (Nat.le_of_ble_eq_true rfl) (by omega) (recvW h.1 rfl rfl) (ct_X4_get _ _ _ h _) hz) (fun x13 => ?_)
      refine v_cbI (fun z hz => runV (as := [.int x12, .int x13]) dX4_doubtsBy_115 kv_X4_303 rfl rfl (Nat.le_of_ble_eq_true rfl) (by omega) (recvW h.1 rfl rfl) (ct_X4_swearsBy b h 60 _ _ _) hz) (fun x15 s14 => ?_)
      refine v_iadd dX4_doubtsBy_118 ?_
      exact v_ret (ty := .int) dX4_doubtsBy_119 rfl rfl rfl
    refine v_swn ?_
    refine v_aload_n dX4_doubtsBy_120 rfl rfl ?_
    refine v_iload_n dX4_doubtsBy_121 rfl rfl ?_
    refine v_cpI (fun z hz => runT (as := [.int a1]) dX4_doubtsBy_122 kt_X4_287 rfl rfl (Nat.le_of_ble_eq_true rfl) (by omega) (ct_X4_above _  _) hz) (fun x16 => ?_)
    refine v_iload_n dX4_doubtsBy_125 rfl rfl ?_
    refine v_cbI (fun z hz => runV (as := [.int x16, .int a2]) dX4_doubtsBy_126 kv_X4_306 rfl rfl (Nat.le_of_ble_eq_true rfl) (by omega) (recvW h.1 rfl rfl) (ih _ _ _) hz) (fun x18 s17 => ?_)
    exact v_ret (ty := .int) dX4_doubtsBy_129 rfl rfl rfl
set_option maxHeartbeats 4000000 in
set_option maxRecDepth 100000 in
theorem ct_X4_partsBy {SH : SHT} (b : Nat) (h : isModel SH b) : ∀ (n : Nat) (a1 : Int32) (a2 : Int32) (s0 : St), CT yX4_partsBy mX4_partsBy (n + 62) SH jI [.ref b, .int a1, .int a2] s0 (f_X4_partsBy n b a1 a2 s0) := by
  intro n
  induction n with
  | zero => intros; exact fun z hz => by cases hz
  | succ n ih =>
    intro a1 a2 s0
    refine CT.of (by decide +kernel) rfl (fun E => Nat.le_of_ble_eq_true rfl) (show VF mX4_partsBy (n + 1 + 62) SH jI 0 [(0, .ref b), (1, .int a1), (2, .int a2)] [] s0 (f_X4_partsBy (n + 1) b a1 a2 s0) from ?_)
    unfold f_X4_partsBy
    refine v_iconst (v := 0) dX4_partsBy_0 (by decide +kernel) ?_
    refine v_istore_n (L' := [(3, .int (0 : Int32)), (0, .ref b), (1, .int a1), (2, .int a2)]) dX4_partsBy_1 rfl (by decide) rfl ?_
    refine v_iload_n dX4_partsBy_2 rfl rfl ?_
    refine v_lsw (cs := [(0, 36), (3, 89), (5, 114)]) (dt := 147) dX4_partsBy_3 (by decide +kernel) (by decide) (by decide +kernel) (by decide +kernel) ?_
    refine v_swc (fun _ => ?_) (fun _ => ?_)
    · skip
      refine v_aload_n dX4_partsBy_36 rfl rfl ?_
      refine v_bipush (v := 12) dX4_partsBy_37 (by decide +kernel) ?_
      refine v_cw (fun z hz => runV (as := [.int (12 : Int32)]) dX4_partsBy_39 kv_X4_297 rfl rfl (Nat.le_of_ble_eq_true rfl) (by omega) (recvW h.1 rfl rfl) (ct_X4_ran _ _ h _) hz) (fun s1 => ?_)
      refine v_aload_n dX4_partsBy_42 rfl rfl ?_
      refine v_aload_n dX4_partsBy_43 rfl rfl ?_
      refine v_geti dX4_partsBy_44 kf_X4_300 h.1 rfl ?_
      refine v_iconst (v := 1) dX4_partsBy_47 (by decide +kernel) ?_
      refine v_cpI (fun z hz => runV (as := [.int (gF s1 b 24), .int (1 : Int32)]) dX4_partsBy_48 kv_X4_67 rfl rfl (Nat.le_of_ble_eq_true rfl) (by omega) (recvW h.1 rfl rfl) (ct_X4_get _ _ _ h _) hz) (fun x2 => ?_)
      refine v_aload_n dX4_partsBy_51 rfl rfl ?_
      refine v_geti dX4_partsBy_52 kf_X4_300 h.1 rfl ?_
      refine v_isub dX4_partsBy_55 ?_
      refine v_topi (fun x3 => ?_)
      refine v_istore_n (L' := [(3, .int x3), (0, .ref b), (1, .int a1), (2, .int a2)]) dX4_partsBy_56 rfl (by decide) rfl ?_
      refine v_aload_n dX4_partsBy_57 rfl rfl ?_
      refine v_aload_n dX4_partsBy_58 rfl rfl ?_
      refine v_geti dX4_partsBy_59 kf_X4_293 h.1 rfl ?_
      refine v_bnK (fun K5 => ∀ (t4 : Int32), VF mX4_partsBy (n + 1 + 62) SH jI 74 [(2, .int a2), (3, .int x3)] [.int t4, .ref b] s1 (K5 t4)) (fun K5 hK5 => ?_) (fun t4 => ?_)
      · skip
        refine v_if_ne (tgt := 69) dX4_partsBy_62 (by decide) (fun _ => ?_) (fun _ => ?_)
        · skip
          refine v_iconst (v := 1) dX4_partsBy_69 (by decide +kernel) ?_
          refine v_goto (tgt := 74) dX4_partsBy_70 (by decide) ?_
          exact v_pick [3, 0] rfl (hK5 _)
        refine v_iload_n dX4_partsBy_65 rfl rfl ?_
        refine v_if_ne (tgt := 73) dX4_partsBy_66 (by decide) (fun _ => ?_) (fun _ => ?_)
        · skip
          refine v_iconst (v := 0) dX4_partsBy_73 (by decide +kernel) ?_
          exact v_pick [3, 0] rfl (hK5 _)
        refine v_iconst (v := 1) dX4_partsBy_69 (by decide +kernel) ?_
        refine v_goto (tgt := 74) dX4_partsBy_70 (by decide) ?_
        exact v_pick [3, 0] rfl (hK5 _)
      refine v_putz dX4_partsBy_74 kp_X4_293 h.1 rfl (v_st fun s6 => ?_)
      refine v_iload_n dX4_partsBy_77 rfl rfl ?_
      refine v_if_ne (tgt := 85) dX4_partsBy_78 (by decide) (fun _ => ?_) (fun _ => ?_)
      · skip
        refine v_iload_n dX4_partsBy_85 rfl rfl ?_
        refine v_iload_n dX4_partsBy_86 rfl rfl ?_
        refine v_idiv dX4_partsBy_87 (fun _ => ?_)
        exact v_ret (ty := .int) dX4_partsBy_88 rfl rfl rfl
      refine v_iconst (v := 0) dX4_partsBy_81 (by decide +kernel) ?_
      refine v_goto (tgt := 88) dX4_partsBy_82 (by decide) ?_
      exact v_ret (ty := .int) dX4_partsBy_88 rfl rfl rfl
    refine v_swc (fun _ => ?_) (fun _ => ?_)
    · skip
      refine v_aload_n dX4_partsBy_89 rfl rfl ?_
      refine v_bipush (v := 50) dX4_partsBy_90 (by decide +kernel) ?_
      refine v_cw (fun z hz => runV (as := [.int (50 : Int32)]) dX4_partsBy_92 kv_X4_297 rfl rfl (Nat.le_of_ble_eq_true rfl) (by omega) (recvW h.1 rfl rfl) (ct_X4_ran _ _ h _) hz) (fun s7 => ?_)
      refine v_aload_n dX4_partsBy_95 rfl rfl ?_
      refine v_iconst (v := 1) dX4_partsBy_96 (by decide +kernel) ?_
      refine v_iload_n dX4_partsBy_97 rfl rfl ?_
      refine v_iconst (v := 4) dX4_partsBy_98 (by decide +kernel) ?_
      refine v_imul dX4_partsBy_99 ?_
      refine v_cbI (fun z hz => runV (as := [.int (1 : Int32), .int (a2 * (4 : Int32))]) dX4_partsBy_100 kv_X4_309 rfl rfl (Nat.le_of_ble_eq_true rfl) (by omega) (recvW h.1 rfl rfl) (ih _ _ _) hz) (fun x9 s8 => ?_)
      refine v_aload_n dX4_partsBy_103 rfl rfl ?_
      refine v_aload_n dX4_partsBy_104 rfl rfl ?_
      refine v_geti dX4_partsBy_105 kf_X4_300 h.1 rfl ?_
      refine v_iconst (v := 1) dX4_partsBy_108 (by decide +kernel) ?_
      refine v_cpI (fun z hz => runV (as := [.int (gF s8 b 24), .int (1 : Int32)]) dX4_partsBy_109 kv_X4_67 rfl rfl (Nat.le_of_ble_eq_true rfl) (by omega) (recvW h.1 rfl rfl) (ct_X4_get _ _ _ h _) hz) (fun x10 => ?_)
      refine v_isub dX4_partsBy_112 ?_
      exact v_ret (ty := .int) dX4_partsBy_113 rfl rfl rfl
    refine v_swc (fun _ => ?_) (fun _ => ?_)
    · skip
      refine v_aload_n dX4_partsBy_114 rfl rfl ?_
      refine v_bipush (v := 61) dX4_partsBy_115 (by decide +kernel) ?_
      refine v_cw (fun z hz => runV (as := [.int (61 : Int32)]) dX4_partsBy_117 kv_X4_297 rfl rfl (Nat.le_of_ble_eq_true rfl) (by omega) (recvW h.1 rfl rfl) (ct_X4_ran _ _ h _) hz) (fun s11 => ?_)
      refine v_aload_n dX4_partsBy_120 rfl rfl ?_
      refine v_iconst (v := 0) dX4_partsBy_121 (by decide +kernel) ?_
      refine v_iload_n dX4_partsBy_122 rfl rfl ?_
      refine v_cbI (fun z hz => runV (as := [.int (0 : Int32), .int a2]) dX4_partsBy_123 kv_X4_309 rfl rfl (Nat.le_of_ble_eq_true rfl) (by omega) (recvW h.1 rfl rfl) (ih _ _ _) hz) (fun x13 s12 => ?_)
      refine v_istore_n (L' := [(3, .int x13), (0, .ref b), (1, .int a1), (2, .int a2)]) dX4_partsBy_126 rfl (by decide) rfl ?_
      refine v_iload_n dX4_partsBy_127 rfl rfl ?_
      refine v_aload_n dX4_partsBy_128 rfl rfl ?_
      refine v_aload_n dX4_partsBy_129 rfl rfl ?_
      refine v_aload_n dX4_partsBy_130 rfl rfl ?_
      refine v_geti dX4_partsBy_131 kf_X4_300 h.1 rfl ?_
      refine v_iconst (v := 0) dX4_partsBy_134 (by decide +kernel) ?_
      refine v_cpI (fun z hz => runV (as := [.int (gF s12 b 24), .int (0 : Int32)]) dX4_partsBy_135 kv_X4_67 rfl rfl (Nat.le_of_ble_eq_true rfl) (by omega) (recvW h.1 rfl rfl) (ct_X4_get _ _ _ h _) hz) (fun x14 => ?_)
      refine v_aload_n dX4_partsBy_138 rfl rfl ?_
      refine v_geti dX4_partsBy_139 kf_X4_300 h.1 rfl ?_
      refine v_cbI (fun z hz => runV (as := [.int x14, .int (gF s12 b 24)]) dX4_partsBy_142 kv_X4_303 rfl rfl (Nat.le_of_ble_eq_true rfl) (by omega) (recvW h.1 rfl rfl) (ct_X4_swearsBy b h 60 _ _ _) hz) (fun x16 s15 => ?_)
      refine v_iadd dX4_partsBy_145 ?_
      exact v_ret (ty := .int) dX4_partsBy_146 rfl rfl rfl
    refine v_swn ?_
    refine v_aload_n dX4_partsBy_147 rfl rfl ?_
    refine v_iload_n dX4_partsBy_148 rfl rfl ?_
    refine v_cpI (fun z hz => runT (as := [.int a1]) dX4_partsBy_149 kt_X4_287 rfl rfl (Nat.le_of_ble_eq_true rfl) (by omega) (ct_X4_above _  _) hz) (fun x17 => ?_)
    refine v_iload_n dX4_partsBy_152 rfl rfl ?_
    refine v_cbI (fun z hz => runV (as := [.int x17, .int a2]) dX4_partsBy_153 kv_X4_309 rfl rfl (Nat.le_of_ble_eq_true rfl) (by omega) (recvW h.1 rfl rfl) (ih _ _ _) hz) (fun x19 s18 => ?_)
    exact v_ret (ty := .int) dX4_partsBy_156 rfl rfl rfl
set_option maxHeartbeats 4000000 in
set_option maxRecDepth 100000 in
theorem ct_X4_signsBy {SH : SHT} (b : Nat) (h : isModel SH b) : ∀ (n : Nat) (a1 : Int32) (a2 : Int32) (s0 : St), CT yX4_signsBy mX4_signsBy (n + 123) SH jI [.ref b, .int a1, .int a2] s0 (f_X4_signsBy n b a1 a2 s0) := by
  intro n
  induction n with
  | zero => intros; exact fun z hz => by cases hz
  | succ n ih =>
    intro a1 a2 s0
    refine CT.of (by decide +kernel) rfl (fun E => Nat.le_of_ble_eq_true rfl) (show VF mX4_signsBy (n + 1 + 123) SH jI 0 [(0, .ref b), (1, .int a1), (2, .int a2)] [] s0 (f_X4_signsBy (n + 1) b a1 a2 s0) from ?_)
    unfold f_X4_signsBy
    refine v_iconst (v := 0) dX4_signsBy_0 (by decide +kernel) ?_
    refine v_istore_n (L' := [(3, .int (0 : Int32)), (0, .ref b), (1, .int a1), (2, .int a2)]) dX4_signsBy_1 rfl (by decide) rfl ?_
    refine v_iload_n dX4_signsBy_2 rfl rfl ?_
    refine v_lsw (cs := [(0, 36), (2, 60), (5, 93)]) (dt := 109) dX4_signsBy_3 (by decide +kernel) (by decide) (by decide +kernel) (by decide +kernel) ?_
    refine v_swc (fun _ => ?_) (fun _ => ?_)
    · skip
      refine v_aload_n dX4_signsBy_36 rfl rfl ?_
      refine v_bipush (v := 13) dX4_signsBy_37 (by decide +kernel) ?_
      refine v_cw (fun z hz => runV (as := [.int (13 : Int32)]) dX4_signsBy_39 kv_X4_297 rfl rfl (Nat.le_of_ble_eq_true rfl) (by omega) (recvW h.1 rfl rfl) (ct_X4_ran _ _ h _) hz) (fun s1 => ?_)
      refine v_aload_n dX4_signsBy_42 rfl rfl ?_
      refine v_aload_n dX4_signsBy_43 rfl rfl ?_
      refine v_aload_n dX4_signsBy_44 rfl rfl ?_
      refine v_geti dX4_signsBy_45 kf_X4_300 h.1 rfl ?_
      refine v_iconst (v := 0) dX4_signsBy_48 (by decide +kernel) ?_
      refine v_cpI (fun z hz => runV (as := [.int (gF s1 b 24), .int (0 : Int32)]) dX4_signsBy_49 kv_X4_67 rfl rfl (Nat.le_of_ble_eq_true rfl) (by omega) (recvW h.1 rfl rfl) (ct_X4_get _ _ _ h _) hz) (fun x2 => ?_)
      refine v_iload_n dX4_signsBy_52 rfl rfl ?_
      refine v_cbI (fun z hz => runV (as := [.int x2, .int a2]) dX4_signsBy_53 kv_X4_306 rfl rfl (Nat.le_of_ble_eq_true rfl) (by omega) (recvW h.1 rfl rfl) (ct_X4_doubtsBy b h 60 _ _ _) hz) (fun x4 s3 => ?_)
      refine v_bipush (v := 9) dX4_signsBy_56 (by decide +kernel) ?_
      refine v_ixor dX4_signsBy_58 ?_
      exact v_ret (ty := .int) dX4_signsBy_59 rfl rfl rfl
    refine v_swc (fun _ => ?_) (fun _ => ?_)
    · skip
      refine v_aload_n dX4_signsBy_60 rfl rfl ?_
      refine v_bipush (v := 31) dX4_signsBy_61 (by decide +kernel) ?_
      refine v_cw (fun z hz => runV (as := [.int (31 : Int32)]) dX4_signsBy_63 kv_X4_297 rfl rfl (Nat.le_of_ble_eq_true rfl) (by omega) (recvW h.1 rfl rfl) (ct_X4_ran _ _ h _) hz) (fun s5 => ?_)
      refine v_aload_n dX4_signsBy_66 rfl rfl ?_
      refine v_iconst (v := 0) dX4_signsBy_67 (by decide +kernel) ?_
      refine v_iload_n dX4_signsBy_68 rfl rfl ?_
      refine v_cbI (fun z hz => runV (as := [.int (0 : Int32), .int a2]) dX4_signsBy_69 kv_X4_312 rfl rfl (Nat.le_of_ble_eq_true rfl) (by omega) (recvW h.1 rfl rfl) (ih _ _ _) hz) (fun x7 s6 => ?_)
      refine v_istore_n (L' := [(3, .int x7), (0, .ref b), (1, .int a1), (2, .int a2)]) dX4_signsBy_72 rfl (by decide) rfl ?_
      refine v_iload_n dX4_signsBy_73 rfl rfl ?_
      refine v_aload_n dX4_signsBy_74 rfl rfl ?_
      refine v_aload_n dX4_signsBy_75 rfl rfl ?_
      refine v_aload_n dX4_signsBy_76 rfl rfl ?_
      refine v_geti dX4_signsBy_77 kf_X4_300 h.1 rfl ?_
      refine v_iconst (v := 0) dX4_signsBy_80 (by decide +kernel) ?_
      refine v_cpI (fun z hz => runV (as := [.int (gF s6 b 24), .int (0 : Int32)]) dX4_signsBy_81 kv_X4_67 rfl rfl (Nat.le_of_ble_eq_true rfl) (by omega) (recvW h.1 rfl rfl) (ct_X4_get _ _ _ h _) hz) (fun x8 => ?_)
      refine v_aload_n dX4_signsBy_84 rfl rfl ?_
      refine v_geti dX4_signsBy_85 kf_X4_300 h.1 rfl ?_
      refine v_cbI (fun z hz => runV (as := [.int x8, .int (gF s6 b 24)]) dX4_signsBy_88 kv_X4_309 rfl rfl (Nat.le_of_ble_eq_true rfl) (by omega) (recvW h.1 rfl rfl) (ct_X4_partsBy b h 60 _ _ _) hz) (fun x10 s9 => ?_)
      refine v_isub dX4_signsBy_91 ?_
      exact v_ret (ty := .int) dX4_signsBy_92 rfl rfl rfl
    refine v_swc (fun _ => ?_) (fun _ => ?_)
    · skip
      refine v_aload_n dX4_signsBy_93 rfl rfl ?_
      refine v_bipush (v := 60) dX4_signsBy_94 (by decide +kernel) ?_
      refine v_cw (fun z hz => runV (as := [.int (60 : Int32)]) dX4_signsBy_96 kv_X4_297 rfl rfl (Nat.le_of_ble_eq_true rfl) (by omega) (recvW h.1 rfl rfl) (ct_X4_ran _ _ h _) hz) (fun s11 => ?_)
      refine v_bipush (v := 50) dX4_signsBy_99 (by decide +kernel) ?_
      refine v_aload_n dX4_signsBy_101 rfl rfl ?_
      refine v_iconst (v := 0) dX4_signsBy_102 (by decide +kernel) ?_
      refine v_iload_n dX4_signsBy_103 rfl rfl ?_
      refine v_cbI (fun z hz => runV (as := [.int (0 : Int32), .int a2]) dX4_signsBy_104 kv_X4_312 rfl rfl (Nat.le_of_ble_eq_true rfl) (by omega) (recvW h.1 rfl rfl) (ih _ _ _) hz) (fun x13 s12 => ?_)
      refine v_isub dX4_signsBy_107 ?_
      exact v_ret (ty := .int) dX4_signsBy_108 rfl rfl rfl
    refine v_swn ?_
    refine v_aload_n dX4_signsBy_109 rfl rfl ?_
    refine v_iload_n dX4_signsBy_110 rfl rfl ?_
    refine v_cpI (fun z hz => runT (as := [.int a1]) dX4_signsBy_111 kt_X4_287 rfl rfl (Nat.le_of_ble_eq_true rfl) (by omega) (ct_X4_above _  _) hz) (fun x14 => ?_)
    refine v_iload_n dX4_signsBy_114 rfl rfl ?_
    refine v_cbI (fun z hz => runV (as := [.int x14, .int a2]) dX4_signsBy_115 kv_X4_312 rfl rfl (Nat.le_of_ble_eq_true rfl) (by omega) (recvW h.1 rfl rfl) (ih _ _ _) hz) (fun x16 s15 => ?_)
    exact v_ret (ty := .int) dX4_signsBy_118 rfl rfl rfl
set_option maxHeartbeats 4000000 in
set_option maxRecDepth 100000 in
theorem w_X4_act {SH : SHT} (b : Nat) (a1 : Int32) (a2 : Int32) (a3 : Int32) (h : isModel SH b) (s0 : St) : VF mX4_act 184 SH jI 0 [(0, .ref b), (1, .int a1), (2, .int a2), (3, .int a3)] [] s0 (f_X4_act b a1 a2 a3 s0) := by
  unfold f_X4_act
  refine v_aload_n dX4_act_0 rfl rfl ?_
  refine v_iconst (v := 0) dX4_act_1 (by decide +kernel) ?_
  refine v_puti dX4_act_2 kp_X4_290 h.1 rfl rfl rfl (v_st fun s1 => ?_)
  refine v_aload_n dX4_act_5 rfl rfl ?_
  refine v_iconst (v := 0) dX4_act_6 (by decide +kernel) ?_
  refine v_puti dX4_act_7 kp_X4_293 h.1 rfl (by decide +kernel) (by decide +kernel) (v_st fun s2 => ?_)
  refine v_iload_n dX4_act_10 rfl rfl ?_
  refine v_i2l dX4_act_11 ?_
  refine v_lconst (v := 0) dX4_act_12 (by decide +kernel) ?_
  refine v_ldc2 dX4_act_13 kcL_X4_110 ?_
  refine v_cpI (fun z hz => runT (as := [.long (a1).toInt64, .long (0 : Int64), .long (3 : Int64)]) dX4_act_16 kt_X4_61 rfl rfl (Nat.le_of_ble_eq_true rfl) (Nat.le_of_ble_eq_true rfl) (ct_X4_in _ _ _  _) hz) (fun x3 => ?_)
  refine v_if_eq (tgt := 52) dX4_act_19 (by decide) (fun _ => ?_) (fun _ => ?_)
  · skip
    refine v_iconst (v := 0) dX4_act_52 (by decide +kernel) ?_
    exact v_ret (ty := .int) dX4_act_53 rfl rfl rfl
  refine v_iload_n dX4_act_22 rfl rfl ?_
  refine v_i2l dX4_act_23 ?_
  refine v_lconst (v := 0) dX4_act_24 (by decide +kernel) ?_
  refine v_ldc2 dX4_act_25 kcL_X4_110 ?_
  refine v_cpI (fun z hz => runT (as := [.long (a2).toInt64, .long (0 : Int64), .long (3 : Int64)]) dX4_act_28 kt_X4_61 rfl rfl (Nat.le_of_ble_eq_true rfl) (Nat.le_of_ble_eq_true rfl) (ct_X4_in _ _ _  _) hz) (fun x4 => ?_)
  refine v_if_eq (tgt := 52) dX4_act_31 (by decide) (fun _ => ?_) (fun _ => ?_)
  · skip
    refine v_iconst (v := 0) dX4_act_52 (by decide +kernel) ?_
    exact v_ret (ty := .int) dX4_act_53 rfl rfl rfl
  refine v_aload_n dX4_act_34 rfl rfl ?_
  refine v_iload_n dX4_act_35 rfl rfl ?_
  refine v_cpI (fun z hz => runV (as := [.int a1]) dX4_act_36 kv_X4_284 rfl rfl (Nat.le_of_ble_eq_true rfl) (Nat.le_of_ble_eq_true rfl) (recvW h.1 rfl rfl) (ct_X4_holdsNothing _ _ h _) hz) (fun x5 => ?_)
  refine v_if_ne (tgt := 52) dX4_act_39 (by decide) (fun _ => ?_) (fun _ => ?_)
  · skip
    refine v_iconst (v := 0) dX4_act_52 (by decide +kernel) ?_
    exact v_ret (ty := .int) dX4_act_53 rfl rfl rfl
  refine v_aload_n dX4_act_42 rfl rfl ?_
  refine v_getr dX4_act_43 kf_X4_42 h.1 rfl ?_
  refine v_iload_n dX4_act_46 rfl rfl ?_
  refine v_gd (fun g6 => ?_)
  refine v_iald dX4_act_47 h.2.2.2.2.2.2.2.2.2.2.2.1 g6 rfl ?_
  refine v_iconst (v := 2) dX4_act_48 (by decide +kernel) ?_
  refine v_icmp_ne (tgt := 54) dX4_act_49 (by decide) (fun _ => ?_) (fun _ => ?_)
  · skip
    refine v_aload_n dX4_act_54 rfl rfl ?_
    refine v_aload_n dX4_act_55 rfl rfl ?_
    refine v_getr dX4_act_56 kf_X4_45 h.1 rfl ?_
    refine v_iload_n dX4_act_59 rfl rfl ?_
    refine v_gd (fun g7 => ?_)
    refine v_iald dX4_act_60 h.2.2.2.2.2.2.2.2.2.2.2.2.1 g7 rfl ?_
    refine v_puti dX4_act_61 kp_X4_300 h.1 rfl rfl rfl (v_st fun s8 => ?_)
    refine v_aload_n dX4_act_64 rfl rfl ?_
    refine v_aload_n dX4_act_65 rfl rfl ?_
    refine v_geti dX4_act_66 kf_X4_300 h.1 rfl ?_
    refine v_iconst (v := 0) dX4_act_69 (by decide +kernel) ?_
    refine v_cpI (fun z hz => runV (as := [.int (gF s8 b 24), .int (0 : Int32)]) dX4_act_70 kv_X4_67 rfl rfl (Nat.le_of_ble_eq_true rfl) (Nat.le_of_ble_eq_true rfl) (recvW h.1 rfl rfl) (ct_X4_get _ _ _ h _) hz) (fun x9 => ?_)
    refine v_istore (L' := [(4, .int x9), (0, .ref b), (1, .int a1), (2, .int a2), (3, .int a3)]) dX4_act_73 (by decide) rfl ?_
    refine v_iload_n dX4_act_75 rfl rfl ?_
    refine v_bnK (fun K12 => ∀ (t10 : Int32) (s11 : St), VF mX4_act 184 SH jI 126 [(0, .ref b)] [.int t10] s11 (K12 t10 s11)) (fun K12 hK12 => ?_) (fun t10 s11 => ?_)
    · skip
      refine v_if_ne (tgt := 89) dX4_act_76 (by decide) (fun _ => ?_) (fun _ => ?_)
      · skip
        refine v_iload_n dX4_act_89 rfl rfl ?_
        refine v_iconst (v := 1) dX4_act_90 (by decide +kernel) ?_
        refine v_icmp_ne (tgt := 104) dX4_act_91 (by decide) (fun _ => ?_) (fun _ => ?_)
        · skip
          refine v_iload_n dX4_act_104 rfl rfl ?_
          refine v_iconst (v := 2) dX4_act_105 (by decide +kernel) ?_
          refine v_icmp_ne (tgt := 119) dX4_act_106 (by decide) (fun _ => ?_) (fun _ => ?_)
          · skip
            refine v_aload_n dX4_act_119 rfl rfl ?_
            refine v_iload dX4_act_120 rfl ?_
            refine v_iload_n dX4_act_122 rfl rfl ?_
            refine v_cbI (fun z hz => runV (as := [.int x9, .int a3]) dX4_act_123 kv_X4_312 rfl rfl (Nat.le_of_ble_eq_true rfl) (by decide) (recvW h.1 rfl rfl) (ct_X4_signsBy b h 60 _ _ _) hz) (fun x14 s13 => ?_)
            exact v_pick [1] rfl (hK12 _ _)
          refine v_aload_n dX4_act_109 rfl rfl ?_
          refine v_iload dX4_act_110 rfl ?_
          refine v_iload_n dX4_act_112 rfl rfl ?_
          refine v_cbI (fun z hz => runV (as := [.int x9, .int a3]) dX4_act_113 kv_X4_309 rfl rfl (Nat.le_of_ble_eq_true rfl) (by decide) (recvW h.1 rfl rfl) (ct_X4_partsBy b h 60 _ _ _) hz) (fun x16 s15 => ?_)
          refine v_goto (tgt := 126) dX4_act_116 (by decide) ?_
          exact v_pick [1] rfl (hK12 _ _)
        refine v_aload_n dX4_act_94 rfl rfl ?_
        refine v_iload dX4_act_95 rfl ?_
        refine v_iload_n dX4_act_97 rfl rfl ?_
        refine v_cbI (fun z hz => runV (as := [.int x9, .int a3]) dX4_act_98 kv_X4_306 rfl rfl (Nat.le_of_ble_eq_true rfl) (by decide) (recvW h.1 rfl rfl) (ct_X4_doubtsBy b h 60 _ _ _) hz) (fun x18 s17 => ?_)
        refine v_goto (tgt := 126) dX4_act_101 (by decide) ?_
        exact v_pick [1] rfl (hK12 _ _)
      refine v_aload_n dX4_act_79 rfl rfl ?_
      refine v_iload dX4_act_80 rfl ?_
      refine v_iload_n dX4_act_82 rfl rfl ?_
      refine v_cbI (fun z hz => runV (as := [.int x9, .int a3]) dX4_act_83 kv_X4_303 rfl rfl (Nat.le_of_ble_eq_true rfl) (by decide) (recvW h.1 rfl rfl) (ct_X4_swearsBy b h 60 _ _ _) hz) (fun x20 s19 => ?_)
      refine v_goto (tgt := 126) dX4_act_86 (by decide) ?_
      exact v_pick [1] rfl (hK12 _ _)
    refine v_istore (L' := [(5, .int t10), (0, .ref b)]) dX4_act_126 (by decide) rfl ?_
    refine v_aload_n dX4_act_128 rfl rfl ?_
    refine v_geti dX4_act_129 kf_X4_293 h.1 rfl ?_
    refine v_if_eq (tgt := 140) dX4_act_132 (by decide) (fun _ => ?_) (fun _ => ?_)
    · skip
      refine v_iload dX4_act_140 rfl ?_
      exact v_ret (ty := .int) dX4_act_142 rfl rfl rfl
    refine v_bipush (v := -15) dX4_act_135 (by decide +kernel) ?_
    refine v_goto (tgt := 142) dX4_act_137 (by decide) ?_
    exact v_ret (ty := .int) dX4_act_142 rfl rfl rfl
  refine v_iconst (v := 0) dX4_act_52 (by decide +kernel) ?_
  exact v_ret (ty := .int) dX4_act_53 rfl rfl rfl
theorem ct_X4_act {SH : SHT} (b : Nat) (a1 : Int32) (a2 : Int32) (a3 : Int32) (h : isModel SH b) (s0 : St) : CT yX4_act mX4_act 184 SH jI [.ref b, .int a1, .int a2, .int a3] s0 (f_X4_act b a1 a2 a3 s0) := CT.of (by decide +kernel) rfl (fun E => Nat.le_of_ble_eq_true rfl) (w_X4_act b a1 a2 a3 h s0)
set_option maxHeartbeats 4000000 in
set_option maxRecDepth 100000 in
theorem w_X4_trace {SH : SHT} (b : Nat) (a1 : Int32) (h : isModel SH b) (s0 : St) : VF mX4_trace 1 SH (jP s0) 0 [(0, .ref b), (1, .int a1)] [] s0 (f_X4_trace b a1 s0) := by
  unfold f_X4_trace
  refine v_iload_n dX4_trace_0 rfl rfl ?_
  refine v_i2l dX4_trace_1 ?_
  refine v_lconst (v := 0) dX4_trace_2 (by decide +kernel) ?_
  refine v_aload_n dX4_trace_3 rfl rfl ?_
  refine v_geti dX4_trace_4 kf_X4_290 h.1 rfl ?_
  refine v_iconst (v := 1) dX4_trace_7 (by decide +kernel) ?_
  refine v_isub dX4_trace_8 ?_
  refine v_i2l dX4_trace_9 ?_
  refine v_cpI (fun z hz => runT (as := [.long (a1).toInt64, .long (0 : Int64), .long (((gF s0 b 23) - (1 : Int32))).toInt64]) dX4_trace_10 kt_X4_61 rfl rfl (Nat.le_of_ble_eq_true rfl) (Nat.le_of_ble_eq_true rfl) (ct_X4_in _ _ _  _) hz) (fun x1 => ?_)
  refine v_if_eq (tgt := 25) dX4_trace_13 (by decide) (fun _ => ?_) (fun _ => ?_)
  · skip
    refine v_bipush (v := -3) dX4_trace_25 (by decide +kernel) ?_
    exact v_ret (ty := .int) dX4_trace_27 rfl rfl rfl
  refine v_aload_n dX4_trace_16 rfl rfl ?_
  refine v_getr dX4_trace_17 kf_X4_51 h.1 rfl ?_
  refine v_iload_n dX4_trace_20 rfl rfl ?_
  refine v_gd (fun g2 => ?_)
  refine v_iald dX4_trace_21 h.2.2.2.2.2.2.2.2.2.2.2.2.2.2 g2 rfl ?_
  refine v_goto (tgt := 27) dX4_trace_22 (by decide) ?_
  exact v_ret (ty := .int) dX4_trace_27 rfl rfl rfl
theorem ct_X4_trace {SH : SHT} (b : Nat) (a1 : Int32) (h : isModel SH b) (s0 : St) : CT yX4_trace mX4_trace 1 SH (jP s0) [.ref b, .int a1] s0 (f_X4_trace b a1 s0) := CT.of (by decide +kernel) rfl (fun E => Nat.le_of_ble_eq_true rfl) (w_X4_trace b a1 h s0)
set_option maxHeartbeats 4000000 in
set_option maxRecDepth 100000 in
theorem w_X4_many {SH : SHT} (b : Nat) (a1 : Int32) (h : isModel SH b) (s0 : St) : VF mX4_many 5 SH (jP s0) 0 [(0, .ref b), (1, .int a1)] [] s0 (f_X4_many b a1 s0) := by
  unfold f_X4_many
  refine v_iload_n dX4_many_0 rfl rfl ?_
  refine v_tsw (cs := [(0, 44), (1, 51), (2, 57), (3, 65), (4, 71), (5, 76), (6, 81)]) (dt := 86) dX4_many_1 (by decide +kernel) (by decide) (by decide +kernel) ?_
  refine v_swc (fun _ => ?_) (fun _ => ?_)
  · skip
    refine v_aload_n dX4_many_44 rfl rfl ?_
    refine v_getr dX4_many_45 kf_X4_7 h.1 rfl ?_
    refine v_iconst (v := 5) dX4_many_48 (by decide +kernel) ?_
    refine v_iald dX4_many_49 h.2.1 (by decide +kernel) (j := 5) (by decide +kernel) ?_
    exact v_ret (ty := .int) dX4_many_50 rfl rfl rfl
  refine v_swc (fun _ => ?_) (fun _ => ?_)
  · skip
    refine v_aload_n dX4_many_51 rfl rfl ?_
    refine v_iconst (v := 0) dX4_many_52 (by decide +kernel) ?_
    refine v_cpI (fun z hz => runV (as := [.int (0 : Int32)]) dX4_many_53 kv_X4_151 rfl rfl (Nat.le_of_ble_eq_true rfl) (Nat.le_of_ble_eq_true rfl) (recvW h.1 rfl rfl) (ct_X4_cellsSuch _ _ h _) hz) (fun x1 => ?_)
    exact v_ret (ty := .int) dX4_many_56 rfl rfl rfl
  refine v_swc (fun _ => ?_) (fun _ => ?_)
  · skip
    refine v_aload_n dX4_many_57 rfl rfl ?_
    refine v_cpI (fun z hz => runV (as := []) dX4_many_58 kv_X4_162 rfl rfl (Nat.le_of_ble_eq_true rfl) (Nat.le_of_ble_eq_true rfl) (recvW h.1 rfl rfl) (ct_X4_lost _ h _) hz) (fun x2 => ?_)
    refine v_cpI (fun z hz => runT (as := [.int x2]) dX4_many_61 kt_X4_165 rfl rfl (Nat.le_of_ble_eq_true rfl) (Nat.le_of_ble_eq_true rfl) (ct_X4_bits _  _) hz) (fun x3 => ?_)
    exact v_ret (ty := .int) dX4_many_64 rfl rfl rfl
  refine v_swc (fun _ => ?_) (fun _ => ?_)
  · skip
    refine v_aload_n dX4_many_65 rfl rfl ?_
    refine v_iconst (v := 2) dX4_many_66 (by decide +kernel) ?_
    refine v_cpI (fun z hz => runV (as := [.int (2 : Int32)]) dX4_many_67 kv_X4_151 rfl rfl (Nat.le_of_ble_eq_true rfl) (Nat.le_of_ble_eq_true rfl) (recvW h.1 rfl rfl) (ct_X4_cellsSuch _ _ h _) hz) (fun x4 => ?_)
    exact v_ret (ty := .int) dX4_many_70 rfl rfl rfl
  refine v_swc (fun _ => ?_) (fun _ => ?_)
  · skip
    refine v_aload_n dX4_many_71 rfl rfl ?_
    refine v_geti dX4_many_72 kf_X4_276 h.1 rfl ?_
    exact v_ret (ty := .int) dX4_many_75 rfl rfl rfl
  refine v_swc (fun _ => ?_) (fun _ => ?_)
  · skip
    refine v_aload_n dX4_many_76 rfl rfl ?_
    refine v_geti dX4_many_77 kf_X4_218 h.1 rfl ?_
    exact v_ret (ty := .int) dX4_many_80 rfl rfl rfl
  refine v_swc (fun _ => ?_) (fun _ => ?_)
  · skip
    refine v_aload_n dX4_many_81 rfl rfl ?_
    refine v_geti dX4_many_82 kf_X4_290 h.1 rfl ?_
    exact v_ret (ty := .int) dX4_many_85 rfl rfl rfl
  refine v_swn ?_
  refine v_iconst (v := -1) dX4_many_86 (by decide +kernel) ?_
  exact v_ret (ty := .int) dX4_many_87 rfl rfl rfl
theorem ct_X4_many {SH : SHT} (b : Nat) (a1 : Int32) (h : isModel SH b) (s0 : St) : CT yX4_many mX4_many 5 SH (jP s0) [.ref b, .int a1] s0 (f_X4_many b a1 s0) := CT.of (by decide +kernel) rfl (fun E => Nat.le_of_ble_eq_true rfl) (w_X4_many b a1 h s0)
set_option maxHeartbeats 4000000 in
set_option maxRecDepth 100000 in
theorem wB_X4_keep_2 {SH : SHT} (b : Nat) (h : isModel SH b) (rec : Int32 → St → Option (Int32 × St)) (hrec : ∀ (c1 : Int32) (s2 : St), VF mX4_keep 0 SH jI 2 [(0, .ref b), (1, .int c1)] [] s2 (rec c1 s2)) (K : St → Option (Int32 × St)) (hK : ∀ (s3 : St), VF mX4_keep 0 SH jI 26 [(0, .ref b)] [] s3 (K s3)) (c1 : Int32) (s2 : St) : VF mX4_keep 0 SH jI 2 [(0, .ref b), (1, .int c1)] [] s2 (B_X4_keep_2 rec b K c1 s2) := by
  unfold B_X4_keep_2
  refine v_iload_n dX4_keep_2 rfl rfl ?_
  refine v_bipush (v := 103) dX4_keep_3 (by decide +kernel) ?_
  refine v_icmp_ge (tgt := 26) dX4_keep_5 (by decide) (fun _ => ?_) (fun _ => ?_)
  · skip
    exact v_pick [0] rfl (hK _)
  refine v_aload_n dX4_keep_8 rfl rfl ?_
  refine v_getr dX4_keep_9 kf_X4_13 h.1 rfl ?_
  refine v_iload_n dX4_keep_12 rfl rfl ?_
  refine v_aload_n dX4_keep_13 rfl rfl ?_
  refine v_getr dX4_keep_14 kf_X4_7 h.1 rfl ?_
  refine v_iload_n dX4_keep_17 rfl rfl ?_
  refine v_gd (fun g4 => ?_)
  refine v_iald dX4_keep_18 h.2.1 g4 rfl ?_
  refine v_gd (fun g5 => ?_)
  refine v_iast dX4_keep_19 h.2.2.1 g5 rfl (v_st fun s6 => ?_)
  refine v_iinc (v := (c1 + (1 : Int32))) (L' := [(1, .int (c1 + (1 : Int32))), (0, .ref b)]) dX4_keep_20 rfl rfl (by decide) rfl ?_
  refine v_goto (tgt := 2) dX4_keep_23 (by decide) ?_
  exact v_pick [1, 0] rfl (hrec _ _)
theorem wL_X4_keep_2 {SH : SHT} (b : Nat) (h : isModel SH b) (K : St → Option (Int32 × St)) (hK : ∀ (s3 : St), VF mX4_keep 0 SH jI 26 [(0, .ref b)] [] s3 (K s3)) : ∀ (n : Nat) (c1 : Int32) (s2 : St), VF mX4_keep 0 SH jI 2 [(0, .ref b), (1, .int c1)] [] s2 (L_X4_keep_2 b K n c1 s2) := by
  intro n
  induction n with
  | zero => intros; exact v_none
  | succ n ih => intro c1 s2; exact wB_X4_keep_2 b h _ ih K hK c1 s2
set_option maxHeartbeats 4000000 in
set_option maxRecDepth 100000 in
theorem w_X4_keep {SH : SHT} (b : Nat) (h : isModel SH b) (s0 : St) : VF mX4_keep 0 SH jI 0 [(0, .ref b)] [] s0 (f_X4_keep b s0) := by
  unfold f_X4_keep
  refine v_iconst (v := 0) dX4_keep_0 (by decide +kernel) ?_
  refine v_istore_n (L' := [(1, .int (0 : Int32)), (0, .ref b)]) dX4_keep_1 rfl (by decide) rfl ?_
  refine v_pick [1, 0] rfl (wL_X4_keep_2 b h _ (fun s3 => ?_) FU _ _)
  refine v_aload_n dX4_keep_26 rfl rfl ?_
  refine v_iconst (v := 1) dX4_keep_27 (by decide +kernel) ?_
  refine v_puti dX4_keep_28 kp_X4_315 h.1 rfl (by decide +kernel) (by decide +kernel) (v_st fun s7 => ?_)
  refine v_iconst (v := 1) dX4_keep_31 (by decide +kernel) ?_
  exact v_ret (ty := .int) dX4_keep_32 rfl rfl rfl
theorem ct_X4_keep {SH : SHT} (b : Nat) (h : isModel SH b) (s0 : St) : CT yX4_keep mX4_keep 0 SH jI [.ref b] s0 (f_X4_keep b s0) := CT.of (by decide +kernel) rfl (fun E => Nat.le_of_ble_eq_true rfl) (w_X4_keep b h s0)
set_option maxHeartbeats 4000000 in
set_option maxRecDepth 100000 in
theorem wB_X4_again_12 {SH : SHT} (b : Nat) (h : isModel SH b) (rec : Int32 → St → Option (Int32 × St)) (hrec : ∀ (c1 : Int32) (s2 : St), VF mX4_again 0 SH jI 12 [(0, .ref b), (1, .int c1)] [] s2 (rec c1 s2)) (K : St → Option (Int32 × St)) (hK : ∀ (s3 : St), VF mX4_again 0 SH jI 36 [(0, .ref b)] [] s3 (K s3)) (c1 : Int32) (s2 : St) : VF mX4_again 0 SH jI 12 [(0, .ref b), (1, .int c1)] [] s2 (B_X4_again_12 rec b K c1 s2) := by
  unfold B_X4_again_12
  refine v_iload_n dX4_again_12 rfl rfl ?_
  refine v_bipush (v := 103) dX4_again_13 (by decide +kernel) ?_
  refine v_icmp_ge (tgt := 36) dX4_again_15 (by decide) (fun _ => ?_) (fun _ => ?_)
  · skip
    exact v_pick [0] rfl (hK _)
  refine v_aload_n dX4_again_18 rfl rfl ?_
  refine v_getr dX4_again_19 kf_X4_7 h.1 rfl ?_
  refine v_iload_n dX4_again_22 rfl rfl ?_
  refine v_aload_n dX4_again_23 rfl rfl ?_
  refine v_getr dX4_again_24 kf_X4_13 h.1 rfl ?_
  refine v_iload_n dX4_again_27 rfl rfl ?_
  refine v_gd (fun g4 => ?_)
  refine v_iald dX4_again_28 h.2.2.1 g4 rfl ?_
  refine v_gd (fun g5 => ?_)
  refine v_iast dX4_again_29 h.2.1 g5 rfl (v_st fun s6 => ?_)
  refine v_iinc (v := (c1 + (1 : Int32))) (L' := [(1, .int (c1 + (1 : Int32))), (0, .ref b)]) dX4_again_30 rfl rfl (by decide) rfl ?_
  refine v_goto (tgt := 12) dX4_again_33 (by decide) ?_
  exact v_pick [1, 0] rfl (hrec _ _)
theorem wL_X4_again_12 {SH : SHT} (b : Nat) (h : isModel SH b) (K : St → Option (Int32 × St)) (hK : ∀ (s3 : St), VF mX4_again 0 SH jI 36 [(0, .ref b)] [] s3 (K s3)) : ∀ (n : Nat) (c1 : Int32) (s2 : St), VF mX4_again 0 SH jI 12 [(0, .ref b), (1, .int c1)] [] s2 (L_X4_again_12 b K n c1 s2) := by
  intro n
  induction n with
  | zero => intros; exact v_none
  | succ n ih => intro c1 s2; exact wB_X4_again_12 b h _ ih K hK c1 s2
set_option maxHeartbeats 4000000 in
set_option maxRecDepth 100000 in
theorem w_X4_again {SH : SHT} (b : Nat) (h : isModel SH b) (s0 : St) : VF mX4_again 0 SH jI 0 [(0, .ref b)] [] s0 (f_X4_again b s0) := by
  unfold f_X4_again
  refine v_aload_n dX4_again_0 rfl rfl ?_
  refine v_geti dX4_again_1 kf_X4_315 h.1 rfl ?_
  refine v_if_ne (tgt := 10) dX4_again_4 (by decide) (fun _ => ?_) (fun _ => ?_)
  · skip
    refine v_iconst (v := 0) dX4_again_10 (by decide +kernel) ?_
    refine v_istore_n (L' := [(1, .int (0 : Int32)), (0, .ref b)]) dX4_again_11 rfl (by decide) rfl ?_
    refine v_pick [1, 0] rfl (wL_X4_again_12 b h _ (fun s3 => ?_) FU _ _)
    refine v_aload_n dX4_again_36 rfl rfl ?_
    refine v_getr dX4_again_37 kf_X4_7 h.1 rfl ?_
    refine v_iconst (v := 5) dX4_again_40 (by decide +kernel) ?_
    refine v_iald dX4_again_41 h.2.1 (by decide +kernel) (j := 5) (by decide +kernel) ?_
    exact v_ret (ty := .int) dX4_again_42 rfl rfl rfl
  refine v_bipush (v := -3) dX4_again_7 (by decide +kernel) ?_
  exact v_ret (ty := .int) dX4_again_9 rfl rfl rfl
theorem ct_X4_again {SH : SHT} (b : Nat) (h : isModel SH b) (s0 : St) : CT yX4_again mX4_again 0 SH jI [.ref b] s0 (f_X4_again b s0) := CT.of (by decide +kernel) rfl (fun E => Nat.le_of_ble_eq_true rfl) (w_X4_again b h s0)
