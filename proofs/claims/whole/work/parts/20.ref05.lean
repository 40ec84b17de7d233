set_option maxHeartbeats 4000000 in
set_option maxRecDepth 100000 in
theorem w_X4_isWord {SH : SHT} (b : Nat) (a1 : Int32) (h : isModel SH b) (s0 : St) : VF mX4_isWord 0 SH (jP s0) 0 [(0, .ref b), (1, .int a1)] [] s0 (f_X4_isWord b a1 s0) := by
  unfold f_X4_isWord
  refine v_aload_n dX4_isWord_0 rfl rfl ?_
  refine v_geti dX4_isWord_1 kf_X4_232 h.1 rfl ?_
  refine v_iconst (v := 1) dX4_isWord_4 (by decide +kernel) ?_
  refine v_icmp_ne (tgt := 20) dX4_isWord_5 (by decide) (fun _ => ?_) (fun _ => ?_)
  · skip
    refine v_iconst (v := 0) dX4_isWord_20 (by decide +kernel) ?_
    exact v_ret (ty := .boolean) dX4_isWord_21 rfl rfl (by decide +kernel)
  refine v_aload_n dX4_isWord_8 rfl rfl ?_
  refine v_geti dX4_isWord_9 kf_X4_229 h.1 rfl ?_
  refine v_iload_n dX4_isWord_12 rfl rfl ?_
  refine v_icmp_ne (tgt := 20) dX4_isWord_13 (by decide) (fun _ => ?_) (fun _ => ?_)
  · skip
    refine v_iconst (v := 0) dX4_isWord_20 (by decide +kernel) ?_
    exact v_ret (ty := .boolean) dX4_isWord_21 rfl rfl (by decide +kernel)
  refine v_iconst (v := 1) dX4_isWord_16 (by decide +kernel) ?_
  refine v_goto (tgt := 21) dX4_isWord_17 (by decide) ?_
  exact v_ret (ty := .boolean) dX4_isWord_21 rfl rfl (by decide +kernel)
theorem ct_X4_isWord {SH : SHT} (b : Nat) (a1 : Int32) (h : isModel SH b) (s0 : St) : CT yX4_isWord mX4_isWord 0 SH (jP s0) [.ref b, .int a1] s0 (f_X4_isWord b a1 s0) := CT.of (by decide +kernel) rfl (fun E => Nat.le_of_ble_eq_true rfl) (w_X4_isWord b a1 h s0)
set_option maxHeartbeats 4000000 in
set_option maxRecDepth 100000 in
theorem w_X4_reads {SH : SHT} (b : Nat) (a1 : Int32) (h : isModel SH b) (s0 : St) : VF mX4_reads 3 SH jI 0 [(0, .ref b), (1, .int a1)] [] s0 (f_X4_reads b a1 s0) := by
  unfold f_X4_reads
  refine v_aload_n dX4_reads_0 rfl rfl ?_
  refine v_cw (fun z hz => runV (as := []) dX4_reads_1 kv_X4_242 rfl rfl (Nat.le_of_ble_eq_true rfl) (Nat.le_of_ble_eq_true rfl) (recvW h.1 rfl rfl) (ct_X4_next _ h _) hz) (fun s1 => ?_)
  refine v_aload_n dX4_reads_4 rfl rfl ?_
  refine v_aload_n dX4_reads_5 rfl rfl ?_
  refine v_geti dX4_reads_6 kf_X4_229 h.1 rfl ?_
  refine v_puti dX4_reads_9 kp_X4_245 h.1 rfl rfl rfl (v_st fun s2 => ?_)
  refine v_aload_n dX4_reads_12 rfl rfl ?_
  refine v_geti dX4_reads_13 kf_X4_232 h.1 rfl ?_
  refine v_iconst (v := 2) dX4_reads_16 (by decide +kernel) ?_
  refine v_icmp_ne (tgt := 32) dX4_reads_17 (by decide) (fun _ => ?_) (fun _ => ?_)
  · skip
    refine v_iconst (v := 0) dX4_reads_32 (by decide +kernel) ?_
    exact v_ret (ty := .boolean) dX4_reads_33 rfl rfl (by decide +kernel)
  refine v_aload_n dX4_reads_20 rfl rfl ?_
  refine v_geti dX4_reads_21 kf_X4_229 h.1 rfl ?_
  refine v_iload_n dX4_reads_24 rfl rfl ?_
  refine v_icmp_gt (tgt := 32) dX4_reads_25 (by decide) (fun _ => ?_) (fun _ => ?_)
  · skip
    refine v_iconst (v := 0) dX4_reads_32 (by decide +kernel) ?_
    exact v_ret (ty := .boolean) dX4_reads_33 rfl rfl (by decide +kernel)
  refine v_iconst (v := 1) dX4_reads_28 (by decide +kernel) ?_
  refine v_goto (tgt := 33) dX4_reads_29 (by decide) ?_
  exact v_ret (ty := .boolean) dX4_reads_33 rfl rfl (by decide +kernel)
theorem ct_X4_reads {SH : SHT} (b : Nat) (a1 : Int32) (h : isModel SH b) (s0 : St) : CT yX4_reads mX4_reads 3 SH jI [.ref b, .int a1] s0 (f_X4_reads b a1 s0) := CT.of (by decide +kernel) rfl (fun E => Nat.le_of_ble_eq_true rfl) (w_X4_reads b a1 h s0)
set_option maxHeartbeats 4000000 in
set_option maxRecDepth 100000 in
theorem w_X4_readsWord {SH : SHT} (b : Nat) (a1 : Int32) (h : isModel SH b) (s0 : St) : VF mX4_readsWord 3 SH jI 0 [(0, .ref b), (1, .int a1)] [] s0 (f_X4_readsWord b a1 s0) := by
  unfold f_X4_readsWord
  refine v_aload_n dX4_readsWord_0 rfl rfl ?_
  refine v_cw (fun z hz => runV (as := []) dX4_readsWord_1 kv_X4_242 rfl rfl (Nat.le_of_ble_eq_true rfl) (Nat.le_of_ble_eq_true rfl) (recvW h.1 rfl rfl) (ct_X4_next _ h _) hz) (fun s1 => ?_)
  refine v_aload_n dX4_readsWord_4 rfl rfl ?_
  refine v_iload_n dX4_readsWord_5 rfl rfl ?_
  refine v_cpI (fun z hz => runV (as := [.int a1]) dX4_readsWord_6 kv_X4_248 rfl rfl (Nat.le_of_ble_eq_true rfl) (Nat.le_of_ble_eq_true rfl) (recvW h.1 rfl rfl) (ct_X4_isWord _ _ h _) hz) (fun x2 => ?_)
  exact v_retz dX4_readsWord_9 rfl rfl
theorem ct_X4_readsWord {SH : SHT} (b : Nat) (a1 : Int32) (h : isModel SH b) (s0 : St) : CT yX4_readsWord mX4_readsWord 3 SH jI [.ref b, .int a1] s0 (f_X4_readsWord b a1 s0) := CT.of (by decide +kernel) rfl (fun E => Nat.le_of_ble_eq_true rfl) (w_X4_readsWord b a1 h s0)
set_option maxHeartbeats 4000000 in
set_option maxRecDepth 100000 in
theorem w_X4_readsPerson {SH : SHT} (b : Nat) (a1 : Int32) (a2 : Int32) (a3 : Int32) (h : isModel SH b) (s0 : St) : VF mX4_readsPerson 4 SH jI 0 [(0, .ref b), (1, .int a1), (2, .int a2), (3, .int a3)] [] s0 (f_X4_readsPerson b a1 a2 a3 s0) := by
  unfold f_X4_readsPerson
  refine v_iload_n dX4_readsPerson_0 rfl rfl ?_
  refine v_bipush (v := 8) dX4_readsPerson_1 (by decide +kernel) ?_
  refine v_icmp_eq (tgt := 24) dX4_readsPerson_3 (by decide) (fun _ => ?_) (fun _ => ?_)
  · skip
    refine v_iconst (v := 0) dX4_readsPerson_24 (by decide +kernel) ?_
    exact v_ret (ty := .boolean) dX4_readsPerson_25 rfl rfl (by decide +kernel)
  refine v_aload_n dX4_readsPerson_6 rfl rfl ?_
  refine v_bipush (v := 6) dX4_readsPerson_7 (by decide +kernel) ?_
  refine v_cbI (fun z hz => runV (as := [.int (6 : Int32)]) dX4_readsPerson_9 kv_X4_251 rfl rfl (Nat.le_of_ble_eq_true rfl) (Nat.le_of_ble_eq_true rfl) (recvW h.1 rfl rfl) (ct_X4_readsWord _ _ h _) hz) (fun x2 s1 => ?_)
  refine v_if_eq (tgt := 24) dX4_readsPerson_12 (by decide) (fun _ => ?_) (fun _ => ?_)
  · skip
    refine v_iconst (v := 0) dX4_readsPerson_24 (by decide +kernel) ?_
    exact v_ret (ty := .boolean) dX4_readsPerson_25 rfl rfl (by decide +kernel)
  refine v_aload_n dX4_readsPerson_15 rfl rfl ?_
  refine v_bipush (v := 31) dX4_readsPerson_16 (by decide +kernel) ?_
  refine v_cbI (fun z hz => runV (as := [.int (31 : Int32)]) dX4_readsPerson_18 kv_X4_254 rfl rfl (Nat.le_of_ble_eq_true rfl) (Nat.le_of_ble_eq_true rfl) (recvW h.1 rfl rfl) (ct_X4_reads _ _ h _) hz) (fun x4 s3 => ?_)
  refine v_if_ne (tgt := 26) dX4_readsPerson_21 (by decide) (fun _ => ?_) (fun _ => ?_)
  · skip
    refine v_aload_n dX4_readsPerson_26 rfl rfl ?_
    refine v_geti dX4_readsPerson_27 kf_X4_245 h.1 rfl ?_
    refine v_topi (fun x5 => ?_)
    refine v_istore (L' := [(4, .int x5), (0, .ref b), (1, .int a1), (2, .int a2), (3, .int a3)]) dX4_readsPerson_30 (by decide) rfl ?_
    refine v_bipush (v := 50) dX4_readsPerson_32 (by decide +kernel) ?_
    refine v_istore (L' := [(5, .int (50 : Int32)), (4, .int x5), (0, .ref b), (1, .int a1), (2, .int a2), (3, .int a3)]) dX4_readsPerson_34 (by decide) rfl ?_
    refine v_iconst (v := 0) dX4_readsPerson_36 (by decide +kernel) ?_
    refine v_istore (L' := [(6, .int (0 : Int32)), (5, .int (50 : Int32)), (4, .int x5), (0, .ref b), (1, .int a1), (2, .int a2), (3, .int a3)]) dX4_readsPerson_37 (by decide) rfl ?_
    refine v_aload_n dX4_readsPerson_39 rfl rfl ?_
    refine v_cw (fun z hz => runV (as := []) dX4_readsPerson_40 kv_X4_242 rfl rfl (Nat.le_of_ble_eq_true rfl) (Nat.le_of_ble_eq_true rfl) (recvW h.1 rfl rfl) (ct_X4_next _ h _) hz) (fun s6 => ?_)
    refine v_aload_n dX4_readsPerson_43 rfl rfl ?_
    refine v_bipush (v := 7) dX4_readsPerson_44 (by decide +kernel) ?_
    refine v_cpI (fun z hz => runV (as := [.int (7 : Int32)]) dX4_readsPerson_46 kv_X4_248 rfl rfl (Nat.le_of_ble_eq_true rfl) (Nat.le_of_ble_eq_true rfl) (recvW h.1 rfl rfl) (ct_X4_isWord _ _ h _) hz) (fun x7 => ?_)
    refine v_if_eq (tgt := 73) dX4_readsPerson_49 (by decide) (fun _ => ?_) (fun _ => ?_)
    · skip
      refine v_aload_n dX4_readsPerson_73 rfl rfl ?_
      refine v_bipush (v := 8) dX4_readsPerson_74 (by decide +kernel) ?_
      refine v_cpI (fun z hz => runV (as := [.int (8 : Int32)]) dX4_readsPerson_76 kv_X4_248 rfl rfl (Nat.le_of_ble_eq_true rfl) (Nat.le_of_ble_eq_true rfl) (recvW h.1 rfl rfl) (ct_X4_isWord _ _ h _) hz) (fun x8 => ?_)
      refine v_if_eq (tgt := 103) dX4_readsPerson_79 (by decide) (fun _ => ?_) (fun _ => ?_)
      · skip
        refine v_aload_n dX4_readsPerson_103 rfl rfl ?_
        refine v_geti dX4_readsPerson_104 kf_X4_232 h.1 rfl ?_
        refine v_iconst (v := 3) dX4_readsPerson_107 (by decide +kernel) ?_
        refine v_bnK (fun K10 => ∀ (s9 : St), VF mX4_readsPerson 4 SH jI 128 [(0, .ref b)] [] s9 (K10 s9)) (fun K10 hK10 => ?_) (fun s9 => ?_)
        · skip
          refine v_icmp_ne (tgt := 128) dX4_readsPerson_108 (by decide) (fun _ => ?_) (fun _ => ?_)
          · skip
            exact v_pick [3] rfl (hK10 _)
          refine v_iload_n dX4_readsPerson_111 rfl rfl ?_
          refine v_if_eq (tgt := 128) dX4_readsPerson_112 (by decide) (fun _ => ?_) (fun _ => ?_)
          · skip
            exact v_pick [3] rfl (hK10 _)
          refine v_aload_n dX4_readsPerson_115 rfl rfl ?_
          refine v_iload_n dX4_readsPerson_116 rfl rfl ?_
          refine v_iload dX4_readsPerson_117 rfl ?_
          refine v_iload dX4_readsPerson_119 rfl ?_
          refine v_iload dX4_readsPerson_121 rfl ?_
          refine v_cbI (fun z hz => runV (as := [.int a1, .int (0 : Int32), .int (50 : Int32), .int x5]) dX4_readsPerson_123 kv_X4_123 rfl rfl (Nat.le_of_ble_eq_true rfl) (Nat.le_of_ble_eq_true rfl) (recvW h.1 rfl rfl) (ct_X4_comes _ _ _ _ _ h _) hz) (fun x12 s11 => ?_)
          refine v_istore (L' := [(7, .int x12), (6, .int (0 : Int32)), (5, .int (50 : Int32)), (4, .int x5), (0, .ref b), (1, .int a1), (2, .int a2), (3, .int a3)]) dX4_readsPerson_126 (by decide) rfl ?_
          exact v_pick [4] rfl (hK10 _)
        refine v_aload_n dX4_readsPerson_128 rfl rfl ?_
        refine v_geti dX4_readsPerson_129 kf_X4_232 h.1 rfl ?_
        refine v_iconst (v := 3) dX4_readsPerson_132 (by decide +kernel) ?_
        refine v_icmp_ne (tgt := 140) dX4_readsPerson_133 (by decide) (fun _ => ?_) (fun _ => ?_)
        · skip
          refine v_iconst (v := 0) dX4_readsPerson_140 (by decide +kernel) ?_
          exact v_ret (ty := .boolean) dX4_readsPerson_141 rfl rfl (by decide +kernel)
        refine v_iconst (v := 1) dX4_readsPerson_136 (by decide +kernel) ?_
        refine v_goto (tgt := 141) dX4_readsPerson_137 (by decide) ?_
        exact v_ret (ty := .boolean) dX4_readsPerson_141 rfl rfl (by decide +kernel)
      refine v_aload_n dX4_readsPerson_82 rfl rfl ?_
      refine v_bipush (v := 9) dX4_readsPerson_83 (by decide +kernel) ?_
      refine v_cbI (fun z hz => runV (as := [.int (9 : Int32)]) dX4_readsPerson_85 kv_X4_254 rfl rfl (Nat.le_of_ble_eq_true rfl) (Nat.le_of_ble_eq_true rfl) (recvW h.1 rfl rfl) (ct_X4_reads _ _ h _) hz) (fun x14 s13 => ?_)
      refine v_if_ne (tgt := 93) dX4_readsPerson_88 (by decide) (fun _ => ?_) (fun _ => ?_)
      · skip
        refine v_aload_n dX4_readsPerson_93 rfl rfl ?_
        refine v_geti dX4_readsPerson_94 kf_X4_245 h.1 rfl ?_
        refine v_topi (fun x15 => ?_)
        refine v_istore (L' := [(6, .int x15), (5, .int (50 : Int32)), (4, .int x5), (0, .ref b), (1, .int a1), (2, .int a2), (3, .int a3)]) dX4_readsPerson_97 (by decide) rfl ?_
        refine v_aload_n dX4_readsPerson_99 rfl rfl ?_
        refine v_cw (fun z hz => runV (as := []) dX4_readsPerson_100 kv_X4_242 rfl rfl (Nat.le_of_ble_eq_true rfl) (Nat.le_of_ble_eq_true rfl) (recvW h.1 rfl rfl) (ct_X4_next _ h _) hz) (fun s16 => ?_)
        refine v_aload_n dX4_readsPerson_103 rfl rfl ?_
        refine v_geti dX4_readsPerson_104 kf_X4_232 h.1 rfl ?_
        refine v_iconst (v := 3) dX4_readsPerson_107 (by decide +kernel) ?_
        refine v_bnK (fun K18 => ∀ (s17 : St), VF mX4_readsPerson 4 SH jI 128 [(0, .ref b)] [] s17 (K18 s17)) (fun K18 hK18 => ?_) (fun s17 => ?_)
        · skip
          refine v_icmp_ne (tgt := 128) dX4_readsPerson_108 (by decide) (fun _ => ?_) (fun _ => ?_)
          · skip
            exact v_pick [3] rfl (hK18 _)
          refine v_iload_n dX4_readsPerson_111 rfl rfl ?_
          refine v_if_eq (tgt := 128) dX4_readsPerson_112 (by decide) (fun _ => ?_) (fun _ => ?_)
          · skip
            exact v_pick [3] rfl (hK18 _)
          refine v_aload_n dX4_readsPerson_115 rfl rfl ?_
          refine v_iload_n dX4_readsPerson_116 rfl rfl ?_
          refine v_iload dX4_readsPerson_117 rfl ?_
          refine v_iload dX4_readsPerson_119 rfl ?_
          refine v_iload dX4_readsPerson_121 rfl ?_
          refine v_cbI (fun z hz => runV (as := [.int a1, .int x15, .int (50 : Int32), .int x5]) dX4_readsPerson_123 kv_X4_123 rfl rfl (Nat.le_of_ble_eq_true rfl) (Nat.le_of_ble_eq_true rfl) (recvW h.1 rfl rfl) (ct_X4_comes _ _ _ _ _ h _) hz) (fun x20 s19 => ?_)
          refine v_istore (L' := [(7, .int x20), (6, .int x15), (5, .int (50 : Int32)), (4, .int x5), (0, .ref b), (1, .int a1), (2, .int a2), (3, .int a3)]) dX4_readsPerson_126 (by decide) rfl ?_
          exact v_pick [4] rfl (hK18 _)
        refine v_aload_n dX4_readsPerson_128 rfl rfl ?_
        refine v_geti dX4_readsPerson_129 kf_X4_232 h.1 rfl ?_
        refine v_iconst (v := 3) dX4_readsPerson_132 (by decide +kernel) ?_
        refine v_icmp_ne (tgt := 140) dX4_readsPerson_133 (by decide) (fun _ => ?_) (fun _ => ?_)
        · skip
          refine v_iconst (v := 0) dX4_readsPerson_140 (by decide +kernel) ?_
          exact v_ret (ty := .boolean) dX4_readsPerson_141 rfl rfl (by decide +kernel)
        refine v_iconst (v := 1) dX4_readsPerson_136 (by decide +kernel) ?_
        refine v_goto (tgt := 141) dX4_readsPerson_137 (by decide) ?_
        exact v_ret (ty := .boolean) dX4_readsPerson_141 rfl rfl (by decide +kernel)
      refine v_iconst (v := 0) dX4_readsPerson_91 (by decide +kernel) ?_
      exact v_ret (ty := .boolean) dX4_readsPerson_92 rfl rfl (by decide +kernel)
    refine v_aload_n dX4_readsPerson_52 rfl rfl ?_
    refine v_bipush (v := 99) dX4_readsPerson_53 (by decide +kernel) ?_
    refine v_cbI (fun z hz => runV (as := [.int (99 : Int32)]) dX4_readsPerson_55 kv_X4_254 rfl rfl (Nat.le_of_ble_eq_true rfl) (Nat.le_of_ble_eq_true rfl) (recvW h.1 rfl rfl) (ct_X4_reads _ _ h _) hz) (fun x22 s21 => ?_)
    refine v_if_ne (tgt := 63) dX4_readsPerson_58 (by decide) (fun _ => ?_) (fun _ => ?_)
    · skip
      refine v_aload_n dX4_readsPerson_63 rfl rfl ?_
      refine v_geti dX4_readsPerson_64 kf_X4_245 h.1 rfl ?_
      refine v_topi (fun x23 => ?_)
      refine v_istore (L' := [(5, .int x23), (6, .int (0 : Int32)), (4, .int x5), (0, .ref b), (1, .int a1), (2, .int a2), (3, .int a3)]) dX4_readsPerson_67 (by decide) rfl ?_
      refine v_aload_n dX4_readsPerson_69 rfl rfl ?_
      refine v_cw (fun z hz => runV (as := []) dX4_readsPerson_70 kv_X4_242 rfl rfl (Nat.le_of_ble_eq_true rfl) (Nat.le_of_ble_eq_true rfl) (recvW h.1 rfl rfl) (ct_X4_next _ h _) hz) (fun s24 => ?_)
      refine v_aload_n dX4_readsPerson_73 rfl rfl ?_
      refine v_bipush (v := 8) dX4_readsPerson_74 (by decide +kernel) ?_
      refine v_cpI (fun z hz => runV (as := [.int (8 : Int32)]) dX4_readsPerson_76 kv_X4_248 rfl rfl (Nat.le_of_ble_eq_true rfl) (Nat.le_of_ble_eq_true rfl) (recvW h.1 rfl rfl) (ct_X4_isWord _ _ h _) hz) (fun x25 => ?_)
      refine v_if_eq (tgt := 103) dX4_readsPerson_79 (by decide) (fun _ => ?_) (fun _ => ?_)
      · skip
        refine v_aload_n dX4_readsPerson_103 rfl rfl ?_
        refine v_geti dX4_readsPerson_104 kf_X4_232 h.1 rfl ?_
        refine v_iconst (v := 3) dX4_readsPerson_107 (by decide +kernel) ?_
        refine v_bnK (fun K27 => ∀ (s26 : St), VF mX4_readsPerson 4 SH jI 128 [(0, .ref b)] [] s26 (K27 s26)) (fun K27 hK27 => ?_) (fun s26 => ?_)
        · skip
          refine v_icmp_ne (tgt := 128) dX4_readsPerson_108 (by decide) (fun _ => ?_) (fun _ => ?_)
          · skip
            exact v_pick [3] rfl (hK27 _)
          refine v_iload_n dX4_readsPerson_111 rfl rfl ?_
          refine v_if_eq (tgt := 128) dX4_readsPerson_112 (by decide) (fun _ => ?_) (fun _ => ?_)
          · skip
            exact v_pick [3] rfl (hK27 _)
          refine v_aload_n dX4_readsPerson_115 rfl rfl ?_
          refine v_iload_n dX4_readsPerson_116 rfl rfl ?_
          refine v_iload dX4_readsPerson_117 rfl ?_
          refine v_iload dX4_readsPerson_119 rfl ?_
          refine v_iload dX4_readsPerson_121 rfl ?_
          refine v_cbI (fun z hz => runV (as := [.int a1, .int (0 : Int32), .int x23, .int x5]) dX4_readsPerson_123 kv_X4_123 rfl rfl (Nat.le_of_ble_eq_true rfl) (Nat.le_of_ble_eq_true rfl) (recvW h.1 rfl rfl) (ct_X4_comes _ _ _ _ _ h _) hz) (fun x29 s28 => ?_)
          refine v_istore (L' := [(7, .int x29), (5, .int x23), (6, .int (0 : Int32)), (4, .int x5), (0, .ref b), (1, .int a1), (2, .int a2), (3, .int a3)]) dX4_readsPerson_126 (by decide) rfl ?_
          exact v_pick [4] rfl (hK27 _)
        refine v_aload_n dX4_readsPerson_128 rfl rfl ?_
        refine v_geti dX4_readsPerson_129 kf_X4_232 h.1 rfl ?_
        refine v_iconst (v := 3) dX4_readsPerson_132 (by decide +kernel) ?_
        refine v_icmp_ne (tgt := 140) dX4_readsPerson_133 (by decide) (fun _ => ?_) (fun _ => ?_)
        · skip
          refine v_iconst (v := 0) dX4_readsPerson_140 (by decide +kernel) ?_
          exact v_ret (ty := .boolean) dX4_readsPerson_141 rfl rfl (by decide +kernel)
        refine v_iconst (v := 1) dX4_readsPerson_136 (by decide +kernel) ?_
        refine v_goto (tgt := 141) dX4_readsPerson_137 (by decide) ?_
        exact v_ret (ty := .boolean) dX4_readsPerson_141 rfl rfl (by decide +kernel)
      refine v_aload_n dX4_readsPerson_82 rfl rfl ?_
      refine v_bipush (v := 9) dX4_readsPerson_83 (by decide +kernel) ?_
      refine v_cbI (fun z hz => runV (as := [.int (9 : Int32)]) dX4_readsPerson_85 kv_X4_254 rfl rfl (Nat.le_of_ble_eq_true rfl) (Nat.le_of_ble_eq_true rfl) (recvW h.1 rfl rfl) (ct_X4_reads _ _ h _) hz) (fun x31 s30 => ?_)
      refine v_if_ne (tgt := 93) dX4_readsPerson_88 (by decide) (fun _ => ?_) (fun _ => ?_)
      · skip
        refine v_aload_n dX4_readsPerson_93 rfl rfl ?_
        refine v_geti dX4_readsPerson_94 kf_X4_245 h.1 rfl ?_
        refine v_topi (fun x32 => ?_)
        refine v_istore (L' := [(6, .int x32), (5, .int x23), (4, .int x5), (0, .ref b), (1, .int a1), (2, .int a2), (3, .int a3)]) dX4_readsPerson_97 (by decide) rfl ?_
        refine v_aload_n dX4_readsPerson_99 rfl rfl ?_
        refine v_cw (fun z hz => runV (as := []) dX4_readsPerson_100 kv_X4_242 rfl rfl (Nat.le_of_ble_eq_true rfl) (Nat.le_of_ble_eq_true rfl) (recvW h.1 rfl rfl) (ct_X4_next _ h _) hz) (fun s33 => ?_)
        refine v_aload_n dX4_readsPerson_103 rfl rfl ?_
        refine v_geti dX4_readsPerson_104 kf_X4_232 h.1 rfl ?_
        refine v_iconst (v := 3) dX4_readsPerson_107 (by decide +kernel) ?_
        refine v_bnK (fun K35 => ∀ (s34 : St), VF mX4_readsPerson 4 SH jI 128 [(0, .ref b)] [] s34 (K35 s34)) (fun K35 hK35 => ?_) (fun s34 => ?_)
        · skip
          refine v_icmp_ne (tgt := 128) dX4_readsPerson_108 (by decide) (fun _ => ?_) (fun _ => ?_)
          · skip
            exact v_pick [3] rfl (hK35 _)
          refine v_iload_n dX4_readsPerson_111 rfl rfl ?_
          refine v_if_eq (tgt := 128) dX4_readsPerson_112 (by decide) (fun _ => ?_) (fun _ => ?_)
          · skip
            exact v_pick [3] rfl (hK35 _)
          refine v_aload_n dX4_readsPerson_115 rfl rfl ?_
          refine v_iload_n dX4_readsPerson_116 rfl rfl ?_
          refine v_iload dX4_readsPerson_117 rfl ?_
          refine v_iload dX4_readsPerson_119 rfl ?_
          refine v_iload dX4_readsPerson_121 rfl ?_
          refine v_cbI (fun z hz => runV (as := [.int a1, .int x32, .int x23, .int x5]) dX4_readsPerson_123 kv_X4_123 rfl rfl (Nat.le_of_ble_eq_true rfl) (Nat.le_of_ble_eq_true rfl) (recvW h.1 rfl rfl) (ct_X4_comes _ _ _ _ _ h _) hz) (fun x37 s36 => ?_)
          refine v_istore (L' := [(7, .int x37), (6, .int x32), (5, .int x23), (4, .int x5), (0, .ref b), (1, .int a1), (2, .int a2), (3, .int a3)]) dX4_readsPerson_126 (by decide) rfl ?_
          exact v_pick [4] rfl (hK35 _)
        refine v_aload_n dX4_readsPerson_128 rfl rfl ?_
        refine v_geti dX4_readsPerson_129 kf_X4_232 h.1 rfl ?_
        refine v_iconst (v := 3) dX4_readsPerson_132 (by decide +kernel) ?_
        refine v_icmp_ne (tgt := 140) dX4_readsPerson_133 (by decide) (fun _ => ?_) (fun _ => ?_)
        · skip
          refine v_iconst (v := 0) dX4_readsPerson_140 (by decide +kernel) ?_
          exact v_ret (ty := .boolean) dX4_readsPerson_141 rfl rfl (by decide +kernel)
        refine v_iconst (v := 1) dX4_readsPerson_136 (by decide +kernel) ?_
        refine v_goto (tgt := 141) dX4_readsPerson_137 (by decide) ?_
        exact v_ret (ty := .boolean) dX4_readsPerson_141 rfl rfl (by decide +kernel)
      refine v_iconst (v := 0) dX4_readsPerson_91 (by decide +kernel) ?_
      exact v_ret (ty := .boolean) dX4_readsPerson_92 rfl rfl (by decide +kernel)
    refine v_iconst (v := 0) dX4_readsPerson_61 (by decide +kernel) ?_
    exact v_ret (ty := .boolean) dX4_readsPerson_62 rfl rfl (by decide +kernel)
  refine v_iconst (v := 0) dX4_readsPerson_24 (by decide +kernel) ?_
  exact v_ret (ty := .boolean) dX4_readsPerson_25 rfl rfl (by decide +kernel)
theorem ct_X4_readsPerson {SH : SHT} (b : Nat) (a1 : Int32) (a2 : Int32) (a3 : Int32) (h : isModel SH b) (s0 : St) : CT yX4_readsPerson mX4_readsPerson 4 SH jI [.ref b, .int a1, .int a2, .int a3] s0 (f_X4_readsPerson b a1 a2 a3 s0) := CT.of (by decide +kernel) rfl (fun E => Nat.le_of_ble_eq_true rfl) (w_X4_readsPerson b a1 a2 a3 h s0)
set_option maxHeartbeats 4000000 in
set_option maxRecDepth 100000 in
theorem w_X4_readsCell {SH : SHT} (b : Nat) (a1 : Int32) (a2 : Int32) (h : isModel SH b) (s0 : St) : VF mX4_readsCell 4 SH jI 0 [(0, .ref b), (1, .int a1), (2, .int a2)] [] s0 (f_X4_readsCell b a1 a2 s0) := by
  unfold f_X4_readsCell
  refine v_aload_n dX4_readsCell_0 rfl rfl ?_
  refine v_bipush (v := 31) dX4_readsCell_1 (by decide +kernel) ?_
  refine v_cbI (fun z hz => runV (as := [.int (31 : Int32)]) dX4_readsCell_3 kv_X4_254 rfl rfl (Nat.le_of_ble_eq_true rfl) (Nat.le_of_ble_eq_true rfl) (recvW h.1 rfl rfl) (ct_X4_reads _ _ h _) hz) (fun x2 s1 => ?_)
  refine v_if_ne (tgt := 11) dX4_readsCell_6 (by decide) (fun _ => ?_) (fun _ => ?_)
  · skip
    refine v_aload_n dX4_readsCell_11 rfl rfl ?_
    refine v_geti dX4_readsCell_12 kf_X4_245 h.1 rfl ?_
    refine v_topi (fun x3 => ?_)
    refine v_istore_n (L' := [(3, .int x3), (0, .ref b), (1, .int a1), (2, .int a2)]) dX4_readsCell_15 rfl (by decide) rfl ?_
    refine v_aload_n dX4_readsCell_16 rfl rfl ?_
    refine v_bipush (v := 9) dX4_readsCell_17 (by decide +kernel) ?_
    refine v_cbI (fun z hz => runV (as := [.int (9 : Int32)]) dX4_readsCell_19 kv_X4_251 rfl rfl (Nat.le_of_ble_eq_true rfl) (Nat.le_of_ble_eq_true rfl) (recvW h.1 rfl rfl) (ct_X4_readsWord _ _ h _) hz) (fun x5 s4 => ?_)
    refine v_if_eq (tgt := 45) dX4_readsCell_22 (by decide) (fun _ => ?_) (fun _ => ?_)
    · skip
      refine v_iconst (v := 0) dX4_readsCell_45 (by decide +kernel) ?_
      exact v_ret (ty := .boolean) dX4_readsCell_46 rfl rfl (by decide +kernel)
    refine v_aload_n dX4_readsCell_25 rfl rfl ?_
    refine v_iload_n dX4_readsCell_26 rfl rfl ?_
    refine v_bipush (v := 10) dX4_readsCell_27 (by decide +kernel) ?_
    refine v_bnK (fun K7 => ∀ (t6 : Int32), VF mX4_readsCell 4 SH jI 39 [(0, .ref b), (1, .int a1), (2, .int a2), (3, .int x3)] [.int t6, .ref b] s4 (K7 t6)) (fun K7 hK7 => ?_) (fun t6 => ?_)
    · skip
      refine v_icmp_ne (tgt := 37) dX4_readsCell_29 (by decide) (fun _ => ?_) (fun _ => ?_)
      · skip
        refine v_bipush (v := 99) dX4_readsCell_37 (by decide +kernel) ?_
        exact v_pick [1, 2, 3, 0] rfl (hK7 _)
      refine v_bipush (v := 9) dX4_readsCell_32 (by decide +kernel) ?_
      refine v_goto (tgt := 39) dX4_readsCell_34 (by decide) ?_
      exact v_pick [1, 2, 3, 0] rfl (hK7 _)
    refine v_cbI (fun z hz => runV (as := [.int t6]) dX4_readsCell_39 kv_X4_254 rfl rfl (Nat.le_of_ble_eq_true rfl) (Nat.le_of_ble_eq_true rfl) (recvW h.1 rfl rfl) (ct_X4_reads _ _ h _) hz) (fun x9 s8 => ?_)
    refine v_if_ne (tgt := 47) dX4_readsCell_42 (by decide) (fun _ => ?_) (fun _ => ?_)
    · skip
      refine v_aload_n dX4_readsCell_47 rfl rfl ?_
      refine v_geti dX4_readsCell_48 kf_X4_245 h.1 rfl ?_
      refine v_topi (fun x10 => ?_)
      refine v_istore (L' := [(4, .int x10), (0, .ref b), (1, .int a1), (2, .int a2), (3, .int x3)]) dX4_readsCell_51 (by decide) rfl ?_
      refine v_aload_n dX4_readsCell_53 rfl rfl ?_
      refine v_cw (fun z hz => runV (as := []) dX4_readsCell_54 kv_X4_242 rfl rfl (Nat.le_of_ble_eq_true rfl) (Nat.le_of_ble_eq_true rfl) (recvW h.1 rfl rfl) (ct_X4_next _ h _) hz) (fun s11 => ?_)
      refine v_aload_n dX4_readsCell_57 rfl rfl ?_
      refine v_geti dX4_readsCell_58 kf_X4_232 h.1 rfl ?_
      refine v_iconst (v := 3) dX4_readsCell_61 (by decide +kernel) ?_
      refine v_bnK (fun K13 => ∀ (s12 : St), VF mX4_readsCell 4 SH jI 91 [(0, .ref b)] [] s12 (K13 s12)) (fun K13 hK13 => ?_) (fun s12 => ?_)
      · skip
        refine v_icmp_ne (tgt := 91) dX4_readsCell_62 (by decide) (fun _ => ?_) (fun _ => ?_)
        · skip
          exact v_pick [1] rfl (hK13 _)
        refine v_iload_n dX4_readsCell_65 rfl rfl ?_
        refine v_if_eq (tgt := 91) dX4_readsCell_66 (by decide) (fun _ => ?_) (fun _ => ?_)
        · skip
          exact v_pick [1] rfl (hK13 _)
        refine v_aload_n dX4_readsCell_69 rfl rfl ?_
        refine v_getr dX4_readsCell_70 kf_X4_7 h.1 rfl ?_
        refine v_iload_n dX4_readsCell_73 rfl rfl ?_
        refine v_bipush (v := 10) dX4_readsCell_74 (by decide +kernel) ?_
        refine v_bnK (fun K15 => ∀ (t14 : Int32), VF mX4_readsCell 4 SH jI 86 [(0, .ref b), (3, .int x3), (4, .int x10)] [.int t14, .ref (b + 1)] s11 (K15 t14)) (fun K15 hK15 => ?_) (fun t14 => ?_)
        · skip
          refine v_icmp_ne (tgt := 84) dX4_readsCell_76 (by decide) (fun _ => ?_) (fun _ => ?_)
          · skip
            refine v_bipush (v := 39) dX4_readsCell_84 (by decide +kernel) ?_
            exact v_pick [1, 4, 0] rfl (hK15 _)
          refine v_bipush (v := 7) dX4_readsCell_79 (by decide +kernel) ?_
          refine v_goto (tgt := 86) dX4_readsCell_81 (by decide) ?_
          exact v_pick [1, 4, 0] rfl (hK15 _)
        refine v_iload_n dX4_readsCell_86 rfl rfl ?_
        refine v_iadd dX4_readsCell_87 ?_
        refine v_iload dX4_readsCell_88 rfl ?_
        refine v_gd (fun g16 => ?_)
        refine v_iast dX4_readsCell_90 h.2.1 g16 rfl (v_st fun s17 => ?_)
        exact v_pick [0] rfl (hK13 _)
      refine v_aload_n dX4_readsCell_91 rfl rfl ?_
      refine v_geti dX4_readsCell_92 kf_X4_232 h.1 rfl ?_
      refine v_iconst (v := 3) dX4_readsCell_95 (by decide +kernel) ?_
      refine v_icmp_ne (tgt := 103) dX4_readsCell_96 (by decide) (fun _ => ?_) (fun _ => ?_)
      · skip
        refine v_iconst (v := 0) dX4_readsCell_103 (by decide +kernel) ?_
        exact v_ret (ty := .boolean) dX4_readsCell_104 rfl rfl (by decide +kernel)
      refine v_iconst (v := 1) dX4_readsCell_99 (by decide +kernel) ?_
      refine v_goto (tgt := 104) dX4_readsCell_100 (by decide) ?_
      exact v_ret (ty := .boolean) dX4_readsCell_104 rfl rfl (by decide +kernel)
    refine v_iconst (v := 0) dX4_readsCell_45 (by decide +kernel) ?_
    exact v_ret (ty := .boolean) dX4_readsCell_46 rfl rfl (by decide +kernel)
  refine v_iconst (v := 0) dX4_readsCell_9 (by decide +kernel) ?_
  exact v_ret (ty := .boolean) dX4_readsCell_10 rfl rfl (by decide +kernel)
theorem ct_X4_readsCell {SH : SHT} (b : Nat) (a1 : Int32) (a2 : Int32) (h : isModel SH b) (s0 : St) : CT yX4_readsCell mX4_readsCell 4 SH jI [.ref b, .int a1, .int a2] s0 (f_X4_readsCell b a1 a2 s0) := CT.of (by decide +kernel) rfl (fun E => Nat.le_of_ble_eq_true rfl) (w_X4_readsCell b a1 a2 h s0)
set_option maxHeartbeats 4000000 in
set_option maxRecDepth 100000 in
theorem w_X4_readsLaw {SH : SHT} (b : Nat) (a1 : Int32) (a2 : Int32) (h : isModel SH b) (s0 : St) : VF mX4_readsLaw 4 SH jI 0 [(0, .ref b), (1, .int a1), (2, .int a2)] [] s0 (f_X4_readsLaw b a1 a2 s0) := by
  unfold f_X4_readsLaw
  refine v_aload_n dX4_readsLaw_0 rfl rfl ?_
  refine v_iload_n dX4_readsLaw_1 rfl rfl ?_
  refine v_iconst (v := 2) dX4_readsLaw_2 (by decide +kernel) ?_
  refine v_bnK (fun K2 => ∀ (t1 : Int32), VF mX4_readsLaw 4 SH jI 23 [(0, .ref b), (1, .int a1), (2, .int a2)] [.int t1, .ref b] s0 (K2 t1)) (fun K2 hK2 => ?_) (fun t1 => ?_)
  · skip
    refine v_icmp_ge (tgt := 11) dX4_readsLaw_3 (by decide) (fun _ => ?_) (fun _ => ?_)
    · skip
      refine v_iload_n dX4_readsLaw_11 rfl rfl ?_
      refine v_iconst (v := 2) dX4_readsLaw_12 (by decide +kernel) ?_
      refine v_icmp_ne (tgt := 21) dX4_readsLaw_13 (by decide) (fun _ => ?_) (fun _ => ?_)
      · skip
        refine v_bipush (v := 99) dX4_readsLaw_21 (by decide +kernel) ?_
        exact v_pick [0, 1, 2] rfl (hK2 _)
      refine v_bipush (v := 50) dX4_readsLaw_16 (by decide +kernel) ?_
      refine v_goto (tgt := 23) dX4_readsLaw_18 (by decide) ?_
      exact v_pick [0, 1, 2] rfl (hK2 _)
    refine v_bipush (v := 9) dX4_readsLaw_6 (by decide +kernel) ?_
    refine v_goto (tgt := 23) dX4_readsLaw_8 (by decide) ?_
    exact v_pick [0, 1, 2] rfl (hK2 _)
  refine v_cbI (fun z hz => runV (as := [.int t1]) dX4_readsLaw_23 kv_X4_254 rfl rfl (Nat.le_of_ble_eq_true rfl) (Nat.le_of_ble_eq_true rfl) (recvW h.1 rfl rfl) (ct_X4_reads _ _ h _) hz) (fun x4 s3 => ?_)
  refine v_if_ne (tgt := 31) dX4_readsLaw_26 (by decide) (fun _ => ?_) (fun _ => ?_)
  · skip
    refine v_aload_n dX4_readsLaw_31 rfl rfl ?_
    refine v_geti dX4_readsLaw_32 kf_X4_245 h.1 rfl ?_
    refine v_topi (fun x5 => ?_)
    refine v_istore_n (L' := [(3, .int x5), (0, .ref b), (1, .int a1), (2, .int a2)]) dX4_readsLaw_35 rfl (by decide) rfl ?_
    refine v_aload_n dX4_readsLaw_36 rfl rfl ?_
    refine v_cw (fun z hz => runV (as := []) dX4_readsLaw_37 kv_X4_242 rfl rfl (Nat.le_of_ble_eq_true rfl) (Nat.le_of_ble_eq_true rfl) (recvW h.1 rfl rfl) (ct_X4_next _ h _) hz) (fun s6 => ?_)
    refine v_aload_n dX4_readsLaw_40 rfl rfl ?_
    refine v_geti dX4_readsLaw_41 kf_X4_232 h.1 rfl ?_
    refine v_iconst (v := 3) dX4_readsLaw_44 (by decide +kernel) ?_
    refine v_bnK (fun K8 => ∀ (s7 : St), VF mX4_readsLaw 4 SH jI 59 [(0, .ref b)] [] s7 (K8 s7)) (fun K8 hK8 => ?_) (fun s7 => ?_)
    · skip
      refine v_icmp_ne (tgt := 59) dX4_readsLaw_45 (by decide) (fun _ => ?_) (fun _ => ?_)
      · skip
        exact v_pick [1] rfl (hK8 _)
      refine v_iload_n dX4_readsLaw_48 rfl rfl ?_
      refine v_if_eq (tgt := 59) dX4_readsLaw_49 (by decide) (fun _ => ?_) (fun _ => ?_)
      · skip
        exact v_pick [1] rfl (hK8 _)
      refine v_aload_n dX4_readsLaw_52 rfl rfl ?_
      refine v_getr dX4_readsLaw_53 kf_X4_7 h.1 rfl ?_
      refine v_iload_n dX4_readsLaw_56 rfl rfl ?_
      refine v_iload_n dX4_readsLaw_57 rfl rfl ?_
      refine v_gd (fun g9 => ?_)
      refine v_iast dX4_readsLaw_58 h.2.1 g9 rfl (v_st fun s10 => ?_)
      exact v_pick [1] rfl (hK8 _)
    refine v_aload_n dX4_readsLaw_59 rfl rfl ?_
    refine v_geti dX4_readsLaw_60 kf_X4_232 h.1 rfl ?_
    refine v_iconst (v := 3) dX4_readsLaw_63 (by decide +kernel) ?_
    refine v_icmp_ne (tgt := 71) dX4_readsLaw_64 (by decide) (fun _ => ?_) (fun _ => ?_)
    · skip
      refine v_iconst (v := 0) dX4_readsLaw_71 (by decide +kernel) ?_
      exact v_ret (ty := .boolean) dX4_readsLaw_72 rfl rfl (by decide +kernel)
    refine v_iconst (v := 1) dX4_readsLaw_67 (by decide +kernel) ?_
    refine v_goto (tgt := 72) dX4_readsLaw_68 (by decide) ?_
    exact v_ret (ty := .boolean) dX4_readsLaw_72 rfl rfl (by decide +kernel)
  refine v_iconst (v := 0) dX4_readsLaw_29 (by decide +kernel) ?_
  exact v_ret (ty := .boolean) dX4_readsLaw_30 rfl rfl (by decide +kernel)
theorem ct_X4_readsLaw {SH : SHT} (b : Nat) (a1 : Int32) (a2 : Int32) (h : isModel SH b) (s0 : St) : CT yX4_readsLaw mX4_readsLaw 4 SH jI [.ref b, .int a1, .int a2] s0 (f_X4_readsLaw b a1 a2 s0) := CT.of (by decide +kernel) rfl (fun E => Nat.le_of_ble_eq_true rfl) (w_X4_readsLaw b a1 a2 h s0)
set_option maxHeartbeats 4000000 in
set_option maxRecDepth 100000 in
theorem wB_X4_readsAll_9 {SH : SHT} (b : Nat) (a1 : Int32) (h : isModel SH b) (rec : Int32 → Int32 → St → Option (Int32 × St)) (hrec : ∀ (c2 : Int32) (c3 : Int32) (s4 : St), VF mX4_readsAll 5 SH jI 9 [(0, .ref b), (1, .int a1), (2, .int c2), (3, .int c3)] [] s4 (rec c2 c3 s4)) (c2 : Int32) (c3 : Int32) (s4 : St) : VF mX4_readsAll 5 SH jI 9 [(0, .ref b), (1, .int a1), (2, .int c2), (3, .int c3)] [] s4 (B_X4_readsAll_9 rec b a1 c2 c3 s4) := by
  unfold B_X4_readsAll_9
  refine v_iload_n dX4_readsAll_9 rfl rfl ?_
  refine v_if_eq (tgt := 127) dX4_readsAll_10 (by decide) (fun _ => ?_) (fun _ => ?_)
  · skip
    refine v_iconst (v := 0) dX4_readsAll_127 (by decide +kernel) ?_
    exact v_ret (ty := .boolean) dX4_readsAll_128 rfl rfl (by decide +kernel)
  refine v_aload_n dX4_readsAll_13 rfl rfl ?_
  refine v_cw (fun z hz => runV (as := []) dX4_readsAll_14 kv_X4_242 rfl rfl (Nat.le_of_ble_eq_true rfl) (Nat.le_of_ble_eq_true rfl) (recvW h.1 rfl rfl) (ct_X4_next _ h _) hz) (fun s5 => ?_)
  refine v_aload_n dX4_readsAll_17 rfl rfl ?_
  refine v_geti dX4_readsAll_18 kf_X4_232 h.1 rfl ?_
  refine v_if_ne (tgt := 26) dX4_readsAll_21 (by decide) (fun _ => ?_) (fun _ => ?_)
  · skip
    refine v_aload_n dX4_readsAll_26 rfl rfl ?_
    refine v_geti dX4_readsAll_27 kf_X4_232 h.1 rfl ?_
    refine v_iconst (v := 1) dX4_readsAll_30 (by decide +kernel) ?_
    refine v_bnK (fun K7 => ∀ (t6 : Int32), VF mX4_readsAll 5 SH jI 42 [(0, .ref b), (1, .int a1), (2, .int c2)] [.int t6] s5 (K7 t6)) (fun K7 hK7 => ?_) (fun t6 => ?_)
    · skip
      refine v_icmp_ne (tgt := 41) dX4_readsAll_31 (by decide) (fun _ => ?_) (fun _ => ?_)
      · skip
        refine v_iconst (v := -1) dX4_readsAll_41 (by decide +kernel) ?_
        exact v_pick [0, 1, 2] rfl (hK7 _)
      refine v_aload_n dX4_readsAll_34 rfl rfl ?_
      refine v_geti dX4_readsAll_35 kf_X4_229 h.1 rfl ?_
      refine v_goto (tgt := 42) dX4_readsAll_38 (by decide) ?_
      exact v_pick [0, 1, 2] rfl (hK7 _)
    refine v_istore (L' := [(4, .int t6), (0, .ref b), (1, .int a1), (2, .int c2)]) dX4_readsAll_42 (by decide) rfl ?_
    refine v_iload dX4_readsAll_44 rfl ?_
    refine v_i2l dX4_readsAll_46 ?_
    refine v_lconst (v := 0) dX4_readsAll_47 (by decide +kernel) ?_
    refine v_ldc2 dX4_readsAll_48 kcL_X4_118 ?_
    refine v_cpI (fun z hz => runT (as := [.long (t6).toInt64, .long (0 : Int64), .long (5 : Int64)]) dX4_readsAll_51 kt_X4_61 rfl rfl (Nat.le_of_ble_eq_true rfl) (Nat.le_of_ble_eq_true rfl) (ct_X4_in _ _ _  _) hz) (fun x8 => ?_)
    refine v_bnK (fun K12 => ∀ (t9 : Int32) (t10 : Int32) (s11 : St), VF mX4_readsAll 5 SH jI 124 [(0, .ref b), (1, .int a1), (2, .int t9), (3, .int t10)] [] s11 (K12 t9 t10 s11)) (fun K12 hK12 => ?_) (fun t9 t10 s11 => ?_)
    · skip
      refine v_if_eq (tgt := 72) dX4_readsAll_54 (by decide) (fun _ => ?_) (fun _ => ?_)
      · skip
        refine v_iload dX4_readsAll_72 rfl ?_
        refine v_i2l dX4_readsAll_74 ?_
        refine v_ldc2 dX4_readsAll_75 kcL_X4_261 ?_
        refine v_ldc2 dX4_readsAll_78 kcL_X4_263 ?_
        refine v_cpI (fun z hz => runT (as := [.long (t6).toInt64, .long (10 : Int64), .long (11 : Int64)]) dX4_readsAll_81 kt_X4_61 rfl rfl (Nat.le_of_ble_eq_true rfl) (Nat.le_of_ble_eq_true rfl) (ct_X4_in _ _ _  _) hz) (fun x13 => ?_)
        refine v_if_eq (tgt := 98) dX4_readsAll_84 (by decide) (fun _ => ?_) (fun _ => ?_)
        · skip
          refine v_iload dX4_readsAll_98 rfl ?_
          refine v_bipush (v := 12) dX4_readsAll_100 (by decide +kernel) ?_
          refine v_bnK (fun K16 => ∀ (t14 : Int32) (s15 : St), VF mX4_readsAll 5 SH jI 123 [(0, .ref b), (1, .int a1), (2, .int c2)] [.int t14] s15 (K16 t14 s15)) (fun K16 hK16 => ?_) (fun t14 s15 => ?_)
          · skip
            refine v_icmp_lt (tgt := 122) dX4_readsAll_102 (by decide) (fun _ => ?_) (fun _ => ?_)
            · skip
              refine v_iconst (v := 0) dX4_readsAll_122 (by decide +kernel) ?_
              exact v_pick [1, 2, 3] rfl (hK16 _ _)
            refine v_aload_n dX4_readsAll_105 rfl rfl ?_
            refine v_iload dX4_readsAll_106 rfl ?_
            refine v_bipush (v := 12) dX4_readsAll_108 (by decide +kernel) ?_
            refine v_isub dX4_readsAll_110 ?_
            refine v_iload_n dX4_readsAll_111 rfl rfl ?_
            refine v_cbI (fun z hz => runV (as := [.int (t6 - (12 : Int32)), .int a1]) dX4_readsAll_112 kv_X4_269 rfl rfl (Nat.le_of_ble_eq_true rfl) (Nat.le_of_ble_eq_true rfl) (recvW h.1 rfl rfl) (ct_X4_readsLaw _ _ _ h _) hz) (fun x18 s17 => ?_)
            refine v_if_eq (tgt := 122) dX4_readsAll_115 (by decide) (fun _ => ?_) (fun _ => ?_)
            · skip
              refine v_iconst (v := 0) dX4_readsAll_122 (by decide +kernel) ?_
              exact v_pick [1, 2, 3] rfl (hK16 _ _)
            refine v_iconst (v := 1) dX4_readsAll_118 (by decide +kernel) ?_
            refine v_goto (tgt := 123) dX4_readsAll_119 (by decide) ?_
            exact v_pick [1, 2, 3] rfl (hK16 _ _)
          refine v_istore_n (L' := [(3, .int t14), (0, .ref b), (1, .int a1), (2, .int c2)]) dX4_readsAll_123 rfl (by decide) rfl ?_
          exact v_pick [1, 2, 3, 0] rfl (hK12 _ _ _)
        refine v_aload_n dX4_readsAll_87 rfl rfl ?_
        refine v_iload dX4_readsAll_88 rfl ?_
        refine v_iload_n dX4_readsAll_90 rfl rfl ?_
        refine v_cbI (fun z hz => runV (as := [.int t6, .int a1]) dX4_readsAll_91 kv_X4_265 rfl rfl (Nat.le_of_ble_eq_true rfl) (Nat.le_of_ble_eq_true rfl) (recvW h.1 rfl rfl) (ct_X4_readsCell _ _ _ h _) hz) (fun x20 s19 => ?_)
        refine v_istore_n (L' := [(3, .int x20), (4, .int t6), (0, .ref b), (1, .int a1), (2, .int c2)]) dX4_readsAll_94 rfl (by decide) rfl ?_
        refine v_goto (tgt := 124) dX4_readsAll_95 (by decide) ?_
        exact v_pick [2, 3, 4, 0] rfl (hK12 _ _ _)
      refine v_aload_n dX4_readsAll_57 rfl rfl ?_
      refine v_iload dX4_readsAll_58 rfl ?_
      refine v_iload_n dX4_readsAll_60 rfl rfl ?_
      refine v_iload_n dX4_readsAll_61 rfl rfl ?_
      refine v_cbI (fun z hz => runV (as := [.int t6, .int c2, .int a1]) dX4_readsAll_62 kv_X4_257 rfl rfl (Nat.le_of_ble_eq_true rfl) (Nat.le_of_ble_eq_true rfl) (recvW h.1 rfl rfl) (ct_X4_readsPerson _ _ _ _ h _) hz) (fun x22 s21 => ?_)
      refine v_istore_n (L' := [(3, .int x22), (4, .int t6), (0, .ref b), (1, .int a1), (2, .int c2)]) dX4_readsAll_65 rfl (by decide) rfl ?_
      refine v_iinc (v := (c2 + (1 : Int32))) (L' := [(2, .int (c2 + (1 : Int32))), (3, .int x22), (4, .int t6), (0, .ref b), (1, .int a1)]) dX4_readsAll_66 rfl rfl (by decide) rfl ?_
      refine v_goto (tgt := 124) dX4_readsAll_69 (by decide) ?_
      exact v_pick [3, 4, 0, 1] rfl (hK12 _ _ _)
    refine v_goto (tgt := 9) dX4_readsAll_124 (by decide) ?_
    exact v_pick [0, 1, 2, 3] rfl (hrec _ _ _)
  refine v_iconst (v := 1) dX4_readsAll_24 (by decide +kernel) ?_
  exact v_ret (ty := .boolean) dX4_readsAll_25 rfl rfl (by decide +kernel)
theorem wL_X4_readsAll_9 {SH : SHT} (b : Nat) (a1 : Int32) (h : isModel SH b) : ∀ (n : Nat) (c2 : Int32) (c3 : Int32) (s4 : St), VF mX4_readsAll 5 SH jI 9 [(0, .ref b), (1, .int a1), (2, .int c2), (3, .int c3)] [] s4 (L_X4_readsAll_9 b a1 n c2 c3 s4) := by
  intro n
  induction n with
  | zero => intros; exact v_none
  | succ n ih => intro c2 c3 s4; exact wB_X4_readsAll_9 b a1 h _ ih c2 c3 s4
set_option maxHeartbeats 4000000 in
set_option maxRecDepth 100000 in
theorem w_X4_readsAll {SH : SHT} (b : Nat) (a1 : Int32) (h : isModel SH b) (s0 : St) : VF mX4_readsAll 5 SH jI 0 [(0, .ref b), (1, .int a1)] [] s0 (f_X4_readsAll b a1 s0) := by
  unfold f_X4_readsAll
  refine v_aload_n dX4_readsAll_0 rfl rfl ?_
  refine v_iconst (v := 0) dX4_readsAll_1 (by decide +kernel) ?_
  refine v_puti dX4_readsAll_2 kp_X4_223 h.1 rfl rfl rfl (v_st fun s1 => ?_)
  refine v_iconst (v := 0) dX4_readsAll_5 (by decide +kernel) ?_
  refine v_istore_n (L' := [(2, .int (0 : Int32)), (0, .ref b), (1, .int a1)]) dX4_readsAll_6 rfl (by decide) rfl ?_
  refine v_iconst (v := 1) dX4_readsAll_7 (by decide +kernel) ?_
  refine v_istore_n (L' := [(3, .int (1 : Int32)), (2, .int (0 : Int32)), (0, .ref b), (1, .int a1)]) dX4_readsAll_8 rfl (by decide) rfl ?_
  exact v_pick [2, 3, 1, 0] rfl (wL_X4_readsAll_9 b a1 h FU _ _ _)
theorem ct_X4_readsAll {SH : SHT} (b : Nat) (a1 : Int32) (h : isModel SH b) (s0 : St) : CT yX4_readsAll mX4_readsAll 5 SH jI [.ref b, .int a1] s0 (f_X4_readsAll b a1 s0) := CT.of (by decide +kernel) rfl (fun E => Nat.le_of_ble_eq_true rfl) (w_X4_readsAll b a1 h s0)
set_option maxHeartbeats 4000000 in
set_option maxRecDepth 100000 in
theorem w_X4_moor {SH : SHT} (b : Nat) (h : isModel SH b) (s0 : St) : VF mX4_moor 6 SH jI 0 [(0, .ref b)] [] s0 (f_X4_moor b s0) := by
  unfold f_X4_moor
  refine v_aload_n dX4_moor_0 rfl rfl ?_
  refine v_iconst (v := 0) dX4_moor_1 (by decide +kernel) ?_
  refine v_cbI (fun z hz => runV (as := [.int (0 : Int32)]) dX4_moor_2 kv_X4_272 rfl rfl (Nat.le_of_ble_eq_true rfl) (Nat.le_of_ble_eq_true rfl) (recvW h.1 rfl rfl) (ct_X4_readsAll _ _ h _) hz) (fun x2 s1 => ?_)
  refine v_istore_n (L' := [(1, .int x2), (0, .ref b)]) dX4_moor_5 rfl (by decide) rfl ?_
  refine v_aload_n dX4_moor_6 rfl rfl ?_
  refine v_geti dX4_moor_7 kf_X4_226 h.1 rfl ?_
  refine v_topi (fun x3 => ?_)
  refine v_istore_n (L' := [(2, .int x3), (1, .int x2), (0, .ref b)]) dX4_moor_10 rfl (by decide) rfl ?_
  refine v_iload_n dX4_moor_11 rfl rfl ?_
  refine v_bnK (fun K6 => ∀ (t4 : Int32) (s5 : St), VF mX4_moor 6 SH jI 30 [(0, .ref b), (1, .int t4), (2, .int x3)] [] s5 (K6 t4 s5)) (fun K6 hK6 => ?_) (fun t4 s5 => ?_)
  · skip
    refine v_if_eq (tgt := 30) dX4_moor_12 (by decide) (fun _ => ?_) (fun _ => ?_)
    · skip
      exact v_pick [2, 1, 0] rfl (hK6 _ _)
    refine v_aload_n dX4_moor_15 rfl rfl ?_
    refine v_cw (fun z hz => runV (as := []) dX4_moor_16 kv_X4_54 rfl rfl (Nat.le_of_ble_eq_true rfl) (Nat.le_of_ble_eq_true rfl) (recvW h.1 rfl rfl) (ct_X4_first _ h _) hz) (fun s7 => ?_)
    refine v_aload_n dX4_moor_19 rfl rfl ?_
    refine v_iconst (v := 1) dX4_moor_20 (by decide +kernel) ?_
    refine v_cbI (fun z hz => runV (as := [.int (1 : Int32)]) dX4_moor_21 kv_X4_272 rfl rfl (Nat.le_of_ble_eq_true rfl) (Nat.le_of_ble_eq_true rfl) (recvW h.1 rfl rfl) (ct_X4_readsAll _ _ h _) hz) (fun x9 s8 => ?_)
    refine v_istore_n (L' := [(1, .int x9), (2, .int x3), (0, .ref b)]) dX4_moor_24 rfl (by decide) rfl ?_
    refine v_aload_n dX4_moor_25 rfl rfl ?_
    refine v_iconst (v := 0) dX4_moor_26 (by decide +kernel) ?_
    refine v_puti dX4_moor_27 kp_X4_276 h.1 rfl rfl rfl (v_st fun s10 => ?_)
    exact v_pick [2, 0, 1] rfl (hK6 _ _)
  refine v_aload_n dX4_moor_30 rfl rfl ?_
  refine v_iconst (v := 0) dX4_moor_31 (by decide +kernel) ?_
  refine v_puti dX4_moor_32 kp_X4_218 h.1 rfl rfl rfl (v_st fun s11 => ?_)
  refine v_iload_n dX4_moor_35 rfl rfl ?_
  refine v_if_eq (tgt := 48) dX4_moor_36 (by decide) (fun _ => ?_) (fun _ => ?_)
  · skip
    refine v_bipush (v := -100) dX4_moor_48 (by decide +kernel) ?_
    refine v_iload_n dX4_moor_50 rfl rfl ?_
    refine v_isub dX4_moor_51 ?_
    exact v_ret (ty := .int) dX4_moor_52 rfl rfl rfl
  refine v_aload_n dX4_moor_39 rfl rfl ?_
  refine v_getr dX4_moor_40 kf_X4_7 h.1 rfl ?_
  refine v_iconst (v := 5) dX4_moor_43 (by decide +kernel) ?_
  refine v_iald dX4_moor_44 h.2.1 (by decide +kernel) (j := 5) (by decide +kernel) ?_
  refine v_goto (tgt := 52) dX4_moor_45 (by decide) ?_
  exact v_ret (ty := .int) dX4_moor_52 rfl rfl rfl
theorem ct_X4_moor {SH : SHT} (b : Nat) (h : isModel SH b) (s0 : St) : CT yX4_moor mX4_moor 6 SH jI [.ref b] s0 (f_X4_moor b s0) := CT.of (by decide +kernel) rfl (fun E => Nat.le_of_ble_eq_true rfl) (w_X4_moor b h s0)
set_option maxHeartbeats 4000000 in
set_option maxRecDepth 100000 in
theorem w_X4_mustBe {SH : SHT} (b : Nat) (a1 : Int32) (a2 : Int32) (h : isModel SH b) (s0 : St) : VF mX4_mustBe 2 SH (jP s0) 0 [(0, .ref b), (1, .int a1), (2, .int a2)] [] s0 (f_X4_mustBe b a1 a2 s0) := by
  unfold f_X4_mustBe
  refine v_iload_n dX4_mustBe_0 rfl rfl ?_
  refine v_if_ne (tgt := 13) dX4_mustBe_1 (by decide) (fun _ => ?_) (fun _ => ?_)
  · skip
    refine v_iload_n dX4_mustBe_13 rfl rfl ?_
    refine v_iconst (v := 1) dX4_mustBe_14 (by decide +kernel) ?_
    refine v_icmp_ne (tgt := 35) dX4_mustBe_15 (by decide) (fun _ => ?_) (fun _ => ?_)
    · skip
      refine v_aload_n dX4_mustBe_35 rfl rfl ?_
      refine v_cpI (fun z hz => runV (as := []) dX4_mustBe_36 kv_X4_162 rfl rfl (Nat.le_of_ble_eq_true rfl) (Nat.le_of_ble_eq_true rfl) (recvW h.1 rfl rfl) (ct_X4_lost _ h _) hz) (fun x1 => ?_)
      exact v_ret (ty := .int) dX4_mustBe_39 rfl rfl rfl
    refine v_aload_n dX4_mustBe_18 rfl rfl ?_
    refine v_getr dX4_mustBe_19 kf_X4_7 h.1 rfl ?_
    refine v_bipush (v := 39) dX4_mustBe_22 (by decide +kernel) ?_
    refine v_aload_n dX4_mustBe_24 rfl rfl ?_
    refine v_iload_n dX4_mustBe_25 rfl rfl ?_
    refine v_iconst (v := 3) dX4_mustBe_26 (by decide +kernel) ?_
    refine v_cpI (fun z hz => runV (as := [.int a1, .int (3 : Int32)]) dX4_mustBe_27 kv_X4_67 rfl rfl (Nat.le_of_ble_eq_true rfl) (Nat.le_of_ble_eq_true rfl) (recvW h.1 rfl rfl) (ct_X4_get _ _ _ h _) hz) (fun x2 => ?_)
    refine v_iadd dX4_mustBe_30 ?_
    refine v_gd (fun g3 => ?_)
    refine v_iald dX4_mustBe_31 h.2.1 g3 rfl ?_
    refine v_goto (tgt := 39) dX4_mustBe_32 (by decide) ?_
    exact v_ret (ty := .int) dX4_mustBe_39 rfl rfl rfl
  refine v_aload_n dX4_mustBe_4 rfl rfl ?_
  refine v_iload_n dX4_mustBe_5 rfl rfl ?_
  refine v_iconst (v := 2) dX4_mustBe_6 (by decide +kernel) ?_
  refine v_cpI (fun z hz => runV (as := [.int a1, .int (2 : Int32)]) dX4_mustBe_7 kv_X4_67 rfl rfl (Nat.le_of_ble_eq_true rfl) (Nat.le_of_ble_eq_true rfl) (recvW h.1 rfl rfl) (ct_X4_get _ _ _ h _) hz) (fun x4 => ?_)
  refine v_goto (tgt := 39) dX4_mustBe_10 (by decide) ?_
  exact v_ret (ty := .int) dX4_mustBe_39 rfl rfl rfl
theorem ct_X4_mustBe {SH : SHT} (b : Nat) (a1 : Int32) (a2 : Int32) (h : isModel SH b) (s0 : St) : CT yX4_mustBe mX4_mustBe 2 SH (jP s0) [.ref b, .int a1, .int a2] s0 (f_X4_mustBe b a1 a2 s0) := CT.of (by decide +kernel) rfl (fun E => Nat.le_of_ble_eq_true rfl) (w_X4_mustBe b a1 a2 h s0)
set_option maxHeartbeats 4000000 in
set_option maxRecDepth 100000 in
theorem wB_X4_prove_45 {SH : SHT} (b : Nat) (a1 : Int32) (a2 : Int32) (c5 : Int32) (h : isModel SH b) (rec : Int32 → St → Option (Int32 × St)) (hrec : ∀ (c9 : Int32) (s10 : St), VF mX4_prove 3 SH jI 45 [(0, .ref b), (1, .int a1), (2, .int a2), (3, .int c5), (4, .int c9)] [] s10 (rec c9 s10)) (K : St → Option (Int32 × St)) (hK : ∀ (s11 : St), VF mX4_prove 3 SH jI 75 [(0, .ref b), (1, .int a1), (2, .int a2), (3, .int c5)] [] s11 (K s11)) (c9 : Int32) (s10 : St) : VF mX4_prove 3 SH jI 45 [(0, .ref b), (1, .int a1), (2, .int a2), (3, .int c5), (4, .int c9)] [] s10 (B_X4_prove_45 rec b a1 a2 c5 K c9 s10) := by
  unfold B_X4_prove_45
  refine v_iload dX4_prove_45 rfl ?_
  refine v_iconst (v := 3) dX4_prove_47 (by decide +kernel) ?_
  refine v_icmp_ge (tgt := 75) dX4_prove_48 (by decide) (fun _ => ?_) (fun _ => ?_)
  · skip
    exact v_pick [0, 1, 2, 3] rfl (hK _)
  refine v_aload_n dX4_prove_51 rfl rfl ?_
  refine v_getr dX4_prove_52 kf_X4_29 h.1 rfl ?_
  refine v_iconst (v := 3) dX4_prove_55 (by decide +kernel) ?_
  refine v_iload_n dX4_prove_56 rfl rfl ?_
  refine v_imul dX4_prove_57 ?_
  refine v_iload dX4_prove_58 rfl ?_
  refine v_iadd dX4_prove_60 ?_
  refine v_aload_n dX4_prove_61 rfl rfl ?_
  refine v_iload_n dX4_prove_62 rfl rfl ?_
  refine v_iload dX4_prove_63 rfl ?_
  refine v_cpI (fun z hz => runV (as := [.int a1, .int c9]) dX4_prove_65 kv_X4_279 rfl rfl (Nat.le_of_ble_eq_true rfl) (Nat.le_of_ble_eq_true rfl) (recvW h.1 rfl rfl) (ct_X4_mustBe _ _ _ h _) hz) (fun x12 => ?_)
  refine v_gd (fun g13 => ?_)
  refine v_iast dX4_prove_68 h.2.2.2.2.2.2.2.1 g13 rfl (v_st fun s14 => ?_)
  refine v_iinc (v := (c9 + (1 : Int32))) (L' := [(4, .int (c9 + (1 : Int32))), (0, .ref b), (1, .int a1), (2, .int a2), (3, .int c5)]) dX4_prove_69 rfl rfl (by decide) rfl ?_
  refine v_goto (tgt := 45) dX4_prove_72 (by decide) ?_
  exact v_pick [1, 2, 3, 4, 0] rfl (hrec _ _)
theorem wL_X4_prove_45 {SH : SHT} (b : Nat) (a1 : Int32) (a2 : Int32) (c5 : Int32) (h : isModel SH b) (K : St → Option (Int32 × St)) (hK : ∀ (s11 : St), VF mX4_prove 3 SH jI 75 [(0, .ref b), (1, .int a1), (2, .int a2), (3, .int c5)] [] s11 (K s11)) : ∀ (n : Nat) (c9 : Int32) (s10 : St), VF mX4_prove 3 SH jI 45 [(0, .ref b), (1, .int a1), (2, .int a2), (3, .int c5), (4, .int c9)] [] s10 (L_X4_prove_45 b a1 a2 c5 K n c9 s10) := by
  intro n
  induction n with
  | zero => intros; exact v_none
  | succ n ih => intro c9 s10; exact wB_X4_prove_45 b a1 a2 c5 h _ ih K hK c9 s10
set_option maxHeartbeats 4000000 in
set_option maxRecDepth 100000 in
theorem wB_X4_prove_33 {SH : SHT} (b : Nat) (a1 : Int32) (a2 : Int32) (h : isModel SH b) (rec : Int32 → St → Option (Int32 × St)) (hrec : ∀ (c5 : Int32) (s6 : St), VF mX4_prove 3 SH jI 33 [(0, .ref b), (1, .int a1), (2, .int a2), (3, .int c5)] [] s6 (rec c5 s6)) (K : St → Option (Int32 × St)) (hK : ∀ (s7 : St), VF mX4_prove 3 SH jI 81 [(0, .ref b), (2, .int a2)] [] s7 (K s7)) (c5 : Int32) (s6 : St) : VF mX4_prove 3 SH jI 33 [(0, .ref b), (1, .int a1), (2, .int a2), (3, .int c5)] [] s6 (B_X4_prove_33 rec b a1 a2 K c5 s6) := by
  unfold B_X4_prove_33
  refine v_iload_n dX4_prove_33 rfl rfl ?_
  refine v_iload_n dX4_prove_34 rfl rfl ?_
  refine v_icmp_ge (tgt := 81) dX4_prove_35 (by decide) (fun _ => ?_) (fun _ => ?_)
  · skip
    exact v_pick [0, 2] rfl (hK _)
  refine v_aload_n dX4_prove_38 rfl rfl ?_
  refine v_cw (fun z hz => runV (as := []) dX4_prove_39 kv_X4_107 rfl rfl (Nat.le_of_ble_eq_true rfl) (Nat.le_of_ble_eq_true rfl) (recvW h.1 rfl rfl) (ct_X4_yearGoes _ h _) hz) (fun s8 => ?_)
  refine v_iconst (v := 0) dX4_prove_42 (by decide +kernel) ?_
  refine v_istore (L' := [(4, .int (0 : Int32)), (0, .ref b), (1, .int a1), (2, .int a2), (3, .int c5)]) dX4_prove_43 (by decide) rfl ?_
  refine v_pick [1, 2, 3, 4, 0] rfl (wL_X4_prove_45 b a1 a2 c5 h _ (fun s11 => ?_) FU _ _)
  refine v_iinc (v := (c5 + (1 : Int32))) (L' := [(3, .int (c5 + (1 : Int32))), (0, .ref b), (1, .int a1), (2, .int a2)]) dX4_prove_75 rfl rfl (by decide) rfl ?_
  refine v_goto (tgt := 33) dX4_prove_78 (by decide) ?_
  exact v_pick [1, 2, 3, 0] rfl (hrec _ _)
theorem wL_X4_prove_33 {SH : SHT} (b : Nat) (a1 : Int32) (a2 : Int32) (h : isModel SH b) (K : St → Option (Int32 × St)) (hK : ∀ (s7 : St), VF mX4_prove 3 SH jI 81 [(0, .ref b), (2, .int a2)] [] s7 (K s7)) : ∀ (n : Nat) (c5 : Int32) (s6 : St), VF mX4_prove 3 SH jI 33 [(0, .ref b), (1, .int a1), (2, .int a2), (3, .int c5)] [] s6 (L_X4_prove_33 b a1 a2 K n c5 s6) := by
  intro n
  induction n with
  | zero => intros; exact v_none
  | succ n ih => intro c5 s6; exact wB_X4_prove_33 b a1 a2 h _ ih K hK c5 s6
set_option maxHeartbeats 4000000 in
set_option maxRecDepth 100000 in
theorem w_X4_prove {SH : SHT} (b : Nat) (a1 : Int32) (a2 : Int32) (h : isModel SH b) (s0 : St) : VF mX4_prove 3 SH jI 0 [(0, .ref b), (1, .int a1), (2, .int a2)] [] s0 (f_X4_prove b a1 a2 s0) := by
  unfold f_X4_prove
  refine v_aload_n dX4_prove_0 rfl rfl ?_
  refine v_iload_n dX4_prove_1 rfl rfl ?_
  refine v_cpI (fun z hz => runV (as := [.int a1]) dX4_prove_2 kv_X4_127 rfl rfl (Nat.le_of_ble_eq_true rfl) (Nat.le_of_ble_eq_true rfl) (recvW h.1 rfl rfl) (ct_X4_isPerson _ _ h _) hz) (fun x1 => ?_)
  refine v_if_eq (tgt := 20) dX4_prove_5 (by decide) (fun _ => ?_) (fun _ => ?_)
  · skip
    refine v_iconst (v := -1) dX4_prove_20 (by decide +kernel) ?_
    exact v_ret (ty := .int) dX4_prove_21 rfl rfl rfl
  refine v_iload_n dX4_prove_8 rfl rfl ?_
  refine v_i2l dX4_prove_9 ?_
  refine v_lconst (v := 1) dX4_prove_10 (by decide +kernel) ?_
  refine v_ldc2 dX4_prove_11 kcL_X4_261 ?_
  refine v_cpI (fun z hz => runT (as := [.long (a2).toInt64, .long (1 : Int64), .long (10 : Int64)]) dX4_prove_14 kt_X4_61 rfl rfl (Nat.le_of_ble_eq_true rfl) (Nat.le_of_ble_eq_true rfl) (ct_X4_in _ _ _  _) hz) (fun x2 => ?_)
  refine v_if_ne (tgt := 22) dX4_prove_17 (by decide) (fun _ => ?_) (fun _ => ?_)
  · skip
    refine v_aload_n dX4_prove_22 rfl rfl ?_
    refine v_cw (fun z hz => runV (as := []) dX4_prove_23 kv_X4_170 rfl rfl (Nat.le_of_ble_eq_true rfl) (Nat.le_of_ble_eq_true rfl) (recvW h.1 rfl rfl) (ct_X4_keepAside _ h _) hz) (fun s3 => ?_)
    refine v_aload_n dX4_prove_26 rfl rfl ?_
    refine v_iload_n dX4_prove_27 rfl rfl ?_
    refine v_puti dX4_prove_28 kp_X4_276 h.1 rfl rfl rfl (v_st fun s4 => ?_)
    refine v_iconst (v := 0) dX4_prove_31 (by decide +kernel) ?_
    refine v_istore_n (L' := [(3, .int (0 : Int32)), (0, .ref b), (1, .int a1), (2, .int a2)]) dX4_prove_32 rfl (by decide) rfl ?_
    refine v_pick [1, 2, 3, 0] rfl (wL_X4_prove_33 b a1 a2 h _ (fun s7 => ?_) FU _ _)
    refine v_aload_n dX4_prove_81 rfl rfl ?_
    refine v_cw (fun z hz => runV (as := []) dX4_prove_82 kv_X4_173 rfl rfl (Nat.le_of_ble_eq_true rfl) (Nat.le_of_ble_eq_true rfl) (recvW h.1 rfl rfl) (ct_X4_putBack _ h _) hz) (fun s15 => ?_)
    refine v_iload_n dX4_prove_85 rfl rfl ?_
    exact v_ret (ty := .int) dX4_prove_86 rfl rfl rfl
  refine v_iconst (v := -1) dX4_prove_20 (by decide +kernel) ?_
  exact v_ret (ty := .int) dX4_prove_21 rfl rfl rfl
theorem ct_X4_prove {SH : SHT} (b : Nat) (a1 : Int32) (a2 : Int32) (h : isModel SH b) (s0 : St) : CT yX4_prove mX4_prove 3 SH jI [.ref b, .int a1, .int a2] s0 (f_X4_prove b a1 a2 s0) := CT.of (by decide +kernel) rfl (fun E => Nat.le_of_ble_eq_true rfl) (w_X4_prove b a1 a2 h s0)
set_option maxHeartbeats 4000000 in
set_option maxRecDepth 100000 in
theorem w_X4_row {SH : SHT} (b : Nat) (a1 : Int32) (a2 : Int32) (h : isModel SH b) (s0 : St) : VF mX4_row 1 SH (jP s0) 0 [(0, .ref b), (1, .int a1), (2, .int a2)] [] s0 (f_X4_row b a1 a2 s0) := by
  unfold f_X4_row
  refine v_iload_n dX4_row_0 rfl rfl ?_
  refine v_i2l dX4_row_1 ?_
  refine v_lconst (v := 0) dX4_row_2 (by decide +kernel) ?_
  refine v_aload_n dX4_row_3 rfl rfl ?_
  refine v_geti dX4_row_4 kf_X4_276 h.1 rfl ?_
  refine v_iconst (v := 1) dX4_row_7 (by decide +kernel) ?_
  refine v_isub dX4_row_8 ?_
  refine v_i2l dX4_row_9 ?_
  refine v_cpI (fun z hz => runT (as := [.long (a1).toInt64, .long (0 : Int64), .long (((gF s0 b 15) - (1 : Int32))).toInt64]) dX4_row_10 kt_X4_61 rfl rfl (Nat.le_of_ble_eq_true rfl) (Nat.le_of_ble_eq_true rfl) (ct_X4_in _ _ _  _) hz) (fun x1 => ?_)
  refine v_if_eq (tgt := 41) dX4_row_13 (by decide) (fun _ => ?_) (fun _ => ?_)
  · skip
    refine v_bipush (v := -9) dX4_row_41 (by decide +kernel) ?_
    exact v_ret (ty := .int) dX4_row_43 rfl rfl rfl
  refine v_iload_n dX4_row_16 rfl rfl ?_
  refine v_i2l dX4_row_17 ?_
  refine v_lconst (v := 0) dX4_row_18 (by decide +kernel) ?_
  refine v_ldc2 dX4_row_19 kcL_X4_141 ?_
  refine v_cpI (fun z hz => runT (as := [.long (a2).toInt64, .long (0 : Int64), .long (2 : Int64)]) dX4_row_22 kt_X4_61 rfl rfl (Nat.le_of_ble_eq_true rfl) (Nat.le_of_ble_eq_true rfl) (ct_X4_in _ _ _  _) hz) (fun x2 => ?_)
  refine v_if_eq (tgt := 41) dX4_row_25 (by decide) (fun _ => ?_) (fun _ => ?_)
  · skip
    refine v_bipush (v := -9) dX4_row_41 (by decide +kernel) ?_
    exact v_ret (ty := .int) dX4_row_43 rfl rfl rfl
  refine v_aload_n dX4_row_28 rfl rfl ?_
  refine v_getr dX4_row_29 kf_X4_29 h.1 rfl ?_
  refine v_iconst (v := 3) dX4_row_32 (by decide +kernel) ?_
  refine v_iload_n dX4_row_33 rfl rfl ?_
  refine v_imul dX4_row_34 ?_
  refine v_iload_n dX4_row_35 rfl rfl ?_
  refine v_iadd dX4_row_36 ?_
  refine v_gd (fun g3 => ?_)
  refine v_iald dX4_row_37 h.2.2.2.2.2.2.2.1 g3 rfl ?_
  refine v_goto (tgt := 43) dX4_row_38 (by decide) ?_
  exact v_ret (ty := .int) dX4_row_43 rfl rfl rfl
theorem ct_X4_row {SH : SHT} (b : Nat) (a1 : Int32) (a2 : Int32) (h : isModel SH b) (s0 : St) : CT yX4_row mX4_row 1 SH (jP s0) [.ref b, .int a1, .int a2] s0 (f_X4_row b a1 a2 s0) := CT.of (by decide +kernel) rfl (fun E => Nat.le_of_ble_eq_true rfl) (w_X4_row b a1 a2 h s0)
set_option maxHeartbeats 4000000 in
set_option maxRecDepth 100000 in
theorem w_X4_alterRow {SH : SHT} (b : Nat) (a1 : Int32) (a2 : Int32) (a3 : Int32) (h : isModel SH b) (s0 : St) : VF mX4_alterRow 1 SH jI 0 [(0, .ref b), (1, .int a1), (2, .int a2), (3, .int a3)] [] s0 (f_X4_alterRow b a1 a2 a3 s0) := by
  unfold f_X4_alterRow
  refine v_iload_n dX4_alterRow_0 rfl rfl ?_
  refine v_i2l dX4_alterRow_1 ?_
  refine v_lconst (v := 0) dX4_alterRow_2 (by decide +kernel) ?_
  refine v_aload_n dX4_alterRow_3 rfl rfl ?_
  refine v_geti dX4_alterRow_4 kf_X4_276 h.1 rfl ?_
  refine v_iconst (v := 1) dX4_alterRow_7 (by decide +kernel) ?_
  refine v_isub dX4_alterRow_8 ?_
  refine v_i2l dX4_alterRow_9 ?_
  refine v_cpI (fun z hz => runT (as := [.long (a1).toInt64, .long (0 : Int64), .long (((gF s0 b 15) - (1 : Int32))).toInt64]) dX4_alterRow_10 kt_X4_61 rfl rfl (Nat.le_of_ble_eq_true rfl) (Nat.le_of_ble_eq_true rfl) (ct_X4_in _ _ _  _) hz) (fun x1 => ?_)
  refine v_if_eq (tgt := 28) dX4_alterRow_13 (by decide) (fun _ => ?_) (fun _ => ?_)
  · skip
    refine v_bipush (v := -9) dX4_alterRow_28 (by decide +kernel) ?_
    exact v_ret (ty := .int) dX4_alterRow_30 rfl rfl rfl
  refine v_iload_n dX4_alterRow_16 rfl rfl ?_
  refine v_i2l dX4_alterRow_17 ?_
  refine v_lconst (v := 0) dX4_alterRow_18 (by decide +kernel) ?_
  refine v_ldc2 dX4_alterRow_19 kcL_X4_141 ?_
  refine v_cpI (fun z hz => runT (as := [.long (a2).toInt64, .long (0 : Int64), .long (2 : Int64)]) dX4_alterRow_22 kt_X4_61 rfl rfl (Nat.le_of_ble_eq_true rfl) (Nat.le_of_ble_eq_true rfl) (ct_X4_in _ _ _  _) hz) (fun x2 => ?_)
  refine v_if_ne (tgt := 31) dX4_alterRow_25 (by decide) (fun _ => ?_) (fun _ => ?_)
  · skip
    refine v_aload_n dX4_alterRow_31 rfl rfl ?_
    refine v_getr dX4_alterRow_32 kf_X4_29 h.1 rfl ?_
    refine v_iconst (v := 3) dX4_alterRow_35 (by decide +kernel) ?_
    refine v_iload_n dX4_alterRow_36 rfl rfl ?_
    refine v_imul dX4_alterRow_37 ?_
    refine v_iload_n dX4_alterRow_38 rfl rfl ?_
    refine v_iadd dX4_alterRow_39 ?_
    refine v_gd (fun g3 => ?_)
    refine v_iald dX4_alterRow_40 h.2.2.2.2.2.2.2.1 g3 rfl ?_
    refine v_topi (fun x4 => ?_)
    refine v_istore (L' := [(4, .int x4), (0, .ref b), (1, .int a1), (2, .int a2), (3, .int a3)]) dX4_alterRow_41 (by decide) rfl ?_
    refine v_aload_n dX4_alterRow_43 rfl rfl ?_
    refine v_getr dX4_alterRow_44 kf_X4_29 h.1 rfl ?_
    refine v_iconst (v := 3) dX4_alterRow_47 (by decide +kernel) ?_
    refine v_iload_n dX4_alterRow_48 rfl rfl ?_
    refine v_imul dX4_alterRow_49 ?_
    refine v_iload_n dX4_alterRow_50 rfl rfl ?_
    refine v_iadd dX4_alterRow_51 ?_
    refine v_iload_n dX4_alterRow_52 rfl rfl ?_
    refine v_gd (fun g5 => ?_)
    refine v_iast dX4_alterRow_53 h.2.2.2.2.2.2.2.1 g5 rfl (v_st fun s6 => ?_)
    refine v_iload dX4_alterRow_54 rfl ?_
    exact v_ret (ty := .int) dX4_alterRow_56 rfl rfl rfl
  refine v_bipush (v := -9) dX4_alterRow_28 (by decide +kernel) ?_
  exact v_ret (ty := .int) dX4_alterRow_30 rfl rfl rfl
theorem ct_X4_alterRow {SH : SHT} (b : Nat) (a1 : Int32) (a2 : Int32) (a3 : Int32) (h : isModel SH b) (s0 : St) : CT yX4_alterRow mX4_alterRow 1 SH jI [.ref b, .int a1, .int a2, .int a3] s0 (f_X4_alterRow b a1 a2 a3 s0) := CT.of (by decide +kernel) rfl (fun E => Nat.le_of_ble_eq_true rfl) (w_X4_alterRow b a1 a2 a3 h s0)
set_option maxHeartbeats 4000000 in
set_option maxRecDepth 100000 in
theorem wB_X4_judge_37 {SH : SHT} (b : Nat) (a1 : Int32) (c4 : Int32) (s8 : St) (h : isModel SH b) (rec : Int32 → Int32 → Option (Int32 × St)) (hrec : ∀ (c9 : Int32) (c10 : Int32), VF mX4_judge 3 SH jI 37 [(0, .ref b), (1, .int a1), (2, .int c9), (3, .int c4), (4, .int c10)] [] s8 (rec c9 c10)) (K : Int32 → Option (Int32 × St)) (hK : ∀ (e11 : Int32), VF mX4_judge 3 SH jI 78 [(0, .ref b), (1, .int a1), (2, .int e11), (3, .int c4)] [] s8 (K e11)) (c9 : Int32) (c10 : Int32) : VF mX4_judge 3 SH jI 37 [(0, .ref b), (1, .int a1), (2, .int c9), (3, .int c4), (4, .int c10)] [] s8 (B_X4_judge_37 rec b a1 c4 s8 K c9 c10) := by
  unfold B_X4_judge_37
  refine v_iload dX4_judge_37 rfl ?_
  refine v_iconst (v := 3) dX4_judge_39 (by decide +kernel) ?_
  refine v_icmp_ge (tgt := 78) dX4_judge_40 (by decide) (fun _ => ?_) (fun _ => ?_)
  · skip
    exact v_pick [0, 1, 2, 3] rfl (hK _)
  refine v_aload_n dX4_judge_43 rfl rfl ?_
  refine v_getr dX4_judge_44 kf_X4_29 h.1 rfl ?_
  refine v_iconst (v := 3) dX4_judge_47 (by decide +kernel) ?_
  refine v_iload_n dX4_judge_48 rfl rfl ?_
  refine v_imul dX4_judge_49 ?_
  refine v_iload dX4_judge_50 rfl ?_
  refine v_iadd dX4_judge_52 ?_
  refine v_gd (fun g12 => ?_)
  refine v_iald dX4_judge_53 h.2.2.2.2.2.2.2.1 g12 rfl ?_
  refine v_aload_n dX4_judge_54 rfl rfl ?_
  refine v_iload_n dX4_judge_55 rfl rfl ?_
  refine v_iload dX4_judge_56 rfl ?_
  refine v_cpI (fun z hz => runV (as := [.int a1, .int c10]) dX4_judge_58 kv_X4_279 rfl rfl (Nat.le_of_ble_eq_true rfl) (Nat.le_of_ble_eq_true rfl) (recvW h.1 rfl rfl) (ct_X4_mustBe _ _ _ h _) hz) (fun x13 => ?_)
  refine v_bnK (fun K15 => ∀ (t14 : Int32), VF mX4_judge 3 SH jI 71 [(0, .ref b), (1, .int a1), (3, .int c4), (4, .int c10)] [.int t14] s8 (K15 t14)) (fun K15 hK15 => ?_) (fun t14 => ?_)
  · skip
    refine v_icmp_ne (tgt := 68) dX4_judge_61 (by decide) (fun _ => ?_) (fun _ => ?_)
    · skip
      refine v_iload_n dX4_judge_68 rfl rfl ?_
      refine v_iconst (v := 1) dX4_judge_69 (by decide +kernel) ?_
      refine v_iadd dX4_judge_70 ?_
      exact v_pick [0, 1, 3, 4] rfl (hK15 _)
    refine v_iload_n dX4_judge_64 rfl rfl ?_
    refine v_goto (tgt := 71) dX4_judge_65 (by decide) ?_
    exact v_pick [0, 1, 3, 4] rfl (hK15 _)
  refine v_istore_n (L' := [(2, .int t14), (0, .ref b), (1, .int a1), (3, .int c4), (4, .int c10)]) dX4_judge_71 rfl (by decide) rfl ?_
  refine v_iinc (v := (c10 + (1 : Int32))) (L' := [(4, .int (c10 + (1 : Int32))), (2, .int t14), (0, .ref b), (1, .int a1), (3, .int c4)]) dX4_judge_72 rfl rfl (by decide) rfl ?_
  refine v_goto (tgt := 37) dX4_judge_75 (by decide) ?_
  exact v_pick [2, 3, 1, 4, 0] rfl (hrec _ _)
theorem wL_X4_judge_37 {SH : SHT} (b : Nat) (a1 : Int32) (c4 : Int32) (s8 : St) (h : isModel SH b) (K : Int32 → Option (Int32 × St)) (hK : ∀ (e11 : Int32), VF mX4_judge 3 SH jI 78 [(0, .ref b), (1, .int a1), (2, .int e11), (3, .int c4)] [] s8 (K e11)) : ∀ (n : Nat) (c9 : Int32) (c10 : Int32), VF mX4_judge 3 SH jI 37 [(0, .ref b), (1, .int a1), (2, .int c9), (3, .int c4), (4, .int c10)] [] s8 (L_X4_judge_37 b a1 c4 s8 K n c9 c10) := by
  intro n
  induction n with
  | zero => intros; exact v_none
  | succ n ih => intro c9 c10; exact wB_X4_judge_37 b a1 c4 s8 h _ ih K hK c9 c10
set_option maxHeartbeats 4000000 in
set_option maxRecDepth 100000 in
theorem wB_X4_judge_18 {SH : SHT} (b : Nat) (a1 : Int32) (h : isModel SH b) (rec : Int32 → Int32 → St → Option (Int32 × St)) (hrec : ∀ (c3 : Int32) (c4 : Int32) (s5 : St), VF mX4_judge 3 SH jI 18 [(0, .ref b), (1, .int a1), (2, .int c3), (3, .int c4)] [] s5 (rec c3 c4 s5)) (K : Int32 → St → Option (Int32 × St)) (hK : ∀ (e6 : Int32) (s7 : St), VF mX4_judge 3 SH jI 84 [(0, .ref b), (2, .int e6)] [] s7 (K e6 s7)) (c3 : Int32) (c4 : Int32) (s5 : St) : VF mX4_judge 3 SH jI 18 [(0, .ref b), (1, .int a1), (2, .int c3), (3, .int c4)] [] s5 (B_X4_judge_18 rec b a1 K c3 c4 s5) := by
  unfold B_X4_judge_18
  refine v_iload_n dX4_judge_18 rfl rfl ?_
  refine v_aload_n dX4_judge_19 rfl rfl ?_
  refine v_geti dX4_judge_20 kf_X4_276 h.1 rfl ?_
  refine v_icmp_ge (tgt := 84) dX4_judge_23 (by decide) (fun _ => ?_) (fun _ => ?_)
  · skip
    exact v_pick [0, 2] rfl (hK _ _)
  refine v_iload_n dX4_judge_26 rfl rfl ?_
  refine v_if_ne (tgt := 84) dX4_judge_27 (by decide) (fun _ => ?_) (fun _ => ?_)
  · skip
    exact v_pick [0, 2] rfl (hK _ _)
  refine v_aload_n dX4_judge_30 rfl rfl ?_
  refine v_cw (fun z hz => runV (as := []) dX4_judge_31 kv_X4_107 rfl rfl (Nat.le_of_ble_eq_true rfl) (Nat.le_of_ble_eq_true rfl) (recvW h.1 rfl rfl) (ct_X4_yearGoes _ h _) hz) (fun s8 => ?_)
  refine v_iconst (v := 0) dX4_judge_34 (by decide +kernel) ?_
  refine v_istore (L' := [(4, .int (0 : Int32)), (0, .ref b), (1, .int a1), (2, .int c3), (3, .int c4)]) dX4_judge_35 (by decide) rfl ?_
  refine v_pick [1, 2, 3, 4, 0] rfl (wL_X4_judge_37 b a1 c4 s8 h _ (fun e11 => ?_) FU _ _)
  refine v_iinc (v := (c4 + (1 : Int32))) (L' := [(3, .int (c4 + (1 : Int32))), (0, .ref b), (1, .int a1), (2, .int e11)]) dX4_judge_78 rfl rfl (by decide) rfl ?_
  refine v_goto (tgt := 18) dX4_judge_81 (by decide) ?_
  exact v_pick [1, 2, 3, 0] rfl (hrec _ _ _)
theorem wL_X4_judge_18 {SH : SHT} (b : Nat) (a1 : Int32) (h : isModel SH b) (K : Int32 → St → Option (Int32 × St)) (hK : ∀ (e6 : Int32) (s7 : St), VF mX4_judge 3 SH jI 84 [(0, .ref b), (2, .int e6)] [] s7 (K e6 s7)) : ∀ (n : Nat) (c3 : Int32) (c4 : Int32) (s5 : St), VF mX4_judge 3 SH jI 18 [(0, .ref b), (1, .int a1), (2, .int c3), (3, .int c4)] [] s5 (L_X4_judge_18 b a1 K n c3 c4 s5) := by
  intro n
  induction n with
  | zero => intros; exact v_none
  | succ n ih => intro c3 c4 s5; exact wB_X4_judge_18 b a1 h _ ih K hK c3 c4 s5
set_option maxHeartbeats 4000000 in
set_option maxRecDepth 100000 in
theorem w_X4_judge {SH : SHT} (b : Nat) (a1 : Int32) (h : isModel SH b) (s0 : St) : VF mX4_judge 3 SH jI 0 [(0, .ref b), (1, .int a1)] [] s0 (f_X4_judge b a1 s0) := by
  unfold f_X4_judge
  refine v_aload_n dX4_judge_0 rfl rfl ?_
  refine v_iload_n dX4_judge_1 rfl rfl ?_
  refine v_cpI (fun z hz => runV (as := [.int a1]) dX4_judge_2 kv_X4_127 rfl rfl (Nat.le_of_ble_eq_true rfl) (Nat.le_of_ble_eq_true rfl) (recvW h.1 rfl rfl) (ct_X4_isPerson _ _ h _) hz) (fun x1 => ?_)
  refine v_if_ne (tgt := 10) dX4_judge_5 (by decide) (fun _ => ?_) (fun _ => ?_)
  · skip
    refine v_aload_n dX4_judge_10 rfl rfl ?_
    refine v_cw (fun z hz => runV (as := []) dX4_judge_11 kv_X4_170 rfl rfl (Nat.le_of_ble_eq_true rfl) (Nat.le_of_ble_eq_true rfl) (recvW h.1 rfl rfl) (ct_X4_keepAside _ h _) hz) (fun s2 => ?_)
    refine v_iconst (v := 0) dX4_judge_14 (by decide +kernel) ?_
    refine v_istore_n (L' := [(2, .int (0 : Int32)), (0, .ref b), (1, .int a1)]) dX4_judge_15 rfl (by decide) rfl ?_
    refine v_iconst (v := 0) dX4_judge_16 (by decide +kernel) ?_
    refine v_istore_n (L' := [(3, .int (0 : Int32)), (2, .int (0 : Int32)), (0, .ref b), (1, .int a1)]) dX4_judge_17 rfl (by decide) rfl ?_
    refine v_pick [2, 3, 1, 0] rfl (wL_X4_judge_18 b a1 h _ (fun e6 s7 => ?_) FU _ _ _)
    refine v_aload_n dX4_judge_84 rfl rfl ?_
    refine v_cw (fun z hz => runV (as := []) dX4_judge_85 kv_X4_173 rfl rfl (Nat.le_of_ble_eq_true rfl) (Nat.le_of_ble_eq_true rfl) (recvW h.1 rfl rfl) (ct_X4_putBack _ h _) hz) (fun s16 => ?_)
    refine v_iload_n dX4_judge_88 rfl rfl ?_
    exact v_ret (ty := .int) dX4_judge_89 rfl rfl rfl
  refine v_iconst (v := -1) dX4_judge_8 (by decide +kernel) ?_
  exact v_ret (ty := .int) dX4_judge_9 rfl rfl rfl
theorem ct_X4_judge {SH : SHT} (b : Nat) (a1 : Int32) (h : isModel SH b) (s0 : St) : CT yX4_judge mX4_judge 3 SH jI [.ref b, .int a1] s0 (f_X4_judge b a1 s0) := CT.of (by decide +kernel) rfl (fun E => Nat.le_of_ble_eq_true rfl) (w_X4_judge b a1 h s0)
