set_option maxHeartbeats 4000000 in
set_option maxRecDepth 100000 in
theorem w_X2_readName {SH : SHT} (b : Nat) (a1 : Nat) (h : isTape SH b) (s0 : St) : VF mX2_readName 6 SH jV 0 [(0, .ref b), (1, .ref a1)] [] s0 (f_X2_readName b a1 s0) := by
  unfold f_X2_readName
  refine v_aload_n dX2_readName_0 rfl rfl ?_
  refine v_aload_n dX2_readName_1 rfl rfl ?_
  refine v_cbI (fun z hz => runV (as := [.ref a1]) dX2_readName_2 kv_X2_49 rfl rfl (Nat.le_of_ble_eq_true rfl) (Nat.le_of_ble_eq_true rfl) (recvW h.1 rfl rfl) (ct_X2_isHere _ _ h _) hz) (fun x2 s1 => ?_)
  refine v_if_eq (tgt := 24) dX2_readName_5 (by decide) (fun _ => ?_) (fun _ => ?_)
  · skip
    refine v_aload_n dX2_readName_24 rfl rfl ?_
    refine v_aload_n dX2_readName_25 rfl rfl ?_
    refine v_geti dX2_readName_26 kf_X2_19 h.1 rfl ?_
    refine v_cw (fun z hz => runV (as := [.int (gF s1 b 2)]) dX2_readName_29 kv_X2_86 rfl rfl (Nat.le_of_ble_eq_true rfl) (Nat.le_of_ble_eq_true rfl) (recvW h.1 rfl rfl) (ct_X2_refuse _ _ h _) hz) (fun s3 => ?_)
    exact v_vret dX2_readName_32 rfl rfl
  refine v_aload_n dX2_readName_8 rfl rfl ?_
  refine v_dup dX2_readName_9 rfl ?_
  refine v_geti dX2_readName_10 kf_X2_19 h.1 rfl ?_
  refine v_aload_n dX2_readName_13 rfl rfl ?_
  refine v_cpI (fun z hz => runVS (as := []) dX2_readName_14 kv_X2_118 rfl rfl (Nat.le_of_ble_eq_true rfl) (Nat.le_of_ble_eq_true rfl) rfl (ct_J0_length_8abf5 _  _) (by first | exact str_len | exact str_chr) hz) (fun x4 => ?_)
  refine v_iadd dX2_readName_17 ?_
  refine v_puti dX2_readName_18 kp_X2_19 h.1 rfl rfl rfl (v_st fun s5 => ?_)
  refine v_goto (tgt := 32) dX2_readName_21 (by decide) ?_
  exact v_vret dX2_readName_32 rfl rfl
theorem ct_X2_readName {SH : SHT} (b : Nat) (a1 : Nat) (h : isTape SH b) (s0 : St) : CT yX2_readName mX2_readName 6 SH jV [.ref b, .ref a1] s0 (f_X2_readName b a1 s0) := CT.of (by decide +kernel) rfl (fun E => Nat.le_of_ble_eq_true rfl) (w_X2_readName b a1 h s0)
set_option maxHeartbeats 4000000 in
set_option maxRecDepth 100000 in
theorem w_X2_isDigit {SH : SHT} (b : Nat) (a1 : Int32) (h : isTape SH b) (s0 : St) : VF mX2_isDigit 0 SH (jP s0) 0 [(0, .ref b), (1, .int a1)] [] s0 (f_X2_isDigit b a1 s0) := by
  unfold f_X2_isDigit
  refine v_iload_n dX2_isDigit_0 rfl rfl ?_
  refine v_aload_n dX2_isDigit_1 rfl rfl ?_
  refine v_geti dX2_isDigit_2 kf_X2_15 h.1 rfl ?_
  refine v_icmp_ge (tgt := 34) dX2_isDigit_5 (by decide) (fun _ => ?_) (fun _ => ?_)
  · skip
    refine v_iconst (v := 0) dX2_isDigit_34 (by decide +kernel) ?_
    exact v_ret (ty := .boolean) dX2_isDigit_35 rfl rfl (by decide +kernel)
  refine v_aload_n dX2_isDigit_8 rfl rfl ?_
  refine v_getr dX2_isDigit_9 kf_X2_9 h.1 rfl ?_
  refine v_iload_n dX2_isDigit_12 rfl rfl ?_
  refine v_gd (fun g1 => ?_)
  refine v_bald dX2_isDigit_13 h.2 g1 rfl ?_
  refine v_bipush (v := 48) dX2_isDigit_14 (by decide +kernel) ?_
  refine v_icmp_lt (tgt := 34) dX2_isDigit_16 (by decide) (fun _ => ?_) (fun _ => ?_)
  · skip
    refine v_iconst (v := 0) dX2_isDigit_34 (by decide +kernel) ?_
    exact v_ret (ty := .boolean) dX2_isDigit_35 rfl rfl (by decide +kernel)
  refine v_aload_n dX2_isDigit_19 rfl rfl ?_
  refine v_getr dX2_isDigit_20 kf_X2_9 h.1 rfl ?_
  refine v_iload_n dX2_isDigit_23 rfl rfl ?_
  refine v_gd (fun g2 => ?_)
  refine v_bald dX2_isDigit_24 h.2 g2 rfl ?_
  refine v_bipush (v := 57) dX2_isDigit_25 (by decide +kernel) ?_
  refine v_icmp_gt (tgt := 34) dX2_isDigit_27 (by decide) (fun _ => ?_) (fun _ => ?_)
  · skip
    refine v_iconst (v := 0) dX2_isDigit_34 (by decide +kernel) ?_
    exact v_ret (ty := .boolean) dX2_isDigit_35 rfl rfl (by decide +kernel)
  refine v_iconst (v := 1) dX2_isDigit_30 (by decide +kernel) ?_
  refine v_goto (tgt := 35) dX2_isDigit_31 (by decide) ?_
  exact v_ret (ty := .boolean) dX2_isDigit_35 rfl rfl (by decide +kernel)
theorem ct_X2_isDigit {SH : SHT} (b : Nat) (a1 : Int32) (h : isTape SH b) (s0 : St) : CT yX2_isDigit mX2_isDigit 0 SH (jP s0) [.ref b, .int a1] s0 (f_X2_isDigit b a1 s0) := CT.of (by decide +kernel) rfl (fun E => Nat.le_of_ble_eq_true rfl) (w_X2_isDigit b a1 h s0)
set_option maxHeartbeats 4000000 in
set_option maxRecDepth 100000 in
theorem wB_X2_readNumber_14 {SH : SHT} (b : Nat) (a1 : Int32) (x2 : Int32) (h : isTape SH b) (rec : Int32 → Int32 → St → Option (Int32 × St)) (hrec : ∀ (c3 : Int32) (c4 : Int32) (s5 : St), VF mX2_readNumber 1 SH jI 14 [(0, .ref b), (1, .int a1), (2, .int x2), (3, .int c3), (4, .int c4)] [] s5 (rec c3 c4 s5)) (K : Int32 → St → Option (Int32 × St)) (hK : ∀ (e6 : Int32) (s7 : St), VF mX2_readNumber 1 SH jI 73 [(0, .ref b), (1, .int a1), (2, .int x2), (3, .int e6)] [] s7 (K e6 s7)) (c3 : Int32) (c4 : Int32) (s5 : St) : VF mX2_readNumber 1 SH jI 14 [(0, .ref b), (1, .int a1), (2, .int x2), (3, .int c3), (4, .int c4)] [] s5 (B_X2_readNumber_14 rec b a1 x2 K c3 c4 s5) := by
  unfold B_X2_readNumber_14
  refine v_iload dX2_readNumber_14 rfl ?_
  refine v_sipush (v := 200) dX2_readNumber_16 (by decide +kernel) ?_
  refine v_icmp_ge (tgt := 73) dX2_readNumber_19 (by decide) (fun _ => ?_) (fun _ => ?_)
  · skip
    exact v_pick [0, 1, 2, 3] rfl (hK _ _)
  refine v_aload_n dX2_readNumber_22 rfl rfl ?_
  refine v_aload_n dX2_readNumber_23 rfl rfl ?_
  refine v_geti dX2_readNumber_24 kf_X2_19 h.1 rfl ?_
  refine v_cpI (fun z hz => runV (as := [.int (gF s5 b 2)]) dX2_readNumber_27 kv_X2_108 rfl rfl (Nat.le_of_ble_eq_true rfl) (Nat.le_of_ble_eq_true rfl) (recvW h.1 rfl rfl) (ct_X2_isDigit _ _ h _) hz) (fun x8 => ?_)
  refine v_if_eq (tgt := 73) dX2_readNumber_30 (by decide) (fun _ => ?_) (fun _ => ?_)
  · skip
    exact v_pick [0, 1, 2, 3] rfl (hK _ _)
  refine v_sipush (v := 1000) dX2_readNumber_33 (by decide +kernel) ?_
  refine v_iload_n dX2_readNumber_36 rfl rfl ?_
  refine v_bipush (v := 10) dX2_readNumber_37 (by decide +kernel) ?_
  refine v_imul dX2_readNumber_39 ?_
  refine v_aload_n dX2_readNumber_40 rfl rfl ?_
  refine v_getr dX2_readNumber_41 kf_X2_9 h.1 rfl ?_
  refine v_aload_n dX2_readNumber_44 rfl rfl ?_
  refine v_geti dX2_readNumber_45 kf_X2_19 h.1 rfl ?_
  refine v_gd (fun g9 => ?_)
  refine v_bald dX2_readNumber_48 h.2 g9 rfl ?_
  refine v_iadd dX2_readNumber_49 ?_
  refine v_bipush (v := 48) dX2_readNumber_50 (by decide +kernel) ?_
  refine v_isub dX2_readNumber_52 ?_
  refine v_mmin dX2_readNumber_53 k9_X2_112 (Nat.le_of_ble_eq_true rfl) (Nat.le_of_ble_eq_true rfl) ?_
  refine v_topi (fun x10 => ?_)
  refine v_istore_n (L' := [(3, .int x10), (0, .ref b), (1, .int a1), (2, .int x2), (4, .int c4)]) dX2_readNumber_56 rfl (by decide) rfl ?_
  refine v_aload_n dX2_readNumber_57 rfl rfl ?_
  refine v_dup dX2_readNumber_58 rfl ?_
  refine v_geti dX2_readNumber_59 kf_X2_19 h.1 rfl ?_
  refine v_iconst (v := 1) dX2_readNumber_62 (by decide +kernel) ?_
  refine v_iadd dX2_readNumber_63 ?_
  refine v_puti dX2_readNumber_64 kp_X2_19 h.1 rfl rfl rfl (v_st fun s11 => ?_)
  refine v_iinc (v := (c4 + (1 : Int32))) (L' := [(4, .int (c4 + (1 : Int32))), (3, .int x10), (0, .ref b), (1, .int a1), (2, .int x2)]) dX2_readNumber_67 rfl rfl (by decide) rfl ?_
  refine v_goto (tgt := 14) dX2_readNumber_70 (by decide) ?_
  exact v_pick [2, 3, 4, 1, 0] rfl (hrec _ _ _)
theorem wL_X2_readNumber_14 {SH : SHT} (b : Nat) (a1 : Int32) (x2 : Int32) (h : isTape SH b) (K : Int32 → St → Option (Int32 × St)) (hK : ∀ (e6 : Int32) (s7 : St), VF mX2_readNumber 1 SH jI 73 [(0, .ref b), (1, .int a1), (2, .int x2), (3, .int e6)] [] s7 (K e6 s7)) : ∀ (n : Nat) (c3 : Int32) (c4 : Int32) (s5 : St), VF mX2_readNumber 1 SH jI 14 [(0, .ref b), (1, .int a1), (2, .int x2), (3, .int c3), (4, .int c4)] [] s5 (L_X2_readNumber_14 b a1 x2 K n c3 c4 s5) := by
  intro n
  induction n with
  | zero => intros; exact v_none
  | succ n ih => intro c3 c4 s5; exact wB_X2_readNumber_14 b a1 x2 h _ ih K hK c3 c4 s5
set_option maxHeartbeats 4000000 in
set_option maxRecDepth 100000 in
theorem w_X2_readNumber {SH : SHT} (b : Nat) (a1 : Int32) (h : isTape SH b) (s0 : St) : VF mX2_readNumber 1 SH jI 0 [(0, .ref b), (1, .int a1)] [] s0 (f_X2_readNumber b a1 s0) := by
  unfold f_X2_readNumber
  refine v_aload_n dX2_readNumber_0 rfl rfl ?_
  refine v_cw (fun z hz => runV (as := []) dX2_readNumber_1 kv_X2_25 rfl rfl (Nat.le_of_ble_eq_true rfl) (Nat.le_of_ble_eq_true rfl) (recvW h.1 rfl rfl) (ct_X2_skipBlanks _ h _) hz) (fun s1 => ?_)
  refine v_aload_n dX2_readNumber_4 rfl rfl ?_
  refine v_geti dX2_readNumber_5 kf_X2_19 h.1 rfl ?_
  refine v_topi (fun x2 => ?_)
  refine v_istore_n (L' := [(2, .int x2), (0, .ref b), (1, .int a1)]) dX2_readNumber_8 rfl (by decide) rfl ?_
  refine v_iconst (v := 0) dX2_readNumber_9 (by decide +kernel) ?_
  refine v_istore_n (L' := [(3, .int (0 : Int32)), (2, .int x2), (0, .ref b), (1, .int a1)]) dX2_readNumber_10 rfl (by decide) rfl ?_
  refine v_iconst (v := 0) dX2_readNumber_11 (by decide +kernel) ?_
  refine v_istore (L' := [(4, .int (0 : Int32)), (3, .int (0 : Int32)), (2, .int x2), (0, .ref b), (1, .int a1)]) dX2_readNumber_12 (by decide) rfl ?_
  refine v_pick [3, 4, 2, 1, 0] rfl (wL_X2_readNumber_14 b a1 x2 h _ (fun e6 s7 => ?_) FU _ _ _)
  refine v_aload_n dX2_readNumber_73 rfl rfl ?_
  refine v_geti dX2_readNumber_74 kf_X2_19 h.1 rfl ?_
  refine v_iload_n dX2_readNumber_77 rfl rfl ?_
  refine v_bnK (fun K13 => ∀ (s12 : St), VF mX2_readNumber 1 SH jI 101 [(0, .ref b), (3, .int e6)] [] s12 (K13 s12)) (fun K13 hK13 => ?_) (fun s12 => ?_)
  · skip
    refine v_icmp_eq (tgt := 96) dX2_readNumber_78 (by decide) (fun _ => ?_) (fun _ => ?_)
    · skip
      refine v_aload_n dX2_readNumber_96 rfl rfl ?_
      refine v_iload_n dX2_readNumber_97 rfl rfl ?_
      refine v_cw (fun z hz => runV (as := [.int x2]) dX2_readNumber_98 kv_X2_86 rfl rfl (Nat.le_of_ble_eq_true rfl) (Nat.le_of_ble_eq_true rfl) (recvW h.1 rfl rfl) (ct_X2_refuse _ _ h _) hz) (fun s14 => ?_)
      exact v_pick [0, 3] rfl (hK13 _)
    refine v_aload_n dX2_readNumber_81 rfl rfl ?_
    refine v_geti dX2_readNumber_82 kf_X2_19 h.1 rfl ?_
    refine v_iload_n dX2_readNumber_85 rfl rfl ?_
    refine v_isub dX2_readNumber_86 ?_
    refine v_iconst (v := 3) dX2_readNumber_87 (by decide +kernel) ?_
    refine v_icmp_gt (tgt := 96) dX2_readNumber_88 (by decide) (fun _ => ?_) (fun _ => ?_)
    · skip
      refine v_aload_n dX2_readNumber_96 rfl rfl ?_
      refine v_iload_n dX2_readNumber_97 rfl rfl ?_
      refine v_cw (fun z hz => runV (as := [.int x2]) dX2_readNumber_98 kv_X2_86 rfl rfl (Nat.le_of_ble_eq_true rfl) (Nat.le_of_ble_eq_true rfl) (recvW h.1 rfl rfl) (ct_X2_refuse _ _ h _) hz) (fun s15 => ?_)
      exact v_pick [0, 3] rfl (hK13 _)
    refine v_iload_n dX2_readNumber_91 rfl rfl ?_
    refine v_iload_n dX2_readNumber_92 rfl rfl ?_
    refine v_icmp_le (tgt := 101) dX2_readNumber_93 (by decide) (fun _ => ?_) (fun _ => ?_)
    · skip
      exact v_pick [0, 3] rfl (hK13 _)
    refine v_aload_n dX2_readNumber_96 rfl rfl ?_
    refine v_iload_n dX2_readNumber_97 rfl rfl ?_
    refine v_cw (fun z hz => runV (as := [.int x2]) dX2_readNumber_98 kv_X2_86 rfl rfl (Nat.le_of_ble_eq_true rfl) (Nat.le_of_ble_eq_true rfl) (recvW h.1 rfl rfl) (ct_X2_refuse _ _ h _) hz) (fun s16 => ?_)
    exact v_pick [0, 3] rfl (hK13 _)
  refine v_aload_n dX2_readNumber_101 rfl rfl ?_
  refine v_geti dX2_readNumber_102 kf_X2_22 h.1 rfl ?_
  refine v_if_ge (tgt := 112) dX2_readNumber_105 (by decide) (fun _ => ?_) (fun _ => ?_)
  · skip
    refine v_iconst (v := 0) dX2_readNumber_112 (by decide +kernel) ?_
    exact v_ret (ty := .int) dX2_readNumber_113 rfl rfl rfl
  refine v_iload_n dX2_readNumber_108 rfl rfl ?_
  refine v_goto (tgt := 113) dX2_readNumber_109 (by decide) ?_
  exact v_ret (ty := .int) dX2_readNumber_113 rfl rfl rfl
theorem ct_X2_readNumber {SH : SHT} (b : Nat) (a1 : Int32) (h : isTape SH b) (s0 : St) : CT yX2_readNumber mX2_readNumber 1 SH jI [.ref b, .int a1] s0 (f_X2_readNumber b a1 s0) := CT.of (by decide +kernel) rfl (fun E => Nat.le_of_ble_eq_true rfl) (w_X2_readNumber b a1 h s0)
set_option maxHeartbeats 4000000 in
set_option maxRecDepth 100000 in
theorem w_X2_readPerson {SH : SHT} (b : Nat) (a1 : Nat) (a2 : Int32) (h : isTape SH b) (ha1 : isMoor SH a1) (s0 : St) : VF mX2_readPerson 7 SH jV 0 [(0, .ref b), (1, .ref a1), (2, .int a2)] [] s0 (f_X2_readPerson b a1 a2 s0) := by
  unfold f_X2_readPerson
  refine v_aload_n dX2_readPerson_0 rfl rfl ?_
  refine v_geti dX2_readPerson_1 kf_X2_90 ha1.1 rfl ?_
  refine v_bipush (v := 8) dX2_readPerson_4 (by decide +kernel) ?_
  refine v_bnK (fun K2 => ∀ (s1 : St), VF mX2_readPerson 7 SH jV 17 [(0, .ref b), (1, .ref a1), (2, .int a2)] [] s1 (K2 s1)) (fun K2 hK2 => ?_) (fun s1 => ?_)
  · skip
    refine v_icmp_lt (tgt := 17) dX2_readPerson_6 (by decide) (fun _ => ?_) (fun _ => ?_)
    · skip
      exact v_pick [0, 1, 2] rfl (hK2 _)
    refine v_aload_n dX2_readPerson_9 rfl rfl ?_
    refine v_aload_n dX2_readPerson_10 rfl rfl ?_
    refine v_geti dX2_readPerson_11 kf_X2_19 h.1 rfl ?_
    refine v_cw (fun z hz => runV (as := [.int (gF s0 b 2)]) dX2_readPerson_14 kv_X2_86 rfl rfl (Nat.le_of_ble_eq_true rfl) (Nat.le_of_ble_eq_true rfl) (recvW h.1 rfl rfl) (ct_X2_refuse _ _ h _) hz) (fun s3 => ?_)
    exact v_pick [0, 1, 2] rfl (hK2 _)
  refine v_aload_n dX2_readPerson_17 rfl rfl ?_
  refine v_iload_n dX2_readPerson_18 rfl rfl ?_
  refine v_cpR (fun z hz => runT (as := [.int a2]) dX2_readPerson_19 kt_X2_93 rfl rfl (Nat.le_of_ble_eq_true rfl) (Nat.le_of_ble_eq_true rfl) (ct_X2_kindName _  _) hz) (fun x4 => ?_)
  refine v_cw (fun z hz => runV (as := [.ref x4]) dX2_readPerson_22 kv_X2_53 rfl rfl (Nat.le_of_ble_eq_true rfl) (Nat.le_of_ble_eq_true rfl) (recvW h.1 rfl rfl) (ct_X2_readName _ _ h _) hz) (fun s5 => ?_)
  refine v_aload_n dX2_readPerson_25 rfl rfl ?_
  refine v_ldcS (i := 10) dX2_readPerson_26 rfl (by decide) (by decide +kernel) ?_
  refine v_cw (fun z hz => runV (as := [.ref 2010]) dX2_readPerson_28 kv_X2_53 rfl rfl (Nat.le_of_ble_eq_true rfl) (Nat.le_of_ble_eq_true rfl) (recvW h.1 rfl rfl) (ct_X2_readName _ _ h _) hz) (fun s6 => ?_)
  refine v_aload_n dX2_readPerson_31 rfl rfl ?_
  refine v_bipush (v := 31) dX2_readPerson_32 (by decide +kernel) ?_
  refine v_cbI (fun z hz => runV (as := [.int (31 : Int32)]) dX2_readPerson_34 kv_X2_60 rfl rfl (Nat.le_of_ble_eq_true rfl) (Nat.le_of_ble_eq_true rfl) (recvW h.1 rfl rfl) (ct_X2_readNumber _ _ h _) hz) (fun x8 s7 => ?_)
  refine v_istore_n (L' := [(3, .int x8), (0, .ref b), (1, .ref a1), (2, .int a2)]) dX2_readPerson_37 rfl (by decide) rfl ?_
  refine v_bipush (v := 50) dX2_readPerson_38 (by decide +kernel) ?_
  refine v_istore (L' := [(4, .int (50 : Int32)), (3, .int x8), (0, .ref b), (1, .ref a1), (2, .int a2)]) dX2_readPerson_40 (by decide) rfl ?_
  refine v_aload_n dX2_readPerson_42 rfl rfl ?_
  refine v_ldcS (i := 11) dX2_readPerson_43 rfl (by decide) (by decide +kernel) ?_
  refine v_cbI (fun z hz => runV (as := [.ref 2011]) dX2_readPerson_45 kv_X2_49 rfl rfl (Nat.le_of_ble_eq_true rfl) (Nat.le_of_ble_eq_true rfl) (recvW h.1 rfl rfl) (ct_X2_isHere _ _ h _) hz) (fun x10 s9 => ?_)
  refine v_bnK (fun K13 => ∀ (t11 : Int32) (s12 : St), VF mX2_readPerson 7 SH jV 65 [(0, .ref b), (1, .ref a1), (2, .int a2), (3, .int x8), (4, .int t11)] [] s12 (K13 t11 s12)) (fun K13 hK13 => ?_) (fun t11 s12 => ?_)
  · skip
    refine v_if_eq (tgt := 65) dX2_readPerson_48 (by decide) (fun _ => ?_) (fun _ => ?_)
    · skip
      exact v_pick [2, 3, 4, 1, 0] rfl (hK13 _ _)
    refine v_aload_n dX2_readPerson_51 rfl rfl ?_
    refine v_ldcS (i := 11) dX2_readPerson_52 rfl (by decide) (by decide +kernel) ?_
    refine v_cw (fun z hz => runV (as := [.ref 2011]) dX2_readPerson_54 kv_X2_53 rfl rfl (Nat.le_of_ble_eq_true rfl) (Nat.le_of_ble_eq_true rfl) (recvW h.1 rfl rfl) (ct_X2_readName _ _ h _) hz) (fun s14 => ?_)
    refine v_aload_n dX2_readPerson_57 rfl rfl ?_
    refine v_bipush (v := 99) dX2_readPerson_58 (by decide +kernel) ?_
    refine v_cbI (fun z hz => runV (as := [.int (99 : Int32)]) dX2_readPerson_60 kv_X2_60 rfl rfl (Nat.le_of_ble_eq_true rfl) (Nat.le_of_ble_eq_true rfl) (recvW h.1 rfl rfl) (ct_X2_readNumber _ _ h _) hz) (fun x16 s15 => ?_)
    refine v_istore (L' := [(4, .int x16), (3, .int x8), (0, .ref b), (1, .ref a1), (2, .int a2)]) dX2_readPerson_63 (by decide) rfl ?_
    exact v_pick [2, 3, 4, 1, 0] rfl (hK13 _ _)
  refine v_iconst (v := 0) dX2_readPerson_65 (by decide +kernel) ?_
  refine v_istore (L' := [(5, .int (0 : Int32)), (0, .ref b), (1, .ref a1), (2, .int a2), (3, .int x8), (4, .int t11)]) dX2_readPerson_66 (by decide) rfl ?_
  refine v_aload_n dX2_readPerson_68 rfl rfl ?_
  refine v_ldcS (i := 12) dX2_readPerson_69 rfl (by decide) (by decide +kernel) ?_
  refine v_cbI (fun z hz => runV (as := [.ref 2012]) dX2_readPerson_71 kv_X2_49 rfl rfl (Nat.le_of_ble_eq_true rfl) (Nat.le_of_ble_eq_true rfl) (recvW h.1 rfl rfl) (ct_X2_isHere _ _ h _) hz) (fun x18 s17 => ?_)
  refine v_bnK (fun K21 => ∀ (t19 : Int32) (s20 : St), VF mX2_readPerson 7 SH jV 91 [(0, .ref b), (1, .ref a1), (2, .int a2), (3, .int x8), (4, .int t11), (5, .int t19)] [] s20 (K21 t19 s20)) (fun K21 hK21 => ?_) (fun t19 s20 => ?_)
  · skip
    refine v_if_eq (tgt := 91) dX2_readPerson_74 (by decide) (fun _ => ?_) (fun _ => ?_)
    · skip
      exact v_pick [1, 2, 3, 4, 5, 0] rfl (hK21 _ _)
    refine v_aload_n dX2_readPerson_77 rfl rfl ?_
    refine v_ldcS (i := 12) dX2_readPerson_78 rfl (by decide) (by decide +kernel) ?_
    refine v_cw (fun z hz => runV (as := [.ref 2012]) dX2_readPerson_80 kv_X2_53 rfl rfl (Nat.le_of_ble_eq_true rfl) (Nat.le_of_ble_eq_true rfl) (recvW h.1 rfl rfl) (ct_X2_readName _ _ h _) hz) (fun s22 => ?_)
    refine v_aload_n dX2_readPerson_83 rfl rfl ?_
    refine v_bipush (v := 9) dX2_readPerson_84 (by decide +kernel) ?_
    refine v_cbI (fun z hz => runV (as := [.int (9 : Int32)]) dX2_readPerson_86 kv_X2_60 rfl rfl (Nat.le_of_ble_eq_true rfl) (Nat.le_of_ble_eq_true rfl) (recvW h.1 rfl rfl) (ct_X2_readNumber _ _ h _) hz) (fun x24 s23 => ?_)
    refine v_istore (L' := [(5, .int x24), (0, .ref b), (1, .ref a1), (2, .int a2), (3, .int x8), (4, .int t11)]) dX2_readPerson_89 (by decide) rfl ?_
    exact v_pick [1, 2, 3, 4, 5, 0] rfl (hK21 _ _)
  refine v_aload_n dX2_readPerson_91 rfl rfl ?_
  refine v_geti dX2_readPerson_92 kf_X2_22 h.1 rfl ?_
  refine v_if_ge (tgt := 109) dX2_readPerson_95 (by decide) (fun _ => ?_) (fun _ => ?_)
  · skip
    exact v_vret dX2_readPerson_109 rfl rfl
  refine v_aload_n dX2_readPerson_98 rfl rfl ?_
  refine v_iload_n dX2_readPerson_99 rfl rfl ?_
  refine v_iload dX2_readPerson_100 rfl ?_
  refine v_iload dX2_readPerson_102 rfl ?_
  refine v_iload_n dX2_readPerson_104 rfl rfl ?_
  refine v_cbI (fun z hz => runV (as := [.int a2, .int t19, .int t11, .int x8]) dX2_readPerson_105 kv_X2_102 rfl rfl (Nat.le_of_ble_eq_true rfl) (Nat.le_of_ble_eq_true rfl) (recvW ha1.1 rfl rfl) (ct_X1_comes _ _ _ _ _ ha1 _) hz) (fun x26 s25 => ?_)
  refine v_pop dX2_readPerson_108 rfl ?_
  exact v_vret dX2_readPerson_109 rfl rfl
theorem ct_X2_readPerson {SH : SHT} (b : Nat) (a1 : Nat) (a2 : Int32) (h : isTape SH b) (ha1 : isMoor SH a1) (s0 : St) : CT yX2_readPerson mX2_readPerson 7 SH jV [.ref b, .ref a1, .int a2] s0 (f_X2_readPerson b a1 a2 s0) := CT.of (by decide +kernel) rfl (fun E => Nat.le_of_ble_eq_true rfl) (w_X2_readPerson b a1 a2 h ha1 s0)
set_option maxHeartbeats 4000000 in
set_option maxRecDepth 100000 in
theorem w_X2_readCell {SH : SHT} (b : Nat) (h : isTape SH b) (s0 : St) : VF mX2_readCell 7 SH jI 0 [(0, .ref b)] [] s0 (f_X2_readCell b s0) := by
  unfold f_X2_readCell
  refine v_aload_n dX2_readCell_0 rfl rfl ?_
  refine v_bipush (v := 31) dX2_readCell_1 (by decide +kernel) ?_
  refine v_cbI (fun z hz => runV (as := [.int (31 : Int32)]) dX2_readCell_3 kv_X2_60 rfl rfl (Nat.le_of_ble_eq_true rfl) (Nat.le_of_ble_eq_true rfl) (recvW h.1 rfl rfl) (ct_X2_readNumber _ _ h _) hz) (fun x2 s1 => ?_)
  refine v_istore_n (L' := [(1, .int x2), (0, .ref b)]) dX2_readCell_6 rfl (by decide) rfl ?_
  refine v_aload_n dX2_readCell_7 rfl rfl ?_
  refine v_ldcS (i := 14) dX2_readCell_8 rfl (by decide) (by decide +kernel) ?_
  refine v_cw (fun z hz => runV (as := [.ref 2014]) dX2_readCell_10 kv_X2_53 rfl rfl (Nat.le_of_ble_eq_true rfl) (Nat.le_of_ble_eq_true rfl) (recvW h.1 rfl rfl) (ct_X2_readName _ _ h _) hz) (fun s3 => ?_)
  refine v_iload_n dX2_readCell_13 rfl rfl ?_
  exact v_ret (ty := .int) dX2_readCell_14 rfl rfl rfl
theorem ct_X2_readCell {SH : SHT} (b : Nat) (h : isTape SH b) (s0 : St) : CT yX2_readCell mX2_readCell 7 SH jI [.ref b] s0 (f_X2_readCell b s0) := CT.of (by decide +kernel) rfl (fun E => Nat.le_of_ble_eq_true rfl) (w_X2_readCell b h s0)
set_option maxHeartbeats 4000000 in
set_option maxRecDepth 100000 in
theorem w_X2_readSentence {SH : SHT} (b : Nat) (a1 : Nat) (h : isTape SH b) (ha1 : isMoor SH a1) (s0 : St) : VF mX2_readSentence 8 SH jV 0 [(0, .ref b), (1, .ref a1)] [] s0 (f_X2_readSentence b a1 s0) := by
  unfold f_X2_readSentence
  refine v_aload_n dX2_readSentence_0 rfl rfl ?_
  refine v_cbI (fun z hz => runV (as := []) dX2_readSentence_1 kv_X2_36 rfl rfl (Nat.le_of_ble_eq_true rfl) (Nat.le_of_ble_eq_true rfl) (recvW h.1 rfl rfl) (ct_X2_kindHere _ h _) hz) (fun x2 s1 => ?_)
  refine v_istore_n (L' := [(2, .int x2), (0, .ref b), (1, .ref a1)]) dX2_readSentence_4 rfl (by decide) rfl ?_
  refine v_aload_n dX2_readSentence_5 rfl rfl ?_
  refine v_cbI (fun z hz => runV (as := []) dX2_readSentence_6 kv_X2_40 rfl rfl (Nat.le_of_ble_eq_true rfl) (Nat.le_of_ble_eq_true rfl) (recvW h.1 rfl rfl) (ct_X2_lawHere _ h _) hz) (fun x4 s3 => ?_)
  refine v_istore_n (L' := [(3, .int x4), (2, .int x2), (0, .ref b), (1, .ref a1)]) dX2_readSentence_9 rfl (by decide) rfl ?_
  refine v_iload_n dX2_readSentence_10 rfl rfl ?_
  refine v_if_lt (tgt := 23) dX2_readSentence_11 (by decide) (fun _ => ?_) (fun _ => ?_)
  · skip
    refine v_aload_n dX2_readSentence_23 rfl rfl ?_
    refine v_ldcS (i := 13) dX2_readSentence_24 rfl (by decide) (by decide +kernel) ?_
    refine v_cbI (fun z hz => runV (as := [.ref 2013]) dX2_readSentence_26 kv_X2_49 rfl rfl (Nat.le_of_ble_eq_true rfl) (Nat.le_of_ble_eq_true rfl) (recvW h.1 rfl rfl) (ct_X2_isHere _ _ h _) hz) (fun x6 s5 => ?_)
    refine v_if_eq (tgt := 59) dX2_readSentence_29 (by decide) (fun _ => ?_) (fun _ => ?_)
    · skip
      refine v_aload_n dX2_readSentence_59 rfl rfl ?_
      refine v_ldcS (i := 15) dX2_readSentence_60 rfl (by decide) (by decide +kernel) ?_
      refine v_cbI (fun z hz => runV (as := [.ref 2015]) dX2_readSentence_62 kv_X2_49 rfl rfl (Nat.le_of_ble_eq_true rfl) (Nat.le_of_ble_eq_true rfl) (recvW h.1 rfl rfl) (ct_X2_isHere _ _ h _) hz) (fun x8 s7 => ?_)
      refine v_if_eq (tgt := 96) dX2_readSentence_65 (by decide) (fun _ => ?_) (fun _ => ?_)
      · skip
        refine v_iload_n dX2_readSentence_96 rfl rfl ?_
        refine v_if_lt (tgt := 126) dX2_readSentence_97 (by decide) (fun _ => ?_) (fun _ => ?_)
        · skip
          refine v_aload_n dX2_readSentence_126 rfl rfl ?_
          refine v_aload_n dX2_readSentence_127 rfl rfl ?_
          refine v_geti dX2_readSentence_128 kf_X2_19 h.1 rfl ?_
          refine v_cw (fun z hz => runV (as := [.int (gF s7 b 2)]) dX2_readSentence_131 kv_X2_86 rfl rfl (Nat.le_of_ble_eq_true rfl) (Nat.le_of_ble_eq_true rfl) (recvW h.1 rfl rfl) (ct_X2_refuse _ _ h _) hz) (fun s9 => ?_)
          exact v_vret dX2_readSentence_134 rfl rfl
        refine v_aload_n dX2_readSentence_100 rfl rfl ?_
        refine v_iload_n dX2_readSentence_101 rfl rfl ?_
        refine v_cpR (fun z hz => runT (as := [.int x4]) dX2_readSentence_102 kt_X2_76 rfl rfl (Nat.le_of_ble_eq_true rfl) (Nat.le_of_ble_eq_true rfl) (ct_X2_lawName _  _) hz) (fun x10 => ?_)
        refine v_cw (fun z hz => runV (as := [.ref x10]) dX2_readSentence_105 kv_X2_53 rfl rfl (Nat.le_of_ble_eq_true rfl) (Nat.le_of_ble_eq_true rfl) (recvW h.1 rfl rfl) (ct_X2_readName _ _ h _) hz) (fun s11 => ?_)
        refine v_aload_n dX2_readSentence_108 rfl rfl ?_
        refine v_getr dX2_readSentence_109 kf_X2_80 ha1.1 rfl ?_
        refine v_iload_n dX2_readSentence_112 rfl rfl ?_
        refine v_aload_n dX2_readSentence_113 rfl rfl ?_
        refine v_gets dX2_readSentence_114 ks_X2_83 ?_
        refine v_iload_n dX2_readSentence_117 rfl rfl ?_
        refine v_gd (fun g12 => ?_)
        refine v_tald (i := 1) dX2_readSentence_118 rfl (by decide) g12 rfl ?_
        refine v_cbI (fun z hz => runV (as := [.int (stV 1 (ix x4))]) dX2_readSentence_119 kv_X2_60 rfl rfl (Nat.le_of_ble_eq_true rfl) (Nat.le_of_ble_eq_true rfl) (recvW h.1 rfl rfl) (ct_X2_readNumber _ _ h _) hz) (fun x14 s13 => ?_)
        refine v_gd (fun g15 => ?_)
        refine v_iast dX2_readSentence_122 ha1.2.1 g15 rfl (v_st fun s16 => ?_)
        refine v_goto (tgt := 134) dX2_readSentence_123 (by decide) ?_
        exact v_vret dX2_readSentence_134 rfl rfl
      refine v_aload_n dX2_readSentence_68 rfl rfl ?_
      refine v_ldcS (i := 15) dX2_readSentence_69 rfl (by decide) (by decide +kernel) ?_
      refine v_cw (fun z hz => runV (as := [.ref 2015]) dX2_readSentence_71 kv_X2_53 rfl rfl (Nat.le_of_ble_eq_true rfl) (Nat.le_of_ble_eq_true rfl) (recvW h.1 rfl rfl) (ct_X2_readName _ _ h _) hz) (fun s17 => ?_)
      refine v_aload_n dX2_readSentence_74 rfl rfl ?_
      refine v_cbI (fun z hz => runV (as := []) dX2_readSentence_75 kv_X2_57 rfl rfl (Nat.le_of_ble_eq_true rfl) (Nat.le_of_ble_eq_true rfl) (recvW h.1 rfl rfl) (ct_X2_readCell _ h _) hz) (fun x19 s18 => ?_)
      refine v_istore (L' := [(4, .int x19), (3, .int x4), (2, .int x2), (0, .ref b), (1, .ref a1)]) dX2_readSentence_78 (by decide) rfl ?_
      refine v_aload_n dX2_readSentence_80 rfl rfl ?_
      refine v_getr dX2_readSentence_81 kf_X2_72 ha1.1 rfl ?_
      refine v_iload dX2_readSentence_84 rfl ?_
      refine v_aload_n dX2_readSentence_86 rfl rfl ?_
      refine v_bipush (v := 99) dX2_readSentence_87 (by decide +kernel) ?_
      refine v_cbI (fun z hz => runV (as := [.int (99 : Int32)]) dX2_readSentence_89 kv_X2_60 rfl rfl (Nat.le_of_ble_eq_true rfl) (Nat.le_of_ble_eq_true rfl) (recvW h.1 rfl rfl) (ct_X2_readNumber _ _ h _) hz) (fun x21 s20 => ?_)
      refine v_gd (fun g22 => ?_)
      refine v_iast dX2_readSentence_92 ha1.2.2.2.1 g22 rfl (v_st fun s23 => ?_)
      refine v_goto (tgt := 134) dX2_readSentence_93 (by decide) ?_
      exact v_vret dX2_readSentence_134 rfl rfl
    refine v_aload_n dX2_readSentence_32 rfl rfl ?_
    refine v_ldcS (i := 13) dX2_readSentence_33 rfl (by decide) (by decide +kernel) ?_
    refine v_cw (fun z hz => runV (as := [.ref 2013]) dX2_readSentence_35 kv_X2_53 rfl rfl (Nat.le_of_ble_eq_true rfl) (Nat.le_of_ble_eq_true rfl) (recvW h.1 rfl rfl) (ct_X2_readName _ _ h _) hz) (fun s24 => ?_)
    refine v_aload_n dX2_readSentence_38 rfl rfl ?_
    refine v_cbI (fun z hz => runV (as := []) dX2_readSentence_39 kv_X2_57 rfl rfl (Nat.le_of_ble_eq_true rfl) (Nat.le_of_ble_eq_true rfl) (recvW h.1 rfl rfl) (ct_X2_readCell _ h _) hz) (fun x26 s25 => ?_)
    refine v_istore (L' := [(4, .int x26), (3, .int x4), (2, .int x2), (0, .ref b), (1, .ref a1)]) dX2_readSentence_42 (by decide) rfl ?_
    refine v_aload_n dX2_readSentence_44 rfl rfl ?_
    refine v_iload dX2_readSentence_45 rfl ?_
    refine v_aload_n dX2_readSentence_47 rfl rfl ?_
    refine v_bipush (v := 9) dX2_readSentence_48 (by decide +kernel) ?_
    refine v_cbI (fun z hz => runV (as := [.int (9 : Int32)]) dX2_readSentence_50 kv_X2_60 rfl rfl (Nat.le_of_ble_eq_true rfl) (Nat.le_of_ble_eq_true rfl) (recvW h.1 rfl rfl) (ct_X2_readNumber _ _ h _) hz) (fun x28 s27 => ?_)
    refine v_cw (fun z hz => runV (as := [.int x26, .int x28]) dX2_readSentence_53 kv_X2_64 rfl rfl (Nat.le_of_ble_eq_true rfl) (Nat.le_of_ble_eq_true rfl) (recvW ha1.1 rfl rfl) (ct_X1_raise _ _ _ ha1 _) hz) (fun s29 => ?_)
    refine v_goto (tgt := 134) dX2_readSentence_56 (by decide) ?_
    exact v_vret dX2_readSentence_134 rfl rfl
  refine v_aload_n dX2_readSentence_14 rfl rfl ?_
  refine v_aload_n dX2_readSentence_15 rfl rfl ?_
  refine v_iload_n dX2_readSentence_16 rfl rfl ?_
  refine v_cw (fun z hz => runV (as := [.ref a1, .int x2]) dX2_readSentence_17 kv_X2_43 rfl rfl (Nat.le_of_ble_eq_true rfl) (Nat.le_of_ble_eq_true rfl) (recvW h.1 rfl rfl) (ct_X2_readPerson _ _ _ h ha1 _) hz) (fun s30 => ?_)
  refine v_goto (tgt := 134) dX2_readSentence_20 (by decide) ?_
  exact v_vret dX2_readSentence_134 rfl rfl
theorem ct_X2_readSentence {SH : SHT} (b : Nat) (a1 : Nat) (h : isTape SH b) (ha1 : isMoor SH a1) (s0 : St) : CT yX2_readSentence mX2_readSentence 8 SH jV [.ref b, .ref a1] s0 (f_X2_readSentence b a1 s0) := CT.of (by decide +kernel) rfl (fun E => Nat.le_of_ble_eq_true rfl) (w_X2_readSentence b a1 h ha1 s0)
set_option maxHeartbeats 4000000 in
set_option maxRecDepth 100000 in
theorem w_X2_readSign {SH : SHT} (b : Nat) (a1 : Int32) (h : isTape SH b) (s0 : St) : VF mX2_readSign 1 SH jV 0 [(0, .ref b), (1, .int a1)] [] s0 (f_X2_readSign b a1 s0) := by
  unfold f_X2_readSign
  refine v_aload_n dX2_readSign_0 rfl rfl ?_
  refine v_cw (fun z hz => runV (as := []) dX2_readSign_1 kv_X2_25 rfl rfl (Nat.le_of_ble_eq_true rfl) (Nat.le_of_ble_eq_true rfl) (recvW h.1 rfl rfl) (ct_X2_skipBlanks _ h _) hz) (fun s1 => ?_)
  refine v_aload_n dX2_readSign_4 rfl rfl ?_
  refine v_geti dX2_readSign_5 kf_X2_19 h.1 rfl ?_
  refine v_aload_n dX2_readSign_8 rfl rfl ?_
  refine v_geti dX2_readSign_9 kf_X2_15 h.1 rfl ?_
  refine v_icmp_ge (tgt := 41) dX2_readSign_12 (by decide) (fun _ => ?_) (fun _ => ?_)
  · skip
    refine v_aload_n dX2_readSign_41 rfl rfl ?_
    refine v_aload_n dX2_readSign_42 rfl rfl ?_
    refine v_geti dX2_readSign_43 kf_X2_19 h.1 rfl ?_
    refine v_cw (fun z hz => runV (as := [.int (gF s1 b 2)]) dX2_readSign_46 kv_X2_86 rfl rfl (Nat.le_of_ble_eq_true rfl) (Nat.le_of_ble_eq_true rfl) (recvW h.1 rfl rfl) (ct_X2_refuse _ _ h _) hz) (fun s2 => ?_)
    exact v_vret dX2_readSign_49 rfl rfl
  refine v_aload_n dX2_readSign_15 rfl rfl ?_
  refine v_getr dX2_readSign_16 kf_X2_9 h.1 rfl ?_
  refine v_aload_n dX2_readSign_19 rfl rfl ?_
  refine v_geti dX2_readSign_20 kf_X2_19 h.1 rfl ?_
  refine v_gd (fun g3 => ?_)
  refine v_bald dX2_readSign_23 h.2 g3 rfl ?_
  refine v_iload_n dX2_readSign_24 rfl rfl ?_
  refine v_icmp_ne (tgt := 41) dX2_readSign_25 (by decide) (fun _ => ?_) (fun _ => ?_)
  · skip
    refine v_aload_n dX2_readSign_41 rfl rfl ?_
    refine v_aload_n dX2_readSign_42 rfl rfl ?_
    refine v_geti dX2_readSign_43 kf_X2_19 h.1 rfl ?_
    refine v_cw (fun z hz => runV (as := [.int (gF s1 b 2)]) dX2_readSign_46 kv_X2_86 rfl rfl (Nat.le_of_ble_eq_true rfl) (Nat.le_of_ble_eq_true rfl) (recvW h.1 rfl rfl) (ct_X2_refuse _ _ h _) hz) (fun s4 => ?_)
    exact v_vret dX2_readSign_49 rfl rfl
  refine v_aload_n dX2_readSign_28 rfl rfl ?_
  refine v_dup dX2_readSign_29 rfl ?_
  refine v_geti dX2_readSign_30 kf_X2_19 h.1 rfl ?_
  refine v_iconst (v := 1) dX2_readSign_33 (by decide +kernel) ?_
  refine v_iadd dX2_readSign_34 ?_
  refine v_puti dX2_readSign_35 kp_X2_19 h.1 rfl rfl rfl (v_st fun s5 => ?_)
  refine v_goto (tgt := 49) dX2_readSign_38 (by decide) ?_
  exact v_vret dX2_readSign_49 rfl rfl
theorem ct_X2_readSign {SH : SHT} (b : Nat) (a1 : Int32) (h : isTape SH b) (s0 : St) : CT yX2_readSign mX2_readSign 1 SH jV [.ref b, .int a1] s0 (f_X2_readSign b a1 s0) := CT.of (by decide +kernel) rfl (fun E => Nat.le_of_ble_eq_true rfl) (w_X2_readSign b a1 h s0)
set_option maxHeartbeats 4000000 in
set_option maxRecDepth 100000 in
theorem wB_X2_readInto_16 {SH : SHT} (b : Nat) (a1 : Nat) (h : isTape SH b) (ha1 : isMoor SH a1) (rec : Int32 → St → Option (Int32 × St)) (hrec : ∀ (c4 : Int32) (s5 : St), VF mX2_readInto 9 SH jI 16 [(0, .ref b), (1, .ref a1), (2, .int c4)] [] s5 (rec c4 s5)) (K : St → Option (Int32 × St)) (hK : ∀ (s6 : St), VF mX2_readInto 9 SH jI 62 [(0, .ref b)] [] s6 (K s6)) (c4 : Int32) (s5 : St) : VF mX2_readInto 9 SH jI 16 [(0, .ref b), (1, .ref a1), (2, .int c4)] [] s5 (B_X2_readInto_16 rec b a1 K c4 s5) := by
  unfold B_X2_readInto_16
  refine v_iload_n dX2_readInto_16 rfl rfl ?_
  refine v_sipush (v := 200) dX2_readInto_17 (by decide +kernel) ?_
  refine v_icmp_ge (tgt := 62) dX2_readInto_20 (by decide) (fun _ => ?_) (fun _ => ?_)
  · skip
    exact v_pick [0] rfl (hK _)
  refine v_aload_n dX2_readInto_23 rfl rfl ?_
  refine v_geti dX2_readInto_24 kf_X2_19 h.1 rfl ?_
  refine v_aload_n dX2_readInto_27 rfl rfl ?_
  refine v_geti dX2_readInto_28 kf_X2_15 h.1 rfl ?_
  refine v_icmp_ge (tgt := 62) dX2_readInto_31 (by decide) (fun _ => ?_) (fun _ => ?_)
  · skip
    exact v_pick [0] rfl (hK _)
  refine v_aload_n dX2_readInto_34 rfl rfl ?_
  refine v_geti dX2_readInto_35 kf_X2_22 h.1 rfl ?_
  refine v_if_ge (tgt := 62) dX2_readInto_38 (by decide) (fun _ => ?_) (fun _ => ?_)
  · skip
    exact v_pick [0] rfl (hK _)
  refine v_aload_n dX2_readInto_41 rfl rfl ?_
  refine v_aload_n dX2_readInto_42 rfl rfl ?_
  refine v_cw (fun z hz => runV (as := [.ref a1]) dX2_readInto_43 kv_X2_28 rfl rfl (Nat.le_of_ble_eq_true rfl) (Nat.le_of_ble_eq_true rfl) (recvW h.1 rfl rfl) (ct_X2_readSentence _ _ h ha1 _) hz) (fun s7 => ?_)
  refine v_aload_n dX2_readInto_46 rfl rfl ?_
  refine v_bipush (v := 59) dX2_readInto_47 (by decide +kernel) ?_
  refine v_cw (fun z hz => runV (as := [.int (59 : Int32)]) dX2_readInto_49 kv_X2_32 rfl rfl (Nat.le_of_ble_eq_true rfl) (Nat.le_of_ble_eq_true rfl) (recvW h.1 rfl rfl) (ct_X2_readSign _ _ h _) hz) (fun s8 => ?_)
  refine v_aload_n dX2_readInto_52 rfl rfl ?_
  refine v_cw (fun z hz => runV (as := []) dX2_readInto_53 kv_X2_25 rfl rfl (Nat.le_of_ble_eq_true rfl) (Nat.le_of_ble_eq_true rfl) (recvW h.1 rfl rfl) (ct_X2_skipBlanks _ h _) hz) (fun s9 => ?_)
  refine v_iinc (v := (c4 + (1 : Int32))) (L' := [(2, .int (c4 + (1 : Int32))), (0, .ref b), (1, .ref a1)]) dX2_readInto_56 rfl rfl (by decide) rfl ?_
  refine v_goto (tgt := 16) dX2_readInto_59 (by decide) ?_
  exact v_pick [1, 2, 0] rfl (hrec _ _)
theorem wL_X2_readInto_16 {SH : SHT} (b : Nat) (a1 : Nat) (h : isTape SH b) (ha1 : isMoor SH a1) (K : St → Option (Int32 × St)) (hK : ∀ (s6 : St), VF mX2_readInto 9 SH jI 62 [(0, .ref b)] [] s6 (K s6)) : ∀ (n : Nat) (c4 : Int32) (s5 : St), VF mX2_readInto 9 SH jI 16 [(0, .ref b), (1, .ref a1), (2, .int c4)] [] s5 (L_X2_readInto_16 b a1 K n c4 s5) := by
  intro n
  induction n with
  | zero => intros; exact v_none
  | succ n ih => intro c4 s5; exact wB_X2_readInto_16 b a1 h ha1 _ ih K hK c4 s5
set_option maxHeartbeats 4000000 in
set_option maxRecDepth 100000 in
theorem w_X2_readInto {SH : SHT} (b : Nat) (a1 : Nat) (h : isTape SH b) (ha1 : isMoor SH a1) (s0 : St) : VF mX2_readInto 9 SH jI 0 [(0, .ref b), (1, .ref a1)] [] s0 (f_X2_readInto b a1 s0) := by
  unfold f_X2_readInto
  refine v_aload_n dX2_readInto_0 rfl rfl ?_
  refine v_iconst (v := 0) dX2_readInto_1 (by decide +kernel) ?_
  refine v_puti dX2_readInto_2 kp_X2_19 h.1 rfl rfl rfl (v_st fun s1 => ?_)
  refine v_aload_n dX2_readInto_5 rfl rfl ?_
  refine v_iconst (v := -1) dX2_readInto_6 (by decide +kernel) ?_
  refine v_puti dX2_readInto_7 kp_X2_22 h.1 rfl rfl rfl (v_st fun s2 => ?_)
  refine v_aload_n dX2_readInto_10 rfl rfl ?_
  refine v_cw (fun z hz => runV (as := []) dX2_readInto_11 kv_X2_25 rfl rfl (Nat.le_of_ble_eq_true rfl) (Nat.le_of_ble_eq_true rfl) (recvW h.1 rfl rfl) (ct_X2_skipBlanks _ h _) hz) (fun s3 => ?_)
  refine v_iconst (v := 0) dX2_readInto_14 (by decide +kernel) ?_
  refine v_istore_n (L' := [(2, .int (0 : Int32)), (0, .ref b), (1, .ref a1)]) dX2_readInto_15 rfl (by decide) rfl ?_
  refine v_pick [1, 2, 0] rfl (wL_X2_readInto_16 b a1 h ha1 _ (fun s6 => ?_) FU _ _)
  refine v_aload_n dX2_readInto_62 rfl rfl ?_
  refine v_geti dX2_readInto_63 kf_X2_22 h.1 rfl ?_
  exact v_ret (ty := .int) dX2_readInto_66 rfl rfl rfl
theorem ct_X2_readInto {SH : SHT} (b : Nat) (a1 : Nat) (h : isTape SH b) (ha1 : isMoor SH a1) (s0 : St) : CT yX2_readInto mX2_readInto 9 SH jI [.ref b, .ref a1] s0 (f_X2_readInto b a1 s0) := CT.of (by decide +kernel) rfl (fun E => Nat.le_of_ble_eq_true rfl) (w_X2_readInto b a1 h ha1 s0)
set_option maxHeartbeats 4000000 in
set_option maxRecDepth 100000 in
theorem w_X3_feed {SH : SHT} (b : Nat) (a1 : Int64) (a3 : Int32) (h : isOaths SH b) (s0 : St) : VF mX3_feed 1 SH jI 0 [(0, .ref b), (1, .long a1), (3, .int a3)] [] s0 (f_X3_feed b a1 a3 s0) := by
  unfold f_X3_feed
  refine v_iload_n dX3_feed_0 rfl rfl ?_
  refine v_iconst (v := 1) dX3_feed_1 (by decide +kernel) ?_
  refine v_icmp_lt (tgt := 11) dX3_feed_2 (by decide) (fun _ => ?_) (fun _ => ?_)
  · skip
    refine v_iconst (v := -1) dX3_feed_11 (by decide +kernel) ?_
    exact v_ret (ty := .int) dX3_feed_12 rfl rfl rfl
  refine v_iload_n dX3_feed_5 rfl rfl ?_
  refine v_bipush (v := 8) dX3_feed_6 (by decide +kernel) ?_
  refine v_icmp_le (tgt := 13) dX3_feed_8 (by decide) (fun _ => ?_) (fun _ => ?_)
  · skip
    refine v_aload_n dX3_feed_13 rfl rfl ?_
    refine v_getr dX3_feed_14 kf_X3_25 h.1 rfl ?_
    refine v_lload_n dX3_feed_17 rfl rfl ?_
    refine v_iload_n dX3_feed_18 rfl rfl ?_
    refine v_cbI (fun z hz => runV (as := [.long a1, .int a3]) dX3_feed_19 kv_X3_62 rfl rfl (Nat.le_of_ble_eq_true rfl) (Nat.le_of_ble_eq_true rfl) (recvW h.2.2.2.2.1.1 rfl rfl) (ct_X2_takes _ _ _ h.2.2.2.2.1 _) hz) (fun x2 s1 => ?_)
    refine v_if_eq (tgt := 35) dX3_feed_22 (by decide) (fun _ => ?_) (fun _ => ?_)
    · skip
      refine v_bipush (v := -2) dX3_feed_35 (by decide +kernel) ?_
      exact v_ret (ty := .int) dX3_feed_37 rfl rfl rfl
    refine v_aload_n dX3_feed_25 rfl rfl ?_
    refine v_getr dX3_feed_26 kf_X3_25 h.1 rfl ?_
    refine v_geti dX3_feed_29 kf_X3_66 h.2.2.2.2.1.1 rfl ?_
    refine v_goto (tgt := 37) dX3_feed_32 (by decide) ?_
    exact v_ret (ty := .int) dX3_feed_37 rfl rfl rfl
  refine v_iconst (v := -1) dX3_feed_11 (by decide +kernel) ?_
  exact v_ret (ty := .int) dX3_feed_12 rfl rfl rfl
theorem ct_X3_feed {SH : SHT} (b : Nat) (a1 : Int64) (a3 : Int32) (h : isOaths SH b) (s0 : St) : CT yX3_feed mX3_feed 1 SH jI [.ref b, .long a1, .int a3] s0 (f_X3_feed b a1 a3 s0) := CT.of (by decide +kernel) rfl (fun E => Nat.le_of_ble_eq_true rfl) (w_X3_feed b a1 a3 h s0)
set_option maxHeartbeats 4000000 in
set_option maxRecDepth 100000 in
theorem w_X3_moor {SH : SHT} (b : Nat) (h : isOaths SH b) (s0 : St) : VF mX3_moor 10 SH jI 0 [(0, .ref b)] [] s0 (f_X3_moor b s0) := by
  unfold f_X3_moor
  refine v_aload_n dX3_moor_0 rfl rfl ?_
  refine v_getr dX3_moor_1 kf_X3_16 h.1 rfl ?_
  refine v_cw (fun z hz => runV (as := []) dX3_moor_4 kv_X3_70 rfl rfl (Nat.le_of_ble_eq_true rfl) (Nat.le_of_ble_eq_true rfl) (recvW h.2.2.1.1 rfl rfl) (ct_X1_clear _ h.2.2.1 _) hz) (fun s1 => ?_)
  refine v_aload_n dX3_moor_7 rfl rfl ?_
  refine v_getr dX3_moor_8 kf_X3_25 h.1 rfl ?_
  refine v_aload_n dX3_moor_11 rfl rfl ?_
  refine v_getr dX3_moor_12 kf_X3_16 h.1 rfl ?_
  refine v_cbI (fun z hz => runV (as := [.ref (b + 10)]) dX3_moor_15 kv_X3_73 rfl rfl (Nat.le_of_ble_eq_true rfl) (Nat.le_of_ble_eq_true rfl) (recvW h.2.2.2.2.1.1 rfl rfl) (ct_X2_readInto _ _ h.2.2.2.2.1 h.2.2.1 _) hz) (fun x3 s2 => ?_)
  refine v_istore_n (L' := [(1, .int x3), (0, .ref b)]) dX3_moor_18 rfl (by decide) rfl ?_
  refine v_aload_n dX3_moor_19 rfl rfl ?_
  refine v_getr dX3_moor_20 kf_X3_25 h.1 rfl ?_
  refine v_iconst (v := 0) dX3_moor_23 (by decide +kernel) ?_
  refine v_puti dX3_moor_24 kp_X3_66 h.2.2.2.2.1.1 rfl rfl rfl (v_st fun s4 => ?_)
  refine v_iload_n dX3_moor_27 rfl rfl ?_
  refine v_if_lt (tgt := 36) dX3_moor_28 (by decide) (fun _ => ?_) (fun _ => ?_)
  · skip
    refine v_aload_n dX3_moor_36 rfl rfl ?_
    refine v_getr dX3_moor_37 kf_X3_16 h.1 rfl ?_
    refine v_aload_n dX3_moor_40 rfl rfl ?_
    refine v_getr dX3_moor_41 kf_X3_10 h.1 rfl ?_
    refine v_geti dX3_moor_44 kf_X3_77 h.2.1.1 rfl ?_
    refine v_puti dX3_moor_47 kp_X3_77 h.2.2.1.1 rfl rfl rfl (v_st fun s5 => ?_)
    refine v_aload_n dX3_moor_50 rfl rfl ?_
    refine v_getr dX3_moor_51 kf_X3_10 h.1 rfl ?_
    refine v_aload_n dX3_moor_54 rfl rfl ?_
    refine v_getr dX3_moor_55 kf_X3_16 h.1 rfl ?_
    refine v_cw (fun z hz => runV (as := [.ref (b + 10)]) dX3_moor_58 kv_X3_80 rfl rfl (Nat.le_of_ble_eq_true rfl) (Nat.le_of_ble_eq_true rfl) (recvW h.2.1.1 rfl rfl) (ct_X1_become _ _ h.2.1 h.2.2.1 _) hz) (fun s6 => ?_)
    refine v_aload_n dX3_moor_61 rfl rfl ?_
    refine v_iconst (v := 0) dX3_moor_62 (by decide +kernel) ?_
    refine v_puti dX3_moor_63 kp_X3_84 h.1 rfl rfl rfl (v_st fun s7 => ?_)
    refine v_aload_n dX3_moor_66 rfl rfl ?_
    refine v_getr dX3_moor_67 kf_X3_10 h.1 rfl ?_
    refine v_geti dX3_moor_70 kf_X3_87 h.2.1.1 rfl ?_
    exact v_ret (ty := .int) dX3_moor_73 rfl rfl rfl
  refine v_bipush (v := -100) dX3_moor_31 (by decide +kernel) ?_
  refine v_iload_n dX3_moor_33 rfl rfl ?_
  refine v_isub dX3_moor_34 ?_
  exact v_ret (ty := .int) dX3_moor_35 rfl rfl rfl
theorem ct_X3_moor {SH : SHT} (b : Nat) (h : isOaths SH b) (s0 : St) : CT yX3_moor mX3_moor 10 SH jI [.ref b] s0 (f_X3_moor b s0) := CT.of (by decide +kernel) rfl (fun E => Nat.le_of_ble_eq_true rfl) (w_X3_moor b h s0)
set_option maxHeartbeats 4000000 in
set_option maxRecDepth 100000 in
theorem w_X3_isLaw {SH : SHT} (a0 : Int32) (s0 : St) : VF mX3_isLaw 0 SH (jP s0) 0 [(0, .int a0)] [] s0 (f_X3_isLaw a0) := by
  unfold f_X3_isLaw
  refine v_iload_n dX3_isLaw_0 rfl rfl ?_
  refine v_if_lt (tgt := 13) dX3_isLaw_1 (by decide) (fun _ => ?_) (fun _ => ?_)
  · skip
    refine v_iconst (v := 0) dX3_isLaw_13 (by decide +kernel) ?_
    exact v_ret (ty := .boolean) dX3_isLaw_14 rfl rfl (by decide +kernel)
  refine v_iload_n dX3_isLaw_4 rfl rfl ?_
  refine v_iconst (v := 4) dX3_isLaw_5 (by decide +kernel) ?_
  refine v_icmp_ge (tgt := 13) dX3_isLaw_6 (by decide) (fun _ => ?_) (fun _ => ?_)
  · skip
    refine v_iconst (v := 0) dX3_isLaw_13 (by decide +kernel) ?_
    exact v_ret (ty := .boolean) dX3_isLaw_14 rfl rfl (by decide +kernel)
  refine v_iconst (v := 1) dX3_isLaw_9 (by decide +kernel) ?_
  refine v_goto (tgt := 14) dX3_isLaw_10 (by decide) ?_
  exact v_ret (ty := .boolean) dX3_isLaw_14 rfl rfl (by decide +kernel)
theorem ct_X3_isLaw {SH : SHT} (a0 : Int32) (s0 : St) : CT yX3_isLaw mX3_isLaw 0 SH (jP s0) [.int a0] s0 (f_X3_isLaw a0) := CT.of (by decide +kernel) rfl (fun E => Nat.le_of_ble_eq_true rfl) (w_X3_isLaw a0  s0)
set_option maxHeartbeats 4000000 in
set_option maxRecDepth 100000 in
theorem w_X3_isWithin {SH : SHT} (a0 : Int32) (a1 : Int32) (s0 : St) : VF mX3_isWithin 0 SH (jP s0) 0 [(0, .int a0), (1, .int a1)] [] s0 (f_X3_isWithin a0 a1) := by
  unfold f_X3_isWithin
  refine v_iload_n dX3_isWithin_0 rfl rfl ?_
  refine v_if_lt (tgt := 13) dX3_isWithin_1 (by decide) (fun _ => ?_) (fun _ => ?_)
  · skip
    refine v_iconst (v := 0) dX3_isWithin_13 (by decide +kernel) ?_
    exact v_ret (ty := .boolean) dX3_isWithin_14 rfl rfl (by decide +kernel)
  refine v_iload_n dX3_isWithin_4 rfl rfl ?_
  refine v_iload_n dX3_isWithin_5 rfl rfl ?_
  refine v_icmp_gt (tgt := 13) dX3_isWithin_6 (by decide) (fun _ => ?_) (fun _ => ?_)
  · skip
    refine v_iconst (v := 0) dX3_isWithin_13 (by decide +kernel) ?_
    exact v_ret (ty := .boolean) dX3_isWithin_14 rfl rfl (by decide +kernel)
  refine v_iconst (v := 1) dX3_isWithin_9 (by decide +kernel) ?_
  refine v_goto (tgt := 14) dX3_isWithin_10 (by decide) ?_
  exact v_ret (ty := .boolean) dX3_isWithin_14 rfl rfl (by decide +kernel)
theorem ct_X3_isWithin {SH : SHT} (a0 : Int32) (a1 : Int32) (s0 : St) : CT yX3_isWithin mX3_isWithin 0 SH (jP s0) [.int a0, .int a1] s0 (f_X3_isWithin a0 a1) := CT.of (by decide +kernel) rfl (fun E => Nat.le_of_ble_eq_true rfl) (w_X3_isWithin a0 a1  s0)
set_option maxHeartbeats 4000000 in
set_option maxRecDepth 100000 in
theorem w_X3_set {SH : SHT} (b : Nat) (a1 : Int32) (a2 : Int32) (h : isOaths SH b) (s0 : St) : VF mX3_set 1 SH jI 0 [(0, .ref b), (1, .int a1), (2, .int a2)] [] s0 (f_X3_set b a1 a2 s0) := by
  unfold f_X3_set
  refine v_iload_n dX3_set_0 rfl rfl ?_
  refine v_cpI (fun z hz => runT (as := [.int a1]) dX3_set_1 kt_X3_90 rfl rfl (Nat.le_of_ble_eq_true rfl) (Nat.le_of_ble_eq_true rfl) (ct_X3_isLaw _  _) hz) (fun x1 => ?_)
  refine v_if_eq (tgt := 19) dX3_set_4 (by decide) (fun _ => ?_) (fun _ => ?_)
  · skip
    refine v_iconst (v := -1) dX3_set_19 (by decide +kernel) ?_
    exact v_ret (ty := .int) dX3_set_20 rfl rfl rfl
  refine v_iload_n dX3_set_7 rfl rfl ?_
  refine v_gets dX3_set_8 ks_X3_94 ?_
  refine v_iload_n dX3_set_11 rfl rfl ?_
  refine v_gd (fun g2 => ?_)
  refine v_tald (i := 1) dX3_set_12 rfl (by decide) g2 rfl ?_
  refine v_cpI (fun z hz => runT (as := [.int a2, .int (stV 1 (ix a1))]) dX3_set_13 kt_X3_97 rfl rfl (Nat.le_of_ble_eq_true rfl) (Nat.le_of_ble_eq_true rfl) (ct_X3_isWithin _ _  _) hz) (fun x3 => ?_)
  refine v_if_ne (tgt := 21) dX3_set_16 (by decide) (fun _ => ?_) (fun _ => ?_)
  · skip
    refine v_aload_n dX3_set_21 rfl rfl ?_
    refine v_getr dX3_set_22 kf_X3_10 h.1 rfl ?_
    refine v_getr dX3_set_25 kf_X3_101 h.2.1.1 rfl ?_
    refine v_iload_n dX3_set_28 rfl rfl ?_
    refine v_gd (fun g4 => ?_)
    refine v_iald dX3_set_29 h.2.1.2.1 g4 rfl ?_
    refine v_topi (fun x5 => ?_)
    refine v_istore_n (L' := [(3, .int x5), (0, .ref b), (1, .int a1), (2, .int a2)]) dX3_set_30 rfl (by decide) rfl ?_
    refine v_aload_n dX3_set_31 rfl rfl ?_
    refine v_getr dX3_set_32 kf_X3_10 h.1 rfl ?_
    refine v_getr dX3_set_35 kf_X3_101 h.2.1.1 rfl ?_
    refine v_iload_n dX3_set_38 rfl rfl ?_
    refine v_iload_n dX3_set_39 rfl rfl ?_
    refine v_gd (fun g6 => ?_)
    refine v_iast dX3_set_40 h.2.1.2.1 g6 rfl (v_st fun s7 => ?_)
    refine v_iload_n dX3_set_41 rfl rfl ?_
    exact v_ret (ty := .int) dX3_set_42 rfl rfl rfl
  refine v_iconst (v := -1) dX3_set_19 (by decide +kernel) ?_
  exact v_ret (ty := .int) dX3_set_20 rfl rfl rfl
theorem ct_X3_set {SH : SHT} (b : Nat) (a1 : Int32) (a2 : Int32) (h : isOaths SH b) (s0 : St) : CT yX3_set mX3_set 1 SH jI [.ref b, .int a1, .int a2] s0 (f_X3_set b a1 a2 s0) := CT.of (by decide +kernel) rfl (fun E => Nat.le_of_ble_eq_true rfl) (w_X3_set b a1 a2 h s0)
set_option maxHeartbeats 4000000 in
set_option maxRecDepth 100000 in
theorem w_X3_lawOf {SH : SHT} (b : Nat) (a1 : Int32) (h : isOaths SH b) (s0 : St) : VF mX3_lawOf 1 SH (jP s0) 0 [(0, .ref b), (1, .int a1)] [] s0 (f_X3_lawOf b a1 s0) := by
  unfold f_X3_lawOf
  refine v_iload_n dX3_lawOf_0 rfl rfl ?_
  refine v_cpI (fun z hz => runT (as := [.int a1]) dX3_lawOf_1 kt_X3_90 rfl rfl (Nat.le_of_ble_eq_true rfl) (Nat.le_of_ble_eq_true rfl) (ct_X3_isLaw _  _) hz) (fun x1 => ?_)
  refine v_if_eq (tgt := 19) dX3_lawOf_4 (by decide) (fun _ => ?_) (fun _ => ?_)
  · skip
    refine v_iconst (v := -1) dX3_lawOf_19 (by decide +kernel) ?_
    exact v_ret (ty := .int) dX3_lawOf_20 rfl rfl rfl
  refine v_aload_n dX3_lawOf_7 rfl rfl ?_
  refine v_getr dX3_lawOf_8 kf_X3_10 h.1 rfl ?_
  refine v_getr dX3_lawOf_11 kf_X3_101 h.2.1.1 rfl ?_
  refine v_iload_n dX3_lawOf_14 rfl rfl ?_
  refine v_gd (fun g2 => ?_)
  refine v_iald dX3_lawOf_15 h.2.1.2.1 g2 rfl ?_
  refine v_goto (tgt := 20) dX3_lawOf_16 (by decide) ?_
  exact v_ret (ty := .int) dX3_lawOf_20 rfl rfl rfl
theorem ct_X3_lawOf {SH : SHT} (b : Nat) (a1 : Int32) (h : isOaths SH b) (s0 : St) : CT yX3_lawOf mX3_lawOf 1 SH (jP s0) [.ref b, .int a1] s0 (f_X3_lawOf b a1 s0) := CT.of (by decide +kernel) rfl (fun E => Nat.le_of_ble_eq_true rfl) (w_X3_lawOf b a1 h s0)
set_option maxHeartbeats 4000000 in
set_option maxRecDepth 100000 in
theorem w_X3_isKind {SH : SHT} (a0 : Int32) (s0 : St) : VF mX3_isKind 0 SH (jP s0) 0 [(0, .int a0)] [] s0 (f_X3_isKind a0) := by
  unfold f_X3_isKind
  refine v_iload_n dX3_isKind_0 rfl rfl ?_
  refine v_if_lt (tgt := 14) dX3_isKind_1 (by decide) (fun _ => ?_) (fun _ => ?_)
  · skip
    refine v_iconst (v := 0) dX3_isKind_14 (by decide +kernel) ?_
    exact v_ret (ty := .boolean) dX3_isKind_15 rfl rfl (by decide +kernel)
  refine v_iload_n dX3_isKind_4 rfl rfl ?_
  refine v_bipush (v := 6) dX3_isKind_5 (by decide +kernel) ?_
  refine v_icmp_ge (tgt := 14) dX3_isKind_7 (by decide) (fun _ => ?_) (fun _ => ?_)
  · skip
    refine v_iconst (v := 0) dX3_isKind_14 (by decide +kernel) ?_
    exact v_ret (ty := .boolean) dX3_isKind_15 rfl rfl (by decide +kernel)
  refine v_iconst (v := 1) dX3_isKind_10 (by decide +kernel) ?_
  refine v_goto (tgt := 15) dX3_isKind_11 (by decide) ?_
  exact v_ret (ty := .boolean) dX3_isKind_15 rfl rfl (by decide +kernel)
theorem ct_X3_isKind {SH : SHT} (a0 : Int32) (s0 : St) : CT yX3_isKind mX3_isKind 0 SH (jP s0) [.int a0] s0 (f_X3_isKind a0) := CT.of (by decide +kernel) rfl (fun E => Nat.le_of_ble_eq_true rfl) (w_X3_isKind a0  s0)
set_option maxHeartbeats 4000000 in
set_option maxRecDepth 100000 in
theorem w_X3_isCell {SH : SHT} (a0 : Int32) (s0 : St) : VF mX3_isCell 0 SH (jP s0) 0 [(0, .int a0)] [] s0 (f_X3_isCell a0) := by
  unfold f_X3_isCell
  refine v_iload_n dX3_isCell_0 rfl rfl ?_
  refine v_if_lt (tgt := 14) dX3_isCell_1 (by decide) (fun _ => ?_) (fun _ => ?_)
  · skip
    refine v_iconst (v := 0) dX3_isCell_14 (by decide +kernel) ?_
    exact v_ret (ty := .boolean) dX3_isCell_15 rfl rfl (by decide +kernel)
  refine v_iload_n dX3_isCell_4 rfl rfl ?_
  refine v_bipush (v := 32) dX3_isCell_5 (by decide +kernel) ?_
  refine v_icmp_ge (tgt := 14) dX3_isCell_7 (by decide) (fun _ => ?_) (fun _ => ?_)
  · skip
    refine v_iconst (v := 0) dX3_isCell_14 (by decide +kernel) ?_
    exact v_ret (ty := .boolean) dX3_isCell_15 rfl rfl (by decide +kernel)
  refine v_iconst (v := 1) dX3_isCell_10 (by decide +kernel) ?_
  refine v_goto (tgt := 15) dX3_isCell_11 (by decide) ?_
  exact v_ret (ty := .boolean) dX3_isCell_15 rfl rfl (by decide +kernel)
theorem ct_X3_isCell {SH : SHT} (a0 : Int32) (s0 : St) : CT yX3_isCell mX3_isCell 0 SH (jP s0) [.int a0] s0 (f_X3_isCell a0) := CT.of (by decide +kernel) rfl (fun E => Nat.le_of_ble_eq_true rfl) (w_X3_isCell a0  s0)
set_option maxHeartbeats 4000000 in
set_option maxRecDepth 100000 in
theorem w_X3_person {SH : SHT} (b : Nat) (a1 : Int32) (a2 : Int32) (a3 : Int32) (a4 : Int32) (h : isOaths SH b) (s0 : St) : VF mX3_person 1 SH jI 0 [(0, .ref b), (1, .int a1), (2, .int a2), (3, .int a3), (4, .int a4)] [] s0 (f_X3_person b a1 a2 a3 a4 s0) := by
  unfold f_X3_person
  refine v_iload_n dX3_person_0 rfl rfl ?_
  refine v_cpI (fun z hz => runT (as := [.int a1]) dX3_person_1 kt_X3_104 rfl rfl (Nat.le_of_ble_eq_true rfl) (Nat.le_of_ble_eq_true rfl) (ct_X3_isKind _  _) hz) (fun x1 => ?_)
  refine v_if_eq (tgt := 33) dX3_person_4 (by decide) (fun _ => ?_) (fun _ => ?_)
  · skip
    refine v_iconst (v := -1) dX3_person_33 (by decide +kernel) ?_
    exact v_ret (ty := .int) dX3_person_34 rfl rfl rfl
  refine v_iload_n dX3_person_7 rfl rfl ?_
  refine v_bipush (v := 9) dX3_person_8 (by decide +kernel) ?_
  refine v_cpI (fun z hz => runT (as := [.int a2, .int (9 : Int32)]) dX3_person_10 kt_X3_97 rfl rfl (Nat.le_of_ble_eq_true rfl) (Nat.le_of_ble_eq_true rfl) (ct_X3_isWithin _ _  _) hz) (fun x2 => ?_)
  refine v_if_eq (tgt := 33) dX3_person_13 (by decide) (fun _ => ?_) (fun _ => ?_)
  · skip
    refine v_iconst (v := -1) dX3_person_33 (by decide +kernel) ?_
    exact v_ret (ty := .int) dX3_person_34 rfl rfl rfl
  refine v_iload_n dX3_person_16 rfl rfl ?_
  refine v_bipush (v := 99) dX3_person_17 (by decide +kernel) ?_
  refine v_cpI (fun z hz => runT (as := [.int a3, .int (99 : Int32)]) dX3_person_19 kt_X3_97 rfl rfl (Nat.le_of_ble_eq_true rfl) (Nat.le_of_ble_eq_true rfl) (ct_X3_isWithin _ _  _) hz) (fun x3 => ?_)
  refine v_if_eq (tgt := 33) dX3_person_22 (by decide) (fun _ => ?_) (fun _ => ?_)
  · skip
    refine v_iconst (v := -1) dX3_person_33 (by decide +kernel) ?_
    exact v_ret (ty := .int) dX3_person_34 rfl rfl rfl
  refine v_iload dX3_person_25 rfl ?_
  refine v_cpI (fun z hz => runT (as := [.int a4]) dX3_person_27 kt_X3_107 rfl rfl (Nat.le_of_ble_eq_true rfl) (Nat.le_of_ble_eq_true rfl) (ct_X3_isCell _  _) hz) (fun x4 => ?_)
  refine v_if_ne (tgt := 35) dX3_person_30 (by decide) (fun _ => ?_) (fun _ => ?_)
  · skip
    refine v_aload_n dX3_person_35 rfl rfl ?_
    refine v_getr dX3_person_36 kf_X3_10 h.1 rfl ?_
    refine v_geti dX3_person_39 kf_X3_87 h.2.1.1 rfl ?_
    refine v_bipush (v := 8) dX3_person_42 (by decide +kernel) ?_
    refine v_icmp_lt (tgt := 50) dX3_person_44 (by decide) (fun _ => ?_) (fun _ => ?_)
    · skip
      refine v_aload_n dX3_person_50 rfl rfl ?_
      refine v_getr dX3_person_51 kf_X3_10 h.1 rfl ?_
      refine v_iload_n dX3_person_54 rfl rfl ?_
      refine v_iload_n dX3_person_55 rfl rfl ?_
      refine v_iload_n dX3_person_56 rfl rfl ?_
      refine v_iload dX3_person_57 rfl ?_
      refine v_cbI (fun z hz => runV (as := [.int a1, .int a2, .int a3, .int a4]) dX3_person_59 kv_X3_110 rfl rfl (Nat.le_of_ble_eq_true rfl) (Nat.le_of_ble_eq_true rfl) (recvW h.2.1.1 rfl rfl) (ct_X1_comes _ _ _ _ _ h.2.1 _) hz) (fun x6 s5 => ?_)
      exact v_ret (ty := .int) dX3_person_62 rfl rfl rfl
    refine v_bipush (v := -2) dX3_person_47 (by decide +kernel) ?_
    exact v_ret (ty := .int) dX3_person_49 rfl rfl rfl
  refine v_iconst (v := -1) dX3_person_33 (by decide +kernel) ?_
  exact v_ret (ty := .int) dX3_person_34 rfl rfl rfl
theorem ct_X3_person {SH : SHT} (b : Nat) (a1 : Int32) (a2 : Int32) (a3 : Int32) (a4 : Int32) (h : isOaths SH b) (s0 : St) : CT yX3_person mX3_person 1 SH jI [.ref b, .int a1, .int a2, .int a3, .int a4] s0 (f_X3_person b a1 a2 a3 a4 s0) := CT.of (by decide +kernel) rfl (fun E => Nat.le_of_ble_eq_true rfl) (w_X3_person b a1 a2 a3 a4 h s0)
