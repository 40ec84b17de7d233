set_option maxHeartbeats 4000000 in
set_option maxRecDepth 100000 in
theorem w_X3_isPerson {SH : SHT} (b : Nat) (a1 : Int32) (h : isOaths SH b) (s0 : St) : VF mX3_isPerson 0 SH (jP s0) 0 [(0, .ref b), (1, .int a1)] [] s0 (f_X3_isPerson b a1 s0) := by
  unfold f_X3_isPerson
  refine v_iload_n dX3_isPerson_0 rfl rfl ?_
  refine v_if_lt (tgt := 19) dX3_isPerson_1 (by decide) (fun _ => ?_) (fun _ => ?_)
  · skip
    refine v_iconst (v := 0) dX3_isPerson_19 (by decide +kernel) ?_
    exact v_ret (ty := .boolean) dX3_isPerson_20 rfl rfl (by decide +kernel)
  refine v_iload_n dX3_isPerson_4 rfl rfl ?_
  refine v_aload_n dX3_isPerson_5 rfl rfl ?_
  refine v_getr dX3_isPerson_6 kf_X3_10 h.1 rfl ?_
  refine v_geti dX3_isPerson_9 kf_X3_87 h.2.1.1 rfl ?_
  refine v_icmp_ge (tgt := 19) dX3_isPerson_12 (by decide) (fun _ => ?_) (fun _ => ?_)
  · skip
    refine v_iconst (v := 0) dX3_isPerson_19 (by decide +kernel) ?_
    exact v_ret (ty := .boolean) dX3_isPerson_20 rfl rfl (by decide +kernel)
  refine v_iconst (v := 1) dX3_isPerson_15 (by decide +kernel) ?_
  refine v_goto (tgt := 20) dX3_isPerson_16 (by decide) ?_
  exact v_ret (ty := .boolean) dX3_isPerson_20 rfl rfl (by decide +kernel)
theorem ct_X3_isPerson {SH : SHT} (b : Nat) (a1 : Int32) (h : isOaths SH b) (s0 : St) : CT yX3_isPerson mX3_isPerson 0 SH (jP s0) [.ref b, .int a1] s0 (f_X3_isPerson b a1 s0) := CT.of (by decide +kernel) rfl (fun E => Nat.le_of_ble_eq_true rfl) (w_X3_isPerson b a1 h s0)
set_option maxHeartbeats 4000000 in
set_option maxRecDepth 100000 in
theorem w_X3_of {SH : SHT} (b : Nat) (a1 : Int32) (a2 : Int32) (h : isOaths SH b) (s0 : St) : VF mX3_of 3 SH (jP s0) 0 [(0, .ref b), (1, .int a1), (2, .int a2)] [] s0 (f_X3_of b a1 a2 s0) := by
  unfold f_X3_of
  refine v_aload_n dX3_of_0 rfl rfl ?_
  refine v_iload_n dX3_of_1 rfl rfl ?_
  refine v_cpI (fun z hz => runV (as := [.int a1]) dX3_of_2 kv_X3_114 rfl rfl (Nat.le_of_ble_eq_true rfl) (Nat.le_of_ble_eq_true rfl) (recvW h.1 rfl rfl) (ct_X3_isPerson _ _ h _) hz) (fun x1 => ?_)
  refine v_if_ne (tgt := 10) dX3_of_5 (by decide) (fun _ => ?_) (fun _ => ?_)
  · skip
    refine v_iload_n dX3_of_10 rfl rfl ?_
    refine v_tsw (cs := [(0, 56), (1, 66), (2, 76), (3, 86), (4, 96), (5, 105), (6, 114), (7, 131)]) (dt := 140) dX3_of_11 (by decide +kernel) (by decide) (by decide +kernel) ?_
    refine v_swc (fun _ => ?_) (fun _ => ?_)
    · skip
      refine v_aload_n dX3_of_56 rfl rfl ?_
      refine v_getr dX3_of_57 kf_X3_10 h.1 rfl ?_
      refine v_getr dX3_of_60 kf_X3_117 h.2.1.1 rfl ?_
      refine v_iload_n dX3_of_63 rfl rfl ?_
      refine v_gd (fun g2 => ?_)
      refine v_iald dX3_of_64 h.2.1.2.2.2.2.2.1 g2 rfl ?_
      exact v_ret (ty := .int) dX3_of_65 rfl rfl rfl
    refine v_swc (fun _ => ?_) (fun _ => ?_)
    · skip
      refine v_aload_n dX3_of_66 rfl rfl ?_
      refine v_getr dX3_of_67 kf_X3_10 h.1 rfl ?_
      refine v_getr dX3_of_70 kf_X3_120 h.2.1.1 rfl ?_
      refine v_iload_n dX3_of_73 rfl rfl ?_
      refine v_gd (fun g3 => ?_)
      refine v_iald dX3_of_74 h.2.1.2.2.2.2.2.2.1 g3 rfl ?_
      exact v_ret (ty := .int) dX3_of_75 rfl rfl rfl
    refine v_swc (fun _ => ?_) (fun _ => ?_)
    · skip
      refine v_aload_n dX3_of_76 rfl rfl ?_
      refine v_getr dX3_of_77 kf_X3_10 h.1 rfl ?_
      refine v_getr dX3_of_80 kf_X3_123 h.2.1.1 rfl ?_
      refine v_iload_n dX3_of_83 rfl rfl ?_
      refine v_gd (fun g4 => ?_)
      refine v_iald dX3_of_84 h.2.1.2.2.2.2.2.2.2.1 g4 rfl ?_
      exact v_ret (ty := .int) dX3_of_85 rfl rfl rfl
    refine v_swc (fun _ => ?_) (fun _ => ?_)
    · skip
      refine v_aload_n dX3_of_86 rfl rfl ?_
      refine v_getr dX3_of_87 kf_X3_10 h.1 rfl ?_
      refine v_getr dX3_of_90 kf_X3_126 h.2.1.1 rfl ?_
      refine v_iload_n dX3_of_93 rfl rfl ?_
      refine v_gd (fun g5 => ?_)
      refine v_iald dX3_of_94 h.2.1.2.2.2.2.2.2.2.2 g5 rfl ?_
      exact v_ret (ty := .int) dX3_of_95 rfl rfl rfl
    refine v_swc (fun _ => ?_) (fun _ => ?_)
    · skip
      refine v_aload_n dX3_of_96 rfl rfl ?_
      refine v_getr dX3_of_97 kf_X3_10 h.1 rfl ?_
      refine v_iload_n dX3_of_100 rfl rfl ?_
      refine v_cpI (fun z hz => runV (as := [.int a1]) dX3_of_101 kv_X3_129 rfl rfl (Nat.le_of_ble_eq_true rfl) (Nat.le_of_ble_eq_true rfl) (recvW h.2.1.1 rfl rfl) (ct_X1_welling _ _ h.2.1 _) hz) (fun x6 => ?_)
      exact v_ret (ty := .int) dX3_of_104 rfl rfl rfl
    refine v_swc (fun _ => ?_) (fun _ => ?_)
    · skip
      refine v_aload_n dX3_of_105 rfl rfl ?_
      refine v_getr dX3_of_106 kf_X3_10 h.1 rfl ?_
      refine v_iload_n dX3_of_109 rfl rfl ?_
      refine v_cpI (fun z hz => runV (as := [.int a1]) dX3_of_110 kv_X3_133 rfl rfl (Nat.le_of_ble_eq_true rfl) (Nat.le_of_ble_eq_true rfl) (recvW h.2.1.1 rfl rfl) (ct_X1_winning _ _ h.2.1 _) hz) (fun x7 => ?_)
      exact v_ret (ty := .int) dX3_of_113 rfl rfl rfl
    refine v_swc (fun _ => ?_) (fun _ => ?_)
    · skip
      refine v_aload_n dX3_of_114 rfl rfl ?_
      refine v_getr dX3_of_115 kf_X3_10 h.1 rfl ?_
      refine v_iload_n dX3_of_118 rfl rfl ?_
      refine v_cpI (fun z hz => runV (as := [.int a1]) dX3_of_119 kv_X3_136 rfl rfl (Nat.le_of_ble_eq_true rfl) (Nat.le_of_ble_eq_true rfl) (recvW h.2.1.1 rfl rfl) (ct_X1_isLost _ _ h.2.1 _) hz) (fun x8 => ?_)
      refine v_if_eq (tgt := 129) dX3_of_122 (by decide) (fun _ => ?_) (fun _ => ?_)
      · skip
        refine v_iconst (v := 0) dX3_of_129 (by decide +kernel) ?_
        exact v_ret (ty := .int) dX3_of_130 rfl rfl rfl
      refine v_iconst (v := 1) dX3_of_125 (by decide +kernel) ?_
      refine v_goto (tgt := 130) dX3_of_126 (by decide) ?_
      exact v_ret (ty := .int) dX3_of_130 rfl rfl rfl
    refine v_swc (fun _ => ?_) (fun _ => ?_)
    · skip
      refine v_aload_n dX3_of_131 rfl rfl ?_
      refine v_getr dX3_of_132 kf_X3_10 h.1 rfl ?_
      refine v_iload_n dX3_of_135 rfl rfl ?_
      refine v_cpI (fun z hz => runV (as := [.int a1]) dX3_of_136 kv_X3_139 rfl rfl (Nat.le_of_ble_eq_true rfl) (Nat.le_of_ble_eq_true rfl) (recvW h.2.1.1 rfl rfl) (ct_X1_opponents _ _ h.2.1 _) hz) (fun x9 => ?_)
      exact v_ret (ty := .int) dX3_of_139 rfl rfl rfl
    refine v_swn ?_
    refine v_iconst (v := -1) dX3_of_140 (by decide +kernel) ?_
    exact v_ret (ty := .int) dX3_of_141 rfl rfl rfl
  refine v_iconst (v := -1) dX3_of_8 (by decide +kernel) ?_
  exact v_ret (ty := .int) dX3_of_9 rfl rfl rfl
theorem ct_X3_of {SH : SHT} (b : Nat) (a1 : Int32) (a2 : Int32) (h : isOaths SH b) (s0 : St) : CT yX3_of mX3_of 3 SH (jP s0) [.ref b, .int a1, .int a2] s0 (f_X3_of b a1 a2 s0) := CT.of (by decide +kernel) rfl (fun E => Nat.le_of_ble_eq_true rfl) (w_X3_of b a1 a2 h s0)
set_option maxHeartbeats 4000000 in
set_option maxRecDepth 100000 in
theorem w_X3_loses {SH : SHT} (b : Nat) (a1 : Int32) (h : isOaths SH b) (s0 : St) : VF mX3_loses 1 SH (jP s0) 0 [(0, .ref b), (1, .int a1)] [] s0 (f_X3_loses b a1 s0) := by
  unfold f_X3_loses
  refine v_aload_n dX3_loses_0 rfl rfl ?_
  refine v_iload_n dX3_loses_1 rfl rfl ?_
  refine v_cpI (fun z hz => runV (as := [.int a1]) dX3_loses_2 kv_X3_114 rfl rfl (Nat.le_of_ble_eq_true rfl) (Nat.le_of_ble_eq_true rfl) (recvW h.1 rfl rfl) (ct_X3_isPerson _ _ h _) hz) (fun x1 => ?_)
  refine v_if_eq (tgt := 23) dX3_loses_5 (by decide) (fun _ => ?_) (fun _ => ?_)
  · skip
    refine v_iconst (v := -1) dX3_loses_23 (by decide +kernel) ?_
    exact v_ret (ty := .int) dX3_loses_24 rfl rfl rfl
  refine v_sipush (v := 1000) dX3_loses_8 (by decide +kernel) ?_
  refine v_aload_n dX3_loses_11 rfl rfl ?_
  refine v_getr dX3_loses_12 kf_X3_10 h.1 rfl ?_
  refine v_iload_n dX3_loses_15 rfl rfl ?_
  refine v_cpI (fun z hz => runV (as := [.int a1]) dX3_loses_16 kv_X3_142 rfl rfl (Nat.le_of_ble_eq_true rfl) (Nat.le_of_ble_eq_true rfl) (recvW h.2.1.1 rfl rfl) (ct_X1_losing _ _ h.2.1 _) hz) (fun x2 => ?_)
  refine v_iadd dX3_loses_19 ?_
  refine v_goto (tgt := 24) dX3_loses_20 (by decide) ?_
  exact v_ret (ty := .int) dX3_loses_24 rfl rfl rfl
theorem ct_X3_loses {SH : SHT} (b : Nat) (a1 : Int32) (h : isOaths SH b) (s0 : St) : CT yX3_loses mX3_loses 1 SH (jP s0) [.ref b, .int a1] s0 (f_X3_loses b a1 s0) := CT.of (by decide +kernel) rfl (fun E => Nat.le_of_ble_eq_true rfl) (w_X3_loses b a1 h s0)
set_option maxHeartbeats 4000000 in
set_option maxRecDepth 100000 in
theorem w_X3_mind {SH : SHT} (b : Nat) (a1 : Int32) (a2 : Int32) (a3 : Int32) (h : isOaths SH b) (s0 : St) : VF mX3_mind 1 SH jI 0 [(0, .ref b), (1, .int a1), (2, .int a2), (3, .int a3)] [] s0 (f_X3_mind b a1 a2 a3 s0) := by
  unfold f_X3_mind
  refine v_aload_n dX3_mind_0 rfl rfl ?_
  refine v_iload_n dX3_mind_1 rfl rfl ?_
  refine v_cpI (fun z hz => runV (as := [.int a1]) dX3_mind_2 kv_X3_114 rfl rfl (Nat.le_of_ble_eq_true rfl) (Nat.le_of_ble_eq_true rfl) (recvW h.1 rfl rfl) (ct_X3_isPerson _ _ h _) hz) (fun x1 => ?_)
  refine v_if_eq (tgt := 24) dX3_mind_5 (by decide) (fun _ => ?_) (fun _ => ?_)
  · skip
    refine v_iconst (v := -1) dX3_mind_24 (by decide +kernel) ?_
    exact v_ret (ty := .int) dX3_mind_25 rfl rfl rfl
  refine v_iload_n dX3_mind_8 rfl rfl ?_
  refine v_cpI (fun z hz => runT (as := [.int a2]) dX3_mind_9 kt_X3_104 rfl rfl (Nat.le_of_ble_eq_true rfl) (Nat.le_of_ble_eq_true rfl) (ct_X3_isKind _  _) hz) (fun x2 => ?_)
  refine v_if_eq (tgt := 24) dX3_mind_12 (by decide) (fun _ => ?_) (fun _ => ?_)
  · skip
    refine v_iconst (v := -1) dX3_mind_24 (by decide +kernel) ?_
    exact v_ret (ty := .int) dX3_mind_25 rfl rfl rfl
  refine v_iload_n dX3_mind_15 rfl rfl ?_
  refine v_bipush (v := 9) dX3_mind_16 (by decide +kernel) ?_
  refine v_cpI (fun z hz => runT (as := [.int a3, .int (9 : Int32)]) dX3_mind_18 kt_X3_97 rfl rfl (Nat.le_of_ble_eq_true rfl) (Nat.le_of_ble_eq_true rfl) (ct_X3_isWithin _ _  _) hz) (fun x3 => ?_)
  refine v_if_ne (tgt := 26) dX3_mind_21 (by decide) (fun _ => ?_) (fun _ => ?_)
  · skip
    refine v_aload_n dX3_mind_26 rfl rfl ?_
    refine v_getr dX3_mind_27 kf_X3_10 h.1 rfl ?_
    refine v_getr dX3_mind_30 kf_X3_117 h.2.1.1 rfl ?_
    refine v_iload_n dX3_mind_33 rfl rfl ?_
    refine v_gd (fun g4 => ?_)
    refine v_iald dX3_mind_34 h.2.1.2.2.2.2.2.1 g4 rfl ?_
    refine v_topi (fun x5 => ?_)
    refine v_istore (L' := [(4, .int x5), (0, .ref b), (1, .int a1), (2, .int a2), (3, .int a3)]) dX3_mind_35 (by decide) rfl ?_
    refine v_aload_n dX3_mind_37 rfl rfl ?_
    refine v_getr dX3_mind_38 kf_X3_10 h.1 rfl ?_
    refine v_getr dX3_mind_41 kf_X3_117 h.2.1.1 rfl ?_
    refine v_iload_n dX3_mind_44 rfl rfl ?_
    refine v_iload_n dX3_mind_45 rfl rfl ?_
    refine v_gd (fun g6 => ?_)
    refine v_iast dX3_mind_46 h.2.1.2.2.2.2.2.1 g6 rfl (v_st fun s7 => ?_)
    refine v_aload_n dX3_mind_47 rfl rfl ?_
    refine v_getr dX3_mind_48 kf_X3_10 h.1 rfl ?_
    refine v_getr dX3_mind_51 kf_X3_120 h.2.1.1 rfl ?_
    refine v_iload_n dX3_mind_54 rfl rfl ?_
    refine v_iload_n dX3_mind_55 rfl rfl ?_
    refine v_gd (fun g8 => ?_)
    refine v_iast dX3_mind_56 h.2.1.2.2.2.2.2.2.1 g8 rfl (v_st fun s9 => ?_)
    refine v_iload dX3_mind_57 rfl ?_
    exact v_ret (ty := .int) dX3_mind_59 rfl rfl rfl
  refine v_iconst (v := -1) dX3_mind_24 (by decide +kernel) ?_
  exact v_ret (ty := .int) dX3_mind_25 rfl rfl rfl
theorem ct_X3_mind {SH : SHT} (b : Nat) (a1 : Int32) (a2 : Int32) (a3 : Int32) (h : isOaths SH b) (s0 : St) : CT yX3_mind mX3_mind 1 SH jI [.ref b, .int a1, .int a2, .int a3] s0 (f_X3_mind b a1 a2 a3 s0) := CT.of (by decide +kernel) rfl (fun E => Nat.le_of_ble_eq_true rfl) (w_X3_mind b a1 a2 a3 h s0)
set_option maxHeartbeats 4000000 in
set_option maxRecDepth 100000 in
theorem w_X3_sure {SH : SHT} (b : Nat) (a1 : Int32) (a2 : Int32) (h : isOaths SH b) (s0 : St) : VF mX3_sure 1 SH jI 0 [(0, .ref b), (1, .int a1), (2, .int a2)] [] s0 (f_X3_sure b a1 a2 s0) := by
  unfold f_X3_sure
  refine v_aload_n dX3_sure_0 rfl rfl ?_
  refine v_iload_n dX3_sure_1 rfl rfl ?_
  refine v_cpI (fun z hz => runV (as := [.int a1]) dX3_sure_2 kv_X3_114 rfl rfl (Nat.le_of_ble_eq_true rfl) (Nat.le_of_ble_eq_true rfl) (recvW h.1 rfl rfl) (ct_X3_isPerson _ _ h _) hz) (fun x1 => ?_)
  refine v_if_eq (tgt := 17) dX3_sure_5 (by decide) (fun _ => ?_) (fun _ => ?_)
  · skip
    refine v_iconst (v := -1) dX3_sure_17 (by decide +kernel) ?_
    exact v_ret (ty := .int) dX3_sure_18 rfl rfl rfl
  refine v_iload_n dX3_sure_8 rfl rfl ?_
  refine v_bipush (v := 99) dX3_sure_9 (by decide +kernel) ?_
  refine v_cpI (fun z hz => runT (as := [.int a2, .int (99 : Int32)]) dX3_sure_11 kt_X3_97 rfl rfl (Nat.le_of_ble_eq_true rfl) (Nat.le_of_ble_eq_true rfl) (ct_X3_isWithin _ _  _) hz) (fun x2 => ?_)
  refine v_if_ne (tgt := 19) dX3_sure_14 (by decide) (fun _ => ?_) (fun _ => ?_)
  · skip
    refine v_aload_n dX3_sure_19 rfl rfl ?_
    refine v_getr dX3_sure_20 kf_X3_10 h.1 rfl ?_
    refine v_getr dX3_sure_23 kf_X3_123 h.2.1.1 rfl ?_
    refine v_iload_n dX3_sure_26 rfl rfl ?_
    refine v_gd (fun g3 => ?_)
    refine v_iald dX3_sure_27 h.2.1.2.2.2.2.2.2.2.1 g3 rfl ?_
    refine v_topi (fun x4 => ?_)
    refine v_istore_n (L' := [(3, .int x4), (0, .ref b), (1, .int a1), (2, .int a2)]) dX3_sure_28 rfl (by decide) rfl ?_
    refine v_aload_n dX3_sure_29 rfl rfl ?_
    refine v_getr dX3_sure_30 kf_X3_10 h.1 rfl ?_
    refine v_getr dX3_sure_33 kf_X3_123 h.2.1.1 rfl ?_
    refine v_iload_n dX3_sure_36 rfl rfl ?_
    refine v_iload_n dX3_sure_37 rfl rfl ?_
    refine v_gd (fun g5 => ?_)
    refine v_iast dX3_sure_38 h.2.1.2.2.2.2.2.2.2.1 g5 rfl (v_st fun s6 => ?_)
    refine v_iload_n dX3_sure_39 rfl rfl ?_
    exact v_ret (ty := .int) dX3_sure_40 rfl rfl rfl
  refine v_iconst (v := -1) dX3_sure_17 (by decide +kernel) ?_
  exact v_ret (ty := .int) dX3_sure_18 rfl rfl rfl
theorem ct_X3_sure {SH : SHT} (b : Nat) (a1 : Int32) (a2 : Int32) (h : isOaths SH b) (s0 : St) : CT yX3_sure mX3_sure 1 SH jI [.ref b, .int a1, .int a2] s0 (f_X3_sure b a1 a2 s0) := CT.of (by decide +kernel) rfl (fun E => Nat.le_of_ble_eq_true rfl) (w_X3_sure b a1 a2 h s0)
set_option maxHeartbeats 4000000 in
set_option maxRecDepth 100000 in
theorem w_X3_bring {SH : SHT} (b : Nat) (a1 : Int32) (a2 : Int32) (h : isOaths SH b) (s0 : St) : VF mX3_bring 1 SH jI 0 [(0, .ref b), (1, .int a1), (2, .int a2)] [] s0 (f_X3_bring b a1 a2 s0) := by
  unfold f_X3_bring
  refine v_aload_n dX3_bring_0 rfl rfl ?_
  refine v_iload_n dX3_bring_1 rfl rfl ?_
  refine v_cpI (fun z hz => runV (as := [.int a1]) dX3_bring_2 kv_X3_114 rfl rfl (Nat.le_of_ble_eq_true rfl) (Nat.le_of_ble_eq_true rfl) (recvW h.1 rfl rfl) (ct_X3_isPerson _ _ h _) hz) (fun x1 => ?_)
  refine v_if_eq (tgt := 15) dX3_bring_5 (by decide) (fun _ => ?_) (fun _ => ?_)
  · skip
    refine v_iconst (v := -1) dX3_bring_15 (by decide +kernel) ?_
    exact v_ret (ty := .int) dX3_bring_16 rfl rfl rfl
  refine v_iload_n dX3_bring_8 rfl rfl ?_
  refine v_cpI (fun z hz => runT (as := [.int a2]) dX3_bring_9 kt_X3_107 rfl rfl (Nat.le_of_ble_eq_true rfl) (Nat.le_of_ble_eq_true rfl) (ct_X3_isCell _  _) hz) (fun x2 => ?_)
  refine v_if_ne (tgt := 17) dX3_bring_12 (by decide) (fun _ => ?_) (fun _ => ?_)
  · skip
    refine v_aload_n dX3_bring_17 rfl rfl ?_
    refine v_getr dX3_bring_18 kf_X3_10 h.1 rfl ?_
    refine v_getr dX3_bring_21 kf_X3_126 h.2.1.1 rfl ?_
    refine v_iload_n dX3_bring_24 rfl rfl ?_
    refine v_gd (fun g3 => ?_)
    refine v_iald dX3_bring_25 h.2.1.2.2.2.2.2.2.2.2 g3 rfl ?_
    refine v_topi (fun x4 => ?_)
    refine v_istore_n (L' := [(3, .int x4), (0, .ref b), (1, .int a1), (2, .int a2)]) dX3_bring_26 rfl (by decide) rfl ?_
    refine v_aload_n dX3_bring_27 rfl rfl ?_
    refine v_getr dX3_bring_28 kf_X3_10 h.1 rfl ?_
    refine v_getr dX3_bring_31 kf_X3_126 h.2.1.1 rfl ?_
    refine v_iload_n dX3_bring_34 rfl rfl ?_
    refine v_iload_n dX3_bring_35 rfl rfl ?_
    refine v_gd (fun g5 => ?_)
    refine v_iast dX3_bring_36 h.2.1.2.2.2.2.2.2.2.2 g5 rfl (v_st fun s6 => ?_)
    refine v_iload_n dX3_bring_37 rfl rfl ?_
    exact v_ret (ty := .int) dX3_bring_38 rfl rfl rfl
  refine v_iconst (v := -1) dX3_bring_15 (by decide +kernel) ?_
  exact v_ret (ty := .int) dX3_bring_16 rfl rfl rfl
theorem ct_X3_bring {SH : SHT} (b : Nat) (a1 : Int32) (a2 : Int32) (h : isOaths SH b) (s0 : St) : CT yX3_bring mX3_bring 1 SH jI [.ref b, .int a1, .int a2] s0 (f_X3_bring b a1 a2 s0) := CT.of (by decide +kernel) rfl (fun E => Nat.le_of_ble_eq_true rfl) (w_X3_bring b a1 a2 h s0)
set_option maxHeartbeats 4000000 in
set_option maxRecDepth 100000 in
theorem w_X3_cell {SH : SHT} (b : Nat) (a1 : Int32) (a2 : Int32) (h : isOaths SH b) (s0 : St) : VF mX3_cell 4 SH (jP s0) 0 [(0, .ref b), (1, .int a1), (2, .int a2)] [] s0 (f_X3_cell b a1 a2 s0) := by
  unfold f_X3_cell
  refine v_iload_n dX3_cell_0 rfl rfl ?_
  refine v_cpI (fun z hz => runT (as := [.int a1]) dX3_cell_1 kt_X3_107 rfl rfl (Nat.le_of_ble_eq_true rfl) (Nat.le_of_ble_eq_true rfl) (ct_X3_isCell _  _) hz) (fun x1 => ?_)
  refine v_if_ne (tgt := 9) dX3_cell_4 (by decide) (fun _ => ?_) (fun _ => ?_)
  · skip
    refine v_iload_n dX3_cell_9 rfl rfl ?_
    refine v_tsw (cs := [(0, 44), (1, 54), (2, 64), (3, 73), (4, 82)]) (dt := 91) dX3_cell_10 (by decide +kernel) (by decide) (by decide +kernel) ?_
    refine v_swc (fun _ => ?_) (fun _ => ?_)
    · skip
      refine v_aload_n dX3_cell_44 rfl rfl ?_
      refine v_getr dX3_cell_45 kf_X3_10 h.1 rfl ?_
      refine v_getr dX3_cell_48 kf_X3_145 h.2.1.1 rfl ?_
      refine v_iload_n dX3_cell_51 rfl rfl ?_
      refine v_gd (fun g2 => ?_)
      refine v_iald dX3_cell_52 h.2.1.2.2.2.1 g2 rfl ?_
      exact v_ret (ty := .int) dX3_cell_53 rfl rfl rfl
    refine v_swc (fun _ => ?_) (fun _ => ?_)
    · skip
      refine v_aload_n dX3_cell_54 rfl rfl ?_
      refine v_getr dX3_cell_55 kf_X3_10 h.1 rfl ?_
      refine v_getr dX3_cell_58 kf_X3_148 h.2.1.1 rfl ?_
      refine v_iload_n dX3_cell_61 rfl rfl ?_
      refine v_gd (fun g3 => ?_)
      refine v_iald dX3_cell_62 h.2.1.2.2.1 g3 rfl ?_
      exact v_ret (ty := .int) dX3_cell_63 rfl rfl rfl
    refine v_swc (fun _ => ?_) (fun _ => ?_)
    · skip
      refine v_aload_n dX3_cell_64 rfl rfl ?_
      refine v_getr dX3_cell_65 kf_X3_10 h.1 rfl ?_
      refine v_iload_n dX3_cell_68 rfl rfl ?_
      refine v_cpI (fun z hz => runV (as := [.int a1]) dX3_cell_69 kv_X3_151 rfl rfl (Nat.le_of_ble_eq_true rfl) (Nat.le_of_ble_eq_true rfl) (recvW h.2.1.1 rfl rfl) (ct_X1_peopleAt _ _ h.2.1 _) hz) (fun x4 => ?_)
      exact v_ret (ty := .int) dX3_cell_72 rfl rfl rfl
    refine v_swc (fun _ => ?_) (fun _ => ?_)
    · skip
      refine v_aload_n dX3_cell_73 rfl rfl ?_
      refine v_getr dX3_cell_74 kf_X3_10 h.1 rfl ?_
      refine v_iload_n dX3_cell_77 rfl rfl ?_
      refine v_cpI (fun z hz => runV (as := [.int a1]) dX3_cell_78 kv_X3_154 rfl rfl (Nat.le_of_ble_eq_true rfl) (Nat.le_of_ble_eq_true rfl) (recvW h.2.1.1 rfl rfl) (ct_X1_wellingAt _ _ h.2.1 _) hz) (fun x5 => ?_)
      exact v_ret (ty := .int) dX3_cell_81 rfl rfl rfl
    refine v_swc (fun _ => ?_) (fun _ => ?_)
    · skip
      refine v_aload_n dX3_cell_82 rfl rfl ?_
      refine v_getr dX3_cell_83 kf_X3_10 h.1 rfl ?_
      refine v_iload_n dX3_cell_86 rfl rfl ?_
      refine v_cpI (fun z hz => runV (as := [.int a1]) dX3_cell_87 kv_X3_157 rfl rfl (Nat.le_of_ble_eq_true rfl) (Nat.le_of_ble_eq_true rfl) (recvW h.2.1.1 rfl rfl) (ct_X1_disputesAt _ _ h.2.1 _) hz) (fun x6 => ?_)
      exact v_ret (ty := .int) dX3_cell_90 rfl rfl rfl
    refine v_swn ?_
    refine v_iconst (v := -1) dX3_cell_91 (by decide +kernel) ?_
    exact v_ret (ty := .int) dX3_cell_92 rfl rfl rfl
  refine v_iconst (v := -1) dX3_cell_7 (by decide +kernel) ?_
  exact v_ret (ty := .int) dX3_cell_8 rfl rfl rfl
theorem ct_X3_cell {SH : SHT} (b : Nat) (a1 : Int32) (a2 : Int32) (h : isOaths SH b) (s0 : St) : CT yX3_cell mX3_cell 4 SH (jP s0) [.ref b, .int a1, .int a2] s0 (f_X3_cell b a1 a2 s0) := CT.of (by decide +kernel) rfl (fun E => Nat.le_of_ble_eq_true rfl) (w_X3_cell b a1 a2 h s0)
set_option maxHeartbeats 4000000 in
set_option maxRecDepth 100000 in
theorem w_X3_lowest {SH : SHT} (b : Nat) (a1 : Int32) (h : isOaths SH b) (s0 : St) : VF mX3_lowest 1 SH (jP s0) 0 [(0, .ref b), (1, .int a1)] [] s0 (f_X3_lowest b a1 s0) := by
  unfold f_X3_lowest
  refine v_iload_n dX3_lowest_0 rfl rfl ?_
  refine v_cpI (fun z hz => runT (as := [.int a1]) dX3_lowest_1 kt_X3_107 rfl rfl (Nat.le_of_ble_eq_true rfl) (Nat.le_of_ble_eq_true rfl) (ct_X3_isCell _  _) hz) (fun x1 => ?_)
  refine v_if_ne (tgt := 9) dX3_lowest_4 (by decide) (fun _ => ?_) (fun _ => ?_)
  · skip
    refine v_aload_n dX3_lowest_9 rfl rfl ?_
    refine v_getr dX3_lowest_10 kf_X3_10 h.1 rfl ?_
    refine v_getr dX3_lowest_13 kf_X3_160 h.2.1.1 rfl ?_
    refine v_iload_n dX3_lowest_16 rfl rfl ?_
    refine v_gd (fun g2 => ?_)
    refine v_iald dX3_lowest_17 h.2.1.2.2.2.2.1 g2 rfl ?_
    refine v_if_ge (tgt := 26) dX3_lowest_18 (by decide) (fun _ => ?_) (fun _ => ?_)
    · skip
      refine v_aload_n dX3_lowest_26 rfl rfl ?_
      refine v_getr dX3_lowest_27 kf_X3_10 h.1 rfl ?_
      refine v_getr dX3_lowest_30 kf_X3_160 h.2.1.1 rfl ?_
      refine v_iload_n dX3_lowest_33 rfl rfl ?_
      refine v_gd (fun g3 => ?_)
      refine v_iald dX3_lowest_34 h.2.1.2.2.2.2.1 g3 rfl ?_
      exact v_ret (ty := .int) dX3_lowest_35 rfl rfl rfl
    refine v_bipush (v := -3) dX3_lowest_21 (by decide +kernel) ?_
    refine v_goto (tgt := 35) dX3_lowest_23 (by decide) ?_
    exact v_ret (ty := .int) dX3_lowest_35 rfl rfl rfl
  refine v_iconst (v := -1) dX3_lowest_7 (by decide +kernel) ?_
  exact v_ret (ty := .int) dX3_lowest_8 rfl rfl rfl
theorem ct_X3_lowest {SH : SHT} (b : Nat) (a1 : Int32) (h : isOaths SH b) (s0 : St) : CT yX3_lowest mX3_lowest 1 SH (jP s0) [.ref b, .int a1] s0 (f_X3_lowest b a1 s0) := CT.of (by decide +kernel) rfl (fun E => Nat.le_of_ble_eq_true rfl) (w_X3_lowest b a1 h s0)
set_option maxHeartbeats 4000000 in
set_option maxRecDepth 100000 in
theorem w_X3_water {SH : SHT} (b : Nat) (a1 : Int32) (a2 : Int32) (h : isOaths SH b) (s0 : St) : VF mX3_water 1 SH jI 0 [(0, .ref b), (1, .int a1), (2, .int a2)] [] s0 (f_X3_water b a1 a2 s0) := by
  unfold f_X3_water
  refine v_iload_n dX3_water_0 rfl rfl ?_
  refine v_cpI (fun z hz => runT (as := [.int a1]) dX3_water_1 kt_X3_107 rfl rfl (Nat.le_of_ble_eq_true rfl) (Nat.le_of_ble_eq_true rfl) (ct_X3_isCell _  _) hz) (fun x1 => ?_)
  refine v_if_eq (tgt := 16) dX3_water_4 (by decide) (fun _ => ?_) (fun _ => ?_)
  · skip
    refine v_iconst (v := -1) dX3_water_16 (by decide +kernel) ?_
    exact v_ret (ty := .int) dX3_water_17 rfl rfl rfl
  refine v_iload_n dX3_water_7 rfl rfl ?_
  refine v_bipush (v := 99) dX3_water_8 (by decide +kernel) ?_
  refine v_cpI (fun z hz => runT (as := [.int a2, .int (99 : Int32)]) dX3_water_10 kt_X3_97 rfl rfl (Nat.le_of_ble_eq_true rfl) (Nat.le_of_ble_eq_true rfl) (ct_X3_isWithin _ _  _) hz) (fun x2 => ?_)
  refine v_if_ne (tgt := 18) dX3_water_13 (by decide) (fun _ => ?_) (fun _ => ?_)
  · skip
    refine v_aload_n dX3_water_18 rfl rfl ?_
    refine v_getr dX3_water_19 kf_X3_10 h.1 rfl ?_
    refine v_getr dX3_water_22 kf_X3_145 h.2.1.1 rfl ?_
    refine v_iload_n dX3_water_25 rfl rfl ?_
    refine v_gd (fun g3 => ?_)
    refine v_iald dX3_water_26 h.2.1.2.2.2.1 g3 rfl ?_
    refine v_topi (fun x4 => ?_)
    refine v_istore_n (L' := [(3, .int x4), (0, .ref b), (1, .int a1), (2, .int a2)]) dX3_water_27 rfl (by decide) rfl ?_
    refine v_aload_n dX3_water_28 rfl rfl ?_
    refine v_getr dX3_water_29 kf_X3_10 h.1 rfl ?_
    refine v_getr dX3_water_32 kf_X3_145 h.2.1.1 rfl ?_
    refine v_iload_n dX3_water_35 rfl rfl ?_
    refine v_iload_n dX3_water_36 rfl rfl ?_
    refine v_gd (fun g5 => ?_)
    refine v_iast dX3_water_37 h.2.1.2.2.2.1 g5 rfl (v_st fun s6 => ?_)
    refine v_iload_n dX3_water_38 rfl rfl ?_
    exact v_ret (ty := .int) dX3_water_39 rfl rfl rfl
  refine v_iconst (v := -1) dX3_water_16 (by decide +kernel) ?_
  exact v_ret (ty := .int) dX3_water_17 rfl rfl rfl
theorem ct_X3_water {SH : SHT} (b : Nat) (a1 : Int32) (a2 : Int32) (h : isOaths SH b) (s0 : St) : CT yX3_water mX3_water 1 SH jI [.ref b, .int a1, .int a2] s0 (f_X3_water b a1 a2 s0) := CT.of (by decide +kernel) rfl (fun E => Nat.le_of_ble_eq_true rfl) (w_X3_water b a1 a2 h s0)
set_option maxHeartbeats 4000000 in
set_option maxRecDepth 100000 in
theorem w_X3_height {SH : SHT} (b : Nat) (a1 : Int32) (a2 : Int32) (h : isOaths SH b) (s0 : St) : VF mX3_height 3 SH jI 0 [(0, .ref b), (1, .int a1), (2, .int a2)] [] s0 (f_X3_height b a1 a2 s0) := by
  unfold f_X3_height
  refine v_iload_n dX3_height_0 rfl rfl ?_
  refine v_cpI (fun z hz => runT (as := [.int a1]) dX3_height_1 kt_X3_107 rfl rfl (Nat.le_of_ble_eq_true rfl) (Nat.le_of_ble_eq_true rfl) (ct_X3_isCell _  _) hz) (fun x1 => ?_)
  refine v_if_eq (tgt := 16) dX3_height_4 (by decide) (fun _ => ?_) (fun _ => ?_)
  · skip
    refine v_iconst (v := -1) dX3_height_16 (by decide +kernel) ?_
    exact v_ret (ty := .int) dX3_height_17 rfl rfl rfl
  refine v_iload_n dX3_height_7 rfl rfl ?_
  refine v_bipush (v := 9) dX3_height_8 (by decide +kernel) ?_
  refine v_cpI (fun z hz => runT (as := [.int a2, .int (9 : Int32)]) dX3_height_10 kt_X3_97 rfl rfl (Nat.le_of_ble_eq_true rfl) (Nat.le_of_ble_eq_true rfl) (ct_X3_isWithin _ _  _) hz) (fun x2 => ?_)
  refine v_if_ne (tgt := 18) dX3_height_13 (by decide) (fun _ => ?_) (fun _ => ?_)
  · skip
    refine v_aload_n dX3_height_18 rfl rfl ?_
    refine v_getr dX3_height_19 kf_X3_10 h.1 rfl ?_
    refine v_getr dX3_height_22 kf_X3_148 h.2.1.1 rfl ?_
    refine v_iload_n dX3_height_25 rfl rfl ?_
    refine v_gd (fun g3 => ?_)
    refine v_iald dX3_height_26 h.2.1.2.2.1 g3 rfl ?_
    refine v_topi (fun x4 => ?_)
    refine v_istore_n (L' := [(3, .int x4), (0, .ref b), (1, .int a1), (2, .int a2)]) dX3_height_27 rfl (by decide) rfl ?_
    refine v_aload_n dX3_height_28 rfl rfl ?_
    refine v_getr dX3_height_29 kf_X3_10 h.1 rfl ?_
    refine v_iload_n dX3_height_32 rfl rfl ?_
    refine v_iload_n dX3_height_33 rfl rfl ?_
    refine v_cw (fun z hz => runV (as := [.int a1, .int a2]) dX3_height_34 kv_X3_163 rfl rfl (Nat.le_of_ble_eq_true rfl) (Nat.le_of_ble_eq_true rfl) (recvW h.2.1.1 rfl rfl) (ct_X1_raise _ _ _ h.2.1 _) hz) (fun s5 => ?_)
    refine v_iload_n dX3_height_37 rfl rfl ?_
    exact v_ret (ty := .int) dX3_height_38 rfl rfl rfl
  refine v_iconst (v := -1) dX3_height_16 (by decide +kernel) ?_
  exact v_ret (ty := .int) dX3_height_17 rfl rfl rfl
theorem ct_X3_height {SH : SHT} (b : Nat) (a1 : Int32) (a2 : Int32) (h : isOaths SH b) (s0 : St) : CT yX3_height mX3_height 3 SH jI [.ref b, .int a1, .int a2] s0 (f_X3_height b a1 a2 s0) := CT.of (by decide +kernel) rfl (fun E => Nat.le_of_ble_eq_true rfl) (w_X3_height b a1 a2 h s0)
set_option maxHeartbeats 4000000 in
set_option maxRecDepth 100000 in
theorem w_X3_wets {SH : SHT} (b : Nat) (a1 : Int32) (h : isOaths SH b) (s0 : St) : VF mX3_wets 2 SH (jQ s0) 0 [(0, .ref b), (1, .int a1)] [] s0 (f_X3_wets b a1 s0) := by
  unfold f_X3_wets
  refine v_iload_n dX3_wets_0 rfl rfl ?_
  refine v_tsw (cs := [(0, 28), (1, 36), (2, 44)]) (dt := 52) dX3_wets_1 (by decide +kernel) (by decide) (by decide +kernel) ?_
  refine v_swc (fun _ => ?_) (fun _ => ?_)
  · skip
    refine v_aload_n dX3_wets_28 rfl rfl ?_
    refine v_getr dX3_wets_29 kf_X3_10 h.1 rfl ?_
    refine v_cpL (fun z hz => runV (as := []) dX3_wets_32 kv_X3_167 rfl rfl (Nat.le_of_ble_eq_true rfl) (Nat.le_of_ble_eq_true rfl) (recvW h.2.1.1 rfl rfl) (ct_X1_wetCells _ h.2.1 _) hz) (fun x1 => ?_)
    exact v_lret dX3_wets_35 rfl rfl
  refine v_swc (fun _ => ?_) (fun _ => ?_)
  · skip
    refine v_aload_n dX3_wets_36 rfl rfl ?_
    refine v_getr dX3_wets_37 kf_X3_10 h.1 rfl ?_
    refine v_cpL (fun z hz => runV (as := []) dX3_wets_40 kv_X3_171 rfl rfl (Nat.le_of_ble_eq_true rfl) (Nat.le_of_ble_eq_true rfl) (recvW h.2.1.1 rfl rfl) (ct_X1_trodCells _ h.2.1 _) hz) (fun x2 => ?_)
    exact v_lret dX3_wets_43 rfl rfl
  refine v_swc (fun _ => ?_) (fun _ => ?_)
  · skip
    refine v_aload_n dX3_wets_44 rfl rfl ?_
    refine v_getr dX3_wets_45 kf_X3_10 h.1 rfl ?_
    refine v_cpL (fun z hz => runV (as := []) dX3_wets_48 kv_X3_174 rfl rfl (Nat.le_of_ble_eq_true rfl) (Nat.le_of_ble_eq_true rfl) (recvW h.2.1.1 rfl rfl) (ct_X1_hollows _ h.2.1 _) hz) (fun x3 => ?_)
    exact v_lret dX3_wets_51 rfl rfl
  refine v_swn ?_
  refine v_ldc2 dX3_wets_52 kcL_X3_177 ?_
  exact v_lret dX3_wets_55 rfl rfl
theorem ct_X3_wets {SH : SHT} (b : Nat) (a1 : Int32) (h : isOaths SH b) (s0 : St) : CT yX3_wets mX3_wets 2 SH (jQ s0) [.ref b, .int a1] s0 (f_X3_wets b a1 s0) := CT.of (by decide +kernel) rfl (fun E => Nat.le_of_ble_eq_true rfl) (w_X3_wets b a1 h s0)
set_option maxHeartbeats 4000000 in
set_option maxRecDepth 100000 in
theorem w_J13_bitCount_95d88 {SH : SHT} (a0 : Int64) (s0 : St) : VF mJ13_bitCount_95d88 0 SH (jP s0) 0 [(0, .long a0)] [] s0 (f_J13_bitCount_95d88 a0) := by
  unfold f_J13_bitCount_95d88
  refine v_lload_n dJ13_bitCount_95d88_0 rfl rfl ?_
  refine v_lload_n dJ13_bitCount_95d88_1 rfl rfl ?_
  refine v_iconst (v := 1) dJ13_bitCount_95d88_2 (by decide +kernel) ?_
  refine v_lushr dJ13_bitCount_95d88_3 ?_
  refine v_ldc2 dJ13_bitCount_95d88_4 kcL_J13_314 ?_
  refine v_land dJ13_bitCount_95d88_7 ?_
  refine v_lsub dJ13_bitCount_95d88_8 ?_
  refine v_topl (fun x1 => ?_)
  refine v_lstore_n (L' := [(0, .long x1)]) dJ13_bitCount_95d88_9 rfl (by decide) rfl ?_
  refine v_lload_n dJ13_bitCount_95d88_10 rfl rfl ?_
  refine v_ldc2 dJ13_bitCount_95d88_11 kcL_J13_316 ?_
  refine v_land dJ13_bitCount_95d88_14 ?_
  refine v_lload_n dJ13_bitCount_95d88_15 rfl rfl ?_
  refine v_iconst (v := 2) dJ13_bitCount_95d88_16 (by decide +kernel) ?_
  refine v_lushr dJ13_bitCount_95d88_17 ?_
  refine v_ldc2 dJ13_bitCount_95d88_18 kcL_J13_316 ?_
  refine v_land dJ13_bitCount_95d88_21 ?_
  refine v_ladd dJ13_bitCount_95d88_22 ?_
  refine v_topl (fun x2 => ?_)
  refine v_lstore_n (L' := [(0, .long x2)]) dJ13_bitCount_95d88_23 rfl (by decide) rfl ?_
  refine v_lload_n dJ13_bitCount_95d88_24 rfl rfl ?_
  refine v_lload_n dJ13_bitCount_95d88_25 rfl rfl ?_
  refine v_iconst (v := 4) dJ13_bitCount_95d88_26 (by decide +kernel) ?_
  refine v_lushr dJ13_bitCount_95d88_27 ?_
  refine v_ladd dJ13_bitCount_95d88_28 ?_
  refine v_ldc2 dJ13_bitCount_95d88_29 kcL_J13_318 ?_
  refine v_land dJ13_bitCount_95d88_32 ?_
  refine v_topl (fun x3 => ?_)
  refine v_lstore_n (L' := [(0, .long x3)]) dJ13_bitCount_95d88_33 rfl (by decide) rfl ?_
  refine v_lload_n dJ13_bitCount_95d88_34 rfl rfl ?_
  refine v_lload_n dJ13_bitCount_95d88_35 rfl rfl ?_
  refine v_bipush (v := 8) dJ13_bitCount_95d88_36 (by decide +kernel) ?_
  refine v_lushr dJ13_bitCount_95d88_38 ?_
  refine v_ladd dJ13_bitCount_95d88_39 ?_
  refine v_topl (fun x4 => ?_)
  refine v_lstore_n (L' := [(0, .long x4)]) dJ13_bitCount_95d88_40 rfl (by decide) rfl ?_
  refine v_lload_n dJ13_bitCount_95d88_41 rfl rfl ?_
  refine v_lload_n dJ13_bitCount_95d88_42 rfl rfl ?_
  refine v_bipush (v := 16) dJ13_bitCount_95d88_43 (by decide +kernel) ?_
  refine v_lushr dJ13_bitCount_95d88_45 ?_
  refine v_ladd dJ13_bitCount_95d88_46 ?_
  refine v_topl (fun x5 => ?_)
  refine v_lstore_n (L' := [(0, .long x5)]) dJ13_bitCount_95d88_47 rfl (by decide) rfl ?_
  refine v_lload_n dJ13_bitCount_95d88_48 rfl rfl ?_
  refine v_lload_n dJ13_bitCount_95d88_49 rfl rfl ?_
  refine v_bipush (v := 32) dJ13_bitCount_95d88_50 (by decide +kernel) ?_
  refine v_lushr dJ13_bitCount_95d88_52 ?_
  refine v_ladd dJ13_bitCount_95d88_53 ?_
  refine v_topl (fun x6 => ?_)
  refine v_lstore_n (L' := [(0, .long x6)]) dJ13_bitCount_95d88_54 rfl (by decide) rfl ?_
  refine v_lload_n dJ13_bitCount_95d88_55 rfl rfl ?_
  refine v_l2i dJ13_bitCount_95d88_56 ?_
  refine v_bipush (v := 127) dJ13_bitCount_95d88_57 (by decide +kernel) ?_
  refine v_iand dJ13_bitCount_95d88_59 ?_
  exact v_ret (ty := .int) dJ13_bitCount_95d88_60 rfl rfl rfl
theorem ct_J13_bitCount_95d88 {SH : SHT} (a0 : Int64) (s0 : St) : CT yJ13_bitCount_95d88 mJ13_bitCount_95d88 0 SH (jP s0) [.long a0] s0 (f_J13_bitCount_95d88 a0) := CT.of (by decide +kernel) rfl (fun E => Nat.le_of_ble_eq_true rfl) (w_J13_bitCount_95d88 a0  s0)
set_option maxHeartbeats 4000000 in
set_option maxRecDepth 100000 in
theorem w_X3_years {SH : SHT} (b : Nat) (a1 : Int32) (h : isOaths SH b) (s0 : St) : VF mX3_years 5 SH jI 0 [(0, .ref b), (1, .int a1)] [] s0 (f_X3_years b a1 s0) := by
  unfold f_X3_years
  refine v_iload_n dX3_years_0 rfl rfl ?_
  refine v_iconst (v := 1) dX3_years_1 (by decide +kernel) ?_
  refine v_icmp_lt (tgt := 11) dX3_years_2 (by decide) (fun _ => ?_) (fun _ => ?_)
  · skip
    refine v_iconst (v := -1) dX3_years_11 (by decide +kernel) ?_
    exact v_ret (ty := .int) dX3_years_12 rfl rfl rfl
  refine v_iload_n dX3_years_5 rfl rfl ?_
  refine v_bipush (v := 60) dX3_years_6 (by decide +kernel) ?_
  refine v_icmp_le (tgt := 13) dX3_years_8 (by decide) (fun _ => ?_) (fun _ => ?_)
  · skip
    refine v_aload_n dX3_years_13 rfl rfl ?_
    refine v_getr dX3_years_14 kf_X3_10 h.1 rfl ?_
    refine v_iload_n dX3_years_17 rfl rfl ?_
    refine v_cw (fun z hz => runV (as := [.int a1]) dX3_years_18 kv_X3_179 rfl rfl (Nat.le_of_ble_eq_true rfl) (Nat.le_of_ble_eq_true rfl) (recvW h.2.1.1 rfl rfl) (ct_X1_passYears _ _ h.2.1 _) hz) (fun s1 => ?_)
    refine v_aload_n dX3_years_21 rfl rfl ?_
    refine v_getr dX3_years_22 kf_X3_10 h.1 rfl ?_
    refine v_cpL (fun z hz => runV (as := []) dX3_years_25 kv_X3_167 rfl rfl (Nat.le_of_ble_eq_true rfl) (Nat.le_of_ble_eq_true rfl) (recvW h.2.1.1 rfl rfl) (ct_X1_wetCells _ h.2.1 _) hz) (fun x2 => ?_)
    refine v_cpI (fun z hz => runT (as := [.long x2]) dX3_years_28 kt_X3_183 rfl rfl (Nat.le_of_ble_eq_true rfl) (Nat.le_of_ble_eq_true rfl) (ct_J13_bitCount_95d88 _  _) hz) (fun x3 => ?_)
    exact v_ret (ty := .int) dX3_years_31 rfl rfl rfl
  refine v_iconst (v := -1) dX3_years_11 (by decide +kernel) ?_
  exact v_ret (ty := .int) dX3_years_12 rfl rfl rfl
theorem ct_X3_years {SH : SHT} (b : Nat) (a1 : Int32) (h : isOaths SH b) (s0 : St) : CT yX3_years mX3_years 5 SH jI [.ref b, .int a1] s0 (f_X3_years b a1 s0) := CT.of (by decide +kernel) rfl (fun E => Nat.le_of_ble_eq_true rfl) (w_X3_years b a1 h s0)
set_option maxHeartbeats 4000000 in
set_option maxRecDepth 100000 in
theorem w_X3_seed {SH : SHT} (b : Nat) (a1 : Int32) (h : isOaths SH b) (s0 : St) : VF mX3_seed 0 SH jI 0 [(0, .ref b), (1, .int a1)] [] s0 (f_X3_seed b a1 s0) := by
  unfold f_X3_seed
  refine v_aload_n dX3_seed_0 rfl rfl ?_
  refine v_getr dX3_seed_1 kf_X3_10 h.1 rfl ?_
  refine v_geti dX3_seed_4 kf_X3_77 h.2.1.1 rfl ?_
  refine v_topi (fun x1 => ?_)
  refine v_istore_n (L' := [(2, .int x1), (0, .ref b), (1, .int a1)]) dX3_seed_7 rfl (by decide) rfl ?_
  refine v_aload_n dX3_seed_8 rfl rfl ?_
  refine v_getr dX3_seed_9 kf_X3_10 h.1 rfl ?_
  refine v_iload_n dX3_seed_12 rfl rfl ?_
  refine v_puti dX3_seed_13 kp_X3_77 h.2.1.1 rfl rfl rfl (v_st fun s2 => ?_)
  refine v_iload_n dX3_seed_16 rfl rfl ?_
  exact v_ret (ty := .int) dX3_seed_17 rfl rfl rfl
theorem ct_X3_seed {SH : SHT} (b : Nat) (a1 : Int32) (h : isOaths SH b) (s0 : St) : CT yX3_seed mX3_seed 0 SH jI [.ref b, .int a1] s0 (f_X3_seed b a1 s0) := CT.of (by decide +kernel) rfl (fun E => Nat.le_of_ble_eq_true rfl) (w_X3_seed b a1 h s0)
set_option maxHeartbeats 4000000 in
set_option maxRecDepth 100000 in
theorem w_X3_year {SH : SHT} (b : Nat) (h : isOaths SH b) (s0 : St) : VF mX3_year 5 SH jI 0 [(0, .ref b)] [] s0 (f_X3_year b s0) := by
  unfold f_X3_year
  refine v_aload_n dX3_year_0 rfl rfl ?_
  refine v_getr dX3_year_1 kf_X3_10 h.1 rfl ?_
  refine v_cw (fun z hz => runV (as := []) dX3_year_4 kv_X3_189 rfl rfl (Nat.le_of_ble_eq_true rfl) (Nat.le_of_ble_eq_true rfl) (recvW h.2.1.1 rfl rfl) (ct_X1_passYearByDraws _ h.2.1 _) hz) (fun s1 => ?_)
  refine v_aload_n dX3_year_7 rfl rfl ?_
  refine v_getr dX3_year_8 kf_X3_10 h.1 rfl ?_
  refine v_cpI (fun z hz => runV (as := []) dX3_year_11 kv_X3_192 rfl rfl (Nat.le_of_ble_eq_true rfl) (Nat.le_of_ble_eq_true rfl) (recvW h.2.1.1 rfl rfl) (ct_X1_lostPeople _ h.2.1 _) hz) (fun x2 => ?_)
  refine v_cpI (fun z hz => runT (as := [.int x2]) dX3_year_14 kt_X3_196 rfl rfl (Nat.le_of_ble_eq_true rfl) (Nat.le_of_ble_eq_true rfl) (ct_J6_bitCount_0f7a4 _  _) hz) (fun x3 => ?_)
  exact v_ret (ty := .int) dX3_year_17 rfl rfl rfl
theorem ct_X3_year {SH : SHT} (b : Nat) (h : isOaths SH b) (s0 : St) : CT yX3_year mX3_year 5 SH jI [.ref b] s0 (f_X3_year b s0) := CT.of (by decide +kernel) rfl (fun E => Nat.le_of_ble_eq_true rfl) (w_X3_year b h s0)
set_option maxHeartbeats 4000000 in
set_option maxRecDepth 100000 in
theorem wB_X3_revel_38 {SH : SHT} (b : Nat) (a1 : Int32) (x2 : Int32) (h : isOaths SH b) (rec : Int32 → Int32 → Int32 → St → Option (Int32 × St)) (hrec : ∀ (c4 : Int32) (c5 : Int32) (c6 : Int32) (s7 : St), VF mX3_revel 5 SH jI 38 [(0, .ref b), (1, .int a1), (2, .int x2), (3, .int c4), (4, .int c5), (5, .int c6)] [] s7 (rec c4 c5 c6 s7)) (K : Int32 → St → Option (Int32 × St)) (hK : ∀ (e8 : Int32) (s9 : St), VF mX3_revel 5 SH jI 101 [(4, .int e8)] [] s9 (K e8 s9)) (c4 : Int32) (c5 : Int32) (c6 : Int32) (s7 : St) : VF mX3_revel 5 SH jI 38 [(0, .ref b), (1, .int a1), (2, .int x2), (3, .int c4), (4, .int c5), (5, .int c6)] [] s7 (B_X3_revel_38 rec b a1 x2 K c4 c5 c6 s7) := by
  unfold B_X3_revel_38
  refine v_iload dX3_revel_38 rfl ?_
  refine v_iload_n dX3_revel_40 rfl rfl ?_
  refine v_icmp_ge (tgt := 101) dX3_revel_41 (by decide) (fun _ => ?_) (fun _ => ?_)
  · skip
    exact v_pick [4] rfl (hK _ _)
  refine v_aload_n dX3_revel_44 rfl rfl ?_
  refine v_getr dX3_revel_45 kf_X3_16 h.1 rfl ?_
  refine v_aload_n dX3_revel_48 rfl rfl ?_
  refine v_getr dX3_revel_49 kf_X3_10 h.1 rfl ?_
  refine v_cw (fun z hz => runV (as := [.ref (b + 1)]) dX3_revel_52 kv_X3_80 rfl rfl (Nat.le_of_ble_eq_true rfl) (Nat.le_of_ble_eq_true rfl) (recvW h.2.2.1.1 rfl rfl) (ct_X1_become _ _ h.2.2.1 h.2.1 _) hz) (fun s10 => ?_)
  refine v_aload_n dX3_revel_55 rfl rfl ?_
  refine v_getr dX3_revel_56 kf_X3_16 h.1 rfl ?_
  refine v_iload_n dX3_revel_59 rfl rfl ?_
  refine v_puti dX3_revel_60 kp_X3_77 h.2.2.1.1 rfl rfl rfl (v_st fun s11 => ?_)
  refine v_aload_n dX3_revel_63 rfl rfl ?_
  refine v_getr dX3_revel_64 kf_X3_16 h.1 rfl ?_
  refine v_cw (fun z hz => runV (as := []) dX3_revel_67 kv_X3_189 rfl rfl (Nat.le_of_ble_eq_true rfl) (Nat.le_of_ble_eq_true rfl) (recvW h.2.2.1.1 rfl rfl) (ct_X1_passYearByDraws _ h.2.2.1 _) hz) (fun s12 => ?_)
  refine v_aload_n dX3_revel_70 rfl rfl ?_
  refine v_getr dX3_revel_71 kf_X3_16 h.1 rfl ?_
  refine v_geti dX3_revel_74 kf_X3_77 h.2.2.1.1 rfl ?_
  refine v_topi (fun x13 => ?_)
  refine v_istore_n (L' := [(3, .int x13), (0, .ref b), (1, .int a1), (2, .int x2), (4, .int c5), (5, .int c6)]) dX3_revel_77 rfl (by decide) rfl ?_
  refine v_aload_n dX3_revel_78 rfl rfl ?_
  refine v_getr dX3_revel_79 kf_X3_16 h.1 rfl ?_
  refine v_cpI (fun z hz => runV (as := []) dX3_revel_82 kv_X3_192 rfl rfl (Nat.le_of_ble_eq_true rfl) (Nat.le_of_ble_eq_true rfl) (recvW h.2.2.1.1 rfl rfl) (ct_X1_lostPeople _ h.2.2.1 _) hz) (fun x14 => ?_)
  refine v_cpI (fun z hz => runT (as := [.int x14]) dX3_revel_85 kt_X3_196 rfl rfl (Nat.le_of_ble_eq_true rfl) (Nat.le_of_ble_eq_true rfl) (ct_J6_bitCount_0f7a4 _  _) hz) (fun x15 => ?_)
  refine v_iload_n dX3_revel_88 rfl rfl ?_
  refine v_bnK (fun K17 => ∀ (t16 : Int32), VF mX3_revel 5 SH jI 95 [(0, .ref b), (1, .int a1), (2, .int x2), (3, .int x13), (4, .int t16), (5, .int c6)] [] s12 (K17 t16)) (fun K17 hK17 => ?_) (fun t16 => ?_)
  · skip
    refine v_icmp_le (tgt := 95) dX3_revel_89 (by decide) (fun _ => ?_) (fun _ => ?_)
    · skip
      exact v_pick [1, 2, 3, 0, 4, 5] rfl (hK17 _)
    refine v_iinc (v := (c5 + (1 : Int32))) (L' := [(4, .int (c5 + (1 : Int32))), (3, .int x13), (0, .ref b), (1, .int a1), (2, .int x2), (5, .int c6)]) dX3_revel_92 rfl rfl (by decide) rfl ?_
    exact v_pick [2, 3, 4, 1, 0, 5] rfl (hK17 _)
  refine v_iinc (v := (c6 + (1 : Int32))) (L' := [(5, .int (c6 + (1 : Int32))), (0, .ref b), (1, .int a1), (2, .int x2), (3, .int x13), (4, .int t16)]) dX3_revel_95 rfl rfl (by decide) rfl ?_
  refine v_goto (tgt := 38) dX3_revel_98 (by decide) ?_
  exact v_pick [1, 2, 3, 4, 5, 0] rfl (hrec _ _ _ _)
theorem wL_X3_revel_38 {SH : SHT} (b : Nat) (a1 : Int32) (x2 : Int32) (h : isOaths SH b) (K : Int32 → St → Option (Int32 × St)) (hK : ∀ (e8 : Int32) (s9 : St), VF mX3_revel 5 SH jI 101 [(4, .int e8)] [] s9 (K e8 s9)) : ∀ (n : Nat) (c4 : Int32) (c5 : Int32) (c6 : Int32) (s7 : St), VF mX3_revel 5 SH jI 38 [(0, .ref b), (1, .int a1), (2, .int x2), (3, .int c4), (4, .int c5), (5, .int c6)] [] s7 (L_X3_revel_38 b a1 x2 K n c4 c5 c6 s7) := by
  intro n
  induction n with
  | zero => intros; exact v_none
  | succ n ih => intro c4 c5 c6 s7; exact wB_X3_revel_38 b a1 x2 h _ ih K hK c4 c5 c6 s7
set_option maxHeartbeats 4000000 in
set_option maxRecDepth 100000 in
theorem w_X3_revel {SH : SHT} (b : Nat) (a1 : Int32) (h : isOaths SH b) (s0 : St) : VF mX3_revel 5 SH jI 0 [(0, .ref b), (1, .int a1)] [] s0 (f_X3_revel b a1 s0) := by
  unfold f_X3_revel
  refine v_iload_n dX3_revel_0 rfl rfl ?_
  refine v_iconst (v := 1) dX3_revel_1 (by decide +kernel) ?_
  refine v_icmp_lt (tgt := 11) dX3_revel_2 (by decide) (fun _ => ?_) (fun _ => ?_)
  · skip
    refine v_iconst (v := -1) dX3_revel_11 (by decide +kernel) ?_
    exact v_ret (ty := .int) dX3_revel_12 rfl rfl rfl
  refine v_iload_n dX3_revel_5 rfl rfl ?_
  refine v_bipush (v := 30) dX3_revel_6 (by decide +kernel) ?_
  refine v_icmp_le (tgt := 13) dX3_revel_8 (by decide) (fun _ => ?_) (fun _ => ?_)
  · skip
    refine v_aload_n dX3_revel_13 rfl rfl ?_
    refine v_getr dX3_revel_14 kf_X3_10 h.1 rfl ?_
    refine v_cpI (fun z hz => runV (as := []) dX3_revel_17 kv_X3_192 rfl rfl (Nat.le_of_ble_eq_true rfl) (Nat.le_of_ble_eq_true rfl) (recvW h.2.1.1 rfl rfl) (ct_X1_lostPeople _ h.2.1 _) hz) (fun x1 => ?_)
    refine v_cpI (fun z hz => runT (as := [.int x1]) dX3_revel_20 kt_X3_196 rfl rfl (Nat.le_of_ble_eq_true rfl) (Nat.le_of_ble_eq_true rfl) (ct_J6_bitCount_0f7a4 _  _) hz) (fun x2 => ?_)
    refine v_istore_n (L' := [(2, .int x2), (0, .ref b), (1, .int a1)]) dX3_revel_23 rfl (by decide) rfl ?_
    refine v_aload_n dX3_revel_24 rfl rfl ?_
    refine v_getr dX3_revel_25 kf_X3_10 h.1 rfl ?_
    refine v_geti dX3_revel_28 kf_X3_77 h.2.1.1 rfl ?_
    refine v_topi (fun x3 => ?_)
    refine v_istore_n (L' := [(3, .int x3), (2, .int x2), (0, .ref b), (1, .int a1)]) dX3_revel_31 rfl (by decide) rfl ?_
    refine v_iconst (v := 0) dX3_revel_32 (by decide +kernel) ?_
    refine v_istore (L' := [(4, .int (0 : Int32)), (3, .int x3), (2, .int x2), (0, .ref b), (1, .int a1)]) dX3_revel_33 (by decide) rfl ?_
    refine v_iconst (v := 0) dX3_revel_35 (by decide +kernel) ?_
    refine v_istore (L' := [(5, .int (0 : Int32)), (4, .int (0 : Int32)), (3, .int x3), (2, .int x2), (0, .ref b), (1, .int a1)]) dX3_revel_36 (by decide) rfl ?_
    refine v_pick [4, 5, 3, 2, 1, 0] rfl (wL_X3_revel_38 b a1 x2 h _ (fun e8 s9 => ?_) FU _ _ _ _)
    refine v_iload dX3_revel_101 rfl ?_
    exact v_ret (ty := .int) dX3_revel_103 rfl rfl rfl
  refine v_iconst (v := -1) dX3_revel_11 (by decide +kernel) ?_
  exact v_ret (ty := .int) dX3_revel_12 rfl rfl rfl
theorem ct_X3_revel {SH : SHT} (b : Nat) (a1 : Int32) (h : isOaths SH b) (s0 : St) : CT yX3_revel mX3_revel 5 SH jI [.ref b, .int a1] s0 (f_X3_revel b a1 s0) := CT.of (by decide +kernel) rfl (fun E => Nat.le_of_ble_eq_true rfl) (w_X3_revel b a1 h s0)
set_option maxHeartbeats 4000000 in
set_option maxRecDepth 100000 in
theorem w_X3_state {SH : SHT} (b : Nat) (a1 : Int32) (h : isOaths SH b) (s0 : St) : VF mX3_state 4 SH (jP s0) 0 [(0, .ref b), (1, .int a1)] [] s0 (f_X3_state b a1 s0) := by
  unfold f_X3_state
  refine v_iload_n dX3_state_0 rfl rfl ?_
  refine v_tsw (cs := [(0, 36), (1, 44), (2, 52), (3, 60), (4, 68)]) (dt := 76) dX3_state_1 (by decide +kernel) (by decide) (by decide +kernel) ?_
  refine v_swc (fun _ => ?_) (fun _ => ?_)
  · skip
    refine v_aload_n dX3_state_36 rfl rfl ?_
    refine v_getr dX3_state_37 kf_X3_10 h.1 rfl ?_
    refine v_geti dX3_state_40 kf_X3_200 h.2.1.1 rfl ?_
    exact v_ret (ty := .int) dX3_state_43 rfl rfl rfl
  refine v_swc (fun _ => ?_) (fun _ => ?_)
  · skip
    refine v_aload_n dX3_state_44 rfl rfl ?_
    refine v_getr dX3_state_45 kf_X3_10 h.1 rfl ?_
    refine v_cpI (fun z hz => runV (as := []) dX3_state_48 kv_X3_203 rfl rfl (Nat.le_of_ble_eq_true rfl) (Nat.le_of_ble_eq_true rfl) (recvW h.2.1.1 rfl rfl) (ct_X1_allWater _ h.2.1 _) hz) (fun x1 => ?_)
    exact v_ret (ty := .int) dX3_state_51 rfl rfl rfl
  refine v_swc (fun _ => ?_) (fun _ => ?_)
  · skip
    refine v_aload_n dX3_state_52 rfl rfl ?_
    refine v_getr dX3_state_53 kf_X3_10 h.1 rfl ?_
    refine v_cpI (fun z hz => runV (as := []) dX3_state_56 kv_X3_192 rfl rfl (Nat.le_of_ble_eq_true rfl) (Nat.le_of_ble_eq_true rfl) (recvW h.2.1.1 rfl rfl) (ct_X1_lostPeople _ h.2.1 _) hz) (fun x2 => ?_)
    exact v_ret (ty := .int) dX3_state_59 rfl rfl rfl
  refine v_swc (fun _ => ?_) (fun _ => ?_)
  · skip
    refine v_aload_n dX3_state_60 rfl rfl ?_
    refine v_getr dX3_state_61 kf_X3_10 h.1 rfl ?_
    refine v_cpI (fun z hz => runV (as := []) dX3_state_64 kv_X3_206 rfl rfl (Nat.le_of_ble_eq_true rfl) (Nat.le_of_ble_eq_true rfl) (recvW h.2.1.1 rfl rfl) (ct_X1_allSure _ h.2.1 _) hz) (fun x3 => ?_)
    exact v_ret (ty := .int) dX3_state_67 rfl rfl rfl
  refine v_swc (fun _ => ?_) (fun _ => ?_)
  · skip
    refine v_aload_n dX3_state_68 rfl rfl ?_
    refine v_getr dX3_state_69 kf_X3_10 h.1 rfl ?_
    refine v_cpI (fun z hz => runV (as := []) dX3_state_72 kv_X3_209 rfl rfl (Nat.le_of_ble_eq_true rfl) (Nat.le_of_ble_eq_true rfl) (recvW h.2.1.1 rfl rfl) (ct_X1_disputes _ h.2.1 _) hz) (fun x4 => ?_)
    exact v_ret (ty := .int) dX3_state_75 rfl rfl rfl
  refine v_swn ?_
  refine v_iconst (v := -1) dX3_state_76 (by decide +kernel) ?_
  exact v_ret (ty := .int) dX3_state_77 rfl rfl rfl
theorem ct_X3_state {SH : SHT} (b : Nat) (a1 : Int32) (h : isOaths SH b) (s0 : St) : CT yX3_state mX3_state 4 SH (jP s0) [.ref b, .int a1] s0 (f_X3_state b a1 s0) := CT.of (by decide +kernel) rfl (fun E => Nat.le_of_ble_eq_true rfl) (w_X3_state b a1 h s0)
set_option maxHeartbeats 4000000 in
set_option maxRecDepth 100000 in
theorem w_X3_level {SH : SHT} (b : Nat) (a1 : Int32) (a2 : Int32) (h : isOaths SH b) (s0 : St) : VF mX3_level 5 SH jI 0 [(0, .ref b), (1, .int a1), (2, .int a2)] [] s0 (f_X3_level b a1 a2 s0) := by
  unfold f_X3_level
  refine v_iload_n dX3_level_0 rfl rfl ?_
  refine v_cpI (fun z hz => runT (as := [.int a1]) dX3_level_1 kt_X3_107 rfl rfl (Nat.le_of_ble_eq_true rfl) (Nat.le_of_ble_eq_true rfl) (ct_X3_isCell _  _) hz) (fun x1 => ?_)
  refine v_if_eq (tgt := 16) dX3_level_4 (by decide) (fun _ => ?_) (fun _ => ?_)
  · skip
    refine v_iconst (v := -1) dX3_level_16 (by decide +kernel) ?_
    exact v_ret (ty := .int) dX3_level_17 rfl rfl rfl
  refine v_iload_n dX3_level_7 rfl rfl ?_
  refine v_bipush (v := 60) dX3_level_8 (by decide +kernel) ?_
  refine v_cpI (fun z hz => runT (as := [.int a2, .int (60 : Int32)]) dX3_level_10 kt_X3_97 rfl rfl (Nat.le_of_ble_eq_true rfl) (Nat.le_of_ble_eq_true rfl) (ct_X3_isWithin _ _  _) hz) (fun x2 => ?_)
  refine v_if_ne (tgt := 18) dX3_level_13 (by decide) (fun _ => ?_) (fun _ => ?_)
  · skip
    refine v_aload_n dX3_level_18 rfl rfl ?_
    refine v_getr dX3_level_19 kf_X3_16 h.1 rfl ?_
    refine v_aload_n dX3_level_22 rfl rfl ?_
    refine v_getr dX3_level_23 kf_X3_10 h.1 rfl ?_
    refine v_cw (fun z hz => runV (as := [.ref (b + 1)]) dX3_level_26 kv_X3_80 rfl rfl (Nat.le_of_ble_eq_true rfl) (Nat.le_of_ble_eq_true rfl) (recvW h.2.2.1.1 rfl rfl) (ct_X1_become _ _ h.2.2.1 h.2.1 _) hz) (fun s3 => ?_)
    refine v_aload_n dX3_level_29 rfl rfl ?_
    refine v_getr dX3_level_30 kf_X3_16 h.1 rfl ?_
    refine v_iload_n dX3_level_33 rfl rfl ?_
    refine v_cw (fun z hz => runV (as := [.int a2]) dX3_level_34 kv_X3_179 rfl rfl (Nat.le_of_ble_eq_true rfl) (Nat.le_of_ble_eq_true rfl) (recvW h.2.2.1.1 rfl rfl) (ct_X1_passYears _ _ h.2.2.1 _) hz) (fun s4 => ?_)
    refine v_aload_n dX3_level_37 rfl rfl ?_
    refine v_getr dX3_level_38 kf_X3_16 h.1 rfl ?_
    refine v_getr dX3_level_41 kf_X3_145 h.2.2.1.1 rfl ?_
    refine v_iload_n dX3_level_44 rfl rfl ?_
    refine v_gd (fun g5 => ?_)
    refine v_iald dX3_level_45 h.2.2.1.2.2.2.1 g5 rfl ?_
    exact v_ret (ty := .int) dX3_level_46 rfl rfl rfl
  refine v_iconst (v := -1) dX3_level_16 (by decide +kernel) ?_
  exact v_ret (ty := .int) dX3_level_17 rfl rfl rfl
theorem ct_X3_level {SH : SHT} (b : Nat) (a1 : Int32) (a2 : Int32) (h : isOaths SH b) (s0 : St) : CT yX3_level mX3_level 5 SH jI [.ref b, .int a1, .int a2] s0 (f_X3_level b a1 a2 s0) := CT.of (by decide +kernel) rfl (fun E => Nat.le_of_ble_eq_true rfl) (w_X3_level b a1 a2 h s0)
