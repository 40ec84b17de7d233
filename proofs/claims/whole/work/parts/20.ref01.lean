set_option maxHeartbeats 4000000 in
set_option maxRecDepth 100000 in
theorem w_X4_comesTo {SH : SHT} (b : Nat) (a1 : Int32) (a2 : Int32) (h : isModel SH b) (s0 : St) : VF mX4_comesTo 1 SH jV 0 [(0, .ref b), (1, .int a1), (2, .int a2)] [] s0 (f_X4_comesTo b a1 a2 s0) := by
  unfold f_X4_comesTo
  refine v_aload_n dX4_comesTo_0 rfl rfl ?_
  refine v_getr dX4_comesTo_1 kf_X4_7 h.1 rfl ?_
  refine v_bipush (v := 39) dX4_comesTo_4 (by decide +kernel) ?_
  refine v_iload_n dX4_comesTo_6 rfl rfl ?_
  refine v_iadd dX4_comesTo_7 ?_
  refine v_aload_n dX4_comesTo_8 rfl rfl ?_
  refine v_getr dX4_comesTo_9 kf_X4_7 h.1 rfl ?_
  refine v_bipush (v := 39) dX4_comesTo_12 (by decide +kernel) ?_
  refine v_iload_n dX4_comesTo_14 rfl rfl ?_
  refine v_iadd dX4_comesTo_15 ?_
  refine v_gd (fun g1 => ?_)
  refine v_iald dX4_comesTo_16 h.2.1 g1 rfl ?_
  refine v_iload_n dX4_comesTo_17 rfl rfl ?_
  refine v_iadd dX4_comesTo_18 ?_
  refine v_cpI (fun z hz => runT (as := [.int ((gA s0 (b + 1) (ix ((39 : Int32) + a1))) + a2)]) dX4_comesTo_19 kt_X4_75 rfl rfl (Nat.le_of_ble_eq_true rfl) (Nat.le_of_ble_eq_true rfl) (ct_X4_held _  _) hz) (fun x2 => ?_)
  refine v_gd (fun g3 => ?_)
  refine v_iast dX4_comesTo_22 h.2.1 g3 rfl (v_st fun s4 => ?_)
  exact v_vret dX4_comesTo_23 rfl rfl
theorem ct_X4_comesTo {SH : SHT} (b : Nat) (a1 : Int32) (a2 : Int32) (h : isModel SH b) (s0 : St) : CT yX4_comesTo mX4_comesTo 1 SH jV [.ref b, .int a1, .int a2] s0 (f_X4_comesTo b a1 a2 s0) := CT.of (by decide +kernel) rfl (fun E => Nat.le_of_ble_eq_true rfl) (w_X4_comesTo b a1 a2 h s0)
set_option maxHeartbeats 4000000 in
set_option maxRecDepth 100000 in
theorem wB_X4_yearGoes_2 {SH : SHT} (b : Nat) (h : isModel SH b) (rec : Int32 → St → Option St) (hrec : ∀ (c1 : Int32) (s2 : St), VF mX4_yearGoes 2 SH jV 2 [(0, .ref b), (1, .int c1)] [] s2 (rec c1 s2)) (K : St → Option St) (hK : ∀ (s3 : St), VF mX4_yearGoes 2 SH jV 21 [(0, .ref b)] [] s3 (K s3)) (c1 : Int32) (s2 : St) : VF mX4_yearGoes 2 SH jV 2 [(0, .ref b), (1, .int c1)] [] s2 (B_X4_yearGoes_2 rec b K c1 s2) := by
  unfold B_X4_yearGoes_2
  refine v_iload_n dX4_yearGoes_2 rfl rfl ?_
  refine v_bipush (v := 32) dX4_yearGoes_3 (by decide +kernel) ?_
  refine v_icmp_ge (tgt := 21) dX4_yearGoes_5 (by decide) (fun _ => ?_) (fun _ => ?_)
  · skip
    exact v_pick [0] rfl (hK _)
  refine v_aload_n dX4_yearGoes_8 rfl rfl ?_
  refine v_getr dX4_yearGoes_9 kf_X4_19 h.1 rfl ?_
  refine v_iload_n dX4_yearGoes_12 rfl rfl ?_
  refine v_iconst (v := 0) dX4_yearGoes_13 (by decide +kernel) ?_
  refine v_gd (fun g4 => ?_)
  refine v_iast dX4_yearGoes_14 h.2.2.2.2.1 g4 rfl (v_st fun s5 => ?_)
  refine v_iinc (v := (c1 + (1 : Int32))) (L' := [(1, .int (c1 + (1 : Int32))), (0, .ref b)]) dX4_yearGoes_15 rfl rfl (by decide) rfl ?_
  refine v_goto (tgt := 2) dX4_yearGoes_18 (by decide) ?_
  exact v_pick [1, 0] rfl (hrec _ _)
theorem wL_X4_yearGoes_2 {SH : SHT} (b : Nat) (h : isModel SH b) (K : St → Option St) (hK : ∀ (s3 : St), VF mX4_yearGoes 2 SH jV 21 [(0, .ref b)] [] s3 (K s3)) : ∀ (n : Nat) (c1 : Int32) (s2 : St), VF mX4_yearGoes 2 SH jV 2 [(0, .ref b), (1, .int c1)] [] s2 (L_X4_yearGoes_2 b K n c1 s2) := by
  intro n
  induction n with
  | zero => intros; exact v_none
  | succ n ih => intro c1 s2; exact wB_X4_yearGoes_2 b h _ ih K hK c1 s2
set_option maxHeartbeats 4000000 in
set_option maxRecDepth 100000 in
theorem wB_X4_yearGoes_56 {SH : SHT} (b : Nat) (c6 : Int32) (h : isModel SH b) (rec : Int32 → St → Option St) (hrec : ∀ (c15 : Int32) (s16 : St), VF mX4_yearGoes 2 SH jV 56 [(0, .ref b), (1, .int c6), (2, .int c15)] [] s16 (rec c15 s16)) (K : St → Option St) (hK : ∀ (s17 : St), VF mX4_yearGoes 2 SH jV 105 [(0, .ref b), (1, .int c6)] [] s17 (K s17)) (c15 : Int32) (s16 : St) : VF mX4_yearGoes 2 SH jV 56 [(0, .ref b), (1, .int c6), (2, .int c15)] [] s16 (B_X4_yearGoes_56 rec b c6 K c15 s16) := by
  unfold B_X4_yearGoes_56
  refine v_iload_n dX4_yearGoes_56 rfl rfl ?_
  refine v_aload_n dX4_yearGoes_57 rfl rfl ?_
  refine v_getr dX4_yearGoes_58 kf_X4_7 h.1 rfl ?_
  refine v_iconst (v := 5) dX4_yearGoes_61 (by decide +kernel) ?_
  refine v_iald dX4_yearGoes_62 h.2.1 (by decide +kernel) (j := 5) (by decide +kernel) ?_
  refine v_icmp_ge (tgt := 105) dX4_yearGoes_63 (by decide) (fun _ => ?_) (fun _ => ?_)
  · skip
    exact v_pick [0, 1] rfl (hK _)
  refine v_aload_n dX4_yearGoes_66 rfl rfl ?_
  refine v_getr dX4_yearGoes_67 kf_X4_19 h.1 rfl ?_
  refine v_aload_n dX4_yearGoes_70 rfl rfl ?_
  refine v_iload_n dX4_yearGoes_71 rfl rfl ?_
  refine v_iconst (v := 3) dX4_yearGoes_72 (by decide +kernel) ?_
  refine v_cpI (fun z hz => runV (as := [.int c6, .int (3 : Int32)]) dX4_yearGoes_73 kv_X4_67 rfl rfl (Nat.le_of_ble_eq_true rfl) (Nat.le_of_ble_eq_true rfl) (recvW h.1 rfl rfl) (ct_X4_get _ _ _ h _) hz) (fun x18 => ?_)
  refine v_dup2 dX4_yearGoes_76 rfl rfl ?_
  refine v_gd (fun g19 => ?_)
  refine v_iald dX4_yearGoes_77 h.2.2.2.2.1 g19 rfl ?_
  refine v_aload_n dX4_yearGoes_78 rfl rfl ?_
  refine v_iload_n dX4_yearGoes_79 rfl rfl ?_
  refine v_iload_n dX4_yearGoes_80 rfl rfl ?_
  refine v_cpI (fun z hz => runV (as := [.int c6, .int c15]) dX4_yearGoes_81 kv_X4_82 rfl rfl (Nat.le_of_ble_eq_true rfl) (Nat.le_of_ble_eq_true rfl) (recvW h.1 rfl rfl) (ct_X4_doDisagree _ _ _ h _) hz) (fun x20 => ?_)
  refine v_bnK (fun K22 => ∀ (t21 : Int32), VF mX4_yearGoes 2 SH jV 97 [(0, .ref b), (1, .int c6), (2, .int c15)] [.int t21, .int (gA s16 (b + 4) (ix x18)), .int x18, .ref (b + 4)] s16 (K22 t21)) (fun K22 hK22 => ?_) (fun t21 => ?_)
  · skip
    refine v_if_eq (tgt := 96) dX4_yearGoes_84 (by decide) (fun _ => ?_) (fun _ => ?_)
    · skip
      refine v_iconst (v := 0) dX4_yearGoes_96 (by decide +kernel) ?_
      exact v_pick [0, 1, 2] rfl (hK22 _)
    refine v_aload_n dX4_yearGoes_87 rfl rfl ?_
    refine v_getr dX4_yearGoes_88 kf_X4_7 h.1 rfl ?_
    refine v_iconst (v := 1) dX4_yearGoes_91 (by decide +kernel) ?_
    refine v_iald dX4_yearGoes_92 h.2.1 (by decide +kernel) (j := 1) (by decide +kernel) ?_
    refine v_goto (tgt := 97) dX4_yearGoes_93 (by decide) ?_
    exact v_pick [0, 1, 2] rfl (hK22 _)
  refine v_iadd dX4_yearGoes_97 ?_
  refine v_gd (fun g23 => ?_)
  refine v_iast dX4_yearGoes_98 h.2.2.2.2.1 g23 rfl (v_st fun s24 => ?_)
  refine v_iinc (v := (c15 + (1 : Int32))) (L' := [(2, .int (c15 + (1 : Int32))), (0, .ref b), (1, .int c6)]) dX4_yearGoes_99 rfl rfl (by decide) rfl ?_
  refine v_goto (tgt := 56) dX4_yearGoes_102 (by decide) ?_
  exact v_pick [1, 2, 0] rfl (hrec _ _)
theorem wL_X4_yearGoes_56 {SH : SHT} (b : Nat) (c6 : Int32) (h : isModel SH b) (K : St → Option St) (hK : ∀ (s17 : St), VF mX4_yearGoes 2 SH jV 105 [(0, .ref b), (1, .int c6)] [] s17 (K s17)) : ∀ (n : Nat) (c15 : Int32) (s16 : St), VF mX4_yearGoes 2 SH jV 56 [(0, .ref b), (1, .int c6), (2, .int c15)] [] s16 (L_X4_yearGoes_56 b c6 K n c15 s16) := by
  intro n
  induction n with
  | zero => intros; exact v_none
  | succ n ih => intro c15 s16; exact wB_X4_yearGoes_56 b c6 h _ ih K hK c15 s16
set_option maxHeartbeats 4000000 in
set_option maxRecDepth 100000 in
theorem wB_X4_yearGoes_23 {SH : SHT} (b : Nat) (h : isModel SH b) (rec : Int32 → St → Option St) (hrec : ∀ (c6 : Int32) (s7 : St), VF mX4_yearGoes 2 SH jV 23 [(0, .ref b), (1, .int c6)] [] s7 (rec c6 s7)) (K : St → Option St) (hK : ∀ (s8 : St), VF mX4_yearGoes 2 SH jV 111 [(0, .ref b)] [] s8 (K s8)) (c6 : Int32) (s7 : St) : VF mX4_yearGoes 2 SH jV 23 [(0, .ref b), (1, .int c6)] [] s7 (B_X4_yearGoes_23 rec b K c6 s7) := by
  unfold B_X4_yearGoes_23
  refine v_iload_n dX4_yearGoes_23 rfl rfl ?_
  refine v_aload_n dX4_yearGoes_24 rfl rfl ?_
  refine v_getr dX4_yearGoes_25 kf_X4_7 h.1 rfl ?_
  refine v_iconst (v := 5) dX4_yearGoes_28 (by decide +kernel) ?_
  refine v_iald dX4_yearGoes_29 h.2.1 (by decide +kernel) (j := 5) (by decide +kernel) ?_
  refine v_icmp_ge (tgt := 111) dX4_yearGoes_30 (by decide) (fun _ => ?_) (fun _ => ?_)
  · skip
    exact v_pick [0] rfl (hK _)
  refine v_aload_n dX4_yearGoes_33 rfl rfl ?_
  refine v_getr dX4_yearGoes_34 kf_X4_19 h.1 rfl ?_
  refine v_aload_n dX4_yearGoes_37 rfl rfl ?_
  refine v_iload_n dX4_yearGoes_38 rfl rfl ?_
  refine v_iconst (v := 3) dX4_yearGoes_39 (by decide +kernel) ?_
  refine v_cpI (fun z hz => runV (as := [.int c6, .int (3 : Int32)]) dX4_yearGoes_40 kv_X4_67 rfl rfl (Nat.le_of_ble_eq_true rfl) (Nat.le_of_ble_eq_true rfl) (recvW h.1 rfl rfl) (ct_X4_get _ _ _ h _) hz) (fun x9 => ?_)
  refine v_dup2 dX4_yearGoes_43 rfl rfl ?_
  refine v_gd (fun g10 => ?_)
  refine v_iald dX4_yearGoes_44 h.2.2.2.2.1 g10 rfl ?_
  refine v_aload_n dX4_yearGoes_45 rfl rfl ?_
  refine v_iload_n dX4_yearGoes_46 rfl rfl ?_
  refine v_cpI (fun z hz => runV (as := [.int c6]) dX4_yearGoes_47 kv_X4_79 rfl rfl (Nat.le_of_ble_eq_true rfl) (Nat.le_of_ble_eq_true rfl) (recvW h.1 rfl rfl) (ct_X4_wells _ _ h _) hz) (fun x11 => ?_)
  refine v_iadd dX4_yearGoes_50 ?_
  refine v_gd (fun g12 => ?_)
  refine v_iast dX4_yearGoes_51 h.2.2.2.2.1 g12 rfl (v_st fun s13 => ?_)
  refine v_iload_n dX4_yearGoes_52 rfl rfl ?_
  refine v_iconst (v := 1) dX4_yearGoes_53 (by decide +kernel) ?_
  refine v_iadd dX4_yearGoes_54 ?_
  refine v_topi (fun x14 => ?_)
  refine v_istore_n (L' := [(2, .int x14), (0, .ref b), (1, .int c6)]) dX4_yearGoes_55 rfl (by decide) rfl ?_
  refine v_pick [1, 2, 0] rfl (wL_X4_yearGoes_56 b c6 h _ (fun s17 => ?_) FU _ _)
  refine v_iinc (v := (c6 + (1 : Int32))) (L' := [(1, .int (c6 + (1 : Int32))), (0, .ref b)]) dX4_yearGoes_105 rfl rfl (by decide) rfl ?_
  refine v_goto (tgt := 23) dX4_yearGoes_108 (by decide) ?_
  exact v_pick [1, 0] rfl (hrec _ _)
theorem wL_X4_yearGoes_23 {SH : SHT} (b : Nat) (h : isModel SH b) (K : St → Option St) (hK : ∀ (s8 : St), VF mX4_yearGoes 2 SH jV 111 [(0, .ref b)] [] s8 (K s8)) : ∀ (n : Nat) (c6 : Int32) (s7 : St), VF mX4_yearGoes 2 SH jV 23 [(0, .ref b), (1, .int c6)] [] s7 (L_X4_yearGoes_23 b K n c6 s7) := by
  intro n
  induction n with
  | zero => intros; exact v_none
  | succ n ih => intro c6 s7; exact wB_X4_yearGoes_23 b h _ ih K hK c6 s7
set_option maxHeartbeats 4000000 in
set_option maxRecDepth 100000 in
theorem wB_X4_yearGoes_113 {SH : SHT} (b : Nat) (h : isModel SH b) (rec : Int32 → St → Option St) (hrec : ∀ (c25 : Int32) (s26 : St), VF mX4_yearGoes 2 SH jV 113 [(0, .ref b), (1, .int c25)] [] s26 (rec c25 s26)) (K : St → Option St) (hK : ∀ (s27 : St), VF mX4_yearGoes 2 SH jV 136 [(0, .ref b)] [] s27 (K s27)) (c25 : Int32) (s26 : St) : VF mX4_yearGoes 2 SH jV 113 [(0, .ref b), (1, .int c25)] [] s26 (B_X4_yearGoes_113 rec b K c25 s26) := by
  unfold B_X4_yearGoes_113
  refine v_iload_n dX4_yearGoes_113 rfl rfl ?_
  refine v_bipush (v := 32) dX4_yearGoes_114 (by decide +kernel) ?_
  refine v_icmp_ge (tgt := 136) dX4_yearGoes_116 (by decide) (fun _ => ?_) (fun _ => ?_)
  · skip
    exact v_pick [0] rfl (hK _)
  refine v_aload_n dX4_yearGoes_119 rfl rfl ?_
  refine v_iload_n dX4_yearGoes_120 rfl rfl ?_
  refine v_aload_n dX4_yearGoes_121 rfl rfl ?_
  refine v_getr dX4_yearGoes_122 kf_X4_19 h.1 rfl ?_
  refine v_iload_n dX4_yearGoes_125 rfl rfl ?_
  refine v_gd (fun g28 => ?_)
  refine v_iald dX4_yearGoes_126 h.2.2.2.2.1 g28 rfl ?_
  refine v_cw (fun z hz => runV (as := [.int c25, .int (gA s26 (b + 4) (ix c25))]) dX4_yearGoes_127 kv_X4_86 rfl rfl (Nat.le_of_ble_eq_true rfl) (Nat.le_of_ble_eq_true rfl) (recvW h.1 rfl rfl) (ct_X4_comesTo _ _ _ h _) hz) (fun s29 => ?_)
  refine v_iinc (v := (c25 + (1 : Int32))) (L' := [(1, .int (c25 + (1 : Int32))), (0, .ref b)]) dX4_yearGoes_130 rfl rfl (by decide) rfl ?_
  refine v_goto (tgt := 113) dX4_yearGoes_133 (by decide) ?_
  exact v_pick [1, 0] rfl (hrec _ _)
theorem wL_X4_yearGoes_113 {SH : SHT} (b : Nat) (h : isModel SH b) (K : St → Option St) (hK : ∀ (s27 : St), VF mX4_yearGoes 2 SH jV 136 [(0, .ref b)] [] s27 (K s27)) : ∀ (n : Nat) (c25 : Int32) (s26 : St), VF mX4_yearGoes 2 SH jV 113 [(0, .ref b), (1, .int c25)] [] s26 (L_X4_yearGoes_113 b K n c25 s26) := by
  intro n
  induction n with
  | zero => intros; exact v_none
  | succ n ih => intro c25 s26; exact wB_X4_yearGoes_113 b h _ ih K hK c25 s26
set_option maxHeartbeats 4000000 in
set_option maxRecDepth 100000 in
theorem wB_X4_yearGoes_138 {SH : SHT} (b : Nat) (h : isModel SH b) (rec : Int32 → St → Option St) (hrec : ∀ (c30 : Int32) (s31 : St), VF mX4_yearGoes 2 SH jV 138 [(0, .ref b), (1, .int c30)] [] s31 (rec c30 s31)) (K : St → Option St) (hK : ∀ (s32 : St), VF mX4_yearGoes 2 SH jV 212 [(0, .ref b)] [] s32 (K s32)) (c30 : Int32) (s31 : St) : VF mX4_yearGoes 2 SH jV 138 [(0, .ref b), (1, .int c30)] [] s31 (B_X4_yearGoes_138 rec b K c30 s31) := by
  unfold B_X4_yearGoes_138
  refine v_iload_n dX4_yearGoes_138 rfl rfl ?_
  refine v_bipush (v := 32) dX4_yearGoes_139 (by decide +kernel) ?_
  refine v_icmp_ge (tgt := 212) dX4_yearGoes_141 (by decide) (fun _ => ?_) (fun _ => ?_)
  · skip
    exact v_pick [0] rfl (hK _)
  refine v_aload_n dX4_yearGoes_144 rfl rfl ?_
  refine v_getr dX4_yearGoes_145 kf_X4_7 h.1 rfl ?_
  refine v_bipush (v := 39) dX4_yearGoes_148 (by decide +kernel) ?_
  refine v_iload_n dX4_yearGoes_150 rfl rfl ?_
  refine v_iadd dX4_yearGoes_151 ?_
  refine v_gd (fun g33 => ?_)
  refine v_iald dX4_yearGoes_152 h.2.1 g33 rfl ?_
  refine v_aload_n dX4_yearGoes_153 rfl rfl ?_
  refine v_getr dX4_yearGoes_154 kf_X4_7 h.1 rfl ?_
  refine v_iconst (v := 2) dX4_yearGoes_157 (by decide +kernel) ?_
  refine v_iald dX4_yearGoes_158 h.2.1 (by decide +kernel) (j := 2) (by decide +kernel) ?_
  refine v_isub dX4_yearGoes_159 ?_
  refine v_topi (fun x34 => ?_)
  refine v_istore_n (L' := [(2, .int x34), (0, .ref b), (1, .int c30)]) dX4_yearGoes_160 rfl (by decide) rfl ?_
  refine v_iload_n dX4_yearGoes_161 rfl rfl ?_
  refine v_iconst (v := 1) dX4_yearGoes_162 (by decide +kernel) ?_
  refine v_bnK (fun K36 => ∀ (t35 : Int32), VF mX4_yearGoes 2 SH jV 176 [(0, .ref b), (1, .int c30), (2, .int x34)] [.int t35] s31 (K36 t35)) (fun K36 hK36 => ?_) (fun t35 => ?_)
  · skip
    refine v_icmp_le (tgt := 174) dX4_yearGoes_163 (by decide) (fun _ => ?_) (fun _ => ?_)
    · skip
      refine v_bipush (v := -3) dX4_yearGoes_174 (by decide +kernel) ?_
      exact v_pick [1, 2, 0] rfl (hK36 _)
    refine v_aload_n dX4_yearGoes_166 rfl rfl ?_
    refine v_iload_n dX4_yearGoes_167 rfl rfl ?_
    refine v_cpI (fun z hz => runV (as := [.int c30]) dX4_yearGoes_168 kv_X4_90 rfl rfl (Nat.le_of_ble_eq_true rfl) (Nat.le_of_ble_eq_true rfl) (recvW h.1 rfl rfl) (ct_X4_lowestOf _ _ h _) hz) (fun x37 => ?_)
    refine v_goto (tgt := 176) dX4_yearGoes_171 (by decide) ?_
    exact v_pick [1, 2, 0] rfl (hK36 _)
  refine v_istore_n (L' := [(3, .int t35), (0, .ref b), (1, .int c30), (2, .int x34)]) dX4_yearGoes_176 rfl (by decide) rfl ?_
  refine v_iload_n dX4_yearGoes_177 rfl rfl ?_
  refine v_bipush (v := -3) dX4_yearGoes_178 (by decide +kernel) ?_
  refine v_bnK (fun K39 => ∀ (s38 : St), VF mX4_yearGoes 2 SH jV 206 [(0, .ref b), (1, .int c30)] [] s38 (K39 s38)) (fun K39 hK39 => ?_) (fun s38 => ?_)
  · skip
    refine v_icmp_eq (tgt := 206) dX4_yearGoes_180 (by decide) (fun _ => ?_) (fun _ => ?_)
    · skip
      exact v_pick [1, 2] rfl (hK39 _)
    refine v_aload_n dX4_yearGoes_183 rfl rfl ?_
    refine v_getr dX4_yearGoes_184 kf_X4_7 h.1 rfl ?_
    refine v_bipush (v := 39) dX4_yearGoes_187 (by decide +kernel) ?_
    refine v_iload_n dX4_yearGoes_189 rfl rfl ?_
    refine v_iadd dX4_yearGoes_190 ?_
    refine v_topi (fun x40 => ?_)
    refine v_dup2 dX4_yearGoes_191 rfl rfl ?_
    refine v_gd (fun g41 => ?_)
    refine v_iald dX4_yearGoes_192 h.2.1 g41 rfl ?_
    refine v_iload_n dX4_yearGoes_193 rfl rfl ?_
    refine v_iconst (v := 2) dX4_yearGoes_194 (by decide +kernel) ?_
    refine v_idiv' dX4_yearGoes_195 (by decide +kernel) ?_
    refine v_isub dX4_yearGoes_196 ?_
    refine v_gd (fun g42 => ?_)
    refine v_iast dX4_yearGoes_197 h.2.1 g42 rfl (v_st fun s43 => ?_)
    refine v_aload_n dX4_yearGoes_198 rfl rfl ?_
    refine v_iload_n dX4_yearGoes_199 rfl rfl ?_
    refine v_iload_n dX4_yearGoes_200 rfl rfl ?_
    refine v_iconst (v := 2) dX4_yearGoes_201 (by decide +kernel) ?_
    refine v_idiv' dX4_yearGoes_202 (by decide +kernel) ?_
    refine v_cw (fun z hz => runV (as := [.int t35, .int (x34 / (2 : Int32))]) dX4_yearGoes_203 kv_X4_86 rfl rfl (Nat.le_of_ble_eq_true rfl) (Nat.le_of_ble_eq_true rfl) (recvW h.1 rfl rfl) (ct_X4_comesTo _ _ _ h _) hz) (fun s44 => ?_)
    exact v_pick [1, 2] rfl (hK39 _)
  refine v_iinc (v := (c30 + (1 : Int32))) (L' := [(1, .int (c30 + (1 : Int32))), (0, .ref b)]) dX4_yearGoes_206 rfl rfl (by decide) rfl ?_
  refine v_goto (tgt := 138) dX4_yearGoes_209 (by decide) ?_
  exact v_pick [1, 0] rfl (hrec _ _)
theorem wL_X4_yearGoes_138 {SH : SHT} (b : Nat) (h : isModel SH b) (K : St → Option St) (hK : ∀ (s32 : St), VF mX4_yearGoes 2 SH jV 212 [(0, .ref b)] [] s32 (K s32)) : ∀ (n : Nat) (c30 : Int32) (s31 : St), VF mX4_yearGoes 2 SH jV 138 [(0, .ref b), (1, .int c30)] [] s31 (L_X4_yearGoes_138 b K n c30 s31) := by
  intro n
  induction n with
  | zero => intros; exact v_none
  | succ n ih => intro c30 s31; exact wB_X4_yearGoes_138 b h _ ih K hK c30 s31
set_option maxHeartbeats 4000000 in
set_option maxRecDepth 100000 in
theorem wB_X4_yearGoes_214 {SH : SHT} (b : Nat) (h : isModel SH b) (rec : Int32 → St → Option St) (hrec : ∀ (c45 : Int32) (s46 : St), VF mX4_yearGoes 2 SH jV 214 [(0, .ref b), (1, .int c45)] [] s46 (rec c45 s46)) (K : St → Option St) (hK : ∀ (s47 : St), VF mX4_yearGoes 2 SH jV 282 [(0, .ref b)] [] s47 (K s47)) (c45 : Int32) (s46 : St) : VF mX4_yearGoes 2 SH jV 214 [(0, .ref b), (1, .int c45)] [] s46 (B_X4_yearGoes_214 rec b K c45 s46) := by
  unfold B_X4_yearGoes_214
  refine v_iload_n dX4_yearGoes_214 rfl rfl ?_
  refine v_aload_n dX4_yearGoes_215 rfl rfl ?_
  refine v_getr dX4_yearGoes_216 kf_X4_7 h.1 rfl ?_
  refine v_iconst (v := 5) dX4_yearGoes_219 (by decide +kernel) ?_
  refine v_iald dX4_yearGoes_220 h.2.1 (by decide +kernel) (j := 5) (by decide +kernel) ?_
  refine v_icmp_ge (tgt := 282) dX4_yearGoes_221 (by decide) (fun _ => ?_) (fun _ => ?_)
  · skip
    exact v_pick [0] rfl (hK _)
  refine v_aload_n dX4_yearGoes_224 rfl rfl ?_
  refine v_iload_n dX4_yearGoes_225 rfl rfl ?_
  refine v_iconst (v := 2) dX4_yearGoes_226 (by decide +kernel) ?_
  refine v_cpI (fun z hz => runV (as := [.int c45, .int (2 : Int32)]) dX4_yearGoes_227 kv_X4_67 rfl rfl (Nat.le_of_ble_eq_true rfl) (Nat.le_of_ble_eq_true rfl) (recvW h.1 rfl rfl) (ct_X4_get _ _ _ h _) hz) (fun x48 => ?_)
  refine v_bnK (fun K50 => ∀ (s49 : St), VF mX4_yearGoes 2 SH jV 276 [(0, .ref b), (1, .int c45)] [] s49 (K50 s49)) (fun K50 hK50 => ?_) (fun s49 => ?_)
  · skip
    refine v_if_le (tgt := 276) dX4_yearGoes_230 (by decide) (fun _ => ?_) (fun _ => ?_)
    · skip
      exact v_pick [0, 1] rfl (hK50 _)
    refine v_aload_n dX4_yearGoes_233 rfl rfl ?_
    refine v_iload_n dX4_yearGoes_234 rfl rfl ?_
    refine v_iconst (v := 2) dX4_yearGoes_235 (by decide +kernel) ?_
    refine v_aload_n dX4_yearGoes_236 rfl rfl ?_
    refine v_iload_n dX4_yearGoes_237 rfl rfl ?_
    refine v_iconst (v := 2) dX4_yearGoes_238 (by decide +kernel) ?_
    refine v_cpI (fun z hz => runV (as := [.int c45, .int (2 : Int32)]) dX4_yearGoes_239 kv_X4_67 rfl rfl (Nat.le_of_ble_eq_true rfl) (Nat.le_of_ble_eq_true rfl) (recvW h.1 rfl rfl) (ct_X4_get _ _ _ h _) hz) (fun x51 => ?_)
    refine v_aload_n dX4_yearGoes_242 rfl rfl ?_
    refine v_aload_n dX4_yearGoes_243 rfl rfl ?_
    refine v_iload_n dX4_yearGoes_244 rfl rfl ?_
    refine v_iconst (v := 3) dX4_yearGoes_245 (by decide +kernel) ?_
    refine v_cpI (fun z hz => runV (as := [.int c45, .int (3 : Int32)]) dX4_yearGoes_246 kv_X4_67 rfl rfl (Nat.le_of_ble_eq_true rfl) (Nat.le_of_ble_eq_true rfl) (recvW h.1 rfl rfl) (ct_X4_get _ _ _ h _) hz) (fun x52 => ?_)
    refine v_cpI (fun z hz => runV (as := [.int x52]) dX4_yearGoes_249 kv_X4_93 rfl rfl (Nat.le_of_ble_eq_true rfl) (Nat.le_of_ble_eq_true rfl) (recvW h.1 rfl rfl) (ct_X4_isWet _ _ h _) hz) (fun x53 => ?_)
    refine v_bnK (fun K55 => ∀ (t54 : Int32), VF mX4_yearGoes 2 SH jV 269 [(0, .ref b), (1, .int c45)] [.int t54, .int x51, .int (2 : Int32), .int c45, .ref b] s46 (K55 t54)) (fun K55 hK55 => ?_) (fun t54 => ?_)
    · skip
      refine v_if_eq (tgt := 264) dX4_yearGoes_252 (by decide) (fun _ => ?_) (fun _ => ?_)
      · skip
        refine v_aload_n dX4_yearGoes_264 rfl rfl ?_
        refine v_iload_n dX4_yearGoes_265 rfl rfl ?_
        refine v_cpI (fun z hz => runV (as := [.int c45]) dX4_yearGoes_266 kv_X4_100 rfl rfl (Nat.le_of_ble_eq_true rfl) (Nat.le_of_ble_eq_true rfl) (recvW h.1 rfl rfl) (ct_X4_winsOf _ _ h _) hz) (fun x56 => ?_)
        exact v_pick [0, 1] rfl (hK55 _)
      refine v_aload_n dX4_yearGoes_255 rfl rfl ?_
      refine v_iload_n dX4_yearGoes_256 rfl rfl ?_
      refine v_cpI (fun z hz => runV (as := [.int c45]) dX4_yearGoes_257 kv_X4_97 rfl rfl (Nat.le_of_ble_eq_true rfl) (Nat.le_of_ble_eq_true rfl) (recvW h.1 rfl rfl) (ct_X4_losesOf _ _ h _) hz) (fun x57 => ?_)
      refine v_ineg dX4_yearGoes_260 ?_
      refine v_goto (tgt := 269) dX4_yearGoes_261 (by decide) ?_
      exact v_pick [0, 1] rfl (hK55 _)
    refine v_iadd dX4_yearGoes_269 ?_
    refine v_cpI (fun z hz => runT (as := [.int (x51 + t54)]) dX4_yearGoes_270 kt_X4_75 rfl rfl (Nat.le_of_ble_eq_true rfl) (Nat.le_of_ble_eq_true rfl) (ct_X4_held _  _) hz) (fun x58 => ?_)
    refine v_cw (fun z hz => runV (as := [.int c45, .int (2 : Int32), .int x58]) dX4_yearGoes_273 kv_X4_103 rfl rfl (Nat.le_of_ble_eq_true rfl) (Nat.le_of_ble_eq_true rfl) (recvW h.1 rfl rfl) (ct_X4_puts _ _ _ _ h _) hz) (fun s59 => ?_)
    exact v_pick [0, 1] rfl (hK50 _)
  refine v_iinc (v := (c45 + (1 : Int32))) (L' := [(1, .int (c45 + (1 : Int32))), (0, .ref b)]) dX4_yearGoes_276 rfl rfl (by decide) rfl ?_
  refine v_goto (tgt := 214) dX4_yearGoes_279 (by decide) ?_
  exact v_pick [1, 0] rfl (hrec _ _)
theorem wL_X4_yearGoes_214 {SH : SHT} (b : Nat) (h : isModel SH b) (K : St → Option St) (hK : ∀ (s47 : St), VF mX4_yearGoes 2 SH jV 282 [(0, .ref b)] [] s47 (K s47)) : ∀ (n : Nat) (c45 : Int32) (s46 : St), VF mX4_yearGoes 2 SH jV 214 [(0, .ref b), (1, .int c45)] [] s46 (L_X4_yearGoes_214 b K n c45 s46) := by
  intro n
  induction n with
  | zero => intros; exact v_none
  | succ n ih => intro c45 s46; exact wB_X4_yearGoes_214 b h _ ih K hK c45 s46
set_option maxHeartbeats 4000000 in
set_option maxRecDepth 100000 in
theorem w_X4_yearGoes {SH : SHT} (b : Nat) (h : isModel SH b) (s0 : St) : VF mX4_yearGoes 2 SH jV 0 [(0, .ref b)] [] s0 (f_X4_yearGoes b s0) := by
  unfold f_X4_yearGoes
  refine v_iconst (v := 0) dX4_yearGoes_0 (by decide +kernel) ?_
  refine v_istore_n (L' := [(1, .int (0 : Int32)), (0, .ref b)]) dX4_yearGoes_1 rfl (by decide) rfl ?_
  refine v_pick [1, 0] rfl (wL_X4_yearGoes_2 b h _ (fun s3 => ?_) FU _ _)
  refine v_iconst (v := 0) dX4_yearGoes_21 (by decide +kernel) ?_
  refine v_istore_n (L' := [(1, .int (0 : Int32)), (0, .ref b)]) dX4_yearGoes_22 rfl (by decide) rfl ?_
  refine v_pick [1, 0] rfl (wL_X4_yearGoes_23 b h _ (fun s8 => ?_) FU _ _)
  refine v_iconst (v := 0) dX4_yearGoes_111 (by decide +kernel) ?_
  refine v_istore_n (L' := [(1, .int (0 : Int32)), (0, .ref b)]) dX4_yearGoes_112 rfl (by decide) rfl ?_
  refine v_pick [1, 0] rfl (wL_X4_yearGoes_113 b h _ (fun s27 => ?_) FU _ _)
  refine v_iconst (v := 0) dX4_yearGoes_136 (by decide +kernel) ?_
  refine v_istore_n (L' := [(1, .int (0 : Int32)), (0, .ref b)]) dX4_yearGoes_137 rfl (by decide) rfl ?_
  refine v_pick [1, 0] rfl (wL_X4_yearGoes_138 b h _ (fun s32 => ?_) FU _ _)
  refine v_iconst (v := 0) dX4_yearGoes_212 (by decide +kernel) ?_
  refine v_istore_n (L' := [(1, .int (0 : Int32)), (0, .ref b)]) dX4_yearGoes_213 rfl (by decide) rfl ?_
  refine v_pick [1, 0] rfl (wL_X4_yearGoes_214 b h _ (fun s47 => ?_) FU _ _)
  refine v_aload_n dX4_yearGoes_282 rfl rfl ?_
  refine v_getr dX4_yearGoes_283 kf_X4_7 h.1 rfl ?_
  refine v_iconst (v := 4) dX4_yearGoes_286 (by decide +kernel) ?_
  refine v_dup2 dX4_yearGoes_287 rfl rfl ?_
  refine v_iald dX4_yearGoes_288 h.2.1 (by decide +kernel) (j := 4) (by decide +kernel) ?_
  refine v_iconst (v := 1) dX4_yearGoes_289 (by decide +kernel) ?_
  refine v_iadd dX4_yearGoes_290 ?_
  refine v_iast dX4_yearGoes_291 h.2.1 (by decide +kernel) (j := 4) (by decide +kernel) (v_st fun s60 => ?_)
  exact v_vret dX4_yearGoes_292 rfl rfl
theorem ct_X4_yearGoes {SH : SHT} (b : Nat) (h : isModel SH b) (s0 : St) : CT yX4_yearGoes mX4_yearGoes 2 SH jV [.ref b] s0 (f_X4_yearGoes b s0) := CT.of (by decide +kernel) rfl (fun E => Nat.le_of_ble_eq_true rfl) (w_X4_yearGoes b h s0)
set_option maxHeartbeats 4000000 in
set_option maxRecDepth 100000 in
theorem wB_X4_yearsGo_2 {SH : SHT} (b : Nat) (a1 : Int32) (h : isModel SH b) (rec : Int32 → St → Option St) (hrec : ∀ (c1 : Int32) (s2 : St), VF mX4_yearsGo 3 SH jV 2 [(0, .ref b), (1, .int a1), (2, .int c1)] [] s2 (rec c1 s2)) (K : St → Option St) (hK : ∀ (s3 : St), VF mX4_yearsGo 3 SH jV 17 [] [] s3 (K s3)) (c1 : Int32) (s2 : St) : VF mX4_yearsGo 3 SH jV 2 [(0, .ref b), (1, .int a1), (2, .int c1)] [] s2 (B_X4_yearsGo_2 rec b a1 K c1 s2) := by
  unfold B_X4_yearsGo_2
  refine v_iload_n dX4_yearsGo_2 rfl rfl ?_
  refine v_iload_n dX4_yearsGo_3 rfl rfl ?_
  refine v_icmp_ge (tgt := 17) dX4_yearsGo_4 (by decide) (fun _ => ?_) (fun _ => ?_)
  · skip
    exact v_pick [] rfl (hK _)
  refine v_aload_n dX4_yearsGo_7 rfl rfl ?_
  refine v_cw (fun z hz => runV (as := []) dX4_yearsGo_8 kv_X4_107 rfl rfl (Nat.le_of_ble_eq_true rfl) (Nat.le_of_ble_eq_true rfl) (recvW h.1 rfl rfl) (ct_X4_yearGoes _ h _) hz) (fun s4 => ?_)
  refine v_iinc (v := (c1 + (1 : Int32))) (L' := [(2, .int (c1 + (1 : Int32))), (0, .ref b), (1, .int a1)]) dX4_yearsGo_11 rfl rfl (by decide) rfl ?_
  refine v_goto (tgt := 2) dX4_yearsGo_14 (by decide) ?_
  exact v_pick [1, 2, 0] rfl (hrec _ _)
theorem wL_X4_yearsGo_2 {SH : SHT} (b : Nat) (a1 : Int32) (h : isModel SH b) (K : St → Option St) (hK : ∀ (s3 : St), VF mX4_yearsGo 3 SH jV 17 [] [] s3 (K s3)) : ∀ (n : Nat) (c1 : Int32) (s2 : St), VF mX4_yearsGo 3 SH jV 2 [(0, .ref b), (1, .int a1), (2, .int c1)] [] s2 (L_X4_yearsGo_2 b a1 K n c1 s2) := by
  intro n
  induction n with
  | zero => intros; exact v_none
  | succ n ih => intro c1 s2; exact wB_X4_yearsGo_2 b a1 h _ ih K hK c1 s2
set_option maxHeartbeats 4000000 in
set_option maxRecDepth 100000 in
theorem w_X4_yearsGo {SH : SHT} (b : Nat) (a1 : Int32) (h : isModel SH b) (s0 : St) : VF mX4_yearsGo 3 SH jV 0 [(0, .ref b), (1, .int a1)] [] s0 (f_X4_yearsGo b a1 s0) := by
  unfold f_X4_yearsGo
  refine v_iconst (v := 0) dX4_yearsGo_0 (by decide +kernel) ?_
  refine v_istore_n (L' := [(2, .int (0 : Int32)), (0, .ref b), (1, .int a1)]) dX4_yearsGo_1 rfl (by decide) rfl ?_
  refine v_pick [1, 2, 0] rfl (wL_X4_yearsGo_2 b a1 h _ (fun s3 => ?_) FU _ _)
  exact v_vret dX4_yearsGo_17 rfl rfl
theorem ct_X4_yearsGo {SH : SHT} (b : Nat) (a1 : Int32) (h : isModel SH b) (s0 : St) : CT yX4_yearsGo mX4_yearsGo 3 SH jV [.ref b, .int a1] s0 (f_X4_yearsGo b a1 s0) := CT.of (by decide +kernel) rfl (fun E => Nat.le_of_ble_eq_true rfl) (w_X4_yearsGo b a1 h s0)
set_option maxHeartbeats 4000000 in
set_option maxRecDepth 100000 in
theorem w_X4_set {SH : SHT} (b : Nat) (a1 : Int32) (a2 : Int32) (h : isModel SH b) (s0 : St) : VF mX4_set 1 SH jI 0 [(0, .ref b), (1, .int a1), (2, .int a2)] [] s0 (f_X4_set b a1 a2 s0) := by
  unfold f_X4_set
  refine v_iload_n dX4_set_0 rfl rfl ?_
  refine v_i2l dX4_set_1 ?_
  refine v_lconst (v := 0) dX4_set_2 (by decide +kernel) ?_
  refine v_ldc2 dX4_set_3 kcL_X4_110 ?_
  refine v_cpI (fun z hz => runT (as := [.long (a1).toInt64, .long (0 : Int64), .long (3 : Int64)]) dX4_set_6 kt_X4_61 rfl rfl (Nat.le_of_ble_eq_true rfl) (Nat.le_of_ble_eq_true rfl) (ct_X4_in _ _ _  _) hz) (fun x1 => ?_)
  refine v_if_eq (tgt := 46) dX4_set_9 (by decide) (fun _ => ?_) (fun _ => ?_)
  · skip
    refine v_iconst (v := -1) dX4_set_46 (by decide +kernel) ?_
    exact v_ret (ty := .int) dX4_set_47 rfl rfl rfl
  refine v_iload_n dX4_set_12 rfl rfl ?_
  refine v_i2l dX4_set_13 ?_
  refine v_lconst (v := 0) dX4_set_14 (by decide +kernel) ?_
  refine v_iload_n dX4_set_15 rfl rfl ?_
  refine v_iconst (v := 2) dX4_set_16 (by decide +kernel) ?_
  refine v_bnK (fun K3 => ∀ (t2 : Int64), VF mX4_set 1 SH jI 40 [(0, .ref b), (1, .int a1), (2, .int a2)] [.long t2, .long (0 : Int64), .long (a2).toInt64] s0 (K3 t2)) (fun K3 hK3 => ?_) (fun t2 => ?_)
  · skip
    refine v_icmp_ge (tgt := 26) dX4_set_17 (by decide) (fun _ => ?_) (fun _ => ?_)
    · skip
      refine v_iload_n dX4_set_26 rfl rfl ?_
      refine v_iconst (v := 2) dX4_set_27 (by decide +kernel) ?_
      refine v_icmp_ne (tgt := 37) dX4_set_28 (by decide) (fun _ => ?_) (fun _ => ?_)
      · skip
        refine v_ldc2 dX4_set_37 kcL_X4_116 ?_
        exact v_pick [0, 1, 2] rfl (hK3 _)
      refine v_ldc2 dX4_set_31 kcL_X4_114 ?_
      refine v_goto (tgt := 40) dX4_set_34 (by decide) ?_
      exact v_pick [0, 1, 2] rfl (hK3 _)
    refine v_ldc2 dX4_set_20 kcL_X4_112 ?_
    refine v_goto (tgt := 40) dX4_set_23 (by decide) ?_
    exact v_pick [0, 1, 2] rfl (hK3 _)
  refine v_cpI (fun z hz => runT (as := [.long (a2).toInt64, .long (0 : Int64), .long t2]) dX4_set_40 kt_X4_61 rfl rfl (Nat.le_of_ble_eq_true rfl) (Nat.le_of_ble_eq_true rfl) (ct_X4_in _ _ _  _) hz) (fun x4 => ?_)
  refine v_if_ne (tgt := 48) dX4_set_43 (by decide) (fun _ => ?_) (fun _ => ?_)
  · skip
    refine v_aload_n dX4_set_48 rfl rfl ?_
    refine v_getr dX4_set_49 kf_X4_7 h.1 rfl ?_
    refine v_iload_n dX4_set_52 rfl rfl ?_
    refine v_gd (fun g5 => ?_)
    refine v_iald dX4_set_53 h.2.1 g5 rfl ?_
    refine v_topi (fun x6 => ?_)
    refine v_istore_n (L' := [(3, .int x6), (0, .ref b), (1, .int a1), (2, .int a2)]) dX4_set_54 rfl (by decide) rfl ?_
    refine v_aload_n dX4_set_55 rfl rfl ?_
    refine v_getr dX4_set_56 kf_X4_7 h.1 rfl ?_
    refine v_iload_n dX4_set_59 rfl rfl ?_
    refine v_iload_n dX4_set_60 rfl rfl ?_
    refine v_gd (fun g7 => ?_)
    refine v_iast dX4_set_61 h.2.1 g7 rfl (v_st fun s8 => ?_)
    refine v_iload_n dX4_set_62 rfl rfl ?_
    exact v_ret (ty := .int) dX4_set_63 rfl rfl rfl
  refine v_iconst (v := -1) dX4_set_46 (by decide +kernel) ?_
  exact v_ret (ty := .int) dX4_set_47 rfl rfl rfl
theorem ct_X4_set {SH : SHT} (b : Nat) (a1 : Int32) (a2 : Int32) (h : isModel SH b) (s0 : St) : CT yX4_set mX4_set 1 SH jI [.ref b, .int a1, .int a2] s0 (f_X4_set b a1 a2 s0) := CT.of (by decide +kernel) rfl (fun E => Nat.le_of_ble_eq_true rfl) (w_X4_set b a1 a2 h s0)
set_option maxHeartbeats 4000000 in
set_option maxRecDepth 100000 in
theorem w_X4_lawOf {SH : SHT} (b : Nat) (a1 : Int32) (h : isModel SH b) (s0 : St) : VF mX4_lawOf 1 SH (jP s0) 0 [(0, .ref b), (1, .int a1)] [] s0 (f_X4_lawOf b a1 s0) := by
  unfold f_X4_lawOf
  refine v_iload_n dX4_lawOf_0 rfl rfl ?_
  refine v_i2l dX4_lawOf_1 ?_
  refine v_lconst (v := 0) dX4_lawOf_2 (by decide +kernel) ?_
  refine v_ldc2 dX4_lawOf_3 kcL_X4_110 ?_
  refine v_cpI (fun z hz => runT (as := [.long (a1).toInt64, .long (0 : Int64), .long (3 : Int64)]) dX4_lawOf_6 kt_X4_61 rfl rfl (Nat.le_of_ble_eq_true rfl) (Nat.le_of_ble_eq_true rfl) (ct_X4_in _ _ _  _) hz) (fun x1 => ?_)
  refine v_if_eq (tgt := 21) dX4_lawOf_9 (by decide) (fun _ => ?_) (fun _ => ?_)
  · skip
    refine v_iconst (v := -1) dX4_lawOf_21 (by decide +kernel) ?_
    exact v_ret (ty := .int) dX4_lawOf_22 rfl rfl rfl
  refine v_aload_n dX4_lawOf_12 rfl rfl ?_
  refine v_getr dX4_lawOf_13 kf_X4_7 h.1 rfl ?_
  refine v_iload_n dX4_lawOf_16 rfl rfl ?_
  refine v_gd (fun g2 => ?_)
  refine v_iald dX4_lawOf_17 h.2.1 g2 rfl ?_
  refine v_goto (tgt := 22) dX4_lawOf_18 (by decide) ?_
  exact v_ret (ty := .int) dX4_lawOf_22 rfl rfl rfl
theorem ct_X4_lawOf {SH : SHT} (b : Nat) (a1 : Int32) (h : isModel SH b) (s0 : St) : CT yX4_lawOf mX4_lawOf 1 SH (jP s0) [.ref b, .int a1] s0 (f_X4_lawOf b a1 s0) := CT.of (by decide +kernel) rfl (fun E => Nat.le_of_ble_eq_true rfl) (w_X4_lawOf b a1 h s0)
set_option maxHeartbeats 4000000 in
set_option maxRecDepth 100000 in
theorem w_X4_comes {SH : SHT} (b : Nat) (a1 : Int32) (a2 : Int32) (a3 : Int32) (a4 : Int32) (h : isModel SH b) (s0 : St) : VF mX4_comes 1 SH jI 0 [(0, .ref b), (1, .int a1), (2, .int a2), (3, .int a3), (4, .int a4)] [] s0 (f_X4_comes b a1 a2 a3 a4 s0) := by
  unfold f_X4_comes
  refine v_aload_n dX4_comes_0 rfl rfl ?_
  refine v_getr dX4_comes_1 kf_X4_7 h.1 rfl ?_
  refine v_iconst (v := 5) dX4_comes_4 (by decide +kernel) ?_
  refine v_iald dX4_comes_5 h.2.1 (by decide +kernel) (j := 5) (by decide +kernel) ?_
  refine v_topi (fun x1 => ?_)
  refine v_istore (L' := [(5, .int x1), (0, .ref b), (1, .int a1), (2, .int a2), (3, .int a3), (4, .int a4)]) dX4_comes_6 (by decide) rfl ?_
  refine v_aload_n dX4_comes_8 rfl rfl ?_
  refine v_iload dX4_comes_9 rfl ?_
  refine v_iconst (v := 0) dX4_comes_11 (by decide +kernel) ?_
  refine v_iload_n dX4_comes_12 rfl rfl ?_
  refine v_cw (fun z hz => runV (as := [.int x1, .int (0 : Int32), .int a1]) dX4_comes_13 kv_X4_103 rfl rfl (Nat.le_of_ble_eq_true rfl) (Nat.le_of_ble_eq_true rfl) (recvW h.1 rfl rfl) (ct_X4_puts _ _ _ _ h _) hz) (fun s2 => ?_)
  refine v_aload_n dX4_comes_16 rfl rfl ?_
  refine v_iload dX4_comes_17 rfl ?_
  refine v_iconst (v := 1) dX4_comes_19 (by decide +kernel) ?_
  refine v_iload_n dX4_comes_20 rfl rfl ?_
  refine v_cw (fun z hz => runV (as := [.int x1, .int (1 : Int32), .int a2]) dX4_comes_21 kv_X4_103 rfl rfl (Nat.le_of_ble_eq_true rfl) (Nat.le_of_ble_eq_true rfl) (recvW h.1 rfl rfl) (ct_X4_puts _ _ _ _ h _) hz) (fun s3 => ?_)
  refine v_aload_n dX4_comes_24 rfl rfl ?_
  refine v_iload dX4_comes_25 rfl ?_
  refine v_iconst (v := 2) dX4_comes_27 (by decide +kernel) ?_
  refine v_iload_n dX4_comes_28 rfl rfl ?_
  refine v_cw (fun z hz => runV (as := [.int x1, .int (2 : Int32), .int a3]) dX4_comes_29 kv_X4_103 rfl rfl (Nat.le_of_ble_eq_true rfl) (Nat.le_of_ble_eq_true rfl) (recvW h.1 rfl rfl) (ct_X4_puts _ _ _ _ h _) hz) (fun s4 => ?_)
  refine v_aload_n dX4_comes_32 rfl rfl ?_
  refine v_iload dX4_comes_33 rfl ?_
  refine v_iconst (v := 3) dX4_comes_35 (by decide +kernel) ?_
  refine v_iload dX4_comes_36 rfl ?_
  refine v_cw (fun z hz => runV (as := [.int x1, .int (3 : Int32), .int a4]) dX4_comes_38 kv_X4_103 rfl rfl (Nat.le_of_ble_eq_true rfl) (Nat.le_of_ble_eq_true rfl) (recvW h.1 rfl rfl) (ct_X4_puts _ _ _ _ h _) hz) (fun s5 => ?_)
  refine v_aload_n dX4_comes_41 rfl rfl ?_
  refine v_getr dX4_comes_42 kf_X4_7 h.1 rfl ?_
  refine v_iconst (v := 5) dX4_comes_45 (by decide +kernel) ?_
  refine v_dup2 dX4_comes_46 rfl rfl ?_
  refine v_iald dX4_comes_47 h.2.1 (by decide +kernel) (j := 5) (by decide +kernel) ?_
  refine v_iconst (v := 1) dX4_comes_48 (by decide +kernel) ?_
  refine v_iadd dX4_comes_49 ?_
  refine v_iast dX4_comes_50 h.2.1 (by decide +kernel) (j := 5) (by decide +kernel) (v_st fun s6 => ?_)
  refine v_iload dX4_comes_51 rfl ?_
  exact v_ret (ty := .int) dX4_comes_53 rfl rfl rfl
theorem ct_X4_comes {SH : SHT} (b : Nat) (a1 : Int32) (a2 : Int32) (a3 : Int32) (a4 : Int32) (h : isModel SH b) (s0 : St) : CT yX4_comes mX4_comes 1 SH jI [.ref b, .int a1, .int a2, .int a3, .int a4] s0 (f_X4_comes b a1 a2 a3 a4 s0) := CT.of (by decide +kernel) rfl (fun E => Nat.le_of_ble_eq_true rfl) (w_X4_comes b a1 a2 a3 a4 h s0)
set_option maxHeartbeats 4000000 in
set_option maxRecDepth 100000 in
theorem w_X4_person {SH : SHT} (b : Nat) (a1 : Int32) (a2 : Int32) (a3 : Int32) (a4 : Int32) (h : isModel SH b) (s0 : St) : VF mX4_person 2 SH jI 0 [(0, .ref b), (1, .int a1), (2, .int a2), (3, .int a3), (4, .int a4)] [] s0 (f_X4_person b a1 a2 a3 a4 s0) := by
  unfold f_X4_person
  refine v_iload_n dX4_person_0 rfl rfl ?_
  refine v_i2l dX4_person_1 ?_
  refine v_lconst (v := 0) dX4_person_2 (by decide +kernel) ?_
  refine v_ldc2 dX4_person_3 kcL_X4_118 ?_
  refine v_cpI (fun z hz => runT (as := [.long (a1).toInt64, .long (0 : Int64), .long (5 : Int64)]) dX4_person_6 kt_X4_61 rfl rfl (Nat.le_of_ble_eq_true rfl) (Nat.le_of_ble_eq_true rfl) (ct_X4_in _ _ _  _) hz) (fun x1 => ?_)
  refine v_if_eq (tgt := 44) dX4_person_9 (by decide) (fun _ => ?_) (fun _ => ?_)
  · skip
    refine v_iconst (v := -1) dX4_person_44 (by decide +kernel) ?_
    exact v_ret (ty := .int) dX4_person_45 rfl rfl rfl
  refine v_iload_n dX4_person_12 rfl rfl ?_
  refine v_i2l dX4_person_13 ?_
  refine v_lconst (v := 0) dX4_person_14 (by decide +kernel) ?_
  refine v_ldc2 dX4_person_15 kcL_X4_112 ?_
  refine v_cpI (fun z hz => runT (as := [.long (a2).toInt64, .long (0 : Int64), .long (9 : Int64)]) dX4_person_18 kt_X4_61 rfl rfl (Nat.le_of_ble_eq_true rfl) (Nat.le_of_ble_eq_true rfl) (ct_X4_in _ _ _  _) hz) (fun x2 => ?_)
  refine v_if_eq (tgt := 44) dX4_person_21 (by decide) (fun _ => ?_) (fun _ => ?_)
  · skip
    refine v_iconst (v := -1) dX4_person_44 (by decide +kernel) ?_
    exact v_ret (ty := .int) dX4_person_45 rfl rfl rfl
  refine v_iload_n dX4_person_24 rfl rfl ?_
  refine v_i2l dX4_person_25 ?_
  refine v_lconst (v := 0) dX4_person_26 (by decide +kernel) ?_
  refine v_ldc2 dX4_person_27 kcL_X4_116 ?_
  refine v_cpI (fun z hz => runT (as := [.long (a3).toInt64, .long (0 : Int64), .long (99 : Int64)]) dX4_person_30 kt_X4_61 rfl rfl (Nat.le_of_ble_eq_true rfl) (Nat.le_of_ble_eq_true rfl) (ct_X4_in _ _ _  _) hz) (fun x3 => ?_)
  refine v_if_eq (tgt := 44) dX4_person_33 (by decide) (fun _ => ?_) (fun _ => ?_)
  · skip
    refine v_iconst (v := -1) dX4_person_44 (by decide +kernel) ?_
    exact v_ret (ty := .int) dX4_person_45 rfl rfl rfl
  refine v_iload dX4_person_36 rfl ?_
  refine v_cpI (fun z hz => runT (as := [.int a4]) dX4_person_38 kt_X4_120 rfl rfl (Nat.le_of_ble_eq_true rfl) (Nat.le_of_ble_eq_true rfl) (ct_X4_isCell _  _) hz) (fun x4 => ?_)
  refine v_if_ne (tgt := 46) dX4_person_41 (by decide) (fun _ => ?_) (fun _ => ?_)
  · skip
    refine v_aload_n dX4_person_46 rfl rfl ?_
    refine v_getr dX4_person_47 kf_X4_7 h.1 rfl ?_
    refine v_iconst (v := 5) dX4_person_50 (by decide +kernel) ?_
    refine v_iald dX4_person_51 h.2.1 (by decide +kernel) (j := 5) (by decide +kernel) ?_
    refine v_bipush (v := 8) dX4_person_52 (by decide +kernel) ?_
    refine v_icmp_ne (tgt := 62) dX4_person_54 (by decide) (fun _ => ?_) (fun _ => ?_)
    · skip
      refine v_aload_n dX4_person_62 rfl rfl ?_
      refine v_iload_n dX4_person_63 rfl rfl ?_
      refine v_iload_n dX4_person_64 rfl rfl ?_
      refine v_iload_n dX4_person_65 rfl rfl ?_
      refine v_iload dX4_person_66 rfl ?_
      refine v_cbI (fun z hz => runV (as := [.int a1, .int a2, .int a3, .int a4]) dX4_person_68 kv_X4_123 rfl rfl (Nat.le_of_ble_eq_true rfl) (Nat.le_of_ble_eq_true rfl) (recvW h.1 rfl rfl) (ct_X4_comes _ _ _ _ _ h _) hz) (fun x6 s5 => ?_)
      exact v_ret (ty := .int) dX4_person_71 rfl rfl rfl
    refine v_bipush (v := -2) dX4_person_57 (by decide +kernel) ?_
    refine v_goto (tgt := 71) dX4_person_59 (by decide) ?_
    exact v_ret (ty := .int) dX4_person_71 rfl rfl rfl
  refine v_iconst (v := -1) dX4_person_44 (by decide +kernel) ?_
  exact v_ret (ty := .int) dX4_person_45 rfl rfl rfl
theorem ct_X4_person {SH : SHT} (b : Nat) (a1 : Int32) (a2 : Int32) (a3 : Int32) (a4 : Int32) (h : isModel SH b) (s0 : St) : CT yX4_person mX4_person 2 SH jI [.ref b, .int a1, .int a2, .int a3, .int a4] s0 (f_X4_person b a1 a2 a3 a4 s0) := CT.of (by decide +kernel) rfl (fun E => Nat.le_of_ble_eq_true rfl) (w_X4_person b a1 a2 a3 a4 h s0)
set_option maxHeartbeats 4000000 in
set_option maxRecDepth 100000 in
theorem wB_X4_foesOf_4 {SH : SHT} (b : Nat) (a1 : Int32) (s0 : St) (h : isModel SH b) (rec : Int32 → Int32 → Option Int32) (hrec : ∀ (c1 : Int32) (c2 : Int32), VF mX4_foesOf 2 SH (jP s0) 4 [(0, .ref b), (1, .int a1), (2, .int c1), (3, .int c2)] [] s0 (rec c1 c2)) (K : Int32 → Option Int32) (hK : ∀ (e3 : Int32), VF mX4_foesOf 2 SH (jP s0) 39 [(2, .int e3)] [] s0 (K e3)) (c1 : Int32) (c2 : Int32) : VF mX4_foesOf 2 SH (jP s0) 4 [(0, .ref b), (1, .int a1), (2, .int c1), (3, .int c2)] [] s0 (B_X4_foesOf_4 rec b a1 s0 K c1 c2) := by
  unfold B_X4_foesOf_4
  refine v_iload_n dX4_foesOf_4 rfl rfl ?_
  refine v_aload_n dX4_foesOf_5 rfl rfl ?_
  refine v_getr dX4_foesOf_6 kf_X4_7 h.1 rfl ?_
  refine v_iconst (v := 5) dX4_foesOf_9 (by decide +kernel) ?_
  refine v_iald dX4_foesOf_10 h.2.1 (by decide +kernel) (j := 5) (by decide +kernel) ?_
  refine v_icmp_ge (tgt := 39) dX4_foesOf_11 (by decide) (fun _ => ?_) (fun _ => ?_)
  · skip
    exact v_pick [2] rfl (hK _)
  refine v_iload_n dX4_foesOf_14 rfl rfl ?_
  refine v_aload_n dX4_foesOf_15 rfl rfl ?_
  refine v_iload_n dX4_foesOf_16 rfl rfl ?_
  refine v_iload_n dX4_foesOf_17 rfl rfl ?_
  refine v_cpI (fun z hz => runV (as := [.int a1, .int c2]) dX4_foesOf_18 kv_X4_82 rfl rfl (Nat.le_of_ble_eq_true rfl) (Nat.le_of_ble_eq_true rfl) (recvW h.1 rfl rfl) (ct_X4_doDisagree _ _ _ h _) hz) (fun x4 => ?_)
  refine v_bnK (fun K6 => ∀ (t5 : Int32), VF mX4_foesOf 2 SH (jP s0) 31 [(0, .ref b), (1, .int a1), (3, .int c2)] [.int t5, .int c1] s0 (K6 t5)) (fun K6 hK6 => ?_) (fun t5 => ?_)
  · skip
    refine v_if_eq (tgt := 30) dX4_foesOf_21 (by decide) (fun _ => ?_) (fun _ => ?_)
    · skip
      refine v_iconst (v := 0) dX4_foesOf_30 (by decide +kernel) ?_
      exact v_pick [0, 1, 3] rfl (hK6 _)
    refine v_iconst (v := 1) dX4_foesOf_24 (by decide +kernel) ?_
    refine v_iload_n dX4_foesOf_25 rfl rfl ?_
    refine v_ishl dX4_foesOf_26 ?_
    refine v_goto (tgt := 31) dX4_foesOf_27 (by decide) ?_
    exact v_pick [0, 1, 3] rfl (hK6 _)
  refine v_ior dX4_foesOf_31 ?_
  refine v_topi (fun x7 => ?_)
  refine v_istore_n (L' := [(2, .int x7), (0, .ref b), (1, .int a1), (3, .int c2)]) dX4_foesOf_32 rfl (by decide) rfl ?_
  refine v_iinc (v := (c2 + (1 : Int32))) (L' := [(3, .int (c2 + (1 : Int32))), (2, .int x7), (0, .ref b), (1, .int a1)]) dX4_foesOf_33 rfl rfl (by decide) rfl ?_
  refine v_goto (tgt := 4) dX4_foesOf_36 (by decide) ?_
  exact v_pick [2, 3, 1, 0] rfl (hrec _ _)
theorem wL_X4_foesOf_4 {SH : SHT} (b : Nat) (a1 : Int32) (s0 : St) (h : isModel SH b) (K : Int32 → Option Int32) (hK : ∀ (e3 : Int32), VF mX4_foesOf 2 SH (jP s0) 39 [(2, .int e3)] [] s0 (K e3)) : ∀ (n : Nat) (c1 : Int32) (c2 : Int32), VF mX4_foesOf 2 SH (jP s0) 4 [(0, .ref b), (1, .int a1), (2, .int c1), (3, .int c2)] [] s0 (L_X4_foesOf_4 b a1 s0 K n c1 c2) := by
  intro n
  induction n with
  | zero => intros; exact v_none
  | succ n ih => intro c1 c2; exact wB_X4_foesOf_4 b a1 s0 h _ ih K hK c1 c2
set_option maxHeartbeats 4000000 in
set_option maxRecDepth 100000 in
theorem w_X4_foesOf {SH : SHT} (b : Nat) (a1 : Int32) (h : isModel SH b) (s0 : St) : VF mX4_foesOf 2 SH (jP s0) 0 [(0, .ref b), (1, .int a1)] [] s0 (f_X4_foesOf b a1 s0) := by
  unfold f_X4_foesOf
  refine v_iconst (v := 0) dX4_foesOf_0 (by decide +kernel) ?_
  refine v_istore_n (L' := [(2, .int (0 : Int32)), (0, .ref b), (1, .int a1)]) dX4_foesOf_1 rfl (by decide) rfl ?_
  refine v_iconst (v := 0) dX4_foesOf_2 (by decide +kernel) ?_
  refine v_istore_n (L' := [(3, .int (0 : Int32)), (2, .int (0 : Int32)), (0, .ref b), (1, .int a1)]) dX4_foesOf_3 rfl (by decide) rfl ?_
  refine v_pick [2, 3, 1, 0] rfl (wL_X4_foesOf_4 b a1 s0 h _ (fun e3 => ?_) FU _ _)
  refine v_iload_n dX4_foesOf_39 rfl rfl ?_
  exact v_ret (ty := .int) dX4_foesOf_40 rfl rfl rfl
theorem ct_X4_foesOf {SH : SHT} (b : Nat) (a1 : Int32) (h : isModel SH b) (s0 : St) : CT yX4_foesOf mX4_foesOf 2 SH (jP s0) [.ref b, .int a1] s0 (f_X4_foesOf b a1 s0) := CT.of (by decide +kernel) rfl (fun E => Nat.le_of_ble_eq_true rfl) (w_X4_foesOf b a1 h s0)
set_option maxHeartbeats 4000000 in
set_option maxRecDepth 100000 in
theorem w_X4_of {SH : SHT} (b : Nat) (a1 : Int32) (a2 : Int32) (h : isModel SH b) (s0 : St) : VF mX4_of 3 SH (jP s0) 0 [(0, .ref b), (1, .int a1), (2, .int a2)] [] s0 (f_X4_of b a1 a2 s0) := by
  unfold f_X4_of
  refine v_aload_n dX4_of_0 rfl rfl ?_
  refine v_iload_n dX4_of_1 rfl rfl ?_
  refine v_cpI (fun z hz => runV (as := [.int a1]) dX4_of_2 kv_X4_127 rfl rfl (Nat.le_of_ble_eq_true rfl) (Nat.le_of_ble_eq_true rfl) (recvW h.1 rfl rfl) (ct_X4_isPerson _ _ h _) hz) (fun x1 => ?_)
  refine v_if_eq (tgt := 20) dX4_of_5 (by decide) (fun _ => ?_) (fun _ => ?_)
  · skip
    refine v_iconst (v := -1) dX4_of_20 (by decide +kernel) ?_
    exact v_ret (ty := .int) dX4_of_21 rfl rfl rfl
  refine v_iload_n dX4_of_8 rfl rfl ?_
  refine v_i2l dX4_of_9 ?_
  refine v_lconst (v := 0) dX4_of_10 (by decide +kernel) ?_
  refine v_ldc2 dX4_of_11 kcL_X4_57 ?_
  refine v_cpI (fun z hz => runT (as := [.long (a2).toInt64, .long (0 : Int64), .long (7 : Int64)]) dX4_of_14 kt_X4_61 rfl rfl (Nat.le_of_ble_eq_true rfl) (Nat.le_of_ble_eq_true rfl) (ct_X4_in _ _ _  _) hz) (fun x2 => ?_)
  refine v_if_ne (tgt := 22) dX4_of_17 (by decide) (fun _ => ?_) (fun _ => ?_)
  · skip
    refine v_iload_n dX4_of_22 rfl rfl ?_
    refine v_tsw (cs := [(4, 52), (5, 58), (6, 64), (7, 79)]) (dt := 85) dX4_of_23 (by decide +kernel) (by decide) (by decide +kernel) ?_
    refine v_swc (fun _ => ?_) (fun _ => ?_)
    · skip
      refine v_aload_n dX4_of_52 rfl rfl ?_
      refine v_iload_n dX4_of_53 rfl rfl ?_
      refine v_cpI (fun z hz => runV (as := [.int a1]) dX4_of_54 kv_X4_79 rfl rfl (Nat.le_of_ble_eq_true rfl) (Nat.le_of_ble_eq_true rfl) (recvW h.1 rfl rfl) (ct_X4_wells _ _ h _) hz) (fun x3 => ?_)
      exact v_ret (ty := .int) dX4_of_57 rfl rfl rfl
    refine v_swc (fun _ => ?_) (fun _ => ?_)
    · skip
      refine v_aload_n dX4_of_58 rfl rfl ?_
      refine v_iload_n dX4_of_59 rfl rfl ?_
      refine v_cpI (fun z hz => runV (as := [.int a1]) dX4_of_60 kv_X4_100 rfl rfl (Nat.le_of_ble_eq_true rfl) (Nat.le_of_ble_eq_true rfl) (recvW h.1 rfl rfl) (ct_X4_winsOf _ _ h _) hz) (fun x4 => ?_)
      exact v_ret (ty := .int) dX4_of_63 rfl rfl rfl
    refine v_swc (fun _ => ?_) (fun _ => ?_)
    · skip
      refine v_aload_n dX4_of_64 rfl rfl ?_
      refine v_iload_n dX4_of_65 rfl rfl ?_
      refine v_iconst (v := 2) dX4_of_66 (by decide +kernel) ?_
      refine v_cpI (fun z hz => runV (as := [.int a1, .int (2 : Int32)]) dX4_of_67 kv_X4_67 rfl rfl (Nat.le_of_ble_eq_true rfl) (Nat.le_of_ble_eq_true rfl) (recvW h.1 rfl rfl) (ct_X4_get _ _ _ h _) hz) (fun x5 => ?_)
      refine v_if_ne (tgt := 77) dX4_of_70 (by decide) (fun _ => ?_) (fun _ => ?_)
      · skip
        refine v_iconst (v := 0) dX4_of_77 (by decide +kernel) ?_
        exact v_ret (ty := .int) dX4_of_78 rfl rfl rfl
      refine v_iconst (v := 1) dX4_of_73 (by decide +kernel) ?_
      refine v_goto (tgt := 78) dX4_of_74 (by decide) ?_
      exact v_ret (ty := .int) dX4_of_78 rfl rfl rfl
    refine v_swc (fun _ => ?_) (fun _ => ?_)
    · skip
      refine v_aload_n dX4_of_79 rfl rfl ?_
      refine v_iload_n dX4_of_80 rfl rfl ?_
      refine v_cpI (fun z hz => runV (as := [.int a1]) dX4_of_81 kv_X4_130 rfl rfl (Nat.le_of_ble_eq_true rfl) (Nat.le_of_ble_eq_true rfl) (recvW h.1 rfl rfl) (ct_X4_foesOf _ _ h _) hz) (fun x6 => ?_)
      exact v_ret (ty := .int) dX4_of_84 rfl rfl rfl
    refine v_swn ?_
    refine v_aload_n dX4_of_85 rfl rfl ?_
    refine v_iload_n dX4_of_86 rfl rfl ?_
    refine v_iload_n dX4_of_87 rfl rfl ?_
    refine v_cpI (fun z hz => runV (as := [.int a1, .int a2]) dX4_of_88 kv_X4_67 rfl rfl (Nat.le_of_ble_eq_true rfl) (Nat.le_of_ble_eq_true rfl) (recvW h.1 rfl rfl) (ct_X4_get _ _ _ h _) hz) (fun x7 => ?_)
    exact v_ret (ty := .int) dX4_of_91 rfl rfl rfl
  refine v_iconst (v := -1) dX4_of_20 (by decide +kernel) ?_
  exact v_ret (ty := .int) dX4_of_21 rfl rfl rfl
theorem ct_X4_of {SH : SHT} (b : Nat) (a1 : Int32) (a2 : Int32) (h : isModel SH b) (s0 : St) : CT yX4_of mX4_of 3 SH (jP s0) [.ref b, .int a1, .int a2] s0 (f_X4_of b a1 a2 s0) := CT.of (by decide +kernel) rfl (fun E => Nat.le_of_ble_eq_true rfl) (w_X4_of b a1 a2 h s0)
set_option maxHeartbeats 4000000 in
set_option maxRecDepth 100000 in
theorem w_X4_loses {SH : SHT} (b : Nat) (a1 : Int32) (h : isModel SH b) (s0 : St) : VF mX4_loses 2 SH (jP s0) 0 [(0, .ref b), (1, .int a1)] [] s0 (f_X4_loses b a1 s0) := by
  unfold f_X4_loses
  refine v_aload_n dX4_loses_0 rfl rfl ?_
  refine v_iload_n dX4_loses_1 rfl rfl ?_
  refine v_cpI (fun z hz => runV (as := [.int a1]) dX4_loses_2 kv_X4_127 rfl rfl (Nat.le_of_ble_eq_true rfl) (Nat.le_of_ble_eq_true rfl) (recvW h.1 rfl rfl) (ct_X4_isPerson _ _ h _) hz) (fun x1 => ?_)
  refine v_if_eq (tgt := 20) dX4_loses_5 (by decide) (fun _ => ?_) (fun _ => ?_)
  · skip
    refine v_iconst (v := -1) dX4_loses_20 (by decide +kernel) ?_
    exact v_ret (ty := .int) dX4_loses_21 rfl rfl rfl
  refine v_sipush (v := 1000) dX4_loses_8 (by decide +kernel) ?_
  refine v_aload_n dX4_loses_11 rfl rfl ?_
  refine v_iload_n dX4_loses_12 rfl rfl ?_
  refine v_cpI (fun z hz => runV (as := [.int a1]) dX4_loses_13 kv_X4_97 rfl rfl (Nat.le_of_ble_eq_true rfl) (Nat.le_of_ble_eq_true rfl) (recvW h.1 rfl rfl) (ct_X4_losesOf _ _ h _) hz) (fun x2 => ?_)
  refine v_iadd dX4_loses_16 ?_
  refine v_goto (tgt := 21) dX4_loses_17 (by decide) ?_
  exact v_ret (ty := .int) dX4_loses_21 rfl rfl rfl
theorem ct_X4_loses {SH : SHT} (b : Nat) (a1 : Int32) (h : isModel SH b) (s0 : St) : CT yX4_loses mX4_loses 2 SH (jP s0) [.ref b, .int a1] s0 (f_X4_loses b a1 s0) := CT.of (by decide +kernel) rfl (fun E => Nat.le_of_ble_eq_true rfl) (w_X4_loses b a1 h s0)
set_option maxHeartbeats 4000000 in
set_option maxRecDepth 100000 in
theorem w_X4_mind {SH : SHT} (b : Nat) (a1 : Int32) (a2 : Int32) (a3 : Int32) (h : isModel SH b) (s0 : St) : VF mX4_mind 2 SH jI 0 [(0, .ref b), (1, .int a1), (2, .int a2), (3, .int a3)] [] s0 (f_X4_mind b a1 a2 a3 s0) := by
  unfold f_X4_mind
  refine v_aload_n dX4_mind_0 rfl rfl ?_
  refine v_iload_n dX4_mind_1 rfl rfl ?_
  refine v_cpI (fun z hz => runV (as := [.int a1]) dX4_mind_2 kv_X4_127 rfl rfl (Nat.le_of_ble_eq_true rfl) (Nat.le_of_ble_eq_true rfl) (recvW h.1 rfl rfl) (ct_X4_isPerson _ _ h _) hz) (fun x1 => ?_)
  refine v_if_eq (tgt := 32) dX4_mind_5 (by decide) (fun _ => ?_) (fun _ => ?_)
  · skip
    refine v_iconst (v := -1) dX4_mind_32 (by decide +kernel) ?_
    exact v_ret (ty := .int) dX4_mind_33 rfl rfl rfl
  refine v_iload_n dX4_mind_8 rfl rfl ?_
  refine v_i2l dX4_mind_9 ?_
  refine v_lconst (v := 0) dX4_mind_10 (by decide +kernel) ?_
  refine v_ldc2 dX4_mind_11 kcL_X4_118 ?_
  refine v_cpI (fun z hz => runT (as := [.long (a2).toInt64, .long (0 : Int64), .long (5 : Int64)]) dX4_mind_14 kt_X4_61 rfl rfl (Nat.le_of_ble_eq_true rfl) (Nat.le_of_ble_eq_true rfl) (ct_X4_in _ _ _  _) hz) (fun x2 => ?_)
  refine v_if_eq (tgt := 32) dX4_mind_17 (by decide) (fun _ => ?_) (fun _ => ?_)
  · skip
    refine v_iconst (v := -1) dX4_mind_32 (by decide +kernel) ?_
    exact v_ret (ty := .int) dX4_mind_33 rfl rfl rfl
  refine v_iload_n dX4_mind_20 rfl rfl ?_
  refine v_i2l dX4_mind_21 ?_
  refine v_lconst (v := 0) dX4_mind_22 (by decide +kernel) ?_
  refine v_ldc2 dX4_mind_23 kcL_X4_112 ?_
  refine v_cpI (fun z hz => runT (as := [.long (a3).toInt64, .long (0 : Int64), .long (9 : Int64)]) dX4_mind_26 kt_X4_61 rfl rfl (Nat.le_of_ble_eq_true rfl) (Nat.le_of_ble_eq_true rfl) (ct_X4_in _ _ _  _) hz) (fun x3 => ?_)
  refine v_if_ne (tgt := 34) dX4_mind_29 (by decide) (fun _ => ?_) (fun _ => ?_)
  · skip
    refine v_aload_n dX4_mind_34 rfl rfl ?_
    refine v_iload_n dX4_mind_35 rfl rfl ?_
    refine v_iconst (v := 0) dX4_mind_36 (by decide +kernel) ?_
    refine v_cpI (fun z hz => runV (as := [.int a1, .int (0 : Int32)]) dX4_mind_37 kv_X4_67 rfl rfl (Nat.le_of_ble_eq_true rfl) (Nat.le_of_ble_eq_true rfl) (recvW h.1 rfl rfl) (ct_X4_get _ _ _ h _) hz) (fun x4 => ?_)
    refine v_istore (L' := [(4, .int x4), (0, .ref b), (1, .int a1), (2, .int a2), (3, .int a3)]) dX4_mind_40 (by decide) rfl ?_
    refine v_aload_n dX4_mind_42 rfl rfl ?_
    refine v_iload_n dX4_mind_43 rfl rfl ?_
    refine v_iconst (v := 0) dX4_mind_44 (by decide +kernel) ?_
    refine v_iload_n dX4_mind_45 rfl rfl ?_
    refine v_cw (fun z hz => runV (as := [.int a1, .int (0 : Int32), .int a2]) dX4_mind_46 kv_X4_103 rfl rfl (Nat.le_of_ble_eq_true rfl) (Nat.le_of_ble_eq_true rfl) (recvW h.1 rfl rfl) (ct_X4_puts _ _ _ _ h _) hz) (fun s5 => ?_)
    refine v_aload_n dX4_mind_49 rfl rfl ?_
    refine v_iload_n dX4_mind_50 rfl rfl ?_
    refine v_iconst (v := 1) dX4_mind_51 (by decide +kernel) ?_
    refine v_iload_n dX4_mind_52 rfl rfl ?_
    refine v_cw (fun z hz => runV (as := [.int a1, .int (1 : Int32), .int a3]) dX4_mind_53 kv_X4_103 rfl rfl (Nat.le_of_ble_eq_true rfl) (Nat.le_of_ble_eq_true rfl) (recvW h.1 rfl rfl) (ct_X4_puts _ _ _ _ h _) hz) (fun s6 => ?_)
    refine v_iload dX4_mind_56 rfl ?_
    exact v_ret (ty := .int) dX4_mind_58 rfl rfl rfl
  refine v_iconst (v := -1) dX4_mind_32 (by decide +kernel) ?_
  exact v_ret (ty := .int) dX4_mind_33 rfl rfl rfl
theorem ct_X4_mind {SH : SHT} (b : Nat) (a1 : Int32) (a2 : Int32) (a3 : Int32) (h : isModel SH b) (s0 : St) : CT yX4_mind mX4_mind 2 SH jI [.ref b, .int a1, .int a2, .int a3] s0 (f_X4_mind b a1 a2 a3 s0) := CT.of (by decide +kernel) rfl (fun E => Nat.le_of_ble_eq_true rfl) (w_X4_mind b a1 a2 a3 h s0)
set_option maxHeartbeats 4000000 in
set_option maxRecDepth 100000 in
theorem w_X4_sure {SH : SHT} (b : Nat) (a1 : Int32) (a2 : Int32) (h : isModel SH b) (s0 : St) : VF mX4_sure 2 SH jI 0 [(0, .ref b), (1, .int a1), (2, .int a2)] [] s0 (f_X4_sure b a1 a2 s0) := by
  unfold f_X4_sure
  refine v_aload_n dX4_sure_0 rfl rfl ?_
  refine v_iload_n dX4_sure_1 rfl rfl ?_
  refine v_cpI (fun z hz => runV (as := [.int a1]) dX4_sure_2 kv_X4_127 rfl rfl (Nat.le_of_ble_eq_true rfl) (Nat.le_of_ble_eq_true rfl) (recvW h.1 rfl rfl) (ct_X4_isPerson _ _ h _) hz) (fun x1 => ?_)
  refine v_if_eq (tgt := 20) dX4_sure_5 (by decide) (fun _ => ?_) (fun _ => ?_)
  · skip
    refine v_iconst (v := -1) dX4_sure_20 (by decide +kernel) ?_
    exact v_ret (ty := .int) dX4_sure_21 rfl rfl rfl
  refine v_iload_n dX4_sure_8 rfl rfl ?_
  refine v_i2l dX4_sure_9 ?_
  refine v_lconst (v := 0) dX4_sure_10 (by decide +kernel) ?_
  refine v_ldc2 dX4_sure_11 kcL_X4_116 ?_
  refine v_cpI (fun z hz => runT (as := [.long (a2).toInt64, .long (0 : Int64), .long (99 : Int64)]) dX4_sure_14 kt_X4_61 rfl rfl (Nat.le_of_ble_eq_true rfl) (Nat.le_of_ble_eq_true rfl) (ct_X4_in _ _ _  _) hz) (fun x2 => ?_)
  refine v_if_ne (tgt := 22) dX4_sure_17 (by decide) (fun _ => ?_) (fun _ => ?_)
  · skip
    refine v_aload_n dX4_sure_22 rfl rfl ?_
    refine v_iload_n dX4_sure_23 rfl rfl ?_
    refine v_iconst (v := 2) dX4_sure_24 (by decide +kernel) ?_
    refine v_cpI (fun z hz => runV (as := [.int a1, .int (2 : Int32)]) dX4_sure_25 kv_X4_67 rfl rfl (Nat.le_of_ble_eq_true rfl) (Nat.le_of_ble_eq_true rfl) (recvW h.1 rfl rfl) (ct_X4_get _ _ _ h _) hz) (fun x3 => ?_)
    refine v_istore_n (L' := [(3, .int x3), (0, .ref b), (1, .int a1), (2, .int a2)]) dX4_sure_28 rfl (by decide) rfl ?_
    refine v_aload_n dX4_sure_29 rfl rfl ?_
    refine v_iload_n dX4_sure_30 rfl rfl ?_
    refine v_iconst (v := 2) dX4_sure_31 (by decide +kernel) ?_
    refine v_iload_n dX4_sure_32 rfl rfl ?_
    refine v_cw (fun z hz => runV (as := [.int a1, .int (2 : Int32), .int a2]) dX4_sure_33 kv_X4_103 rfl rfl (Nat.le_of_ble_eq_true rfl) (Nat.le_of_ble_eq_true rfl) (recvW h.1 rfl rfl) (ct_X4_puts _ _ _ _ h _) hz) (fun s4 => ?_)
    refine v_iload_n dX4_sure_36 rfl rfl ?_
    exact v_ret (ty := .int) dX4_sure_37 rfl rfl rfl
  refine v_iconst (v := -1) dX4_sure_20 (by decide +kernel) ?_
  exact v_ret (ty := .int) dX4_sure_21 rfl rfl rfl
theorem ct_X4_sure {SH : SHT} (b : Nat) (a1 : Int32) (a2 : Int32) (h : isModel SH b) (s0 : St) : CT yX4_sure mX4_sure 2 SH jI [.ref b, .int a1, .int a2] s0 (f_X4_sure b a1 a2 s0) := CT.of (by decide +kernel) rfl (fun E => Nat.le_of_ble_eq_true rfl) (w_X4_sure b a1 a2 h s0)
