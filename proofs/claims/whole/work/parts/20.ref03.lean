set_option maxHeartbeats 4000000 in
set_option maxRecDepth 100000 in
theorem w_X4_levelWith {SH : SHT} (b : Nat) (a1 : Int32) (a2 : Int32) (a3 : Int32) (a4 : Int32) (h : isModel SH b) (s0 : St) : VF mX4_levelWith 4 SH jI 0 [(0, .ref b), (1, .int a1), (2, .int a2), (3, .int a3), (4, .int a4)] [] s0 (f_X4_levelWith b a1 a2 a3 a4 s0) := by
  unfold f_X4_levelWith
  refine v_iload_n dX4_levelWith_0 rfl rfl ?_
  refine v_bnK (fun K2 => ∀ (s1 : St), VF mX4_levelWith 4 SH jI 12 [(0, .ref b), (1, .int a1), (2, .int a2)] [] s1 (K2 s1)) (fun K2 hK2 => ?_) (fun s1 => ?_)
  · skip
    refine v_if_lt (tgt := 12) dX4_levelWith_1 (by decide) (fun _ => ?_) (fun _ => ?_)
    · skip
      exact v_pick [0, 1, 2] rfl (hK2 _)
    refine v_aload_n dX4_levelWith_4 rfl rfl ?_
    refine v_getr dX4_levelWith_5 kf_X4_7 h.1 rfl ?_
    refine v_iload_n dX4_levelWith_8 rfl rfl ?_
    refine v_iload dX4_levelWith_9 rfl ?_
    refine v_gd (fun g3 => ?_)
    refine v_iast dX4_levelWith_11 h.2.1 g3 rfl (v_st fun s4 => ?_)
    exact v_pick [0, 1, 2] rfl (hK2 _)
  refine v_aload_n dX4_levelWith_12 rfl rfl ?_
  refine v_iload_n dX4_levelWith_13 rfl rfl ?_
  refine v_cw (fun z hz => runV (as := [.int a2]) dX4_levelWith_14 kv_X4_147 rfl rfl (Nat.le_of_ble_eq_true rfl) (Nat.le_of_ble_eq_true rfl) (recvW h.1 rfl rfl) (ct_X4_yearsGo _ _ h _) hz) (fun s5 => ?_)
  refine v_aload_n dX4_levelWith_17 rfl rfl ?_
  refine v_getr dX4_levelWith_18 kf_X4_7 h.1 rfl ?_
  refine v_bipush (v := 39) dX4_levelWith_21 (by decide +kernel) ?_
  refine v_iload_n dX4_levelWith_23 rfl rfl ?_
  refine v_iadd dX4_levelWith_24 ?_
  refine v_gd (fun g6 => ?_)
  refine v_iald dX4_levelWith_25 h.2.1 g6 rfl ?_
  refine v_topi (fun x7 => ?_)
  refine v_istore (L' := [(5, .int x7), (0, .ref b), (1, .int a1), (2, .int a2)]) dX4_levelWith_26 (by decide) rfl ?_
  refine v_aload_n dX4_levelWith_28 rfl rfl ?_
  refine v_cw (fun z hz => runV (as := []) dX4_levelWith_29 kv_X4_173 rfl rfl (Nat.le_of_ble_eq_true rfl) (Nat.le_of_ble_eq_true rfl) (recvW h.1 rfl rfl) (ct_X4_putBack _ h _) hz) (fun s8 => ?_)
  refine v_iload dX4_levelWith_32 rfl ?_
  exact v_ret (ty := .int) dX4_levelWith_34 rfl rfl rfl
theorem ct_X4_levelWith {SH : SHT} (b : Nat) (a1 : Int32) (a2 : Int32) (a3 : Int32) (a4 : Int32) (h : isModel SH b) (s0 : St) : CT yX4_levelWith mX4_levelWith 4 SH jI [.ref b, .int a1, .int a2, .int a3, .int a4] s0 (f_X4_levelWith b a1 a2 a3 a4 s0) := CT.of (by decide +kernel) rfl (fun E => Nat.le_of_ble_eq_true rfl) (w_X4_levelWith b a1 a2 a3 a4 h s0)
set_option maxHeartbeats 4000000 in
set_option maxRecDepth 100000 in
theorem w_X4_level {SH : SHT} (b : Nat) (a1 : Int32) (a2 : Int32) (h : isModel SH b) (s0 : St) : VF mX4_level 5 SH jI 0 [(0, .ref b), (1, .int a1), (2, .int a2)] [] s0 (f_X4_level b a1 a2 s0) := by
  unfold f_X4_level
  refine v_iload_n dX4_level_0 rfl rfl ?_
  refine v_cpI (fun z hz => runT (as := [.int a1]) dX4_level_1 kt_X4_120 rfl rfl (Nat.le_of_ble_eq_true rfl) (Nat.le_of_ble_eq_true rfl) (ct_X4_isCell _  _) hz) (fun x1 => ?_)
  refine v_if_eq (tgt := 19) dX4_level_4 (by decide) (fun _ => ?_) (fun _ => ?_)
  · skip
    refine v_iconst (v := -1) dX4_level_19 (by decide +kernel) ?_
    exact v_ret (ty := .int) dX4_level_20 rfl rfl rfl
  refine v_iload_n dX4_level_7 rfl rfl ?_
  refine v_i2l dX4_level_8 ?_
  refine v_lconst (v := 0) dX4_level_9 (by decide +kernel) ?_
  refine v_ldc2 dX4_level_10 kcL_X4_145 ?_
  refine v_cpI (fun z hz => runT (as := [.long (a2).toInt64, .long (0 : Int64), .long (60 : Int64)]) dX4_level_13 kt_X4_61 rfl rfl (Nat.le_of_ble_eq_true rfl) (Nat.le_of_ble_eq_true rfl) (ct_X4_in _ _ _  _) hz) (fun x2 => ?_)
  refine v_if_ne (tgt := 21) dX4_level_16 (by decide) (fun _ => ?_) (fun _ => ?_)
  · skip
    refine v_aload_n dX4_level_21 rfl rfl ?_
    refine v_cw (fun z hz => runV (as := []) dX4_level_22 kv_X4_170 rfl rfl (Nat.le_of_ble_eq_true rfl) (Nat.le_of_ble_eq_true rfl) (recvW h.1 rfl rfl) (ct_X4_keepAside _ h _) hz) (fun s3 => ?_)
    refine v_aload_n dX4_level_25 rfl rfl ?_
    refine v_iload_n dX4_level_26 rfl rfl ?_
    refine v_iload_n dX4_level_27 rfl rfl ?_
    refine v_iconst (v := -1) dX4_level_28 (by decide +kernel) ?_
    refine v_iconst (v := 0) dX4_level_29 (by decide +kernel) ?_
    refine v_cbI (fun z hz => runV (as := [.int a1, .int a2, .int (-1 : Int32), .int (0 : Int32)]) dX4_level_30 kv_X4_176 rfl rfl (Nat.le_of_ble_eq_true rfl) (Nat.le_of_ble_eq_true rfl) (recvW h.1 rfl rfl) (ct_X4_levelWith _ _ _ _ _ h _) hz) (fun x5 s4 => ?_)
    exact v_ret (ty := .int) dX4_level_33 rfl rfl rfl
  refine v_iconst (v := -1) dX4_level_19 (by decide +kernel) ?_
  exact v_ret (ty := .int) dX4_level_20 rfl rfl rfl
theorem ct_X4_level {SH : SHT} (b : Nat) (a1 : Int32) (a2 : Int32) (h : isModel SH b) (s0 : St) : CT yX4_level mX4_level 5 SH jI [.ref b, .int a1, .int a2] s0 (f_X4_level b a1 a2 s0) := CT.of (by decide +kernel) rfl (fun E => Nat.le_of_ble_eq_true rfl) (w_X4_level b a1 a2 h s0)
set_option maxHeartbeats 4000000 in
set_option maxRecDepth 100000 in
theorem wB_X4_isDrowned_4 {SH : SHT} (b : Nat) (s0 : St) (h : isModel SH b) (rec : Int32 → Int32 → Option Int32) (hrec : ∀ (c1 : Int32) (c2 : Int32), VF mX4_isDrowned 1 SH (jP s0) 4 [(0, .ref b), (1, .int c1), (2, .int c2)] [] s0 (rec c1 c2)) (K : Int32 → Option Int32) (hK : ∀ (e3 : Int32), VF mX4_isDrowned 1 SH (jP s0) 43 [(1, .int e3)] [] s0 (K e3)) (c1 : Int32) (c2 : Int32) : VF mX4_isDrowned 1 SH (jP s0) 4 [(0, .ref b), (1, .int c1), (2, .int c2)] [] s0 (B_X4_isDrowned_4 rec b s0 K c1 c2) := by
  unfold B_X4_isDrowned_4
  refine v_iload_n dX4_isDrowned_4 rfl rfl ?_
  refine v_aload_n dX4_isDrowned_5 rfl rfl ?_
  refine v_getr dX4_isDrowned_6 kf_X4_7 h.1 rfl ?_
  refine v_iconst (v := 5) dX4_isDrowned_9 (by decide +kernel) ?_
  refine v_iald dX4_isDrowned_10 h.2.1 (by decide +kernel) (j := 5) (by decide +kernel) ?_
  refine v_icmp_ge (tgt := 43) dX4_isDrowned_11 (by decide) (fun _ => ?_) (fun _ => ?_)
  · skip
    exact v_pick [1] rfl (hK _)
  refine v_iload_n dX4_isDrowned_14 rfl rfl ?_
  refine v_bnK (fun K5 => ∀ (t4 : Int32), VF mX4_isDrowned 1 SH (jP s0) 36 [(0, .ref b), (2, .int c2)] [.int t4] s0 (K5 t4)) (fun K5 hK5 => ?_) (fun t4 => ?_)
  · skip
    refine v_if_eq (tgt := 35) dX4_isDrowned_15 (by decide) (fun _ => ?_) (fun _ => ?_)
    · skip
      refine v_iconst (v := 0) dX4_isDrowned_35 (by decide +kernel) ?_
      exact v_pick [0, 2] rfl (hK5 _)
    refine v_aload_n dX4_isDrowned_18 rfl rfl ?_
    refine v_aload_n dX4_isDrowned_19 rfl rfl ?_
    refine v_iload_n dX4_isDrowned_20 rfl rfl ?_
    refine v_iconst (v := 3) dX4_isDrowned_21 (by decide +kernel) ?_
    refine v_cpI (fun z hz => runV (as := [.int c2, .int (3 : Int32)]) dX4_isDrowned_22 kv_X4_67 rfl rfl (Nat.le_of_ble_eq_true rfl) (Nat.le_of_ble_eq_true rfl) (recvW h.1 rfl rfl) (ct_X4_get _ _ _ h _) hz) (fun x6 => ?_)
    refine v_cpI (fun z hz => runV (as := [.int x6]) dX4_isDrowned_25 kv_X4_93 rfl rfl (Nat.le_of_ble_eq_true rfl) (Nat.le_of_ble_eq_true rfl) (recvW h.1 rfl rfl) (ct_X4_isWet _ _ h _) hz) (fun x7 => ?_)
    refine v_if_eq (tgt := 35) dX4_isDrowned_28 (by decide) (fun _ => ?_) (fun _ => ?_)
    · skip
      refine v_iconst (v := 0) dX4_isDrowned_35 (by decide +kernel) ?_
      exact v_pick [0, 2] rfl (hK5 _)
    refine v_iconst (v := 1) dX4_isDrowned_31 (by decide +kernel) ?_
    refine v_goto (tgt := 36) dX4_isDrowned_32 (by decide) ?_
    exact v_pick [0, 2] rfl (hK5 _)
  refine v_istore_n (L' := [(1, .int t4), (0, .ref b), (2, .int c2)]) dX4_isDrowned_36 rfl (by decide) rfl ?_
  refine v_iinc (v := (c2 + (1 : Int32))) (L' := [(2, .int (c2 + (1 : Int32))), (1, .int t4), (0, .ref b)]) dX4_isDrowned_37 rfl rfl (by decide) rfl ?_
  refine v_goto (tgt := 4) dX4_isDrowned_40 (by decide) ?_
  exact v_pick [2, 1, 0] rfl (hrec _ _)
theorem wL_X4_isDrowned_4 {SH : SHT} (b : Nat) (s0 : St) (h : isModel SH b) (K : Int32 → Option Int32) (hK : ∀ (e3 : Int32), VF mX4_isDrowned 1 SH (jP s0) 43 [(1, .int e3)] [] s0 (K e3)) : ∀ (n : Nat) (c1 : Int32) (c2 : Int32), VF mX4_isDrowned 1 SH (jP s0) 4 [(0, .ref b), (1, .int c1), (2, .int c2)] [] s0 (L_X4_isDrowned_4 b s0 K n c1 c2) := by
  intro n
  induction n with
  | zero => intros; exact v_none
  | succ n ih => intro c1 c2; exact wB_X4_isDrowned_4 b s0 h _ ih K hK c1 c2
set_option maxHeartbeats 4000000 in
set_option maxRecDepth 100000 in
theorem w_X4_isDrowned {SH : SHT} (b : Nat) (h : isModel SH b) (s0 : St) : VF mX4_isDrowned 1 SH (jP s0) 0 [(0, .ref b)] [] s0 (f_X4_isDrowned b s0) := by
  unfold f_X4_isDrowned
  refine v_iconst (v := 1) dX4_isDrowned_0 (by decide +kernel) ?_
  refine v_istore_n (L' := [(1, .int (1 : Int32)), (0, .ref b)]) dX4_isDrowned_1 rfl (by decide) rfl ?_
  refine v_iconst (v := 0) dX4_isDrowned_2 (by decide +kernel) ?_
  refine v_istore_n (L' := [(2, .int (0 : Int32)), (1, .int (1 : Int32)), (0, .ref b)]) dX4_isDrowned_3 rfl (by decide) rfl ?_
  refine v_pick [2, 1, 0] rfl (wL_X4_isDrowned_4 b s0 h _ (fun e3 => ?_) FU _ _)
  refine v_iload_n dX4_isDrowned_43 rfl rfl ?_
  exact v_retz dX4_isDrowned_44 rfl rfl
theorem ct_X4_isDrowned {SH : SHT} (b : Nat) (h : isModel SH b) (s0 : St) : CT yX4_isDrowned mX4_isDrowned 1 SH (jP s0) [.ref b] s0 (f_X4_isDrowned b s0) := CT.of (by decide +kernel) rfl (fun E => Nat.le_of_ble_eq_true rfl) (w_X4_isDrowned b h s0)
set_option maxHeartbeats 4000000 in
set_option maxRecDepth 100000 in
theorem wB_X4_whenFirst_10 {SH : SHT} (b : Nat) (a1 : Int32) (a2 : Int32) (h : isModel SH b) (rec : Int32 → Int32 → St → Option (Int32 × St)) (hrec : ∀ (c2 : Int32) (c3 : Int32) (s4 : St), VF mX4_whenFirst 3 SH jI 10 [(0, .ref b), (1, .int a1), (2, .int a2), (3, .int c2), (4, .int c3)] [] s4 (rec c2 c3 s4)) (K : Int32 → St → Option (Int32 × St)) (hK : ∀ (e5 : Int32) (s6 : St), VF mX4_whenFirst 3 SH jI 86 [(0, .ref b), (3, .int e5)] [] s6 (K e5 s6)) (c2 : Int32) (c3 : Int32) (s4 : St) : VF mX4_whenFirst 3 SH jI 10 [(0, .ref b), (1, .int a1), (2, .int a2), (3, .int c2), (4, .int c3)] [] s4 (B_X4_whenFirst_10 rec b a1 a2 K c2 c3 s4) := by
  unfold B_X4_whenFirst_10
  refine v_iload dX4_whenFirst_10 rfl ?_
  refine v_bipush (v := 60) dX4_whenFirst_12 (by decide +kernel) ?_
  refine v_icmp_gt (tgt := 86) dX4_whenFirst_14 (by decide) (fun _ => ?_) (fun _ => ?_)
  · skip
    exact v_pick [0, 3] rfl (hK _ _)
  refine v_iload_n dX4_whenFirst_17 rfl rfl ?_
  refine v_bipush (v := -3) dX4_whenFirst_18 (by decide +kernel) ?_
  refine v_icmp_ne (tgt := 86) dX4_whenFirst_20 (by decide) (fun _ => ?_) (fun _ => ?_)
  · skip
    exact v_pick [0, 3] rfl (hK _ _)
  refine v_iload_n dX4_whenFirst_23 rfl rfl ?_
  refine v_bnK (fun K8 => ∀ (t7 : Int32), VF mX4_whenFirst 3 SH jI 61 [(0, .ref b), (1, .int a1), (2, .int a2), (4, .int c3)] [.int t7] s4 (K8 t7)) (fun K8 hK8 => ?_) (fun t7 => ?_)
  · skip
    refine v_if_ne (tgt := 35) dX4_whenFirst_24 (by decide) (fun _ => ?_) (fun _ => ?_)
    · skip
      refine v_iload_n dX4_whenFirst_35 rfl rfl ?_
      refine v_iconst (v := 1) dX4_whenFirst_36 (by decide +kernel) ?_
      refine v_icmp_ne (tgt := 57) dX4_whenFirst_37 (by decide) (fun _ => ?_) (fun _ => ?_)
      · skip
        refine v_aload_n dX4_whenFirst_57 rfl rfl ?_
        refine v_cpI (fun z hz => runV (as := []) dX4_whenFirst_58 kv_X4_179 rfl rfl (Nat.le_of_ble_eq_true rfl) (Nat.le_of_ble_eq_true rfl) (recvW h.1 rfl rfl) (ct_X4_isDrowned _ h _) hz) (fun x9 => ?_)
        exact v_pick [0, 1, 2, 4] rfl (hK8 _)
      refine v_aload_n dX4_whenFirst_40 rfl rfl ?_
      refine v_iload_n dX4_whenFirst_41 rfl rfl ?_
      refine v_iconst (v := 2) dX4_whenFirst_42 (by decide +kernel) ?_
      refine v_cpI (fun z hz => runV (as := [.int a2, .int (2 : Int32)]) dX4_whenFirst_43 kv_X4_67 rfl rfl (Nat.le_of_ble_eq_true rfl) (Nat.le_of_ble_eq_true rfl) (recvW h.1 rfl rfl) (ct_X4_get _ _ _ h _) hz) (fun x10 => ?_)
      refine v_if_ne (tgt := 53) dX4_whenFirst_46 (by decide) (fun _ => ?_) (fun _ => ?_)
      · skip
        refine v_iconst (v := 0) dX4_whenFirst_53 (by decide +kernel) ?_
        refine v_goto (tgt := 61) dX4_whenFirst_54 (by decide) ?_
        exact v_pick [0, 1, 2, 4] rfl (hK8 _)
      refine v_iconst (v := 1) dX4_whenFirst_49 (by decide +kernel) ?_
      refine v_goto (tgt := 61) dX4_whenFirst_50 (by decide) ?_
      exact v_pick [0, 1, 2, 4] rfl (hK8 _)
    refine v_aload_n dX4_whenFirst_27 rfl rfl ?_
    refine v_iload_n dX4_whenFirst_28 rfl rfl ?_
    refine v_cpI (fun z hz => runV (as := [.int a2]) dX4_whenFirst_29 kv_X4_93 rfl rfl (Nat.le_of_ble_eq_true rfl) (Nat.le_of_ble_eq_true rfl) (recvW h.1 rfl rfl) (ct_X4_isWet _ _ h _) hz) (fun x11 => ?_)
    refine v_goto (tgt := 61) dX4_whenFirst_32 (by decide) ?_
    exact v_pick [0, 1, 2, 4] rfl (hK8 _)
  refine v_istore (L' := [(5, .int t7), (0, .ref b), (1, .int a1), (2, .int a2), (4, .int c3)]) dX4_whenFirst_61 (by decide) rfl ?_
  refine v_iload dX4_whenFirst_63 rfl ?_
  refine v_bnK (fun K13 => ∀ (t12 : Int32), VF mX4_whenFirst 3 SH jI 75 [(0, .ref b), (1, .int a1), (2, .int a2), (4, .int c3)] [.int t12] s4 (K13 t12)) (fun K13 hK13 => ?_) (fun t12 => ?_)
  · skip
    refine v_if_eq (tgt := 73) dX4_whenFirst_65 (by decide) (fun _ => ?_) (fun _ => ?_)
    · skip
      refine v_bipush (v := -3) dX4_whenFirst_73 (by decide +kernel) ?_
      exact v_pick [1, 2, 3, 4] rfl (hK13 _)
    refine v_iload dX4_whenFirst_68 rfl ?_
    refine v_goto (tgt := 75) dX4_whenFirst_70 (by decide) ?_
    exact v_pick [1, 2, 3, 4] rfl (hK13 _)
  refine v_istore_n (L' := [(3, .int t12), (0, .ref b), (1, .int a1), (2, .int a2), (4, .int c3)]) dX4_whenFirst_75 rfl (by decide) rfl ?_
  refine v_aload_n dX4_whenFirst_76 rfl rfl ?_
  refine v_cw (fun z hz => runV (as := []) dX4_whenFirst_77 kv_X4_107 rfl rfl (Nat.le_of_ble_eq_true rfl) (Nat.le_of_ble_eq_true rfl) (recvW h.1 rfl rfl) (ct_X4_yearGoes _ h _) hz) (fun s14 => ?_)
  refine v_iinc (v := (c3 + (1 : Int32))) (L' := [(4, .int (c3 + (1 : Int32))), (3, .int t12), (0, .ref b), (1, .int a1), (2, .int a2)]) dX4_whenFirst_80 rfl rfl (by decide) rfl ?_
  refine v_goto (tgt := 10) dX4_whenFirst_83 (by decide) ?_
  exact v_pick [2, 3, 4, 1, 0] rfl (hrec _ _ _)
theorem wL_X4_whenFirst_10 {SH : SHT} (b : Nat) (a1 : Int32) (a2 : Int32) (h : isModel SH b) (K : Int32 → St → Option (Int32 × St)) (hK : ∀ (e5 : Int32) (s6 : St), VF mX4_whenFirst 3 SH jI 86 [(0, .ref b), (3, .int e5)] [] s6 (K e5 s6)) : ∀ (n : Nat) (c2 : Int32) (c3 : Int32) (s4 : St), VF mX4_whenFirst 3 SH jI 10 [(0, .ref b), (1, .int a1), (2, .int a2), (3, .int c2), (4, .int c3)] [] s4 (L_X4_whenFirst_10 b a1 a2 K n c2 c3 s4) := by
  intro n
  induction n with
  | zero => intros; exact v_none
  | succ n ih => intro c2 c3 s4; exact wB_X4_whenFirst_10 b a1 a2 h _ ih K hK c2 c3 s4
set_option maxHeartbeats 4000000 in
set_option maxRecDepth 100000 in
theorem w_X4_whenFirst {SH : SHT} (b : Nat) (a1 : Int32) (a2 : Int32) (h : isModel SH b) (s0 : St) : VF mX4_whenFirst 3 SH jI 0 [(0, .ref b), (1, .int a1), (2, .int a2)] [] s0 (f_X4_whenFirst b a1 a2 s0) := by
  unfold f_X4_whenFirst
  refine v_aload_n dX4_whenFirst_0 rfl rfl ?_
  refine v_cw (fun z hz => runV (as := []) dX4_whenFirst_1 kv_X4_170 rfl rfl (Nat.le_of_ble_eq_true rfl) (Nat.le_of_ble_eq_true rfl) (recvW h.1 rfl rfl) (ct_X4_keepAside _ h _) hz) (fun s1 => ?_)
  refine v_bipush (v := -3) dX4_whenFirst_4 (by decide +kernel) ?_
  refine v_istore_n (L' := [(3, .int (-3 : Int32)), (0, .ref b), (1, .int a1), (2, .int a2)]) dX4_whenFirst_6 rfl (by decide) rfl ?_
  refine v_iconst (v := 0) dX4_whenFirst_7 (by decide +kernel) ?_
  refine v_istore (L' := [(4, .int (0 : Int32)), (3, .int (-3 : Int32)), (0, .ref b), (1, .int a1), (2, .int a2)]) dX4_whenFirst_8 (by decide) rfl ?_
  refine v_pick [2, 3, 4, 1, 0] rfl (wL_X4_whenFirst_10 b a1 a2 h _ (fun e5 s6 => ?_) FU _ _ _)
  refine v_aload_n dX4_whenFirst_86 rfl rfl ?_
  refine v_cw (fun z hz => runV (as := []) dX4_whenFirst_87 kv_X4_173 rfl rfl (Nat.le_of_ble_eq_true rfl) (Nat.le_of_ble_eq_true rfl) (recvW h.1 rfl rfl) (ct_X4_putBack _ h _) hz) (fun s15 => ?_)
  refine v_iload_n dX4_whenFirst_90 rfl rfl ?_
  exact v_ret (ty := .int) dX4_whenFirst_91 rfl rfl rfl
theorem ct_X4_whenFirst {SH : SHT} (b : Nat) (a1 : Int32) (a2 : Int32) (h : isModel SH b) (s0 : St) : CT yX4_whenFirst mX4_whenFirst 3 SH jI [.ref b, .int a1, .int a2] s0 (f_X4_whenFirst b a1 a2 s0) := CT.of (by decide +kernel) rfl (fun E => Nat.le_of_ble_eq_true rfl) (w_X4_whenFirst b a1 a2 h s0)
set_option maxHeartbeats 4000000 in
set_option maxRecDepth 100000 in
theorem w_X4_damp {SH : SHT} (b : Nat) (a1 : Int32) (h : isModel SH b) (s0 : St) : VF mX4_damp 4 SH jI 0 [(0, .ref b), (1, .int a1)] [] s0 (f_X4_damp b a1 s0) := by
  unfold f_X4_damp
  refine v_iload_n dX4_damp_0 rfl rfl ?_
  refine v_cpI (fun z hz => runT (as := [.int a1]) dX4_damp_1 kt_X4_120 rfl rfl (Nat.le_of_ble_eq_true rfl) (Nat.le_of_ble_eq_true rfl) (ct_X4_isCell _  _) hz) (fun x1 => ?_)
  refine v_if_eq (tgt := 16) dX4_damp_4 (by decide) (fun _ => ?_) (fun _ => ?_)
  · skip
    refine v_iconst (v := -1) dX4_damp_16 (by decide +kernel) ?_
    exact v_ret (ty := .int) dX4_damp_17 rfl rfl rfl
  refine v_aload_n dX4_damp_7 rfl rfl ?_
  refine v_iconst (v := 0) dX4_damp_8 (by decide +kernel) ?_
  refine v_iload_n dX4_damp_9 rfl rfl ?_
  refine v_cbI (fun z hz => runV (as := [.int (0 : Int32), .int a1]) dX4_damp_10 kv_X4_183 rfl rfl (Nat.le_of_ble_eq_true rfl) (Nat.le_of_ble_eq_true rfl) (recvW h.1 rfl rfl) (ct_X4_whenFirst _ _ _ h _) hz) (fun x3 s2 => ?_)
  refine v_goto (tgt := 17) dX4_damp_13 (by decide) ?_
  exact v_ret (ty := .int) dX4_damp_17 rfl rfl rfl
theorem ct_X4_damp {SH : SHT} (b : Nat) (a1 : Int32) (h : isModel SH b) (s0 : St) : CT yX4_damp mX4_damp 4 SH jI [.ref b, .int a1] s0 (f_X4_damp b a1 s0) := CT.of (by decide +kernel) rfl (fun E => Nat.le_of_ble_eq_true rfl) (w_X4_damp b a1 h s0)
set_option maxHeartbeats 4000000 in
set_option maxRecDepth 100000 in
theorem w_X4_loss {SH : SHT} (b : Nat) (a1 : Int32) (h : isModel SH b) (s0 : St) : VF mX4_loss 4 SH jI 0 [(0, .ref b), (1, .int a1)] [] s0 (f_X4_loss b a1 s0) := by
  unfold f_X4_loss
  refine v_aload_n dX4_loss_0 rfl rfl ?_
  refine v_iload_n dX4_loss_1 rfl rfl ?_
  refine v_cpI (fun z hz => runV (as := [.int a1]) dX4_loss_2 kv_X4_127 rfl rfl (Nat.le_of_ble_eq_true rfl) (Nat.le_of_ble_eq_true rfl) (recvW h.1 rfl rfl) (ct_X4_isPerson _ _ h _) hz) (fun x1 => ?_)
  refine v_if_eq (tgt := 17) dX4_loss_5 (by decide) (fun _ => ?_) (fun _ => ?_)
  · skip
    refine v_iconst (v := -1) dX4_loss_17 (by decide +kernel) ?_
    exact v_ret (ty := .int) dX4_loss_18 rfl rfl rfl
  refine v_aload_n dX4_loss_8 rfl rfl ?_
  refine v_iconst (v := 1) dX4_loss_9 (by decide +kernel) ?_
  refine v_iload_n dX4_loss_10 rfl rfl ?_
  refine v_cbI (fun z hz => runV (as := [.int (1 : Int32), .int a1]) dX4_loss_11 kv_X4_183 rfl rfl (Nat.le_of_ble_eq_true rfl) (Nat.le_of_ble_eq_true rfl) (recvW h.1 rfl rfl) (ct_X4_whenFirst _ _ _ h _) hz) (fun x3 s2 => ?_)
  refine v_goto (tgt := 18) dX4_loss_14 (by decide) ?_
  exact v_ret (ty := .int) dX4_loss_18 rfl rfl rfl
theorem ct_X4_loss {SH : SHT} (b : Nat) (a1 : Int32) (h : isModel SH b) (s0 : St) : CT yX4_loss mX4_loss 4 SH jI [.ref b, .int a1] s0 (f_X4_loss b a1 s0) := CT.of (by decide +kernel) rfl (fun E => Nat.le_of_ble_eq_true rfl) (w_X4_loss b a1 h s0)
set_option maxHeartbeats 4000000 in
set_option maxRecDepth 100000 in
theorem w_X4_drowned {SH : SHT} (b : Nat) (h : isModel SH b) (s0 : St) : VF mX4_drowned 4 SH jI 0 [(0, .ref b)] [] s0 (f_X4_drowned b s0) := by
  unfold f_X4_drowned
  refine v_aload_n dX4_drowned_0 rfl rfl ?_
  refine v_iconst (v := 2) dX4_drowned_1 (by decide +kernel) ?_
  refine v_iconst (v := 0) dX4_drowned_2 (by decide +kernel) ?_
  refine v_cbI (fun z hz => runV (as := [.int (2 : Int32), .int (0 : Int32)]) dX4_drowned_3 kv_X4_183 rfl rfl (Nat.le_of_ble_eq_true rfl) (Nat.le_of_ble_eq_true rfl) (recvW h.1 rfl rfl) (ct_X4_whenFirst _ _ _ h _) hz) (fun x2 s1 => ?_)
  exact v_ret (ty := .int) dX4_drowned_6 rfl rfl rfl
theorem ct_X4_drowned {SH : SHT} (b : Nat) (h : isModel SH b) (s0 : St) : CT yX4_drowned mX4_drowned 4 SH jI [.ref b] s0 (f_X4_drowned b s0) := CT.of (by decide +kernel) rfl (fun E => Nat.le_of_ble_eq_true rfl) (w_X4_drowned b h s0)
set_option maxHeartbeats 4000000 in
set_option maxRecDepth 100000 in
theorem w_X4_isAsk {SH : SHT} (b : Nat) (a1 : Int32) (a2 : Int32) (a3 : Int32) (h : isModel SH b) (s0 : St) : VF mX4_isAsk 2 SH (jP s0) 0 [(0, .ref b), (1, .int a1), (2, .int a2), (3, .int a3)] [] s0 (f_X4_isAsk b a1 a2 a3 s0) := by
  unfold f_X4_isAsk
  refine v_aload_n dX4_isAsk_0 rfl rfl ?_
  refine v_iload_n dX4_isAsk_1 rfl rfl ?_
  refine v_cpI (fun z hz => runV (as := [.int a1]) dX4_isAsk_2 kv_X4_127 rfl rfl (Nat.le_of_ble_eq_true rfl) (Nat.le_of_ble_eq_true rfl) (recvW h.1 rfl rfl) (ct_X4_isPerson _ _ h _) hz) (fun x1 => ?_)
  refine v_if_eq (tgt := 31) dX4_isAsk_5 (by decide) (fun _ => ?_) (fun _ => ?_)
  · skip
    refine v_iconst (v := 0) dX4_isAsk_31 (by decide +kernel) ?_
    exact v_ret (ty := .boolean) dX4_isAsk_32 rfl rfl (by decide +kernel)
  refine v_iload_n dX4_isAsk_8 rfl rfl ?_
  refine v_cpI (fun z hz => runT (as := [.int a2]) dX4_isAsk_9 kt_X4_120 rfl rfl (Nat.le_of_ble_eq_true rfl) (Nat.le_of_ble_eq_true rfl) (ct_X4_isCell _  _) hz) (fun x2 => ?_)
  refine v_if_eq (tgt := 31) dX4_isAsk_12 (by decide) (fun _ => ?_) (fun _ => ?_)
  · skip
    refine v_iconst (v := 0) dX4_isAsk_31 (by decide +kernel) ?_
    exact v_ret (ty := .boolean) dX4_isAsk_32 rfl rfl (by decide +kernel)
  refine v_iload_n dX4_isAsk_15 rfl rfl ?_
  refine v_i2l dX4_isAsk_16 ?_
  refine v_lconst (v := 1) dX4_isAsk_17 (by decide +kernel) ?_
  refine v_ldc2 dX4_isAsk_18 kcL_X4_186 ?_
  refine v_cpI (fun z hz => runT (as := [.long (a3).toInt64, .long (1 : Int64), .long (20 : Int64)]) dX4_isAsk_21 kt_X4_61 rfl rfl (Nat.le_of_ble_eq_true rfl) (Nat.le_of_ble_eq_true rfl) (ct_X4_in _ _ _  _) hz) (fun x3 => ?_)
  refine v_if_eq (tgt := 31) dX4_isAsk_24 (by decide) (fun _ => ?_) (fun _ => ?_)
  · skip
    refine v_iconst (v := 0) dX4_isAsk_31 (by decide +kernel) ?_
    exact v_ret (ty := .boolean) dX4_isAsk_32 rfl rfl (by decide +kernel)
  refine v_iconst (v := 1) dX4_isAsk_27 (by decide +kernel) ?_
  refine v_goto (tgt := 32) dX4_isAsk_28 (by decide) ?_
  exact v_ret (ty := .boolean) dX4_isAsk_32 rfl rfl (by decide +kernel)
theorem ct_X4_isAsk {SH : SHT} (b : Nat) (a1 : Int32) (a2 : Int32) (a3 : Int32) (h : isModel SH b) (s0 : St) : CT yX4_isAsk mX4_isAsk 2 SH (jP s0) [.ref b, .int a1, .int a2, .int a3] s0 (f_X4_isAsk b a1 a2 a3 s0) := CT.of (by decide +kernel) rfl (fun E => Nat.le_of_ble_eq_true rfl) (w_X4_isAsk b a1 a2 a3 h s0)
set_option maxHeartbeats 4000000 in
set_option maxRecDepth 100000 in
theorem wB_X4_mostBy_13 {SH : SHT} (b : Nat) (a1 : Int32) (a2 : Int32) (a3 : Int32) (a4 : Int32) (h : isModel SH b) (rec : Int32 → Int32 → Int32 → St → Option (Int32 × St)) (hrec : ∀ (c2 : Int32) (c3 : Int32) (c4 : Int32) (s5 : St), VF mX4_mostBy 5 SH jI 13 [(0, .ref b), (1, .int a1), (2, .int a2), (3, .int a3), (4, .int a4), (5, .int c2), (6, .int c3), (7, .int c4)] [] s5 (rec c2 c3 c4 s5)) (K : Int32 → St → Option (Int32 × St)) (hK : ∀ (e6 : Int32) (s7 : St), VF mX4_mostBy 5 SH jI 52 [(5, .int e6)] [] s7 (K e6 s7)) (c2 : Int32) (c3 : Int32) (c4 : Int32) (s5 : St) : VF mX4_mostBy 5 SH jI 13 [(0, .ref b), (1, .int a1), (2, .int a2), (3, .int a3), (4, .int a4), (5, .int c2), (6, .int c3), (7, .int c4)] [] s5 (B_X4_mostBy_13 rec b a1 a2 a3 a4 K c2 c3 c4 s5) := by
  unfold B_X4_mostBy_13
  refine v_iload dX4_mostBy_13 rfl ?_
  refine v_iload_n dX4_mostBy_15 rfl rfl ?_
  refine v_icmp_ge (tgt := 52) dX4_mostBy_16 (by decide) (fun _ => ?_) (fun _ => ?_)
  · skip
    exact v_pick [5] rfl (hK _ _)
  refine v_aload_n dX4_mostBy_19 rfl rfl ?_
  refine v_iload_n dX4_mostBy_20 rfl rfl ?_
  refine v_iload dX4_mostBy_21 rfl ?_
  refine v_iload_n dX4_mostBy_23 rfl rfl ?_
  refine v_iload dX4_mostBy_24 rfl ?_
  refine v_cbI (fun z hz => runV (as := [.int a3, .int a4, .int a1, .int c4]) dX4_mostBy_26 kv_X4_176 rfl rfl (Nat.le_of_ble_eq_true rfl) (Nat.le_of_ble_eq_true rfl) (recvW h.1 rfl rfl) (ct_X4_levelWith _ _ _ _ _ h _) hz) (fun x9 s8 => ?_)
  refine v_istore (L' := [(8, .int x9), (0, .ref b), (1, .int a1), (2, .int a2), (3, .int a3), (4, .int a4), (5, .int c2), (6, .int c3), (7, .int c4)]) dX4_mostBy_29 (by decide) rfl ?_
  refine v_iload dX4_mostBy_31 rfl ?_
  refine v_iload dX4_mostBy_33 rfl ?_
  refine v_bnK (fun K12 => ∀ (t10 : Int32) (t11 : Int32), VF mX4_mostBy 5 SH jI 46 [(0, .ref b), (1, .int a1), (2, .int a2), (3, .int a3), (4, .int a4), (5, .int t10), (6, .int t11), (7, .int c4)] [] s8 (K12 t10 t11)) (fun K12 hK12 => ?_) (fun t10 t11 => ?_)
  · skip
    refine v_icmp_le (tgt := 46) dX4_mostBy_35 (by decide) (fun _ => ?_) (fun _ => ?_)
    · skip
      exact v_pick [1, 2, 3, 4, 5, 6, 7, 8] rfl (hK12 _ _)
    refine v_iload dX4_mostBy_38 rfl ?_
    refine v_istore (L' := [(5, .int c4), (8, .int x9), (0, .ref b), (1, .int a1), (2, .int a2), (3, .int a3), (4, .int a4), (6, .int c3), (7, .int c4)]) dX4_mostBy_40 (by decide) rfl ?_
    refine v_iload dX4_mostBy_42 rfl ?_
    refine v_istore (L' := [(6, .int x9), (5, .int c4), (8, .int x9), (0, .ref b), (1, .int a1), (2, .int a2), (3, .int a3), (4, .int a4), (7, .int c4)]) dX4_mostBy_44 (by decide) rfl ?_
    exact v_pick [3, 4, 5, 6, 7, 1, 0, 8] rfl (hK12 _ _)
  refine v_iinc (v := (c4 + (1 : Int32))) (L' := [(7, .int (c4 + (1 : Int32))), (0, .ref b), (1, .int a1), (2, .int a2), (3, .int a3), (4, .int a4), (5, .int t10), (6, .int t11)]) dX4_mostBy_46 rfl rfl (by decide) rfl ?_
  refine v_goto (tgt := 13) dX4_mostBy_49 (by decide) ?_
  exact v_pick [1, 2, 3, 4, 5, 6, 7, 0] rfl (hrec _ _ _ _)
theorem wL_X4_mostBy_13 {SH : SHT} (b : Nat) (a1 : Int32) (a2 : Int32) (a3 : Int32) (a4 : Int32) (h : isModel SH b) (K : Int32 → St → Option (Int32 × St)) (hK : ∀ (e6 : Int32) (s7 : St), VF mX4_mostBy 5 SH jI 52 [(5, .int e6)] [] s7 (K e6 s7)) : ∀ (n : Nat) (c2 : Int32) (c3 : Int32) (c4 : Int32) (s5 : St), VF mX4_mostBy 5 SH jI 13 [(0, .ref b), (1, .int a1), (2, .int a2), (3, .int a3), (4, .int a4), (5, .int c2), (6, .int c3), (7, .int c4)] [] s5 (L_X4_mostBy_13 b a1 a2 a3 a4 K n c2 c3 c4 s5) := by
  intro n
  induction n with
  | zero => intros; exact v_none
  | succ n ih => intro c2 c3 c4 s5; exact wB_X4_mostBy_13 b a1 a2 a3 a4 h _ ih K hK c2 c3 c4 s5
set_option maxHeartbeats 4000000 in
set_option maxRecDepth 100000 in
theorem w_X4_mostBy {SH : SHT} (b : Nat) (a1 : Int32) (a2 : Int32) (a3 : Int32) (a4 : Int32) (h : isModel SH b) (s0 : St) : VF mX4_mostBy 5 SH jI 0 [(0, .ref b), (1, .int a1), (2, .int a2), (3, .int a3), (4, .int a4)] [] s0 (f_X4_mostBy b a1 a2 a3 a4 s0) := by
  unfold f_X4_mostBy
  refine v_aload_n dX4_mostBy_0 rfl rfl ?_
  refine v_cw (fun z hz => runV (as := []) dX4_mostBy_1 kv_X4_170 rfl rfl (Nat.le_of_ble_eq_true rfl) (Nat.le_of_ble_eq_true rfl) (recvW h.1 rfl rfl) (ct_X4_keepAside _ h _) hz) (fun s1 => ?_)
  refine v_iconst (v := 0) dX4_mostBy_4 (by decide +kernel) ?_
  refine v_istore (L' := [(5, .int (0 : Int32)), (0, .ref b), (1, .int a1), (2, .int a2), (3, .int a3), (4, .int a4)]) dX4_mostBy_5 (by decide) rfl ?_
  refine v_iconst (v := -1) dX4_mostBy_7 (by decide +kernel) ?_
  refine v_istore (L' := [(6, .int (-1 : Int32)), (5, .int (0 : Int32)), (0, .ref b), (1, .int a1), (2, .int a2), (3, .int a3), (4, .int a4)]) dX4_mostBy_8 (by decide) rfl ?_
  refine v_iconst (v := 0) dX4_mostBy_10 (by decide +kernel) ?_
  refine v_istore (L' := [(7, .int (0 : Int32)), (6, .int (-1 : Int32)), (5, .int (0 : Int32)), (0, .ref b), (1, .int a1), (2, .int a2), (3, .int a3), (4, .int a4)]) dX4_mostBy_11 (by decide) rfl ?_
  refine v_pick [3, 4, 5, 6, 7, 2, 1, 0] rfl (wL_X4_mostBy_13 b a1 a2 a3 a4 h _ (fun e6 s7 => ?_) FU _ _ _ _)
  refine v_iload dX4_mostBy_52 rfl ?_
  exact v_ret (ty := .int) dX4_mostBy_54 rfl rfl rfl
theorem ct_X4_mostBy {SH : SHT} (b : Nat) (a1 : Int32) (a2 : Int32) (a3 : Int32) (a4 : Int32) (h : isModel SH b) (s0 : St) : CT yX4_mostBy mX4_mostBy 5 SH jI [.ref b, .int a1, .int a2, .int a3, .int a4] s0 (f_X4_mostBy b a1 a2 a3 a4 s0) := CT.of (by decide +kernel) rfl (fun E => Nat.le_of_ble_eq_true rfl) (w_X4_mostBy b a1 a2 a3 a4 h s0)
set_option maxHeartbeats 4000000 in
set_option maxRecDepth 100000 in
theorem w_X4_whereFor {SH : SHT} (b : Nat) (a1 : Int32) (a2 : Int32) (a3 : Int32) (h : isModel SH b) (s0 : St) : VF mX4_whereFor 6 SH jI 0 [(0, .ref b), (1, .int a1), (2, .int a2), (3, .int a3)] [] s0 (f_X4_whereFor b a1 a2 a3 s0) := by
  unfold f_X4_whereFor
  refine v_aload_n dX4_whereFor_0 rfl rfl ?_
  refine v_iload_n dX4_whereFor_1 rfl rfl ?_
  refine v_iload_n dX4_whereFor_2 rfl rfl ?_
  refine v_iload_n dX4_whereFor_3 rfl rfl ?_
  refine v_cpI (fun z hz => runV (as := [.int a1, .int a2, .int a3]) dX4_whereFor_4 kv_X4_188 rfl rfl (Nat.le_of_ble_eq_true rfl) (Nat.le_of_ble_eq_true rfl) (recvW h.1 rfl rfl) (ct_X4_isAsk _ _ _ _ h _) hz) (fun x1 => ?_)
  refine v_if_eq (tgt := 29) dX4_whereFor_7 (by decide) (fun _ => ?_) (fun _ => ?_)
  · skip
    refine v_iconst (v := -1) dX4_whereFor_29 (by decide +kernel) ?_
    exact v_ret (ty := .int) dX4_whereFor_30 rfl rfl rfl
  refine v_aload_n dX4_whereFor_10 rfl rfl ?_
  refine v_bipush (v := 71) dX4_whereFor_11 (by decide +kernel) ?_
  refine v_iconst (v := 4) dX4_whereFor_13 (by decide +kernel) ?_
  refine v_iload_n dX4_whereFor_14 rfl rfl ?_
  refine v_imul dX4_whereFor_15 ?_
  refine v_iadd dX4_whereFor_16 ?_
  refine v_iconst (v := 3) dX4_whereFor_17 (by decide +kernel) ?_
  refine v_iadd dX4_whereFor_18 ?_
  refine v_bipush (v := 32) dX4_whereFor_19 (by decide +kernel) ?_
  refine v_iload_n dX4_whereFor_21 rfl rfl ?_
  refine v_iload_n dX4_whereFor_22 rfl rfl ?_
  refine v_cbI (fun z hz => runV (as := [.int (((71 : Int32) + ((4 : Int32) * a1)) + (3 : Int32)), .int (32 : Int32), .int a2, .int a3]) dX4_whereFor_23 kv_X4_192 rfl rfl (Nat.le_of_ble_eq_true rfl) (Nat.le_of_ble_eq_true rfl) (recvW h.1 rfl rfl) (ct_X4_mostBy _ _ _ _ _ h _) hz) (fun x3 s2 => ?_)
  refine v_goto (tgt := 30) dX4_whereFor_26 (by decide) ?_
  exact v_ret (ty := .int) dX4_whereFor_30 rfl rfl rfl
theorem ct_X4_whereFor {SH : SHT} (b : Nat) (a1 : Int32) (a2 : Int32) (a3 : Int32) (h : isModel SH b) (s0 : St) : CT yX4_whereFor mX4_whereFor 6 SH jI [.ref b, .int a1, .int a2, .int a3] s0 (f_X4_whereFor b a1 a2 a3 s0) := CT.of (by decide +kernel) rfl (fun E => Nat.le_of_ble_eq_true rfl) (w_X4_whereFor b a1 a2 a3 h s0)
set_option maxHeartbeats 4000000 in
set_option maxRecDepth 100000 in
theorem w_X4_kindFor {SH : SHT} (b : Nat) (a1 : Int32) (a2 : Int32) (a3 : Int32) (h : isModel SH b) (s0 : St) : VF mX4_kindFor 6 SH jI 0 [(0, .ref b), (1, .int a1), (2, .int a2), (3, .int a3)] [] s0 (f_X4_kindFor b a1 a2 a3 s0) := by
  unfold f_X4_kindFor
  refine v_aload_n dX4_kindFor_0 rfl rfl ?_
  refine v_iload_n dX4_kindFor_1 rfl rfl ?_
  refine v_iload_n dX4_kindFor_2 rfl rfl ?_
  refine v_iload_n dX4_kindFor_3 rfl rfl ?_
  refine v_cpI (fun z hz => runV (as := [.int a1, .int a2, .int a3]) dX4_kindFor_4 kv_X4_188 rfl rfl (Nat.le_of_ble_eq_true rfl) (Nat.le_of_ble_eq_true rfl) (recvW h.1 rfl rfl) (ct_X4_isAsk _ _ _ _ h _) hz) (fun x1 => ?_)
  refine v_if_eq (tgt := 29) dX4_kindFor_7 (by decide) (fun _ => ?_) (fun _ => ?_)
  · skip
    refine v_iconst (v := -1) dX4_kindFor_29 (by decide +kernel) ?_
    exact v_ret (ty := .int) dX4_kindFor_30 rfl rfl rfl
  refine v_aload_n dX4_kindFor_10 rfl rfl ?_
  refine v_bipush (v := 71) dX4_kindFor_11 (by decide +kernel) ?_
  refine v_iconst (v := 4) dX4_kindFor_13 (by decide +kernel) ?_
  refine v_iload_n dX4_kindFor_14 rfl rfl ?_
  refine v_imul dX4_kindFor_15 ?_
  refine v_iadd dX4_kindFor_16 ?_
  refine v_iconst (v := 0) dX4_kindFor_17 (by decide +kernel) ?_
  refine v_iadd dX4_kindFor_18 ?_
  refine v_bipush (v := 6) dX4_kindFor_19 (by decide +kernel) ?_
  refine v_iload_n dX4_kindFor_21 rfl rfl ?_
  refine v_iload_n dX4_kindFor_22 rfl rfl ?_
  refine v_cbI (fun z hz => runV (as := [.int (((71 : Int32) + ((4 : Int32) * a1)) + (0 : Int32)), .int (6 : Int32), .int a2, .int a3]) dX4_kindFor_23 kv_X4_192 rfl rfl (Nat.le_of_ble_eq_true rfl) (Nat.le_of_ble_eq_true rfl) (recvW h.1 rfl rfl) (ct_X4_mostBy _ _ _ _ _ h _) hz) (fun x3 s2 => ?_)
  refine v_goto (tgt := 30) dX4_kindFor_26 (by decide) ?_
  exact v_ret (ty := .int) dX4_kindFor_30 rfl rfl rfl
theorem ct_X4_kindFor {SH : SHT} (b : Nat) (a1 : Int32) (a2 : Int32) (a3 : Int32) (h : isModel SH b) (s0 : St) : CT yX4_kindFor mX4_kindFor 6 SH jI [.ref b, .int a1, .int a2, .int a3] s0 (f_X4_kindFor b a1 a2 a3 s0) := CT.of (by decide +kernel) rfl (fun E => Nat.le_of_ble_eq_true rfl) (w_X4_kindFor b a1 a2 a3 h s0)
set_option maxHeartbeats 4000000 in
set_option maxRecDepth 100000 in
theorem wB_X4_annoyed_19 {SH : SHT} (b : Nat) (a1 : Int32) (a2 : Int32) (a3 : Int32) (h : isModel SH b) (rec : Int32 → St → Option (Int32 × St)) (hrec : ∀ (c3 : Int32) (s4 : St), VF mX4_annoyed 5 SH jI 19 [(0, .ref b), (1, .int a1), (2, .int a2), (3, .int a3), (4, .int c3)] [] s4 (rec c3 s4)) (c3 : Int32) (s4 : St) : VF mX4_annoyed 5 SH jI 19 [(0, .ref b), (1, .int a1), (2, .int a2), (3, .int a3), (4, .int c3)] [] s4 (B_X4_annoyed_19 rec b a1 a2 a3 c3 s4) := by
  unfold B_X4_annoyed_19
  refine v_iload dX4_annoyed_19 rfl ?_
  refine v_bipush (v := 99) dX4_annoyed_21 (by decide +kernel) ?_
  refine v_icmp_gt (tgt := 56) dX4_annoyed_23 (by decide) (fun _ => ?_) (fun _ => ?_)
  · skip
    refine v_bipush (v := -3) dX4_annoyed_56 (by decide +kernel) ?_
    exact v_ret (ty := .int) dX4_annoyed_58 rfl rfl rfl
  refine v_aload_n dX4_annoyed_26 rfl rfl ?_
  refine v_iload_n dX4_annoyed_27 rfl rfl ?_
  refine v_iload_n dX4_annoyed_28 rfl rfl ?_
  refine v_bipush (v := 71) dX4_annoyed_29 (by decide +kernel) ?_
  refine v_iconst (v := 4) dX4_annoyed_31 (by decide +kernel) ?_
  refine v_iload_n dX4_annoyed_32 rfl rfl ?_
  refine v_imul dX4_annoyed_33 ?_
  refine v_iadd dX4_annoyed_34 ?_
  refine v_iconst (v := 2) dX4_annoyed_35 (by decide +kernel) ?_
  refine v_iadd dX4_annoyed_36 ?_
  refine v_iload dX4_annoyed_37 rfl ?_
  refine v_cbI (fun z hz => runV (as := [.int a2, .int a3, .int (((71 : Int32) + ((4 : Int32) * a1)) + (2 : Int32)), .int c3]) dX4_annoyed_39 kv_X4_176 rfl rfl (Nat.le_of_ble_eq_true rfl) (Nat.le_of_ble_eq_true rfl) (recvW h.1 rfl rfl) (ct_X4_levelWith _ _ _ _ _ h _) hz) (fun x6 s5 => ?_)
  refine v_bipush (v := 10) dX4_annoyed_42 (by decide +kernel) ?_
  refine v_icmp_lt (tgt := 50) dX4_annoyed_44 (by decide) (fun _ => ?_) (fun _ => ?_)
  · skip
    refine v_iinc (v := (c3 + (1 : Int32))) (L' := [(4, .int (c3 + (1 : Int32))), (0, .ref b), (1, .int a1), (2, .int a2), (3, .int a3)]) dX4_annoyed_50 rfl rfl (by decide) rfl ?_
    refine v_goto (tgt := 19) dX4_annoyed_53 (by decide) ?_
    exact v_pick [1, 2, 3, 4, 0] rfl (hrec _ _)
  refine v_iload dX4_annoyed_47 rfl ?_
  exact v_ret (ty := .int) dX4_annoyed_49 rfl rfl rfl
theorem wL_X4_annoyed_19 {SH : SHT} (b : Nat) (a1 : Int32) (a2 : Int32) (a3 : Int32) (h : isModel SH b) : ∀ (n : Nat) (c3 : Int32) (s4 : St), VF mX4_annoyed 5 SH jI 19 [(0, .ref b), (1, .int a1), (2, .int a2), (3, .int a3), (4, .int c3)] [] s4 (L_X4_annoyed_19 b a1 a2 a3 n c3 s4) := by
  intro n
  induction n with
  | zero => intros; exact v_none
  | succ n ih => intro c3 s4; exact wB_X4_annoyed_19 b a1 a2 a3 h _ ih c3 s4
set_option maxHeartbeats 4000000 in
set_option maxRecDepth 100000 in
theorem w_X4_annoyed {SH : SHT} (b : Nat) (a1 : Int32) (a2 : Int32) (a3 : Int32) (h : isModel SH b) (s0 : St) : VF mX4_annoyed 5 SH jI 0 [(0, .ref b), (1, .int a1), (2, .int a2), (3, .int a3)] [] s0 (f_X4_annoyed b a1 a2 a3 s0) := by
  unfold f_X4_annoyed
  refine v_aload_n dX4_annoyed_0 rfl rfl ?_
  refine v_iload_n dX4_annoyed_1 rfl rfl ?_
  refine v_iload_n dX4_annoyed_2 rfl rfl ?_
  refine v_iload_n dX4_annoyed_3 rfl rfl ?_
  refine v_cpI (fun z hz => runV (as := [.int a1, .int a2, .int a3]) dX4_annoyed_4 kv_X4_188 rfl rfl (Nat.le_of_ble_eq_true rfl) (Nat.le_of_ble_eq_true rfl) (recvW h.1 rfl rfl) (ct_X4_isAsk _ _ _ _ h _) hz) (fun x1 => ?_)
  refine v_if_ne (tgt := 12) dX4_annoyed_7 (by decide) (fun _ => ?_) (fun _ => ?_)
  · skip
    refine v_aload_n dX4_annoyed_12 rfl rfl ?_
    refine v_cw (fun z hz => runV (as := []) dX4_annoyed_13 kv_X4_170 rfl rfl (Nat.le_of_ble_eq_true rfl) (Nat.le_of_ble_eq_true rfl) (recvW h.1 rfl rfl) (ct_X4_keepAside _ h _) hz) (fun s2 => ?_)
    refine v_iconst (v := 0) dX4_annoyed_16 (by decide +kernel) ?_
    refine v_istore (L' := [(4, .int (0 : Int32)), (0, .ref b), (1, .int a1), (2, .int a2), (3, .int a3)]) dX4_annoyed_17 (by decide) rfl ?_
    exact v_pick [1, 2, 3, 4, 0] rfl (wL_X4_annoyed_19 b a1 a2 a3 h FU _ _)
  refine v_iconst (v := -1) dX4_annoyed_10 (by decide +kernel) ?_
  exact v_ret (ty := .int) dX4_annoyed_11 rfl rfl rfl
theorem ct_X4_annoyed {SH : SHT} (b : Nat) (a1 : Int32) (a2 : Int32) (a3 : Int32) (h : isModel SH b) (s0 : St) : CT yX4_annoyed mX4_annoyed 5 SH jI [.ref b, .int a1, .int a2, .int a3] s0 (f_X4_annoyed b a1 a2 a3 s0) := CT.of (by decide +kernel) rfl (fun E => Nat.le_of_ble_eq_true rfl) (w_X4_annoyed b a1 a2 a3 h s0)
set_option maxHeartbeats 4000000 in
set_option maxRecDepth 100000 in
theorem w_X4_levelWithout {SH : SHT} (b : Nat) (a1 : Int32) (a2 : Int32) (a3 : Int32) (h : isModel SH b) (s0 : St) : VF mX4_levelWithout 5 SH jI 0 [(0, .ref b), (1, .int a1), (2, .int a2), (3, .int a3)] [] s0 (f_X4_levelWithout b a1 a2 a3 s0) := by
  unfold f_X4_levelWithout
  refine v_aload_n dX4_levelWithout_0 rfl rfl ?_
  refine v_iload_n dX4_levelWithout_1 rfl rfl ?_
  refine v_puti dX4_levelWithout_2 kp_X4_71 h.1 rfl rfl rfl (v_st fun s1 => ?_)
  refine v_aload_n dX4_levelWithout_5 rfl rfl ?_
  refine v_iload_n dX4_levelWithout_6 rfl rfl ?_
  refine v_iload_n dX4_levelWithout_7 rfl rfl ?_
  refine v_iconst (v := -1) dX4_levelWithout_8 (by decide +kernel) ?_
  refine v_iconst (v := 0) dX4_levelWithout_9 (by decide +kernel) ?_
  refine v_cbI (fun z hz => runV (as := [.int a2, .int a3, .int (-1 : Int32), .int (0 : Int32)]) dX4_levelWithout_10 kv_X4_176 rfl rfl (Nat.le_of_ble_eq_true rfl) (Nat.le_of_ble_eq_true rfl) (recvW h.1 rfl rfl) (ct_X4_levelWith _ _ _ _ _ h _) hz) (fun x3 s2 => ?_)
  refine v_istore (L' := [(4, .int x3), (0, .ref b), (1, .int a1), (2, .int a2), (3, .int a3)]) dX4_levelWithout_13 (by decide) rfl ?_
  refine v_aload_n dX4_levelWithout_15 rfl rfl ?_
  refine v_iconst (v := 0) dX4_levelWithout_16 (by decide +kernel) ?_
  refine v_puti dX4_levelWithout_17 kp_X4_71 h.1 rfl rfl rfl (v_st fun s4 => ?_)
  refine v_iload dX4_levelWithout_20 rfl ?_
  exact v_ret (ty := .int) dX4_levelWithout_22 rfl rfl rfl
theorem ct_X4_levelWithout {SH : SHT} (b : Nat) (a1 : Int32) (a2 : Int32) (a3 : Int32) (h : isModel SH b) (s0 : St) : CT yX4_levelWithout mX4_levelWithout 5 SH jI [.ref b, .int a1, .int a2, .int a3] s0 (f_X4_levelWithout b a1 a2 a3 s0) := CT.of (by decide +kernel) rfl (fun E => Nat.le_of_ble_eq_true rfl) (w_X4_levelWithout b a1 a2 a3 h s0)
set_option maxHeartbeats 4000000 in
set_option maxRecDepth 100000 in
theorem wB_X4_needed_40 {SH : SHT} (b : Nat) (a1 : Int32) (a2 : Int32) (h : isModel SH b) (rec : Int32 → Int32 → Int32 → St → Option (Int32 × St)) (hrec : ∀ (c6 : Int32) (c7 : Int32) (c8 : Int32) (s9 : St), VF mX4_needed 6 SH jI 40 [(0, .ref b), (1, .int a1), (2, .int a2), (3, .int c6), (4, .int c7), (5, .int c8)] [] s9 (rec c6 c7 c8 s9)) (K : Int32 → St → Option (Int32 × St)) (hK : ∀ (e10 : Int32) (s11 : St), VF mX4_needed 6 SH jI 82 [(4, .int e10)] [] s11 (K e10 s11)) (c6 : Int32) (c7 : Int32) (c8 : Int32) (s9 : St) : VF mX4_needed 6 SH jI 40 [(0, .ref b), (1, .int a1), (2, .int a2), (3, .int c6), (4, .int c7), (5, .int c8)] [] s9 (B_X4_needed_40 rec b a1 a2 K c6 c7 c8 s9) := by
  unfold B_X4_needed_40
  refine v_iload dX4_needed_40 rfl ?_
  refine v_aload_n dX4_needed_42 rfl rfl ?_
  refine v_getr dX4_needed_43 kf_X4_7 h.1 rfl ?_
  refine v_iconst (v := 5) dX4_needed_46 (by decide +kernel) ?_
  refine v_iald dX4_needed_47 h.2.1 (by decide +kernel) (j := 5) (by decide +kernel) ?_
  refine v_icmp_ge (tgt := 82) dX4_needed_48 (by decide) (fun _ => ?_) (fun _ => ?_)
  · skip
    exact v_pick [4] rfl (hK _ _)
  refine v_aload_n dX4_needed_51 rfl rfl ?_
  refine v_iconst (v := 1) dX4_needed_52 (by decide +kernel) ?_
  refine v_iload dX4_needed_53 rfl ?_
  refine v_ishl dX4_needed_55 ?_
  refine v_iload_n dX4_needed_56 rfl rfl ?_
  refine v_iload_n dX4_needed_57 rfl rfl ?_
  refine v_cbI (fun z hz => runV (as := [.int ((1 : Int32) <<< (c8 &&& 31)), .int a1, .int a2]) dX4_needed_58 kv_X4_195 rfl rfl (Nat.le_of_ble_eq_true rfl) (Nat.le_of_ble_eq_true rfl) (recvW h.1 rfl rfl) (ct_X4_levelWithout _ _ _ _ h _) hz) (fun x13 s12 => ?_)
  refine v_istore (L' := [(6, .int x13), (0, .ref b), (1, .int a1), (2, .int a2), (3, .int c6), (4, .int c7), (5, .int c8)]) dX4_needed_61 (by decide) rfl ?_
  refine v_iload dX4_needed_63 rfl ?_
  refine v_iload_n dX4_needed_65 rfl rfl ?_
  refine v_bnK (fun K16 => ∀ (t14 : Int32) (t15 : Int32), VF mX4_needed 6 SH jI 76 [(0, .ref b), (1, .int a1), (2, .int a2), (3, .int t14), (4, .int t15), (5, .int c8)] [] s12 (K16 t14 t15)) (fun K16 hK16 => ?_) (fun t14 t15 => ?_)
  · skip
    refine v_icmp_ge (tgt := 76) dX4_needed_66 (by decide) (fun _ => ?_) (fun _ => ?_)
    · skip
      exact v_pick [1, 2, 3, 4, 5, 6] rfl (hK16 _ _)
    refine v_iload dX4_needed_69 rfl ?_
    refine v_istore (L' := [(4, .int c8), (6, .int x13), (0, .ref b), (1, .int a1), (2, .int a2), (3, .int c6), (5, .int c8)]) dX4_needed_71 (by decide) rfl ?_
    refine v_iload dX4_needed_73 rfl ?_
    refine v_istore_n (L' := [(3, .int x13), (4, .int c8), (6, .int x13), (0, .ref b), (1, .int a1), (2, .int a2), (5, .int c8)]) dX4_needed_75 rfl (by decide) rfl ?_
    exact v_pick [3, 4, 5, 0, 1, 6] rfl (hK16 _ _)
  refine v_iinc (v := (c8 + (1 : Int32))) (L' := [(5, .int (c8 + (1 : Int32))), (0, .ref b), (1, .int a1), (2, .int a2), (3, .int t14), (4, .int t15)]) dX4_needed_76 rfl rfl (by decide) rfl ?_
  refine v_goto (tgt := 40) dX4_needed_79 (by decide) ?_
  exact v_pick [1, 2, 3, 4, 5, 0] rfl (hrec _ _ _ _)
theorem wL_X4_needed_40 {SH : SHT} (b : Nat) (a1 : Int32) (a2 : Int32) (h : isModel SH b) (K : Int32 → St → Option (Int32 × St)) (hK : ∀ (e10 : Int32) (s11 : St), VF mX4_needed 6 SH jI 82 [(4, .int e10)] [] s11 (K e10 s11)) : ∀ (n : Nat) (c6 : Int32) (c7 : Int32) (c8 : Int32) (s9 : St), VF mX4_needed 6 SH jI 40 [(0, .ref b), (1, .int a1), (2, .int a2), (3, .int c6), (4, .int c7), (5, .int c8)] [] s9 (L_X4_needed_40 b a1 a2 K n c6 c7 c8 s9) := by
  intro n
  induction n with
  | zero => intros; exact v_none
  | succ n ih => intro c6 c7 c8 s9; exact wB_X4_needed_40 b a1 a2 h _ ih K hK c6 c7 c8 s9
set_option maxHeartbeats 4000000 in
set_option maxRecDepth 100000 in
theorem w_X4_needed {SH : SHT} (b : Nat) (a1 : Int32) (a2 : Int32) (h : isModel SH b) (s0 : St) : VF mX4_needed 6 SH jI 0 [(0, .ref b), (1, .int a1), (2, .int a2)] [] s0 (f_X4_needed b a1 a2 s0) := by
  unfold f_X4_needed
  refine v_iload_n dX4_needed_0 rfl rfl ?_
  refine v_cpI (fun z hz => runT (as := [.int a1]) dX4_needed_1 kt_X4_120 rfl rfl (Nat.le_of_ble_eq_true rfl) (Nat.le_of_ble_eq_true rfl) (ct_X4_isCell _  _) hz) (fun x1 => ?_)
  refine v_if_eq (tgt := 19) dX4_needed_4 (by decide) (fun _ => ?_) (fun _ => ?_)
  · skip
    refine v_iconst (v := -1) dX4_needed_19 (by decide +kernel) ?_
    exact v_ret (ty := .int) dX4_needed_20 rfl rfl rfl
  refine v_iload_n dX4_needed_7 rfl rfl ?_
  refine v_i2l dX4_needed_8 ?_
  refine v_lconst (v := 1) dX4_needed_9 (by decide +kernel) ?_
  refine v_ldc2 dX4_needed_10 kcL_X4_186 ?_
  refine v_cpI (fun z hz => runT (as := [.long (a2).toInt64, .long (1 : Int64), .long (20 : Int64)]) dX4_needed_13 kt_X4_61 rfl rfl (Nat.le_of_ble_eq_true rfl) (Nat.le_of_ble_eq_true rfl) (ct_X4_in _ _ _  _) hz) (fun x2 => ?_)
  refine v_if_ne (tgt := 21) dX4_needed_16 (by decide) (fun _ => ?_) (fun _ => ?_)
  · skip
    refine v_aload_n dX4_needed_21 rfl rfl ?_
    refine v_cw (fun z hz => runV (as := []) dX4_needed_22 kv_X4_170 rfl rfl (Nat.le_of_ble_eq_true rfl) (Nat.le_of_ble_eq_true rfl) (recvW h.1 rfl rfl) (ct_X4_keepAside _ h _) hz) (fun s3 => ?_)
    refine v_aload_n dX4_needed_25 rfl rfl ?_
    refine v_iconst (v := 0) dX4_needed_26 (by decide +kernel) ?_
    refine v_iload_n dX4_needed_27 rfl rfl ?_
    refine v_iload_n dX4_needed_28 rfl rfl ?_
    refine v_cbI (fun z hz => runV (as := [.int (0 : Int32), .int a1, .int a2]) dX4_needed_29 kv_X4_195 rfl rfl (Nat.le_of_ble_eq_true rfl) (Nat.le_of_ble_eq_true rfl) (recvW h.1 rfl rfl) (ct_X4_levelWithout _ _ _ _ h _) hz) (fun x5 s4 => ?_)
    refine v_istore_n (L' := [(3, .int x5), (0, .ref b), (1, .int a1), (2, .int a2)]) dX4_needed_32 rfl (by decide) rfl ?_
    refine v_bipush (v := -3) dX4_needed_33 (by decide +kernel) ?_
    refine v_istore (L' := [(4, .int (-3 : Int32)), (3, .int x5), (0, .ref b), (1, .int a1), (2, .int a2)]) dX4_needed_35 (by decide) rfl ?_
    refine v_iconst (v := 0) dX4_needed_37 (by decide +kernel) ?_
    refine v_istore (L' := [(5, .int (0 : Int32)), (4, .int (-3 : Int32)), (3, .int x5), (0, .ref b), (1, .int a1), (2, .int a2)]) dX4_needed_38 (by decide) rfl ?_
    refine v_pick [3, 4, 5, 2, 1, 0] rfl (wL_X4_needed_40 b a1 a2 h _ (fun e10 s11 => ?_) FU _ _ _ _)
    refine v_iload dX4_needed_82 rfl ?_
    exact v_ret (ty := .int) dX4_needed_84 rfl rfl rfl
  refine v_iconst (v := -1) dX4_needed_19 (by decide +kernel) ?_
  exact v_ret (ty := .int) dX4_needed_20 rfl rfl rfl
theorem ct_X4_needed {SH : SHT} (b : Nat) (a1 : Int32) (a2 : Int32) (h : isModel SH b) (s0 : St) : CT yX4_needed mX4_needed 6 SH jI [.ref b, .int a1, .int a2] s0 (f_X4_needed b a1 a2 s0) := CT.of (by decide +kernel) rfl (fun E => Nat.le_of_ble_eq_true rfl) (w_X4_needed b a1 a2 h s0)
set_option maxHeartbeats 4000000 in
set_option maxRecDepth 100000 in
theorem wB_X4_fewest_43 {SH : SHT} (b : Nat) (a1 : Int32) (a2 : Int32) (x4 : Int32) (h : isModel SH b) (rec : Int32 → Int32 → St → Option (Int32 × St)) (hrec : ∀ (c5 : Int32) (c6 : Int32) (s7 : St), VF mX4_fewest 6 SH jI 43 [(0, .ref b), (1, .int a1), (2, .int a2), (3, .int x4), (4, .int c5), (5, .int c6)] [] s7 (rec c5 c6 s7)) (K : Int32 → St → Option (Int32 × St)) (hK : ∀ (e8 : Int32) (s9 : St), VF mX4_fewest 6 SH jI 96 [(4, .int e8)] [] s9 (K e8 s9)) (c5 : Int32) (c6 : Int32) (s7 : St) : VF mX4_fewest 6 SH jI 43 [(0, .ref b), (1, .int a1), (2, .int a2), (3, .int x4), (4, .int c5), (5, .int c6)] [] s7 (B_X4_fewest_43 rec b a1 a2 x4 K c5 c6 s7) := by
  unfold B_X4_fewest_43
  refine v_iload dX4_fewest_43 rfl ?_
  refine v_iload_n dX4_fewest_45 rfl rfl ?_
  refine v_icmp_gt (tgt := 96) dX4_fewest_46 (by decide) (fun _ => ?_) (fun _ => ?_)
  · skip
    exact v_pick [4] rfl (hK _ _)
  refine v_iload dX4_fewest_49 rfl ?_
  refine v_bipush (v := -3) dX4_fewest_51 (by decide +kernel) ?_
  refine v_bnK (fun K12 => ∀ (t10 : Int32) (s11 : St), VF mX4_fewest 6 SH jI 90 [(0, .ref b), (1, .int a1), (2, .int a2), (3, .int x4), (4, .int t10), (5, .int c6)] [] s11 (K12 t10 s11)) (fun K12 hK12 => ?_) (fun t10 s11 => ?_)
  · skip
    refine v_icmp_eq (tgt := 69) dX4_fewest_53 (by decide) (fun _ => ?_) (fun _ => ?_)
    · skip
      refine v_aload_n dX4_fewest_69 rfl rfl ?_
      refine v_iload_n dX4_fewest_70 rfl rfl ?_
      refine v_iload dX4_fewest_71 rfl ?_
      refine v_iconst (v := -1) dX4_fewest_73 (by decide +kernel) ?_
      refine v_ixor dX4_fewest_74 ?_
      refine v_iand dX4_fewest_75 ?_
      refine v_iload_n dX4_fewest_76 rfl rfl ?_
      refine v_iload_n dX4_fewest_77 rfl rfl ?_
      refine v_cbI (fun z hz => runV (as := [.int (x4 &&& (c6 ^^^ (-1 : Int32))), .int a1, .int a2]) dX4_fewest_78 kv_X4_195 rfl rfl (Nat.le_of_ble_eq_true rfl) (Nat.le_of_ble_eq_true rfl) (recvW h.1 rfl rfl) (ct_X4_levelWithout _ _ _ _ h _) hz) (fun x14 s13 => ?_)
      refine v_bipush (v := 10) dX4_fewest_81 (by decide +kernel) ?_
      refine v_icmp_lt (tgt := 90) dX4_fewest_83 (by decide) (fun _ => ?_) (fun _ => ?_)
      · skip
        exact v_pick [0, 1, 2, 3, 4, 5] rfl (hK12 _ _)
      refine v_iload dX4_fewest_86 rfl ?_
      refine v_istore (L' := [(4, .int c6), (0, .ref b), (1, .int a1), (2, .int a2), (3, .int x4), (5, .int c6)]) dX4_fewest_88 (by decide) rfl ?_
      exact v_pick [1, 2, 3, 4, 0, 5] rfl (hK12 _ _)
    refine v_iload dX4_fewest_56 rfl ?_
    refine v_cpI (fun z hz => runT (as := [.int c6]) dX4_fewest_58 kt_X4_165 rfl rfl (Nat.le_of_ble_eq_true rfl) (Nat.le_of_ble_eq_true rfl) (ct_X4_bits _  _) hz) (fun x15 => ?_)
    refine v_iload dX4_fewest_61 rfl ?_
    refine v_cpI (fun z hz => runT (as := [.int c5]) dX4_fewest_63 kt_X4_165 rfl rfl (Nat.le_of_ble_eq_true rfl) (Nat.le_of_ble_eq_true rfl) (ct_X4_bits _  _) hz) (fun x16 => ?_)
    refine v_icmp_ge (tgt := 90) dX4_fewest_66 (by decide) (fun _ => ?_) (fun _ => ?_)
    · skip
      exact v_pick [0, 1, 2, 3, 4, 5] rfl (hK12 _ _)
    refine v_aload_n dX4_fewest_69 rfl rfl ?_
    refine v_iload_n dX4_fewest_70 rfl rfl ?_
    refine v_iload dX4_fewest_71 rfl ?_
    refine v_iconst (v := -1) dX4_fewest_73 (by decide +kernel) ?_
    refine v_ixor dX4_fewest_74 ?_
    refine v_iand dX4_fewest_75 ?_
    refine v_iload_n dX4_fewest_76 rfl rfl ?_
    refine v_iload_n dX4_fewest_77 rfl rfl ?_
    refine v_cbI (fun z hz => runV (as := [.int (x4 &&& (c6 ^^^ (-1 : Int32))), .int a1, .int a2]) dX4_fewest_78 kv_X4_195 rfl rfl (Nat.le_of_ble_eq_true rfl) (Nat.le_of_ble_eq_true rfl) (recvW h.1 rfl rfl) (ct_X4_levelWithout _ _ _ _ h _) hz) (fun x18 s17 => ?_)
    refine v_bipush (v := 10) dX4_fewest_81 (by decide +kernel) ?_
    refine v_icmp_lt (tgt := 90) dX4_fewest_83 (by decide) (fun _ => ?_) (fun _ => ?_)
    · skip
      exact v_pick [0, 1, 2, 3, 4, 5] rfl (hK12 _ _)
    refine v_iload dX4_fewest_86 rfl ?_
    refine v_istore (L' := [(4, .int c6), (0, .ref b), (1, .int a1), (2, .int a2), (3, .int x4), (5, .int c6)]) dX4_fewest_88 (by decide) rfl ?_
    exact v_pick [1, 2, 3, 4, 0, 5] rfl (hK12 _ _)
  refine v_iinc (v := (c6 + (1 : Int32))) (L' := [(5, .int (c6 + (1 : Int32))), (0, .ref b), (1, .int a1), (2, .int a2), (3, .int x4), (4, .int t10)]) dX4_fewest_90 rfl rfl (by decide) rfl ?_
  refine v_goto (tgt := 43) dX4_fewest_93 (by decide) ?_
  exact v_pick [1, 2, 3, 4, 5, 0] rfl (hrec _ _ _)
theorem wL_X4_fewest_43 {SH : SHT} (b : Nat) (a1 : Int32) (a2 : Int32) (x4 : Int32) (h : isModel SH b) (K : Int32 → St → Option (Int32 × St)) (hK : ∀ (e8 : Int32) (s9 : St), VF mX4_fewest 6 SH jI 96 [(4, .int e8)] [] s9 (K e8 s9)) : ∀ (n : Nat) (c5 : Int32) (c6 : Int32) (s7 : St), VF mX4_fewest 6 SH jI 43 [(0, .ref b), (1, .int a1), (2, .int a2), (3, .int x4), (4, .int c5), (5, .int c6)] [] s7 (L_X4_fewest_43 b a1 a2 x4 K n c5 c6 s7) := by
  intro n
  induction n with
  | zero => intros; exact v_none
  | succ n ih => intro c5 c6 s7; exact wB_X4_fewest_43 b a1 a2 x4 h _ ih K hK c5 c6 s7
set_option maxHeartbeats 4000000 in
set_option maxRecDepth 100000 in
theorem w_X4_fewest {SH : SHT} (b : Nat) (a1 : Int32) (a2 : Int32) (h : isModel SH b) (s0 : St) : VF mX4_fewest 6 SH jI 0 [(0, .ref b), (1, .int a1), (2, .int a2)] [] s0 (f_X4_fewest b a1 a2 s0) := by
  unfold f_X4_fewest
  refine v_iload_n dX4_fewest_0 rfl rfl ?_
  refine v_cpI (fun z hz => runT (as := [.int a1]) dX4_fewest_1 kt_X4_120 rfl rfl (Nat.le_of_ble_eq_true rfl) (Nat.le_of_ble_eq_true rfl) (ct_X4_isCell _  _) hz) (fun x1 => ?_)
  refine v_if_eq (tgt := 19) dX4_fewest_4 (by decide) (fun _ => ?_) (fun _ => ?_)
  · skip
    refine v_iconst (v := -1) dX4_fewest_19 (by decide +kernel) ?_
    exact v_ret (ty := .int) dX4_fewest_20 rfl rfl rfl
  refine v_iload_n dX4_fewest_7 rfl rfl ?_
  refine v_i2l dX4_fewest_8 ?_
  refine v_lconst (v := 1) dX4_fewest_9 (by decide +kernel) ?_
  refine v_ldc2 dX4_fewest_10 kcL_X4_186 ?_
  refine v_cpI (fun z hz => runT (as := [.long (a2).toInt64, .long (1 : Int64), .long (20 : Int64)]) dX4_fewest_13 kt_X4_61 rfl rfl (Nat.le_of_ble_eq_true rfl) (Nat.le_of_ble_eq_true rfl) (ct_X4_in _ _ _  _) hz) (fun x2 => ?_)
  refine v_if_ne (tgt := 21) dX4_fewest_16 (by decide) (fun _ => ?_) (fun _ => ?_)
  · skip
    refine v_aload_n dX4_fewest_21 rfl rfl ?_
    refine v_cw (fun z hz => runV (as := []) dX4_fewest_22 kv_X4_170 rfl rfl (Nat.le_of_ble_eq_true rfl) (Nat.le_of_ble_eq_true rfl) (recvW h.1 rfl rfl) (ct_X4_keepAside _ h _) hz) (fun s3 => ?_)
    refine v_iconst (v := 1) dX4_fewest_25 (by decide +kernel) ?_
    refine v_aload_n dX4_fewest_26 rfl rfl ?_
    refine v_getr dX4_fewest_27 kf_X4_7 h.1 rfl ?_
    refine v_iconst (v := 5) dX4_fewest_30 (by decide +kernel) ?_
    refine v_iald dX4_fewest_31 h.2.1 (by decide +kernel) (j := 5) (by decide +kernel) ?_
    refine v_ishl dX4_fewest_32 ?_
    refine v_iconst (v := 1) dX4_fewest_33 (by decide +kernel) ?_
    refine v_isub dX4_fewest_34 ?_
    refine v_topi (fun x4 => ?_)
    refine v_istore_n (L' := [(3, .int x4), (0, .ref b), (1, .int a1), (2, .int a2)]) dX4_fewest_35 rfl (by decide) rfl ?_
    refine v_bipush (v := -3) dX4_fewest_36 (by decide +kernel) ?_
    refine v_istore (L' := [(4, .int (-3 : Int32)), (3, .int x4), (0, .ref b), (1, .int a1), (2, .int a2)]) dX4_fewest_38 (by decide) rfl ?_
    refine v_iconst (v := 0) dX4_fewest_40 (by decide +kernel) ?_
    refine v_istore (L' := [(5, .int (0 : Int32)), (4, .int (-3 : Int32)), (3, .int x4), (0, .ref b), (1, .int a1), (2, .int a2)]) dX4_fewest_41 (by decide) rfl ?_
    refine v_pick [3, 4, 5, 2, 1, 0] rfl (wL_X4_fewest_43 b a1 a2 x4 h _ (fun e8 s9 => ?_) FU _ _ _)
    refine v_iload dX4_fewest_96 rfl ?_
    exact v_ret (ty := .int) dX4_fewest_98 rfl rfl rfl
  refine v_iconst (v := -1) dX4_fewest_19 (by decide +kernel) ?_
  exact v_ret (ty := .int) dX4_fewest_20 rfl rfl rfl
theorem ct_X4_fewest {SH : SHT} (b : Nat) (a1 : Int32) (a2 : Int32) (h : isModel SH b) (s0 : St) : CT yX4_fewest mX4_fewest 6 SH jI [.ref b, .int a1, .int a2] s0 (f_X4_fewest b a1 a2 s0) := CT.of (by decide +kernel) rfl (fun E => Nat.le_of_ble_eq_true rfl) (w_X4_fewest b a1 a2 h s0)
set_option maxHeartbeats 4000000 in
set_option maxRecDepth 100000 in
theorem wB_X4_ends_11 {SH : SHT} (b : Nat) (s0 : St) (h : isModel SH b) (rec : Int32 → Option Int32) (hrec : ∀ (c2 : Int32), VF mX4_ends 2 SH (jP s0) 11 [(0, .ref b), (2, .int c2)] [] s0 (rec c2)) (K : Int32 → Option Int32) (hK : ∀ (e3 : Int32), VF mX4_ends 2 SH (jP s0) 30 [(2, .int e3)] [] s0 (K e3)) (c2 : Int32) : VF mX4_ends 2 SH (jP s0) 11 [(0, .ref b), (2, .int c2)] [] s0 (B_X4_ends_11 rec b s0 K c2) := by
  unfold B_X4_ends_11
  refine v_aload_n dX4_ends_11 rfl rfl ?_
  refine v_iload_n dX4_ends_12 rfl rfl ?_
  refine v_cpI (fun z hz => runV (as := [.int c2]) dX4_ends_13 kv_X4_90 rfl rfl (Nat.le_of_ble_eq_true rfl) (Nat.le_of_ble_eq_true rfl) (recvW h.1 rfl rfl) (ct_X4_lowestOf _ _ h _) hz) (fun x4 => ?_)
  refine v_bipush (v := -3) dX4_ends_16 (by decide +kernel) ?_
  refine v_icmp_eq (tgt := 30) dX4_ends_18 (by decide) (fun _ => ?_) (fun _ => ?_)
  · skip
    exact v_pick [1] rfl (hK _)
  refine v_aload_n dX4_ends_21 rfl rfl ?_
  refine v_iload_n dX4_ends_22 rfl rfl ?_
  refine v_cpI (fun z hz => runV (as := [.int c2]) dX4_ends_23 kv_X4_90 rfl rfl (Nat.le_of_ble_eq_true rfl) (Nat.le_of_ble_eq_true rfl) (recvW h.1 rfl rfl) (ct_X4_lowestOf _ _ h _) hz) (fun x5 => ?_)
  refine v_istore_n (L' := [(2, .int x5), (0, .ref b)]) dX4_ends_26 rfl (by decide) rfl ?_
  refine v_goto (tgt := 11) dX4_ends_27 (by decide) ?_
  exact v_pick [1, 0] rfl (hrec _)
theorem wL_X4_ends_11 {SH : SHT} (b : Nat) (s0 : St) (h : isModel SH b) (K : Int32 → Option Int32) (hK : ∀ (e3 : Int32), VF mX4_ends 2 SH (jP s0) 30 [(2, .int e3)] [] s0 (K e3)) : ∀ (n : Nat) (c2 : Int32), VF mX4_ends 2 SH (jP s0) 11 [(0, .ref b), (2, .int c2)] [] s0 (L_X4_ends_11 b s0 K n c2) := by
  intro n
  induction n with
  | zero => intros; exact v_none
  | succ n ih => intro c2; exact wB_X4_ends_11 b s0 h _ ih K hK c2
set_option maxHeartbeats 4000000 in
set_option maxRecDepth 100000 in
theorem w_X4_ends {SH : SHT} (b : Nat) (a1 : Int32) (h : isModel SH b) (s0 : St) : VF mX4_ends 2 SH (jP s0) 0 [(0, .ref b), (1, .int a1)] [] s0 (f_X4_ends b a1 s0) := by
  unfold f_X4_ends
  refine v_iload_n dX4_ends_0 rfl rfl ?_
  refine v_cpI (fun z hz => runT (as := [.int a1]) dX4_ends_1 kt_X4_120 rfl rfl (Nat.le_of_ble_eq_true rfl) (Nat.le_of_ble_eq_true rfl) (ct_X4_isCell _  _) hz) (fun x1 => ?_)
  refine v_if_ne (tgt := 9) dX4_ends_4 (by decide) (fun _ => ?_) (fun _ => ?_)
  · skip
    refine v_iload_n dX4_ends_9 rfl rfl ?_
    refine v_istore_n (L' := [(2, .int a1), (0, .ref b), (1, .int a1)]) dX4_ends_10 rfl (by decide) rfl ?_
    refine v_pick [1, 0] rfl (wL_X4_ends_11 b s0 h _ (fun e3 => ?_) FU _)
    refine v_iload_n dX4_ends_30 rfl rfl ?_
    exact v_ret (ty := .int) dX4_ends_31 rfl rfl rfl
  refine v_iconst (v := -1) dX4_ends_7 (by decide +kernel) ?_
  exact v_ret (ty := .int) dX4_ends_8 rfl rfl rfl
theorem ct_X4_ends {SH : SHT} (b : Nat) (a1 : Int32) (h : isModel SH b) (s0 : St) : CT yX4_ends mX4_ends 2 SH (jP s0) [.ref b, .int a1] s0 (f_X4_ends b a1 s0) := CT.of (by decide +kernel) rfl (fun E => Nat.le_of_ble_eq_true rfl) (w_X4_ends b a1 h s0)
set_option maxHeartbeats 4000000 in
set_option maxRecDepth 100000 in
theorem wB_X4_isTold_14 {SH : SHT} (b : Nat) (a1 : Int32) (a2 : Int32) (h : isModel SH b) (rec : Int32 → Int32 → St → Option (Int32 × St)) (hrec : ∀ (c2 : Int32) (c3 : Int32) (s4 : St), VF mX4_isTold 3 SH jI 14 [(0, .ref b), (1, .int a1), (2, .int a2), (5, .int c2), (6, .int c3)] [] s4 (rec c2 c3 s4)) (K : Int32 → St → Option (Int32 × St)) (hK : ∀ (e5 : Int32) (s6 : St), VF mX4_isTold 3 SH jI 92 [(0, .ref b), (5, .int e5)] [] s6 (K e5 s6)) (c2 : Int32) (c3 : Int32) (s4 : St) : VF mX4_isTold 3 SH jI 14 [(0, .ref b), (1, .int a1), (2, .int a2), (5, .int c2), (6, .int c3)] [] s4 (B_X4_isTold_14 rec b a1 a2 K c2 c3 s4) := by
  unfold B_X4_isTold_14
  refine v_iload dX4_isTold_14 rfl ?_
  refine v_aload_n dX4_isTold_16 rfl rfl ?_
  refine v_getr dX4_isTold_17 kf_X4_35 h.1 rfl ?_
  refine v_iload_n dX4_isTold_20 rfl rfl ?_
  refine v_gd (fun g7 => ?_)
  refine v_iald dX4_isTold_21 h.2.2.2.2.2.2.2.2.2.1 g7 rfl ?_
  refine v_icmp_ge (tgt := 92) dX4_isTold_22 (by decide) (fun _ => ?_) (fun _ => ?_)
  · skip
    exact v_pick [0, 3] rfl (hK _ _)
  refine v_iload dX4_isTold_25 rfl ?_
  refine v_if_eq (tgt := 92) dX4_isTold_27 (by decide) (fun _ => ?_) (fun _ => ?_)
  · skip
    exact v_pick [0, 3] rfl (hK _ _)
  refine v_aload_n dX4_isTold_30 rfl rfl ?_
  refine v_cw (fun z hz => runV (as := []) dX4_isTold_31 kv_X4_107 rfl rfl (Nat.le_of_ble_eq_true rfl) (Nat.le_of_ble_eq_true rfl) (recvW h.1 rfl rfl) (ct_X4_yearGoes _ h _) hz) (fun s8 => ?_)
  refine v_aload_n dX4_isTold_34 rfl rfl ?_
  refine v_getr dX4_isTold_35 kf_X4_38 h.1 rfl ?_
  refine v_bipush (v := 40) dX4_isTold_38 (by decide +kernel) ?_
  refine v_iload_n dX4_isTold_40 rfl rfl ?_
  refine v_imul dX4_isTold_41 ?_
  refine v_iload dX4_isTold_42 rfl ?_
  refine v_iadd dX4_isTold_44 ?_
  refine v_gd (fun g9 => ?_)
  refine v_lald dX4_isTold_45 h.2.2.2.2.2.2.2.2.2.2.1 g9 rfl ?_
  refine v_ldc2 dX4_isTold_46 kcL_X4_143 ?_
  refine v_lcmp dX4_isTold_49 ?_
  refine v_bnK (fun K11 => ∀ (t10 : Int32), VF mX4_isTold 3 SH jI 84 [(0, .ref b), (1, .int a1), (2, .int a2), (6, .int c3)] [.int t10] s8 (K11 t10)) (fun K11 hK11 => ?_) (fun t10 => ?_)
  · skip
    refine v_if_eq (tgt := 79) dX4_isTold_50 (by decide) (fun _ => ?_) (fun _ => ?_)
    · skip
      refine v_iconst (v := 1) dX4_isTold_79 (by decide +kernel) ?_
      refine v_goto (tgt := 84) dX4_isTold_80 (by decide) ?_
      exact v_pick [0, 1, 2, 4] rfl (hK11 _)
    refine v_aload_n dX4_isTold_53 rfl rfl ?_
    refine v_getr dX4_isTold_54 kf_X4_38 h.1 rfl ?_
    refine v_bipush (v := 40) dX4_isTold_57 (by decide +kernel) ?_
    refine v_iload_n dX4_isTold_59 rfl rfl ?_
    refine v_imul dX4_isTold_60 ?_
    refine v_iload dX4_isTold_61 rfl ?_
    refine v_iadd dX4_isTold_63 ?_
    refine v_gd (fun g12 => ?_)
    refine v_lald dX4_isTold_64 h.2.2.2.2.2.2.2.2.2.2.1 g12 rfl ?_
    refine v_aload_n dX4_isTold_65 rfl rfl ?_
    refine v_getr dX4_isTold_66 kf_X4_7 h.1 rfl ?_
    refine v_bipush (v := 39) dX4_isTold_69 (by decide +kernel) ?_
    refine v_iload_n dX4_isTold_71 rfl rfl ?_
    refine v_iadd dX4_isTold_72 ?_
    refine v_gd (fun g13 => ?_)
    refine v_iald dX4_isTold_73 h.2.1 g13 rfl ?_
    refine v_i2l dX4_isTold_74 ?_
    refine v_lcmp dX4_isTold_75 ?_
    refine v_if_ne (tgt := 83) dX4_isTold_76 (by decide) (fun _ => ?_) (fun _ => ?_)
    · skip
      refine v_iconst (v := 0) dX4_isTold_83 (by decide +kernel) ?_
      exact v_pick [0, 1, 2, 4] rfl (hK11 _)
    refine v_iconst (v := 1) dX4_isTold_79 (by decide +kernel) ?_
    refine v_goto (tgt := 84) dX4_isTold_80 (by decide) ?_
    exact v_pick [0, 1, 2, 4] rfl (hK11 _)
  refine v_istore (L' := [(5, .int t10), (0, .ref b), (1, .int a1), (2, .int a2), (6, .int c3)]) dX4_isTold_84 (by decide) rfl ?_
  refine v_iinc (v := (c3 + (1 : Int32))) (L' := [(6, .int (c3 + (1 : Int32))), (5, .int t10), (0, .ref b), (1, .int a1), (2, .int a2)]) dX4_isTold_86 rfl rfl (by decide) rfl ?_
  refine v_goto (tgt := 14) dX4_isTold_89 (by decide) ?_
  exact v_pick [2, 3, 4, 1, 0] rfl (hrec _ _ _)
theorem wL_X4_isTold_14 {SH : SHT} (b : Nat) (a1 : Int32) (a2 : Int32) (h : isModel SH b) (K : Int32 → St → Option (Int32 × St)) (hK : ∀ (e5 : Int32) (s6 : St), VF mX4_isTold 3 SH jI 92 [(0, .ref b), (5, .int e5)] [] s6 (K e5 s6)) : ∀ (n : Nat) (c2 : Int32) (c3 : Int32) (s4 : St), VF mX4_isTold 3 SH jI 14 [(0, .ref b), (1, .int a1), (2, .int a2), (5, .int c2), (6, .int c3)] [] s4 (L_X4_isTold_14 b a1 a2 K n c2 c3 s4) := by
  intro n
  induction n with
  | zero => intros; exact v_none
  | succ n ih => intro c2 c3 s4; exact wB_X4_isTold_14 b a1 a2 h _ ih K hK c2 c3 s4
set_option maxHeartbeats 4000000 in
set_option maxRecDepth 100000 in
theorem w_X4_isTold {SH : SHT} (b : Nat) (a1 : Int32) (a2 : Int32) (a3 : Int32) (a4 : Int32) (h : isModel SH b) (s0 : St) : VF mX4_isTold 3 SH jI 0 [(0, .ref b), (1, .int a1), (2, .int a2), (3, .int a3), (4, .int a4)] [] s0 (f_X4_isTold b a1 a2 a3 a4 s0) := by
  unfold f_X4_isTold
  refine v_aload_n dX4_isTold_0 rfl rfl ?_
  refine v_iload_n dX4_isTold_1 rfl rfl ?_
  refine v_iconst (v := 2) dX4_isTold_2 (by decide +kernel) ?_
  refine v_iload dX4_isTold_3 rfl ?_
  refine v_cw (fun z hz => runV (as := [.int a3, .int (2 : Int32), .int a4]) dX4_isTold_5 kv_X4_103 rfl rfl (Nat.le_of_ble_eq_true rfl) (Nat.le_of_ble_eq_true rfl) (recvW h.1 rfl rfl) (ct_X4_puts _ _ _ _ h _) hz) (fun s1 => ?_)
  refine v_iconst (v := 1) dX4_isTold_8 (by decide +kernel) ?_
  refine v_istore (L' := [(5, .int (1 : Int32)), (0, .ref b), (1, .int a1), (2, .int a2), (3, .int a3), (4, .int a4)]) dX4_isTold_9 (by decide) rfl ?_
  refine v_iconst (v := 0) dX4_isTold_11 (by decide +kernel) ?_
  refine v_istore (L' := [(6, .int (0 : Int32)), (5, .int (1 : Int32)), (0, .ref b), (1, .int a1), (2, .int a2), (3, .int a3), (4, .int a4)]) dX4_isTold_12 (by decide) rfl ?_
  refine v_pick [2, 3, 4, 1, 0] rfl (wL_X4_isTold_14 b a1 a2 h _ (fun e5 s6 => ?_) FU _ _ _)
  refine v_aload_n dX4_isTold_92 rfl rfl ?_
  refine v_cw (fun z hz => runV (as := []) dX4_isTold_93 kv_X4_173 rfl rfl (Nat.le_of_ble_eq_true rfl) (Nat.le_of_ble_eq_true rfl) (recvW h.1 rfl rfl) (ct_X4_putBack _ h _) hz) (fun s14 => ?_)
  refine v_iload dX4_isTold_96 rfl ?_
  exact v_retz dX4_isTold_98 rfl rfl
theorem ct_X4_isTold {SH : SHT} (b : Nat) (a1 : Int32) (a2 : Int32) (a3 : Int32) (a4 : Int32) (h : isModel SH b) (s0 : St) : CT yX4_isTold mX4_isTold 3 SH jI [.ref b, .int a1, .int a2, .int a3, .int a4] s0 (f_X4_isTold b a1 a2 a3 a4 s0) := CT.of (by decide +kernel) rfl (fun E => Nat.le_of_ble_eq_true rfl) (w_X4_isTold b a1 a2 a3 a4 h s0)
