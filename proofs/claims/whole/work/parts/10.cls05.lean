set_option maxHeartbeats 4000000 in
set_option maxRecDepth 100000 in
theorem wB_X3_damp_22 {SH : SHT} (b : Nat) (a1 : Int32) (h : isOaths SH b) (rec : Int32 → St → Option (Int32 × St)) (hrec : ∀ (c3 : Int32) (s4 : St), VF mX3_damp 4 SH jI 22 [(0, .ref b), (1, .int a1), (2, .int c3)] [] s4 (rec c3 s4)) (c3 : Int32) (s4 : St) : VF mX3_damp 4 SH jI 22 [(0, .ref b), (1, .int a1), (2, .int c3)] [] s4 (B_X3_damp_22 rec b a1 c3 s4) := by
  unfold B_X3_damp_22
  refine v_iload_n dX3_damp_22 rfl rfl ?_
  refine v_bipush (v := 60) dX3_damp_23 (by decide +kernel) ?_
  refine v_icmp_gt (tgt := 54) dX3_damp_25 (by decide) (fun _ => ?_) (fun _ => ?_)
  · skip
    refine v_bipush (v := -3) dX3_damp_54 (by decide +kernel) ?_
    exact v_ret (ty := .int) dX3_damp_56 rfl rfl rfl
  refine v_aload_n dX3_damp_28 rfl rfl ?_
  refine v_getr dX3_damp_29 kf_X3_16 h.1 rfl ?_
  refine v_iload_n dX3_damp_32 rfl rfl ?_
  refine v_cpI (fun z hz => runV (as := [.int a1]) dX3_damp_33 kv_X3_212 rfl rfl (Nat.le_of_ble_eq_true rfl) (Nat.le_of_ble_eq_true rfl) (recvW h.2.2.1.1 rfl rfl) (ct_X1_isWet _ _ h.2.2.1 _) hz) (fun x5 => ?_)
  refine v_if_eq (tgt := 41) dX3_damp_36 (by decide) (fun _ => ?_) (fun _ => ?_)
  · skip
    refine v_aload_n dX3_damp_41 rfl rfl ?_
    refine v_getr dX3_damp_42 kf_X3_16 h.1 rfl ?_
    refine v_cw (fun z hz => runV (as := []) dX3_damp_45 kv_X3_215 rfl rfl (Nat.le_of_ble_eq_true rfl) (Nat.le_of_ble_eq_true rfl) (recvW h.2.2.1.1 rfl rfl) (ct_X1_passYear _ h.2.2.1 _) hz) (fun s6 => ?_)
    refine v_iinc (v := (c3 + (1 : Int32))) (L' := [(2, .int (c3 + (1 : Int32))), (0, .ref b), (1, .int a1)]) dX3_damp_48 rfl rfl (by decide) rfl ?_
    refine v_goto (tgt := 22) dX3_damp_51 (by decide) ?_
    exact v_pick [1, 2, 0] rfl (hrec _ _)
  refine v_iload_n dX3_damp_39 rfl rfl ?_
  exact v_ret (ty := .int) dX3_damp_40 rfl rfl rfl
theorem wL_X3_damp_22 {SH : SHT} (b : Nat) (a1 : Int32) (h : isOaths SH b) : ∀ (n : Nat) (c3 : Int32) (s4 : St), VF mX3_damp 4 SH jI 22 [(0, .ref b), (1, .int a1), (2, .int c3)] [] s4 (L_X3_damp_22 b a1 n c3 s4) := by
  intro n
  induction n with
  | zero => intros; exact v_none
  | succ n ih => intro c3 s4; exact wB_X3_damp_22 b a1 h _ ih c3 s4
set_option maxHeartbeats 4000000 in
set_option maxRecDepth 100000 in
theorem w_X3_damp {SH : SHT} (b : Nat) (a1 : Int32) (h : isOaths SH b) (s0 : St) : VF mX3_damp 4 SH jI 0 [(0, .ref b), (1, .int a1)] [] s0 (f_X3_damp b a1 s0) := by
  unfold f_X3_damp
  refine v_iload_n dX3_damp_0 rfl rfl ?_
  refine v_cpI (fun z hz => runT (as := [.int a1]) dX3_damp_1 kt_X3_107 rfl rfl (Nat.le_of_ble_eq_true rfl) (Nat.le_of_ble_eq_true rfl) (ct_X3_isCell _  _) hz) (fun x1 => ?_)
  refine v_if_ne (tgt := 9) dX3_damp_4 (by decide) (fun _ => ?_) (fun _ => ?_)
  · skip
    refine v_aload_n dX3_damp_9 rfl rfl ?_
    refine v_getr dX3_damp_10 kf_X3_16 h.1 rfl ?_
    refine v_aload_n dX3_damp_13 rfl rfl ?_
    refine v_getr dX3_damp_14 kf_X3_10 h.1 rfl ?_
    refine v_cw (fun z hz => runV (as := [.ref (b + 1)]) dX3_damp_17 kv_X3_80 rfl rfl (Nat.le_of_ble_eq_true rfl) (Nat.le_of_ble_eq_true rfl) (recvW h.2.2.1.1 rfl rfl) (ct_X1_become _ _ h.2.2.1 h.2.1 _) hz) (fun s2 => ?_)
    refine v_iconst (v := 0) dX3_damp_20 (by decide +kernel) ?_
    refine v_istore_n (L' := [(2, .int (0 : Int32)), (0, .ref b), (1, .int a1)]) dX3_damp_21 rfl (by decide) rfl ?_
    exact v_pick [1, 2, 0] rfl (wL_X3_damp_22 b a1 h FU _ _)
  refine v_iconst (v := -1) dX3_damp_7 (by decide +kernel) ?_
  exact v_ret (ty := .int) dX3_damp_8 rfl rfl rfl
theorem ct_X3_damp {SH : SHT} (b : Nat) (a1 : Int32) (h : isOaths SH b) (s0 : St) : CT yX3_damp mX3_damp 4 SH jI [.ref b, .int a1] s0 (f_X3_damp b a1 s0) := CT.of (by decide +kernel) rfl (fun E => Nat.le_of_ble_eq_true rfl) (w_X3_damp b a1 h s0)
set_option maxHeartbeats 4000000 in
set_option maxRecDepth 100000 in
theorem wB_X3_loss_23 {SH : SHT} (b : Nat) (a1 : Int32) (h : isOaths SH b) (rec : Int32 → St → Option (Int32 × St)) (hrec : ∀ (c3 : Int32) (s4 : St), VF mX3_loss 4 SH jI 23 [(0, .ref b), (1, .int a1), (2, .int c3)] [] s4 (rec c3 s4)) (c3 : Int32) (s4 : St) : VF mX3_loss 4 SH jI 23 [(0, .ref b), (1, .int a1), (2, .int c3)] [] s4 (B_X3_loss_23 rec b a1 c3 s4) := by
  unfold B_X3_loss_23
  refine v_iload_n dX3_loss_23 rfl rfl ?_
  refine v_bipush (v := 60) dX3_loss_24 (by decide +kernel) ?_
  refine v_icmp_gt (tgt := 55) dX3_loss_26 (by decide) (fun _ => ?_) (fun _ => ?_)
  · skip
    refine v_bipush (v := -3) dX3_loss_55 (by decide +kernel) ?_
    exact v_ret (ty := .int) dX3_loss_57 rfl rfl rfl
  refine v_aload_n dX3_loss_29 rfl rfl ?_
  refine v_getr dX3_loss_30 kf_X3_16 h.1 rfl ?_
  refine v_iload_n dX3_loss_33 rfl rfl ?_
  refine v_cpI (fun z hz => runV (as := [.int a1]) dX3_loss_34 kv_X3_136 rfl rfl (Nat.le_of_ble_eq_true rfl) (Nat.le_of_ble_eq_true rfl) (recvW h.2.2.1.1 rfl rfl) (ct_X1_isLost _ _ h.2.2.1 _) hz) (fun x5 => ?_)
  refine v_if_eq (tgt := 42) dX3_loss_37 (by decide) (fun _ => ?_) (fun _ => ?_)
  · skip
    refine v_aload_n dX3_loss_42 rfl rfl ?_
    refine v_getr dX3_loss_43 kf_X3_16 h.1 rfl ?_
    refine v_cw (fun z hz => runV (as := []) dX3_loss_46 kv_X3_215 rfl rfl (Nat.le_of_ble_eq_true rfl) (Nat.le_of_ble_eq_true rfl) (recvW h.2.2.1.1 rfl rfl) (ct_X1_passYear _ h.2.2.1 _) hz) (fun s6 => ?_)
    refine v_iinc (v := (c3 + (1 : Int32))) (L' := [(2, .int (c3 + (1 : Int32))), (0, .ref b), (1, .int a1)]) dX3_loss_49 rfl rfl (by decide) rfl ?_
    refine v_goto (tgt := 23) dX3_loss_52 (by decide) ?_
    exact v_pick [1, 2, 0] rfl (hrec _ _)
  refine v_iload_n dX3_loss_40 rfl rfl ?_
  exact v_ret (ty := .int) dX3_loss_41 rfl rfl rfl
theorem wL_X3_loss_23 {SH : SHT} (b : Nat) (a1 : Int32) (h : isOaths SH b) : ∀ (n : Nat) (c3 : Int32) (s4 : St), VF mX3_loss 4 SH jI 23 [(0, .ref b), (1, .int a1), (2, .int c3)] [] s4 (L_X3_loss_23 b a1 n c3 s4) := by
  intro n
  induction n with
  | zero => intros; exact v_none
  | succ n ih => intro c3 s4; exact wB_X3_loss_23 b a1 h _ ih c3 s4
set_option maxHeartbeats 4000000 in
set_option maxRecDepth 100000 in
theorem w_X3_loss {SH : SHT} (b : Nat) (a1 : Int32) (h : isOaths SH b) (s0 : St) : VF mX3_loss 4 SH jI 0 [(0, .ref b), (1, .int a1)] [] s0 (f_X3_loss b a1 s0) := by
  unfold f_X3_loss
  refine v_aload_n dX3_loss_0 rfl rfl ?_
  refine v_iload_n dX3_loss_1 rfl rfl ?_
  refine v_cpI (fun z hz => runV (as := [.int a1]) dX3_loss_2 kv_X3_114 rfl rfl (Nat.le_of_ble_eq_true rfl) (Nat.le_of_ble_eq_true rfl) (recvW h.1 rfl rfl) (ct_X3_isPerson _ _ h _) hz) (fun x1 => ?_)
  refine v_if_ne (tgt := 10) dX3_loss_5 (by decide) (fun _ => ?_) (fun _ => ?_)
  · skip
    refine v_aload_n dX3_loss_10 rfl rfl ?_
    refine v_getr dX3_loss_11 kf_X3_16 h.1 rfl ?_
    refine v_aload_n dX3_loss_14 rfl rfl ?_
    refine v_getr dX3_loss_15 kf_X3_10 h.1 rfl ?_
    refine v_cw (fun z hz => runV (as := [.ref (b + 1)]) dX3_loss_18 kv_X3_80 rfl rfl (Nat.le_of_ble_eq_true rfl) (Nat.le_of_ble_eq_true rfl) (recvW h.2.2.1.1 rfl rfl) (ct_X1_become _ _ h.2.2.1 h.2.1 _) hz) (fun s2 => ?_)
    refine v_iconst (v := 0) dX3_loss_21 (by decide +kernel) ?_
    refine v_istore_n (L' := [(2, .int (0 : Int32)), (0, .ref b), (1, .int a1)]) dX3_loss_22 rfl (by decide) rfl ?_
    exact v_pick [1, 2, 0] rfl (wL_X3_loss_23 b a1 h FU _ _)
  refine v_iconst (v := -1) dX3_loss_8 (by decide +kernel) ?_
  exact v_ret (ty := .int) dX3_loss_9 rfl rfl rfl
theorem ct_X3_loss {SH : SHT} (b : Nat) (a1 : Int32) (h : isOaths SH b) (s0 : St) : CT yX3_loss mX3_loss 4 SH jI [.ref b, .int a1] s0 (f_X3_loss b a1 s0) := CT.of (by decide +kernel) rfl (fun E => Nat.le_of_ble_eq_true rfl) (w_X3_loss b a1 h s0)
set_option maxHeartbeats 4000000 in
set_option maxRecDepth 100000 in
theorem wB_X3_drowned_13 {SH : SHT} (b : Nat) (h : isOaths SH b) (rec : Int32 → St → Option (Int32 × St)) (hrec : ∀ (c2 : Int32) (s3 : St), VF mX3_drowned 4 SH jI 13 [(0, .ref b), (1, .int c2)] [] s3 (rec c2 s3)) (c2 : Int32) (s3 : St) : VF mX3_drowned 4 SH jI 13 [(0, .ref b), (1, .int c2)] [] s3 (B_X3_drowned_13 rec b c2 s3) := by
  unfold B_X3_drowned_13
  refine v_iload_n dX3_drowned_13 rfl rfl ?_
  refine v_bipush (v := 60) dX3_drowned_14 (by decide +kernel) ?_
  refine v_icmp_gt (tgt := 58) dX3_drowned_16 (by decide) (fun _ => ?_) (fun _ => ?_)
  · skip
    refine v_bipush (v := -3) dX3_drowned_58 (by decide +kernel) ?_
    exact v_ret (ty := .int) dX3_drowned_60 rfl rfl rfl
  refine v_aload_n dX3_drowned_19 rfl rfl ?_
  refine v_getr dX3_drowned_20 kf_X3_16 h.1 rfl ?_
  refine v_cpL (fun z hz => runV (as := []) dX3_drowned_23 kv_X3_171 rfl rfl (Nat.le_of_ble_eq_true rfl) (Nat.le_of_ble_eq_true rfl) (recvW h.2.2.1.1 rfl rfl) (ct_X1_trodCells _ h.2.2.1 _) hz) (fun x4 => ?_)
  refine v_aload_n dX3_drowned_26 rfl rfl ?_
  refine v_getr dX3_drowned_27 kf_X3_16 h.1 rfl ?_
  refine v_cpL (fun z hz => runV (as := []) dX3_drowned_30 kv_X3_167 rfl rfl (Nat.le_of_ble_eq_true rfl) (Nat.le_of_ble_eq_true rfl) (recvW h.2.2.1.1 rfl rfl) (ct_X1_wetCells _ h.2.2.1 _) hz) (fun x5 => ?_)
  refine v_ldc2 dX3_drowned_33 kcL_X3_177 ?_
  refine v_lxor dX3_drowned_36 ?_
  refine v_land dX3_drowned_37 ?_
  refine v_lconst (v := 0) dX3_drowned_38 (by decide +kernel) ?_
  refine v_lcmp dX3_drowned_39 ?_
  refine v_if_ne (tgt := 45) dX3_drowned_40 (by decide) (fun _ => ?_) (fun _ => ?_)
  · skip
    refine v_aload_n dX3_drowned_45 rfl rfl ?_
    refine v_getr dX3_drowned_46 kf_X3_16 h.1 rfl ?_
    refine v_cw (fun z hz => runV (as := []) dX3_drowned_49 kv_X3_215 rfl rfl (Nat.le_of_ble_eq_true rfl) (Nat.le_of_ble_eq_true rfl) (recvW h.2.2.1.1 rfl rfl) (ct_X1_passYear _ h.2.2.1 _) hz) (fun s6 => ?_)
    refine v_iinc (v := (c2 + (1 : Int32))) (L' := [(1, .int (c2 + (1 : Int32))), (0, .ref b)]) dX3_drowned_52 rfl rfl (by decide) rfl ?_
    refine v_goto (tgt := 13) dX3_drowned_55 (by decide) ?_
    exact v_pick [1, 0] rfl (hrec _ _)
  refine v_iload_n dX3_drowned_43 rfl rfl ?_
  exact v_ret (ty := .int) dX3_drowned_44 rfl rfl rfl
theorem wL_X3_drowned_13 {SH : SHT} (b : Nat) (h : isOaths SH b) : ∀ (n : Nat) (c2 : Int32) (s3 : St), VF mX3_drowned 4 SH jI 13 [(0, .ref b), (1, .int c2)] [] s3 (L_X3_drowned_13 b n c2 s3) := by
  intro n
  induction n with
  | zero => intros; exact v_none
  | succ n ih => intro c2 s3; exact wB_X3_drowned_13 b h _ ih c2 s3
set_option maxHeartbeats 4000000 in
set_option maxRecDepth 100000 in
theorem w_X3_drowned {SH : SHT} (b : Nat) (h : isOaths SH b) (s0 : St) : VF mX3_drowned 4 SH jI 0 [(0, .ref b)] [] s0 (f_X3_drowned b s0) := by
  unfold f_X3_drowned
  refine v_aload_n dX3_drowned_0 rfl rfl ?_
  refine v_getr dX3_drowned_1 kf_X3_16 h.1 rfl ?_
  refine v_aload_n dX3_drowned_4 rfl rfl ?_
  refine v_getr dX3_drowned_5 kf_X3_10 h.1 rfl ?_
  refine v_cw (fun z hz => runV (as := [.ref (b + 1)]) dX3_drowned_8 kv_X3_80 rfl rfl (Nat.le_of_ble_eq_true rfl) (Nat.le_of_ble_eq_true rfl) (recvW h.2.2.1.1 rfl rfl) (ct_X1_become _ _ h.2.2.1 h.2.1 _) hz) (fun s1 => ?_)
  refine v_iconst (v := 0) dX3_drowned_11 (by decide +kernel) ?_
  refine v_istore_n (L' := [(1, .int (0 : Int32)), (0, .ref b)]) dX3_drowned_12 rfl (by decide) rfl ?_
  exact v_pick [1, 0] rfl (wL_X3_drowned_13 b h FU _ _)
theorem ct_X3_drowned {SH : SHT} (b : Nat) (h : isOaths SH b) (s0 : St) : CT yX3_drowned mX3_drowned 4 SH jI [.ref b] s0 (f_X3_drowned b s0) := CT.of (by decide +kernel) rfl (fun E => Nat.le_of_ble_eq_true rfl) (w_X3_drowned b h s0)
set_option maxHeartbeats 4000000 in
set_option maxRecDepth 100000 in
theorem w_X3_isShortTime {SH : SHT} (a0 : Int32) (s0 : St) : VF mX3_isShortTime 0 SH (jP s0) 0 [(0, .int a0)] [] s0 (f_X3_isShortTime a0) := by
  unfold f_X3_isShortTime
  refine v_iload_n dX3_isShortTime_0 rfl rfl ?_
  refine v_iconst (v := 1) dX3_isShortTime_1 (by decide +kernel) ?_
  refine v_icmp_lt (tgt := 15) dX3_isShortTime_2 (by decide) (fun _ => ?_) (fun _ => ?_)
  · skip
    refine v_iconst (v := 0) dX3_isShortTime_15 (by decide +kernel) ?_
    exact v_ret (ty := .boolean) dX3_isShortTime_16 rfl rfl (by decide +kernel)
  refine v_iload_n dX3_isShortTime_5 rfl rfl ?_
  refine v_bipush (v := 20) dX3_isShortTime_6 (by decide +kernel) ?_
  refine v_icmp_gt (tgt := 15) dX3_isShortTime_8 (by decide) (fun _ => ?_) (fun _ => ?_)
  · skip
    refine v_iconst (v := 0) dX3_isShortTime_15 (by decide +kernel) ?_
    exact v_ret (ty := .boolean) dX3_isShortTime_16 rfl rfl (by decide +kernel)
  refine v_iconst (v := 1) dX3_isShortTime_11 (by decide +kernel) ?_
  refine v_goto (tgt := 16) dX3_isShortTime_12 (by decide) ?_
  exact v_ret (ty := .boolean) dX3_isShortTime_16 rfl rfl (by decide +kernel)
theorem ct_X3_isShortTime {SH : SHT} (a0 : Int32) (s0 : St) : CT yX3_isShortTime mX3_isShortTime 0 SH (jP s0) [.int a0] s0 (f_X3_isShortTime a0) := CT.of (by decide +kernel) rfl (fun E => Nat.le_of_ble_eq_true rfl) (w_X3_isShortTime a0  s0)
set_option maxHeartbeats 4000000 in
set_option maxRecDepth 100000 in
theorem wB_X3_whereFor_33 {SH : SHT} (b : Nat) (a1 : Int32) (a2 : Int32) (a3 : Int32) (h : isOaths SH b) (rec : Int32 → Int32 → Int32 → St → Option (Int32 × St)) (hrec : ∀ (c4 : Int32) (c5 : Int32) (c6 : Int32) (s7 : St), VF mX3_whereFor 5 SH jI 33 [(0, .ref b), (1, .int a1), (2, .int a2), (3, .int a3), (4, .int c4), (5, .int c5), (6, .int c6)] [] s7 (rec c4 c5 c6 s7)) (K : Int32 → St → Option (Int32 × St)) (hK : ∀ (e8 : Int32) (s9 : St), VF mX3_whereFor 5 SH jI 105 [(4, .int e8)] [] s9 (K e8 s9)) (c4 : Int32) (c5 : Int32) (c6 : Int32) (s7 : St) : VF mX3_whereFor 5 SH jI 33 [(0, .ref b), (1, .int a1), (2, .int a2), (3, .int a3), (4, .int c4), (5, .int c5), (6, .int c6)] [] s7 (B_X3_whereFor_33 rec b a1 a2 a3 K c4 c5 c6 s7) := by
  unfold B_X3_whereFor_33
  refine v_iload dX3_whereFor_33 rfl ?_
  refine v_bipush (v := 32) dX3_whereFor_35 (by decide +kernel) ?_
  refine v_icmp_ge (tgt := 105) dX3_whereFor_37 (by decide) (fun _ => ?_) (fun _ => ?_)
  · skip
    exact v_pick [4] rfl (hK _ _)
  refine v_aload_n dX3_whereFor_40 rfl rfl ?_
  refine v_getr dX3_whereFor_41 kf_X3_16 h.1 rfl ?_
  refine v_aload_n dX3_whereFor_44 rfl rfl ?_
  refine v_getr dX3_whereFor_45 kf_X3_10 h.1 rfl ?_
  refine v_cw (fun z hz => runV (as := [.ref (b + 1)]) dX3_whereFor_48 kv_X3_80 rfl rfl (Nat.le_of_ble_eq_true rfl) (Nat.le_of_ble_eq_true rfl) (recvW h.2.2.1.1 rfl rfl) (ct_X1_become _ _ h.2.2.1 h.2.1 _) hz) (fun s10 => ?_)
  refine v_aload_n dX3_whereFor_51 rfl rfl ?_
  refine v_getr dX3_whereFor_52 kf_X3_16 h.1 rfl ?_
  refine v_getr dX3_whereFor_55 kf_X3_126 h.2.2.1.1 rfl ?_
  refine v_iload_n dX3_whereFor_58 rfl rfl ?_
  refine v_iload dX3_whereFor_59 rfl ?_
  refine v_gd (fun g11 => ?_)
  refine v_iast dX3_whereFor_61 h.2.2.1.2.2.2.2.2.2.2.2 g11 rfl (v_st fun s12 => ?_)
  refine v_aload_n dX3_whereFor_62 rfl rfl ?_
  refine v_getr dX3_whereFor_63 kf_X3_16 h.1 rfl ?_
  refine v_iload_n dX3_whereFor_66 rfl rfl ?_
  refine v_cw (fun z hz => runV (as := [.int a3]) dX3_whereFor_67 kv_X3_179 rfl rfl (Nat.le_of_ble_eq_true rfl) (Nat.le_of_ble_eq_true rfl) (recvW h.2.2.1.1 rfl rfl) (ct_X1_passYears _ _ h.2.2.1 _) hz) (fun s13 => ?_)
  refine v_aload_n dX3_whereFor_70 rfl rfl ?_
  refine v_getr dX3_whereFor_71 kf_X3_16 h.1 rfl ?_
  refine v_getr dX3_whereFor_74 kf_X3_145 h.2.2.1.1 rfl ?_
  refine v_iload_n dX3_whereFor_77 rfl rfl ?_
  refine v_gd (fun g14 => ?_)
  refine v_iald dX3_whereFor_78 h.2.2.1.2.2.2.1 g14 rfl ?_
  refine v_iload dX3_whereFor_79 rfl ?_
  refine v_bnK (fun K17 => ∀ (t15 : Int32) (t16 : Int32), VF mX3_whereFor 5 SH jI 99 [(0, .ref b), (1, .int a1), (2, .int a2), (3, .int a3), (4, .int t15), (5, .int t16), (6, .int c6)] [] s13 (K17 t15 t16)) (fun K17 hK17 => ?_) (fun t15 t16 => ?_)
  · skip
    refine v_icmp_le (tgt := 99) dX3_whereFor_81 (by decide) (fun _ => ?_) (fun _ => ?_)
    · skip
      exact v_pick [0, 1, 2, 3, 4, 5, 6] rfl (hK17 _ _)
    refine v_aload_n dX3_whereFor_84 rfl rfl ?_
    refine v_getr dX3_whereFor_85 kf_X3_16 h.1 rfl ?_
    refine v_getr dX3_whereFor_88 kf_X3_145 h.2.2.1.1 rfl ?_
    refine v_iload_n dX3_whereFor_91 rfl rfl ?_
    refine v_gd (fun g18 => ?_)
    refine v_iald dX3_whereFor_92 h.2.2.1.2.2.2.1 g18 rfl ?_
    refine v_topi (fun x19 => ?_)
    refine v_istore (L' := [(5, .int x19), (0, .ref b), (1, .int a1), (2, .int a2), (3, .int a3), (4, .int c4), (6, .int c6)]) dX3_whereFor_93 (by decide) rfl ?_
    refine v_iload dX3_whereFor_95 rfl ?_
    refine v_istore (L' := [(4, .int c6), (5, .int x19), (0, .ref b), (1, .int a1), (2, .int a2), (3, .int a3), (6, .int c6)]) dX3_whereFor_97 (by decide) rfl ?_
    exact v_pick [2, 3, 4, 5, 0, 1, 6] rfl (hK17 _ _)
  refine v_iinc (v := (c6 + (1 : Int32))) (L' := [(6, .int (c6 + (1 : Int32))), (0, .ref b), (1, .int a1), (2, .int a2), (3, .int a3), (4, .int t15), (5, .int t16)]) dX3_whereFor_99 rfl rfl (by decide) rfl ?_
  refine v_goto (tgt := 33) dX3_whereFor_102 (by decide) ?_
  exact v_pick [1, 2, 3, 4, 5, 6, 0] rfl (hrec _ _ _ _)
theorem wL_X3_whereFor_33 {SH : SHT} (b : Nat) (a1 : Int32) (a2 : Int32) (a3 : Int32) (h : isOaths SH b) (K : Int32 → St → Option (Int32 × St)) (hK : ∀ (e8 : Int32) (s9 : St), VF mX3_whereFor 5 SH jI 105 [(4, .int e8)] [] s9 (K e8 s9)) : ∀ (n : Nat) (c4 : Int32) (c5 : Int32) (c6 : Int32) (s7 : St), VF mX3_whereFor 5 SH jI 33 [(0, .ref b), (1, .int a1), (2, .int a2), (3, .int a3), (4, .int c4), (5, .int c5), (6, .int c6)] [] s7 (L_X3_whereFor_33 b a1 a2 a3 K n c4 c5 c6 s7) := by
  intro n
  induction n with
  | zero => intros; exact v_none
  | succ n ih => intro c4 c5 c6 s7; exact wB_X3_whereFor_33 b a1 a2 a3 h _ ih K hK c4 c5 c6 s7
set_option maxHeartbeats 4000000 in
set_option maxRecDepth 100000 in
theorem w_X3_whereFor {SH : SHT} (b : Nat) (a1 : Int32) (a2 : Int32) (a3 : Int32) (h : isOaths SH b) (s0 : St) : VF mX3_whereFor 5 SH jI 0 [(0, .ref b), (1, .int a1), (2, .int a2), (3, .int a3)] [] s0 (f_X3_whereFor b a1 a2 a3 s0) := by
  unfold f_X3_whereFor
  refine v_aload_n dX3_whereFor_0 rfl rfl ?_
  refine v_iload_n dX3_whereFor_1 rfl rfl ?_
  refine v_cpI (fun z hz => runV (as := [.int a1]) dX3_whereFor_2 kv_X3_114 rfl rfl (Nat.le_of_ble_eq_true rfl) (Nat.le_of_ble_eq_true rfl) (recvW h.1 rfl rfl) (ct_X3_isPerson _ _ h _) hz) (fun x1 => ?_)
  refine v_if_eq (tgt := 22) dX3_whereFor_5 (by decide) (fun _ => ?_) (fun _ => ?_)
  · skip
    refine v_iconst (v := -1) dX3_whereFor_22 (by decide +kernel) ?_
    exact v_ret (ty := .int) dX3_whereFor_23 rfl rfl rfl
  refine v_iload_n dX3_whereFor_8 rfl rfl ?_
  refine v_cpI (fun z hz => runT (as := [.int a2]) dX3_whereFor_9 kt_X3_107 rfl rfl (Nat.le_of_ble_eq_true rfl) (Nat.le_of_ble_eq_true rfl) (ct_X3_isCell _  _) hz) (fun x2 => ?_)
  refine v_if_eq (tgt := 22) dX3_whereFor_12 (by decide) (fun _ => ?_) (fun _ => ?_)
  · skip
    refine v_iconst (v := -1) dX3_whereFor_22 (by decide +kernel) ?_
    exact v_ret (ty := .int) dX3_whereFor_23 rfl rfl rfl
  refine v_iload_n dX3_whereFor_15 rfl rfl ?_
  refine v_cpI (fun z hz => runT (as := [.int a3]) dX3_whereFor_16 kt_X3_218 rfl rfl (Nat.le_of_ble_eq_true rfl) (Nat.le_of_ble_eq_true rfl) (ct_X3_isShortTime _  _) hz) (fun x3 => ?_)
  refine v_if_ne (tgt := 24) dX3_whereFor_19 (by decide) (fun _ => ?_) (fun _ => ?_)
  · skip
    refine v_iconst (v := 0) dX3_whereFor_24 (by decide +kernel) ?_
    refine v_istore (L' := [(4, .int (0 : Int32)), (0, .ref b), (1, .int a1), (2, .int a2), (3, .int a3)]) dX3_whereFor_25 (by decide) rfl ?_
    refine v_iconst (v := -1) dX3_whereFor_27 (by decide +kernel) ?_
    refine v_istore (L' := [(5, .int (-1 : Int32)), (4, .int (0 : Int32)), (0, .ref b), (1, .int a1), (2, .int a2), (3, .int a3)]) dX3_whereFor_28 (by decide) rfl ?_
    refine v_iconst (v := 0) dX3_whereFor_30 (by decide +kernel) ?_
    refine v_istore (L' := [(6, .int (0 : Int32)), (5, .int (-1 : Int32)), (4, .int (0 : Int32)), (0, .ref b), (1, .int a1), (2, .int a2), (3, .int a3)]) dX3_whereFor_31 (by decide) rfl ?_
    refine v_pick [3, 4, 5, 6, 2, 1, 0] rfl (wL_X3_whereFor_33 b a1 a2 a3 h _ (fun e8 s9 => ?_) FU _ _ _ _)
    refine v_iload dX3_whereFor_105 rfl ?_
    exact v_ret (ty := .int) dX3_whereFor_107 rfl rfl rfl
  refine v_iconst (v := -1) dX3_whereFor_22 (by decide +kernel) ?_
  exact v_ret (ty := .int) dX3_whereFor_23 rfl rfl rfl
theorem ct_X3_whereFor {SH : SHT} (b : Nat) (a1 : Int32) (a2 : Int32) (a3 : Int32) (h : isOaths SH b) (s0 : St) : CT yX3_whereFor mX3_whereFor 5 SH jI [.ref b, .int a1, .int a2, .int a3] s0 (f_X3_whereFor b a1 a2 a3 s0) := CT.of (by decide +kernel) rfl (fun E => Nat.le_of_ble_eq_true rfl) (w_X3_whereFor b a1 a2 a3 h s0)
set_option maxHeartbeats 4000000 in
set_option maxRecDepth 100000 in
theorem wB_X3_kindFor_33 {SH : SHT} (b : Nat) (a1 : Int32) (a2 : Int32) (a3 : Int32) (h : isOaths SH b) (rec : Int32 → Int32 → Int32 → St → Option (Int32 × St)) (hrec : ∀ (c4 : Int32) (c5 : Int32) (c6 : Int32) (s7 : St), VF mX3_kindFor 5 SH jI 33 [(0, .ref b), (1, .int a1), (2, .int a2), (3, .int a3), (4, .int c4), (5, .int c5), (6, .int c6)] [] s7 (rec c4 c5 c6 s7)) (K : Int32 → St → Option (Int32 × St)) (hK : ∀ (e8 : Int32) (s9 : St), VF mX3_kindFor 5 SH jI 105 [(4, .int e8)] [] s9 (K e8 s9)) (c4 : Int32) (c5 : Int32) (c6 : Int32) (s7 : St) : VF mX3_kindFor 5 SH jI 33 [(0, .ref b), (1, .int a1), (2, .int a2), (3, .int a3), (4, .int c4), (5, .int c5), (6, .int c6)] [] s7 (B_X3_kindFor_33 rec b a1 a2 a3 K c4 c5 c6 s7) := by
  unfold B_X3_kindFor_33
  refine v_iload dX3_kindFor_33 rfl ?_
  refine v_bipush (v := 6) dX3_kindFor_35 (by decide +kernel) ?_
  refine v_icmp_ge (tgt := 105) dX3_kindFor_37 (by decide) (fun _ => ?_) (fun _ => ?_)
  · skip
    exact v_pick [4] rfl (hK _ _)
  refine v_aload_n dX3_kindFor_40 rfl rfl ?_
  refine v_getr dX3_kindFor_41 kf_X3_16 h.1 rfl ?_
  refine v_aload_n dX3_kindFor_44 rfl rfl ?_
  refine v_getr dX3_kindFor_45 kf_X3_10 h.1 rfl ?_
  refine v_cw (fun z hz => runV (as := [.ref (b + 1)]) dX3_kindFor_48 kv_X3_80 rfl rfl (Nat.le_of_ble_eq_true rfl) (Nat.le_of_ble_eq_true rfl) (recvW h.2.2.1.1 rfl rfl) (ct_X1_become _ _ h.2.2.1 h.2.1 _) hz) (fun s10 => ?_)
  refine v_aload_n dX3_kindFor_51 rfl rfl ?_
  refine v_getr dX3_kindFor_52 kf_X3_16 h.1 rfl ?_
  refine v_getr dX3_kindFor_55 kf_X3_117 h.2.2.1.1 rfl ?_
  refine v_iload_n dX3_kindFor_58 rfl rfl ?_
  refine v_iload dX3_kindFor_59 rfl ?_
  refine v_gd (fun g11 => ?_)
  refine v_iast dX3_kindFor_61 h.2.2.1.2.2.2.2.2.1 g11 rfl (v_st fun s12 => ?_)
  refine v_aload_n dX3_kindFor_62 rfl rfl ?_
  refine v_getr dX3_kindFor_63 kf_X3_16 h.1 rfl ?_
  refine v_iload_n dX3_kindFor_66 rfl rfl ?_
  refine v_cw (fun z hz => runV (as := [.int a3]) dX3_kindFor_67 kv_X3_179 rfl rfl (Nat.le_of_ble_eq_true rfl) (Nat.le_of_ble_eq_true rfl) (recvW h.2.2.1.1 rfl rfl) (ct_X1_passYears _ _ h.2.2.1 _) hz) (fun s13 => ?_)
  refine v_aload_n dX3_kindFor_70 rfl rfl ?_
  refine v_getr dX3_kindFor_71 kf_X3_16 h.1 rfl ?_
  refine v_getr dX3_kindFor_74 kf_X3_145 h.2.2.1.1 rfl ?_
  refine v_iload_n dX3_kindFor_77 rfl rfl ?_
  refine v_gd (fun g14 => ?_)
  refine v_iald dX3_kindFor_78 h.2.2.1.2.2.2.1 g14 rfl ?_
  refine v_iload dX3_kindFor_79 rfl ?_
  refine v_bnK (fun K17 => ∀ (t15 : Int32) (t16 : Int32), VF mX3_kindFor 5 SH jI 99 [(0, .ref b), (1, .int a1), (2, .int a2), (3, .int a3), (4, .int t15), (5, .int t16), (6, .int c6)] [] s13 (K17 t15 t16)) (fun K17 hK17 => ?_) (fun t15 t16 => ?_)
  · skip
    refine v_icmp_le (tgt := 99) dX3_kindFor_81 (by decide) (fun _ => ?_) (fun _ => ?_)
    · skip
      exact v_pick [0, 1, 2, 3, 4, 5, 6] rfl (hK17 _ _)
    refine v_aload_n dX3_kindFor_84 rfl rfl ?_
    refine v_getr dX3_kindFor_85 kf_X3_16 h.1 rfl ?_
    refine v_getr dX3_kindFor_88 kf_X3_145 h.2.2.1.1 rfl ?_
    refine v_iload_n dX3_kindFor_91 rfl rfl ?_
    refine v_gd (fun g18 => ?_)
    refine v_iald dX3_kindFor_92 h.2.2.1.2.2.2.1 g18 rfl ?_
    refine v_topi (fun x19 => ?_)
    refine v_istore (L' := [(5, .int x19), (0, .ref b), (1, .int a1), (2, .int a2), (3, .int a3), (4, .int c4), (6, .int c6)]) dX3_kindFor_93 (by decide) rfl ?_
    refine v_iload dX3_kindFor_95 rfl ?_
    refine v_istore (L' := [(4, .int c6), (5, .int x19), (0, .ref b), (1, .int a1), (2, .int a2), (3, .int a3), (6, .int c6)]) dX3_kindFor_97 (by decide) rfl ?_
    exact v_pick [2, 3, 4, 5, 0, 1, 6] rfl (hK17 _ _)
  refine v_iinc (v := (c6 + (1 : Int32))) (L' := [(6, .int (c6 + (1 : Int32))), (0, .ref b), (1, .int a1), (2, .int a2), (3, .int a3), (4, .int t15), (5, .int t16)]) dX3_kindFor_99 rfl rfl (by decide) rfl ?_
  refine v_goto (tgt := 33) dX3_kindFor_102 (by decide) ?_
  exact v_pick [1, 2, 3, 4, 5, 6, 0] rfl (hrec _ _ _ _)
theorem wL_X3_kindFor_33 {SH : SHT} (b : Nat) (a1 : Int32) (a2 : Int32) (a3 : Int32) (h : isOaths SH b) (K : Int32 → St → Option (Int32 × St)) (hK : ∀ (e8 : Int32) (s9 : St), VF mX3_kindFor 5 SH jI 105 [(4, .int e8)] [] s9 (K e8 s9)) : ∀ (n : Nat) (c4 : Int32) (c5 : Int32) (c6 : Int32) (s7 : St), VF mX3_kindFor 5 SH jI 33 [(0, .ref b), (1, .int a1), (2, .int a2), (3, .int a3), (4, .int c4), (5, .int c5), (6, .int c6)] [] s7 (L_X3_kindFor_33 b a1 a2 a3 K n c4 c5 c6 s7) := by
  intro n
  induction n with
  | zero => intros; exact v_none
  | succ n ih => intro c4 c5 c6 s7; exact wB_X3_kindFor_33 b a1 a2 a3 h _ ih K hK c4 c5 c6 s7
set_option maxHeartbeats 4000000 in
set_option maxRecDepth 100000 in
theorem w_X3_kindFor {SH : SHT} (b : Nat) (a1 : Int32) (a2 : Int32) (a3 : Int32) (h : isOaths SH b) (s0 : St) : VF mX3_kindFor 5 SH jI 0 [(0, .ref b), (1, .int a1), (2, .int a2), (3, .int a3)] [] s0 (f_X3_kindFor b a1 a2 a3 s0) := by
  unfold f_X3_kindFor
  refine v_aload_n dX3_kindFor_0 rfl rfl ?_
  refine v_iload_n dX3_kindFor_1 rfl rfl ?_
  refine v_cpI (fun z hz => runV (as := [.int a1]) dX3_kindFor_2 kv_X3_114 rfl rfl (Nat.le_of_ble_eq_true rfl) (Nat.le_of_ble_eq_true rfl) (recvW h.1 rfl rfl) (ct_X3_isPerson _ _ h _) hz) (fun x1 => ?_)
  refine v_if_eq (tgt := 22) dX3_kindFor_5 (by decide) (fun _ => ?_) (fun _ => ?_)
  · skip
    refine v_iconst (v := -1) dX3_kindFor_22 (by decide +kernel) ?_
    exact v_ret (ty := .int) dX3_kindFor_23 rfl rfl rfl
  refine v_iload_n dX3_kindFor_8 rfl rfl ?_
  refine v_cpI (fun z hz => runT (as := [.int a2]) dX3_kindFor_9 kt_X3_107 rfl rfl (Nat.le_of_ble_eq_true rfl) (Nat.le_of_ble_eq_true rfl) (ct_X3_isCell _  _) hz) (fun x2 => ?_)
  refine v_if_eq (tgt := 22) dX3_kindFor_12 (by decide) (fun _ => ?_) (fun _ => ?_)
  · skip
    refine v_iconst (v := -1) dX3_kindFor_22 (by decide +kernel) ?_
    exact v_ret (ty := .int) dX3_kindFor_23 rfl rfl rfl
  refine v_iload_n dX3_kindFor_15 rfl rfl ?_
  refine v_cpI (fun z hz => runT (as := [.int a3]) dX3_kindFor_16 kt_X3_218 rfl rfl (Nat.le_of_ble_eq_true rfl) (Nat.le_of_ble_eq_true rfl) (ct_X3_isShortTime _  _) hz) (fun x3 => ?_)
  refine v_if_ne (tgt := 24) dX3_kindFor_19 (by decide) (fun _ => ?_) (fun _ => ?_)
  · skip
    refine v_iconst (v := 0) dX3_kindFor_24 (by decide +kernel) ?_
    refine v_istore (L' := [(4, .int (0 : Int32)), (0, .ref b), (1, .int a1), (2, .int a2), (3, .int a3)]) dX3_kindFor_25 (by decide) rfl ?_
    refine v_iconst (v := -1) dX3_kindFor_27 (by decide +kernel) ?_
    refine v_istore (L' := [(5, .int (-1 : Int32)), (4, .int (0 : Int32)), (0, .ref b), (1, .int a1), (2, .int a2), (3, .int a3)]) dX3_kindFor_28 (by decide) rfl ?_
    refine v_iconst (v := 0) dX3_kindFor_30 (by decide +kernel) ?_
    refine v_istore (L' := [(6, .int (0 : Int32)), (5, .int (-1 : Int32)), (4, .int (0 : Int32)), (0, .ref b), (1, .int a1), (2, .int a2), (3, .int a3)]) dX3_kindFor_31 (by decide) rfl ?_
    refine v_pick [3, 4, 5, 6, 2, 1, 0] rfl (wL_X3_kindFor_33 b a1 a2 a3 h _ (fun e8 s9 => ?_) FU _ _ _ _)
    refine v_iload dX3_kindFor_105 rfl ?_
    exact v_ret (ty := .int) dX3_kindFor_107 rfl rfl rfl
  refine v_iconst (v := -1) dX3_kindFor_22 (by decide +kernel) ?_
  exact v_ret (ty := .int) dX3_kindFor_23 rfl rfl rfl
theorem ct_X3_kindFor {SH : SHT} (b : Nat) (a1 : Int32) (a2 : Int32) (a3 : Int32) (h : isOaths SH b) (s0 : St) : CT yX3_kindFor mX3_kindFor 5 SH jI [.ref b, .int a1, .int a2, .int a3] s0 (f_X3_kindFor b a1 a2 a3 s0) := CT.of (by decide +kernel) rfl (fun E => Nat.le_of_ble_eq_true rfl) (w_X3_kindFor b a1 a2 a3 h s0)
set_option maxHeartbeats 4000000 in
set_option maxRecDepth 100000 in
theorem wB_X3_annoyed_27 {SH : SHT} (b : Nat) (a1 : Int32) (a2 : Int32) (a3 : Int32) (h : isOaths SH b) (rec : Int32 → St → Option (Int32 × St)) (hrec : ∀ (c4 : Int32) (s5 : St), VF mX3_annoyed 5 SH jI 27 [(0, .ref b), (1, .int a1), (2, .int a2), (3, .int a3), (4, .int c4)] [] s5 (rec c4 s5)) (c4 : Int32) (s5 : St) : VF mX3_annoyed 5 SH jI 27 [(0, .ref b), (1, .int a1), (2, .int a2), (3, .int a3), (4, .int c4)] [] s5 (B_X3_annoyed_27 rec b a1 a2 a3 c4 s5) := by
  unfold B_X3_annoyed_27
  refine v_iload dX3_annoyed_27 rfl ?_
  refine v_bipush (v := 99) dX3_annoyed_29 (by decide +kernel) ?_
  refine v_icmp_gt (tgt := 84) dX3_annoyed_31 (by decide) (fun _ => ?_) (fun _ => ?_)
  · skip
    refine v_bipush (v := -3) dX3_annoyed_84 (by decide +kernel) ?_
    exact v_ret (ty := .int) dX3_annoyed_86 rfl rfl rfl
  refine v_aload_n dX3_annoyed_34 rfl rfl ?_
  refine v_getr dX3_annoyed_35 kf_X3_16 h.1 rfl ?_
  refine v_aload_n dX3_annoyed_38 rfl rfl ?_
  refine v_getr dX3_annoyed_39 kf_X3_10 h.1 rfl ?_
  refine v_cw (fun z hz => runV (as := [.ref (b + 1)]) dX3_annoyed_42 kv_X3_80 rfl rfl (Nat.le_of_ble_eq_true rfl) (Nat.le_of_ble_eq_true rfl) (recvW h.2.2.1.1 rfl rfl) (ct_X1_become _ _ h.2.2.1 h.2.1 _) hz) (fun s6 => ?_)
  refine v_aload_n dX3_annoyed_45 rfl rfl ?_
  refine v_getr dX3_annoyed_46 kf_X3_16 h.1 rfl ?_
  refine v_getr dX3_annoyed_49 kf_X3_123 h.2.2.1.1 rfl ?_
  refine v_iload_n dX3_annoyed_52 rfl rfl ?_
  refine v_iload dX3_annoyed_53 rfl ?_
  refine v_gd (fun g7 => ?_)
  refine v_iast dX3_annoyed_55 h.2.2.1.2.2.2.2.2.2.2.1 g7 rfl (v_st fun s8 => ?_)
  refine v_aload_n dX3_annoyed_56 rfl rfl ?_
  refine v_getr dX3_annoyed_57 kf_X3_16 h.1 rfl ?_
  refine v_iload_n dX3_annoyed_60 rfl rfl ?_
  refine v_cw (fun z hz => runV (as := [.int a3]) dX3_annoyed_61 kv_X3_179 rfl rfl (Nat.le_of_ble_eq_true rfl) (Nat.le_of_ble_eq_true rfl) (recvW h.2.2.1.1 rfl rfl) (ct_X1_passYears _ _ h.2.2.1 _) hz) (fun s9 => ?_)
  refine v_aload_n dX3_annoyed_64 rfl rfl ?_
  refine v_getr dX3_annoyed_65 kf_X3_16 h.1 rfl ?_
  refine v_iload_n dX3_annoyed_68 rfl rfl ?_
  refine v_cpI (fun z hz => runV (as := [.int a2]) dX3_annoyed_69 kv_X3_212 rfl rfl (Nat.le_of_ble_eq_true rfl) (Nat.le_of_ble_eq_true rfl) (recvW h.2.2.1.1 rfl rfl) (ct_X1_isWet _ _ h.2.2.1 _) hz) (fun x10 => ?_)
  refine v_if_eq (tgt := 78) dX3_annoyed_72 (by decide) (fun _ => ?_) (fun _ => ?_)
  · skip
    refine v_iinc (v := (c4 + (1 : Int32))) (L' := [(4, .int (c4 + (1 : Int32))), (0, .ref b), (1, .int a1), (2, .int a2), (3, .int a3)]) dX3_annoyed_78 rfl rfl (by decide) rfl ?_
    refine v_goto (tgt := 27) dX3_annoyed_81 (by decide) ?_
    exact v_pick [1, 2, 3, 4, 0] rfl (hrec _ _)
  refine v_iload dX3_annoyed_75 rfl ?_
  exact v_ret (ty := .int) dX3_annoyed_77 rfl rfl rfl
theorem wL_X3_annoyed_27 {SH : SHT} (b : Nat) (a1 : Int32) (a2 : Int32) (a3 : Int32) (h : isOaths SH b) : ∀ (n : Nat) (c4 : Int32) (s5 : St), VF mX3_annoyed 5 SH jI 27 [(0, .ref b), (1, .int a1), (2, .int a2), (3, .int a3), (4, .int c4)] [] s5 (L_X3_annoyed_27 b a1 a2 a3 n c4 s5) := by
  intro n
  induction n with
  | zero => intros; exact v_none
  | succ n ih => intro c4 s5; exact wB_X3_annoyed_27 b a1 a2 a3 h _ ih c4 s5
set_option maxHeartbeats 4000000 in
set_option maxRecDepth 100000 in
theorem w_X3_annoyed {SH : SHT} (b : Nat) (a1 : Int32) (a2 : Int32) (a3 : Int32) (h : isOaths SH b) (s0 : St) : VF mX3_annoyed 5 SH jI 0 [(0, .ref b), (1, .int a1), (2, .int a2), (3, .int a3)] [] s0 (f_X3_annoyed b a1 a2 a3 s0) := by
  unfold f_X3_annoyed
  refine v_aload_n dX3_annoyed_0 rfl rfl ?_
  refine v_iload_n dX3_annoyed_1 rfl rfl ?_
  refine v_cpI (fun z hz => runV (as := [.int a1]) dX3_annoyed_2 kv_X3_114 rfl rfl (Nat.le_of_ble_eq_true rfl) (Nat.le_of_ble_eq_true rfl) (recvW h.1 rfl rfl) (ct_X3_isPerson _ _ h _) hz) (fun x1 => ?_)
  refine v_if_eq (tgt := 22) dX3_annoyed_5 (by decide) (fun _ => ?_) (fun _ => ?_)
  · skip
    refine v_iconst (v := -1) dX3_annoyed_22 (by decide +kernel) ?_
    exact v_ret (ty := .int) dX3_annoyed_23 rfl rfl rfl
  refine v_iload_n dX3_annoyed_8 rfl rfl ?_
  refine v_cpI (fun z hz => runT (as := [.int a2]) dX3_annoyed_9 kt_X3_107 rfl rfl (Nat.le_of_ble_eq_true rfl) (Nat.le_of_ble_eq_true rfl) (ct_X3_isCell _  _) hz) (fun x2 => ?_)
  refine v_if_eq (tgt := 22) dX3_annoyed_12 (by decide) (fun _ => ?_) (fun _ => ?_)
  · skip
    refine v_iconst (v := -1) dX3_annoyed_22 (by decide +kernel) ?_
    exact v_ret (ty := .int) dX3_annoyed_23 rfl rfl rfl
  refine v_iload_n dX3_annoyed_15 rfl rfl ?_
  refine v_cpI (fun z hz => runT (as := [.int a3]) dX3_annoyed_16 kt_X3_218 rfl rfl (Nat.le_of_ble_eq_true rfl) (Nat.le_of_ble_eq_true rfl) (ct_X3_isShortTime _  _) hz) (fun x3 => ?_)
  refine v_if_ne (tgt := 24) dX3_annoyed_19 (by decide) (fun _ => ?_) (fun _ => ?_)
  · skip
    refine v_iconst (v := 0) dX3_annoyed_24 (by decide +kernel) ?_
    refine v_istore (L' := [(4, .int (0 : Int32)), (0, .ref b), (1, .int a1), (2, .int a2), (3, .int a3)]) dX3_annoyed_25 (by decide) rfl ?_
    exact v_pick [1, 2, 3, 4, 0] rfl (wL_X3_annoyed_27 b a1 a2 a3 h FU _ _)
  refine v_iconst (v := -1) dX3_annoyed_22 (by decide +kernel) ?_
  exact v_ret (ty := .int) dX3_annoyed_23 rfl rfl rfl
theorem ct_X3_annoyed {SH : SHT} (b : Nat) (a1 : Int32) (a2 : Int32) (a3 : Int32) (h : isOaths SH b) (s0 : St) : CT yX3_annoyed mX3_annoyed 5 SH jI [.ref b, .int a1, .int a2, .int a3] s0 (f_X3_annoyed b a1 a2 a3 s0) := CT.of (by decide +kernel) rfl (fun E => Nat.le_of_ble_eq_true rfl) (w_X3_annoyed b a1 a2 a3 h s0)
set_option maxHeartbeats 4000000 in
set_option maxRecDepth 100000 in
theorem w_X3_levelWithout {SH : SHT} (b : Nat) (a1 : Int32) (a2 : Int32) (a3 : Int32) (h : isOaths SH b) (s0 : St) : VF mX3_levelWithout 5 SH jI 0 [(0, .ref b), (1, .int a1), (2, .int a2), (3, .int a3)] [] s0 (f_X3_levelWithout b a1 a2 a3 s0) := by
  unfold f_X3_levelWithout
  refine v_aload_n dX3_levelWithout_0 rfl rfl ?_
  refine v_getr dX3_levelWithout_1 kf_X3_16 h.1 rfl ?_
  refine v_aload_n dX3_levelWithout_4 rfl rfl ?_
  refine v_getr dX3_levelWithout_5 kf_X3_10 h.1 rfl ?_
  refine v_cw (fun z hz => runV (as := [.ref (b + 1)]) dX3_levelWithout_8 kv_X3_80 rfl rfl (Nat.le_of_ble_eq_true rfl) (Nat.le_of_ble_eq_true rfl) (recvW h.2.2.1.1 rfl rfl) (ct_X1_become _ _ h.2.2.1 h.2.1 _) hz) (fun s1 => ?_)
  refine v_aload_n dX3_levelWithout_11 rfl rfl ?_
  refine v_getr dX3_levelWithout_12 kf_X3_16 h.1 rfl ?_
  refine v_iload_n dX3_levelWithout_15 rfl rfl ?_
  refine v_puti dX3_levelWithout_16 kp_X3_285 h.2.2.1.1 rfl rfl rfl (v_st fun s2 => ?_)
  refine v_aload_n dX3_levelWithout_19 rfl rfl ?_
  refine v_getr dX3_levelWithout_20 kf_X3_16 h.1 rfl ?_
  refine v_iload_n dX3_levelWithout_23 rfl rfl ?_
  refine v_cw (fun z hz => runV (as := [.int a3]) dX3_levelWithout_24 kv_X3_179 rfl rfl (Nat.le_of_ble_eq_true rfl) (Nat.le_of_ble_eq_true rfl) (recvW h.2.2.1.1 rfl rfl) (ct_X1_passYears _ _ h.2.2.1 _) hz) (fun s3 => ?_)
  refine v_aload_n dX3_levelWithout_27 rfl rfl ?_
  refine v_getr dX3_levelWithout_28 kf_X3_16 h.1 rfl ?_
  refine v_getr dX3_levelWithout_31 kf_X3_145 h.2.2.1.1 rfl ?_
  refine v_iload_n dX3_levelWithout_34 rfl rfl ?_
  refine v_gd (fun g4 => ?_)
  refine v_iald dX3_levelWithout_35 h.2.2.1.2.2.2.1 g4 rfl ?_
  exact v_ret (ty := .int) dX3_levelWithout_36 rfl rfl rfl
theorem ct_X3_levelWithout {SH : SHT} (b : Nat) (a1 : Int32) (a2 : Int32) (a3 : Int32) (h : isOaths SH b) (s0 : St) : CT yX3_levelWithout mX3_levelWithout 5 SH jI [.ref b, .int a1, .int a2, .int a3] s0 (f_X3_levelWithout b a1 a2 a3 s0) := CT.of (by decide +kernel) rfl (fun E => Nat.le_of_ble_eq_true rfl) (w_X3_levelWithout b a1 a2 a3 h s0)
set_option maxHeartbeats 4000000 in
set_option maxRecDepth 100000 in
theorem wB_X3_needed_31 {SH : SHT} (b : Nat) (a1 : Int32) (a2 : Int32) (h : isOaths SH b) (rec : Int32 → Int32 → Int32 → St → Option (Int32 × St)) (hrec : ∀ (c5 : Int32) (c6 : Int32) (c7 : Int32) (s8 : St), VF mX3_needed 6 SH jI 31 [(0, .ref b), (1, .int a1), (2, .int a2), (3, .int c5), (4, .int c6), (5, .int c7)] [] s8 (rec c5 c6 c7 s8)) (K : Int32 → St → Option (Int32 × St)) (hK : ∀ (e9 : Int32) (s10 : St), VF mX3_needed 6 SH jI 74 [(4, .int e9)] [] s10 (K e9 s10)) (c5 : Int32) (c6 : Int32) (c7 : Int32) (s8 : St) : VF mX3_needed 6 SH jI 31 [(0, .ref b), (1, .int a1), (2, .int a2), (3, .int c5), (4, .int c6), (5, .int c7)] [] s8 (B_X3_needed_31 rec b a1 a2 K c5 c6 c7 s8) := by
  unfold B_X3_needed_31
  refine v_iload dX3_needed_31 rfl ?_
  refine v_aload_n dX3_needed_33 rfl rfl ?_
  refine v_getr dX3_needed_34 kf_X3_10 h.1 rfl ?_
  refine v_geti dX3_needed_37 kf_X3_87 h.2.1.1 rfl ?_
  refine v_icmp_ge (tgt := 74) dX3_needed_40 (by decide) (fun _ => ?_) (fun _ => ?_)
  · skip
    exact v_pick [4] rfl (hK _ _)
  refine v_aload_n dX3_needed_43 rfl rfl ?_
  refine v_iconst (v := 1) dX3_needed_44 (by decide +kernel) ?_
  refine v_iload dX3_needed_45 rfl ?_
  refine v_ishl dX3_needed_47 ?_
  refine v_iload_n dX3_needed_48 rfl rfl ?_
  refine v_iload_n dX3_needed_49 rfl rfl ?_
  refine v_cbI (fun z hz => runV (as := [.int ((1 : Int32) <<< (c7 &&& 31)), .int a1, .int a2]) dX3_needed_50 kv_X3_221 rfl rfl (Nat.le_of_ble_eq_true rfl) (Nat.le_of_ble_eq_true rfl) (recvW h.1 rfl rfl) (ct_X3_levelWithout _ _ _ _ h _) hz) (fun x12 s11 => ?_)
  refine v_istore (L' := [(6, .int x12), (0, .ref b), (1, .int a1), (2, .int a2), (3, .int c5), (4, .int c6), (5, .int c7)]) dX3_needed_53 (by decide) rfl ?_
  refine v_iload dX3_needed_55 rfl ?_
  refine v_iload_n dX3_needed_57 rfl rfl ?_
  refine v_bnK (fun K15 => ∀ (t13 : Int32) (t14 : Int32), VF mX3_needed 6 SH jI 68 [(0, .ref b), (1, .int a1), (2, .int a2), (3, .int t13), (4, .int t14), (5, .int c7)] [] s11 (K15 t13 t14)) (fun K15 hK15 => ?_) (fun t13 t14 => ?_)
  · skip
    refine v_icmp_ge (tgt := 68) dX3_needed_58 (by decide) (fun _ => ?_) (fun _ => ?_)
    · skip
      exact v_pick [1, 2, 3, 4, 5, 6] rfl (hK15 _ _)
    refine v_iload dX3_needed_61 rfl ?_
    refine v_istore_n (L' := [(3, .int x12), (6, .int x12), (0, .ref b), (1, .int a1), (2, .int a2), (4, .int c6), (5, .int c7)]) dX3_needed_63 rfl (by decide) rfl ?_
    refine v_iload dX3_needed_64 rfl ?_
    refine v_istore (L' := [(4, .int c7), (3, .int x12), (6, .int x12), (0, .ref b), (1, .int a1), (2, .int a2), (5, .int c7)]) dX3_needed_66 (by decide) rfl ?_
    exact v_pick [3, 4, 5, 1, 0, 6] rfl (hK15 _ _)
  refine v_iinc (v := (c7 + (1 : Int32))) (L' := [(5, .int (c7 + (1 : Int32))), (0, .ref b), (1, .int a1), (2, .int a2), (3, .int t13), (4, .int t14)]) dX3_needed_68 rfl rfl (by decide) rfl ?_
  refine v_goto (tgt := 31) dX3_needed_71 (by decide) ?_
  exact v_pick [1, 2, 3, 4, 5, 0] rfl (hrec _ _ _ _)
theorem wL_X3_needed_31 {SH : SHT} (b : Nat) (a1 : Int32) (a2 : Int32) (h : isOaths SH b) (K : Int32 → St → Option (Int32 × St)) (hK : ∀ (e9 : Int32) (s10 : St), VF mX3_needed 6 SH jI 74 [(4, .int e9)] [] s10 (K e9 s10)) : ∀ (n : Nat) (c5 : Int32) (c6 : Int32) (c7 : Int32) (s8 : St), VF mX3_needed 6 SH jI 31 [(0, .ref b), (1, .int a1), (2, .int a2), (3, .int c5), (4, .int c6), (5, .int c7)] [] s8 (L_X3_needed_31 b a1 a2 K n c5 c6 c7 s8) := by
  intro n
  induction n with
  | zero => intros; exact v_none
  | succ n ih => intro c5 c6 c7 s8; exact wB_X3_needed_31 b a1 a2 h _ ih K hK c5 c6 c7 s8
set_option maxHeartbeats 4000000 in
set_option maxRecDepth 100000 in
theorem w_X3_needed {SH : SHT} (b : Nat) (a1 : Int32) (a2 : Int32) (h : isOaths SH b) (s0 : St) : VF mX3_needed 6 SH jI 0 [(0, .ref b), (1, .int a1), (2, .int a2)] [] s0 (f_X3_needed b a1 a2 s0) := by
  unfold f_X3_needed
  refine v_iload_n dX3_needed_0 rfl rfl ?_
  refine v_cpI (fun z hz => runT (as := [.int a1]) dX3_needed_1 kt_X3_107 rfl rfl (Nat.le_of_ble_eq_true rfl) (Nat.le_of_ble_eq_true rfl) (ct_X3_isCell _  _) hz) (fun x1 => ?_)
  refine v_if_eq (tgt := 14) dX3_needed_4 (by decide) (fun _ => ?_) (fun _ => ?_)
  · skip
    refine v_iconst (v := -1) dX3_needed_14 (by decide +kernel) ?_
    exact v_ret (ty := .int) dX3_needed_15 rfl rfl rfl
  refine v_iload_n dX3_needed_7 rfl rfl ?_
  refine v_cpI (fun z hz => runT (as := [.int a2]) dX3_needed_8 kt_X3_218 rfl rfl (Nat.le_of_ble_eq_true rfl) (Nat.le_of_ble_eq_true rfl) (ct_X3_isShortTime _  _) hz) (fun x2 => ?_)
  refine v_if_ne (tgt := 16) dX3_needed_11 (by decide) (fun _ => ?_) (fun _ => ?_)
  · skip
    refine v_aload_n dX3_needed_16 rfl rfl ?_
    refine v_iconst (v := 0) dX3_needed_17 (by decide +kernel) ?_
    refine v_iload_n dX3_needed_18 rfl rfl ?_
    refine v_iload_n dX3_needed_19 rfl rfl ?_
    refine v_cbI (fun z hz => runV (as := [.int (0 : Int32), .int a1, .int a2]) dX3_needed_20 kv_X3_221 rfl rfl (Nat.le_of_ble_eq_true rfl) (Nat.le_of_ble_eq_true rfl) (recvW h.1 rfl rfl) (ct_X3_levelWithout _ _ _ _ h _) hz) (fun x4 s3 => ?_)
    refine v_istore_n (L' := [(3, .int x4), (0, .ref b), (1, .int a1), (2, .int a2)]) dX3_needed_23 rfl (by decide) rfl ?_
    refine v_bipush (v := -3) dX3_needed_24 (by decide +kernel) ?_
    refine v_istore (L' := [(4, .int (-3 : Int32)), (3, .int x4), (0, .ref b), (1, .int a1), (2, .int a2)]) dX3_needed_26 (by decide) rfl ?_
    refine v_iconst (v := 0) dX3_needed_28 (by decide +kernel) ?_
    refine v_istore (L' := [(5, .int (0 : Int32)), (4, .int (-3 : Int32)), (3, .int x4), (0, .ref b), (1, .int a1), (2, .int a2)]) dX3_needed_29 (by decide) rfl ?_
    refine v_pick [3, 4, 5, 2, 1, 0] rfl (wL_X3_needed_31 b a1 a2 h _ (fun e9 s10 => ?_) FU _ _ _ _)
    refine v_iload dX3_needed_74 rfl ?_
    exact v_ret (ty := .int) dX3_needed_76 rfl rfl rfl
  refine v_iconst (v := -1) dX3_needed_14 (by decide +kernel) ?_
  exact v_ret (ty := .int) dX3_needed_15 rfl rfl rfl
theorem ct_X3_needed {SH : SHT} (b : Nat) (a1 : Int32) (a2 : Int32) (h : isOaths SH b) (s0 : St) : CT yX3_needed mX3_needed 6 SH jI [.ref b, .int a1, .int a2] s0 (f_X3_needed b a1 a2 s0) := CT.of (by decide +kernel) rfl (fun E => Nat.le_of_ble_eq_true rfl) (w_X3_needed b a1 a2 h s0)
set_option maxHeartbeats 4000000 in
set_option maxRecDepth 100000 in
theorem wB_X3_fewest_39 {SH : SHT} (b : Nat) (a1 : Int32) (a2 : Int32) (x3 : Int32) (h : isOaths SH b) (rec : Int32 → Int32 → Int32 → St → Option (Int32 × St)) (hrec : ∀ (c4 : Int32) (c5 : Int32) (c6 : Int32) (s7 : St), VF mX3_fewest 6 SH jI 39 [(0, .ref b), (1, .int a1), (2, .int a2), (3, .int x3), (4, .int c4), (5, .int c5), (6, .int c6)] [] s7 (rec c4 c5 c6 s7)) (K : Int32 → St → Option (Int32 × St)) (hK : ∀ (e8 : Int32) (s9 : St), VF mX3_fewest 6 SH jI 89 [(4, .int e8)] [] s9 (K e8 s9)) (c4 : Int32) (c5 : Int32) (c6 : Int32) (s7 : St) : VF mX3_fewest 6 SH jI 39 [(0, .ref b), (1, .int a1), (2, .int a2), (3, .int x3), (4, .int c4), (5, .int c5), (6, .int c6)] [] s7 (B_X3_fewest_39 rec b a1 a2 x3 K c4 c5 c6 s7) := by
  unfold B_X3_fewest_39
  refine v_iload dX3_fewest_39 rfl ?_
  refine v_iload_n dX3_fewest_41 rfl rfl ?_
  refine v_icmp_gt (tgt := 89) dX3_fewest_42 (by decide) (fun _ => ?_) (fun _ => ?_)
  · skip
    exact v_pick [4] rfl (hK _ _)
  refine v_iload dX3_fewest_45 rfl ?_
  refine v_cpI (fun z hz => runT (as := [.int c6]) dX3_fewest_47 kt_X3_196 rfl rfl (Nat.le_of_ble_eq_true rfl) (Nat.le_of_ble_eq_true rfl) (ct_J6_bitCount_0f7a4 _  _) hz) (fun x10 => ?_)
  refine v_iload dX3_fewest_50 rfl ?_
  refine v_bnK (fun K14 => ∀ (t11 : Int32) (t12 : Int32) (s13 : St), VF mX3_fewest 6 SH jI 83 [(0, .ref b), (1, .int a1), (2, .int a2), (3, .int x3), (4, .int t11), (5, .int t12), (6, .int c6)] [] s13 (K14 t11 t12 s13)) (fun K14 hK14 => ?_) (fun t11 t12 s13 => ?_)
  · skip
    refine v_icmp_ge (tgt := 83) dX3_fewest_52 (by decide) (fun _ => ?_) (fun _ => ?_)
    · skip
      exact v_pick [0, 1, 2, 3, 4, 5, 6] rfl (hK14 _ _ _)
    refine v_aload_n dX3_fewest_55 rfl rfl ?_
    refine v_iload_n dX3_fewest_56 rfl rfl ?_
    refine v_iload dX3_fewest_57 rfl ?_
    refine v_iconst (v := -1) dX3_fewest_59 (by decide +kernel) ?_
    refine v_ixor dX3_fewest_60 ?_
    refine v_iand dX3_fewest_61 ?_
    refine v_iload_n dX3_fewest_62 rfl rfl ?_
    refine v_iload_n dX3_fewest_63 rfl rfl ?_
    refine v_cbI (fun z hz => runV (as := [.int (x3 &&& (c6 ^^^ (-1 : Int32))), .int a1, .int a2]) dX3_fewest_64 kv_X3_221 rfl rfl (Nat.le_of_ble_eq_true rfl) (Nat.le_of_ble_eq_true rfl) (recvW h.1 rfl rfl) (ct_X3_levelWithout _ _ _ _ h _) hz) (fun x16 s15 => ?_)
    refine v_bipush (v := 10) dX3_fewest_67 (by decide +kernel) ?_
    refine v_icmp_lt (tgt := 83) dX3_fewest_69 (by decide) (fun _ => ?_) (fun _ => ?_)
    · skip
      exact v_pick [0, 1, 2, 3, 4, 5, 6] rfl (hK14 _ _ _)
    refine v_iload dX3_fewest_72 rfl ?_
    refine v_cpI (fun z hz => runT (as := [.int c6]) dX3_fewest_74 kt_X3_196 rfl rfl (Nat.le_of_ble_eq_true rfl) (Nat.le_of_ble_eq_true rfl) (ct_J6_bitCount_0f7a4 _  _) hz) (fun x17 => ?_)
    refine v_istore (L' := [(5, .int x17), (0, .ref b), (1, .int a1), (2, .int a2), (3, .int x3), (4, .int c4), (6, .int c6)]) dX3_fewest_77 (by decide) rfl ?_
    refine v_iload dX3_fewest_79 rfl ?_
    refine v_istore (L' := [(4, .int c6), (5, .int x17), (0, .ref b), (1, .int a1), (2, .int a2), (3, .int x3), (6, .int c6)]) dX3_fewest_81 (by decide) rfl ?_
    exact v_pick [2, 3, 4, 5, 0, 1, 6] rfl (hK14 _ _ _)
  refine v_iinc (v := (c6 + (1 : Int32))) (L' := [(6, .int (c6 + (1 : Int32))), (0, .ref b), (1, .int a1), (2, .int a2), (3, .int x3), (4, .int t11), (5, .int t12)]) dX3_fewest_83 rfl rfl (by decide) rfl ?_
  refine v_goto (tgt := 39) dX3_fewest_86 (by decide) ?_
  exact v_pick [1, 2, 3, 4, 5, 6, 0] rfl (hrec _ _ _ _)
theorem wL_X3_fewest_39 {SH : SHT} (b : Nat) (a1 : Int32) (a2 : Int32) (x3 : Int32) (h : isOaths SH b) (K : Int32 → St → Option (Int32 × St)) (hK : ∀ (e8 : Int32) (s9 : St), VF mX3_fewest 6 SH jI 89 [(4, .int e8)] [] s9 (K e8 s9)) : ∀ (n : Nat) (c4 : Int32) (c5 : Int32) (c6 : Int32) (s7 : St), VF mX3_fewest 6 SH jI 39 [(0, .ref b), (1, .int a1), (2, .int a2), (3, .int x3), (4, .int c4), (5, .int c5), (6, .int c6)] [] s7 (L_X3_fewest_39 b a1 a2 x3 K n c4 c5 c6 s7) := by
  intro n
  induction n with
  | zero => intros; exact v_none
  | succ n ih => intro c4 c5 c6 s7; exact wB_X3_fewest_39 b a1 a2 x3 h _ ih K hK c4 c5 c6 s7
set_option maxHeartbeats 4000000 in
set_option maxRecDepth 100000 in
theorem w_X3_fewest {SH : SHT} (b : Nat) (a1 : Int32) (a2 : Int32) (h : isOaths SH b) (s0 : St) : VF mX3_fewest 6 SH jI 0 [(0, .ref b), (1, .int a1), (2, .int a2)] [] s0 (f_X3_fewest b a1 a2 s0) := by
  unfold f_X3_fewest
  refine v_iload_n dX3_fewest_0 rfl rfl ?_
  refine v_cpI (fun z hz => runT (as := [.int a1]) dX3_fewest_1 kt_X3_107 rfl rfl (Nat.le_of_ble_eq_true rfl) (Nat.le_of_ble_eq_true rfl) (ct_X3_isCell _  _) hz) (fun x1 => ?_)
  refine v_if_eq (tgt := 14) dX3_fewest_4 (by decide) (fun _ => ?_) (fun _ => ?_)
  · skip
    refine v_iconst (v := -1) dX3_fewest_14 (by decide +kernel) ?_
    exact v_ret (ty := .int) dX3_fewest_15 rfl rfl rfl
  refine v_iload_n dX3_fewest_7 rfl rfl ?_
  refine v_cpI (fun z hz => runT (as := [.int a2]) dX3_fewest_8 kt_X3_218 rfl rfl (Nat.le_of_ble_eq_true rfl) (Nat.le_of_ble_eq_true rfl) (ct_X3_isShortTime _  _) hz) (fun x2 => ?_)
  refine v_if_ne (tgt := 16) dX3_fewest_11 (by decide) (fun _ => ?_) (fun _ => ?_)
  · skip
    refine v_iconst (v := 1) dX3_fewest_16 (by decide +kernel) ?_
    refine v_aload_n dX3_fewest_17 rfl rfl ?_
    refine v_getr dX3_fewest_18 kf_X3_10 h.1 rfl ?_
    refine v_geti dX3_fewest_21 kf_X3_87 h.2.1.1 rfl ?_
    refine v_ishl dX3_fewest_24 ?_
    refine v_iconst (v := 1) dX3_fewest_25 (by decide +kernel) ?_
    refine v_isub dX3_fewest_26 ?_
    refine v_topi (fun x3 => ?_)
    refine v_istore_n (L' := [(3, .int x3), (0, .ref b), (1, .int a1), (2, .int a2)]) dX3_fewest_27 rfl (by decide) rfl ?_
    refine v_bipush (v := -3) dX3_fewest_28 (by decide +kernel) ?_
    refine v_istore (L' := [(4, .int (-3 : Int32)), (3, .int x3), (0, .ref b), (1, .int a1), (2, .int a2)]) dX3_fewest_30 (by decide) rfl ?_
    refine v_bipush (v := 9) dX3_fewest_32 (by decide +kernel) ?_
    refine v_istore (L' := [(5, .int (9 : Int32)), (4, .int (-3 : Int32)), (3, .int x3), (0, .ref b), (1, .int a1), (2, .int a2)]) dX3_fewest_34 (by decide) rfl ?_
    refine v_iconst (v := 0) dX3_fewest_36 (by decide +kernel) ?_
    refine v_istore (L' := [(6, .int (0 : Int32)), (5, .int (9 : Int32)), (4, .int (-3 : Int32)), (3, .int x3), (0, .ref b), (1, .int a1), (2, .int a2)]) dX3_fewest_37 (by decide) rfl ?_
    refine v_pick [4, 5, 6, 3, 2, 1, 0] rfl (wL_X3_fewest_39 b a1 a2 x3 h _ (fun e8 s9 => ?_) FU _ _ _ _)
    refine v_iload dX3_fewest_89 rfl ?_
    exact v_ret (ty := .int) dX3_fewest_91 rfl rfl rfl
  refine v_iconst (v := -1) dX3_fewest_14 (by decide +kernel) ?_
  exact v_ret (ty := .int) dX3_fewest_15 rfl rfl rfl
theorem ct_X3_fewest {SH : SHT} (b : Nat) (a1 : Int32) (a2 : Int32) (h : isOaths SH b) (s0 : St) : CT yX3_fewest mX3_fewest 6 SH jI [.ref b, .int a1, .int a2] s0 (f_X3_fewest b a1 a2 s0) := CT.of (by decide +kernel) rfl (fun E => Nat.le_of_ble_eq_true rfl) (w_X3_fewest b a1 a2 h s0)
set_option maxHeartbeats 4000000 in
set_option maxRecDepth 100000 in
theorem wB_X3_ends_13 {SH : SHT} (b : Nat) (s0 : St) (h : isOaths SH b) (rec : Int32 → Int32 → Option Int32) (hrec : ∀ (c2 : Int32) (c3 : Int32), VF mX3_ends 1 SH (jP s0) 13 [(0, .ref b), (2, .int c2), (3, .int c3)] [] s0 (rec c2 c3)) (K : Int32 → Option Int32) (hK : ∀ (e4 : Int32), VF mX3_ends 1 SH (jP s0) 47 [(2, .int e4)] [] s0 (K e4)) (c2 : Int32) (c3 : Int32) : VF mX3_ends 1 SH (jP s0) 13 [(0, .ref b), (2, .int c2), (3, .int c3)] [] s0 (B_X3_ends_13 rec b s0 K c2 c3) := by
  unfold B_X3_ends_13
  refine v_iload_n dX3_ends_13 rfl rfl ?_
  refine v_bipush (v := 32) dX3_ends_14 (by decide +kernel) ?_
  refine v_icmp_ge (tgt := 47) dX3_ends_16 (by decide) (fun _ => ?_) (fun _ => ?_)
  · skip
    exact v_pick [1] rfl (hK _)
  refine v_aload_n dX3_ends_19 rfl rfl ?_
  refine v_getr dX3_ends_20 kf_X3_10 h.1 rfl ?_
  refine v_getr dX3_ends_23 kf_X3_160 h.2.1.1 rfl ?_
  refine v_iload_n dX3_ends_26 rfl rfl ?_
  refine v_gd (fun g5 => ?_)
  refine v_iald dX3_ends_27 h.2.1.2.2.2.2.1 g5 rfl ?_
  refine v_if_lt (tgt := 47) dX3_ends_28 (by decide) (fun _ => ?_) (fun _ => ?_)
  · skip
    exact v_pick [1] rfl (hK _)
  refine v_aload_n dX3_ends_31 rfl rfl ?_
  refine v_getr dX3_ends_32 kf_X3_10 h.1 rfl ?_
  refine v_getr dX3_ends_35 kf_X3_160 h.2.1.1 rfl ?_
  refine v_iload_n dX3_ends_38 rfl rfl ?_
  refine v_gd (fun g6 => ?_)
  refine v_iald dX3_ends_39 h.2.1.2.2.2.2.1 g6 rfl ?_
  refine v_topi (fun x7 => ?_)
  refine v_istore_n (L' := [(2, .int x7), (0, .ref b), (3, .int c3)]) dX3_ends_40 rfl (by decide) rfl ?_
  refine v_iinc (v := (c3 + (1 : Int32))) (L' := [(3, .int (c3 + (1 : Int32))), (2, .int x7), (0, .ref b)]) dX3_ends_41 rfl rfl (by decide) rfl ?_
  refine v_goto (tgt := 13) dX3_ends_44 (by decide) ?_
  exact v_pick [2, 1, 0] rfl (hrec _ _)
theorem wL_X3_ends_13 {SH : SHT} (b : Nat) (s0 : St) (h : isOaths SH b) (K : Int32 → Option Int32) (hK : ∀ (e4 : Int32), VF mX3_ends 1 SH (jP s0) 47 [(2, .int e4)] [] s0 (K e4)) : ∀ (n : Nat) (c2 : Int32) (c3 : Int32), VF mX3_ends 1 SH (jP s0) 13 [(0, .ref b), (2, .int c2), (3, .int c3)] [] s0 (L_X3_ends_13 b s0 K n c2 c3) := by
  intro n
  induction n with
  | zero => intros; exact v_none
  | succ n ih => intro c2 c3; exact wB_X3_ends_13 b s0 h _ ih K hK c2 c3
set_option maxHeartbeats 4000000 in
set_option maxRecDepth 100000 in
theorem w_X3_ends {SH : SHT} (b : Nat) (a1 : Int32) (h : isOaths SH b) (s0 : St) : VF mX3_ends 1 SH (jP s0) 0 [(0, .ref b), (1, .int a1)] [] s0 (f_X3_ends b a1 s0) := by
  unfold f_X3_ends
  refine v_iload_n dX3_ends_0 rfl rfl ?_
  refine v_cpI (fun z hz => runT (as := [.int a1]) dX3_ends_1 kt_X3_107 rfl rfl (Nat.le_of_ble_eq_true rfl) (Nat.le_of_ble_eq_true rfl) (ct_X3_isCell _  _) hz) (fun x1 => ?_)
  refine v_if_ne (tgt := 9) dX3_ends_4 (by decide) (fun _ => ?_) (fun _ => ?_)
  · skip
    refine v_iload_n dX3_ends_9 rfl rfl ?_
    refine v_istore_n (L' := [(2, .int a1), (0, .ref b), (1, .int a1)]) dX3_ends_10 rfl (by decide) rfl ?_
    refine v_iconst (v := 0) dX3_ends_11 (by decide +kernel) ?_
    refine v_istore_n (L' := [(3, .int (0 : Int32)), (2, .int a1), (0, .ref b), (1, .int a1)]) dX3_ends_12 rfl (by decide) rfl ?_
    refine v_pick [2, 1, 0] rfl (wL_X3_ends_13 b s0 h _ (fun e4 => ?_) FU _ _)
    refine v_iload_n dX3_ends_47 rfl rfl ?_
    exact v_ret (ty := .int) dX3_ends_48 rfl rfl rfl
  refine v_iconst (v := -1) dX3_ends_7 (by decide +kernel) ?_
  exact v_ret (ty := .int) dX3_ends_8 rfl rfl rfl
theorem ct_X3_ends {SH : SHT} (b : Nat) (a1 : Int32) (h : isOaths SH b) (s0 : St) : CT yX3_ends mX3_ends 1 SH (jP s0) [.ref b, .int a1] s0 (f_X3_ends b a1 s0) := CT.of (by decide +kernel) rfl (fun E => Nat.le_of_ble_eq_true rfl) (w_X3_ends b a1 h s0)
set_option maxHeartbeats 4000000 in
set_option maxRecDepth 100000 in
theorem w_X3_isSheet {SH : SHT} (a0 : Int32) (s0 : St) : VF mX3_isSheet 0 SH (jP s0) 0 [(0, .int a0)] [] s0 (f_X3_isSheet a0) := by
  unfold f_X3_isSheet
  refine v_iload_n dX3_isSheet_0 rfl rfl ?_
  refine v_if_lt (tgt := 13) dX3_isSheet_1 (by decide) (fun _ => ?_) (fun _ => ?_)
  · skip
    refine v_iconst (v := 0) dX3_isSheet_13 (by decide +kernel) ?_
    exact v_ret (ty := .boolean) dX3_isSheet_14 rfl rfl (by decide +kernel)
  refine v_iload_n dX3_isSheet_4 rfl rfl ?_
  refine v_iconst (v := 4) dX3_isSheet_5 (by decide +kernel) ?_
  refine v_icmp_ge (tgt := 13) dX3_isSheet_6 (by decide) (fun _ => ?_) (fun _ => ?_)
  · skip
    refine v_iconst (v := 0) dX3_isSheet_13 (by decide +kernel) ?_
    exact v_ret (ty := .boolean) dX3_isSheet_14 rfl rfl (by decide +kernel)
  refine v_iconst (v := 1) dX3_isSheet_9 (by decide +kernel) ?_
  refine v_goto (tgt := 14) dX3_isSheet_10 (by decide) ?_
  exact v_ret (ty := .boolean) dX3_isSheet_14 rfl rfl (by decide +kernel)
theorem ct_X3_isSheet {SH : SHT} (a0 : Int32) (s0 : St) : CT yX3_isSheet mX3_isSheet 0 SH (jP s0) [.int a0] s0 (f_X3_isSheet a0) := CT.of (by decide +kernel) rfl (fun E => Nat.le_of_ble_eq_true rfl) (w_X3_isSheet a0  s0)
set_option maxHeartbeats 4000000 in
set_option maxRecDepth 100000 in
theorem wB_X3_fitsWith_24 {SH : SHT} (b : Nat) (a3 : Int32) (a4 : Int32) (h : isOaths SH b) (rec : Int32 → St → Option (Int32 × St)) (hrec : ∀ (c4 : Int32) (s5 : St), VF mX3_fitsWith 4 SH jI 24 [(0, .ref b), (3, .int a3), (4, .int a4), (5, .int c4)] [] s5 (rec c4 s5)) (c4 : Int32) (s5 : St) : VF mX3_fitsWith 4 SH jI 24 [(0, .ref b), (3, .int a3), (4, .int a4), (5, .int c4)] [] s5 (B_X3_fitsWith_24 rec b a3 a4 c4 s5) := by
  unfold B_X3_fitsWith_24
  refine v_iload dX3_fitsWith_24 rfl ?_
  refine v_aload_n dX3_fitsWith_26 rfl rfl ?_
  refine v_getr dX3_fitsWith_27 kf_X3_38 h.1 rfl ?_
  refine v_iload dX3_fitsWith_30 rfl ?_
  refine v_gd (fun g6 => ?_)
  refine v_iald dX3_fitsWith_32 h.2.2.2.2.2.2.2.2.1 g6 rfl ?_
  refine v_icmp_ge (tgt := 88) dX3_fitsWith_33 (by decide) (fun _ => ?_) (fun _ => ?_)
  · skip
    refine v_iconst (v := 1) dX3_fitsWith_88 (by decide +kernel) ?_
    exact v_ret (ty := .boolean) dX3_fitsWith_89 rfl rfl (by decide +kernel)
  refine v_aload_n dX3_fitsWith_36 rfl rfl ?_
  refine v_getr dX3_fitsWith_37 kf_X3_16 h.1 rfl ?_
  refine v_cw (fun z hz => runV (as := []) dX3_fitsWith_40 kv_X3_215 rfl rfl (Nat.le_of_ble_eq_true rfl) (Nat.le_of_ble_eq_true rfl) (recvW h.2.2.1.1 rfl rfl) (ct_X1_passYear _ h.2.2.1 _) hz) (fun s7 => ?_)
  refine v_aload_n dX3_fitsWith_43 rfl rfl ?_
  refine v_getr dX3_fitsWith_44 kf_X3_43 h.1 rfl ?_
  refine v_iload dX3_fitsWith_47 rfl ?_
  refine v_gd (fun g8 => ?_)
  refine v_aald dX3_fitsWith_49 (Or.inr rfl) h.2.2.2.2.2.2.2.2.2.1 g8 (rng_get (ib_lt g8)) ?_
  refine v_iload dX3_fitsWith_50 rfl ?_
  refine v_gd (fun g9 => ?_)
  refine v_lald dX3_fitsWith_52 (h.2.2.2.2.2.2.2.2.2.2.1 _ (ib_lt g8)) g9 rfl ?_
  refine v_topl (fun x10 => ?_)
  refine v_lstore (L' := [(6, .long x10), (0, .ref b), (3, .int a3), (4, .int a4), (5, .int c4)]) dX3_fitsWith_53 (by decide) rfl ?_
  refine v_lload dX3_fitsWith_55 rfl ?_
  refine v_ldc2 dX3_fitsWith_57 kcL_X3_177 ?_
  refine v_lcmp dX3_fitsWith_60 ?_
  refine v_if_eq (tgt := 82) dX3_fitsWith_61 (by decide) (fun _ => ?_) (fun _ => ?_)
  · skip
    refine v_iinc (v := (c4 + (1 : Int32))) (L' := [(5, .int (c4 + (1 : Int32))), (6, .long x10), (0, .ref b), (3, .int a3), (4, .int a4)]) dX3_fitsWith_82 rfl rfl (by decide) rfl ?_
    refine v_goto (tgt := 24) dX3_fitsWith_85 (by decide) ?_
    exact v_pick [2, 3, 4, 0] rfl (hrec _ _)
  refine v_lload dX3_fitsWith_64 rfl ?_
  refine v_aload_n dX3_fitsWith_66 rfl rfl ?_
  refine v_getr dX3_fitsWith_67 kf_X3_16 h.1 rfl ?_
  refine v_getr dX3_fitsWith_70 kf_X3_145 h.2.2.1.1 rfl ?_
  refine v_iload_n dX3_fitsWith_73 rfl rfl ?_
  refine v_gd (fun g11 => ?_)
  refine v_iald dX3_fitsWith_74 h.2.2.1.2.2.2.1 g11 rfl ?_
  refine v_i2l dX3_fitsWith_75 ?_
  refine v_lcmp dX3_fitsWith_76 ?_
  refine v_if_eq (tgt := 82) dX3_fitsWith_77 (by decide) (fun _ => ?_) (fun _ => ?_)
  · skip
    refine v_iinc (v := (c4 + (1 : Int32))) (L' := [(5, .int (c4 + (1 : Int32))), (6, .long x10), (0, .ref b), (3, .int a3), (4, .int a4)]) dX3_fitsWith_82 rfl rfl (by decide) rfl ?_
    refine v_goto (tgt := 24) dX3_fitsWith_85 (by decide) ?_
    exact v_pick [2, 3, 4, 0] rfl (hrec _ _)
  refine v_iconst (v := 0) dX3_fitsWith_80 (by decide +kernel) ?_
  exact v_ret (ty := .boolean) dX3_fitsWith_81 rfl rfl (by decide +kernel)
theorem wL_X3_fitsWith_24 {SH : SHT} (b : Nat) (a3 : Int32) (a4 : Int32) (h : isOaths SH b) : ∀ (n : Nat) (c4 : Int32) (s5 : St), VF mX3_fitsWith 4 SH jI 24 [(0, .ref b), (3, .int a3), (4, .int a4), (5, .int c4)] [] s5 (L_X3_fitsWith_24 b a3 a4 n c4 s5) := by
  intro n
  induction n with
  | zero => intros; exact v_none
  | succ n ih => intro c4 s5; exact wB_X3_fitsWith_24 b a3 a4 h _ ih c4 s5
set_option maxHeartbeats 4000000 in
set_option maxRecDepth 100000 in
theorem w_X3_fitsWith {SH : SHT} (b : Nat) (a1 : Int32) (a2 : Int32) (a3 : Int32) (a4 : Int32) (h : isOaths SH b) (s0 : St) : VF mX3_fitsWith 4 SH jI 0 [(0, .ref b), (1, .int a1), (2, .int a2), (3, .int a3), (4, .int a4)] [] s0 (f_X3_fitsWith b a1 a2 a3 a4 s0) := by
  unfold f_X3_fitsWith
  refine v_aload_n dX3_fitsWith_0 rfl rfl ?_
  refine v_getr dX3_fitsWith_1 kf_X3_16 h.1 rfl ?_
  refine v_aload_n dX3_fitsWith_4 rfl rfl ?_
  refine v_getr dX3_fitsWith_5 kf_X3_10 h.1 rfl ?_
  refine v_cw (fun z hz => runV (as := [.ref (b + 1)]) dX3_fitsWith_8 kv_X3_80 rfl rfl (Nat.le_of_ble_eq_true rfl) (Nat.le_of_ble_eq_true rfl) (recvW h.2.2.1.1 rfl rfl) (ct_X1_become _ _ h.2.2.1 h.2.1 _) hz) (fun s1 => ?_)
  refine v_aload_n dX3_fitsWith_11 rfl rfl ?_
  refine v_getr dX3_fitsWith_12 kf_X3_16 h.1 rfl ?_
  refine v_getr dX3_fitsWith_15 kf_X3_123 h.2.2.1.1 rfl ?_
  refine v_iload_n dX3_fitsWith_18 rfl rfl ?_
  refine v_iload_n dX3_fitsWith_19 rfl rfl ?_
  refine v_gd (fun g2 => ?_)
  refine v_iast dX3_fitsWith_20 h.2.2.1.2.2.2.2.2.2.2.1 g2 rfl (v_st fun s3 => ?_)
  refine v_iconst (v := 0) dX3_fitsWith_21 (by decide +kernel) ?_
  refine v_istore (L' := [(5, .int (0 : Int32)), (0, .ref b), (1, .int a1), (2, .int a2), (3, .int a3), (4, .int a4)]) dX3_fitsWith_22 (by decide) rfl ?_
  exact v_pick [1, 4, 5, 0] rfl (wL_X3_fitsWith_24 b a3 a4 h FU _ _)
theorem ct_X3_fitsWith {SH : SHT} (b : Nat) (a1 : Int32) (a2 : Int32) (a3 : Int32) (a4 : Int32) (h : isOaths SH b) (s0 : St) : CT yX3_fitsWith mX3_fitsWith 4 SH jI [.ref b, .int a1, .int a2, .int a3, .int a4] s0 (f_X3_fitsWith b a1 a2 a3 a4 s0) := CT.of (by decide +kernel) rfl (fun E => Nat.le_of_ble_eq_true rfl) (w_X3_fitsWith b a1 a2 a3 a4 h s0)
set_option maxHeartbeats 4000000 in
set_option maxRecDepth 100000 in
theorem wB_X3_fits_57 {SH : SHT} (b : Nat) (a1 : Int32) (a2 : Int32) (a3 : Int32) (a4 : Int32) (h : isOaths SH b) (rec : Int32 → Int32 → Int32 → St → Option (Int32 × St)) (hrec : ∀ (c6 : Int32) (c7 : Int32) (c8 : Int32) (s9 : St), VF mX3_fits 5 SH jI 57 [(0, .ref b), (1, .int a1), (2, .int a2), (3, .int a3), (4, .int a4), (5, .int c6), (6, .int c7), (7, .int c8)] [] s9 (rec c6 c7 c8 s9)) (K : Int32 → Int32 → St → Option (Int32 × St)) (hK : ∀ (e10 : Int32) (e11 : Int32) (s12 : St), VF mX3_fits 5 SH jI 87 [(4, .int a4), (5, .int e10), (6, .int e11)] [] s12 (K e10 e11 s12)) (c6 : Int32) (c7 : Int32) (c8 : Int32) (s9 : St) : VF mX3_fits 5 SH jI 57 [(0, .ref b), (1, .int a1), (2, .int a2), (3, .int a3), (4, .int a4), (5, .int c6), (6, .int c7), (7, .int c8)] [] s9 (B_X3_fits_57 rec b a1 a2 a3 a4 K c6 c7 c8 s9) := by
  unfold B_X3_fits_57
  refine v_iload dX3_fits_57 rfl ?_
  refine v_if_lt (tgt := 87) dX3_fits_59 (by decide) (fun _ => ?_) (fun _ => ?_)
  · skip
    exact v_pick [4, 5, 6] rfl (hK _ _ _)
  refine v_aload_n dX3_fits_62 rfl rfl ?_
  refine v_iload dX3_fits_63 rfl ?_
  refine v_iload_n dX3_fits_65 rfl rfl ?_
  refine v_iload_n dX3_fits_66 rfl rfl ?_
  refine v_iload_n dX3_fits_67 rfl rfl ?_
  refine v_cbI (fun z hz => runV (as := [.int c8, .int a3, .int a2, .int a1]) dX3_fits_68 kv_X3_228 rfl rfl (Nat.le_of_ble_eq_true rfl) (Nat.le_of_ble_eq_true rfl) (recvW h.1 rfl rfl) (ct_X3_fitsWith _ _ _ _ _ h _) hz) (fun x14 s13 => ?_)
  refine v_bnK (fun K17 => ∀ (t15 : Int32) (t16 : Int32), VF mX3_fits 5 SH jI 81 [(0, .ref b), (1, .int a1), (2, .int a2), (3, .int a3), (4, .int a4), (5, .int t15), (6, .int t16), (7, .int c8)] [] s13 (K17 t15 t16)) (fun K17 hK17 => ?_) (fun t15 t16 => ?_)
  · skip
    refine v_if_eq (tgt := 81) dX3_fits_71 (by decide) (fun _ => ?_) (fun _ => ?_)
    · skip
      exact v_pick [0, 1, 2, 3, 4, 5, 6, 7] rfl (hK17 _ _)
    refine v_iinc (v := (c6 + (1 : Int32))) (L' := [(5, .int (c6 + (1 : Int32))), (0, .ref b), (1, .int a1), (2, .int a2), (3, .int a3), (4, .int a4), (6, .int c7), (7, .int c8)]) dX3_fits_74 rfl rfl (by decide) rfl ?_
    refine v_iload dX3_fits_77 rfl ?_
    refine v_istore (L' := [(6, .int c8), (5, .int (c6 + (1 : Int32))), (0, .ref b), (1, .int a1), (2, .int a2), (3, .int a3), (4, .int a4), (7, .int c8)]) dX3_fits_79 (by decide) rfl ?_
    exact v_pick [2, 3, 4, 5, 6, 1, 0, 7] rfl (hK17 _ _)
  refine v_iinc (v := (c8 + (-1 : Int32))) (L' := [(7, .int (c8 + (-1 : Int32))), (0, .ref b), (1, .int a1), (2, .int a2), (3, .int a3), (4, .int a4), (5, .int t15), (6, .int t16)]) dX3_fits_81 rfl rfl (by decide) rfl ?_
  refine v_goto (tgt := 57) dX3_fits_84 (by decide) ?_
  exact v_pick [1, 2, 3, 4, 5, 6, 7, 0] rfl (hrec _ _ _ _)
theorem wL_X3_fits_57 {SH : SHT} (b : Nat) (a1 : Int32) (a2 : Int32) (a3 : Int32) (a4 : Int32) (h : isOaths SH b) (K : Int32 → Int32 → St → Option (Int32 × St)) (hK : ∀ (e10 : Int32) (e11 : Int32) (s12 : St), VF mX3_fits 5 SH jI 87 [(4, .int a4), (5, .int e10), (6, .int e11)] [] s12 (K e10 e11 s12)) : ∀ (n : Nat) (c6 : Int32) (c7 : Int32) (c8 : Int32) (s9 : St), VF mX3_fits 5 SH jI 57 [(0, .ref b), (1, .int a1), (2, .int a2), (3, .int a3), (4, .int a4), (5, .int c6), (6, .int c7), (7, .int c8)] [] s9 (L_X3_fits_57 b a1 a2 a3 a4 K n c6 c7 c8 s9) := by
  intro n
  induction n with
  | zero => intros; exact v_none
  | succ n ih => intro c6 c7 c8 s9; exact wB_X3_fits_57 b a1 a2 a3 a4 h _ ih K hK c6 c7 c8 s9
set_option maxHeartbeats 4000000 in
set_option maxRecDepth 100000 in
theorem w_X3_fits {SH : SHT} (b : Nat) (a1 : Int32) (a2 : Int32) (a3 : Int32) (a4 : Int32) (h : isOaths SH b) (s0 : St) : VF mX3_fits 5 SH jI 0 [(0, .ref b), (1, .int a1), (2, .int a2), (3, .int a3), (4, .int a4)] [] s0 (f_X3_fits b a1 a2 a3 a4 s0) := by
  unfold f_X3_fits
  refine v_iload_n dX3_fits_0 rfl rfl ?_
  refine v_cpI (fun z hz => runT (as := [.int a1]) dX3_fits_1 kt_X3_225 rfl rfl (Nat.le_of_ble_eq_true rfl) (Nat.le_of_ble_eq_true rfl) (ct_X3_isSheet _  _) hz) (fun x1 => ?_)
  refine v_if_eq (tgt := 31) dX3_fits_4 (by decide) (fun _ => ?_) (fun _ => ?_)
  · skip
    refine v_iconst (v := -1) dX3_fits_31 (by decide +kernel) ?_
    exact v_ret (ty := .int) dX3_fits_32 rfl rfl rfl
  refine v_iload_n dX3_fits_7 rfl rfl ?_
  refine v_cpI (fun z hz => runT (as := [.int a2]) dX3_fits_8 kt_X3_107 rfl rfl (Nat.le_of_ble_eq_true rfl) (Nat.le_of_ble_eq_true rfl) (ct_X3_isCell _  _) hz) (fun x2 => ?_)
  refine v_if_eq (tgt := 31) dX3_fits_11 (by decide) (fun _ => ?_) (fun _ => ?_)
  · skip
    refine v_iconst (v := -1) dX3_fits_31 (by decide +kernel) ?_
    exact v_ret (ty := .int) dX3_fits_32 rfl rfl rfl
  refine v_aload_n dX3_fits_14 rfl rfl ?_
  refine v_iload_n dX3_fits_15 rfl rfl ?_
  refine v_cpI (fun z hz => runV (as := [.int a3]) dX3_fits_16 kv_X3_114 rfl rfl (Nat.le_of_ble_eq_true rfl) (Nat.le_of_ble_eq_true rfl) (recvW h.1 rfl rfl) (ct_X3_isPerson _ _ h _) hz) (fun x3 => ?_)
  refine v_if_eq (tgt := 31) dX3_fits_19 (by decide) (fun _ => ?_) (fun _ => ?_)
  · skip
    refine v_iconst (v := -1) dX3_fits_31 (by decide +kernel) ?_
    exact v_ret (ty := .int) dX3_fits_32 rfl rfl rfl
  refine v_iload dX3_fits_22 rfl ?_
  refine v_iconst (v := 1) dX3_fits_24 (by decide +kernel) ?_
  refine v_cpI (fun z hz => runT (as := [.int a4, .int (1 : Int32)]) dX3_fits_25 kt_X3_97 rfl rfl (Nat.le_of_ble_eq_true rfl) (Nat.le_of_ble_eq_true rfl) (ct_X3_isWithin _ _  _) hz) (fun x4 => ?_)
  refine v_if_ne (tgt := 33) dX3_fits_28 (by decide) (fun _ => ?_) (fun _ => ?_)
  · skip
    refine v_aload_n dX3_fits_33 rfl rfl ?_
    refine v_getr dX3_fits_34 kf_X3_34 h.1 rfl ?_
    refine v_iload_n dX3_fits_37 rfl rfl ?_
    refine v_gd (fun g5 => ?_)
    refine v_iald dX3_fits_38 h.2.2.2.2.2.2.2.1 g5 rfl ?_
    refine v_iconst (v := -1) dX3_fits_39 (by decide +kernel) ?_
    refine v_icmp_ne (tgt := 46) dX3_fits_40 (by decide) (fun _ => ?_) (fun _ => ?_)
    · skip
      refine v_iconst (v := 0) dX3_fits_46 (by decide +kernel) ?_
      refine v_istore (L' := [(5, .int (0 : Int32)), (0, .ref b), (1, .int a1), (2, .int a2), (3, .int a3), (4, .int a4)]) dX3_fits_47 (by decide) rfl ?_
      refine v_bipush (v := -3) dX3_fits_49 (by decide +kernel) ?_
      refine v_istore (L' := [(6, .int (-3 : Int32)), (5, .int (0 : Int32)), (0, .ref b), (1, .int a1), (2, .int a2), (3, .int a3), (4, .int a4)]) dX3_fits_51 (by decide) rfl ?_
      refine v_bipush (v := 99) dX3_fits_53 (by decide +kernel) ?_
      refine v_istore (L' := [(7, .int (99 : Int32)), (6, .int (-3 : Int32)), (5, .int (0 : Int32)), (0, .ref b), (1, .int a1), (2, .int a2), (3, .int a3), (4, .int a4)]) dX3_fits_55 (by decide) rfl ?_
      refine v_pick [3, 4, 5, 6, 7, 2, 1, 0] rfl (wL_X3_fits_57 b a1 a2 a3 a4 h _ (fun e10 e11 s12 => ?_) FU _ _ _ _)
      refine v_iload dX3_fits_87 rfl ?_
      refine v_if_ne (tgt := 97) dX3_fits_89 (by decide) (fun _ => ?_) (fun _ => ?_)
      · skip
        refine v_iload dX3_fits_97 rfl ?_
        exact v_ret (ty := .int) dX3_fits_99 rfl rfl rfl
      refine v_iload dX3_fits_92 rfl ?_
      refine v_goto (tgt := 99) dX3_fits_94 (by decide) ?_
      exact v_ret (ty := .int) dX3_fits_99 rfl rfl rfl
    refine v_bipush (v := -11) dX3_fits_43 (by decide +kernel) ?_
    exact v_ret (ty := .int) dX3_fits_45 rfl rfl rfl
  refine v_iconst (v := -1) dX3_fits_31 (by decide +kernel) ?_
  exact v_ret (ty := .int) dX3_fits_32 rfl rfl rfl
theorem ct_X3_fits {SH : SHT} (b : Nat) (a1 : Int32) (a2 : Int32) (a3 : Int32) (a4 : Int32) (h : isOaths SH b) (s0 : St) : CT yX3_fits mX3_fits 5 SH jI [.ref b, .int a1, .int a2, .int a3, .int a4] s0 (f_X3_fits b a1 a2 a3 a4 s0) := CT.of (by decide +kernel) rfl (fun E => Nat.le_of_ble_eq_true rfl) (w_X3_fits b a1 a2 a3 a4 h s0)
