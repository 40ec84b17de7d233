set_option maxHeartbeats 4000000 in
set_option maxRecDepth 100000 in
theorem w_X4_bring {SH : SHT} (b : Nat) (a1 : Int32) (a2 : Int32) (h : isModel SH b) (s0 : St) : VF mX4_bring 2 SH jI 0 [(0, .ref b), (1, .int a1), (2, .int a2)] [] s0 (f_X4_bring b a1 a2 s0) := by
  unfold f_X4_bring
  refine v_aload_n dX4_bring_0 rfl rfl ?_
  refine v_iload_n dX4_bring_1 rfl rfl ?_
  refine v_cpI (fun z hz => runV (as := [.int a1]) dX4_bring_2 kv_X4_127 rfl rfl (Nat.le_of_ble_eq_true rfl) (Nat.le_of_ble_eq_true rfl) (recvW h.1 rfl rfl) (ct_X4_isPerson _ _ h _) hz) (fun x1 => ?_)
  refine v_if_eq (tgt := 15) dX4_bring_5 (by decide) (fun _ => ?_) (fun _ => ?_)
  · skip
    refine v_iconst (v := -1) dX4_bring_15 (by decide +kernel) ?_
    exact v_ret (ty := .int) dX4_bring_16 rfl rfl rfl
  refine v_iload_n dX4_bring_8 rfl rfl ?_
  refine v_cpI (fun z hz => runT (as := [.int a2]) dX4_bring_9 kt_X4_120 rfl rfl (Nat.le_of_ble_eq_true rfl) (Nat.le_of_ble_eq_true rfl) (ct_X4_isCell _  _) hz) (fun x2 => ?_)
  refine v_if_ne (tgt := 17) dX4_bring_12 (by decide) (fun _ => ?_) (fun _ => ?_)
  · skip
    refine v_aload_n dX4_bring_17 rfl rfl ?_
    refine v_iload_n dX4_bring_18 rfl rfl ?_
    refine v_iconst (v := 3) dX4_bring_19 (by decide +kernel) ?_
    refine v_cpI (fun z hz => runV (as := [.int a1, .int (3 : Int32)]) dX4_bring_20 kv_X4_67 rfl rfl (Nat.le_of_ble_eq_true rfl) (Nat.le_of_ble_eq_true rfl) (recvW h.1 rfl rfl) (ct_X4_get _ _ _ h _) hz) (fun x3 => ?_)
    refine v_istore_n (L' := [(3, .int x3), (0, .ref b), (1, .int a1), (2, .int a2)]) dX4_bring_23 rfl (by decide) rfl ?_
    refine v_aload_n dX4_bring_24 rfl rfl ?_
    refine v_iload_n dX4_bring_25 rfl rfl ?_
    refine v_iconst (v := 3) dX4_bring_26 (by decide +kernel) ?_
    refine v_iload_n dX4_bring_27 rfl rfl ?_
    refine v_cw (fun z hz => runV (as := [.int a1, .int (3 : Int32), .int a2]) dX4_bring_28 kv_X4_103 rfl rfl (Nat.le_of_ble_eq_true rfl) (Nat.le_of_ble_eq_true rfl) (recvW h.1 rfl rfl) (ct_X4_puts _ _ _ _ h _) hz) (fun s4 => ?_)
    refine v_iload_n dX4_bring_31 rfl rfl ?_
    exact v_ret (ty := .int) dX4_bring_32 rfl rfl rfl
  refine v_iconst (v := -1) dX4_bring_15 (by decide +kernel) ?_
  exact v_ret (ty := .int) dX4_bring_16 rfl rfl rfl
theorem ct_X4_bring {SH : SHT} (b : Nat) (a1 : Int32) (a2 : Int32) (h : isModel SH b) (s0 : St) : CT yX4_bring mX4_bring 2 SH jI [.ref b, .int a1, .int a2] s0 (f_X4_bring b a1 a2 s0) := CT.of (by decide +kernel) rfl (fun E => Nat.le_of_ble_eq_true rfl) (w_X4_bring b a1 a2 h s0)
set_option maxHeartbeats 4000000 in
set_option maxRecDepth 100000 in
theorem wB_X4_atCell_63 {SH : SHT} (b : Nat) (a1 : Int32) (a2 : Int32) (s0 : St) (c2 : Int32) (h : isModel SH b) (rec : Int32 → Int32 → Option Int32) (hrec : ∀ (c10 : Int32) (c11 : Int32), VF mX4_atCell 2 SH (jP s0) 63 [(0, .ref b), (1, .int a1), (2, .int a2), (3, .int c10), (4, .int c2), (5, .int c11)] [] s0 (rec c10 c11)) (K : Int32 → Option Int32) (hK : ∀ (e12 : Int32), VF mX4_atCell 2 SH (jP s0) 100 [(0, .ref b), (1, .int a1), (2, .int a2), (3, .int e12), (4, .int c2)] [] s0 (K e12)) (c10 : Int32) (c11 : Int32) : VF mX4_atCell 2 SH (jP s0) 63 [(0, .ref b), (1, .int a1), (2, .int a2), (3, .int c10), (4, .int c2), (5, .int c11)] [] s0 (B_X4_atCell_63 rec b a1 a2 s0 c2 K c10 c11) := by
  unfold B_X4_atCell_63
  refine v_iload dX4_atCell_63 rfl ?_
  refine v_iload dX4_atCell_65 rfl ?_
  refine v_icmp_ge (tgt := 100) dX4_atCell_67 (by decide) (fun _ => ?_) (fun _ => ?_)
  · skip
    exact v_pick [0, 1, 2, 3, 4] rfl (hK _)
  refine v_iload_n dX4_atCell_70 rfl rfl ?_
  refine v_iconst (v := 2) dX4_atCell_71 (by decide +kernel) ?_
  refine v_icmp_ne (tgt := 100) dX4_atCell_72 (by decide) (fun _ => ?_) (fun _ => ?_)
  · skip
    exact v_pick [0, 1, 2, 3, 4] rfl (hK _)
  refine v_iload_n dX4_atCell_75 rfl rfl ?_
  refine v_aload_n dX4_atCell_76 rfl rfl ?_
  refine v_iload dX4_atCell_77 rfl ?_
  refine v_iload dX4_atCell_79 rfl ?_
  refine v_cpI (fun z hz => runV (as := [.int c11, .int c2]) dX4_atCell_81 kv_X4_82 rfl rfl (Nat.le_of_ble_eq_true rfl) (Nat.le_of_ble_eq_true rfl) (recvW h.1 rfl rfl) (ct_X4_doDisagree _ _ _ h _) hz) (fun x13 => ?_)
  refine v_bnK (fun K15 => ∀ (t14 : Int32), VF mX4_atCell 2 SH (jP s0) 92 [(0, .ref b), (1, .int a1), (2, .int a2), (4, .int c2), (5, .int c11)] [.int t14, .int c10] s0 (K15 t14)) (fun K15 hK15 => ?_) (fun t14 => ?_)
  · skip
    refine v_if_eq (tgt := 91) dX4_atCell_84 (by decide) (fun _ => ?_) (fun _ => ?_)
    · skip
      refine v_iconst (v := 0) dX4_atCell_91 (by decide +kernel) ?_
      exact v_pick [0, 1, 2, 4, 5] rfl (hK15 _)
    refine v_iconst (v := 1) dX4_atCell_87 (by decide +kernel) ?_
    refine v_goto (tgt := 92) dX4_atCell_88 (by decide) ?_
    exact v_pick [0, 1, 2, 4, 5] rfl (hK15 _)
  refine v_iadd dX4_atCell_92 ?_
  refine v_topi (fun x16 => ?_)
  refine v_istore_n (L' := [(3, .int x16), (0, .ref b), (1, .int a1), (2, .int a2), (4, .int c2), (5, .int c11)]) dX4_atCell_93 rfl (by decide) rfl ?_
  refine v_iinc (v := (c11 + (1 : Int32))) (L' := [(5, .int (c11 + (1 : Int32))), (3, .int x16), (0, .ref b), (1, .int a1), (2, .int a2), (4, .int c2)]) dX4_atCell_94 rfl rfl (by decide) rfl ?_
  refine v_goto (tgt := 63) dX4_atCell_97 (by decide) ?_
  exact v_pick [2, 3, 4, 1, 5, 0] rfl (hrec _ _)
theorem wL_X4_atCell_63 {SH : SHT} (b : Nat) (a1 : Int32) (a2 : Int32) (s0 : St) (c2 : Int32) (h : isModel SH b) (K : Int32 → Option Int32) (hK : ∀ (e12 : Int32), VF mX4_atCell 2 SH (jP s0) 100 [(0, .ref b), (1, .int a1), (2, .int a2), (3, .int e12), (4, .int c2)] [] s0 (K e12)) : ∀ (n : Nat) (c10 : Int32) (c11 : Int32), VF mX4_atCell 2 SH (jP s0) 63 [(0, .ref b), (1, .int a1), (2, .int a2), (3, .int c10), (4, .int c2), (5, .int c11)] [] s0 (L_X4_atCell_63 b a1 a2 s0 c2 K n c10 c11) := by
  intro n
  induction n with
  | zero => intros; exact v_none
  | succ n ih => intro c10 c11; exact wB_X4_atCell_63 b a1 a2 s0 c2 h _ ih K hK c10 c11
set_option maxHeartbeats 4000000 in
set_option maxRecDepth 100000 in
theorem wB_X4_atCell_5 {SH : SHT} (b : Nat) (a1 : Int32) (a2 : Int32) (s0 : St) (h : isModel SH b) (rec : Int32 → Int32 → Option Int32) (hrec : ∀ (c1 : Int32) (c2 : Int32), VF mX4_atCell 2 SH (jP s0) 5 [(0, .ref b), (1, .int a1), (2, .int a2), (3, .int c1), (4, .int c2)] [] s0 (rec c1 c2)) (K : Int32 → Option Int32) (hK : ∀ (e3 : Int32), VF mX4_atCell 2 SH (jP s0) 106 [(3, .int e3)] [] s0 (K e3)) (c1 : Int32) (c2 : Int32) : VF mX4_atCell 2 SH (jP s0) 5 [(0, .ref b), (1, .int a1), (2, .int a2), (3, .int c1), (4, .int c2)] [] s0 (B_X4_atCell_5 rec b a1 a2 s0 K c1 c2) := by
  unfold B_X4_atCell_5
  refine v_iload dX4_atCell_5 rfl ?_
  refine v_aload_n dX4_atCell_7 rfl rfl ?_
  refine v_getr dX4_atCell_8 kf_X4_7 h.1 rfl ?_
  refine v_iconst (v := 5) dX4_atCell_11 (by decide +kernel) ?_
  refine v_iald dX4_atCell_12 h.2.1 (by decide +kernel) (j := 5) (by decide +kernel) ?_
  refine v_icmp_ge (tgt := 106) dX4_atCell_13 (by decide) (fun _ => ?_) (fun _ => ?_)
  · skip
    exact v_pick [3] rfl (hK _)
  refine v_iload_n dX4_atCell_16 rfl rfl ?_
  refine v_bnK (fun K5 => ∀ (t4 : Int32), VF mX4_atCell 2 SH (jP s0) 100 [(0, .ref b), (1, .int a1), (2, .int a2), (3, .int t4), (4, .int c2)] [] s0 (K5 t4)) (fun K5 hK5 => ?_) (fun t4 => ?_)
  · skip
    refine v_if_lt (tgt := 31) dX4_atCell_17 (by decide) (fun _ => ?_) (fun _ => ?_)
    · skip
      refine v_iload_n dX4_atCell_31 rfl rfl ?_
      refine v_iload_n dX4_atCell_32 rfl rfl ?_
      refine v_bnK (fun K7 => ∀ (t6 : Int32), VF mX4_atCell 2 SH (jP s0) 58 [(0, .ref b), (1, .int a1), (2, .int a2), (4, .int c2)] [.int t6, .int c1] s0 (K7 t6)) (fun K7 hK7 => ?_) (fun t6 => ?_)
      · skip
        refine v_if_ne (tgt := 43) dX4_atCell_33 (by decide) (fun _ => ?_) (fun _ => ?_)
        · skip
          refine v_iload_n dX4_atCell_43 rfl rfl ?_
          refine v_iconst (v := 1) dX4_atCell_44 (by decide +kernel) ?_
          refine v_icmp_ne (tgt := 57) dX4_atCell_45 (by decide) (fun _ => ?_) (fun _ => ?_)
          · skip
            refine v_iconst (v := 0) dX4_atCell_57 (by decide +kernel) ?_
            exact v_pick [0, 1, 2, 4] rfl (hK7 _)
          refine v_aload_n dX4_atCell_48 rfl rfl ?_
          refine v_iload dX4_atCell_49 rfl ?_
          refine v_cpI (fun z hz => runV (as := [.int c2]) dX4_atCell_51 kv_X4_79 rfl rfl (Nat.le_of_ble_eq_true rfl) (Nat.le_of_ble_eq_true rfl) (recvW h.1 rfl rfl) (ct_X4_wells _ _ h _) hz) (fun x8 => ?_)
          refine v_goto (tgt := 58) dX4_atCell_54 (by decide) ?_
          exact v_pick [0, 1, 2, 4] rfl (hK7 _)
        refine v_iconst (v := 1) dX4_atCell_36 (by decide +kernel) ?_
        refine v_iload dX4_atCell_37 rfl ?_
        refine v_ishl dX4_atCell_39 ?_
        refine v_goto (tgt := 58) dX4_atCell_40 (by decide) ?_
        exact v_pick [0, 1, 2, 4] rfl (hK7 _)
      refine v_iadd dX4_atCell_58 ?_
      refine v_topi (fun x9 => ?_)
      refine v_istore_n (L' := [(3, .int x9), (0, .ref b), (1, .int a1), (2, .int a2), (4, .int c2)]) dX4_atCell_59 rfl (by decide) rfl ?_
      refine v_iconst (v := 0) dX4_atCell_60 (by decide +kernel) ?_
      refine v_istore (L' := [(5, .int (0 : Int32)), (3, .int x9), (0, .ref b), (1, .int a1), (2, .int a2), (4, .int c2)]) dX4_atCell_61 (by decide) rfl ?_
      refine v_pick [2, 3, 4, 1, 5, 0] rfl (wL_X4_atCell_63 b a1 a2 s0 c2 h _ (fun e12 => ?_) FU _ _)
      exact v_pick [0, 1, 2, 3, 4] rfl (hK5 _)
    refine v_aload_n dX4_atCell_20 rfl rfl ?_
    refine v_iload dX4_atCell_21 rfl ?_
    refine v_iconst (v := 3) dX4_atCell_23 (by decide +kernel) ?_
    refine v_cpI (fun z hz => runV (as := [.int c2, .int (3 : Int32)]) dX4_atCell_24 kv_X4_67 rfl rfl (Nat.le_of_ble_eq_true rfl) (Nat.le_of_ble_eq_true rfl) (recvW h.1 rfl rfl) (ct_X4_get _ _ _ h _) hz) (fun x17 => ?_)
    refine v_iload_n dX4_atCell_27 rfl rfl ?_
    refine v_icmp_ne (tgt := 100) dX4_atCell_28 (by decide) (fun _ => ?_) (fun _ => ?_)
    · skip
      exact v_pick [0, 1, 2, 3, 4] rfl (hK5 _)
    refine v_iload_n dX4_atCell_31 rfl rfl ?_
    refine v_iload_n dX4_atCell_32 rfl rfl ?_
    refine v_bnK (fun K19 => ∀ (t18 : Int32), VF mX4_atCell 2 SH (jP s0) 58 [(0, .ref b), (1, .int a1), (2, .int a2), (4, .int c2)] [.int t18, .int c1] s0 (K19 t18)) (fun K19 hK19 => ?_) (fun t18 => ?_)
    · skip
      refine v_if_ne (tgt := 43) dX4_atCell_33 (by decide) (fun _ => ?_) (fun _ => ?_)
      · skip
        refine v_iload_n dX4_atCell_43 rfl rfl ?_
        refine v_iconst (v := 1) dX4_atCell_44 (by decide +kernel) ?_
        refine v_icmp_ne (tgt := 57) dX4_atCell_45 (by decide) (fun _ => ?_) (fun _ => ?_)
        · skip
          refine v_iconst (v := 0) dX4_atCell_57 (by decide +kernel) ?_
          exact v_pick [0, 1, 2, 4] rfl (hK19 _)
        refine v_aload_n dX4_atCell_48 rfl rfl ?_
        refine v_iload dX4_atCell_49 rfl ?_
        refine v_cpI (fun z hz => runV (as := [.int c2]) dX4_atCell_51 kv_X4_79 rfl rfl (Nat.le_of_ble_eq_true rfl) (Nat.le_of_ble_eq_true rfl) (recvW h.1 rfl rfl) (ct_X4_wells _ _ h _) hz) (fun x20 => ?_)
        refine v_goto (tgt := 58) dX4_atCell_54 (by decide) ?_
        exact v_pick [0, 1, 2, 4] rfl (hK19 _)
      refine v_iconst (v := 1) dX4_atCell_36 (by decide +kernel) ?_
      refine v_iload dX4_atCell_37 rfl ?_
      refine v_ishl dX4_atCell_39 ?_
      refine v_goto (tgt := 58) dX4_atCell_40 (by decide) ?_
      exact v_pick [0, 1, 2, 4] rfl (hK19 _)
    refine v_iadd dX4_atCell_58 ?_
    refine v_topi (fun x21 => ?_)
    refine v_istore_n (L' := [(3, .int x21), (0, .ref b), (1, .int a1), (2, .int a2), (4, .int c2)]) dX4_atCell_59 rfl (by decide) rfl ?_
    refine v_iconst (v := 0) dX4_atCell_60 (by decide +kernel) ?_
    refine v_istore (L' := [(5, .int (0 : Int32)), (3, .int x21), (0, .ref b), (1, .int a1), (2, .int a2), (4, .int c2)]) dX4_atCell_61 (by decide) rfl ?_
    refine v_pick [2, 3, 4, 1, 5, 0] rfl (wL_X4_atCell_63 b a1 a2 s0 c2 h _ (fun e24 => ?_) FU _ _)
    exact v_pick [0, 1, 2, 3, 4] rfl (hK5 _)
  refine v_iinc (v := (c2 + (1 : Int32))) (L' := [(4, .int (c2 + (1 : Int32))), (0, .ref b), (1, .int a1), (2, .int a2), (3, .int t4)]) dX4_atCell_100 rfl rfl (by decide) rfl ?_
  refine v_goto (tgt := 5) dX4_atCell_103 (by decide) ?_
  exact v_pick [1, 2, 3, 4, 0] rfl (hrec _ _)
theorem wL_X4_atCell_5 {SH : SHT} (b : Nat) (a1 : Int32) (a2 : Int32) (s0 : St) (h : isModel SH b) (K : Int32 → Option Int32) (hK : ∀ (e3 : Int32), VF mX4_atCell 2 SH (jP s0) 106 [(3, .int e3)] [] s0 (K e3)) : ∀ (n : Nat) (c1 : Int32) (c2 : Int32), VF mX4_atCell 2 SH (jP s0) 5 [(0, .ref b), (1, .int a1), (2, .int a2), (3, .int c1), (4, .int c2)] [] s0 (L_X4_atCell_5 b a1 a2 s0 K n c1 c2) := by
  intro n
  induction n with
  | zero => intros; exact v_none
  | succ n ih => intro c1 c2; exact wB_X4_atCell_5 b a1 a2 s0 h _ ih K hK c1 c2
set_option maxHeartbeats 4000000 in
set_option maxRecDepth 100000 in
theorem w_X4_atCell {SH : SHT} (b : Nat) (a1 : Int32) (a2 : Int32) (h : isModel SH b) (s0 : St) : VF mX4_atCell 2 SH (jP s0) 0 [(0, .ref b), (1, .int a1), (2, .int a2)] [] s0 (f_X4_atCell b a1 a2 s0) := by
  unfold f_X4_atCell
  refine v_iconst (v := 0) dX4_atCell_0 (by decide +kernel) ?_
  refine v_istore_n (L' := [(3, .int (0 : Int32)), (0, .ref b), (1, .int a1), (2, .int a2)]) dX4_atCell_1 rfl (by decide) rfl ?_
  refine v_iconst (v := 0) dX4_atCell_2 (by decide +kernel) ?_
  refine v_istore (L' := [(4, .int (0 : Int32)), (3, .int (0 : Int32)), (0, .ref b), (1, .int a1), (2, .int a2)]) dX4_atCell_3 (by decide) rfl ?_
  refine v_pick [2, 3, 4, 1, 0] rfl (wL_X4_atCell_5 b a1 a2 s0 h _ (fun e3 => ?_) FU _ _)
  refine v_iload_n dX4_atCell_106 rfl rfl ?_
  exact v_ret (ty := .int) dX4_atCell_107 rfl rfl rfl
theorem ct_X4_atCell {SH : SHT} (b : Nat) (a1 : Int32) (a2 : Int32) (h : isModel SH b) (s0 : St) : CT yX4_atCell mX4_atCell 2 SH (jP s0) [.ref b, .int a1, .int a2] s0 (f_X4_atCell b a1 a2 s0) := CT.of (by decide +kernel) rfl (fun E => Nat.le_of_ble_eq_true rfl) (w_X4_atCell b a1 a2 h s0)
set_option maxHeartbeats 4000000 in
set_option maxRecDepth 100000 in
theorem w_X4_cell {SH : SHT} (b : Nat) (a1 : Int32) (a2 : Int32) (h : isModel SH b) (s0 : St) : VF mX4_cell 3 SH (jP s0) 0 [(0, .ref b), (1, .int a1), (2, .int a2)] [] s0 (f_X4_cell b a1 a2 s0) := by
  unfold f_X4_cell
  refine v_iload_n dX4_cell_0 rfl rfl ?_
  refine v_cpI (fun z hz => runT (as := [.int a1]) dX4_cell_1 kt_X4_120 rfl rfl (Nat.le_of_ble_eq_true rfl) (Nat.le_of_ble_eq_true rfl) (ct_X4_isCell _  _) hz) (fun x1 => ?_)
  refine v_if_eq (tgt := 19) dX4_cell_4 (by decide) (fun _ => ?_) (fun _ => ?_)
  · skip
    refine v_iconst (v := -1) dX4_cell_19 (by decide +kernel) ?_
    exact v_ret (ty := .int) dX4_cell_20 rfl rfl rfl
  refine v_iload_n dX4_cell_7 rfl rfl ?_
  refine v_i2l dX4_cell_8 ?_
  refine v_lconst (v := 0) dX4_cell_9 (by decide +kernel) ?_
  refine v_ldc2 dX4_cell_10 kcL_X4_133 ?_
  refine v_cpI (fun z hz => runT (as := [.long (a2).toInt64, .long (0 : Int64), .long (4 : Int64)]) dX4_cell_13 kt_X4_61 rfl rfl (Nat.le_of_ble_eq_true rfl) (Nat.le_of_ble_eq_true rfl) (ct_X4_in _ _ _  _) hz) (fun x2 => ?_)
  refine v_if_ne (tgt := 21) dX4_cell_16 (by decide) (fun _ => ?_) (fun _ => ?_)
  · skip
    refine v_iload_n dX4_cell_21 rfl rfl ?_
    refine v_if_ne (tgt := 37) dX4_cell_22 (by decide) (fun _ => ?_) (fun _ => ?_)
    · skip
      refine v_iload_n dX4_cell_37 rfl rfl ?_
      refine v_iconst (v := 1) dX4_cell_38 (by decide +kernel) ?_
      refine v_icmp_ne (tgt := 54) dX4_cell_39 (by decide) (fun _ => ?_) (fun _ => ?_)
      · skip
        refine v_aload_n dX4_cell_54 rfl rfl ?_
        refine v_iload_n dX4_cell_55 rfl rfl ?_
        refine v_iload_n dX4_cell_56 rfl rfl ?_
        refine v_iconst (v := 2) dX4_cell_57 (by decide +kernel) ?_
        refine v_isub dX4_cell_58 ?_
        refine v_cpI (fun z hz => runV (as := [.int a1, .int (a2 - (2 : Int32))]) dX4_cell_59 kv_X4_135 rfl rfl (Nat.le_of_ble_eq_true rfl) (Nat.le_of_ble_eq_true rfl) (recvW h.1 rfl rfl) (ct_X4_atCell _ _ _ h _) hz) (fun x3 => ?_)
        exact v_ret (ty := .int) dX4_cell_62 rfl rfl rfl
      refine v_aload_n dX4_cell_42 rfl rfl ?_
      refine v_getr dX4_cell_43 kf_X4_7 h.1 rfl ?_
      refine v_bipush (v := 7) dX4_cell_46 (by decide +kernel) ?_
      refine v_iload_n dX4_cell_48 rfl rfl ?_
      refine v_iadd dX4_cell_49 ?_
      refine v_gd (fun g4 => ?_)
      refine v_iald dX4_cell_50 h.2.1 g4 rfl ?_
      refine v_goto (tgt := 62) dX4_cell_51 (by decide) ?_
      exact v_ret (ty := .int) dX4_cell_62 rfl rfl rfl
    refine v_aload_n dX4_cell_25 rfl rfl ?_
    refine v_getr dX4_cell_26 kf_X4_7 h.1 rfl ?_
    refine v_bipush (v := 39) dX4_cell_29 (by decide +kernel) ?_
    refine v_iload_n dX4_cell_31 rfl rfl ?_
    refine v_iadd dX4_cell_32 ?_
    refine v_gd (fun g5 => ?_)
    refine v_iald dX4_cell_33 h.2.1 g5 rfl ?_
    refine v_goto (tgt := 62) dX4_cell_34 (by decide) ?_
    exact v_ret (ty := .int) dX4_cell_62 rfl rfl rfl
  refine v_iconst (v := -1) dX4_cell_19 (by decide +kernel) ?_
  exact v_ret (ty := .int) dX4_cell_20 rfl rfl rfl
theorem ct_X4_cell {SH : SHT} (b : Nat) (a1 : Int32) (a2 : Int32) (h : isModel SH b) (s0 : St) : CT yX4_cell mX4_cell 3 SH (jP s0) [.ref b, .int a1, .int a2] s0 (f_X4_cell b a1 a2 s0) := CT.of (by decide +kernel) rfl (fun E => Nat.le_of_ble_eq_true rfl) (w_X4_cell b a1 a2 h s0)
set_option maxHeartbeats 4000000 in
set_option maxRecDepth 100000 in
theorem w_X4_lowest {SH : SHT} (b : Nat) (a1 : Int32) (h : isModel SH b) (s0 : St) : VF mX4_lowest 2 SH (jP s0) 0 [(0, .ref b), (1, .int a1)] [] s0 (f_X4_lowest b a1 s0) := by
  unfold f_X4_lowest
  refine v_iload_n dX4_lowest_0 rfl rfl ?_
  refine v_cpI (fun z hz => runT (as := [.int a1]) dX4_lowest_1 kt_X4_120 rfl rfl (Nat.le_of_ble_eq_true rfl) (Nat.le_of_ble_eq_true rfl) (ct_X4_isCell _  _) hz) (fun x1 => ?_)
  refine v_if_eq (tgt := 15) dX4_lowest_4 (by decide) (fun _ => ?_) (fun _ => ?_)
  · skip
    refine v_iconst (v := -1) dX4_lowest_15 (by decide +kernel) ?_
    exact v_ret (ty := .int) dX4_lowest_16 rfl rfl rfl
  refine v_aload_n dX4_lowest_7 rfl rfl ?_
  refine v_iload_n dX4_lowest_8 rfl rfl ?_
  refine v_cpI (fun z hz => runV (as := [.int a1]) dX4_lowest_9 kv_X4_90 rfl rfl (Nat.le_of_ble_eq_true rfl) (Nat.le_of_ble_eq_true rfl) (recvW h.1 rfl rfl) (ct_X4_lowestOf _ _ h _) hz) (fun x2 => ?_)
  refine v_goto (tgt := 16) dX4_lowest_12 (by decide) ?_
  exact v_ret (ty := .int) dX4_lowest_16 rfl rfl rfl
theorem ct_X4_lowest {SH : SHT} (b : Nat) (a1 : Int32) (h : isModel SH b) (s0 : St) : CT yX4_lowest mX4_lowest 2 SH (jP s0) [.ref b, .int a1] s0 (f_X4_lowest b a1 s0) := CT.of (by decide +kernel) rfl (fun E => Nat.le_of_ble_eq_true rfl) (w_X4_lowest b a1 h s0)
set_option maxHeartbeats 4000000 in
set_option maxRecDepth 100000 in
theorem w_X4_water {SH : SHT} (b : Nat) (a1 : Int32) (a2 : Int32) (h : isModel SH b) (s0 : St) : VF mX4_water 2 SH jI 0 [(0, .ref b), (1, .int a1), (2, .int a2)] [] s0 (f_X4_water b a1 a2 s0) := by
  unfold f_X4_water
  refine v_iload_n dX4_water_0 rfl rfl ?_
  refine v_cpI (fun z hz => runT (as := [.int a1]) dX4_water_1 kt_X4_120 rfl rfl (Nat.le_of_ble_eq_true rfl) (Nat.le_of_ble_eq_true rfl) (ct_X4_isCell _  _) hz) (fun x1 => ?_)
  refine v_if_eq (tgt := 19) dX4_water_4 (by decide) (fun _ => ?_) (fun _ => ?_)
  · skip
    refine v_iconst (v := -1) dX4_water_19 (by decide +kernel) ?_
    exact v_ret (ty := .int) dX4_water_20 rfl rfl rfl
  refine v_iload_n dX4_water_7 rfl rfl ?_
  refine v_i2l dX4_water_8 ?_
  refine v_lconst (v := 0) dX4_water_9 (by decide +kernel) ?_
  refine v_ldc2 dX4_water_10 kcL_X4_116 ?_
  refine v_cpI (fun z hz => runT (as := [.long (a2).toInt64, .long (0 : Int64), .long (99 : Int64)]) dX4_water_13 kt_X4_61 rfl rfl (Nat.le_of_ble_eq_true rfl) (Nat.le_of_ble_eq_true rfl) (ct_X4_in _ _ _  _) hz) (fun x2 => ?_)
  refine v_if_ne (tgt := 21) dX4_water_16 (by decide) (fun _ => ?_) (fun _ => ?_)
  · skip
    refine v_aload_n dX4_water_21 rfl rfl ?_
    refine v_getr dX4_water_22 kf_X4_7 h.1 rfl ?_
    refine v_bipush (v := 39) dX4_water_25 (by decide +kernel) ?_
    refine v_iload_n dX4_water_27 rfl rfl ?_
    refine v_iadd dX4_water_28 ?_
    refine v_gd (fun g3 => ?_)
    refine v_iald dX4_water_29 h.2.1 g3 rfl ?_
    refine v_topi (fun x4 => ?_)
    refine v_istore_n (L' := [(3, .int x4), (0, .ref b), (1, .int a1), (2, .int a2)]) dX4_water_30 rfl (by decide) rfl ?_
    refine v_aload_n dX4_water_31 rfl rfl ?_
    refine v_getr dX4_water_32 kf_X4_7 h.1 rfl ?_
    refine v_bipush (v := 39) dX4_water_35 (by decide +kernel) ?_
    refine v_iload_n dX4_water_37 rfl rfl ?_
    refine v_iadd dX4_water_38 ?_
    refine v_iload_n dX4_water_39 rfl rfl ?_
    refine v_gd (fun g5 => ?_)
    refine v_iast dX4_water_40 h.2.1 g5 rfl (v_st fun s6 => ?_)
    refine v_iload_n dX4_water_41 rfl rfl ?_
    exact v_ret (ty := .int) dX4_water_42 rfl rfl rfl
  refine v_iconst (v := -1) dX4_water_19 (by decide +kernel) ?_
  exact v_ret (ty := .int) dX4_water_20 rfl rfl rfl
theorem ct_X4_water {SH : SHT} (b : Nat) (a1 : Int32) (a2 : Int32) (h : isModel SH b) (s0 : St) : CT yX4_water mX4_water 2 SH jI [.ref b, .int a1, .int a2] s0 (f_X4_water b a1 a2 s0) := CT.of (by decide +kernel) rfl (fun E => Nat.le_of_ble_eq_true rfl) (w_X4_water b a1 a2 h s0)
set_option maxHeartbeats 4000000 in
set_option maxRecDepth 100000 in
theorem w_X4_height {SH : SHT} (b : Nat) (a1 : Int32) (a2 : Int32) (h : isModel SH b) (s0 : St) : VF mX4_height 2 SH jI 0 [(0, .ref b), (1, .int a1), (2, .int a2)] [] s0 (f_X4_height b a1 a2 s0) := by
  unfold f_X4_height
  refine v_iload_n dX4_height_0 rfl rfl ?_
  refine v_cpI (fun z hz => runT (as := [.int a1]) dX4_height_1 kt_X4_120 rfl rfl (Nat.le_of_ble_eq_true rfl) (Nat.le_of_ble_eq_true rfl) (ct_X4_isCell _  _) hz) (fun x1 => ?_)
  refine v_if_eq (tgt := 19) dX4_height_4 (by decide) (fun _ => ?_) (fun _ => ?_)
  · skip
    refine v_iconst (v := -1) dX4_height_19 (by decide +kernel) ?_
    exact v_ret (ty := .int) dX4_height_20 rfl rfl rfl
  refine v_iload_n dX4_height_7 rfl rfl ?_
  refine v_i2l dX4_height_8 ?_
  refine v_lconst (v := 0) dX4_height_9 (by decide +kernel) ?_
  refine v_ldc2 dX4_height_10 kcL_X4_112 ?_
  refine v_cpI (fun z hz => runT (as := [.long (a2).toInt64, .long (0 : Int64), .long (9 : Int64)]) dX4_height_13 kt_X4_61 rfl rfl (Nat.le_of_ble_eq_true rfl) (Nat.le_of_ble_eq_true rfl) (ct_X4_in _ _ _  _) hz) (fun x2 => ?_)
  refine v_if_ne (tgt := 21) dX4_height_16 (by decide) (fun _ => ?_) (fun _ => ?_)
  · skip
    refine v_aload_n dX4_height_21 rfl rfl ?_
    refine v_getr dX4_height_22 kf_X4_7 h.1 rfl ?_
    refine v_bipush (v := 7) dX4_height_25 (by decide +kernel) ?_
    refine v_iload_n dX4_height_27 rfl rfl ?_
    refine v_iadd dX4_height_28 ?_
    refine v_gd (fun g3 => ?_)
    refine v_iald dX4_height_29 h.2.1 g3 rfl ?_
    refine v_topi (fun x4 => ?_)
    refine v_istore_n (L' := [(3, .int x4), (0, .ref b), (1, .int a1), (2, .int a2)]) dX4_height_30 rfl (by decide) rfl ?_
    refine v_aload_n dX4_height_31 rfl rfl ?_
    refine v_getr dX4_height_32 kf_X4_7 h.1 rfl ?_
    refine v_bipush (v := 7) dX4_height_35 (by decide +kernel) ?_
    refine v_iload_n dX4_height_37 rfl rfl ?_
    refine v_iadd dX4_height_38 ?_
    refine v_iload_n dX4_height_39 rfl rfl ?_
    refine v_gd (fun g5 => ?_)
    refine v_iast dX4_height_40 h.2.1 g5 rfl (v_st fun s6 => ?_)
    refine v_iload_n dX4_height_41 rfl rfl ?_
    exact v_ret (ty := .int) dX4_height_42 rfl rfl rfl
  refine v_iconst (v := -1) dX4_height_19 (by decide +kernel) ?_
  exact v_ret (ty := .int) dX4_height_20 rfl rfl rfl
theorem ct_X4_height {SH : SHT} (b : Nat) (a1 : Int32) (a2 : Int32) (h : isModel SH b) (s0 : St) : CT yX4_height mX4_height 2 SH jI [.ref b, .int a1, .int a2] s0 (f_X4_height b a1 a2 s0) := CT.of (by decide +kernel) rfl (fun E => Nat.le_of_ble_eq_true rfl) (w_X4_height b a1 a2 h s0)
set_option maxHeartbeats 4000000 in
set_option maxRecDepth 100000 in
theorem w_X4_isSuch {SH : SHT} (b : Nat) (a1 : Int32) (a2 : Int32) (h : isModel SH b) (s0 : St) : VF mX4_isSuch 3 SH (jP s0) 0 [(0, .ref b), (1, .int a1), (2, .int a2)] [] s0 (f_X4_isSuch b a1 a2 s0) := by
  unfold f_X4_isSuch
  refine v_iload_n dX4_isSuch_0 rfl rfl ?_
  refine v_if_ne (tgt := 12) dX4_isSuch_1 (by decide) (fun _ => ?_) (fun _ => ?_)
  · skip
    refine v_iload_n dX4_isSuch_12 rfl rfl ?_
    refine v_iconst (v := 1) dX4_isSuch_13 (by decide +kernel) ?_
    refine v_icmp_ne (tgt := 34) dX4_isSuch_14 (by decide) (fun _ => ?_) (fun _ => ?_)
    · skip
      refine v_aload_n dX4_isSuch_34 rfl rfl ?_
      refine v_iload_n dX4_isSuch_35 rfl rfl ?_
      refine v_cpI (fun z hz => runV (as := [.int a1]) dX4_isSuch_36 kv_X4_90 rfl rfl (Nat.le_of_ble_eq_true rfl) (Nat.le_of_ble_eq_true rfl) (recvW h.1 rfl rfl) (ct_X4_lowestOf _ _ h _) hz) (fun x1 => ?_)
      refine v_bipush (v := -3) dX4_isSuch_39 (by decide +kernel) ?_
      refine v_icmp_ne (tgt := 48) dX4_isSuch_41 (by decide) (fun _ => ?_) (fun _ => ?_)
      · skip
        refine v_iconst (v := 0) dX4_isSuch_48 (by decide +kernel) ?_
        exact v_ret (ty := .boolean) dX4_isSuch_49 rfl rfl (by decide +kernel)
      refine v_iconst (v := 1) dX4_isSuch_44 (by decide +kernel) ?_
      refine v_goto (tgt := 49) dX4_isSuch_45 (by decide) ?_
      exact v_ret (ty := .boolean) dX4_isSuch_49 rfl rfl (by decide +kernel)
    refine v_aload_n dX4_isSuch_17 rfl rfl ?_
    refine v_iload_n dX4_isSuch_18 rfl rfl ?_
    refine v_iconst (v := 0) dX4_isSuch_19 (by decide +kernel) ?_
    refine v_cpI (fun z hz => runV (as := [.int a1, .int (0 : Int32)]) dX4_isSuch_20 kv_X4_135 rfl rfl (Nat.le_of_ble_eq_true rfl) (Nat.le_of_ble_eq_true rfl) (recvW h.1 rfl rfl) (ct_X4_atCell _ _ _ h _) hz) (fun x2 => ?_)
    refine v_if_eq (tgt := 30) dX4_isSuch_23 (by decide) (fun _ => ?_) (fun _ => ?_)
    · skip
      refine v_iconst (v := 0) dX4_isSuch_30 (by decide +kernel) ?_
      refine v_goto (tgt := 49) dX4_isSuch_31 (by decide) ?_
      exact v_ret (ty := .boolean) dX4_isSuch_49 rfl rfl (by decide +kernel)
    refine v_iconst (v := 1) dX4_isSuch_26 (by decide +kernel) ?_
    refine v_goto (tgt := 49) dX4_isSuch_27 (by decide) ?_
    exact v_ret (ty := .boolean) dX4_isSuch_49 rfl rfl (by decide +kernel)
  refine v_aload_n dX4_isSuch_4 rfl rfl ?_
  refine v_iload_n dX4_isSuch_5 rfl rfl ?_
  refine v_cpI (fun z hz => runV (as := [.int a1]) dX4_isSuch_6 kv_X4_93 rfl rfl (Nat.le_of_ble_eq_true rfl) (Nat.le_of_ble_eq_true rfl) (recvW h.1 rfl rfl) (ct_X4_isWet _ _ h _) hz) (fun x3 => ?_)
  refine v_goto (tgt := 49) dX4_isSuch_9 (by decide) ?_
  exact v_retz dX4_isSuch_49 rfl rfl
theorem ct_X4_isSuch {SH : SHT} (b : Nat) (a1 : Int32) (a2 : Int32) (h : isModel SH b) (s0 : St) : CT yX4_isSuch mX4_isSuch 3 SH (jP s0) [.ref b, .int a1, .int a2] s0 (f_X4_isSuch b a1 a2 s0) := CT.of (by decide +kernel) rfl (fun E => Nat.le_of_ble_eq_true rfl) (w_X4_isSuch b a1 a2 h s0)
set_option maxHeartbeats 4000000 in
set_option maxRecDepth 100000 in
theorem wB_X4_cellsSuch_4 {SH : SHT} (b : Nat) (a1 : Int32) (s0 : St) (h : isModel SH b) (rec : Int32 → Int32 → Option Int32) (hrec : ∀ (c1 : Int32) (c2 : Int32), VF mX4_cellsSuch 4 SH (jP s0) 4 [(0, .ref b), (1, .int a1), (2, .int c1), (3, .int c2)] [] s0 (rec c1 c2)) (K : Int32 → Option Int32) (hK : ∀ (e3 : Int32), VF mX4_cellsSuch 4 SH (jP s0) 33 [(2, .int e3)] [] s0 (K e3)) (c1 : Int32) (c2 : Int32) : VF mX4_cellsSuch 4 SH (jP s0) 4 [(0, .ref b), (1, .int a1), (2, .int c1), (3, .int c2)] [] s0 (B_X4_cellsSuch_4 rec b a1 s0 K c1 c2) := by
  unfold B_X4_cellsSuch_4
  refine v_iload_n dX4_cellsSuch_4 rfl rfl ?_
  refine v_bipush (v := 32) dX4_cellsSuch_5 (by decide +kernel) ?_
  refine v_icmp_ge (tgt := 33) dX4_cellsSuch_7 (by decide) (fun _ => ?_) (fun _ => ?_)
  · skip
    exact v_pick [2] rfl (hK _)
  refine v_iload_n dX4_cellsSuch_10 rfl rfl ?_
  refine v_aload_n dX4_cellsSuch_11 rfl rfl ?_
  refine v_iload_n dX4_cellsSuch_12 rfl rfl ?_
  refine v_iload_n dX4_cellsSuch_13 rfl rfl ?_
  refine v_cpI (fun z hz => runV (as := [.int c2, .int a1]) dX4_cellsSuch_14 kv_X4_138 rfl rfl (Nat.le_of_ble_eq_true rfl) (Nat.le_of_ble_eq_true rfl) (recvW h.1 rfl rfl) (ct_X4_isSuch _ _ _ h _) hz) (fun x4 => ?_)
  refine v_bnK (fun K6 => ∀ (t5 : Int32), VF mX4_cellsSuch 4 SH (jP s0) 25 [(0, .ref b), (1, .int a1), (3, .int c2)] [.int t5, .int c1] s0 (K6 t5)) (fun K6 hK6 => ?_) (fun t5 => ?_)
  · skip
    refine v_if_eq (tgt := 24) dX4_cellsSuch_17 (by decide) (fun _ => ?_) (fun _ => ?_)
    · skip
      refine v_iconst (v := 0) dX4_cellsSuch_24 (by decide +kernel) ?_
      exact v_pick [0, 1, 3] rfl (hK6 _)
    refine v_iconst (v := 1) dX4_cellsSuch_20 (by decide +kernel) ?_
    refine v_goto (tgt := 25) dX4_cellsSuch_21 (by decide) ?_
    exact v_pick [0, 1, 3] rfl (hK6 _)
  refine v_iadd dX4_cellsSuch_25 ?_
  refine v_topi (fun x7 => ?_)
  refine v_istore_n (L' := [(2, .int x7), (0, .ref b), (1, .int a1), (3, .int c2)]) dX4_cellsSuch_26 rfl (by decide) rfl ?_
  refine v_iinc (v := (c2 + (1 : Int32))) (L' := [(3, .int (c2 + (1 : Int32))), (2, .int x7), (0, .ref b), (1, .int a1)]) dX4_cellsSuch_27 rfl rfl (by decide) rfl ?_
  refine v_goto (tgt := 4) dX4_cellsSuch_30 (by decide) ?_
  exact v_pick [2, 3, 1, 0] rfl (hrec _ _)
theorem wL_X4_cellsSuch_4 {SH : SHT} (b : Nat) (a1 : Int32) (s0 : St) (h : isModel SH b) (K : Int32 → Option Int32) (hK : ∀ (e3 : Int32), VF mX4_cellsSuch 4 SH (jP s0) 33 [(2, .int e3)] [] s0 (K e3)) : ∀ (n : Nat) (c1 : Int32) (c2 : Int32), VF mX4_cellsSuch 4 SH (jP s0) 4 [(0, .ref b), (1, .int a1), (2, .int c1), (3, .int c2)] [] s0 (L_X4_cellsSuch_4 b a1 s0 K n c1 c2) := by
  intro n
  induction n with
  | zero => intros; exact v_none
  | succ n ih => intro c1 c2; exact wB_X4_cellsSuch_4 b a1 s0 h _ ih K hK c1 c2
set_option maxHeartbeats 4000000 in
set_option maxRecDepth 100000 in
theorem w_X4_cellsSuch {SH : SHT} (b : Nat) (a1 : Int32) (h : isModel SH b) (s0 : St) : VF mX4_cellsSuch 4 SH (jP s0) 0 [(0, .ref b), (1, .int a1)] [] s0 (f_X4_cellsSuch b a1 s0) := by
  unfold f_X4_cellsSuch
  refine v_iconst (v := 0) dX4_cellsSuch_0 (by decide +kernel) ?_
  refine v_istore_n (L' := [(2, .int (0 : Int32)), (0, .ref b), (1, .int a1)]) dX4_cellsSuch_1 rfl (by decide) rfl ?_
  refine v_iconst (v := 0) dX4_cellsSuch_2 (by decide +kernel) ?_
  refine v_istore_n (L' := [(3, .int (0 : Int32)), (2, .int (0 : Int32)), (0, .ref b), (1, .int a1)]) dX4_cellsSuch_3 rfl (by decide) rfl ?_
  refine v_pick [2, 3, 1, 0] rfl (wL_X4_cellsSuch_4 b a1 s0 h _ (fun e3 => ?_) FU _ _)
  refine v_iload_n dX4_cellsSuch_33 rfl rfl ?_
  exact v_ret (ty := .int) dX4_cellsSuch_34 rfl rfl rfl
theorem ct_X4_cellsSuch {SH : SHT} (b : Nat) (a1 : Int32) (h : isModel SH b) (s0 : St) : CT yX4_cellsSuch mX4_cellsSuch 4 SH (jP s0) [.ref b, .int a1] s0 (f_X4_cellsSuch b a1 s0) := CT.of (by decide +kernel) rfl (fun E => Nat.le_of_ble_eq_true rfl) (w_X4_cellsSuch b a1 h s0)
set_option maxHeartbeats 4000000 in
set_option maxRecDepth 100000 in
theorem wB_X4_wets_21 {SH : SHT} (b : Nat) (a1 : Int32) (s0 : St) (h : isModel SH b) (rec : Int64 → Int32 → Option Int64) (hrec : ∀ (c2 : Int64) (c3 : Int32), VF mX4_wets 4 SH (jQ s0) 21 [(0, .ref b), (1, .int a1), (2, .long c2), (4, .int c3)] [] s0 (rec c2 c3)) (K : Int64 → Option Int64) (hK : ∀ (e4 : Int64), VF mX4_wets 4 SH (jQ s0) 55 [(2, .long e4)] [] s0 (K e4)) (c2 : Int64) (c3 : Int32) : VF mX4_wets 4 SH (jQ s0) 21 [(0, .ref b), (1, .int a1), (2, .long c2), (4, .int c3)] [] s0 (B_X4_wets_21 rec b a1 s0 K c2 c3) := by
  unfold B_X4_wets_21
  refine v_iload dX4_wets_21 rfl ?_
  refine v_bipush (v := 32) dX4_wets_23 (by decide +kernel) ?_
  refine v_icmp_ge (tgt := 55) dX4_wets_25 (by decide) (fun _ => ?_) (fun _ => ?_)
  · skip
    exact v_pick [2] rfl (hK _)
  refine v_lload_n dX4_wets_28 rfl rfl ?_
  refine v_aload_n dX4_wets_29 rfl rfl ?_
  refine v_iload dX4_wets_30 rfl ?_
  refine v_iload_n dX4_wets_32 rfl rfl ?_
  refine v_cpI (fun z hz => runV (as := [.int c3, .int a1]) dX4_wets_33 kv_X4_138 rfl rfl (Nat.le_of_ble_eq_true rfl) (Nat.le_of_ble_eq_true rfl) (recvW h.1 rfl rfl) (ct_X4_isSuch _ _ _ h _) hz) (fun x5 => ?_)
  refine v_bnK (fun K7 => ∀ (t6 : Int64), VF mX4_wets 4 SH (jQ s0) 47 [(0, .ref b), (1, .int a1), (4, .int c3)] [.long t6, .long c2] s0 (K7 t6)) (fun K7 hK7 => ?_) (fun t6 => ?_)
  · skip
    refine v_if_eq (tgt := 46) dX4_wets_36 (by decide) (fun _ => ?_) (fun _ => ?_)
    · skip
      refine v_lconst (v := 0) dX4_wets_46 (by decide +kernel) ?_
      exact v_pick [0, 1, 3] rfl (hK7 _)
    refine v_lconst (v := 1) dX4_wets_39 (by decide +kernel) ?_
    refine v_iload dX4_wets_40 rfl ?_
    refine v_lshl dX4_wets_42 ?_
    refine v_goto (tgt := 47) dX4_wets_43 (by decide) ?_
    exact v_pick [0, 1, 3] rfl (hK7 _)
  refine v_lor dX4_wets_47 ?_
  refine v_topl (fun x8 => ?_)
  refine v_lstore_n (L' := [(2, .long x8), (0, .ref b), (1, .int a1), (4, .int c3)]) dX4_wets_48 rfl (by decide) rfl ?_
  refine v_iinc (v := (c3 + (1 : Int32))) (L' := [(4, .int (c3 + (1 : Int32))), (2, .long x8), (0, .ref b), (1, .int a1)]) dX4_wets_49 rfl rfl (by decide) rfl ?_
  refine v_goto (tgt := 21) dX4_wets_52 (by decide) ?_
  exact v_pick [2, 3, 1, 0] rfl (hrec _ _)
theorem wL_X4_wets_21 {SH : SHT} (b : Nat) (a1 : Int32) (s0 : St) (h : isModel SH b) (K : Int64 → Option Int64) (hK : ∀ (e4 : Int64), VF mX4_wets 4 SH (jQ s0) 55 [(2, .long e4)] [] s0 (K e4)) : ∀ (n : Nat) (c2 : Int64) (c3 : Int32), VF mX4_wets 4 SH (jQ s0) 21 [(0, .ref b), (1, .int a1), (2, .long c2), (4, .int c3)] [] s0 (L_X4_wets_21 b a1 s0 K n c2 c3) := by
  intro n
  induction n with
  | zero => intros; exact v_none
  | succ n ih => intro c2 c3; exact wB_X4_wets_21 b a1 s0 h _ ih K hK c2 c3
set_option maxHeartbeats 4000000 in
set_option maxRecDepth 100000 in
theorem w_X4_wets {SH : SHT} (b : Nat) (a1 : Int32) (h : isModel SH b) (s0 : St) : VF mX4_wets 4 SH (jQ s0) 0 [(0, .ref b), (1, .int a1)] [] s0 (f_X4_wets b a1 s0) := by
  unfold f_X4_wets
  refine v_iload_n dX4_wets_0 rfl rfl ?_
  refine v_i2l dX4_wets_1 ?_
  refine v_lconst (v := 0) dX4_wets_2 (by decide +kernel) ?_
  refine v_ldc2 dX4_wets_3 kcL_X4_141 ?_
  refine v_cpI (fun z hz => runT (as := [.long (a1).toInt64, .long (0 : Int64), .long (2 : Int64)]) dX4_wets_6 kt_X4_61 rfl rfl (Nat.le_of_ble_eq_true rfl) (Nat.le_of_ble_eq_true rfl) (ct_X4_in _ _ _  _) hz) (fun x1 => ?_)
  refine v_if_ne (tgt := 16) dX4_wets_9 (by decide) (fun _ => ?_) (fun _ => ?_)
  · skip
    refine v_lconst (v := 0) dX4_wets_16 (by decide +kernel) ?_
    refine v_lstore_n (L' := [(2, .long (0 : Int64)), (0, .ref b), (1, .int a1)]) dX4_wets_17 rfl (by decide) rfl ?_
    refine v_iconst (v := 0) dX4_wets_18 (by decide +kernel) ?_
    refine v_istore (L' := [(4, .int (0 : Int32)), (2, .long (0 : Int64)), (0, .ref b), (1, .int a1)]) dX4_wets_19 (by decide) rfl ?_
    refine v_pick [2, 3, 1, 0] rfl (wL_X4_wets_21 b a1 s0 h _ (fun e4 => ?_) FU _ _)
    refine v_lload_n dX4_wets_55 rfl rfl ?_
    exact v_lret dX4_wets_56 rfl rfl
  refine v_ldc2 dX4_wets_12 kcL_X4_143 ?_
  exact v_lret dX4_wets_15 rfl rfl
theorem ct_X4_wets {SH : SHT} (b : Nat) (a1 : Int32) (h : isModel SH b) (s0 : St) : CT yX4_wets mX4_wets 4 SH (jQ s0) [.ref b, .int a1] s0 (f_X4_wets b a1 s0) := CT.of (by decide +kernel) rfl (fun E => Nat.le_of_ble_eq_true rfl) (w_X4_wets b a1 h s0)
set_option maxHeartbeats 4000000 in
set_option maxRecDepth 100000 in
theorem wB_X4_lost_4 {SH : SHT} (b : Nat) (s0 : St) (h : isModel SH b) (rec : Int32 → Int32 → Option Int32) (hrec : ∀ (c1 : Int32) (c2 : Int32), VF mX4_lost 1 SH (jP s0) 4 [(0, .ref b), (1, .int c1), (2, .int c2)] [] s0 (rec c1 c2)) (K : Int32 → Option Int32) (hK : ∀ (e3 : Int32), VF mX4_lost 1 SH (jP s0) 39 [(1, .int e3)] [] s0 (K e3)) (c1 : Int32) (c2 : Int32) : VF mX4_lost 1 SH (jP s0) 4 [(0, .ref b), (1, .int c1), (2, .int c2)] [] s0 (B_X4_lost_4 rec b s0 K c1 c2) := by
  unfold B_X4_lost_4
  refine v_iload_n dX4_lost_4 rfl rfl ?_
  refine v_aload_n dX4_lost_5 rfl rfl ?_
  refine v_getr dX4_lost_6 kf_X4_7 h.1 rfl ?_
  refine v_iconst (v := 5) dX4_lost_9 (by decide +kernel) ?_
  refine v_iald dX4_lost_10 h.2.1 (by decide +kernel) (j := 5) (by decide +kernel) ?_
  refine v_icmp_ge (tgt := 39) dX4_lost_11 (by decide) (fun _ => ?_) (fun _ => ?_)
  · skip
    exact v_pick [1] rfl (hK _)
  refine v_iload_n dX4_lost_14 rfl rfl ?_
  refine v_aload_n dX4_lost_15 rfl rfl ?_
  refine v_iload_n dX4_lost_16 rfl rfl ?_
  refine v_iconst (v := 2) dX4_lost_17 (by decide +kernel) ?_
  refine v_cpI (fun z hz => runV (as := [.int c2, .int (2 : Int32)]) dX4_lost_18 kv_X4_67 rfl rfl (Nat.le_of_ble_eq_true rfl) (Nat.le_of_ble_eq_true rfl) (recvW h.1 rfl rfl) (ct_X4_get _ _ _ h _) hz) (fun x4 => ?_)
  refine v_bnK (fun K6 => ∀ (t5 : Int32), VF mX4_lost 1 SH (jP s0) 31 [(0, .ref b), (2, .int c2)] [.int t5, .int c1] s0 (K6 t5)) (fun K6 hK6 => ?_) (fun t5 => ?_)
  · skip
    refine v_if_ne (tgt := 30) dX4_lost_21 (by decide) (fun _ => ?_) (fun _ => ?_)
    · skip
      refine v_iconst (v := 0) dX4_lost_30 (by decide +kernel) ?_
      exact v_pick [0, 2] rfl (hK6 _)
    refine v_iconst (v := 1) dX4_lost_24 (by decide +kernel) ?_
    refine v_iload_n dX4_lost_25 rfl rfl ?_
    refine v_ishl dX4_lost_26 ?_
    refine v_goto (tgt := 31) dX4_lost_27 (by decide) ?_
    exact v_pick [0, 2] rfl (hK6 _)
  refine v_ior dX4_lost_31 ?_
  refine v_topi (fun x7 => ?_)
  refine v_istore_n (L' := [(1, .int x7), (0, .ref b), (2, .int c2)]) dX4_lost_32 rfl (by decide) rfl ?_
  refine v_iinc (v := (c2 + (1 : Int32))) (L' := [(2, .int (c2 + (1 : Int32))), (1, .int x7), (0, .ref b)]) dX4_lost_33 rfl rfl (by decide) rfl ?_
  refine v_goto (tgt := 4) dX4_lost_36 (by decide) ?_
  exact v_pick [2, 1, 0] rfl (hrec _ _)
theorem wL_X4_lost_4 {SH : SHT} (b : Nat) (s0 : St) (h : isModel SH b) (K : Int32 → Option Int32) (hK : ∀ (e3 : Int32), VF mX4_lost 1 SH (jP s0) 39 [(1, .int e3)] [] s0 (K e3)) : ∀ (n : Nat) (c1 : Int32) (c2 : Int32), VF mX4_lost 1 SH (jP s0) 4 [(0, .ref b), (1, .int c1), (2, .int c2)] [] s0 (L_X4_lost_4 b s0 K n c1 c2) := by
  intro n
  induction n with
  | zero => intros; exact v_none
  | succ n ih => intro c1 c2; exact wB_X4_lost_4 b s0 h _ ih K hK c1 c2
set_option maxHeartbeats 4000000 in
set_option maxRecDepth 100000 in
theorem w_X4_lost {SH : SHT} (b : Nat) (h : isModel SH b) (s0 : St) : VF mX4_lost 1 SH (jP s0) 0 [(0, .ref b)] [] s0 (f_X4_lost b s0) := by
  unfold f_X4_lost
  refine v_iconst (v := 0) dX4_lost_0 (by decide +kernel) ?_
  refine v_istore_n (L' := [(1, .int (0 : Int32)), (0, .ref b)]) dX4_lost_1 rfl (by decide) rfl ?_
  refine v_iconst (v := 0) dX4_lost_2 (by decide +kernel) ?_
  refine v_istore_n (L' := [(2, .int (0 : Int32)), (1, .int (0 : Int32)), (0, .ref b)]) dX4_lost_3 rfl (by decide) rfl ?_
  refine v_pick [2, 1, 0] rfl (wL_X4_lost_4 b s0 h _ (fun e3 => ?_) FU _ _)
  refine v_iload_n dX4_lost_39 rfl rfl ?_
  exact v_ret (ty := .int) dX4_lost_40 rfl rfl rfl
theorem ct_X4_lost {SH : SHT} (b : Nat) (h : isModel SH b) (s0 : St) : CT yX4_lost mX4_lost 1 SH (jP s0) [.ref b] s0 (f_X4_lost b s0) := CT.of (by decide +kernel) rfl (fun E => Nat.le_of_ble_eq_true rfl) (w_X4_lost b h s0)
set_option maxHeartbeats 4000000 in
set_option maxRecDepth 100000 in
theorem w_X4_years {SH : SHT} (b : Nat) (a1 : Int32) (h : isModel SH b) (s0 : St) : VF mX4_years 5 SH jI 0 [(0, .ref b), (1, .int a1)] [] s0 (f_X4_years b a1 s0) := by
  unfold f_X4_years
  refine v_iload_n dX4_years_0 rfl rfl ?_
  refine v_i2l dX4_years_1 ?_
  refine v_lconst (v := 1) dX4_years_2 (by decide +kernel) ?_
  refine v_ldc2 dX4_years_3 kcL_X4_145 ?_
  refine v_cpI (fun z hz => runT (as := [.long (a1).toInt64, .long (1 : Int64), .long (60 : Int64)]) dX4_years_6 kt_X4_61 rfl rfl (Nat.le_of_ble_eq_true rfl) (Nat.le_of_ble_eq_true rfl) (ct_X4_in _ _ _  _) hz) (fun x1 => ?_)
  refine v_if_ne (tgt := 14) dX4_years_9 (by decide) (fun _ => ?_) (fun _ => ?_)
  · skip
    refine v_aload_n dX4_years_14 rfl rfl ?_
    refine v_iload_n dX4_years_15 rfl rfl ?_
    refine v_cw (fun z hz => runV (as := [.int a1]) dX4_years_16 kv_X4_147 rfl rfl (Nat.le_of_ble_eq_true rfl) (Nat.le_of_ble_eq_true rfl) (recvW h.1 rfl rfl) (ct_X4_yearsGo _ _ h _) hz) (fun s2 => ?_)
    refine v_aload_n dX4_years_19 rfl rfl ?_
    refine v_iconst (v := 0) dX4_years_20 (by decide +kernel) ?_
    refine v_cpI (fun z hz => runV (as := [.int (0 : Int32)]) dX4_years_21 kv_X4_151 rfl rfl (Nat.le_of_ble_eq_true rfl) (Nat.le_of_ble_eq_true rfl) (recvW h.1 rfl rfl) (ct_X4_cellsSuch _ _ h _) hz) (fun x3 => ?_)
    exact v_ret (ty := .int) dX4_years_24 rfl rfl rfl
  refine v_iconst (v := -1) dX4_years_12 (by decide +kernel) ?_
  exact v_ret (ty := .int) dX4_years_13 rfl rfl rfl
theorem ct_X4_years {SH : SHT} (b : Nat) (a1 : Int32) (h : isModel SH b) (s0 : St) : CT yX4_years mX4_years 5 SH jI [.ref b, .int a1] s0 (f_X4_years b a1 s0) := CT.of (by decide +kernel) rfl (fun E => Nat.le_of_ble_eq_true rfl) (w_X4_years b a1 h s0)
set_option maxHeartbeats 4000000 in
set_option maxRecDepth 100000 in
theorem w_X4_seed {SH : SHT} (b : Nat) (a1 : Int32) (h : isModel SH b) (s0 : St) : VF mX4_seed 0 SH jI 0 [(0, .ref b), (1, .int a1)] [] s0 (f_X4_seed b a1 s0) := by
  unfold f_X4_seed
  refine v_aload_n dX4_seed_0 rfl rfl ?_
  refine v_getr dX4_seed_1 kf_X4_7 h.1 rfl ?_
  refine v_bipush (v := 6) dX4_seed_4 (by decide +kernel) ?_
  refine v_iald dX4_seed_6 h.2.1 (by decide +kernel) (j := 6) (by decide +kernel) ?_
  refine v_topi (fun x1 => ?_)
  refine v_istore_n (L' := [(2, .int x1), (0, .ref b), (1, .int a1)]) dX4_seed_7 rfl (by decide) rfl ?_
  refine v_aload_n dX4_seed_8 rfl rfl ?_
  refine v_getr dX4_seed_9 kf_X4_7 h.1 rfl ?_
  refine v_bipush (v := 6) dX4_seed_12 (by decide +kernel) ?_
  refine v_iload_n dX4_seed_14 rfl rfl ?_
  refine v_iast dX4_seed_15 h.2.1 (by decide +kernel) (j := 6) (by decide +kernel) (v_st fun s2 => ?_)
  refine v_iload_n dX4_seed_16 rfl rfl ?_
  exact v_ret (ty := .int) dX4_seed_17 rfl rfl rfl
theorem ct_X4_seed {SH : SHT} (b : Nat) (a1 : Int32) (h : isModel SH b) (s0 : St) : CT yX4_seed mX4_seed 0 SH jI [.ref b, .int a1] s0 (f_X4_seed b a1 s0) := CT.of (by decide +kernel) rfl (fun E => Nat.le_of_ble_eq_true rfl) (w_X4_seed b a1 h s0)
set_option maxHeartbeats 4000000 in
set_option maxRecDepth 100000 in
theorem w_X4_drawn {SH : SHT} (b : Nat) (h : isModel SH b) (s0 : St) : VF mX4_drawn 0 SH jI 0 [(0, .ref b)] [] s0 (f_X4_drawn b s0) := by
  unfold f_X4_drawn
  refine v_aload_n dX4_drawn_0 rfl rfl ?_
  refine v_getr dX4_drawn_1 kf_X4_7 h.1 rfl ?_
  refine v_bipush (v := 6) dX4_drawn_4 (by decide +kernel) ?_
  refine v_aload_n dX4_drawn_6 rfl rfl ?_
  refine v_getr dX4_drawn_7 kf_X4_7 h.1 rfl ?_
  refine v_bipush (v := 6) dX4_drawn_10 (by decide +kernel) ?_
  refine v_iald dX4_drawn_12 h.2.1 (by decide +kernel) (j := 6) (by decide +kernel) ?_
  refine v_ldc dX4_drawn_13 kcon_X4_154 ?_
  refine v_imul dX4_drawn_15 ?_
  refine v_sipush (v := 12345) dX4_drawn_16 (by decide +kernel) ?_
  refine v_iadd dX4_drawn_19 ?_
  refine v_iast dX4_drawn_20 h.2.1 (by decide +kernel) (j := 6) (by decide +kernel) (v_st fun s1 => ?_)
  refine v_aload_n dX4_drawn_21 rfl rfl ?_
  refine v_getr dX4_drawn_22 kf_X4_7 h.1 rfl ?_
  refine v_bipush (v := 6) dX4_drawn_25 (by decide +kernel) ?_
  refine v_iald dX4_drawn_27 h.2.1 (by decide +kernel) (j := 6) (by decide +kernel) ?_
  refine v_bipush (v := 16) dX4_drawn_28 (by decide +kernel) ?_
  refine v_iushr dX4_drawn_30 ?_
  exact v_ret (ty := .int) dX4_drawn_31 rfl rfl rfl
theorem ct_X4_drawn {SH : SHT} (b : Nat) (h : isModel SH b) (s0 : St) : CT yX4_drawn mX4_drawn 0 SH jI [.ref b] s0 (f_X4_drawn b s0) := CT.of (by decide +kernel) rfl (fun E => Nat.le_of_ble_eq_true rfl) (w_X4_drawn b h s0)
set_option maxHeartbeats 4000000 in
set_option maxRecDepth 100000 in
theorem w_X4_yearByDraws {SH : SHT} (b : Nat) (h : isModel SH b) (s0 : St) : VF mX4_yearByDraws 3 SH jV 0 [(0, .ref b)] [] s0 (f_X4_yearByDraws b s0) := by
  unfold f_X4_yearByDraws
  refine v_aload_n dX4_yearByDraws_0 rfl rfl ?_
  refine v_getr dX4_yearByDraws_1 kf_X4_7 h.1 rfl ?_
  refine v_iconst (v := 5) dX4_yearByDraws_4 (by decide +kernel) ?_
  refine v_iald dX4_yearByDraws_5 h.2.1 (by decide +kernel) (j := 5) (by decide +kernel) ?_
  refine v_bnK (fun K2 => ∀ (s1 : St), VF mX4_yearByDraws 3 SH jV 51 [(0, .ref b)] [] s1 (K2 s1)) (fun K2 hK2 => ?_) (fun s1 => ?_)
  · skip
    refine v_if_le (tgt := 51) dX4_yearByDraws_6 (by decide) (fun _ => ?_) (fun _ => ?_)
    · skip
      exact v_pick [0] rfl (hK2 _)
    refine v_aload_n dX4_yearByDraws_9 rfl rfl ?_
    refine v_cbI (fun z hz => runV (as := []) dX4_yearByDraws_10 kv_X4_155 rfl rfl (Nat.le_of_ble_eq_true rfl) (Nat.le_of_ble_eq_true rfl) (recvW h.1 rfl rfl) (ct_X4_drawn _ h _) hz) (fun x4 s3 => ?_)
    refine v_aload_n dX4_yearByDraws_13 rfl rfl ?_
    refine v_getr dX4_yearByDraws_14 kf_X4_7 h.1 rfl ?_
    refine v_iconst (v := 5) dX4_yearByDraws_17 (by decide +kernel) ?_
    refine v_iald dX4_yearByDraws_18 h.2.1 (by decide +kernel) (j := 5) (by decide +kernel) ?_
    refine v_irem dX4_yearByDraws_19 (fun _ => ?_)
    refine v_topi (fun x5 => ?_)
    refine v_istore_n (L' := [(1, .int x5), (0, .ref b)]) dX4_yearByDraws_20 rfl (by decide) rfl ?_
    refine v_aload_n dX4_yearByDraws_21 rfl rfl ?_
    refine v_cbI (fun z hz => runV (as := []) dX4_yearByDraws_22 kv_X4_155 rfl rfl (Nat.le_of_ble_eq_true rfl) (Nat.le_of_ble_eq_true rfl) (recvW h.1 rfl rfl) (ct_X4_drawn _ h _) hz) (fun x7 s6 => ?_)
    refine v_bipush (v := 100) dX4_yearByDraws_25 (by decide +kernel) ?_
    refine v_irem' dX4_yearByDraws_27 (by decide +kernel) ?_
    refine v_aload_n dX4_yearByDraws_28 rfl rfl ?_
    refine v_getr dX4_yearByDraws_29 kf_X4_7 h.1 rfl ?_
    refine v_iconst (v := 3) dX4_yearByDraws_32 (by decide +kernel) ?_
    refine v_iald dX4_yearByDraws_33 h.2.1 (by decide +kernel) (j := 3) (by decide +kernel) ?_
    refine v_icmp_ge (tgt := 51) dX4_yearByDraws_34 (by decide) (fun _ => ?_) (fun _ => ?_)
    · skip
      exact v_pick [1] rfl (hK2 _)
    refine v_aload_n dX4_yearByDraws_37 rfl rfl ?_
    refine v_iload_n dX4_yearByDraws_38 rfl rfl ?_
    refine v_iconst (v := 2) dX4_yearByDraws_39 (by decide +kernel) ?_
    refine v_aload_n dX4_yearByDraws_40 rfl rfl ?_
    refine v_iload_n dX4_yearByDraws_41 rfl rfl ?_
    refine v_iconst (v := 2) dX4_yearByDraws_42 (by decide +kernel) ?_
    refine v_cpI (fun z hz => runV (as := [.int x5, .int (2 : Int32)]) dX4_yearByDraws_43 kv_X4_67 rfl rfl (Nat.le_of_ble_eq_true rfl) (Nat.le_of_ble_eq_true rfl) (recvW h.1 rfl rfl) (ct_X4_get _ _ _ h _) hz) (fun x8 => ?_)
    refine v_iconst (v := 2) dX4_yearByDraws_46 (by decide +kernel) ?_
    refine v_idiv' dX4_yearByDraws_47 (by decide +kernel) ?_
    refine v_cw (fun z hz => runV (as := [.int x5, .int (2 : Int32), .int (x8 / (2 : Int32))]) dX4_yearByDraws_48 kv_X4_103 rfl rfl (Nat.le_of_ble_eq_true rfl) (Nat.le_of_ble_eq_true rfl) (recvW h.1 rfl rfl) (ct_X4_puts _ _ _ _ h _) hz) (fun s9 => ?_)
    exact v_pick [1] rfl (hK2 _)
  refine v_aload_n dX4_yearByDraws_51 rfl rfl ?_
  refine v_cw (fun z hz => runV (as := []) dX4_yearByDraws_52 kv_X4_107 rfl rfl (Nat.le_of_ble_eq_true rfl) (Nat.le_of_ble_eq_true rfl) (recvW h.1 rfl rfl) (ct_X4_yearGoes _ h _) hz) (fun s10 => ?_)
  exact v_vret dX4_yearByDraws_55 rfl rfl
theorem ct_X4_yearByDraws {SH : SHT} (b : Nat) (h : isModel SH b) (s0 : St) : CT yX4_yearByDraws mX4_yearByDraws 3 SH jV [.ref b] s0 (f_X4_yearByDraws b s0) := CT.of (by decide +kernel) rfl (fun E => Nat.le_of_ble_eq_true rfl) (w_X4_yearByDraws b h s0)
set_option maxHeartbeats 4000000 in
set_option maxRecDepth 100000 in
theorem w_X4_year {SH : SHT} (b : Nat) (h : isModel SH b) (s0 : St) : VF mX4_year 4 SH jI 0 [(0, .ref b)] [] s0 (f_X4_year b s0) := by
  unfold f_X4_year
  refine v_aload_n dX4_year_0 rfl rfl ?_
  refine v_cw (fun z hz => runV (as := []) dX4_year_1 kv_X4_159 rfl rfl (Nat.le_of_ble_eq_true rfl) (Nat.le_of_ble_eq_true rfl) (recvW h.1 rfl rfl) (ct_X4_yearByDraws _ h _) hz) (fun s1 => ?_)
  refine v_aload_n dX4_year_4 rfl rfl ?_
  refine v_cpI (fun z hz => runV (as := []) dX4_year_5 kv_X4_162 rfl rfl (Nat.le_of_ble_eq_true rfl) (Nat.le_of_ble_eq_true rfl) (recvW h.1 rfl rfl) (ct_X4_lost _ h _) hz) (fun x2 => ?_)
  refine v_cpI (fun z hz => runT (as := [.int x2]) dX4_year_8 kt_X4_165 rfl rfl (Nat.le_of_ble_eq_true rfl) (Nat.le_of_ble_eq_true rfl) (ct_X4_bits _  _) hz) (fun x3 => ?_)
  exact v_ret (ty := .int) dX4_year_11 rfl rfl rfl
theorem ct_X4_year {SH : SHT} (b : Nat) (h : isModel SH b) (s0 : St) : CT yX4_year mX4_year 4 SH jI [.ref b] s0 (f_X4_year b s0) := CT.of (by decide +kernel) rfl (fun E => Nat.le_of_ble_eq_true rfl) (w_X4_year b h s0)
set_option maxHeartbeats 4000000 in
set_option maxRecDepth 100000 in
theorem wB_X4_revel_31 {SH : SHT} (b : Nat) (a1 : Int32) (x4 : Int32) (h : isModel SH b) (rec : Int32 → Int32 → St → Option (Int32 × St)) (hrec : ∀ (c5 : Int32) (c6 : Int32) (s7 : St), VF mX4_revel 4 SH jI 31 [(0, .ref b), (1, .int a1), (2, .int x4), (3, .int c5), (4, .int c6)] [] s7 (rec c5 c6 s7)) (K : Int32 → St → Option (Int32 × St)) (hK : ∀ (e8 : Int32) (s9 : St), VF mX4_revel 4 SH jI 88 [(0, .ref b), (3, .int e8)] [] s9 (K e8 s9)) (c5 : Int32) (c6 : Int32) (s7 : St) : VF mX4_revel 4 SH jI 31 [(0, .ref b), (1, .int a1), (2, .int x4), (3, .int c5), (4, .int c6)] [] s7 (B_X4_revel_31 rec b a1 x4 K c5 c6 s7) := by
  unfold B_X4_revel_31
  refine v_iload dX4_revel_31 rfl ?_
  refine v_iload_n dX4_revel_33 rfl rfl ?_
  refine v_icmp_ge (tgt := 88) dX4_revel_34 (by decide) (fun _ => ?_) (fun _ => ?_)
  · skip
    exact v_pick [0, 3] rfl (hK _ _)
  refine v_aload_n dX4_revel_37 rfl rfl ?_
  refine v_cw (fun z hz => runV (as := []) dX4_revel_38 kv_X4_159 rfl rfl (Nat.le_of_ble_eq_true rfl) (Nat.le_of_ble_eq_true rfl) (recvW h.1 rfl rfl) (ct_X4_yearByDraws _ h _) hz) (fun s10 => ?_)
  refine v_iload_n dX4_revel_41 rfl rfl ?_
  refine v_aload_n dX4_revel_42 rfl rfl ?_
  refine v_cpI (fun z hz => runV (as := []) dX4_revel_43 kv_X4_162 rfl rfl (Nat.le_of_ble_eq_true rfl) (Nat.le_of_ble_eq_true rfl) (recvW h.1 rfl rfl) (ct_X4_lost _ h _) hz) (fun x11 => ?_)
  refine v_cpI (fun z hz => runT (as := [.int x11]) dX4_revel_46 kt_X4_165 rfl rfl (Nat.le_of_ble_eq_true rfl) (Nat.le_of_ble_eq_true rfl) (ct_X4_bits _  _) hz) (fun x12 => ?_)
  refine v_iload_n dX4_revel_49 rfl rfl ?_
  refine v_bnK (fun K14 => ∀ (t13 : Int32), VF mX4_revel 4 SH jI 58 [(0, .ref b), (1, .int a1), (2, .int x4), (4, .int c6)] [.int t13, .int c5] s10 (K14 t13)) (fun K14 hK14 => ?_) (fun t13 => ?_)
  · skip
    refine v_icmp_le (tgt := 57) dX4_revel_50 (by decide) (fun _ => ?_) (fun _ => ?_)
    · skip
      refine v_iconst (v := 0) dX4_revel_57 (by decide +kernel) ?_
      exact v_pick [0, 1, 2, 4] rfl (hK14 _)
    refine v_iconst (v := 1) dX4_revel_53 (by decide +kernel) ?_
    refine v_goto (tgt := 58) dX4_revel_54 (by decide) ?_
    exact v_pick [0, 1, 2, 4] rfl (hK14 _)
  refine v_iadd dX4_revel_58 ?_
  refine v_topi (fun x15 => ?_)
  refine v_istore_n (L' := [(3, .int x15), (0, .ref b), (1, .int a1), (2, .int x4), (4, .int c6)]) dX4_revel_59 rfl (by decide) rfl ?_
  refine v_aload_n dX4_revel_60 rfl rfl ?_
  refine v_getr dX4_revel_61 kf_X4_7 h.1 rfl ?_
  refine v_bipush (v := 6) dX4_revel_64 (by decide +kernel) ?_
  refine v_iald dX4_revel_66 h.2.1 (by decide +kernel) (j := 6) (by decide +kernel) ?_
  refine v_topi (fun x16 => ?_)
  refine v_istore (L' := [(5, .int x16), (3, .int x15), (0, .ref b), (1, .int a1), (2, .int x4), (4, .int c6)]) dX4_revel_67 (by decide) rfl ?_
  refine v_aload_n dX4_revel_69 rfl rfl ?_
  refine v_cw (fun z hz => runV (as := []) dX4_revel_70 kv_X4_173 rfl rfl (Nat.le_of_ble_eq_true rfl) (Nat.le_of_ble_eq_true rfl) (recvW h.1 rfl rfl) (ct_X4_putBack _ h _) hz) (fun s17 => ?_)
  refine v_aload_n dX4_revel_73 rfl rfl ?_
  refine v_getr dX4_revel_74 kf_X4_7 h.1 rfl ?_
  refine v_bipush (v := 6) dX4_revel_77 (by decide +kernel) ?_
  refine v_iload dX4_revel_79 rfl ?_
  refine v_iast dX4_revel_81 h.2.1 (by decide +kernel) (j := 6) (by decide +kernel) (v_st fun s18 => ?_)
  refine v_iinc (v := (c6 + (1 : Int32))) (L' := [(4, .int (c6 + (1 : Int32))), (5, .int x16), (3, .int x15), (0, .ref b), (1, .int a1), (2, .int x4)]) dX4_revel_82 rfl rfl (by decide) rfl ?_
  refine v_goto (tgt := 31) dX4_revel_85 (by decide) ?_
  exact v_pick [3, 4, 5, 2, 0] rfl (hrec _ _ _)
theorem wL_X4_revel_31 {SH : SHT} (b : Nat) (a1 : Int32) (x4 : Int32) (h : isModel SH b) (K : Int32 → St → Option (Int32 × St)) (hK : ∀ (e8 : Int32) (s9 : St), VF mX4_revel 4 SH jI 88 [(0, .ref b), (3, .int e8)] [] s9 (K e8 s9)) : ∀ (n : Nat) (c5 : Int32) (c6 : Int32) (s7 : St), VF mX4_revel 4 SH jI 31 [(0, .ref b), (1, .int a1), (2, .int x4), (3, .int c5), (4, .int c6)] [] s7 (L_X4_revel_31 b a1 x4 K n c5 c6 s7) := by
  intro n
  induction n with
  | zero => intros; exact v_none
  | succ n ih => intro c5 c6 s7; exact wB_X4_revel_31 b a1 x4 h _ ih K hK c5 c6 s7
set_option maxHeartbeats 4000000 in
set_option maxRecDepth 100000 in
theorem w_X4_revel {SH : SHT} (b : Nat) (a1 : Int32) (h : isModel SH b) (s0 : St) : VF mX4_revel 4 SH jI 0 [(0, .ref b), (1, .int a1)] [] s0 (f_X4_revel b a1 s0) := by
  unfold f_X4_revel
  refine v_iload_n dX4_revel_0 rfl rfl ?_
  refine v_i2l dX4_revel_1 ?_
  refine v_lconst (v := 1) dX4_revel_2 (by decide +kernel) ?_
  refine v_ldc2 dX4_revel_3 kcL_X4_168 ?_
  refine v_cpI (fun z hz => runT (as := [.long (a1).toInt64, .long (1 : Int64), .long (30 : Int64)]) dX4_revel_6 kt_X4_61 rfl rfl (Nat.le_of_ble_eq_true rfl) (Nat.le_of_ble_eq_true rfl) (ct_X4_in _ _ _  _) hz) (fun x1 => ?_)
  refine v_if_ne (tgt := 14) dX4_revel_9 (by decide) (fun _ => ?_) (fun _ => ?_)
  · skip
    refine v_aload_n dX4_revel_14 rfl rfl ?_
    refine v_cw (fun z hz => runV (as := []) dX4_revel_15 kv_X4_170 rfl rfl (Nat.le_of_ble_eq_true rfl) (Nat.le_of_ble_eq_true rfl) (recvW h.1 rfl rfl) (ct_X4_keepAside _ h _) hz) (fun s2 => ?_)
    refine v_aload_n dX4_revel_18 rfl rfl ?_
    refine v_cpI (fun z hz => runV (as := []) dX4_revel_19 kv_X4_162 rfl rfl (Nat.le_of_ble_eq_true rfl) (Nat.le_of_ble_eq_true rfl) (recvW h.1 rfl rfl) (ct_X4_lost _ h _) hz) (fun x3 => ?_)
    refine v_cpI (fun z hz => runT (as := [.int x3]) dX4_revel_22 kt_X4_165 rfl rfl (Nat.le_of_ble_eq_true rfl) (Nat.le_of_ble_eq_true rfl) (ct_X4_bits _  _) hz) (fun x4 => ?_)
    refine v_istore_n (L' := [(2, .int x4), (0, .ref b), (1, .int a1)]) dX4_revel_25 rfl (by decide) rfl ?_
    refine v_iconst (v := 0) dX4_revel_26 (by decide +kernel) ?_
    refine v_istore_n (L' := [(3, .int (0 : Int32)), (2, .int x4), (0, .ref b), (1, .int a1)]) dX4_revel_27 rfl (by decide) rfl ?_
    refine v_iconst (v := 0) dX4_revel_28 (by decide +kernel) ?_
    refine v_istore (L' := [(4, .int (0 : Int32)), (3, .int (0 : Int32)), (2, .int x4), (0, .ref b), (1, .int a1)]) dX4_revel_29 (by decide) rfl ?_
    refine v_pick [3, 4, 2, 1, 0] rfl (wL_X4_revel_31 b a1 x4 h _ (fun e8 s9 => ?_) FU _ _ _)
    refine v_aload_n dX4_revel_88 rfl rfl ?_
    refine v_cw (fun z hz => runV (as := []) dX4_revel_89 kv_X4_173 rfl rfl (Nat.le_of_ble_eq_true rfl) (Nat.le_of_ble_eq_true rfl) (recvW h.1 rfl rfl) (ct_X4_putBack _ h _) hz) (fun s19 => ?_)
    refine v_iload_n dX4_revel_92 rfl rfl ?_
    exact v_ret (ty := .int) dX4_revel_93 rfl rfl rfl
  refine v_iconst (v := -1) dX4_revel_12 (by decide +kernel) ?_
  exact v_ret (ty := .int) dX4_revel_13 rfl rfl rfl
theorem ct_X4_revel {SH : SHT} (b : Nat) (a1 : Int32) (h : isModel SH b) (s0 : St) : CT yX4_revel mX4_revel 4 SH jI [.ref b, .int a1] s0 (f_X4_revel b a1 s0) := CT.of (by decide +kernel) rfl (fun E => Nat.le_of_ble_eq_true rfl) (w_X4_revel b a1 h s0)
set_option maxHeartbeats 4000000 in
set_option maxRecDepth 100000 in
theorem wB_X4_state_45 {SH : SHT} (b : Nat) (s0 : St) (h : isModel SH b) (rec : Int32 → Int32 → Option Int32) (hrec : ∀ (c1 : Int32) (c2 : Int32), VF mX4_state 3 SH (jP s0) 45 [(0, .ref b), (2, .int c1), (3, .int c2)] [] s0 (rec c1 c2)) (K : Int32 → Option Int32) (hK : ∀ (e3 : Int32), VF mX4_state 3 SH (jP s0) 69 [(2, .int e3)] [] s0 (K e3)) (c1 : Int32) (c2 : Int32) : VF mX4_state 3 SH (jP s0) 45 [(0, .ref b), (2, .int c1), (3, .int c2)] [] s0 (B_X4_state_45 rec b s0 K c1 c2) := by
  unfold B_X4_state_45
  refine v_iload_n dX4_state_45 rfl rfl ?_
  refine v_bipush (v := 32) dX4_state_46 (by decide +kernel) ?_
  refine v_icmp_ge (tgt := 69) dX4_state_48 (by decide) (fun _ => ?_) (fun _ => ?_)
  · skip
    exact v_pick [1] rfl (hK _)
  refine v_iload_n dX4_state_51 rfl rfl ?_
  refine v_aload_n dX4_state_52 rfl rfl ?_
  refine v_getr dX4_state_53 kf_X4_7 h.1 rfl ?_
  refine v_bipush (v := 39) dX4_state_56 (by decide +kernel) ?_
  refine v_iload_n dX4_state_58 rfl rfl ?_
  refine v_iadd dX4_state_59 ?_
  refine v_gd (fun g4 => ?_)
  refine v_iald dX4_state_60 h.2.1 g4 rfl ?_
  refine v_iadd dX4_state_61 ?_
  refine v_topi (fun x5 => ?_)
  refine v_istore_n (L' := [(2, .int x5), (0, .ref b), (3, .int c2)]) dX4_state_62 rfl (by decide) rfl ?_
  refine v_iinc (v := (c2 + (1 : Int32))) (L' := [(3, .int (c2 + (1 : Int32))), (2, .int x5), (0, .ref b)]) dX4_state_63 rfl rfl (by decide) rfl ?_
  refine v_goto (tgt := 45) dX4_state_66 (by decide) ?_
  exact v_pick [2, 1, 0] rfl (hrec _ _)
theorem wL_X4_state_45 {SH : SHT} (b : Nat) (s0 : St) (h : isModel SH b) (K : Int32 → Option Int32) (hK : ∀ (e3 : Int32), VF mX4_state 3 SH (jP s0) 69 [(2, .int e3)] [] s0 (K e3)) : ∀ (n : Nat) (c1 : Int32) (c2 : Int32), VF mX4_state 3 SH (jP s0) 45 [(0, .ref b), (2, .int c1), (3, .int c2)] [] s0 (L_X4_state_45 b s0 K n c1 c2) := by
  intro n
  induction n with
  | zero => intros; exact v_none
  | succ n ih => intro c1 c2; exact wB_X4_state_45 b s0 h _ ih K hK c1 c2
set_option maxHeartbeats 4000000 in
set_option maxRecDepth 100000 in
theorem wB_X4_state_78 {SH : SHT} (b : Nat) (s0 : St) (h : isModel SH b) (rec : Int32 → Int32 → Option Int32) (hrec : ∀ (c7 : Int32) (c8 : Int32), VF mX4_state 3 SH (jP s0) 78 [(0, .ref b), (2, .int c7), (3, .int c8)] [] s0 (rec c7 c8)) (K : Int32 → Option Int32) (hK : ∀ (e9 : Int32), VF mX4_state 3 SH (jP s0) 103 [(2, .int e9)] [] s0 (K e9)) (c7 : Int32) (c8 : Int32) : VF mX4_state 3 SH (jP s0) 78 [(0, .ref b), (2, .int c7), (3, .int c8)] [] s0 (B_X4_state_78 rec b s0 K c7 c8) := by
  unfold B_X4_state_78
  refine v_iload_n dX4_state_78 rfl rfl ?_
  refine v_aload_n dX4_state_79 rfl rfl ?_
  refine v_getr dX4_state_80 kf_X4_7 h.1 rfl ?_
  refine v_iconst (v := 5) dX4_state_83 (by decide +kernel) ?_
  refine v_iald dX4_state_84 h.2.1 (by decide +kernel) (j := 5) (by decide +kernel) ?_
  refine v_icmp_ge (tgt := 103) dX4_state_85 (by decide) (fun _ => ?_) (fun _ => ?_)
  · skip
    exact v_pick [1] rfl (hK _)
  refine v_iload_n dX4_state_88 rfl rfl ?_
  refine v_aload_n dX4_state_89 rfl rfl ?_
  refine v_iload_n dX4_state_90 rfl rfl ?_
  refine v_iconst (v := 2) dX4_state_91 (by decide +kernel) ?_
  refine v_cpI (fun z hz => runV (as := [.int c8, .int (2 : Int32)]) dX4_state_92 kv_X4_67 rfl rfl (Nat.le_of_ble_eq_true rfl) (Nat.le_of_ble_eq_true rfl) (recvW h.1 rfl rfl) (ct_X4_get _ _ _ h _) hz) (fun x10 => ?_)
  refine v_iadd dX4_state_95 ?_
  refine v_topi (fun x11 => ?_)
  refine v_istore_n (L' := [(2, .int x11), (0, .ref b), (3, .int c8)]) dX4_state_96 rfl (by decide) rfl ?_
  refine v_iinc (v := (c8 + (1 : Int32))) (L' := [(3, .int (c8 + (1 : Int32))), (2, .int x11), (0, .ref b)]) dX4_state_97 rfl rfl (by decide) rfl ?_
  refine v_goto (tgt := 78) dX4_state_100 (by decide) ?_
  exact v_pick [2, 1, 0] rfl (hrec _ _)
theorem wL_X4_state_78 {SH : SHT} (b : Nat) (s0 : St) (h : isModel SH b) (K : Int32 → Option Int32) (hK : ∀ (e9 : Int32), VF mX4_state 3 SH (jP s0) 103 [(2, .int e9)] [] s0 (K e9)) : ∀ (n : Nat) (c7 : Int32) (c8 : Int32), VF mX4_state 3 SH (jP s0) 78 [(0, .ref b), (2, .int c7), (3, .int c8)] [] s0 (L_X4_state_78 b s0 K n c7 c8) := by
  intro n
  induction n with
  | zero => intros; exact v_none
  | succ n ih => intro c7 c8; exact wB_X4_state_78 b s0 h _ ih K hK c7 c8
set_option maxHeartbeats 4000000 in
set_option maxRecDepth 100000 in
theorem w_X4_state {SH : SHT} (b : Nat) (a1 : Int32) (h : isModel SH b) (s0 : St) : VF mX4_state 3 SH (jP s0) 0 [(0, .ref b), (1, .int a1)] [] s0 (f_X4_state b a1 s0) := by
  unfold f_X4_state
  refine v_iconst (v := 0) dX4_state_0 (by decide +kernel) ?_
  refine v_istore_n (L' := [(2, .int (0 : Int32)), (0, .ref b), (1, .int a1)]) dX4_state_1 rfl (by decide) rfl ?_
  refine v_iload_n dX4_state_2 rfl rfl ?_
  refine v_tsw (cs := [(0, 36), (1, 43), (2, 71), (3, 76), (4, 105)]) (dt := 112) dX4_state_3 (by decide +kernel) (by decide) (by decide +kernel) ?_
  refine v_swc (fun _ => ?_) (fun _ => ?_)
  · skip
    refine v_aload_n dX4_state_36 rfl rfl ?_
    refine v_getr dX4_state_37 kf_X4_7 h.1 rfl ?_
    refine v_iconst (v := 4) dX4_state_40 (by decide +kernel) ?_
    refine v_iald dX4_state_41 h.2.1 (by decide +kernel) (j := 4) (by decide +kernel) ?_
    exact v_ret (ty := .int) dX4_state_42 rfl rfl rfl
  refine v_swc (fun _ => ?_) (fun _ => ?_)
  · skip
    refine v_iconst (v := 0) dX4_state_43 (by decide +kernel) ?_
    refine v_istore_n (L' := [(3, .int (0 : Int32)), (2, .int (0 : Int32)), (0, .ref b), (1, .int a1)]) dX4_state_44 rfl (by decide) rfl ?_
    refine v_pick [2, 1, 0] rfl (wL_X4_state_45 b s0 h _ (fun e3 => ?_) FU _ _)
    refine v_iload_n dX4_state_69 rfl rfl ?_
    exact v_ret (ty := .int) dX4_state_70 rfl rfl rfl
  refine v_swc (fun _ => ?_) (fun _ => ?_)
  · skip
    refine v_aload_n dX4_state_71 rfl rfl ?_
    refine v_cpI (fun z hz => runV (as := []) dX4_state_72 kv_X4_162 rfl rfl (Nat.le_of_ble_eq_true rfl) (Nat.le_of_ble_eq_true rfl) (recvW h.1 rfl rfl) (ct_X4_lost _ h _) hz) (fun x6 => ?_)
    exact v_ret (ty := .int) dX4_state_75 rfl rfl rfl
  refine v_swc (fun _ => ?_) (fun _ => ?_)
  · skip
    refine v_iconst (v := 0) dX4_state_76 (by decide +kernel) ?_
    refine v_istore_n (L' := [(3, .int (0 : Int32)), (2, .int (0 : Int32)), (0, .ref b), (1, .int a1)]) dX4_state_77 rfl (by decide) rfl ?_
    refine v_pick [2, 1, 0] rfl (wL_X4_state_78 b s0 h _ (fun e9 => ?_) FU _ _)
    refine v_iload_n dX4_state_103 rfl rfl ?_
    exact v_ret (ty := .int) dX4_state_104 rfl rfl rfl
  refine v_swc (fun _ => ?_) (fun _ => ?_)
  · skip
    refine v_aload_n dX4_state_105 rfl rfl ?_
    refine v_iconst (v := -1) dX4_state_106 (by decide +kernel) ?_
    refine v_iconst (v := 2) dX4_state_107 (by decide +kernel) ?_
    refine v_cpI (fun z hz => runV (as := [.int (-1 : Int32), .int (2 : Int32)]) dX4_state_108 kv_X4_135 rfl rfl (Nat.le_of_ble_eq_true rfl) (Nat.le_of_ble_eq_true rfl) (recvW h.1 rfl rfl) (ct_X4_atCell _ _ _ h _) hz) (fun x12 => ?_)
    exact v_ret (ty := .int) dX4_state_111 rfl rfl rfl
  refine v_swn ?_
  refine v_iconst (v := -1) dX4_state_112 (by decide +kernel) ?_
  exact v_ret (ty := .int) dX4_state_113 rfl rfl rfl
theorem ct_X4_state {SH : SHT} (b : Nat) (a1 : Int32) (h : isModel SH b) (s0 : St) : CT yX4_state mX4_state 3 SH (jP s0) [.ref b, .int a1] s0 (f_X4_state b a1 s0) := CT.of (by decide +kernel) rfl (fun E => Nat.le_of_ble_eq_true rfl) (w_X4_state b a1 h s0)
