set_option maxHeartbeats 4000000 in
set_option maxRecDepth 100000 in
theorem wB_X1_raise_9 {SH : SHT} (b : Nat) (h : isMoor SH b) (rec : Int32 → St → Option St) (hrec : ∀ (c3 : Int32) (s4 : St), VF mX1_raise 2 SH jV 9 [(0, .ref b), (3, .int c3)] [] s4 (rec c3 s4)) (K : St → Option St) (hK : ∀ (s5 : St), VF mX1_raise 2 SH jV 32 [] [] s5 (K s5)) (c3 : Int32) (s4 : St) : VF mX1_raise 2 SH jV 9 [(0, .ref b), (3, .int c3)] [] s4 (B_X1_raise_9 rec b K c3 s4) := by
  unfold B_X1_raise_9
  refine v_iload_n dX1_raise_9 rfl rfl ?_
  refine v_bipush (v := 32) dX1_raise_10 (by decide +kernel) ?_
  refine v_icmp_ge (tgt := 32) dX1_raise_12 (by decide) (fun _ => ?_) (fun _ => ?_)
  · skip
    exact v_pick [] rfl (hK _)
  refine v_aload_n dX1_raise_15 rfl rfl ?_
  refine v_getr dX1_raise_16 kf_X1_21 h.1 rfl ?_
  refine v_iload_n dX1_raise_19 rfl rfl ?_
  refine v_aload_n dX1_raise_20 rfl rfl ?_
  refine v_iload_n dX1_raise_21 rfl rfl ?_
  refine v_cpI (fun z hz => runV (as := [.int c3]) dX1_raise_22 kv_X1_61 rfl rfl (Nat.le_of_ble_eq_true rfl) (Nat.le_of_ble_eq_true rfl) (recvW h.1 rfl rfl) (ct_X1_lowestBeside _ _ h _) hz) (fun x6 => ?_)
  refine v_gd (fun g7 => ?_)
  refine v_iast dX1_raise_25 h.2.2.2.2.1 g7 rfl (v_st fun s8 => ?_)
  refine v_iinc (v := (c3 + (1 : Int32))) (L' := [(3, .int (c3 + (1 : Int32))), (0, .ref b)]) dX1_raise_26 rfl rfl (by decide) rfl ?_
  refine v_goto (tgt := 9) dX1_raise_29 (by decide) ?_
  exact v_pick [1, 0] rfl (hrec _ _)
theorem wL_X1_raise_9 {SH : SHT} (b : Nat) (h : isMoor SH b) (K : St → Option St) (hK : ∀ (s5 : St), VF mX1_raise 2 SH jV 32 [] [] s5 (K s5)) : ∀ (n : Nat) (c3 : Int32) (s4 : St), VF mX1_raise 2 SH jV 9 [(0, .ref b), (3, .int c3)] [] s4 (L_X1_raise_9 b K n c3 s4) := by
  intro n
  induction n with
  | zero => intros; exact v_none
  | succ n ih => intro c3 s4; exact wB_X1_raise_9 b h _ ih K hK c3 s4
set_option maxHeartbeats 4000000 in
set_option maxRecDepth 100000 in
theorem w_X1_raise {SH : SHT} (b : Nat) (a1 : Int32) (a2 : Int32) (h : isMoor SH b) (s0 : St) : VF mX1_raise 2 SH jV 0 [(0, .ref b), (1, .int a1), (2, .int a2)] [] s0 (f_X1_raise b a1 a2 s0) := by
  unfold f_X1_raise
  refine v_aload_n dX1_raise_0 rfl rfl ?_
  refine v_getr dX1_raise_1 kf_X1_15 h.1 rfl ?_
  refine v_iload_n dX1_raise_4 rfl rfl ?_
  refine v_iload_n dX1_raise_5 rfl rfl ?_
  refine v_gd (fun g1 => ?_)
  refine v_iast dX1_raise_6 h.2.2.1 g1 rfl (v_st fun s2 => ?_)
  refine v_iconst (v := 0) dX1_raise_7 (by decide +kernel) ?_
  refine v_istore_n (L' := [(3, .int (0 : Int32)), (0, .ref b), (1, .int a1), (2, .int a2)]) dX1_raise_8 rfl (by decide) rfl ?_
  refine v_pick [1, 0] rfl (wL_X1_raise_9 b h _ (fun s5 => ?_) FU _ _)
  exact v_vret dX1_raise_32 rfl rfl
theorem ct_X1_raise {SH : SHT} (b : Nat) (a1 : Int32) (a2 : Int32) (h : isMoor SH b) (s0 : St) : CT yX1_raise mX1_raise 2 SH jV [.ref b, .int a1, .int a2] s0 (f_X1_raise b a1 a2 s0) := CT.of (by decide +kernel) rfl (fun E => Nat.le_of_ble_eq_true rfl) (w_X1_raise b a1 a2 h s0)
set_option maxHeartbeats 4000000 in
set_option maxRecDepth 100000 in
theorem w_X1_isWet {SH : SHT} (b : Nat) (a1 : Int32) (h : isMoor SH b) (s0 : St) : VF mX1_isWet 0 SH (jP s0) 0 [(0, .ref b), (1, .int a1)] [] s0 (f_X1_isWet b a1 s0) := by
  unfold f_X1_isWet
  refine v_aload_n dX1_isWet_0 rfl rfl ?_
  refine v_getr dX1_isWet_1 kf_X1_18 h.1 rfl ?_
  refine v_iload_n dX1_isWet_4 rfl rfl ?_
  refine v_gd (fun g1 => ?_)
  refine v_iald dX1_isWet_5 h.2.2.2.1 g1 rfl ?_
  refine v_bipush (v := 10) dX1_isWet_6 (by decide +kernel) ?_
  refine v_icmp_lt (tgt := 15) dX1_isWet_8 (by decide) (fun _ => ?_) (fun _ => ?_)
  · skip
    refine v_iconst (v := 0) dX1_isWet_15 (by decide +kernel) ?_
    exact v_ret (ty := .boolean) dX1_isWet_16 rfl rfl (by decide +kernel)
  refine v_iconst (v := 1) dX1_isWet_11 (by decide +kernel) ?_
  refine v_goto (tgt := 16) dX1_isWet_12 (by decide) ?_
  exact v_ret (ty := .boolean) dX1_isWet_16 rfl rfl (by decide +kernel)
theorem ct_X1_isWet {SH : SHT} (b : Nat) (a1 : Int32) (h : isMoor SH b) (s0 : St) : CT yX1_isWet mX1_isWet 0 SH (jP s0) [.ref b, .int a1] s0 (f_X1_isWet b a1 s0) := CT.of (by decide +kernel) rfl (fun E => Nat.le_of_ble_eq_true rfl) (w_X1_isWet b a1 h s0)
set_option maxHeartbeats 4000000 in
set_option maxRecDepth 100000 in
theorem w_X1_isLost {SH : SHT} (b : Nat) (a1 : Int32) (h : isMoor SH b) (s0 : St) : VF mX1_isLost 0 SH (jP s0) 0 [(0, .ref b), (1, .int a1)] [] s0 (f_X1_isLost b a1 s0) := by
  unfold f_X1_isLost
  refine v_aload_n dX1_isLost_0 rfl rfl ?_
  refine v_getr dX1_isLost_1 kf_X1_30 h.1 rfl ?_
  refine v_iload_n dX1_isLost_4 rfl rfl ?_
  refine v_gd (fun g1 => ?_)
  refine v_iald dX1_isLost_5 h.2.2.2.2.2.2.2.1 g1 rfl ?_
  refine v_if_ne (tgt := 13) dX1_isLost_6 (by decide) (fun _ => ?_) (fun _ => ?_)
  · skip
    refine v_iconst (v := 0) dX1_isLost_13 (by decide +kernel) ?_
    exact v_ret (ty := .boolean) dX1_isLost_14 rfl rfl (by decide +kernel)
  refine v_iconst (v := 1) dX1_isLost_9 (by decide +kernel) ?_
  refine v_goto (tgt := 14) dX1_isLost_10 (by decide) ?_
  exact v_ret (ty := .boolean) dX1_isLost_14 rfl rfl (by decide +kernel)
theorem ct_X1_isLost {SH : SHT} (b : Nat) (a1 : Int32) (h : isMoor SH b) (s0 : St) : CT yX1_isLost mX1_isLost 0 SH (jP s0) [.ref b, .int a1] s0 (f_X1_isLost b a1 s0) := CT.of (by decide +kernel) rfl (fun E => Nat.le_of_ble_eq_true rfl) (w_X1_isLost b a1 h s0)
set_option maxHeartbeats 4000000 in
set_option maxRecDepth 100000 in
theorem w_X1_isIdle {SH : SHT} (b : Nat) (a1 : Int32) (h : isMoor SH b) (s0 : St) : VF mX1_isIdle 0 SH (jP s0) 0 [(0, .ref b), (1, .int a1)] [] s0 (f_X1_isIdle b a1 s0) := by
  unfold f_X1_isIdle
  refine v_aload_n dX1_isIdle_0 rfl rfl ?_
  refine v_geti dX1_isIdle_1 kf_X1_52 h.1 rfl ?_
  refine v_iload_n dX1_isIdle_4 rfl rfl ?_
  refine v_ishr dX1_isIdle_5 ?_
  refine v_iconst (v := 1) dX1_isIdle_6 (by decide +kernel) ?_
  refine v_iand dX1_isIdle_7 ?_
  refine v_if_eq (tgt := 15) dX1_isIdle_8 (by decide) (fun _ => ?_) (fun _ => ?_)
  · skip
    refine v_iconst (v := 0) dX1_isIdle_15 (by decide +kernel) ?_
    exact v_ret (ty := .boolean) dX1_isIdle_16 rfl rfl (by decide +kernel)
  refine v_iconst (v := 1) dX1_isIdle_11 (by decide +kernel) ?_
  refine v_goto (tgt := 16) dX1_isIdle_12 (by decide) ?_
  exact v_ret (ty := .boolean) dX1_isIdle_16 rfl rfl (by decide +kernel)
theorem ct_X1_isIdle {SH : SHT} (b : Nat) (a1 : Int32) (h : isMoor SH b) (s0 : St) : CT yX1_isIdle mX1_isIdle 0 SH (jP s0) [.ref b, .int a1] s0 (f_X1_isIdle b a1 s0) := CT.of (by decide +kernel) rfl (fun E => Nat.le_of_ble_eq_true rfl) (w_X1_isIdle b a1 h s0)
set_option maxHeartbeats 4000000 in
set_option maxRecDepth 100000 in
theorem w_X1_disagree {SH : SHT} (b : Nat) (a1 : Int32) (a2 : Int32) (h : isMoor SH b) (s0 : St) : VF mX1_disagree 1 SH (jP s0) 0 [(0, .ref b), (1, .int a1), (2, .int a2)] [] s0 (f_X1_disagree b a1 a2 s0) := by
  unfold f_X1_disagree
  refine v_aload_n dX1_disagree_0 rfl rfl ?_
  refine v_getr dX1_disagree_1 kf_X1_33 h.1 rfl ?_
  refine v_iload_n dX1_disagree_4 rfl rfl ?_
  refine v_gd (fun g1 => ?_)
  refine v_iald dX1_disagree_5 h.2.2.2.2.2.2.2.2 g1 rfl ?_
  refine v_aload_n dX1_disagree_6 rfl rfl ?_
  refine v_getr dX1_disagree_7 kf_X1_33 h.1 rfl ?_
  refine v_iload_n dX1_disagree_10 rfl rfl ?_
  refine v_gd (fun g2 => ?_)
  refine v_iald dX1_disagree_11 h.2.2.2.2.2.2.2.2 g2 rfl ?_
  refine v_icmp_ne (tgt := 72) dX1_disagree_12 (by decide) (fun _ => ?_) (fun _ => ?_)
  · skip
    refine v_iconst (v := 0) dX1_disagree_72 (by decide +kernel) ?_
    exact v_ret (ty := .boolean) dX1_disagree_73 rfl rfl (by decide +kernel)
  refine v_aload_n dX1_disagree_15 rfl rfl ?_
  refine v_iload_n dX1_disagree_16 rfl rfl ?_
  refine v_cpI (fun z hz => runV (as := [.int a1]) dX1_disagree_17 kv_X1_69 rfl rfl (Nat.le_of_ble_eq_true rfl) (Nat.le_of_ble_eq_true rfl) (recvW h.1 rfl rfl) (ct_X1_isLost _ _ h _) hz) (fun x3 => ?_)
  refine v_if_ne (tgt := 72) dX1_disagree_20 (by decide) (fun _ => ?_) (fun _ => ?_)
  · skip
    refine v_iconst (v := 0) dX1_disagree_72 (by decide +kernel) ?_
    exact v_ret (ty := .boolean) dX1_disagree_73 rfl rfl (by decide +kernel)
  refine v_aload_n dX1_disagree_23 rfl rfl ?_
  refine v_iload_n dX1_disagree_24 rfl rfl ?_
  refine v_cpI (fun z hz => runV (as := [.int a2]) dX1_disagree_25 kv_X1_69 rfl rfl (Nat.le_of_ble_eq_true rfl) (Nat.le_of_ble_eq_true rfl) (recvW h.1 rfl rfl) (ct_X1_isLost _ _ h _) hz) (fun x4 => ?_)
  refine v_if_ne (tgt := 72) dX1_disagree_28 (by decide) (fun _ => ?_) (fun _ => ?_)
  · skip
    refine v_iconst (v := 0) dX1_disagree_72 (by decide +kernel) ?_
    exact v_ret (ty := .boolean) dX1_disagree_73 rfl rfl (by decide +kernel)
  refine v_aload_n dX1_disagree_31 rfl rfl ?_
  refine v_iload_n dX1_disagree_32 rfl rfl ?_
  refine v_cpI (fun z hz => runV (as := [.int a1]) dX1_disagree_33 kv_X1_73 rfl rfl (Nat.le_of_ble_eq_true rfl) (Nat.le_of_ble_eq_true rfl) (recvW h.1 rfl rfl) (ct_X1_isIdle _ _ h _) hz) (fun x5 => ?_)
  refine v_if_ne (tgt := 72) dX1_disagree_36 (by decide) (fun _ => ?_) (fun _ => ?_)
  · skip
    refine v_iconst (v := 0) dX1_disagree_72 (by decide +kernel) ?_
    exact v_ret (ty := .boolean) dX1_disagree_73 rfl rfl (by decide +kernel)
  refine v_aload_n dX1_disagree_39 rfl rfl ?_
  refine v_iload_n dX1_disagree_40 rfl rfl ?_
  refine v_cpI (fun z hz => runV (as := [.int a2]) dX1_disagree_41 kv_X1_73 rfl rfl (Nat.le_of_ble_eq_true rfl) (Nat.le_of_ble_eq_true rfl) (recvW h.1 rfl rfl) (ct_X1_isIdle _ _ h _) hz) (fun x6 => ?_)
  refine v_if_ne (tgt := 72) dX1_disagree_44 (by decide) (fun _ => ?_) (fun _ => ?_)
  · skip
    refine v_iconst (v := 0) dX1_disagree_72 (by decide +kernel) ?_
    exact v_ret (ty := .boolean) dX1_disagree_73 rfl rfl (by decide +kernel)
  refine v_aload_n dX1_disagree_47 rfl rfl ?_
  refine v_getr dX1_disagree_48 kf_X1_30 h.1 rfl ?_
  refine v_iload_n dX1_disagree_51 rfl rfl ?_
  refine v_gd (fun g7 => ?_)
  refine v_iald dX1_disagree_52 h.2.2.2.2.2.2.2.1 g7 rfl ?_
  refine v_aload_n dX1_disagree_53 rfl rfl ?_
  refine v_getr dX1_disagree_54 kf_X1_30 h.1 rfl ?_
  refine v_iload_n dX1_disagree_57 rfl rfl ?_
  refine v_gd (fun g8 => ?_)
  refine v_iald dX1_disagree_58 h.2.2.2.2.2.2.2.1 g8 rfl ?_
  refine v_isub dX1_disagree_59 ?_
  refine v_mabs dX1_disagree_60 k9_X1_76 (Nat.le_of_ble_eq_true rfl) (Nat.le_of_ble_eq_true rfl) ?_
  refine v_bipush (v := 30) dX1_disagree_63 (by decide +kernel) ?_
  refine v_icmp_lt (tgt := 72) dX1_disagree_65 (by decide) (fun _ => ?_) (fun _ => ?_)
  · skip
    refine v_iconst (v := 0) dX1_disagree_72 (by decide +kernel) ?_
    exact v_ret (ty := .boolean) dX1_disagree_73 rfl rfl (by decide +kernel)
  refine v_iconst (v := 1) dX1_disagree_68 (by decide +kernel) ?_
  refine v_goto (tgt := 73) dX1_disagree_69 (by decide) ?_
  exact v_ret (ty := .boolean) dX1_disagree_73 rfl rfl (by decide +kernel)
theorem ct_X1_disagree {SH : SHT} (b : Nat) (a1 : Int32) (a2 : Int32) (h : isMoor SH b) (s0 : St) : CT yX1_disagree mX1_disagree 1 SH (jP s0) [.ref b, .int a1, .int a2] s0 (f_X1_disagree b a1 a2 s0) := CT.of (by decide +kernel) rfl (fun E => Nat.le_of_ble_eq_true rfl) (w_X1_disagree b a1 a2 h s0)
set_option maxHeartbeats 4000000 in
set_option maxRecDepth 100000 in
theorem w_X1_welling {SH : SHT} (b : Nat) (a1 : Int32) (h : isMoor SH b) (s0 : St) : VF mX1_welling 1 SH (jP s0) 0 [(0, .ref b), (1, .int a1)] [] s0 (f_X1_welling b a1 s0) := by
  unfold f_X1_welling
  refine v_aload_n dX1_welling_0 rfl rfl ?_
  refine v_iload_n dX1_welling_1 rfl rfl ?_
  refine v_cpI (fun z hz => runV (as := [.int a1]) dX1_welling_2 kv_X1_73 rfl rfl (Nat.le_of_ble_eq_true rfl) (Nat.le_of_ble_eq_true rfl) (recvW h.1 rfl rfl) (ct_X1_isIdle _ _ h _) hz) (fun x1 => ?_)
  refine v_if_eq (tgt := 10) dX1_welling_5 (by decide) (fun _ => ?_) (fun _ => ?_)
  · skip
    refine v_aload_n dX1_welling_10 rfl rfl ?_
    refine v_getr dX1_welling_11 kf_X1_30 h.1 rfl ?_
    refine v_iload_n dX1_welling_14 rfl rfl ?_
    refine v_gd (fun g2 => ?_)
    refine v_iald dX1_welling_15 h.2.2.2.2.2.2.2.1 g2 rfl ?_
    refine v_bipush (v := 50) dX1_welling_16 (by decide +kernel) ?_
    refine v_bnK (fun K4 => ∀ (t3 : Int32), VF mX1_welling 1 SH (jP s0) 31 [(0, .ref b), (1, .int a1)] [.int t3] s0 (K4 t3)) (fun K4 hK4 => ?_) (fun t3 => ?_)
    · skip
      refine v_icmp_lt (tgt := 30) dX1_welling_18 (by decide) (fun _ => ?_) (fun _ => ?_)
      · skip
        refine v_iconst (v := 0) dX1_welling_30 (by decide +kernel) ?_
        exact v_pick [0, 1] rfl (hK4 _)
      refine v_aload_n dX1_welling_21 rfl rfl ?_
      refine v_getr dX1_welling_22 kf_X1_27 h.1 rfl ?_
      refine v_iload_n dX1_welling_25 rfl rfl ?_
      refine v_gd (fun g5 => ?_)
      refine v_iald dX1_welling_26 h.2.2.2.2.2.2.1 g5 rfl ?_
      refine v_goto (tgt := 31) dX1_welling_27 (by decide) ?_
      exact v_pick [0, 1] rfl (hK4 _)
    refine v_istore_n (L' := [(2, .int t3), (0, .ref b), (1, .int a1)]) dX1_welling_31 rfl (by decide) rfl ?_
    refine v_iload_n dX1_welling_32 rfl rfl ?_
    refine v_bnK (fun K7 => ∀ (t6 : Int32), VF mX1_welling 1 SH (jP s0) 49 [(0, .ref b), (1, .int a1), (2, .int t3)] [.int t6] s0 (K7 t6)) (fun K7 hK7 => ?_) (fun t6 => ?_)
    · skip
      refine v_if_ne (tgt := 48) dX1_welling_33 (by decide) (fun _ => ?_) (fun _ => ?_)
      · skip
        refine v_iload_n dX1_welling_48 rfl rfl ?_
        exact v_pick [1, 2, 0] rfl (hK7 _)
      refine v_aload_n dX1_welling_36 rfl rfl ?_
      refine v_iload_n dX1_welling_37 rfl rfl ?_
      refine v_cpI (fun z hz => runV (as := [.int a1]) dX1_welling_38 kv_X1_69 rfl rfl (Nat.le_of_ble_eq_true rfl) (Nat.le_of_ble_eq_true rfl) (recvW h.1 rfl rfl) (ct_X1_isLost _ _ h _) hz) (fun x8 => ?_)
      refine v_if_ne (tgt := 48) dX1_welling_41 (by decide) (fun _ => ?_) (fun _ => ?_)
      · skip
        refine v_iload_n dX1_welling_48 rfl rfl ?_
        exact v_pick [1, 2, 0] rfl (hK7 _)
      refine v_iconst (v := 1) dX1_welling_44 (by decide +kernel) ?_
      refine v_goto (tgt := 49) dX1_welling_45 (by decide) ?_
      exact v_pick [1, 2, 0] rfl (hK7 _)
    refine v_istore_n (L' := [(3, .int t6), (0, .ref b), (1, .int a1), (2, .int t3)]) dX1_welling_49 rfl (by decide) rfl ?_
    refine v_aload_n dX1_welling_50 rfl rfl ?_
    refine v_getr dX1_welling_51 kf_X1_24 h.1 rfl ?_
    refine v_iload_n dX1_welling_54 rfl rfl ?_
    refine v_gd (fun g9 => ?_)
    refine v_iald dX1_welling_55 h.2.2.2.2.2.1 g9 rfl ?_
    refine v_topi (fun x10 => ?_)
    refine v_tsw (cs := [(1, 92), (2, 107), (3, 96), (4, 109), (5, 113)]) (dt := 128) dX1_welling_56 (by decide +kernel) (by decide) (by decide +kernel) ?_
    refine v_swc (fun _ => ?_) (fun _ => ?_)
    · skip
      refine v_iconst (v := 2) dX1_welling_92 (by decide +kernel) ?_
      refine v_iload_n dX1_welling_93 rfl rfl ?_
      refine v_imul dX1_welling_94 ?_
      exact v_ret (ty := .int) dX1_welling_95 rfl rfl rfl
    refine v_swc (fun _ => ?_) (fun _ => ?_)
    · skip
      refine v_iload_n dX1_welling_107 rfl rfl ?_
      exact v_ret (ty := .int) dX1_welling_108 rfl rfl rfl
    refine v_swc (fun _ => ?_) (fun _ => ?_)
    · skip
      refine v_iconst (v := 2) dX1_welling_96 (by decide +kernel) ?_
      refine v_iload_n dX1_welling_97 rfl rfl ?_
      refine v_imul dX1_welling_98 ?_
      refine v_aload_n dX1_welling_99 rfl rfl ?_
      refine v_getr dX1_welling_100 kf_X1_9 h.1 rfl ?_
      refine v_iconst (v := 0) dX1_welling_103 (by decide +kernel) ?_
      refine v_iald dX1_welling_104 h.2.1 (by decide +kernel) (j := 0) (by decide +kernel) ?_
      refine v_iadd dX1_welling_105 ?_
      exact v_ret (ty := .int) dX1_welling_106 rfl rfl rfl
    refine v_swc (fun _ => ?_) (fun _ => ?_)
    · skip
      refine v_iload_n dX1_welling_109 rfl rfl ?_
      refine v_iconst (v := 2) dX1_welling_110 (by decide +kernel) ?_
      refine v_idiv' dX1_welling_111 (by decide +kernel) ?_
      exact v_ret (ty := .int) dX1_welling_112 rfl rfl rfl
    refine v_swc (fun _ => ?_) (fun _ => ?_)
    · skip
      refine v_aload_n dX1_welling_113 rfl rfl ?_
      refine v_geti dX1_welling_114 kf_X1_46 h.1 rfl ?_
      refine v_iconst (v := 2) dX1_welling_117 (by decide +kernel) ?_
      refine v_irem' dX1_welling_118 (by decide +kernel) ?_
      refine v_if_ne (tgt := 126) dX1_welling_119 (by decide) (fun _ => ?_) (fun _ => ?_)
      · skip
        refine v_iconst (v := 0) dX1_welling_126 (by decide +kernel) ?_
        exact v_ret (ty := .int) dX1_welling_127 rfl rfl rfl
      refine v_iload_n dX1_welling_122 rfl rfl ?_
      refine v_goto (tgt := 127) dX1_welling_123 (by decide) ?_
      exact v_ret (ty := .int) dX1_welling_127 rfl rfl rfl
    refine v_swn ?_
    refine v_iload_n dX1_welling_128 rfl rfl ?_
    exact v_ret (ty := .int) dX1_welling_129 rfl rfl rfl
  refine v_iconst (v := 0) dX1_welling_8 (by decide +kernel) ?_
  exact v_ret (ty := .int) dX1_welling_9 rfl rfl rfl
theorem ct_X1_welling {SH : SHT} (b : Nat) (a1 : Int32) (h : isMoor SH b) (s0 : St) : CT yX1_welling mX1_welling 1 SH (jP s0) [.ref b, .int a1] s0 (f_X1_welling b a1 s0) := CT.of (by decide +kernel) rfl (fun E => Nat.le_of_ble_eq_true rfl) (w_X1_welling b a1 h s0)
set_option maxHeartbeats 4000000 in
set_option maxRecDepth 100000 in
theorem w_X1_losing {SH : SHT} (b : Nat) (a1 : Int32) (h : isMoor SH b) (s0 : St) : VF mX1_losing 0 SH (jP s0) 0 [(0, .ref b), (1, .int a1)] [] s0 (f_X1_losing b a1 s0) := by
  unfold f_X1_losing
  refine v_bipush (v := 10) dX1_losing_0 (by decide +kernel) ?_
  refine v_istore_n (L' := [(2, .int (10 : Int32)), (0, .ref b), (1, .int a1)]) dX1_losing_2 rfl (by decide) rfl ?_
  refine v_aload_n dX1_losing_3 rfl rfl ?_
  refine v_getr dX1_losing_4 kf_X1_24 h.1 rfl ?_
  refine v_iload_n dX1_losing_7 rfl rfl ?_
  refine v_gd (fun g1 => ?_)
  refine v_iald dX1_losing_8 h.2.2.2.2.2.1 g1 rfl ?_
  refine v_topi (fun x2 => ?_)
  refine v_tsw (cs := [(1, 44), (2, 50), (3, 48), (4, 59), (5, 71)]) (dt := 75) dX1_losing_9 (by decide +kernel) (by decide) (by decide +kernel) ?_
  refine v_swc (fun _ => ?_) (fun _ => ?_)
  · skip
    refine v_iload_n dX1_losing_44 rfl rfl ?_
    refine v_iconst (v := 2) dX1_losing_45 (by decide +kernel) ?_
    refine v_idiv' dX1_losing_46 (by decide +kernel) ?_
    exact v_ret (ty := .int) dX1_losing_47 rfl rfl rfl
  refine v_swc (fun _ => ?_) (fun _ => ?_)
  · skip
    refine v_iload_n dX1_losing_50 rfl rfl ?_
    refine v_aload_n dX1_losing_51 rfl rfl ?_
    refine v_getr dX1_losing_52 kf_X1_27 h.1 rfl ?_
    refine v_iload_n dX1_losing_55 rfl rfl ?_
    refine v_gd (fun g3 => ?_)
    refine v_iald dX1_losing_56 h.2.2.2.2.2.2.1 g3 rfl ?_
    refine v_iadd dX1_losing_57 ?_
    exact v_ret (ty := .int) dX1_losing_58 rfl rfl rfl
  refine v_swc (fun _ => ?_) (fun _ => ?_)
  · skip
    refine v_iconst (v := 0) dX1_losing_48 (by decide +kernel) ?_
    exact v_ret (ty := .int) dX1_losing_49 rfl rfl rfl
  refine v_swc (fun _ => ?_) (fun _ => ?_)
  · skip
    refine v_iload_n dX1_losing_59 rfl rfl ?_
    refine v_aload_n dX1_losing_60 rfl rfl ?_
    refine v_getr dX1_losing_61 kf_X1_27 h.1 rfl ?_
    refine v_iload_n dX1_losing_64 rfl rfl ?_
    refine v_gd (fun g4 => ?_)
    refine v_iald dX1_losing_65 h.2.2.2.2.2.2.1 g4 rfl ?_
    refine v_iadd dX1_losing_66 ?_
    refine v_bipush (v := 15) dX1_losing_67 (by decide +kernel) ?_
    refine v_isub dX1_losing_69 ?_
    exact v_ret (ty := .int) dX1_losing_70 rfl rfl rfl
  refine v_swc (fun _ => ?_) (fun _ => ?_)
  · skip
    refine v_iconst (v := 3) dX1_losing_71 (by decide +kernel) ?_
    refine v_iload_n dX1_losing_72 rfl rfl ?_
    refine v_imul dX1_losing_73 ?_
    exact v_ret (ty := .int) dX1_losing_74 rfl rfl rfl
  refine v_swn ?_
  refine v_iload_n dX1_losing_75 rfl rfl ?_
  exact v_ret (ty := .int) dX1_losing_76 rfl rfl rfl
theorem ct_X1_losing {SH : SHT} (b : Nat) (a1 : Int32) (h : isMoor SH b) (s0 : St) : CT yX1_losing mX1_losing 0 SH (jP s0) [.ref b, .int a1] s0 (f_X1_losing b a1 s0) := CT.of (by decide +kernel) rfl (fun E => Nat.le_of_ble_eq_true rfl) (w_X1_losing b a1 h s0)
set_option maxHeartbeats 4000000 in
set_option maxRecDepth 100000 in
theorem w_X1_winning {SH : SHT} (b : Nat) (a1 : Int32) (h : isMoor SH b) (s0 : St) : VF mX1_winning 0 SH (jP s0) 0 [(0, .ref b), (1, .int a1)] [] s0 (f_X1_winning b a1 s0) := by
  unfold f_X1_winning
  refine v_iconst (v := 3) dX1_winning_0 (by decide +kernel) ?_
  refine v_istore_n (L' := [(2, .int (3 : Int32)), (0, .ref b), (1, .int a1)]) dX1_winning_1 rfl (by decide) rfl ?_
  refine v_aload_n dX1_winning_2 rfl rfl ?_
  refine v_getr dX1_winning_3 kf_X1_24 h.1 rfl ?_
  refine v_iload_n dX1_winning_6 rfl rfl ?_
  refine v_gd (fun g1 => ?_)
  refine v_iald dX1_winning_7 h.2.2.2.2.2.1 g1 rfl ?_
  refine v_topi (fun x2 => ?_)
  refine v_tsw (cs := [(1, 44), (2, 52), (3, 48), (4, 56), (5, 60)]) (dt := 62) dX1_winning_8 (by decide +kernel) (by decide) (by decide +kernel) ?_
  refine v_swc (fun _ => ?_) (fun _ => ?_)
  · skip
    refine v_iload_n dX1_winning_44 rfl rfl ?_
    refine v_iconst (v := 2) dX1_winning_45 (by decide +kernel) ?_
    refine v_iadd dX1_winning_46 ?_
    exact v_ret (ty := .int) dX1_winning_47 rfl rfl rfl
  refine v_swc (fun _ => ?_) (fun _ => ?_)
  · skip
    refine v_iload_n dX1_winning_52 rfl rfl ?_
    refine v_iconst (v := 2) dX1_winning_53 (by decide +kernel) ?_
    refine v_isub dX1_winning_54 ?_
    exact v_ret (ty := .int) dX1_winning_55 rfl rfl rfl
  refine v_swc (fun _ => ?_) (fun _ => ?_)
  · skip
    refine v_iload_n dX1_winning_48 rfl rfl ?_
    refine v_iconst (v := 2) dX1_winning_49 (by decide +kernel) ?_
    refine v_iadd dX1_winning_50 ?_
    exact v_ret (ty := .int) dX1_winning_51 rfl rfl rfl
  refine v_swc (fun _ => ?_) (fun _ => ?_)
  · skip
    refine v_iload_n dX1_winning_56 rfl rfl ?_
    refine v_iconst (v := 2) dX1_winning_57 (by decide +kernel) ?_
    refine v_isub dX1_winning_58 ?_
    exact v_ret (ty := .int) dX1_winning_59 rfl rfl rfl
  refine v_swc (fun _ => ?_) (fun _ => ?_)
  · skip
    refine v_iconst (v := 0) dX1_winning_60 (by decide +kernel) ?_
    exact v_ret (ty := .int) dX1_winning_61 rfl rfl rfl
  refine v_swn ?_
  refine v_iload_n dX1_winning_62 rfl rfl ?_
  exact v_ret (ty := .int) dX1_winning_63 rfl rfl rfl
theorem ct_X1_winning {SH : SHT} (b : Nat) (a1 : Int32) (h : isMoor SH b) (s0 : St) : CT yX1_winning mX1_winning 0 SH (jP s0) [.ref b, .int a1] s0 (f_X1_winning b a1 s0) := CT.of (by decide +kernel) rfl (fun E => Nat.le_of_ble_eq_true rfl) (w_X1_winning b a1 h s0)
set_option maxHeartbeats 4000000 in
set_option maxRecDepth 100000 in
theorem wB_X1_opponents_4 {SH : SHT} (b : Nat) (a1 : Int32) (s0 : St) (h : isMoor SH b) (rec : Int32 → Int32 → Option Int32) (hrec : ∀ (c1 : Int32) (c2 : Int32), VF mX1_opponents 2 SH (jP s0) 4 [(0, .ref b), (1, .int a1), (2, .int c1), (3, .int c2)] [] s0 (rec c1 c2)) (K : Int32 → Option Int32) (hK : ∀ (e3 : Int32), VF mX1_opponents 2 SH (jP s0) 33 [(2, .int e3)] [] s0 (K e3)) (c1 : Int32) (c2 : Int32) : VF mX1_opponents 2 SH (jP s0) 4 [(0, .ref b), (1, .int a1), (2, .int c1), (3, .int c2)] [] s0 (B_X1_opponents_4 rec b a1 s0 K c1 c2) := by
  unfold B_X1_opponents_4
  refine v_iload_n dX1_opponents_4 rfl rfl ?_
  refine v_aload_n dX1_opponents_5 rfl rfl ?_
  refine v_geti dX1_opponents_6 kf_X1_49 h.1 rfl ?_
  refine v_icmp_ge (tgt := 33) dX1_opponents_9 (by decide) (fun _ => ?_) (fun _ => ?_)
  · skip
    exact v_pick [2] rfl (hK _)
  refine v_aload_n dX1_opponents_12 rfl rfl ?_
  refine v_iload_n dX1_opponents_13 rfl rfl ?_
  refine v_iload_n dX1_opponents_14 rfl rfl ?_
  refine v_cpI (fun z hz => runV (as := [.int a1, .int c2]) dX1_opponents_15 kv_X1_81 rfl rfl (Nat.le_of_ble_eq_true rfl) (Nat.le_of_ble_eq_true rfl) (recvW h.1 rfl rfl) (ct_X1_disagree _ _ _ h _) hz) (fun x4 => ?_)
  refine v_bnK (fun K6 => ∀ (t5 : Int32), VF mX1_opponents 2 SH (jP s0) 27 [(0, .ref b), (1, .int a1), (2, .int t5), (3, .int c2)] [] s0 (K6 t5)) (fun K6 hK6 => ?_) (fun t5 => ?_)
  · skip
    refine v_if_eq (tgt := 27) dX1_opponents_18 (by decide) (fun _ => ?_) (fun _ => ?_)
    · skip
      exact v_pick [0, 1, 2, 3] rfl (hK6 _)
    refine v_iload_n dX1_opponents_21 rfl rfl ?_
    refine v_iconst (v := 1) dX1_opponents_22 (by decide +kernel) ?_
    refine v_iload_n dX1_opponents_23 rfl rfl ?_
    refine v_ishl dX1_opponents_24 ?_
    refine v_ior dX1_opponents_25 ?_
    refine v_topi (fun x7 => ?_)
    refine v_istore_n (L' := [(2, .int x7), (0, .ref b), (1, .int a1), (3, .int c2)]) dX1_opponents_26 rfl (by decide) rfl ?_
    exact v_pick [1, 2, 0, 3] rfl (hK6 _)
  refine v_iinc (v := (c2 + (1 : Int32))) (L' := [(3, .int (c2 + (1 : Int32))), (0, .ref b), (1, .int a1), (2, .int t5)]) dX1_opponents_27 rfl rfl (by decide) rfl ?_
  refine v_goto (tgt := 4) dX1_opponents_30 (by decide) ?_
  exact v_pick [1, 2, 3, 0] rfl (hrec _ _)
theorem wL_X1_opponents_4 {SH : SHT} (b : Nat) (a1 : Int32) (s0 : St) (h : isMoor SH b) (K : Int32 → Option Int32) (hK : ∀ (e3 : Int32), VF mX1_opponents 2 SH (jP s0) 33 [(2, .int e3)] [] s0 (K e3)) : ∀ (n : Nat) (c1 : Int32) (c2 : Int32), VF mX1_opponents 2 SH (jP s0) 4 [(0, .ref b), (1, .int a1), (2, .int c1), (3, .int c2)] [] s0 (L_X1_opponents_4 b a1 s0 K n c1 c2) := by
  intro n
  induction n with
  | zero => intros; exact v_none
  | succ n ih => intro c1 c2; exact wB_X1_opponents_4 b a1 s0 h _ ih K hK c1 c2
set_option maxHeartbeats 4000000 in
set_option maxRecDepth 100000 in
theorem w_X1_opponents {SH : SHT} (b : Nat) (a1 : Int32) (h : isMoor SH b) (s0 : St) : VF mX1_opponents 2 SH (jP s0) 0 [(0, .ref b), (1, .int a1)] [] s0 (f_X1_opponents b a1 s0) := by
  unfold f_X1_opponents
  refine v_iconst (v := 0) dX1_opponents_0 (by decide +kernel) ?_
  refine v_istore_n (L' := [(2, .int (0 : Int32)), (0, .ref b), (1, .int a1)]) dX1_opponents_1 rfl (by decide) rfl ?_
  refine v_iconst (v := 0) dX1_opponents_2 (by decide +kernel) ?_
  refine v_istore_n (L' := [(3, .int (0 : Int32)), (2, .int (0 : Int32)), (0, .ref b), (1, .int a1)]) dX1_opponents_3 rfl (by decide) rfl ?_
  refine v_pick [2, 3, 1, 0] rfl (wL_X1_opponents_4 b a1 s0 h _ (fun e3 => ?_) FU _ _)
  refine v_iload_n dX1_opponents_33 rfl rfl ?_
  exact v_ret (ty := .int) dX1_opponents_34 rfl rfl rfl
theorem ct_X1_opponents {SH : SHT} (b : Nat) (a1 : Int32) (h : isMoor SH b) (s0 : St) : CT yX1_opponents mX1_opponents 2 SH (jP s0) [.ref b, .int a1] s0 (f_X1_opponents b a1 s0) := CT.of (by decide +kernel) rfl (fun E => Nat.le_of_ble_eq_true rfl) (w_X1_opponents b a1 h s0)
set_option maxHeartbeats 4000000 in
set_option maxRecDepth 100000 in
theorem wB_X1_peopleAt_4 {SH : SHT} (b : Nat) (a1 : Int32) (s0 : St) (h : isMoor SH b) (rec : Int32 → Int32 → Option Int32) (hrec : ∀ (c1 : Int32) (c2 : Int32), VF mX1_peopleAt 0 SH (jP s0) 4 [(0, .ref b), (1, .int a1), (2, .int c1), (3, .int c2)] [] s0 (rec c1 c2)) (K : Int32 → Option Int32) (hK : ∀ (e3 : Int32), VF mX1_peopleAt 0 SH (jP s0) 34 [(2, .int e3)] [] s0 (K e3)) (c1 : Int32) (c2 : Int32) : VF mX1_peopleAt 0 SH (jP s0) 4 [(0, .ref b), (1, .int a1), (2, .int c1), (3, .int c2)] [] s0 (B_X1_peopleAt_4 rec b a1 s0 K c1 c2) := by
  unfold B_X1_peopleAt_4
  refine v_iload_n dX1_peopleAt_4 rfl rfl ?_
  refine v_aload_n dX1_peopleAt_5 rfl rfl ?_
  refine v_geti dX1_peopleAt_6 kf_X1_49 h.1 rfl ?_
  refine v_icmp_ge (tgt := 34) dX1_peopleAt_9 (by decide) (fun _ => ?_) (fun _ => ?_)
  · skip
    exact v_pick [2] rfl (hK _)
  refine v_aload_n dX1_peopleAt_12 rfl rfl ?_
  refine v_getr dX1_peopleAt_13 kf_X1_33 h.1 rfl ?_
  refine v_iload_n dX1_peopleAt_16 rfl rfl ?_
  refine v_gd (fun g4 => ?_)
  refine v_iald dX1_peopleAt_17 h.2.2.2.2.2.2.2.2 g4 rfl ?_
  refine v_iload_n dX1_peopleAt_18 rfl rfl ?_
  refine v_bnK (fun K6 => ∀ (t5 : Int32), VF mX1_peopleAt 0 SH (jP s0) 28 [(0, .ref b), (1, .int a1), (2, .int t5), (3, .int c2)] [] s0 (K6 t5)) (fun K6 hK6 => ?_) (fun t5 => ?_)
  · skip
    refine v_icmp_ne (tgt := 28) dX1_peopleAt_19 (by decide) (fun _ => ?_) (fun _ => ?_)
    · skip
      exact v_pick [0, 1, 2, 3] rfl (hK6 _)
    refine v_iload_n dX1_peopleAt_22 rfl rfl ?_
    refine v_iconst (v := 1) dX1_peopleAt_23 (by decide +kernel) ?_
    refine v_iload_n dX1_peopleAt_24 rfl rfl ?_
    refine v_ishl dX1_peopleAt_25 ?_
    refine v_ior dX1_peopleAt_26 ?_
    refine v_topi (fun x7 => ?_)
    refine v_istore_n (L' := [(2, .int x7), (0, .ref b), (1, .int a1), (3, .int c2)]) dX1_peopleAt_27 rfl (by decide) rfl ?_
    exact v_pick [1, 2, 0, 3] rfl (hK6 _)
  refine v_iinc (v := (c2 + (1 : Int32))) (L' := [(3, .int (c2 + (1 : Int32))), (0, .ref b), (1, .int a1), (2, .int t5)]) dX1_peopleAt_28 rfl rfl (by decide) rfl ?_
  refine v_goto (tgt := 4) dX1_peopleAt_31 (by decide) ?_
  exact v_pick [1, 2, 3, 0] rfl (hrec _ _)
theorem wL_X1_peopleAt_4 {SH : SHT} (b : Nat) (a1 : Int32) (s0 : St) (h : isMoor SH b) (K : Int32 → Option Int32) (hK : ∀ (e3 : Int32), VF mX1_peopleAt 0 SH (jP s0) 34 [(2, .int e3)] [] s0 (K e3)) : ∀ (n : Nat) (c1 : Int32) (c2 : Int32), VF mX1_peopleAt 0 SH (jP s0) 4 [(0, .ref b), (1, .int a1), (2, .int c1), (3, .int c2)] [] s0 (L_X1_peopleAt_4 b a1 s0 K n c1 c2) := by
  intro n
  induction n with
  | zero => intros; exact v_none
  | succ n ih => intro c1 c2; exact wB_X1_peopleAt_4 b a1 s0 h _ ih K hK c1 c2
set_option maxHeartbeats 4000000 in
set_option maxRecDepth 100000 in
theorem w_X1_peopleAt {SH : SHT} (b : Nat) (a1 : Int32) (h : isMoor SH b) (s0 : St) : VF mX1_peopleAt 0 SH (jP s0) 0 [(0, .ref b), (1, .int a1)] [] s0 (f_X1_peopleAt b a1 s0) := by
  unfold f_X1_peopleAt
  refine v_iconst (v := 0) dX1_peopleAt_0 (by decide +kernel) ?_
  refine v_istore_n (L' := [(2, .int (0 : Int32)), (0, .ref b), (1, .int a1)]) dX1_peopleAt_1 rfl (by decide) rfl ?_
  refine v_iconst (v := 0) dX1_peopleAt_2 (by decide +kernel) ?_
  refine v_istore_n (L' := [(3, .int (0 : Int32)), (2, .int (0 : Int32)), (0, .ref b), (1, .int a1)]) dX1_peopleAt_3 rfl (by decide) rfl ?_
  refine v_pick [2, 3, 1, 0] rfl (wL_X1_peopleAt_4 b a1 s0 h _ (fun e3 => ?_) FU _ _)
  refine v_iload_n dX1_peopleAt_34 rfl rfl ?_
  exact v_ret (ty := .int) dX1_peopleAt_35 rfl rfl rfl
theorem ct_X1_peopleAt {SH : SHT} (b : Nat) (a1 : Int32) (h : isMoor SH b) (s0 : St) : CT yX1_peopleAt mX1_peopleAt 0 SH (jP s0) [.ref b, .int a1] s0 (f_X1_peopleAt b a1 s0) := CT.of (by decide +kernel) rfl (fun E => Nat.le_of_ble_eq_true rfl) (w_X1_peopleAt b a1 h s0)
set_option maxHeartbeats 4000000 in
set_option maxRecDepth 100000 in
theorem wB_X1_wellingAt_4 {SH : SHT} (b : Nat) (a1 : Int32) (s0 : St) (h : isMoor SH b) (rec : Int32 → Int32 → Option Int32) (hrec : ∀ (c1 : Int32) (c2 : Int32), VF mX1_wellingAt 2 SH (jP s0) 4 [(0, .ref b), (1, .int a1), (2, .int c1), (3, .int c2)] [] s0 (rec c1 c2)) (K : Int32 → Option Int32) (hK : ∀ (e3 : Int32), VF mX1_wellingAt 2 SH (jP s0) 36 [(2, .int e3)] [] s0 (K e3)) (c1 : Int32) (c2 : Int32) : VF mX1_wellingAt 2 SH (jP s0) 4 [(0, .ref b), (1, .int a1), (2, .int c1), (3, .int c2)] [] s0 (B_X1_wellingAt_4 rec b a1 s0 K c1 c2) := by
  unfold B_X1_wellingAt_4
  refine v_iload_n dX1_wellingAt_4 rfl rfl ?_
  refine v_aload_n dX1_wellingAt_5 rfl rfl ?_
  refine v_geti dX1_wellingAt_6 kf_X1_49 h.1 rfl ?_
  refine v_icmp_ge (tgt := 36) dX1_wellingAt_9 (by decide) (fun _ => ?_) (fun _ => ?_)
  · skip
    exact v_pick [2] rfl (hK _)
  refine v_aload_n dX1_wellingAt_12 rfl rfl ?_
  refine v_getr dX1_wellingAt_13 kf_X1_33 h.1 rfl ?_
  refine v_iload_n dX1_wellingAt_16 rfl rfl ?_
  refine v_gd (fun g4 => ?_)
  refine v_iald dX1_wellingAt_17 h.2.2.2.2.2.2.2.2 g4 rfl ?_
  refine v_iload_n dX1_wellingAt_18 rfl rfl ?_
  refine v_bnK (fun K6 => ∀ (t5 : Int32), VF mX1_wellingAt 2 SH (jP s0) 30 [(0, .ref b), (1, .int a1), (2, .int t5), (3, .int c2)] [] s0 (K6 t5)) (fun K6 hK6 => ?_) (fun t5 => ?_)
  · skip
    refine v_icmp_ne (tgt := 30) dX1_wellingAt_19 (by decide) (fun _ => ?_) (fun _ => ?_)
    · skip
      exact v_pick [0, 1, 2, 3] rfl (hK6 _)
    refine v_iload_n dX1_wellingAt_22 rfl rfl ?_
    refine v_aload_n dX1_wellingAt_23 rfl rfl ?_
    refine v_iload_n dX1_wellingAt_24 rfl rfl ?_
    refine v_cpI (fun z hz => runV (as := [.int c2]) dX1_wellingAt_25 kv_X1_85 rfl rfl (Nat.le_of_ble_eq_true rfl) (Nat.le_of_ble_eq_true rfl) (recvW h.1 rfl rfl) (ct_X1_welling _ _ h _) hz) (fun x7 => ?_)
    refine v_iadd dX1_wellingAt_28 ?_
    refine v_topi (fun x8 => ?_)
    refine v_istore_n (L' := [(2, .int x8), (0, .ref b), (1, .int a1), (3, .int c2)]) dX1_wellingAt_29 rfl (by decide) rfl ?_
    exact v_pick [1, 2, 0, 3] rfl (hK6 _)
  refine v_iinc (v := (c2 + (1 : Int32))) (L' := [(3, .int (c2 + (1 : Int32))), (0, .ref b), (1, .int a1), (2, .int t5)]) dX1_wellingAt_30 rfl rfl (by decide) rfl ?_
  refine v_goto (tgt := 4) dX1_wellingAt_33 (by decide) ?_
  exact v_pick [1, 2, 3, 0] rfl (hrec _ _)
theorem wL_X1_wellingAt_4 {SH : SHT} (b : Nat) (a1 : Int32) (s0 : St) (h : isMoor SH b) (K : Int32 → Option Int32) (hK : ∀ (e3 : Int32), VF mX1_wellingAt 2 SH (jP s0) 36 [(2, .int e3)] [] s0 (K e3)) : ∀ (n : Nat) (c1 : Int32) (c2 : Int32), VF mX1_wellingAt 2 SH (jP s0) 4 [(0, .ref b), (1, .int a1), (2, .int c1), (3, .int c2)] [] s0 (L_X1_wellingAt_4 b a1 s0 K n c1 c2) := by
  intro n
  induction n with
  | zero => intros; exact v_none
  | succ n ih => intro c1 c2; exact wB_X1_wellingAt_4 b a1 s0 h _ ih K hK c1 c2
set_option maxHeartbeats 4000000 in
set_option maxRecDepth 100000 in
theorem w_X1_wellingAt {SH : SHT} (b : Nat) (a1 : Int32) (h : isMoor SH b) (s0 : St) : VF mX1_wellingAt 2 SH (jP s0) 0 [(0, .ref b), (1, .int a1)] [] s0 (f_X1_wellingAt b a1 s0) := by
  unfold f_X1_wellingAt
  refine v_iconst (v := 0) dX1_wellingAt_0 (by decide +kernel) ?_
  refine v_istore_n (L' := [(2, .int (0 : Int32)), (0, .ref b), (1, .int a1)]) dX1_wellingAt_1 rfl (by decide) rfl ?_
  refine v_iconst (v := 0) dX1_wellingAt_2 (by decide +kernel) ?_
  refine v_istore_n (L' := [(3, .int (0 : Int32)), (2, .int (0 : Int32)), (0, .ref b), (1, .int a1)]) dX1_wellingAt_3 rfl (by decide) rfl ?_
  refine v_pick [2, 3, 1, 0] rfl (wL_X1_wellingAt_4 b a1 s0 h _ (fun e3 => ?_) FU _ _)
  refine v_iload_n dX1_wellingAt_36 rfl rfl ?_
  exact v_ret (ty := .int) dX1_wellingAt_37 rfl rfl rfl
theorem ct_X1_wellingAt {SH : SHT} (b : Nat) (a1 : Int32) (h : isMoor SH b) (s0 : St) : CT yX1_wellingAt mX1_wellingAt 2 SH (jP s0) [.ref b, .int a1] s0 (f_X1_wellingAt b a1 s0) := CT.of (by decide +kernel) rfl (fun E => Nat.le_of_ble_eq_true rfl) (w_X1_wellingAt b a1 h s0)
set_option maxHeartbeats 4000000 in
set_option maxRecDepth 100000 in
theorem w_J6_bitCount_0f7a4 {SH : SHT} (a0 : Int32) (s0 : St) : VF mJ6_bitCount_0f7a4 0 SH (jP s0) 0 [(0, .int a0)] [] s0 (f_J6_bitCount_0f7a4 a0) := by
  unfold f_J6_bitCount_0f7a4
  refine v_iload_n dJ6_bitCount_0f7a4_0 rfl rfl ?_
  refine v_iload_n dJ6_bitCount_0f7a4_1 rfl rfl ?_
  refine v_iconst (v := 1) dJ6_bitCount_0f7a4_2 (by decide +kernel) ?_
  refine v_iushr dJ6_bitCount_0f7a4_3 ?_
  refine v_ldcw dJ6_bitCount_0f7a4_4 kcon_J6_265 ?_
  refine v_iand dJ6_bitCount_0f7a4_7 ?_
  refine v_isub dJ6_bitCount_0f7a4_8 ?_
  refine v_topi (fun x1 => ?_)
  refine v_istore_n (L' := [(0, .int x1)]) dJ6_bitCount_0f7a4_9 rfl (by decide) rfl ?_
  refine v_iload_n dJ6_bitCount_0f7a4_10 rfl rfl ?_
  refine v_ldcw dJ6_bitCount_0f7a4_11 kcon_J6_266 ?_
  refine v_iand dJ6_bitCount_0f7a4_14 ?_
  refine v_iload_n dJ6_bitCount_0f7a4_15 rfl rfl ?_
  refine v_iconst (v := 2) dJ6_bitCount_0f7a4_16 (by decide +kernel) ?_
  refine v_iushr dJ6_bitCount_0f7a4_17 ?_
  refine v_ldcw dJ6_bitCount_0f7a4_18 kcon_J6_266 ?_
  refine v_iand dJ6_bitCount_0f7a4_21 ?_
  refine v_iadd dJ6_bitCount_0f7a4_22 ?_
  refine v_topi (fun x2 => ?_)
  refine v_istore_n (L' := [(0, .int x2)]) dJ6_bitCount_0f7a4_23 rfl (by decide) rfl ?_
  refine v_iload_n dJ6_bitCount_0f7a4_24 rfl rfl ?_
  refine v_iload_n dJ6_bitCount_0f7a4_25 rfl rfl ?_
  refine v_iconst (v := 4) dJ6_bitCount_0f7a4_26 (by decide +kernel) ?_
  refine v_iushr dJ6_bitCount_0f7a4_27 ?_
  refine v_iadd dJ6_bitCount_0f7a4_28 ?_
  refine v_ldcw dJ6_bitCount_0f7a4_29 kcon_J6_267 ?_
  refine v_iand dJ6_bitCount_0f7a4_32 ?_
  refine v_topi (fun x3 => ?_)
  refine v_istore_n (L' := [(0, .int x3)]) dJ6_bitCount_0f7a4_33 rfl (by decide) rfl ?_
  refine v_iload_n dJ6_bitCount_0f7a4_34 rfl rfl ?_
  refine v_iload_n dJ6_bitCount_0f7a4_35 rfl rfl ?_
  refine v_bipush (v := 8) dJ6_bitCount_0f7a4_36 (by decide +kernel) ?_
  refine v_iushr dJ6_bitCount_0f7a4_38 ?_
  refine v_iadd dJ6_bitCount_0f7a4_39 ?_
  refine v_topi (fun x4 => ?_)
  refine v_istore_n (L' := [(0, .int x4)]) dJ6_bitCount_0f7a4_40 rfl (by decide) rfl ?_
  refine v_iload_n dJ6_bitCount_0f7a4_41 rfl rfl ?_
  refine v_iload_n dJ6_bitCount_0f7a4_42 rfl rfl ?_
  refine v_bipush (v := 16) dJ6_bitCount_0f7a4_43 (by decide +kernel) ?_
  refine v_iushr dJ6_bitCount_0f7a4_45 ?_
  refine v_iadd dJ6_bitCount_0f7a4_46 ?_
  refine v_topi (fun x5 => ?_)
  refine v_istore_n (L' := [(0, .int x5)]) dJ6_bitCount_0f7a4_47 rfl (by decide) rfl ?_
  refine v_iload_n dJ6_bitCount_0f7a4_48 rfl rfl ?_
  refine v_bipush (v := 63) dJ6_bitCount_0f7a4_49 (by decide +kernel) ?_
  refine v_iand dJ6_bitCount_0f7a4_51 ?_
  exact v_ret (ty := .int) dJ6_bitCount_0f7a4_52 rfl rfl rfl
theorem ct_J6_bitCount_0f7a4 {SH : SHT} (a0 : Int32) (s0 : St) : CT yJ6_bitCount_0f7a4 mJ6_bitCount_0f7a4 0 SH (jP s0) [.int a0] s0 (f_J6_bitCount_0f7a4 a0) := CT.of (by decide +kernel) rfl (fun E => Nat.le_of_ble_eq_true rfl) (w_J6_bitCount_0f7a4 a0  s0)
set_option maxHeartbeats 4000000 in
set_option maxRecDepth 100000 in
theorem wB_X1_disputesAt_4 {SH : SHT} (b : Nat) (a1 : Int32) (s0 : St) (h : isMoor SH b) (rec : Int32 → Int32 → Option Int32) (hrec : ∀ (c1 : Int32) (c2 : Int32), VF mX1_disputesAt 3 SH (jP s0) 4 [(0, .ref b), (1, .int a1), (2, .int c1), (3, .int c2)] [] s0 (rec c1 c2)) (K : Int32 → Option Int32) (hK : ∀ (e3 : Int32), VF mX1_disputesAt 3 SH (jP s0) 39 [(2, .int e3)] [] s0 (K e3)) (c1 : Int32) (c2 : Int32) : VF mX1_disputesAt 3 SH (jP s0) 4 [(0, .ref b), (1, .int a1), (2, .int c1), (3, .int c2)] [] s0 (B_X1_disputesAt_4 rec b a1 s0 K c1 c2) := by
  unfold B_X1_disputesAt_4
  refine v_iload_n dX1_disputesAt_4 rfl rfl ?_
  refine v_aload_n dX1_disputesAt_5 rfl rfl ?_
  refine v_geti dX1_disputesAt_6 kf_X1_49 h.1 rfl ?_
  refine v_icmp_ge (tgt := 39) dX1_disputesAt_9 (by decide) (fun _ => ?_) (fun _ => ?_)
  · skip
    exact v_pick [2] rfl (hK _)
  refine v_aload_n dX1_disputesAt_12 rfl rfl ?_
  refine v_getr dX1_disputesAt_13 kf_X1_33 h.1 rfl ?_
  refine v_iload_n dX1_disputesAt_16 rfl rfl ?_
  refine v_gd (fun g4 => ?_)
  refine v_iald dX1_disputesAt_17 h.2.2.2.2.2.2.2.2 g4 rfl ?_
  refine v_iload_n dX1_disputesAt_18 rfl rfl ?_
  refine v_bnK (fun K6 => ∀ (t5 : Int32), VF mX1_disputesAt 3 SH (jP s0) 33 [(0, .ref b), (1, .int a1), (2, .int t5), (3, .int c2)] [] s0 (K6 t5)) (fun K6 hK6 => ?_) (fun t5 => ?_)
  · skip
    refine v_icmp_ne (tgt := 33) dX1_disputesAt_19 (by decide) (fun _ => ?_) (fun _ => ?_)
    · skip
      exact v_pick [0, 1, 2, 3] rfl (hK6 _)
    refine v_iload_n dX1_disputesAt_22 rfl rfl ?_
    refine v_aload_n dX1_disputesAt_23 rfl rfl ?_
    refine v_iload_n dX1_disputesAt_24 rfl rfl ?_
    refine v_cpI (fun z hz => runV (as := [.int c2]) dX1_disputesAt_25 kv_X1_88 rfl rfl (Nat.le_of_ble_eq_true rfl) (Nat.le_of_ble_eq_true rfl) (recvW h.1 rfl rfl) (ct_X1_opponents _ _ h _) hz) (fun x7 => ?_)
    refine v_cpI (fun z hz => runT (as := [.int x7]) dX1_disputesAt_28 kt_X1_91 rfl rfl (Nat.le_of_ble_eq_true rfl) (Nat.le_of_ble_eq_true rfl) (ct_J6_bitCount_0f7a4 _  _) hz) (fun x8 => ?_)
    refine v_iadd dX1_disputesAt_31 ?_
    refine v_topi (fun x9 => ?_)
    refine v_istore_n (L' := [(2, .int x9), (0, .ref b), (1, .int a1), (3, .int c2)]) dX1_disputesAt_32 rfl (by decide) rfl ?_
    exact v_pick [1, 2, 0, 3] rfl (hK6 _)
  refine v_iinc (v := (c2 + (1 : Int32))) (L' := [(3, .int (c2 + (1 : Int32))), (0, .ref b), (1, .int a1), (2, .int t5)]) dX1_disputesAt_33 rfl rfl (by decide) rfl ?_
  refine v_goto (tgt := 4) dX1_disputesAt_36 (by decide) ?_
  exact v_pick [1, 2, 3, 0] rfl (hrec _ _)
theorem wL_X1_disputesAt_4 {SH : SHT} (b : Nat) (a1 : Int32) (s0 : St) (h : isMoor SH b) (K : Int32 → Option Int32) (hK : ∀ (e3 : Int32), VF mX1_disputesAt 3 SH (jP s0) 39 [(2, .int e3)] [] s0 (K e3)) : ∀ (n : Nat) (c1 : Int32) (c2 : Int32), VF mX1_disputesAt 3 SH (jP s0) 4 [(0, .ref b), (1, .int a1), (2, .int c1), (3, .int c2)] [] s0 (L_X1_disputesAt_4 b a1 s0 K n c1 c2) := by
  intro n
  induction n with
  | zero => intros; exact v_none
  | succ n ih => intro c1 c2; exact wB_X1_disputesAt_4 b a1 s0 h _ ih K hK c1 c2
set_option maxHeartbeats 4000000 in
set_option maxRecDepth 100000 in
theorem w_X1_disputesAt {SH : SHT} (b : Nat) (a1 : Int32) (h : isMoor SH b) (s0 : St) : VF mX1_disputesAt 3 SH (jP s0) 0 [(0, .ref b), (1, .int a1)] [] s0 (f_X1_disputesAt b a1 s0) := by
  unfold f_X1_disputesAt
  refine v_iconst (v := 0) dX1_disputesAt_0 (by decide +kernel) ?_
  refine v_istore_n (L' := [(2, .int (0 : Int32)), (0, .ref b), (1, .int a1)]) dX1_disputesAt_1 rfl (by decide) rfl ?_
  refine v_iconst (v := 0) dX1_disputesAt_2 (by decide +kernel) ?_
  refine v_istore_n (L' := [(3, .int (0 : Int32)), (2, .int (0 : Int32)), (0, .ref b), (1, .int a1)]) dX1_disputesAt_3 rfl (by decide) rfl ?_
  refine v_pick [2, 3, 1, 0] rfl (wL_X1_disputesAt_4 b a1 s0 h _ (fun e3 => ?_) FU _ _)
  refine v_iload_n dX1_disputesAt_39 rfl rfl ?_
  refine v_iconst (v := 2) dX1_disputesAt_40 (by decide +kernel) ?_
  refine v_idiv' dX1_disputesAt_41 (by decide +kernel) ?_
  exact v_ret (ty := .int) dX1_disputesAt_42 rfl rfl rfl
theorem ct_X1_disputesAt {SH : SHT} (b : Nat) (a1 : Int32) (h : isMoor SH b) (s0 : St) : CT yX1_disputesAt mX1_disputesAt 3 SH (jP s0) [.ref b, .int a1] s0 (f_X1_disputesAt b a1 s0) := CT.of (by decide +kernel) rfl (fun E => Nat.le_of_ble_eq_true rfl) (w_X1_disputesAt b a1 h s0)
set_option maxHeartbeats 4000000 in
set_option maxRecDepth 100000 in
theorem wB_X1_disputes_4 {SH : SHT} (b : Nat) (s0 : St) (h : isMoor SH b) (rec : Int32 → Int32 → Option Int32) (hrec : ∀ (c1 : Int32) (c2 : Int32), VF mX1_disputes 3 SH (jP s0) 4 [(0, .ref b), (1, .int c1), (2, .int c2)] [] s0 (rec c1 c2)) (K : Int32 → Option Int32) (hK : ∀ (e3 : Int32), VF mX1_disputes 3 SH (jP s0) 29 [(1, .int e3)] [] s0 (K e3)) (c1 : Int32) (c2 : Int32) : VF mX1_disputes 3 SH (jP s0) 4 [(0, .ref b), (1, .int c1), (2, .int c2)] [] s0 (B_X1_disputes_4 rec b s0 K c1 c2) := by
  unfold B_X1_disputes_4
  refine v_iload_n dX1_disputes_4 rfl rfl ?_
  refine v_aload_n dX1_disputes_5 rfl rfl ?_
  refine v_geti dX1_disputes_6 kf_X1_49 h.1 rfl ?_
  refine v_icmp_ge (tgt := 29) dX1_disputes_9 (by decide) (fun _ => ?_) (fun _ => ?_)
  · skip
    exact v_pick [1] rfl (hK _)
  refine v_iload_n dX1_disputes_12 rfl rfl ?_
  refine v_aload_n dX1_disputes_13 rfl rfl ?_
  refine v_iload_n dX1_disputes_14 rfl rfl ?_
  refine v_cpI (fun z hz => runV (as := [.int c2]) dX1_disputes_15 kv_X1_88 rfl rfl (Nat.le_of_ble_eq_true rfl) (Nat.le_of_ble_eq_true rfl) (recvW h.1 rfl rfl) (ct_X1_opponents _ _ h _) hz) (fun x4 => ?_)
  refine v_cpI (fun z hz => runT (as := [.int x4]) dX1_disputes_18 kt_X1_91 rfl rfl (Nat.le_of_ble_eq_true rfl) (Nat.le_of_ble_eq_true rfl) (ct_J6_bitCount_0f7a4 _  _) hz) (fun x5 => ?_)
  refine v_iadd dX1_disputes_21 ?_
  refine v_topi (fun x6 => ?_)
  refine v_istore_n (L' := [(1, .int x6), (0, .ref b), (2, .int c2)]) dX1_disputes_22 rfl (by decide) rfl ?_
  refine v_iinc (v := (c2 + (1 : Int32))) (L' := [(2, .int (c2 + (1 : Int32))), (1, .int x6), (0, .ref b)]) dX1_disputes_23 rfl rfl (by decide) rfl ?_
  refine v_goto (tgt := 4) dX1_disputes_26 (by decide) ?_
  exact v_pick [2, 1, 0] rfl (hrec _ _)
theorem wL_X1_disputes_4 {SH : SHT} (b : Nat) (s0 : St) (h : isMoor SH b) (K : Int32 → Option Int32) (hK : ∀ (e3 : Int32), VF mX1_disputes 3 SH (jP s0) 29 [(1, .int e3)] [] s0 (K e3)) : ∀ (n : Nat) (c1 : Int32) (c2 : Int32), VF mX1_disputes 3 SH (jP s0) 4 [(0, .ref b), (1, .int c1), (2, .int c2)] [] s0 (L_X1_disputes_4 b s0 K n c1 c2) := by
  intro n
  induction n with
  | zero => intros; exact v_none
  | succ n ih => intro c1 c2; exact wB_X1_disputes_4 b s0 h _ ih K hK c1 c2
set_option maxHeartbeats 4000000 in
set_option maxRecDepth 100000 in
theorem w_X1_disputes {SH : SHT} (b : Nat) (h : isMoor SH b) (s0 : St) : VF mX1_disputes 3 SH (jP s0) 0 [(0, .ref b)] [] s0 (f_X1_disputes b s0) := by
  unfold f_X1_disputes
  refine v_iconst (v := 0) dX1_disputes_0 (by decide +kernel) ?_
  refine v_istore_n (L' := [(1, .int (0 : Int32)), (0, .ref b)]) dX1_disputes_1 rfl (by decide) rfl ?_
  refine v_iconst (v := 0) dX1_disputes_2 (by decide +kernel) ?_
  refine v_istore_n (L' := [(2, .int (0 : Int32)), (1, .int (0 : Int32)), (0, .ref b)]) dX1_disputes_3 rfl (by decide) rfl ?_
  refine v_pick [2, 1, 0] rfl (wL_X1_disputes_4 b s0 h _ (fun e3 => ?_) FU _ _)
  refine v_iload_n dX1_disputes_29 rfl rfl ?_
  refine v_iconst (v := 2) dX1_disputes_30 (by decide +kernel) ?_
  refine v_idiv' dX1_disputes_31 (by decide +kernel) ?_
  exact v_ret (ty := .int) dX1_disputes_32 rfl rfl rfl
theorem ct_X1_disputes {SH : SHT} (b : Nat) (h : isMoor SH b) (s0 : St) : CT yX1_disputes mX1_disputes 3 SH (jP s0) [.ref b] s0 (f_X1_disputes b s0) := CT.of (by decide +kernel) rfl (fun E => Nat.le_of_ble_eq_true rfl) (w_X1_disputes b h s0)
set_option maxHeartbeats 4000000 in
set_option maxRecDepth 100000 in
theorem wB_X1_lostPeople_4 {SH : SHT} (b : Nat) (s0 : St) (h : isMoor SH b) (rec : Int32 → Int32 → Option Int32) (hrec : ∀ (c1 : Int32) (c2 : Int32), VF mX1_lostPeople 1 SH (jP s0) 4 [(0, .ref b), (1, .int c1), (2, .int c2)] [] s0 (rec c1 c2)) (K : Int32 → Option Int32) (hK : ∀ (e3 : Int32), VF mX1_lostPeople 1 SH (jP s0) 32 [(1, .int e3)] [] s0 (K e3)) (c1 : Int32) (c2 : Int32) : VF mX1_lostPeople 1 SH (jP s0) 4 [(0, .ref b), (1, .int c1), (2, .int c2)] [] s0 (B_X1_lostPeople_4 rec b s0 K c1 c2) := by
  unfold B_X1_lostPeople_4
  refine v_iload_n dX1_lostPeople_4 rfl rfl ?_
  refine v_aload_n dX1_lostPeople_5 rfl rfl ?_
  refine v_geti dX1_lostPeople_6 kf_X1_49 h.1 rfl ?_
  refine v_icmp_ge (tgt := 32) dX1_lostPeople_9 (by decide) (fun _ => ?_) (fun _ => ?_)
  · skip
    exact v_pick [1] rfl (hK _)
  refine v_aload_n dX1_lostPeople_12 rfl rfl ?_
  refine v_iload_n dX1_lostPeople_13 rfl rfl ?_
  refine v_cpI (fun z hz => runV (as := [.int c2]) dX1_lostPeople_14 kv_X1_69 rfl rfl (Nat.le_of_ble_eq_true rfl) (Nat.le_of_ble_eq_true rfl) (recvW h.1 rfl rfl) (ct_X1_isLost _ _ h _) hz) (fun x4 => ?_)
  refine v_bnK (fun K6 => ∀ (t5 : Int32), VF mX1_lostPeople 1 SH (jP s0) 26 [(0, .ref b), (1, .int t5), (2, .int c2)] [] s0 (K6 t5)) (fun K6 hK6 => ?_) (fun t5 => ?_)
  · skip
    refine v_if_eq (tgt := 26) dX1_lostPeople_17 (by decide) (fun _ => ?_) (fun _ => ?_)
    · skip
      exact v_pick [0, 1, 2] rfl (hK6 _)
    refine v_iload_n dX1_lostPeople_20 rfl rfl ?_
    refine v_iconst (v := 1) dX1_lostPeople_21 (by decide +kernel) ?_
    refine v_iload_n dX1_lostPeople_22 rfl rfl ?_
    refine v_ishl dX1_lostPeople_23 ?_
    refine v_ior dX1_lostPeople_24 ?_
    refine v_topi (fun x7 => ?_)
    refine v_istore_n (L' := [(1, .int x7), (0, .ref b), (2, .int c2)]) dX1_lostPeople_25 rfl (by decide) rfl ?_
    exact v_pick [1, 0, 2] rfl (hK6 _)
  refine v_iinc (v := (c2 + (1 : Int32))) (L' := [(2, .int (c2 + (1 : Int32))), (0, .ref b), (1, .int t5)]) dX1_lostPeople_26 rfl rfl (by decide) rfl ?_
  refine v_goto (tgt := 4) dX1_lostPeople_29 (by decide) ?_
  exact v_pick [1, 2, 0] rfl (hrec _ _)
theorem wL_X1_lostPeople_4 {SH : SHT} (b : Nat) (s0 : St) (h : isMoor SH b) (K : Int32 → Option Int32) (hK : ∀ (e3 : Int32), VF mX1_lostPeople 1 SH (jP s0) 32 [(1, .int e3)] [] s0 (K e3)) : ∀ (n : Nat) (c1 : Int32) (c2 : Int32), VF mX1_lostPeople 1 SH (jP s0) 4 [(0, .ref b), (1, .int c1), (2, .int c2)] [] s0 (L_X1_lostPeople_4 b s0 K n c1 c2) := by
  intro n
  induction n with
  | zero => intros; exact v_none
  | succ n ih => intro c1 c2; exact wB_X1_lostPeople_4 b s0 h _ ih K hK c1 c2
set_option maxHeartbeats 4000000 in
set_option maxRecDepth 100000 in
theorem w_X1_lostPeople {SH : SHT} (b : Nat) (h : isMoor SH b) (s0 : St) : VF mX1_lostPeople 1 SH (jP s0) 0 [(0, .ref b)] [] s0 (f_X1_lostPeople b s0) := by
  unfold f_X1_lostPeople
  refine v_iconst (v := 0) dX1_lostPeople_0 (by decide +kernel) ?_
  refine v_istore_n (L' := [(1, .int (0 : Int32)), (0, .ref b)]) dX1_lostPeople_1 rfl (by decide) rfl ?_
  refine v_iconst (v := 0) dX1_lostPeople_2 (by decide +kernel) ?_
  refine v_istore_n (L' := [(2, .int (0 : Int32)), (1, .int (0 : Int32)), (0, .ref b)]) dX1_lostPeople_3 rfl (by decide) rfl ?_
  refine v_pick [2, 1, 0] rfl (wL_X1_lostPeople_4 b s0 h _ (fun e3 => ?_) FU _ _)
  refine v_iload_n dX1_lostPeople_32 rfl rfl ?_
  exact v_ret (ty := .int) dX1_lostPeople_33 rfl rfl rfl
theorem ct_X1_lostPeople {SH : SHT} (b : Nat) (h : isMoor SH b) (s0 : St) : CT yX1_lostPeople mX1_lostPeople 1 SH (jP s0) [.ref b] s0 (f_X1_lostPeople b s0) := CT.of (by decide +kernel) rfl (fun E => Nat.le_of_ble_eq_true rfl) (w_X1_lostPeople b h s0)
set_option maxHeartbeats 4000000 in
set_option maxRecDepth 100000 in
theorem wB_X1_allSure_4 {SH : SHT} (b : Nat) (s0 : St) (h : isMoor SH b) (rec : Int32 → Int32 → Option Int32) (hrec : ∀ (c1 : Int32) (c2 : Int32), VF mX1_allSure 0 SH (jP s0) 4 [(0, .ref b), (1, .int c1), (2, .int c2)] [] s0 (rec c1 c2)) (K : Int32 → Option Int32) (hK : ∀ (e3 : Int32), VF mX1_allSure 0 SH (jP s0) 27 [(1, .int e3)] [] s0 (K e3)) (c1 : Int32) (c2 : Int32) : VF mX1_allSure 0 SH (jP s0) 4 [(0, .ref b), (1, .int c1), (2, .int c2)] [] s0 (B_X1_allSure_4 rec b s0 K c1 c2) := by
  unfold B_X1_allSure_4
  refine v_iload_n dX1_allSure_4 rfl rfl ?_
  refine v_aload_n dX1_allSure_5 rfl rfl ?_
  refine v_geti dX1_allSure_6 kf_X1_49 h.1 rfl ?_
  refine v_icmp_ge (tgt := 27) dX1_allSure_9 (by decide) (fun _ => ?_) (fun _ => ?_)
  · skip
    exact v_pick [1] rfl (hK _)
  refine v_iload_n dX1_allSure_12 rfl rfl ?_
  refine v_aload_n dX1_allSure_13 rfl rfl ?_
  refine v_getr dX1_allSure_14 kf_X1_30 h.1 rfl ?_
  refine v_iload_n dX1_allSure_17 rfl rfl ?_
  refine v_gd (fun g4 => ?_)
  refine v_iald dX1_allSure_18 h.2.2.2.2.2.2.2.1 g4 rfl ?_
  refine v_iadd dX1_allSure_19 ?_
  refine v_topi (fun x5 => ?_)
  refine v_istore_n (L' := [(1, .int x5), (0, .ref b), (2, .int c2)]) dX1_allSure_20 rfl (by decide) rfl ?_
  refine v_iinc (v := (c2 + (1 : Int32))) (L' := [(2, .int (c2 + (1 : Int32))), (1, .int x5), (0, .ref b)]) dX1_allSure_21 rfl rfl (by decide) rfl ?_
  refine v_goto (tgt := 4) dX1_allSure_24 (by decide) ?_
  exact v_pick [2, 1, 0] rfl (hrec _ _)
theorem wL_X1_allSure_4 {SH : SHT} (b : Nat) (s0 : St) (h : isMoor SH b) (K : Int32 → Option Int32) (hK : ∀ (e3 : Int32), VF mX1_allSure 0 SH (jP s0) 27 [(1, .int e3)] [] s0 (K e3)) : ∀ (n : Nat) (c1 : Int32) (c2 : Int32), VF mX1_allSure 0 SH (jP s0) 4 [(0, .ref b), (1, .int c1), (2, .int c2)] [] s0 (L_X1_allSure_4 b s0 K n c1 c2) := by
  intro n
  induction n with
  | zero => intros; exact v_none
  | succ n ih => intro c1 c2; exact wB_X1_allSure_4 b s0 h _ ih K hK c1 c2
set_option maxHeartbeats 4000000 in
set_option maxRecDepth 100000 in
theorem w_X1_allSure {SH : SHT} (b : Nat) (h : isMoor SH b) (s0 : St) : VF mX1_allSure 0 SH (jP s0) 0 [(0, .ref b)] [] s0 (f_X1_allSure b s0) := by
  unfold f_X1_allSure
  refine v_iconst (v := 0) dX1_allSure_0 (by decide +kernel) ?_
  refine v_istore_n (L' := [(1, .int (0 : Int32)), (0, .ref b)]) dX1_allSure_1 rfl (by decide) rfl ?_
  refine v_iconst (v := 0) dX1_allSure_2 (by decide +kernel) ?_
  refine v_istore_n (L' := [(2, .int (0 : Int32)), (1, .int (0 : Int32)), (0, .ref b)]) dX1_allSure_3 rfl (by decide) rfl ?_
  refine v_pick [2, 1, 0] rfl (wL_X1_allSure_4 b s0 h _ (fun e3 => ?_) FU _ _)
  refine v_iload_n dX1_allSure_27 rfl rfl ?_
  exact v_ret (ty := .int) dX1_allSure_28 rfl rfl rfl
theorem ct_X1_allSure {SH : SHT} (b : Nat) (h : isMoor SH b) (s0 : St) : CT yX1_allSure mX1_allSure 0 SH (jP s0) [.ref b] s0 (f_X1_allSure b s0) := CT.of (by decide +kernel) rfl (fun E => Nat.le_of_ble_eq_true rfl) (w_X1_allSure b h s0)
set_option maxHeartbeats 4000000 in
set_option maxRecDepth 100000 in
theorem wB_X1_allWater_4 {SH : SHT} (b : Nat) (s0 : St) (h : isMoor SH b) (rec : Int32 → Int32 → Option Int32) (hrec : ∀ (c1 : Int32) (c2 : Int32), VF mX1_allWater 0 SH (jP s0) 4 [(0, .ref b), (1, .int c1), (2, .int c2)] [] s0 (rec c1 c2)) (K : Int32 → Option Int32) (hK : ∀ (e3 : Int32), VF mX1_allWater 0 SH (jP s0) 25 [(1, .int e3)] [] s0 (K e3)) (c1 : Int32) (c2 : Int32) : VF mX1_allWater 0 SH (jP s0) 4 [(0, .ref b), (1, .int c1), (2, .int c2)] [] s0 (B_X1_allWater_4 rec b s0 K c1 c2) := by
  unfold B_X1_allWater_4
  refine v_iload_n dX1_allWater_4 rfl rfl ?_
  refine v_bipush (v := 32) dX1_allWater_5 (by decide +kernel) ?_
  refine v_icmp_ge (tgt := 25) dX1_allWater_7 (by decide) (fun _ => ?_) (fun _ => ?_)
  · skip
    exact v_pick [1] rfl (hK _)
  refine v_iload_n dX1_allWater_10 rfl rfl ?_
  refine v_aload_n dX1_allWater_11 rfl rfl ?_
  refine v_getr dX1_allWater_12 kf_X1_18 h.1 rfl ?_
  refine v_iload_n dX1_allWater_15 rfl rfl ?_
  refine v_gd (fun g4 => ?_)
  refine v_iald dX1_allWater_16 h.2.2.2.1 g4 rfl ?_
  refine v_iadd dX1_allWater_17 ?_
  refine v_topi (fun x5 => ?_)
  refine v_istore_n (L' := [(1, .int x5), (0, .ref b), (2, .int c2)]) dX1_allWater_18 rfl (by decide) rfl ?_
  refine v_iinc (v := (c2 + (1 : Int32))) (L' := [(2, .int (c2 + (1 : Int32))), (1, .int x5), (0, .ref b)]) dX1_allWater_19 rfl rfl (by decide) rfl ?_
  refine v_goto (tgt := 4) dX1_allWater_22 (by decide) ?_
  exact v_pick [2, 1, 0] rfl (hrec _ _)
theorem wL_X1_allWater_4 {SH : SHT} (b : Nat) (s0 : St) (h : isMoor SH b) (K : Int32 → Option Int32) (hK : ∀ (e3 : Int32), VF mX1_allWater 0 SH (jP s0) 25 [(1, .int e3)] [] s0 (K e3)) : ∀ (n : Nat) (c1 : Int32) (c2 : Int32), VF mX1_allWater 0 SH (jP s0) 4 [(0, .ref b), (1, .int c1), (2, .int c2)] [] s0 (L_X1_allWater_4 b s0 K n c1 c2) := by
  intro n
  induction n with
  | zero => intros; exact v_none
  | succ n ih => intro c1 c2; exact wB_X1_allWater_4 b s0 h _ ih K hK c1 c2
set_option maxHeartbeats 4000000 in
set_option maxRecDepth 100000 in
theorem w_X1_allWater {SH : SHT} (b : Nat) (h : isMoor SH b) (s0 : St) : VF mX1_allWater 0 SH (jP s0) 0 [(0, .ref b)] [] s0 (f_X1_allWater b s0) := by
  unfold f_X1_allWater
  refine v_iconst (v := 0) dX1_allWater_0 (by decide +kernel) ?_
  refine v_istore_n (L' := [(1, .int (0 : Int32)), (0, .ref b)]) dX1_allWater_1 rfl (by decide) rfl ?_
  refine v_iconst (v := 0) dX1_allWater_2 (by decide +kernel) ?_
  refine v_istore_n (L' := [(2, .int (0 : Int32)), (1, .int (0 : Int32)), (0, .ref b)]) dX1_allWater_3 rfl (by decide) rfl ?_
  refine v_pick [2, 1, 0] rfl (wL_X1_allWater_4 b s0 h _ (fun e3 => ?_) FU _ _)
  refine v_iload_n dX1_allWater_25 rfl rfl ?_
  exact v_ret (ty := .int) dX1_allWater_26 rfl rfl rfl
theorem ct_X1_allWater {SH : SHT} (b : Nat) (h : isMoor SH b) (s0 : St) : CT yX1_allWater mX1_allWater 0 SH (jP s0) [.ref b] s0 (f_X1_allWater b s0) := CT.of (by decide +kernel) rfl (fun E => Nat.le_of_ble_eq_true rfl) (w_X1_allWater b h s0)
set_option maxHeartbeats 4000000 in
set_option maxRecDepth 100000 in
theorem wB_X1_wetCells_4 {SH : SHT} (b : Nat) (s0 : St) (h : isMoor SH b) (rec : Int64 → Int32 → Option Int64) (hrec : ∀ (c1 : Int64) (c2 : Int32), VF mX1_wetCells 1 SH (jQ s0) 4 [(0, .ref b), (1, .long c1), (3, .int c2)] [] s0 (rec c1 c2)) (K : Int64 → Option Int64) (hK : ∀ (e3 : Int64), VF mX1_wetCells 1 SH (jQ s0) 30 [(1, .long e3)] [] s0 (K e3)) (c1 : Int64) (c2 : Int32) : VF mX1_wetCells 1 SH (jQ s0) 4 [(0, .ref b), (1, .long c1), (3, .int c2)] [] s0 (B_X1_wetCells_4 rec b s0 K c1 c2) := by
  unfold B_X1_wetCells_4
  refine v_iload_n dX1_wetCells_4 rfl rfl ?_
  refine v_bipush (v := 32) dX1_wetCells_5 (by decide +kernel) ?_
  refine v_icmp_ge (tgt := 30) dX1_wetCells_7 (by decide) (fun _ => ?_) (fun _ => ?_)
  · skip
    exact v_pick [1] rfl (hK _)
  refine v_aload_n dX1_wetCells_10 rfl rfl ?_
  refine v_iload_n dX1_wetCells_11 rfl rfl ?_
  refine v_cpI (fun z hz => runV (as := [.int c2]) dX1_wetCells_12 kv_X1_96 rfl rfl (Nat.le_of_ble_eq_true rfl) (Nat.le_of_ble_eq_true rfl) (recvW h.1 rfl rfl) (ct_X1_isWet _ _ h _) hz) (fun x4 => ?_)
  refine v_bnK (fun K6 => ∀ (t5 : Int64), VF mX1_wetCells 1 SH (jQ s0) 24 [(0, .ref b), (1, .long t5), (3, .int c2)] [] s0 (K6 t5)) (fun K6 hK6 => ?_) (fun t5 => ?_)
  · skip
    refine v_if_eq (tgt := 24) dX1_wetCells_15 (by decide) (fun _ => ?_) (fun _ => ?_)
    · skip
      exact v_pick [0, 1, 2] rfl (hK6 _)
    refine v_lload_n dX1_wetCells_18 rfl rfl ?_
    refine v_lconst (v := 1) dX1_wetCells_19 (by decide +kernel) ?_
    refine v_iload_n dX1_wetCells_20 rfl rfl ?_
    refine v_lshl dX1_wetCells_21 ?_
    refine v_lor dX1_wetCells_22 ?_
    refine v_topl (fun x7 => ?_)
    refine v_lstore_n (L' := [(1, .long x7), (0, .ref b), (3, .int c2)]) dX1_wetCells_23 rfl (by decide) rfl ?_
    exact v_pick [1, 0, 2] rfl (hK6 _)
  refine v_iinc (v := (c2 + (1 : Int32))) (L' := [(3, .int (c2 + (1 : Int32))), (0, .ref b), (1, .long t5)]) dX1_wetCells_24 rfl rfl (by decide) rfl ?_
  refine v_goto (tgt := 4) dX1_wetCells_27 (by decide) ?_
  exact v_pick [1, 2, 0] rfl (hrec _ _)
theorem wL_X1_wetCells_4 {SH : SHT} (b : Nat) (s0 : St) (h : isMoor SH b) (K : Int64 → Option Int64) (hK : ∀ (e3 : Int64), VF mX1_wetCells 1 SH (jQ s0) 30 [(1, .long e3)] [] s0 (K e3)) : ∀ (n : Nat) (c1 : Int64) (c2 : Int32), VF mX1_wetCells 1 SH (jQ s0) 4 [(0, .ref b), (1, .long c1), (3, .int c2)] [] s0 (L_X1_wetCells_4 b s0 K n c1 c2) := by
  intro n
  induction n with
  | zero => intros; exact v_none
  | succ n ih => intro c1 c2; exact wB_X1_wetCells_4 b s0 h _ ih K hK c1 c2
set_option maxHeartbeats 4000000 in
set_option maxRecDepth 100000 in
theorem w_X1_wetCells {SH : SHT} (b : Nat) (h : isMoor SH b) (s0 : St) : VF mX1_wetCells 1 SH (jQ s0) 0 [(0, .ref b)] [] s0 (f_X1_wetCells b s0) := by
  unfold f_X1_wetCells
  refine v_lconst (v := 0) dX1_wetCells_0 (by decide +kernel) ?_
  refine v_lstore_n (L' := [(1, .long (0 : Int64)), (0, .ref b)]) dX1_wetCells_1 rfl (by decide) rfl ?_
  refine v_iconst (v := 0) dX1_wetCells_2 (by decide +kernel) ?_
  refine v_istore_n (L' := [(3, .int (0 : Int32)), (1, .long (0 : Int64)), (0, .ref b)]) dX1_wetCells_3 rfl (by decide) rfl ?_
  refine v_pick [2, 1, 0] rfl (wL_X1_wetCells_4 b s0 h _ (fun e3 => ?_) FU _ _)
  refine v_lload_n dX1_wetCells_30 rfl rfl ?_
  exact v_lret dX1_wetCells_31 rfl rfl
theorem ct_X1_wetCells {SH : SHT} (b : Nat) (h : isMoor SH b) (s0 : St) : CT yX1_wetCells mX1_wetCells 1 SH (jQ s0) [.ref b] s0 (f_X1_wetCells b s0) := CT.of (by decide +kernel) rfl (fun E => Nat.le_of_ble_eq_true rfl) (w_X1_wetCells b h s0)
