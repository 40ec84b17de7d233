set_option maxHeartbeats 4000000 in
set_option maxRecDepth 100000 in
theorem w_X4_in {SH : SHT} (a0 : Int64) (a2 : Int64) (a4 : Int64) (s0 : St) : VF mX4_in 0 SH (jP s0) 0 [(0, .long a0), (2, .long a2), (4, .long a4)] [] s0 (f_X4_in a0 a2 a4) := by
  unfold f_X4_in
  refine v_lload_n dX4_in_0 rfl rfl ?_
  refine v_lload_n dX4_in_1 rfl rfl ?_
  refine v_lcmp dX4_in_2 ?_
  refine v_if_lt (tgt := 17) dX4_in_3 (by decide) (fun _ => ?_) (fun _ => ?_)
  · skip
    refine v_iconst (v := 0) dX4_in_17 (by decide +kernel) ?_
    exact v_ret (ty := .boolean) dX4_in_18 rfl rfl (by decide +kernel)
  refine v_lload_n dX4_in_6 rfl rfl ?_
  refine v_lload dX4_in_7 rfl ?_
  refine v_lcmp dX4_in_9 ?_
  refine v_if_gt (tgt := 17) dX4_in_10 (by decide) (fun _ => ?_) (fun _ => ?_)
  · skip
    refine v_iconst (v := 0) dX4_in_17 (by decide +kernel) ?_
    exact v_ret (ty := .boolean) dX4_in_18 rfl rfl (by decide +kernel)
  refine v_iconst (v := 1) dX4_in_13 (by decide +kernel) ?_
  refine v_goto (tgt := 18) dX4_in_14 (by decide) ?_
  exact v_ret (ty := .boolean) dX4_in_18 rfl rfl (by decide +kernel)
theorem ct_X4_in {SH : SHT} (a0 : Int64) (a2 : Int64) (a4 : Int64) (s0 : St) : CT yX4_in mX4_in 0 SH (jP s0) [.long a0, .long a2, .long a4] s0 (f_X4_in a0 a2 a4) := CT.of (by decide +kernel) rfl (fun E => Nat.le_of_ble_eq_true rfl) (w_X4_in a0 a2 a4  s0)
set_option maxHeartbeats 4000000 in
set_option maxRecDepth 100000 in
theorem wB_X4_first_10 {SH : SHT} (b : Nat) (x1 : Int32) (h : isModel SH b) (rec : Int32 → St → Option St) (hrec : ∀ (c2 : Int32) (s3 : St), VF mX4_first 1 SH jV 10 [(0, .ref b), (1, .int x1), (2, .int c2)] [] s3 (rec c2 s3)) (K : St → Option St) (hK : ∀ (s4 : St), VF mX4_first 1 SH jV 47 [(0, .ref b), (1, .int x1)] [] s4 (K s4)) (c2 : Int32) (s3 : St) : VF mX4_first 1 SH jV 10 [(0, .ref b), (1, .int x1), (2, .int c2)] [] s3 (B_X4_first_10 rec b x1 K c2 s3) := by
  unfold B_X4_first_10
  refine v_iload_n dX4_first_10 rfl rfl ?_
  refine v_bipush (v := 103) dX4_first_11 (by decide +kernel) ?_
  refine v_icmp_ge (tgt := 47) dX4_first_13 (by decide) (fun _ => ?_) (fun _ => ?_)
  · skip
    exact v_pick [0, 1] rfl (hK _)
  refine v_aload_n dX4_first_16 rfl rfl ?_
  refine v_getr dX4_first_17 kf_X4_7 h.1 rfl ?_
  refine v_iload_n dX4_first_20 rfl rfl ?_
  refine v_iload_n dX4_first_21 rfl rfl ?_
  refine v_i2l dX4_first_22 ?_
  refine v_ldc2 dX4_first_23 kcL_X4_57 ?_
  refine v_ldc2 dX4_first_26 kcL_X4_59 ?_
  refine v_cpI (fun z hz => runT (as := [.long (c2).toInt64, .long (7 : Int64), .long (38 : Int64)]) dX4_first_29 kt_X4_61 rfl rfl (Nat.le_of_ble_eq_true rfl) (Nat.le_of_ble_eq_true rfl) (ct_X4_in _ _ _  _) hz) (fun x5 => ?_)
  refine v_bnK (fun K7 => ∀ (t6 : Int32), VF mX4_first 1 SH jV 40 [(0, .ref b), (1, .int x1), (2, .int c2)] [.int t6, .int c2, .ref (b + 1)] s3 (K7 t6)) (fun K7 hK7 => ?_) (fun t6 => ?_)
  · skip
    refine v_if_eq (tgt := 39) dX4_first_32 (by decide) (fun _ => ?_) (fun _ => ?_)
    · skip
      refine v_iconst (v := 0) dX4_first_39 (by decide +kernel) ?_
      exact v_pick [0, 1, 2] rfl (hK7 _)
    refine v_iconst (v := 5) dX4_first_35 (by decide +kernel) ?_
    refine v_goto (tgt := 40) dX4_first_36 (by decide) ?_
    exact v_pick [0, 1, 2] rfl (hK7 _)
  refine v_gd (fun g8 => ?_)
  refine v_iast dX4_first_40 h.2.1 g8 rfl (v_st fun s9 => ?_)
  refine v_iinc (v := (c2 + (1 : Int32))) (L' := [(2, .int (c2 + (1 : Int32))), (0, .ref b), (1, .int x1)]) dX4_first_41 rfl rfl (by decide) rfl ?_
  refine v_goto (tgt := 10) dX4_first_44 (by decide) ?_
  exact v_pick [1, 2, 0] rfl (hrec _ _)
theorem wL_X4_first_10 {SH : SHT} (b : Nat) (x1 : Int32) (h : isModel SH b) (K : St → Option St) (hK : ∀ (s4 : St), VF mX4_first 1 SH jV 47 [(0, .ref b), (1, .int x1)] [] s4 (K s4)) : ∀ (n : Nat) (c2 : Int32) (s3 : St), VF mX4_first 1 SH jV 10 [(0, .ref b), (1, .int x1), (2, .int c2)] [] s3 (L_X4_first_10 b x1 K n c2 s3) := by
  intro n
  induction n with
  | zero => intros; exact v_none
  | succ n ih => intro c2 s3; exact wB_X4_first_10 b x1 h _ ih K hK c2 s3
set_option maxHeartbeats 4000000 in
set_option maxRecDepth 100000 in
theorem w_X4_first {SH : SHT} (b : Nat) (h : isModel SH b) (s0 : St) : VF mX4_first 1 SH jV 0 [(0, .ref b)] [] s0 (f_X4_first b s0) := by
  unfold f_X4_first
  refine v_aload_n dX4_first_0 rfl rfl ?_
  refine v_getr dX4_first_1 kf_X4_7 h.1 rfl ?_
  refine v_bipush (v := 6) dX4_first_4 (by decide +kernel) ?_
  refine v_iald dX4_first_6 h.2.1 (by decide +kernel) (j := 6) (by decide +kernel) ?_
  refine v_topi (fun x1 => ?_)
  refine v_istore_n (L' := [(1, .int x1), (0, .ref b)]) dX4_first_7 rfl (by decide) rfl ?_
  refine v_iconst (v := 0) dX4_first_8 (by decide +kernel) ?_
  refine v_istore_n (L' := [(2, .int (0 : Int32)), (1, .int x1), (0, .ref b)]) dX4_first_9 rfl (by decide) rfl ?_
  refine v_pick [2, 1, 0] rfl (wL_X4_first_10 b x1 h _ (fun s4 => ?_) FU _ _)
  refine v_aload_n dX4_first_47 rfl rfl ?_
  refine v_getr dX4_first_48 kf_X4_7 h.1 rfl ?_
  refine v_iconst (v := 0) dX4_first_51 (by decide +kernel) ?_
  refine v_iconst (v := 2) dX4_first_52 (by decide +kernel) ?_
  refine v_iast dX4_first_53 h.2.1 (by decide +kernel) (j := 0) (by decide +kernel) (v_st fun s10 => ?_)
  refine v_aload_n dX4_first_54 rfl rfl ?_
  refine v_getr dX4_first_55 kf_X4_7 h.1 rfl ?_
  refine v_iconst (v := 1) dX4_first_58 (by decide +kernel) ?_
  refine v_iconst (v := 3) dX4_first_59 (by decide +kernel) ?_
  refine v_iast dX4_first_60 h.2.1 (by decide +kernel) (j := 1) (by decide +kernel) (v_st fun s11 => ?_)
  refine v_aload_n dX4_first_61 rfl rfl ?_
  refine v_getr dX4_first_62 kf_X4_7 h.1 rfl ?_
  refine v_iconst (v := 2) dX4_first_65 (by decide +kernel) ?_
  refine v_bipush (v := 20) dX4_first_66 (by decide +kernel) ?_
  refine v_iast dX4_first_68 h.2.1 (by decide +kernel) (j := 2) (by decide +kernel) (v_st fun s12 => ?_)
  refine v_aload_n dX4_first_69 rfl rfl ?_
  refine v_getr dX4_first_70 kf_X4_7 h.1 rfl ?_
  refine v_iconst (v := 3) dX4_first_73 (by decide +kernel) ?_
  refine v_bipush (v := 20) dX4_first_74 (by decide +kernel) ?_
  refine v_iast dX4_first_76 h.2.1 (by decide +kernel) (j := 3) (by decide +kernel) (v_st fun s13 => ?_)
  refine v_aload_n dX4_first_77 rfl rfl ?_
  refine v_getr dX4_first_78 kf_X4_7 h.1 rfl ?_
  refine v_bipush (v := 6) dX4_first_81 (by decide +kernel) ?_
  refine v_iload_n dX4_first_83 rfl rfl ?_
  refine v_iast dX4_first_84 h.2.1 (by decide +kernel) (j := 6) (by decide +kernel) (v_st fun s14 => ?_)
  exact v_vret dX4_first_85 rfl rfl
theorem ct_X4_first {SH : SHT} (b : Nat) (h : isModel SH b) (s0 : St) : CT yX4_first mX4_first 1 SH jV [.ref b] s0 (f_X4_first b s0) := CT.of (by decide +kernel) rfl (fun E => Nat.le_of_ble_eq_true rfl) (w_X4_first b h s0)
set_option maxHeartbeats 4000000 in
set_option maxRecDepth 100000 in
theorem w_X4_held {SH : SHT} (a0 : Int32) (s0 : St) : VF mX4_held 0 SH (jP s0) 0 [(0, .int a0)] [] s0 (f_X4_held a0) := by
  unfold f_X4_held
  refine v_iload_n dX4_held_0 rfl rfl ?_
  refine v_if_ge (tgt := 8) dX4_held_1 (by decide) (fun _ => ?_) (fun _ => ?_)
  · skip
    refine v_iload_n dX4_held_8 rfl rfl ?_
    refine v_bipush (v := 99) dX4_held_9 (by decide +kernel) ?_
    refine v_icmp_le (tgt := 19) dX4_held_11 (by decide) (fun _ => ?_) (fun _ => ?_)
    · skip
      refine v_iload_n dX4_held_19 rfl rfl ?_
      exact v_ret (ty := .int) dX4_held_20 rfl rfl rfl
    refine v_bipush (v := 99) dX4_held_14 (by decide +kernel) ?_
    refine v_goto (tgt := 20) dX4_held_16 (by decide) ?_
    exact v_ret (ty := .int) dX4_held_20 rfl rfl rfl
  refine v_iconst (v := 0) dX4_held_4 (by decide +kernel) ?_
  refine v_goto (tgt := 20) dX4_held_5 (by decide) ?_
  exact v_ret (ty := .int) dX4_held_20 rfl rfl rfl
theorem ct_X4_held {SH : SHT} (a0 : Int32) (s0 : St) : CT yX4_held mX4_held 0 SH (jP s0) [.int a0] s0 (f_X4_held a0) := CT.of (by decide +kernel) rfl (fun E => Nat.le_of_ble_eq_true rfl) (w_X4_held a0  s0)
set_option maxHeartbeats 4000000 in
set_option maxRecDepth 100000 in
theorem w_X4_isPerson {SH : SHT} (b : Nat) (a1 : Int32) (h : isModel SH b) (s0 : St) : VF mX4_isPerson 1 SH (jP s0) 0 [(0, .ref b), (1, .int a1)] [] s0 (f_X4_isPerson b a1 s0) := by
  unfold f_X4_isPerson
  refine v_iload_n dX4_isPerson_0 rfl rfl ?_
  refine v_i2l dX4_isPerson_1 ?_
  refine v_lconst (v := 0) dX4_isPerson_2 (by decide +kernel) ?_
  refine v_aload_n dX4_isPerson_3 rfl rfl ?_
  refine v_getr dX4_isPerson_4 kf_X4_7 h.1 rfl ?_
  refine v_iconst (v := 5) dX4_isPerson_7 (by decide +kernel) ?_
  refine v_iald dX4_isPerson_8 h.2.1 (by decide +kernel) (j := 5) (by decide +kernel) ?_
  refine v_iconst (v := 1) dX4_isPerson_9 (by decide +kernel) ?_
  refine v_isub dX4_isPerson_10 ?_
  refine v_i2l dX4_isPerson_11 ?_
  refine v_cpI (fun z hz => runT (as := [.long (a1).toInt64, .long (0 : Int64), .long (((gA s0 (b + 1) 5) - (1 : Int32))).toInt64]) dX4_isPerson_12 kt_X4_61 rfl rfl (Nat.le_of_ble_eq_true rfl) (Nat.le_of_ble_eq_true rfl) (ct_X4_in _ _ _  _) hz) (fun x1 => ?_)
  exact v_retz dX4_isPerson_15 rfl rfl
theorem ct_X4_isPerson {SH : SHT} (b : Nat) (a1 : Int32) (h : isModel SH b) (s0 : St) : CT yX4_isPerson mX4_isPerson 1 SH (jP s0) [.ref b, .int a1] s0 (f_X4_isPerson b a1 s0) := CT.of (by decide +kernel) rfl (fun E => Nat.le_of_ble_eq_true rfl) (w_X4_isPerson b a1 h s0)
set_option maxHeartbeats 4000000 in
set_option maxRecDepth 100000 in
theorem w_X4_isCell {SH : SHT} (a0 : Int32) (s0 : St) : VF mX4_isCell 1 SH (jP s0) 0 [(0, .int a0)] [] s0 (f_X4_isCell a0) := by
  unfold f_X4_isCell
  refine v_iload_n dX4_isCell_0 rfl rfl ?_
  refine v_i2l dX4_isCell_1 ?_
  refine v_lconst (v := 0) dX4_isCell_2 (by decide +kernel) ?_
  refine v_ldc2 dX4_isCell_3 kcL_X4_65 ?_
  refine v_cpI (fun z hz => runT (as := [.long (a0).toInt64, .long (0 : Int64), .long (31 : Int64)]) dX4_isCell_6 kt_X4_61 rfl rfl (Nat.le_of_ble_eq_true rfl) (Nat.le_of_ble_eq_true rfl) (ct_X4_in _ _ _  _) hz) (fun x1 => ?_)
  exact v_retz dX4_isCell_9 rfl rfl
theorem ct_X4_isCell {SH : SHT} (a0 : Int32) (s0 : St) : CT yX4_isCell mX4_isCell 1 SH (jP s0) [.int a0] s0 (f_X4_isCell a0) := CT.of (by decide +kernel) rfl (fun E => Nat.le_of_ble_eq_true rfl) (w_X4_isCell a0  s0)
set_option maxHeartbeats 4000000 in
set_option maxRecDepth 100000 in
theorem w_X4_get {SH : SHT} (b : Nat) (a1 : Int32) (a2 : Int32) (h : isModel SH b) (s0 : St) : VF mX4_get 0 SH (jP s0) 0 [(0, .ref b), (1, .int a1), (2, .int a2)] [] s0 (f_X4_get b a1 a2 s0) := by
  unfold f_X4_get
  refine v_aload_n dX4_get_0 rfl rfl ?_
  refine v_getr dX4_get_1 kf_X4_7 h.1 rfl ?_
  refine v_bipush (v := 71) dX4_get_4 (by decide +kernel) ?_
  refine v_iconst (v := 4) dX4_get_6 (by decide +kernel) ?_
  refine v_iload_n dX4_get_7 rfl rfl ?_
  refine v_imul dX4_get_8 ?_
  refine v_iadd dX4_get_9 ?_
  refine v_iload_n dX4_get_10 rfl rfl ?_
  refine v_iadd dX4_get_11 ?_
  refine v_gd (fun g1 => ?_)
  refine v_iald dX4_get_12 h.2.1 g1 rfl ?_
  exact v_ret (ty := .int) dX4_get_13 rfl rfl rfl
theorem ct_X4_get {SH : SHT} (b : Nat) (a1 : Int32) (a2 : Int32) (h : isModel SH b) (s0 : St) : CT yX4_get mX4_get 0 SH (jP s0) [.ref b, .int a1, .int a2] s0 (f_X4_get b a1 a2 s0) := CT.of (by decide +kernel) rfl (fun E => Nat.le_of_ble_eq_true rfl) (w_X4_get b a1 a2 h s0)
set_option maxHeartbeats 4000000 in
set_option maxRecDepth 100000 in
theorem w_X4_puts {SH : SHT} (b : Nat) (a1 : Int32) (a2 : Int32) (a3 : Int32) (h : isModel SH b) (s0 : St) : VF mX4_puts 0 SH jV 0 [(0, .ref b), (1, .int a1), (2, .int a2), (3, .int a3)] [] s0 (f_X4_puts b a1 a2 a3 s0) := by
  unfold f_X4_puts
  refine v_aload_n dX4_puts_0 rfl rfl ?_
  refine v_getr dX4_puts_1 kf_X4_7 h.1 rfl ?_
  refine v_bipush (v := 71) dX4_puts_4 (by decide +kernel) ?_
  refine v_iconst (v := 4) dX4_puts_6 (by decide +kernel) ?_
  refine v_iload_n dX4_puts_7 rfl rfl ?_
  refine v_imul dX4_puts_8 ?_
  refine v_iadd dX4_puts_9 ?_
  refine v_iload_n dX4_puts_10 rfl rfl ?_
  refine v_iadd dX4_puts_11 ?_
  refine v_iload_n dX4_puts_12 rfl rfl ?_
  refine v_gd (fun g1 => ?_)
  refine v_iast dX4_puts_13 h.2.1 g1 rfl (v_st fun s2 => ?_)
  exact v_vret dX4_puts_14 rfl rfl
theorem ct_X4_puts {SH : SHT} (b : Nat) (a1 : Int32) (a2 : Int32) (a3 : Int32) (h : isModel SH b) (s0 : St) : CT yX4_puts mX4_puts 0 SH jV [.ref b, .int a1, .int a2, .int a3] s0 (f_X4_puts b a1 a2 a3 s0) := CT.of (by decide +kernel) rfl (fun E => Nat.le_of_ble_eq_true rfl) (w_X4_puts b a1 a2 a3 h s0)
set_option maxHeartbeats 4000000 in
set_option maxRecDepth 100000 in
theorem wB_X4_keepAside_2 {SH : SHT} (b : Nat) (h : isModel SH b) (rec : Int32 → St → Option St) (hrec : ∀ (c1 : Int32) (s2 : St), VF mX4_keepAside 0 SH jV 2 [(0, .ref b), (1, .int c1)] [] s2 (rec c1 s2)) (K : St → Option St) (hK : ∀ (s3 : St), VF mX4_keepAside 0 SH jV 26 [] [] s3 (K s3)) (c1 : Int32) (s2 : St) : VF mX4_keepAside 0 SH jV 2 [(0, .ref b), (1, .int c1)] [] s2 (B_X4_keepAside_2 rec b K c1 s2) := by
  unfold B_X4_keepAside_2
  refine v_iload_n dX4_keepAside_2 rfl rfl ?_
  refine v_bipush (v := 103) dX4_keepAside_3 (by decide +kernel) ?_
  refine v_icmp_ge (tgt := 26) dX4_keepAside_5 (by decide) (fun _ => ?_) (fun _ => ?_)
  · skip
    exact v_pick [] rfl (hK _)
  refine v_aload_n dX4_keepAside_8 rfl rfl ?_
  refine v_getr dX4_keepAside_9 kf_X4_16 h.1 rfl ?_
  refine v_iload_n dX4_keepAside_12 rfl rfl ?_
  refine v_aload_n dX4_keepAside_13 rfl rfl ?_
  refine v_getr dX4_keepAside_14 kf_X4_7 h.1 rfl ?_
  refine v_iload_n dX4_keepAside_17 rfl rfl ?_
  refine v_gd (fun g4 => ?_)
  refine v_iald dX4_keepAside_18 h.2.1 g4 rfl ?_
  refine v_gd (fun g5 => ?_)
  refine v_iast dX4_keepAside_19 h.2.2.2.1 g5 rfl (v_st fun s6 => ?_)
  refine v_iinc (v := (c1 + (1 : Int32))) (L' := [(1, .int (c1 + (1 : Int32))), (0, .ref b)]) dX4_keepAside_20 rfl rfl (by decide) rfl ?_
  refine v_goto (tgt := 2) dX4_keepAside_23 (by decide) ?_
  exact v_pick [1, 0] rfl (hrec _ _)
theorem wL_X4_keepAside_2 {SH : SHT} (b : Nat) (h : isModel SH b) (K : St → Option St) (hK : ∀ (s3 : St), VF mX4_keepAside 0 SH jV 26 [] [] s3 (K s3)) : ∀ (n : Nat) (c1 : Int32) (s2 : St), VF mX4_keepAside 0 SH jV 2 [(0, .ref b), (1, .int c1)] [] s2 (L_X4_keepAside_2 b K n c1 s2) := by
  intro n
  induction n with
  | zero => intros; exact v_none
  | succ n ih => intro c1 s2; exact wB_X4_keepAside_2 b h _ ih K hK c1 s2
set_option maxHeartbeats 4000000 in
set_option maxRecDepth 100000 in
theorem w_X4_keepAside {SH : SHT} (b : Nat) (h : isModel SH b) (s0 : St) : VF mX4_keepAside 0 SH jV 0 [(0, .ref b)] [] s0 (f_X4_keepAside b s0) := by
  unfold f_X4_keepAside
  refine v_iconst (v := 0) dX4_keepAside_0 (by decide +kernel) ?_
  refine v_istore_n (L' := [(1, .int (0 : Int32)), (0, .ref b)]) dX4_keepAside_1 rfl (by decide) rfl ?_
  refine v_pick [1, 0] rfl (wL_X4_keepAside_2 b h _ (fun s3 => ?_) FU _ _)
  exact v_vret dX4_keepAside_26 rfl rfl
theorem ct_X4_keepAside {SH : SHT} (b : Nat) (h : isModel SH b) (s0 : St) : CT yX4_keepAside mX4_keepAside 0 SH jV [.ref b] s0 (f_X4_keepAside b s0) := CT.of (by decide +kernel) rfl (fun E => Nat.le_of_ble_eq_true rfl) (w_X4_keepAside b h s0)
set_option maxHeartbeats 4000000 in
set_option maxRecDepth 100000 in
theorem wB_X4_putBack_2 {SH : SHT} (b : Nat) (h : isModel SH b) (rec : Int32 → St → Option St) (hrec : ∀ (c1 : Int32) (s2 : St), VF mX4_putBack 0 SH jV 2 [(0, .ref b), (1, .int c1)] [] s2 (rec c1 s2)) (K : St → Option St) (hK : ∀ (s3 : St), VF mX4_putBack 0 SH jV 26 [] [] s3 (K s3)) (c1 : Int32) (s2 : St) : VF mX4_putBack 0 SH jV 2 [(0, .ref b), (1, .int c1)] [] s2 (B_X4_putBack_2 rec b K c1 s2) := by
  unfold B_X4_putBack_2
  refine v_iload_n dX4_putBack_2 rfl rfl ?_
  refine v_bipush (v := 103) dX4_putBack_3 (by decide +kernel) ?_
  refine v_icmp_ge (tgt := 26) dX4_putBack_5 (by decide) (fun _ => ?_) (fun _ => ?_)
  · skip
    exact v_pick [] rfl (hK _)
  refine v_aload_n dX4_putBack_8 rfl rfl ?_
  refine v_getr dX4_putBack_9 kf_X4_7 h.1 rfl ?_
  refine v_iload_n dX4_putBack_12 rfl rfl ?_
  refine v_aload_n dX4_putBack_13 rfl rfl ?_
  refine v_getr dX4_putBack_14 kf_X4_16 h.1 rfl ?_
  refine v_iload_n dX4_putBack_17 rfl rfl ?_
  refine v_gd (fun g4 => ?_)
  refine v_iald dX4_putBack_18 h.2.2.2.1 g4 rfl ?_
  refine v_gd (fun g5 => ?_)
  refine v_iast dX4_putBack_19 h.2.1 g5 rfl (v_st fun s6 => ?_)
  refine v_iinc (v := (c1 + (1 : Int32))) (L' := [(1, .int (c1 + (1 : Int32))), (0, .ref b)]) dX4_putBack_20 rfl rfl (by decide) rfl ?_
  refine v_goto (tgt := 2) dX4_putBack_23 (by decide) ?_
  exact v_pick [1, 0] rfl (hrec _ _)
theorem wL_X4_putBack_2 {SH : SHT} (b : Nat) (h : isModel SH b) (K : St → Option St) (hK : ∀ (s3 : St), VF mX4_putBack 0 SH jV 26 [] [] s3 (K s3)) : ∀ (n : Nat) (c1 : Int32) (s2 : St), VF mX4_putBack 0 SH jV 2 [(0, .ref b), (1, .int c1)] [] s2 (L_X4_putBack_2 b K n c1 s2) := by
  intro n
  induction n with
  | zero => intros; exact v_none
  | succ n ih => intro c1 s2; exact wB_X4_putBack_2 b h _ ih K hK c1 s2
set_option maxHeartbeats 4000000 in
set_option maxRecDepth 100000 in
theorem w_X4_putBack {SH : SHT} (b : Nat) (h : isModel SH b) (s0 : St) : VF mX4_putBack 0 SH jV 0 [(0, .ref b)] [] s0 (f_X4_putBack b s0) := by
  unfold f_X4_putBack
  refine v_iconst (v := 0) dX4_putBack_0 (by decide +kernel) ?_
  refine v_istore_n (L' := [(1, .int (0 : Int32)), (0, .ref b)]) dX4_putBack_1 rfl (by decide) rfl ?_
  refine v_pick [1, 0] rfl (wL_X4_putBack_2 b h _ (fun s3 => ?_) FU _ _)
  exact v_vret dX4_putBack_26 rfl rfl
theorem ct_X4_putBack {SH : SHT} (b : Nat) (h : isModel SH b) (s0 : St) : CT yX4_putBack mX4_putBack 0 SH jV [.ref b] s0 (f_X4_putBack b s0) := CT.of (by decide +kernel) rfl (fun E => Nat.le_of_ble_eq_true rfl) (w_X4_putBack b h s0)
set_option maxHeartbeats 4000000 in
set_option maxRecDepth 100000 in
theorem wB_X4_bits_4 {SH : SHT} (a0 : Int32) (s0 : St) (rec : Int32 → Int32 → Option Int32) (hrec : ∀ (c1 : Int32) (c2 : Int32), VF mX4_bits 0 SH (jP s0) 4 [(0, .int a0), (1, .int c1), (2, .int c2)] [] s0 (rec c1 c2)) (K : Int32 → Option Int32) (hK : ∀ (e3 : Int32), VF mX4_bits 0 SH (jP s0) 24 [(1, .int e3)] [] s0 (K e3)) (c1 : Int32) (c2 : Int32) : VF mX4_bits 0 SH (jP s0) 4 [(0, .int a0), (1, .int c1), (2, .int c2)] [] s0 (B_X4_bits_4 rec a0 K c1 c2) := by
  unfold B_X4_bits_4
  refine v_iload_n dX4_bits_4 rfl rfl ?_
  refine v_bipush (v := 8) dX4_bits_5 (by decide +kernel) ?_
  refine v_icmp_ge (tgt := 24) dX4_bits_7 (by decide) (fun _ => ?_) (fun _ => ?_)
  · skip
    exact v_pick [1] rfl (hK _)
  refine v_iload_n dX4_bits_10 rfl rfl ?_
  refine v_iload_n dX4_bits_11 rfl rfl ?_
  refine v_iload_n dX4_bits_12 rfl rfl ?_
  refine v_ishr dX4_bits_13 ?_
  refine v_iconst (v := 1) dX4_bits_14 (by decide +kernel) ?_
  refine v_iand dX4_bits_15 ?_
  refine v_iadd dX4_bits_16 ?_
  refine v_topi (fun x4 => ?_)
  refine v_istore_n (L' := [(1, .int x4), (0, .int a0), (2, .int c2)]) dX4_bits_17 rfl (by decide) rfl ?_
  refine v_iinc (v := (c2 + (1 : Int32))) (L' := [(2, .int (c2 + (1 : Int32))), (1, .int x4), (0, .int a0)]) dX4_bits_18 rfl rfl (by decide) rfl ?_
  refine v_goto (tgt := 4) dX4_bits_21 (by decide) ?_
  exact v_pick [2, 1, 0] rfl (hrec _ _)
theorem wL_X4_bits_4 {SH : SHT} (a0 : Int32) (s0 : St) (K : Int32 → Option Int32) (hK : ∀ (e3 : Int32), VF mX4_bits 0 SH (jP s0) 24 [(1, .int e3)] [] s0 (K e3)) : ∀ (n : Nat) (c1 : Int32) (c2 : Int32), VF mX4_bits 0 SH (jP s0) 4 [(0, .int a0), (1, .int c1), (2, .int c2)] [] s0 (L_X4_bits_4 a0 K n c1 c2) := by
  intro n
  induction n with
  | zero => intros; exact v_none
  | succ n ih => intro c1 c2; exact wB_X4_bits_4 a0 s0 _ ih K hK c1 c2
set_option maxHeartbeats 4000000 in
set_option maxRecDepth 100000 in
theorem w_X4_bits {SH : SHT} (a0 : Int32) (s0 : St) : VF mX4_bits 0 SH (jP s0) 0 [(0, .int a0)] [] s0 (f_X4_bits a0) := by
  unfold f_X4_bits
  refine v_iconst (v := 0) dX4_bits_0 (by decide +kernel) ?_
  refine v_istore_n (L' := [(1, .int (0 : Int32)), (0, .int a0)]) dX4_bits_1 rfl (by decide) rfl ?_
  refine v_iconst (v := 0) dX4_bits_2 (by decide +kernel) ?_
  refine v_istore_n (L' := [(2, .int (0 : Int32)), (1, .int (0 : Int32)), (0, .int a0)]) dX4_bits_3 rfl (by decide) rfl ?_
  refine v_pick [2, 1, 0] rfl (wL_X4_bits_4 a0 s0 _ (fun e3 => ?_) FU _ _)
  refine v_iload_n dX4_bits_24 rfl rfl ?_
  exact v_ret (ty := .int) dX4_bits_25 rfl rfl rfl
theorem ct_X4_bits {SH : SHT} (a0 : Int32) (s0 : St) : CT yX4_bits mX4_bits 0 SH (jP s0) [.int a0] s0 (f_X4_bits a0) := CT.of (by decide +kernel) rfl (fun E => Nat.le_of_ble_eq_true rfl) (w_X4_bits a0  s0)
set_option maxHeartbeats 4000000 in
set_option maxRecDepth 100000 in
theorem w_X4_wells {SH : SHT} (b : Nat) (a1 : Int32) (h : isModel SH b) (s0 : St) : VF mX4_wells 1 SH (jP s0) 0 [(0, .ref b), (1, .int a1)] [] s0 (f_X4_wells b a1 s0) := by
  unfold f_X4_wells
  refine v_aload_n dX4_wells_0 rfl rfl ?_
  refine v_iload_n dX4_wells_1 rfl rfl ?_
  refine v_iconst (v := 2) dX4_wells_2 (by decide +kernel) ?_
  refine v_cpI (fun z hz => runV (as := [.int a1, .int (2 : Int32)]) dX4_wells_3 kv_X4_67 rfl rfl (Nat.le_of_ble_eq_true rfl) (Nat.le_of_ble_eq_true rfl) (recvW h.1 rfl rfl) (ct_X4_get _ _ _ h _) hz) (fun x1 => ?_)
  refine v_bipush (v := 50) dX4_wells_6 (by decide +kernel) ?_
  refine v_bnK (fun K3 => ∀ (t2 : Int32), VF mX4_wells 1 SH (jP s0) 21 [(0, .ref b), (1, .int a1)] [.int t2] s0 (K3 t2)) (fun K3 hK3 => ?_) (fun t2 => ?_)
  · skip
    refine v_icmp_lt (tgt := 20) dX4_wells_8 (by decide) (fun _ => ?_) (fun _ => ?_)
    · skip
      refine v_iconst (v := 0) dX4_wells_20 (by decide +kernel) ?_
      exact v_pick [0, 1] rfl (hK3 _)
    refine v_aload_n dX4_wells_11 rfl rfl ?_
    refine v_iload_n dX4_wells_12 rfl rfl ?_
    refine v_iconst (v := 1) dX4_wells_13 (by decide +kernel) ?_
    refine v_cpI (fun z hz => runV (as := [.int a1, .int (1 : Int32)]) dX4_wells_14 kv_X4_67 rfl rfl (Nat.le_of_ble_eq_true rfl) (Nat.le_of_ble_eq_true rfl) (recvW h.1 rfl rfl) (ct_X4_get _ _ _ h _) hz) (fun x4 => ?_)
    refine v_goto (tgt := 21) dX4_wells_17 (by decide) ?_
    exact v_pick [0, 1] rfl (hK3 _)
  refine v_istore_n (L' := [(2, .int t2), (0, .ref b), (1, .int a1)]) dX4_wells_21 rfl (by decide) rfl ?_
  refine v_iload_n dX4_wells_22 rfl rfl ?_
  refine v_bnK (fun K6 => ∀ (t5 : Int32), VF mX4_wells 1 SH (jP s0) 40 [(0, .ref b), (1, .int a1), (2, .int t2)] [.int t5] s0 (K6 t5)) (fun K6 hK6 => ?_) (fun t5 => ?_)
  · skip
    refine v_if_ne (tgt := 39) dX4_wells_23 (by decide) (fun _ => ?_) (fun _ => ?_)
    · skip
      refine v_iload_n dX4_wells_39 rfl rfl ?_
      exact v_pick [1, 2, 0] rfl (hK6 _)
    refine v_aload_n dX4_wells_26 rfl rfl ?_
    refine v_iload_n dX4_wells_27 rfl rfl ?_
    refine v_iconst (v := 2) dX4_wells_28 (by decide +kernel) ?_
    refine v_cpI (fun z hz => runV (as := [.int a1, .int (2 : Int32)]) dX4_wells_29 kv_X4_67 rfl rfl (Nat.le_of_ble_eq_true rfl) (Nat.le_of_ble_eq_true rfl) (recvW h.1 rfl rfl) (ct_X4_get _ _ _ h _) hz) (fun x7 => ?_)
    refine v_if_le (tgt := 39) dX4_wells_32 (by decide) (fun _ => ?_) (fun _ => ?_)
    · skip
      refine v_iload_n dX4_wells_39 rfl rfl ?_
      exact v_pick [1, 2, 0] rfl (hK6 _)
    refine v_iconst (v := 1) dX4_wells_35 (by decide +kernel) ?_
    refine v_goto (tgt := 40) dX4_wells_36 (by decide) ?_
    exact v_pick [1, 2, 0] rfl (hK6 _)
  refine v_istore_n (L' := [(3, .int t5), (0, .ref b), (1, .int a1), (2, .int t2)]) dX4_wells_40 rfl (by decide) rfl ?_
  refine v_aload_n dX4_wells_41 rfl rfl ?_
  refine v_geti dX4_wells_42 kf_X4_71 h.1 rfl ?_
  refine v_iload_n dX4_wells_45 rfl rfl ?_
  refine v_ishr dX4_wells_46 ?_
  refine v_iconst (v := 1) dX4_wells_47 (by decide +kernel) ?_
  refine v_iand dX4_wells_48 ?_
  refine v_iconst (v := 1) dX4_wells_49 (by decide +kernel) ?_
  refine v_icmp_ne (tgt := 55) dX4_wells_50 (by decide) (fun _ => ?_) (fun _ => ?_)
  · skip
    refine v_aload_n dX4_wells_55 rfl rfl ?_
    refine v_iload_n dX4_wells_56 rfl rfl ?_
    refine v_iconst (v := 0) dX4_wells_57 (by decide +kernel) ?_
    refine v_cpI (fun z hz => runV (as := [.int a1, .int (0 : Int32)]) dX4_wells_58 kv_X4_67 rfl rfl (Nat.le_of_ble_eq_true rfl) (Nat.le_of_ble_eq_true rfl) (recvW h.1 rfl rfl) (ct_X4_get _ _ _ h _) hz) (fun x8 => ?_)
    refine v_tsw (cs := [(1, 96), (2, 111), (3, 100), (4, 113), (5, 117)]) (dt := 134) dX4_wells_61 (by decide +kernel) (by decide) (by decide +kernel) ?_
    refine v_swc (fun _ => ?_) (fun _ => ?_)
    · skip
      refine v_iconst (v := 2) dX4_wells_96 (by decide +kernel) ?_
      refine v_iload_n dX4_wells_97 rfl rfl ?_
      refine v_imul dX4_wells_98 ?_
      exact v_ret (ty := .int) dX4_wells_99 rfl rfl rfl
    refine v_swc (fun _ => ?_) (fun _ => ?_)
    · skip
      refine v_iload_n dX4_wells_111 rfl rfl ?_
      exact v_ret (ty := .int) dX4_wells_112 rfl rfl rfl
    refine v_swc (fun _ => ?_) (fun _ => ?_)
    · skip
      refine v_iconst (v := 2) dX4_wells_100 (by decide +kernel) ?_
      refine v_iload_n dX4_wells_101 rfl rfl ?_
      refine v_imul dX4_wells_102 ?_
      refine v_aload_n dX4_wells_103 rfl rfl ?_
      refine v_getr dX4_wells_104 kf_X4_7 h.1 rfl ?_
      refine v_iconst (v := 0) dX4_wells_107 (by decide +kernel) ?_
      refine v_iald dX4_wells_108 h.2.1 (by decide +kernel) (j := 0) (by decide +kernel) ?_
      refine v_iadd dX4_wells_109 ?_
      exact v_ret (ty := .int) dX4_wells_110 rfl rfl rfl
    refine v_swc (fun _ => ?_) (fun _ => ?_)
    · skip
      refine v_iload_n dX4_wells_113 rfl rfl ?_
      refine v_iconst (v := 2) dX4_wells_114 (by decide +kernel) ?_
      refine v_idiv' dX4_wells_115 (by decide +kernel) ?_
      exact v_ret (ty := .int) dX4_wells_116 rfl rfl rfl
    refine v_swc (fun _ => ?_) (fun _ => ?_)
    · skip
      refine v_aload_n dX4_wells_117 rfl rfl ?_
      refine v_getr dX4_wells_118 kf_X4_7 h.1 rfl ?_
      refine v_iconst (v := 4) dX4_wells_121 (by decide +kernel) ?_
      refine v_iald dX4_wells_122 h.2.1 (by decide +kernel) (j := 4) (by decide +kernel) ?_
      refine v_iconst (v := 2) dX4_wells_123 (by decide +kernel) ?_
      refine v_irem' dX4_wells_124 (by decide +kernel) ?_
      refine v_if_ne (tgt := 132) dX4_wells_125 (by decide) (fun _ => ?_) (fun _ => ?_)
      · skip
        refine v_iconst (v := 0) dX4_wells_132 (by decide +kernel) ?_
        exact v_ret (ty := .int) dX4_wells_133 rfl rfl rfl
      refine v_iload_n dX4_wells_128 rfl rfl ?_
      refine v_goto (tgt := 133) dX4_wells_129 (by decide) ?_
      exact v_ret (ty := .int) dX4_wells_133 rfl rfl rfl
    refine v_swn ?_
    refine v_iload_n dX4_wells_134 rfl rfl ?_
    exact v_ret (ty := .int) dX4_wells_135 rfl rfl rfl
  refine v_iconst (v := 0) dX4_wells_53 (by decide +kernel) ?_
  exact v_ret (ty := .int) dX4_wells_54 rfl rfl rfl
theorem ct_X4_wells {SH : SHT} (b : Nat) (a1 : Int32) (h : isModel SH b) (s0 : St) : CT yX4_wells mX4_wells 1 SH (jP s0) [.ref b, .int a1] s0 (f_X4_wells b a1 s0) := CT.of (by decide +kernel) rfl (fun E => Nat.le_of_ble_eq_true rfl) (w_X4_wells b a1 h s0)
set_option maxHeartbeats 4000000 in
set_option maxRecDepth 100000 in
theorem w_X4_losesOf {SH : SHT} (b : Nat) (a1 : Int32) (h : isModel SH b) (s0 : St) : VF mX4_losesOf 1 SH (jP s0) 0 [(0, .ref b), (1, .int a1)] [] s0 (f_X4_losesOf b a1 s0) := by
  unfold f_X4_losesOf
  refine v_aload_n dX4_losesOf_0 rfl rfl ?_
  refine v_iload_n dX4_losesOf_1 rfl rfl ?_
  refine v_iconst (v := 0) dX4_losesOf_2 (by decide +kernel) ?_
  refine v_cpI (fun z hz => runV (as := [.int a1, .int (0 : Int32)]) dX4_losesOf_3 kv_X4_67 rfl rfl (Nat.le_of_ble_eq_true rfl) (Nat.le_of_ble_eq_true rfl) (recvW h.1 rfl rfl) (ct_X4_get _ _ _ h _) hz) (fun x1 => ?_)
  refine v_tsw (cs := [(1, 40), (2, 44), (3, 42), (4, 54), (5, 63)]) (dt := 66) dX4_losesOf_6 (by decide +kernel) (by decide) (by decide +kernel) ?_
  refine v_swc (fun _ => ?_) (fun _ => ?_)
  · skip
    refine v_iconst (v := 5) dX4_losesOf_40 (by decide +kernel) ?_
    exact v_ret (ty := .int) dX4_losesOf_41 rfl rfl rfl
  refine v_swc (fun _ => ?_) (fun _ => ?_)
  · skip
    refine v_bipush (v := 10) dX4_losesOf_44 (by decide +kernel) ?_
    refine v_aload_n dX4_losesOf_46 rfl rfl ?_
    refine v_iload_n dX4_losesOf_47 rfl rfl ?_
    refine v_iconst (v := 1) dX4_losesOf_48 (by decide +kernel) ?_
    refine v_cpI (fun z hz => runV (as := [.int a1, .int (1 : Int32)]) dX4_losesOf_49 kv_X4_67 rfl rfl (Nat.le_of_ble_eq_true rfl) (Nat.le_of_ble_eq_true rfl) (recvW h.1 rfl rfl) (ct_X4_get _ _ _ h _) hz) (fun x2 => ?_)
    refine v_iadd dX4_losesOf_52 ?_
    exact v_ret (ty := .int) dX4_losesOf_53 rfl rfl rfl
  refine v_swc (fun _ => ?_) (fun _ => ?_)
  · skip
    refine v_iconst (v := 0) dX4_losesOf_42 (by decide +kernel) ?_
    exact v_ret (ty := .int) dX4_losesOf_43 rfl rfl rfl
  refine v_swc (fun _ => ?_) (fun _ => ?_)
  · skip
    refine v_aload_n dX4_losesOf_54 rfl rfl ?_
    refine v_iload_n dX4_losesOf_55 rfl rfl ?_
    refine v_iconst (v := 1) dX4_losesOf_56 (by decide +kernel) ?_
    refine v_cpI (fun z hz => runV (as := [.int a1, .int (1 : Int32)]) dX4_losesOf_57 kv_X4_67 rfl rfl (Nat.le_of_ble_eq_true rfl) (Nat.le_of_ble_eq_true rfl) (recvW h.1 rfl rfl) (ct_X4_get _ _ _ h _) hz) (fun x3 => ?_)
    refine v_iconst (v := 5) dX4_losesOf_60 (by decide +kernel) ?_
    refine v_isub dX4_losesOf_61 ?_
    exact v_ret (ty := .int) dX4_losesOf_62 rfl rfl rfl
  refine v_swc (fun _ => ?_) (fun _ => ?_)
  · skip
    refine v_bipush (v := 30) dX4_losesOf_63 (by decide +kernel) ?_
    exact v_ret (ty := .int) dX4_losesOf_65 rfl rfl rfl
  refine v_swn ?_
  refine v_bipush (v := 10) dX4_losesOf_66 (by decide +kernel) ?_
  exact v_ret (ty := .int) dX4_losesOf_68 rfl rfl rfl
theorem ct_X4_losesOf {SH : SHT} (b : Nat) (a1 : Int32) (h : isModel SH b) (s0 : St) : CT yX4_losesOf mX4_losesOf 1 SH (jP s0) [.ref b, .int a1] s0 (f_X4_losesOf b a1 s0) := CT.of (by decide +kernel) rfl (fun E => Nat.le_of_ble_eq_true rfl) (w_X4_losesOf b a1 h s0)
set_option maxHeartbeats 4000000 in
set_option maxRecDepth 100000 in
theorem w_X4_winsOf {SH : SHT} (b : Nat) (a1 : Int32) (h : isModel SH b) (s0 : St) : VF mX4_winsOf 1 SH (jP s0) 0 [(0, .ref b), (1, .int a1)] [] s0 (f_X4_winsOf b a1 s0) := by
  unfold f_X4_winsOf
  refine v_aload_n dX4_winsOf_0 rfl rfl ?_
  refine v_iload_n dX4_winsOf_1 rfl rfl ?_
  refine v_iconst (v := 0) dX4_winsOf_2 (by decide +kernel) ?_
  refine v_cpI (fun z hz => runV (as := [.int a1, .int (0 : Int32)]) dX4_winsOf_3 kv_X4_67 rfl rfl (Nat.le_of_ble_eq_true rfl) (Nat.le_of_ble_eq_true rfl) (recvW h.1 rfl rfl) (ct_X4_get _ _ _ h _) hz) (fun x1 => ?_)
  refine v_tsw (cs := [(1, 40), (2, 42), (3, 40), (4, 42), (5, 44)]) (dt := 46) dX4_winsOf_6 (by decide +kernel) (by decide) (by decide +kernel) ?_
  refine v_swc (fun _ => ?_) (fun _ => ?_)
  · skip
    refine v_iconst (v := 5) dX4_winsOf_40 (by decide +kernel) ?_
    exact v_ret (ty := .int) dX4_winsOf_41 rfl rfl rfl
  refine v_swc (fun _ => ?_) (fun _ => ?_)
  · skip
    refine v_iconst (v := 1) dX4_winsOf_42 (by decide +kernel) ?_
    exact v_ret (ty := .int) dX4_winsOf_43 rfl rfl rfl
  refine v_swc (fun _ => ?_) (fun _ => ?_)
  · skip
    refine v_iconst (v := 5) dX4_winsOf_40 (by decide +kernel) ?_
    exact v_ret (ty := .int) dX4_winsOf_41 rfl rfl rfl
  refine v_swc (fun _ => ?_) (fun _ => ?_)
  · skip
    refine v_iconst (v := 1) dX4_winsOf_42 (by decide +kernel) ?_
    exact v_ret (ty := .int) dX4_winsOf_43 rfl rfl rfl
  refine v_swc (fun _ => ?_) (fun _ => ?_)
  · skip
    refine v_iconst (v := 0) dX4_winsOf_44 (by decide +kernel) ?_
    exact v_ret (ty := .int) dX4_winsOf_45 rfl rfl rfl
  refine v_swn ?_
  refine v_iconst (v := 3) dX4_winsOf_46 (by decide +kernel) ?_
  exact v_ret (ty := .int) dX4_winsOf_47 rfl rfl rfl
theorem ct_X4_winsOf {SH : SHT} (b : Nat) (a1 : Int32) (h : isModel SH b) (s0 : St) : CT yX4_winsOf mX4_winsOf 1 SH (jP s0) [.ref b, .int a1] s0 (f_X4_winsOf b a1 s0) := CT.of (by decide +kernel) rfl (fun E => Nat.le_of_ble_eq_true rfl) (w_X4_winsOf b a1 h s0)
set_option maxHeartbeats 4000000 in
set_option maxRecDepth 100000 in
theorem w_X4_doDisagree {SH : SHT} (b : Nat) (a1 : Int32) (a2 : Int32) (h : isModel SH b) (s0 : St) : VF mX4_doDisagree 1 SH (jP s0) 0 [(0, .ref b), (1, .int a1), (2, .int a2)] [] s0 (f_X4_doDisagree b a1 a2 s0) := by
  unfold f_X4_doDisagree
  refine v_aload_n dX4_doDisagree_0 rfl rfl ?_
  refine v_iload_n dX4_doDisagree_1 rfl rfl ?_
  refine v_iconst (v := 2) dX4_doDisagree_2 (by decide +kernel) ?_
  refine v_cpI (fun z hz => runV (as := [.int a1, .int (2 : Int32)]) dX4_doDisagree_3 kv_X4_67 rfl rfl (Nat.le_of_ble_eq_true rfl) (Nat.le_of_ble_eq_true rfl) (recvW h.1 rfl rfl) (ct_X4_get _ _ _ h _) hz) (fun x1 => ?_)
  refine v_istore_n (L' := [(3, .int x1), (0, .ref b), (1, .int a1), (2, .int a2)]) dX4_doDisagree_6 rfl (by decide) rfl ?_
  refine v_aload_n dX4_doDisagree_7 rfl rfl ?_
  refine v_iload_n dX4_doDisagree_8 rfl rfl ?_
  refine v_iconst (v := 2) dX4_doDisagree_9 (by decide +kernel) ?_
  refine v_cpI (fun z hz => runV (as := [.int a2, .int (2 : Int32)]) dX4_doDisagree_10 kv_X4_67 rfl rfl (Nat.le_of_ble_eq_true rfl) (Nat.le_of_ble_eq_true rfl) (recvW h.1 rfl rfl) (ct_X4_get _ _ _ h _) hz) (fun x2 => ?_)
  refine v_istore (L' := [(4, .int x2), (3, .int x1), (0, .ref b), (1, .int a1), (2, .int a2)]) dX4_doDisagree_13 (by decide) rfl ?_
  refine v_aload_n dX4_doDisagree_15 rfl rfl ?_
  refine v_geti dX4_doDisagree_16 kf_X4_71 h.1 rfl ?_
  refine v_iload_n dX4_doDisagree_19 rfl rfl ?_
  refine v_ishr dX4_doDisagree_20 ?_
  refine v_iconst (v := 1) dX4_doDisagree_21 (by decide +kernel) ?_
  refine v_iand dX4_doDisagree_22 ?_
  refine v_iconst (v := 1) dX4_doDisagree_23 (by decide +kernel) ?_
  refine v_bnK (fun K4 => ∀ (t3 : Int32), VF mX4_doDisagree 1 SH (jP s0) 44 [(0, .ref b), (1, .int a1), (2, .int a2), (3, .int x1), (4, .int x2)] [.int t3] s0 (K4 t3)) (fun K4 hK4 => ?_) (fun t3 => ?_)
  · skip
    refine v_icmp_eq (tgt := 39) dX4_doDisagree_24 (by decide) (fun _ => ?_) (fun _ => ?_)
    · skip
      refine v_iconst (v := 1) dX4_doDisagree_39 (by decide +kernel) ?_
      refine v_goto (tgt := 44) dX4_doDisagree_40 (by decide) ?_
      exact v_pick [2, 3, 4, 1, 0] rfl (hK4 _)
    refine v_aload_n dX4_doDisagree_27 rfl rfl ?_
    refine v_geti dX4_doDisagree_28 kf_X4_71 h.1 rfl ?_
    refine v_iload_n dX4_doDisagree_31 rfl rfl ?_
    refine v_ishr dX4_doDisagree_32 ?_
    refine v_iconst (v := 1) dX4_doDisagree_33 (by decide +kernel) ?_
    refine v_iand dX4_doDisagree_34 ?_
    refine v_iconst (v := 1) dX4_doDisagree_35 (by decide +kernel) ?_
    refine v_icmp_ne (tgt := 43) dX4_doDisagree_36 (by decide) (fun _ => ?_) (fun _ => ?_)
    · skip
      refine v_iconst (v := 0) dX4_doDisagree_43 (by decide +kernel) ?_
      exact v_pick [2, 3, 4, 1, 0] rfl (hK4 _)
    refine v_iconst (v := 1) dX4_doDisagree_39 (by decide +kernel) ?_
    refine v_goto (tgt := 44) dX4_doDisagree_40 (by decide) ?_
    exact v_pick [2, 3, 4, 1, 0] rfl (hK4 _)
  refine v_istore (L' := [(5, .int t3), (0, .ref b), (1, .int a1), (2, .int a2), (3, .int x1), (4, .int x2)]) dX4_doDisagree_44 (by decide) rfl ?_
  refine v_iload_n dX4_doDisagree_46 rfl rfl ?_
  refine v_iload_n dX4_doDisagree_47 rfl rfl ?_
  refine v_icmp_eq (tgt := 102) dX4_doDisagree_48 (by decide) (fun _ => ?_) (fun _ => ?_)
  · skip
    refine v_iconst (v := 0) dX4_doDisagree_102 (by decide +kernel) ?_
    exact v_ret (ty := .boolean) dX4_doDisagree_103 rfl rfl (by decide +kernel)
  refine v_iload dX4_doDisagree_51 rfl ?_
  refine v_if_ne (tgt := 102) dX4_doDisagree_53 (by decide) (fun _ => ?_) (fun _ => ?_)
  · skip
    refine v_iconst (v := 0) dX4_doDisagree_102 (by decide +kernel) ?_
    exact v_ret (ty := .boolean) dX4_doDisagree_103 rfl rfl (by decide +kernel)
  refine v_aload_n dX4_doDisagree_56 rfl rfl ?_
  refine v_iload_n dX4_doDisagree_57 rfl rfl ?_
  refine v_iconst (v := 3) dX4_doDisagree_58 (by decide +kernel) ?_
  refine v_cpI (fun z hz => runV (as := [.int a1, .int (3 : Int32)]) dX4_doDisagree_59 kv_X4_67 rfl rfl (Nat.le_of_ble_eq_true rfl) (Nat.le_of_ble_eq_true rfl) (recvW h.1 rfl rfl) (ct_X4_get _ _ _ h _) hz) (fun x5 => ?_)
  refine v_aload_n dX4_doDisagree_62 rfl rfl ?_
  refine v_iload_n dX4_doDisagree_63 rfl rfl ?_
  refine v_iconst (v := 3) dX4_doDisagree_64 (by decide +kernel) ?_
  refine v_cpI (fun z hz => runV (as := [.int a2, .int (3 : Int32)]) dX4_doDisagree_65 kv_X4_67 rfl rfl (Nat.le_of_ble_eq_true rfl) (Nat.le_of_ble_eq_true rfl) (recvW h.1 rfl rfl) (ct_X4_get _ _ _ h _) hz) (fun x6 => ?_)
  refine v_icmp_ne (tgt := 102) dX4_doDisagree_68 (by decide) (fun _ => ?_) (fun _ => ?_)
  · skip
    refine v_iconst (v := 0) dX4_doDisagree_102 (by decide +kernel) ?_
    exact v_ret (ty := .boolean) dX4_doDisagree_103 rfl rfl (by decide +kernel)
  refine v_iload_n dX4_doDisagree_71 rfl rfl ?_
  refine v_if_le (tgt := 102) dX4_doDisagree_72 (by decide) (fun _ => ?_) (fun _ => ?_)
  · skip
    refine v_iconst (v := 0) dX4_doDisagree_102 (by decide +kernel) ?_
    exact v_ret (ty := .boolean) dX4_doDisagree_103 rfl rfl (by decide +kernel)
  refine v_iload dX4_doDisagree_75 rfl ?_
  refine v_if_le (tgt := 102) dX4_doDisagree_77 (by decide) (fun _ => ?_) (fun _ => ?_)
  · skip
    refine v_iconst (v := 0) dX4_doDisagree_102 (by decide +kernel) ?_
    exact v_ret (ty := .boolean) dX4_doDisagree_103 rfl rfl (by decide +kernel)
  refine v_iload_n dX4_doDisagree_80 rfl rfl ?_
  refine v_iload dX4_doDisagree_81 rfl ?_
  refine v_isub dX4_doDisagree_83 ?_
  refine v_bipush (v := 30) dX4_doDisagree_84 (by decide +kernel) ?_
  refine v_icmp_ge (tgt := 98) dX4_doDisagree_86 (by decide) (fun _ => ?_) (fun _ => ?_)
  · skip
    refine v_iconst (v := 1) dX4_doDisagree_98 (by decide +kernel) ?_
    refine v_goto (tgt := 103) dX4_doDisagree_99 (by decide) ?_
    exact v_ret (ty := .boolean) dX4_doDisagree_103 rfl rfl (by decide +kernel)
  refine v_iload dX4_doDisagree_89 rfl ?_
  refine v_iload_n dX4_doDisagree_91 rfl rfl ?_
  refine v_isub dX4_doDisagree_92 ?_
  refine v_bipush (v := 30) dX4_doDisagree_93 (by decide +kernel) ?_
  refine v_icmp_lt (tgt := 102) dX4_doDisagree_95 (by decide) (fun _ => ?_) (fun _ => ?_)
  · skip
    refine v_iconst (v := 0) dX4_doDisagree_102 (by decide +kernel) ?_
    exact v_ret (ty := .boolean) dX4_doDisagree_103 rfl rfl (by decide +kernel)
  refine v_iconst (v := 1) dX4_doDisagree_98 (by decide +kernel) ?_
  refine v_goto (tgt := 103) dX4_doDisagree_99 (by decide) ?_
  exact v_ret (ty := .boolean) dX4_doDisagree_103 rfl rfl (by decide +kernel)
theorem ct_X4_doDisagree {SH : SHT} (b : Nat) (a1 : Int32) (a2 : Int32) (h : isModel SH b) (s0 : St) : CT yX4_doDisagree mX4_doDisagree 1 SH (jP s0) [.ref b, .int a1, .int a2] s0 (f_X4_doDisagree b a1 a2 s0) := CT.of (by decide +kernel) rfl (fun E => Nat.le_of_ble_eq_true rfl) (w_X4_doDisagree b a1 a2 h s0)
set_option maxHeartbeats 4000000 in
set_option maxRecDepth 100000 in
theorem wB_X4_lowestOf_16 {SH : SHT} (b : Nat) (a1 : Int32) (s0 : St) (h : isModel SH b) (rec : Int32 → Int32 → Int32 → Option Int32) (hrec : ∀ (c3 : Int32) (c4 : Int32) (c5 : Int32), VF mX4_lowestOf 0 SH (jP s0) 16 [(0, .ref b), (1, .int a1), (2, .int c3), (3, .int c4), (4, .int c5)] [] s0 (rec c3 c4 c5)) (K : Int32 → Option Int32) (hK : ∀ (e6 : Int32), VF mX4_lowestOf 0 SH (jP s0) 179 [(2, .int e6)] [] s0 (K e6)) (c3 : Int32) (c4 : Int32) (c5 : Int32) : VF mX4_lowestOf 0 SH (jP s0) 16 [(0, .ref b), (1, .int a1), (2, .int c3), (3, .int c4), (4, .int c5)] [] s0 (B_X4_lowestOf_16 rec b a1 s0 K c3 c4 c5) := by
  unfold B_X4_lowestOf_16
  refine v_iload dX4_lowestOf_16 rfl ?_
  refine v_iconst (v := 4) dX4_lowestOf_18 (by decide +kernel) ?_
  refine v_icmp_ge (tgt := 179) dX4_lowestOf_19 (by decide) (fun _ => ?_) (fun _ => ?_)
  · skip
    exact v_pick [2] rfl (hK _)
  refine v_iload dX4_lowestOf_22 rfl ?_
  refine v_bnK (fun K8 => ∀ (t7 : Int32), VF mX4_lowestOf 0 SH (jP s0) 96 [(0, .ref b), (1, .int a1), (2, .int c3), (3, .int c4), (4, .int c5)] [.int t7] s0 (K8 t7)) (fun K8 hK8 => ?_) (fun t7 => ?_)
  · skip
    refine v_if_ne (tgt := 41) dX4_lowestOf_24 (by decide) (fun _ => ?_) (fun _ => ?_)
    · skip
      refine v_iload dX4_lowestOf_41 rfl ?_
      refine v_iconst (v := 1) dX4_lowestOf_43 (by decide +kernel) ?_
      refine v_icmp_ne (tgt := 62) dX4_lowestOf_44 (by decide) (fun _ => ?_) (fun _ => ?_)
      · skip
        refine v_iload dX4_lowestOf_62 rfl ?_
        refine v_iconst (v := 2) dX4_lowestOf_64 (by decide +kernel) ?_
        refine v_icmp_ne (tgt := 85) dX4_lowestOf_65 (by decide) (fun _ => ?_) (fun _ => ?_)
        · skip
          refine v_iload_n dX4_lowestOf_85 rfl rfl ?_
          refine v_bipush (v := 24) dX4_lowestOf_86 (by decide +kernel) ?_
          refine v_icmp_ge (tgt := 95) dX4_lowestOf_88 (by decide) (fun _ => ?_) (fun _ => ?_)
          · skip
            refine v_iconst (v := 0) dX4_lowestOf_95 (by decide +kernel) ?_
            exact v_pick [0, 1, 2, 3, 4] rfl (hK8 _)
          refine v_iconst (v := 1) dX4_lowestOf_91 (by decide +kernel) ?_
          refine v_goto (tgt := 96) dX4_lowestOf_92 (by decide) ?_
          exact v_pick [0, 1, 2, 3, 4] rfl (hK8 _)
        refine v_iload_n dX4_lowestOf_68 rfl rfl ?_
        refine v_bipush (v := 8) dX4_lowestOf_69 (by decide +kernel) ?_
        refine v_irem' dX4_lowestOf_71 (by decide +kernel) ?_
        refine v_bipush (v := 7) dX4_lowestOf_72 (by decide +kernel) ?_
        refine v_icmp_ge (tgt := 81) dX4_lowestOf_74 (by decide) (fun _ => ?_) (fun _ => ?_)
        · skip
          refine v_iconst (v := 0) dX4_lowestOf_81 (by decide +kernel) ?_
          refine v_goto (tgt := 96) dX4_lowestOf_82 (by decide) ?_
          exact v_pick [0, 1, 2, 3, 4] rfl (hK8 _)
        refine v_iconst (v := 1) dX4_lowestOf_77 (by decide +kernel) ?_
        refine v_goto (tgt := 96) dX4_lowestOf_78 (by decide) ?_
        exact v_pick [0, 1, 2, 3, 4] rfl (hK8 _)
      refine v_iload_n dX4_lowestOf_47 rfl rfl ?_
      refine v_bipush (v := 8) dX4_lowestOf_48 (by decide +kernel) ?_
      refine v_irem' dX4_lowestOf_50 (by decide +kernel) ?_
      refine v_if_le (tgt := 58) dX4_lowestOf_51 (by decide) (fun _ => ?_) (fun _ => ?_)
      · skip
        refine v_iconst (v := 0) dX4_lowestOf_58 (by decide +kernel) ?_
        refine v_goto (tgt := 96) dX4_lowestOf_59 (by decide) ?_
        exact v_pick [0, 1, 2, 3, 4] rfl (hK8 _)
      refine v_iconst (v := 1) dX4_lowestOf_54 (by decide +kernel) ?_
      refine v_goto (tgt := 96) dX4_lowestOf_55 (by decide) ?_
      exact v_pick [0, 1, 2, 3, 4] rfl (hK8 _)
    refine v_iload_n dX4_lowestOf_27 rfl rfl ?_
    refine v_bipush (v := 8) dX4_lowestOf_28 (by decide +kernel) ?_
    refine v_icmp_lt (tgt := 37) dX4_lowestOf_30 (by decide) (fun _ => ?_) (fun _ => ?_)
    · skip
      refine v_iconst (v := 0) dX4_lowestOf_37 (by decide +kernel) ?_
      refine v_goto (tgt := 96) dX4_lowestOf_38 (by decide) ?_
      exact v_pick [0, 1, 2, 3, 4] rfl (hK8 _)
    refine v_iconst (v := 1) dX4_lowestOf_33 (by decide +kernel) ?_
    refine v_goto (tgt := 96) dX4_lowestOf_34 (by decide) ?_
    exact v_pick [0, 1, 2, 3, 4] rfl (hK8 _)
  refine v_istore (L' := [(5, .int t7), (0, .ref b), (1, .int a1), (2, .int c3), (3, .int c4), (4, .int c5)]) dX4_lowestOf_96 (by decide) rfl ?_
  refine v_iload dX4_lowestOf_98 rfl ?_
  refine v_bnK (fun K10 => ∀ (t9 : Int32), VF mX4_lowestOf 0 SH (jP s0) 138 [(0, .ref b), (1, .int a1), (2, .int c3), (3, .int c4), (4, .int c5), (5, .int t7)] [.int t9] s0 (K10 t9)) (fun K10 hK10 => ?_) (fun t9 => ?_)
  · skip
    refine v_if_ne (tgt := 110) dX4_lowestOf_100 (by decide) (fun _ => ?_) (fun _ => ?_)
    · skip
      refine v_iload dX4_lowestOf_110 rfl ?_
      refine v_iconst (v := 1) dX4_lowestOf_112 (by decide +kernel) ?_
      refine v_icmp_ne (tgt := 122) dX4_lowestOf_113 (by decide) (fun _ => ?_) (fun _ => ?_)
      · skip
        refine v_iload dX4_lowestOf_122 rfl ?_
        refine v_iconst (v := 2) dX4_lowestOf_124 (by decide +kernel) ?_
        refine v_icmp_ne (tgt := 134) dX4_lowestOf_125 (by decide) (fun _ => ?_) (fun _ => ?_)
        · skip
          refine v_iload_n dX4_lowestOf_134 rfl rfl ?_
          refine v_bipush (v := 8) dX4_lowestOf_135 (by decide +kernel) ?_
          refine v_iadd dX4_lowestOf_137 ?_
          exact v_pick [1, 2, 3, 4, 5, 0] rfl (hK10 _)
        refine v_iload_n dX4_lowestOf_128 rfl rfl ?_
        refine v_iconst (v := 1) dX4_lowestOf_129 (by decide +kernel) ?_
        refine v_iadd dX4_lowestOf_130 ?_
        refine v_goto (tgt := 138) dX4_lowestOf_131 (by decide) ?_
        exact v_pick [1, 2, 3, 4, 5, 0] rfl (hK10 _)
      refine v_iload_n dX4_lowestOf_116 rfl rfl ?_
      refine v_iconst (v := 1) dX4_lowestOf_117 (by decide +kernel) ?_
      refine v_isub dX4_lowestOf_118 ?_
      refine v_goto (tgt := 138) dX4_lowestOf_119 (by decide) ?_
      exact v_pick [1, 2, 3, 4, 5, 0] rfl (hK10 _)
    refine v_iload_n dX4_lowestOf_103 rfl rfl ?_
    refine v_bipush (v := 8) dX4_lowestOf_104 (by decide +kernel) ?_
    refine v_isub dX4_lowestOf_106 ?_
    refine v_goto (tgt := 138) dX4_lowestOf_107 (by decide) ?_
    exact v_pick [1, 2, 3, 4, 5, 0] rfl (hK10 _)
  refine v_istore (L' := [(6, .int t9), (0, .ref b), (1, .int a1), (2, .int c3), (3, .int c4), (4, .int c5), (5, .int t7)]) dX4_lowestOf_138 (by decide) rfl ?_
  refine v_iload dX4_lowestOf_140 rfl ?_
  refine v_bnK (fun K13 => ∀ (t11 : Int32) (t12 : Int32), VF mX4_lowestOf 0 SH (jP s0) 173 [(0, .ref b), (1, .int a1), (2, .int t11), (3, .int t12), (4, .int c5)] [] s0 (K13 t11 t12)) (fun K13 hK13 => ?_) (fun t11 t12 => ?_)
  · skip
    refine v_if_eq (tgt := 173) dX4_lowestOf_142 (by decide) (fun _ => ?_) (fun _ => ?_)
    · skip
      exact v_pick [1, 2, 3, 4, 5] rfl (hK13 _ _)
    refine v_aload_n dX4_lowestOf_145 rfl rfl ?_
    refine v_getr dX4_lowestOf_146 kf_X4_7 h.1 rfl ?_
    refine v_bipush (v := 7) dX4_lowestOf_149 (by decide +kernel) ?_
    refine v_iload dX4_lowestOf_151 rfl ?_
    refine v_iadd dX4_lowestOf_153 ?_
    refine v_gd (fun g14 => ?_)
    refine v_iald dX4_lowestOf_154 h.2.1 g14 rfl ?_
    refine v_iload_n dX4_lowestOf_155 rfl rfl ?_
    refine v_icmp_ge (tgt := 173) dX4_lowestOf_156 (by decide) (fun _ => ?_) (fun _ => ?_)
    · skip
      exact v_pick [1, 2, 3, 4, 5] rfl (hK13 _ _)
    refine v_iload dX4_lowestOf_159 rfl ?_
    refine v_istore_n (L' := [(2, .int t9), (6, .int t9), (0, .ref b), (1, .int a1), (3, .int c4), (4, .int c5), (5, .int t7)]) dX4_lowestOf_161 rfl (by decide) rfl ?_
    refine v_aload_n dX4_lowestOf_162 rfl rfl ?_
    refine v_getr dX4_lowestOf_163 kf_X4_7 h.1 rfl ?_
    refine v_bipush (v := 7) dX4_lowestOf_166 (by decide +kernel) ?_
    refine v_iload dX4_lowestOf_168 rfl ?_
    refine v_iadd dX4_lowestOf_170 ?_
    refine v_gd (fun g15 => ?_)
    refine v_iald dX4_lowestOf_171 h.2.1 g15 rfl ?_
    refine v_topi (fun x16 => ?_)
    refine v_istore_n (L' := [(3, .int x16), (2, .int t9), (6, .int t9), (0, .ref b), (1, .int a1), (4, .int c5), (5, .int t7)]) dX4_lowestOf_172 rfl (by decide) rfl ?_
    exact v_pick [3, 4, 1, 0, 5] rfl (hK13 _ _)
  refine v_iinc (v := (c5 + (1 : Int32))) (L' := [(4, .int (c5 + (1 : Int32))), (0, .ref b), (1, .int a1), (2, .int t11), (3, .int t12)]) dX4_lowestOf_173 rfl rfl (by decide) rfl ?_
  refine v_goto (tgt := 16) dX4_lowestOf_176 (by decide) ?_
  exact v_pick [1, 2, 3, 4, 0] rfl (hrec _ _ _)
theorem wL_X4_lowestOf_16 {SH : SHT} (b : Nat) (a1 : Int32) (s0 : St) (h : isModel SH b) (K : Int32 → Option Int32) (hK : ∀ (e6 : Int32), VF mX4_lowestOf 0 SH (jP s0) 179 [(2, .int e6)] [] s0 (K e6)) : ∀ (n : Nat) (c3 : Int32) (c4 : Int32) (c5 : Int32), VF mX4_lowestOf 0 SH (jP s0) 16 [(0, .ref b), (1, .int a1), (2, .int c3), (3, .int c4), (4, .int c5)] [] s0 (L_X4_lowestOf_16 b a1 s0 K n c3 c4 c5) := by
  intro n
  induction n with
  | zero => intros; exact v_none
  | succ n ih => intro c3 c4 c5; exact wB_X4_lowestOf_16 b a1 s0 h _ ih K hK c3 c4 c5
set_option maxHeartbeats 4000000 in
set_option maxRecDepth 100000 in
theorem w_X4_lowestOf {SH : SHT} (b : Nat) (a1 : Int32) (h : isModel SH b) (s0 : St) : VF mX4_lowestOf 0 SH (jP s0) 0 [(0, .ref b), (1, .int a1)] [] s0 (f_X4_lowestOf b a1 s0) := by
  unfold f_X4_lowestOf
  refine v_bipush (v := -3) dX4_lowestOf_0 (by decide +kernel) ?_
  refine v_istore_n (L' := [(2, .int (-3 : Int32)), (0, .ref b), (1, .int a1)]) dX4_lowestOf_2 rfl (by decide) rfl ?_
  refine v_aload_n dX4_lowestOf_3 rfl rfl ?_
  refine v_getr dX4_lowestOf_4 kf_X4_7 h.1 rfl ?_
  refine v_bipush (v := 7) dX4_lowestOf_7 (by decide +kernel) ?_
  refine v_iload_n dX4_lowestOf_9 rfl rfl ?_
  refine v_iadd dX4_lowestOf_10 ?_
  refine v_gd (fun g1 => ?_)
  refine v_iald dX4_lowestOf_11 h.2.1 g1 rfl ?_
  refine v_topi (fun x2 => ?_)
  refine v_istore_n (L' := [(3, .int x2), (2, .int (-3 : Int32)), (0, .ref b), (1, .int a1)]) dX4_lowestOf_12 rfl (by decide) rfl ?_
  refine v_iconst (v := 0) dX4_lowestOf_13 (by decide +kernel) ?_
  refine v_istore (L' := [(4, .int (0 : Int32)), (3, .int x2), (2, .int (-3 : Int32)), (0, .ref b), (1, .int a1)]) dX4_lowestOf_14 (by decide) rfl ?_
  refine v_pick [3, 4, 2, 1, 0] rfl (wL_X4_lowestOf_16 b a1 s0 h _ (fun e6 => ?_) FU _ _ _)
  refine v_iload_n dX4_lowestOf_179 rfl rfl ?_
  exact v_ret (ty := .int) dX4_lowestOf_180 rfl rfl rfl
theorem ct_X4_lowestOf {SH : SHT} (b : Nat) (a1 : Int32) (h : isModel SH b) (s0 : St) : CT yX4_lowestOf mX4_lowestOf 0 SH (jP s0) [.ref b, .int a1] s0 (f_X4_lowestOf b a1 s0) := CT.of (by decide +kernel) rfl (fun E => Nat.le_of_ble_eq_true rfl) (w_X4_lowestOf b a1 h s0)
set_option maxHeartbeats 4000000 in
set_option maxRecDepth 100000 in
theorem w_X4_isWet {SH : SHT} (b : Nat) (a1 : Int32) (h : isModel SH b) (s0 : St) : VF mX4_isWet 0 SH (jP s0) 0 [(0, .ref b), (1, .int a1)] [] s0 (f_X4_isWet b a1 s0) := by
  unfold f_X4_isWet
  refine v_aload_n dX4_isWet_0 rfl rfl ?_
  refine v_getr dX4_isWet_1 kf_X4_7 h.1 rfl ?_
  refine v_bipush (v := 39) dX4_isWet_4 (by decide +kernel) ?_
  refine v_iload_n dX4_isWet_6 rfl rfl ?_
  refine v_iadd dX4_isWet_7 ?_
  refine v_gd (fun g1 => ?_)
  refine v_iald dX4_isWet_8 h.2.1 g1 rfl ?_
  refine v_bipush (v := 10) dX4_isWet_9 (by decide +kernel) ?_
  refine v_icmp_lt (tgt := 18) dX4_isWet_11 (by decide) (fun _ => ?_) (fun _ => ?_)
  · skip
    refine v_iconst (v := 0) dX4_isWet_18 (by decide +kernel) ?_
    exact v_ret (ty := .boolean) dX4_isWet_19 rfl rfl (by decide +kernel)
  refine v_iconst (v := 1) dX4_isWet_14 (by decide +kernel) ?_
  refine v_goto (tgt := 19) dX4_isWet_15 (by decide) ?_
  exact v_ret (ty := .boolean) dX4_isWet_19 rfl rfl (by decide +kernel)
theorem ct_X4_isWet {SH : SHT} (b : Nat) (a1 : Int32) (h : isModel SH b) (s0 : St) : CT yX4_isWet mX4_isWet 0 SH (jP s0) [.ref b, .int a1] s0 (f_X4_isWet b a1 s0) := CT.of (by decide +kernel) rfl (fun E => Nat.le_of_ble_eq_true rfl) (w_X4_isWet b a1 h s0)
