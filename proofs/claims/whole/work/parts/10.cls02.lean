set_option maxHeartbeats 4000000 in
set_option maxRecDepth 100000 in
theorem wB_X1_trodCells_4 {SH : SHT} (b : Nat) (s0 : St) (h : isMoor SH b) (rec : Int64 → Int32 → Option Int64) (hrec : ∀ (c1 : Int64) (c2 : Int32), VF mX1_trodCells 0 SH (jQ s0) 4 [(0, .ref b), (1, .long c1), (3, .int c2)] [] s0 (rec c1 c2)) (K : Int64 → Option Int64) (hK : ∀ (e3 : Int64), VF mX1_trodCells 0 SH (jQ s0) 29 [(1, .long e3)] [] s0 (K e3)) (c1 : Int64) (c2 : Int32) : VF mX1_trodCells 0 SH (jQ s0) 4 [(0, .ref b), (1, .long c1), (3, .int c2)] [] s0 (B_X1_trodCells_4 rec b s0 K c1 c2) := by
  unfold B_X1_trodCells_4
  refine v_iload_n dX1_trodCells_4 rfl rfl ?_
  refine v_aload_n dX1_trodCells_5 rfl rfl ?_
  refine v_geti dX1_trodCells_6 kf_X1_49 h.1 rfl ?_
  refine v_icmp_ge (tgt := 29) dX1_trodCells_9 (by decide) (fun _ => ?_) (fun _ => ?_)
  · skip
    exact v_pick [1] rfl (hK _)
  refine v_lload_n dX1_trodCells_12 rfl rfl ?_
  refine v_lconst (v := 1) dX1_trodCells_13 (by decide +kernel) ?_
  refine v_aload_n dX1_trodCells_14 rfl rfl ?_
  refine v_getr dX1_trodCells_15 kf_X1_33 h.1 rfl ?_
  refine v_iload_n dX1_trodCells_18 rfl rfl ?_
  refine v_gd (fun g4 => ?_)
  refine v_iald dX1_trodCells_19 h.2.2.2.2.2.2.2.2 g4 rfl ?_
  refine v_lshl dX1_trodCells_20 ?_
  refine v_lor dX1_trodCells_21 ?_
  refine v_topl (fun x5 => ?_)
  refine v_lstore_n (L' := [(1, .long x5), (0, .ref b), (3, .int c2)]) dX1_trodCells_22 rfl (by decide) rfl ?_
  refine v_iinc (v := (c2 + (1 : Int32))) (L' := [(3, .int (c2 + (1 : Int32))), (1, .long x5), (0, .ref b)]) dX1_trodCells_23 rfl rfl (by decide) rfl ?_
  refine v_goto (tgt := 4) dX1_trodCells_26 (by decide) ?_
  exact v_pick [2, 1, 0] rfl (hrec _ _)
theorem wL_X1_trodCells_4 {SH : SHT} (b : Nat) (s0 : St) (h : isMoor SH b) (K : Int64 → Option Int64) (hK : ∀ (e3 : Int64), VF mX1_trodCells 0 SH (jQ s0) 29 [(1, .long e3)] [] s0 (K e3)) : ∀ (n : Nat) (c1 : Int64) (c2 : Int32), VF mX1_trodCells 0 SH (jQ s0) 4 [(0, .ref b), (1, .long c1), (3, .int c2)] [] s0 (L_X1_trodCells_4 b s0 K n c1 c2) := by
  intro n
  induction n with
  | zero => intros; exact v_none
  | succ n ih => intro c1 c2; exact wB_X1_trodCells_4 b s0 h _ ih K hK c1 c2
set_option maxHeartbeats 4000000 in
set_option maxRecDepth 100000 in
theorem w_X1_trodCells {SH : SHT} (b : Nat) (h : isMoor SH b) (s0 : St) : VF mX1_trodCells 0 SH (jQ s0) 0 [(0, .ref b)] [] s0 (f_X1_trodCells b s0) := by
  unfold f_X1_trodCells
  refine v_lconst (v := 0) dX1_trodCells_0 (by decide +kernel) ?_
  refine v_lstore_n (L' := [(1, .long (0 : Int64)), (0, .ref b)]) dX1_trodCells_1 rfl (by decide) rfl ?_
  refine v_iconst (v := 0) dX1_trodCells_2 (by decide +kernel) ?_
  refine v_istore_n (L' := [(3, .int (0 : Int32)), (1, .long (0 : Int64)), (0, .ref b)]) dX1_trodCells_3 rfl (by decide) rfl ?_
  refine v_pick [2, 1, 0] rfl (wL_X1_trodCells_4 b s0 h _ (fun e3 => ?_) FU _ _)
  refine v_lload_n dX1_trodCells_29 rfl rfl ?_
  exact v_lret dX1_trodCells_30 rfl rfl
theorem ct_X1_trodCells {SH : SHT} (b : Nat) (h : isMoor SH b) (s0 : St) : CT yX1_trodCells mX1_trodCells 0 SH (jQ s0) [.ref b] s0 (f_X1_trodCells b s0) := CT.of (by decide +kernel) rfl (fun E => Nat.le_of_ble_eq_true rfl) (w_X1_trodCells b h s0)
set_option maxHeartbeats 4000000 in
set_option maxRecDepth 100000 in
theorem wB_X1_hollows_4 {SH : SHT} (b : Nat) (s0 : St) (h : isMoor SH b) (rec : Int64 → Int32 → Option Int64) (hrec : ∀ (c1 : Int64) (c2 : Int32), VF mX1_hollows 0 SH (jQ s0) 4 [(0, .ref b), (1, .long c1), (3, .int c2)] [] s0 (rec c1 c2)) (K : Int64 → Option Int64) (hK : ∀ (e3 : Int64), VF mX1_hollows 0 SH (jQ s0) 31 [(1, .long e3)] [] s0 (K e3)) (c1 : Int64) (c2 : Int32) : VF mX1_hollows 0 SH (jQ s0) 4 [(0, .ref b), (1, .long c1), (3, .int c2)] [] s0 (B_X1_hollows_4 rec b s0 K c1 c2) := by
  unfold B_X1_hollows_4
  refine v_iload_n dX1_hollows_4 rfl rfl ?_
  refine v_bipush (v := 32) dX1_hollows_5 (by decide +kernel) ?_
  refine v_icmp_ge (tgt := 31) dX1_hollows_7 (by decide) (fun _ => ?_) (fun _ => ?_)
  · skip
    exact v_pick [1] rfl (hK _)
  refine v_aload_n dX1_hollows_10 rfl rfl ?_
  refine v_getr dX1_hollows_11 kf_X1_21 h.1 rfl ?_
  refine v_iload_n dX1_hollows_14 rfl rfl ?_
  refine v_gd (fun g4 => ?_)
  refine v_iald dX1_hollows_15 h.2.2.2.2.1 g4 rfl ?_
  refine v_bnK (fun K6 => ∀ (t5 : Int64), VF mX1_hollows 0 SH (jQ s0) 25 [(0, .ref b), (1, .long t5), (3, .int c2)] [] s0 (K6 t5)) (fun K6 hK6 => ?_) (fun t5 => ?_)
  · skip
    refine v_if_ge (tgt := 25) dX1_hollows_16 (by decide) (fun _ => ?_) (fun _ => ?_)
    · skip
      exact v_pick [0, 1, 2] rfl (hK6 _)
    refine v_lload_n dX1_hollows_19 rfl rfl ?_
    refine v_lconst (v := 1) dX1_hollows_20 (by decide +kernel) ?_
    refine v_iload_n dX1_hollows_21 rfl rfl ?_
    refine v_lshl dX1_hollows_22 ?_
    refine v_lor dX1_hollows_23 ?_
    refine v_topl (fun x7 => ?_)
    refine v_lstore_n (L' := [(1, .long x7), (0, .ref b), (3, .int c2)]) dX1_hollows_24 rfl (by decide) rfl ?_
    exact v_pick [1, 0, 2] rfl (hK6 _)
  refine v_iinc (v := (c2 + (1 : Int32))) (L' := [(3, .int (c2 + (1 : Int32))), (0, .ref b), (1, .long t5)]) dX1_hollows_25 rfl rfl (by decide) rfl ?_
  refine v_goto (tgt := 4) dX1_hollows_28 (by decide) ?_
  exact v_pick [1, 2, 0] rfl (hrec _ _)
theorem wL_X1_hollows_4 {SH : SHT} (b : Nat) (s0 : St) (h : isMoor SH b) (K : Int64 → Option Int64) (hK : ∀ (e3 : Int64), VF mX1_hollows 0 SH (jQ s0) 31 [(1, .long e3)] [] s0 (K e3)) : ∀ (n : Nat) (c1 : Int64) (c2 : Int32), VF mX1_hollows 0 SH (jQ s0) 4 [(0, .ref b), (1, .long c1), (3, .int c2)] [] s0 (L_X1_hollows_4 b s0 K n c1 c2) := by
  intro n
  induction n with
  | zero => intros; exact v_none
  | succ n ih => intro c1 c2; exact wB_X1_hollows_4 b s0 h _ ih K hK c1 c2
set_option maxHeartbeats 4000000 in
set_option maxRecDepth 100000 in
theorem w_X1_hollows {SH : SHT} (b : Nat) (h : isMoor SH b) (s0 : St) : VF mX1_hollows 0 SH (jQ s0) 0 [(0, .ref b)] [] s0 (f_X1_hollows b s0) := by
  unfold f_X1_hollows
  refine v_lconst (v := 0) dX1_hollows_0 (by decide +kernel) ?_
  refine v_lstore_n (L' := [(1, .long (0 : Int64)), (0, .ref b)]) dX1_hollows_1 rfl (by decide) rfl ?_
  refine v_iconst (v := 0) dX1_hollows_2 (by decide +kernel) ?_
  refine v_istore_n (L' := [(3, .int (0 : Int32)), (1, .long (0 : Int64)), (0, .ref b)]) dX1_hollows_3 rfl (by decide) rfl ?_
  refine v_pick [2, 1, 0] rfl (wL_X1_hollows_4 b s0 h _ (fun e3 => ?_) FU _ _)
  refine v_lload_n dX1_hollows_31 rfl rfl ?_
  exact v_lret dX1_hollows_32 rfl rfl
theorem ct_X1_hollows {SH : SHT} (b : Nat) (h : isMoor SH b) (s0 : St) : CT yX1_hollows mX1_hollows 0 SH (jQ s0) [.ref b] s0 (f_X1_hollows b s0) := CT.of (by decide +kernel) rfl (fun E => Nat.le_of_ble_eq_true rfl) (w_X1_hollows b h s0)
set_option maxHeartbeats 4000000 in
set_option maxRecDepth 100000 in
theorem w_X1_partOfRow {SH : SHT} (b : Nat) (a1 : Int32) (a2 : Int32) (h : isMoor SH b) (s0 : St) : VF mX1_partOfRow 2 SH (jP s0) 0 [(0, .ref b), (1, .int a1), (2, .int a2)] [] s0 (f_X1_partOfRow b a1 a2 s0) := by
  unfold f_X1_partOfRow
  refine v_iload_n dX1_partOfRow_0 rfl rfl ?_
  refine v_lsw (cs := [(0, 28), (1, 35)]) (dt := 47) dX1_partOfRow_1 (by decide +kernel) (by decide) (by decide +kernel) (by decide +kernel) ?_
  refine v_swc (fun _ => ?_) (fun _ => ?_)
  · skip
    refine v_aload_n dX1_partOfRow_28 rfl rfl ?_
    refine v_getr dX1_partOfRow_29 kf_X1_30 h.1 rfl ?_
    refine v_iload_n dX1_partOfRow_32 rfl rfl ?_
    refine v_gd (fun g1 => ?_)
    refine v_iald dX1_partOfRow_33 h.2.2.2.2.2.2.2.1 g1 rfl ?_
    exact v_ret (ty := .int) dX1_partOfRow_34 rfl rfl rfl
  refine v_swc (fun _ => ?_) (fun _ => ?_)
  · skip
    refine v_aload_n dX1_partOfRow_35 rfl rfl ?_
    refine v_getr dX1_partOfRow_36 kf_X1_18 h.1 rfl ?_
    refine v_aload_n dX1_partOfRow_39 rfl rfl ?_
    refine v_getr dX1_partOfRow_40 kf_X1_33 h.1 rfl ?_
    refine v_iload_n dX1_partOfRow_43 rfl rfl ?_
    refine v_gd (fun g2 => ?_)
    refine v_iald dX1_partOfRow_44 h.2.2.2.2.2.2.2.2 g2 rfl ?_
    refine v_gd (fun g3 => ?_)
    refine v_iald dX1_partOfRow_45 h.2.2.2.1 g3 rfl ?_
    exact v_ret (ty := .int) dX1_partOfRow_46 rfl rfl rfl
  refine v_swn ?_
  refine v_aload_n dX1_partOfRow_47 rfl rfl ?_
  refine v_cpI (fun z hz => runV (as := []) dX1_partOfRow_48 kv_X1_99 rfl rfl (Nat.le_of_ble_eq_true rfl) (Nat.le_of_ble_eq_true rfl) (recvW h.1 rfl rfl) (ct_X1_lostPeople _ h _) hz) (fun x4 => ?_)
  exact v_ret (ty := .int) dX1_partOfRow_51 rfl rfl rfl
theorem ct_X1_partOfRow {SH : SHT} (b : Nat) (a1 : Int32) (a2 : Int32) (h : isMoor SH b) (s0 : St) : CT yX1_partOfRow mX1_partOfRow 2 SH (jP s0) [.ref b, .int a1, .int a2] s0 (f_X1_partOfRow b a1 a2 s0) := CT.of (by decide +kernel) rfl (fun E => Nat.le_of_ble_eq_true rfl) (w_X1_partOfRow b a1 a2 h s0)
set_option maxHeartbeats 4000000 in
set_option maxRecDepth 100000 in
theorem w_X1_pour {SH : SHT} (b : Nat) (a1 : Int32) (a2 : Int32) (h : isMoor SH b) (s0 : St) : VF mX1_pour 1 SH jV 0 [(0, .ref b), (1, .int a1), (2, .int a2)] [] s0 (f_X1_pour b a1 a2 s0) := by
  unfold f_X1_pour
  refine v_aload_n dX1_pour_0 rfl rfl ?_
  refine v_getr dX1_pour_1 kf_X1_18 h.1 rfl ?_
  refine v_iload_n dX1_pour_4 rfl rfl ?_
  refine v_bipush (v := 99) dX1_pour_5 (by decide +kernel) ?_
  refine v_aload_n dX1_pour_7 rfl rfl ?_
  refine v_getr dX1_pour_8 kf_X1_18 h.1 rfl ?_
  refine v_iload_n dX1_pour_11 rfl rfl ?_
  refine v_gd (fun g1 => ?_)
  refine v_iald dX1_pour_12 h.2.2.2.1 g1 rfl ?_
  refine v_iload_n dX1_pour_13 rfl rfl ?_
  refine v_iadd dX1_pour_14 ?_
  refine v_mmin dX1_pour_15 k9_X1_119 (Nat.le_of_ble_eq_true rfl) (Nat.le_of_ble_eq_true rfl) ?_
  refine v_gd (fun g2 => ?_)
  refine v_iast dX1_pour_18 h.2.2.2.1 g2 rfl (v_st fun s3 => ?_)
  exact v_vret dX1_pour_19 rfl rfl
theorem ct_X1_pour {SH : SHT} (b : Nat) (a1 : Int32) (a2 : Int32) (h : isMoor SH b) (s0 : St) : CT yX1_pour mX1_pour 1 SH jV [.ref b, .int a1, .int a2] s0 (f_X1_pour b a1 a2 s0) := CT.of (by decide +kernel) rfl (fun E => Nat.le_of_ble_eq_true rfl) (w_X1_pour b a1 a2 h s0)
set_option maxHeartbeats 4000000 in
set_option maxRecDepth 100000 in
theorem wB_X1_wellUp_27 {SH : SHT} (b : Nat) (c1 : Int32) (h : isMoor SH b) (rec : Int32 → St → Option St) (hrec : ∀ (c7 : Int32) (s8 : St), VF mX1_wellUp 2 SH jV 27 [(0, .ref b), (1, .int c1), (2, .int c7)] [] s8 (rec c7 s8)) (K : St → Option St) (hK : ∀ (s9 : St), VF mX1_wellUp 2 SH jV 63 [(0, .ref b), (1, .int c1)] [] s9 (K s9)) (c7 : Int32) (s8 : St) : VF mX1_wellUp 2 SH jV 27 [(0, .ref b), (1, .int c1), (2, .int c7)] [] s8 (B_X1_wellUp_27 rec b c1 K c7 s8) := by
  unfold B_X1_wellUp_27
  refine v_iload_n dX1_wellUp_27 rfl rfl ?_
  refine v_iload_n dX1_wellUp_28 rfl rfl ?_
  refine v_icmp_ge (tgt := 63) dX1_wellUp_29 (by decide) (fun _ => ?_) (fun _ => ?_)
  · skip
    exact v_pick [0, 1] rfl (hK _)
  refine v_aload_n dX1_wellUp_32 rfl rfl ?_
  refine v_iload_n dX1_wellUp_33 rfl rfl ?_
  refine v_iload_n dX1_wellUp_34 rfl rfl ?_
  refine v_cpI (fun z hz => runV (as := [.int c1, .int c7]) dX1_wellUp_35 kv_X1_81 rfl rfl (Nat.le_of_ble_eq_true rfl) (Nat.le_of_ble_eq_true rfl) (recvW h.1 rfl rfl) (ct_X1_disagree _ _ _ h _) hz) (fun x10 => ?_)
  refine v_bnK (fun K12 => ∀ (s11 : St), VF mX1_wellUp 2 SH jV 57 [(0, .ref b), (1, .int c1), (2, .int c7)] [] s11 (K12 s11)) (fun K12 hK12 => ?_) (fun s11 => ?_)
  · skip
    refine v_if_eq (tgt := 57) dX1_wellUp_38 (by decide) (fun _ => ?_) (fun _ => ?_)
    · skip
      exact v_pick [0, 1, 2] rfl (hK12 _)
    refine v_aload_n dX1_wellUp_41 rfl rfl ?_
    refine v_aload_n dX1_wellUp_42 rfl rfl ?_
    refine v_getr dX1_wellUp_43 kf_X1_33 h.1 rfl ?_
    refine v_iload_n dX1_wellUp_46 rfl rfl ?_
    refine v_gd (fun g13 => ?_)
    refine v_iald dX1_wellUp_47 h.2.2.2.2.2.2.2.2 g13 rfl ?_
    refine v_aload_n dX1_wellUp_48 rfl rfl ?_
    refine v_getr dX1_wellUp_49 kf_X1_9 h.1 rfl ?_
    refine v_iconst (v := 1) dX1_wellUp_52 (by decide +kernel) ?_
    refine v_iald dX1_wellUp_53 h.2.1 (by decide +kernel) (j := 1) (by decide +kernel) ?_
    refine v_cw (fun z hz => runV (as := [.int (gA s8 (b + 8) (ix c1)), .int (gA s8 (b + 1) 1)]) dX1_wellUp_54 kv_X1_122 rfl rfl (Nat.le_of_ble_eq_true rfl) (Nat.le_of_ble_eq_true rfl) (recvW h.1 rfl rfl) (ct_X1_pour _ _ _ h _) hz) (fun s14 => ?_)
    exact v_pick [0, 1, 2] rfl (hK12 _)
  refine v_iinc (v := (c7 + (1 : Int32))) (L' := [(2, .int (c7 + (1 : Int32))), (0, .ref b), (1, .int c1)]) dX1_wellUp_57 rfl rfl (by decide) rfl ?_
  refine v_goto (tgt := 27) dX1_wellUp_60 (by decide) ?_
  exact v_pick [1, 2, 0] rfl (hrec _ _)
theorem wL_X1_wellUp_27 {SH : SHT} (b : Nat) (c1 : Int32) (h : isMoor SH b) (K : St → Option St) (hK : ∀ (s9 : St), VF mX1_wellUp 2 SH jV 63 [(0, .ref b), (1, .int c1)] [] s9 (K s9)) : ∀ (n : Nat) (c7 : Int32) (s8 : St), VF mX1_wellUp 2 SH jV 27 [(0, .ref b), (1, .int c1), (2, .int c7)] [] s8 (L_X1_wellUp_27 b c1 K n c7 s8) := by
  intro n
  induction n with
  | zero => intros; exact v_none
  | succ n ih => intro c7 s8; exact wB_X1_wellUp_27 b c1 h _ ih K hK c7 s8
set_option maxHeartbeats 4000000 in
set_option maxRecDepth 100000 in
theorem wB_X1_wellUp_2 {SH : SHT} (b : Nat) (h : isMoor SH b) (rec : Int32 → St → Option St) (hrec : ∀ (c1 : Int32) (s2 : St), VF mX1_wellUp 2 SH jV 2 [(0, .ref b), (1, .int c1)] [] s2 (rec c1 s2)) (K : St → Option St) (hK : ∀ (s3 : St), VF mX1_wellUp 2 SH jV 69 [] [] s3 (K s3)) (c1 : Int32) (s2 : St) : VF mX1_wellUp 2 SH jV 2 [(0, .ref b), (1, .int c1)] [] s2 (B_X1_wellUp_2 rec b K c1 s2) := by
  unfold B_X1_wellUp_2
  refine v_iload_n dX1_wellUp_2 rfl rfl ?_
  refine v_aload_n dX1_wellUp_3 rfl rfl ?_
  refine v_geti dX1_wellUp_4 kf_X1_49 h.1 rfl ?_
  refine v_icmp_ge (tgt := 69) dX1_wellUp_7 (by decide) (fun _ => ?_) (fun _ => ?_)
  · skip
    exact v_pick [] rfl (hK _)
  refine v_aload_n dX1_wellUp_10 rfl rfl ?_
  refine v_aload_n dX1_wellUp_11 rfl rfl ?_
  refine v_getr dX1_wellUp_12 kf_X1_33 h.1 rfl ?_
  refine v_iload_n dX1_wellUp_15 rfl rfl ?_
  refine v_gd (fun g4 => ?_)
  refine v_iald dX1_wellUp_16 h.2.2.2.2.2.2.2.2 g4 rfl ?_
  refine v_aload_n dX1_wellUp_17 rfl rfl ?_
  refine v_iload_n dX1_wellUp_18 rfl rfl ?_
  refine v_cpI (fun z hz => runV (as := [.int c1]) dX1_wellUp_19 kv_X1_85 rfl rfl (Nat.le_of_ble_eq_true rfl) (Nat.le_of_ble_eq_true rfl) (recvW h.1 rfl rfl) (ct_X1_welling _ _ h _) hz) (fun x5 => ?_)
  refine v_cw (fun z hz => runV (as := [.int (gA s2 (b + 8) (ix c1)), .int x5]) dX1_wellUp_22 kv_X1_122 rfl rfl (Nat.le_of_ble_eq_true rfl) (Nat.le_of_ble_eq_true rfl) (recvW h.1 rfl rfl) (ct_X1_pour _ _ _ h _) hz) (fun s6 => ?_)
  refine v_iconst (v := 0) dX1_wellUp_25 (by decide +kernel) ?_
  refine v_istore_n (L' := [(2, .int (0 : Int32)), (0, .ref b), (1, .int c1)]) dX1_wellUp_26 rfl (by decide) rfl ?_
  refine v_pick [1, 2, 0] rfl (wL_X1_wellUp_27 b c1 h _ (fun s9 => ?_) FU _ _)
  refine v_iinc (v := (c1 + (1 : Int32))) (L' := [(1, .int (c1 + (1 : Int32))), (0, .ref b)]) dX1_wellUp_63 rfl rfl (by decide) rfl ?_
  refine v_goto (tgt := 2) dX1_wellUp_66 (by decide) ?_
  exact v_pick [1, 0] rfl (hrec _ _)
theorem wL_X1_wellUp_2 {SH : SHT} (b : Nat) (h : isMoor SH b) (K : St → Option St) (hK : ∀ (s3 : St), VF mX1_wellUp 2 SH jV 69 [] [] s3 (K s3)) : ∀ (n : Nat) (c1 : Int32) (s2 : St), VF mX1_wellUp 2 SH jV 2 [(0, .ref b), (1, .int c1)] [] s2 (L_X1_wellUp_2 b K n c1 s2) := by
  intro n
  induction n with
  | zero => intros; exact v_none
  | succ n ih => intro c1 s2; exact wB_X1_wellUp_2 b h _ ih K hK c1 s2
set_option maxHeartbeats 4000000 in
set_option maxRecDepth 100000 in
theorem w_X1_wellUp {SH : SHT} (b : Nat) (h : isMoor SH b) (s0 : St) : VF mX1_wellUp 2 SH jV 0 [(0, .ref b)] [] s0 (f_X1_wellUp b s0) := by
  unfold f_X1_wellUp
  refine v_iconst (v := 0) dX1_wellUp_0 (by decide +kernel) ?_
  refine v_istore_n (L' := [(1, .int (0 : Int32)), (0, .ref b)]) dX1_wellUp_1 rfl (by decide) rfl ?_
  refine v_pick [1, 0] rfl (wL_X1_wellUp_2 b h _ (fun s3 => ?_) FU _ _)
  exact v_vret dX1_wellUp_69 rfl rfl
theorem ct_X1_wellUp {SH : SHT} (b : Nat) (h : isMoor SH b) (s0 : St) : CT yX1_wellUp mX1_wellUp 2 SH jV [.ref b] s0 (f_X1_wellUp b s0) := CT.of (by decide +kernel) rfl (fun E => Nat.le_of_ble_eq_true rfl) (w_X1_wellUp b h s0)
set_option maxHeartbeats 4000000 in
set_option maxRecDepth 100000 in
theorem wB_X1_runDown_2 {SH : SHT} (b : Nat) (h : isMoor SH b) (rec : Int32 → St → Option St) (hrec : ∀ (c1 : Int32) (s2 : St), VF mX1_runDown 2 SH jV 2 [(0, .ref b), (1, .int c1)] [] s2 (rec c1 s2)) (K : St → Option St) (hK : ∀ (s3 : St), VF mX1_runDown 2 SH jV 64 [] [] s3 (K s3)) (c1 : Int32) (s2 : St) : VF mX1_runDown 2 SH jV 2 [(0, .ref b), (1, .int c1)] [] s2 (B_X1_runDown_2 rec b K c1 s2) := by
  unfold B_X1_runDown_2
  refine v_iload_n dX1_runDown_2 rfl rfl ?_
  refine v_bipush (v := 32) dX1_runDown_3 (by decide +kernel) ?_
  refine v_icmp_ge (tgt := 64) dX1_runDown_5 (by decide) (fun _ => ?_) (fun _ => ?_)
  · skip
    exact v_pick [] rfl (hK _)
  refine v_aload_n dX1_runDown_8 rfl rfl ?_
  refine v_getr dX1_runDown_9 kf_X1_18 h.1 rfl ?_
  refine v_iload_n dX1_runDown_12 rfl rfl ?_
  refine v_gd (fun g4 => ?_)
  refine v_iald dX1_runDown_13 h.2.2.2.1 g4 rfl ?_
  refine v_aload_n dX1_runDown_14 rfl rfl ?_
  refine v_getr dX1_runDown_15 kf_X1_9 h.1 rfl ?_
  refine v_iconst (v := 2) dX1_runDown_18 (by decide +kernel) ?_
  refine v_iald dX1_runDown_19 h.2.1 (by decide +kernel) (j := 2) (by decide +kernel) ?_
  refine v_isub dX1_runDown_20 ?_
  refine v_iconst (v := 2) dX1_runDown_21 (by decide +kernel) ?_
  refine v_idiv' dX1_runDown_22 (by decide +kernel) ?_
  refine v_topi (fun x5 => ?_)
  refine v_istore_n (L' := [(2, .int x5), (0, .ref b), (1, .int c1)]) dX1_runDown_23 rfl (by decide) rfl ?_
  refine v_iload_n dX1_runDown_24 rfl rfl ?_
  refine v_bnK (fun K7 => ∀ (s6 : St), VF mX1_runDown 2 SH jV 58 [(0, .ref b), (1, .int c1)] [] s6 (K7 s6)) (fun K7 hK7 => ?_) (fun s6 => ?_)
  · skip
    refine v_if_le (tgt := 58) dX1_runDown_25 (by decide) (fun _ => ?_) (fun _ => ?_)
    · skip
      exact v_pick [1, 2] rfl (hK7 _)
    refine v_aload_n dX1_runDown_28 rfl rfl ?_
    refine v_getr dX1_runDown_29 kf_X1_21 h.1 rfl ?_
    refine v_iload_n dX1_runDown_32 rfl rfl ?_
    refine v_gd (fun g8 => ?_)
    refine v_iald dX1_runDown_33 h.2.2.2.2.1 g8 rfl ?_
    refine v_if_lt (tgt := 58) dX1_runDown_34 (by decide) (fun _ => ?_) (fun _ => ?_)
    · skip
      exact v_pick [1, 2] rfl (hK7 _)
    refine v_aload_n dX1_runDown_37 rfl rfl ?_
    refine v_getr dX1_runDown_38 kf_X1_18 h.1 rfl ?_
    refine v_iload_n dX1_runDown_41 rfl rfl ?_
    refine v_dup2 dX1_runDown_42 rfl rfl ?_
    refine v_gd (fun g9 => ?_)
    refine v_iald dX1_runDown_43 h.2.2.2.1 g9 rfl ?_
    refine v_iload_n dX1_runDown_44 rfl rfl ?_
    refine v_isub dX1_runDown_45 ?_
    refine v_gd (fun g10 => ?_)
    refine v_iast dX1_runDown_46 h.2.2.2.1 g10 rfl (v_st fun s11 => ?_)
    refine v_aload_n dX1_runDown_47 rfl rfl ?_
    refine v_aload_n dX1_runDown_48 rfl rfl ?_
    refine v_getr dX1_runDown_49 kf_X1_21 h.1 rfl ?_
    refine v_iload_n dX1_runDown_52 rfl rfl ?_
    refine v_gd (fun g12 => ?_)
    refine v_iald dX1_runDown_53 h.2.2.2.2.1 g12 rfl ?_
    refine v_iload_n dX1_runDown_54 rfl rfl ?_
    refine v_cw (fun z hz => runV (as := [.int (gA s11 (b + 4) (ix c1)), .int x5]) dX1_runDown_55 kv_X1_122 rfl rfl (Nat.le_of_ble_eq_true rfl) (Nat.le_of_ble_eq_true rfl) (recvW h.1 rfl rfl) (ct_X1_pour _ _ _ h _) hz) (fun s13 => ?_)
    exact v_pick [1, 2] rfl (hK7 _)
  refine v_iinc (v := (c1 + (1 : Int32))) (L' := [(1, .int (c1 + (1 : Int32))), (0, .ref b)]) dX1_runDown_58 rfl rfl (by decide) rfl ?_
  refine v_goto (tgt := 2) dX1_runDown_61 (by decide) ?_
  exact v_pick [1, 0] rfl (hrec _ _)
theorem wL_X1_runDown_2 {SH : SHT} (b : Nat) (h : isMoor SH b) (K : St → Option St) (hK : ∀ (s3 : St), VF mX1_runDown 2 SH jV 64 [] [] s3 (K s3)) : ∀ (n : Nat) (c1 : Int32) (s2 : St), VF mX1_runDown 2 SH jV 2 [(0, .ref b), (1, .int c1)] [] s2 (L_X1_runDown_2 b K n c1 s2) := by
  intro n
  induction n with
  | zero => intros; exact v_none
  | succ n ih => intro c1 s2; exact wB_X1_runDown_2 b h _ ih K hK c1 s2
set_option maxHeartbeats 4000000 in
set_option maxRecDepth 100000 in
theorem w_X1_runDown {SH : SHT} (b : Nat) (h : isMoor SH b) (s0 : St) : VF mX1_runDown 2 SH jV 0 [(0, .ref b)] [] s0 (f_X1_runDown b s0) := by
  unfold f_X1_runDown
  refine v_iconst (v := 0) dX1_runDown_0 (by decide +kernel) ?_
  refine v_istore_n (L' := [(1, .int (0 : Int32)), (0, .ref b)]) dX1_runDown_1 rfl (by decide) rfl ?_
  refine v_pick [1, 0] rfl (wL_X1_runDown_2 b h _ (fun s3 => ?_) FU _ _)
  exact v_vret dX1_runDown_64 rfl rfl
theorem ct_X1_runDown {SH : SHT} (b : Nat) (h : isMoor SH b) (s0 : St) : CT yX1_runDown mX1_runDown 2 SH jV [.ref b] s0 (f_X1_runDown b s0) := CT.of (by decide +kernel) rfl (fun E => Nat.le_of_ble_eq_true rfl) (w_X1_runDown b h s0)
set_option maxHeartbeats 4000000 in
set_option maxRecDepth 100000 in
theorem w_X3_heldSure {SH : SHT} (a0 : Int32) (s0 : St) : VF mX3_heldSure 1 SH (jP s0) 0 [(0, .int a0)] [] s0 (f_X3_heldSure a0) := by
  unfold f_X3_heldSure
  refine v_iconst (v := 0) dX3_heldSure_0 (by decide +kernel) ?_
  refine v_bipush (v := 99) dX3_heldSure_1 (by decide +kernel) ?_
  refine v_iload_n dX3_heldSure_3 rfl rfl ?_
  refine v_mmin dX3_heldSure_4 k9_X3_291 (Nat.le_of_ble_eq_true rfl) (Nat.le_of_ble_eq_true rfl) ?_
  refine v_mmax dX3_heldSure_7 k9_X3_296 (Nat.le_of_ble_eq_true rfl) (Nat.le_of_ble_eq_true rfl) ?_
  exact v_ret (ty := .int) dX3_heldSure_10 rfl rfl rfl
theorem ct_X3_heldSure {SH : SHT} (a0 : Int32) (s0 : St) : CT yX3_heldSure mX3_heldSure 1 SH (jP s0) [.int a0] s0 (f_X3_heldSure a0) := CT.of (by decide +kernel) rfl (fun E => Nat.le_of_ble_eq_true rfl) (w_X3_heldSure a0  s0)
set_option maxHeartbeats 4000000 in
set_option maxRecDepth 100000 in
theorem wB_X1_changeMinds_2 {SH : SHT} (b : Nat) (h : isMoor SH b) (rec : Int32 → St → Option St) (hrec : ∀ (c1 : Int32) (s2 : St), VF mX1_changeMinds 2 SH jV 2 [(0, .ref b), (1, .int c1)] [] s2 (rec c1 s2)) (K : St → Option St) (hK : ∀ (s3 : St), VF mX1_changeMinds 2 SH jV 69 [] [] s3 (K s3)) (c1 : Int32) (s2 : St) : VF mX1_changeMinds 2 SH jV 2 [(0, .ref b), (1, .int c1)] [] s2 (B_X1_changeMinds_2 rec b K c1 s2) := by
  unfold B_X1_changeMinds_2
  refine v_iload_n dX1_changeMinds_2 rfl rfl ?_
  refine v_aload_n dX1_changeMinds_3 rfl rfl ?_
  refine v_geti dX1_changeMinds_4 kf_X1_49 h.1 rfl ?_
  refine v_icmp_ge (tgt := 69) dX1_changeMinds_7 (by decide) (fun _ => ?_) (fun _ => ?_)
  · skip
    exact v_pick [] rfl (hK _)
  refine v_aload_n dX1_changeMinds_10 rfl rfl ?_
  refine v_iload_n dX1_changeMinds_11 rfl rfl ?_
  refine v_cpI (fun z hz => runV (as := [.int c1]) dX1_changeMinds_12 kv_X1_69 rfl rfl (Nat.le_of_ble_eq_true rfl) (Nat.le_of_ble_eq_true rfl) (recvW h.1 rfl rfl) (ct_X1_isLost _ _ h _) hz) (fun x4 => ?_)
  refine v_bnK (fun K6 => ∀ (s5 : St), VF mX1_changeMinds 2 SH jV 63 [(0, .ref b), (1, .int c1)] [] s5 (K6 s5)) (fun K6 hK6 => ?_) (fun s5 => ?_)
  · skip
    refine v_if_ne (tgt := 63) dX1_changeMinds_15 (by decide) (fun _ => ?_) (fun _ => ?_)
    · skip
      exact v_pick [0, 1] rfl (hK6 _)
    refine v_aload_n dX1_changeMinds_18 rfl rfl ?_
    refine v_aload_n dX1_changeMinds_19 rfl rfl ?_
    refine v_getr dX1_changeMinds_20 kf_X1_33 h.1 rfl ?_
    refine v_iload_n dX1_changeMinds_23 rfl rfl ?_
    refine v_gd (fun g7 => ?_)
    refine v_iald dX1_changeMinds_24 h.2.2.2.2.2.2.2.2 g7 rfl ?_
    refine v_cpI (fun z hz => runV (as := [.int (gA s2 (b + 8) (ix c1))]) dX1_changeMinds_25 kv_X1_96 rfl rfl (Nat.le_of_ble_eq_true rfl) (Nat.le_of_ble_eq_true rfl) (recvW h.1 rfl rfl) (ct_X1_isWet _ _ h _) hz) (fun x8 => ?_)
    refine v_bnK (fun K10 => ∀ (t9 : Int32), VF mX1_changeMinds 2 SH jV 45 [(0, .ref b), (1, .int c1)] [.int t9] s2 (K10 t9)) (fun K10 hK10 => ?_) (fun t9 => ?_)
    · skip
      refine v_if_eq (tgt := 40) dX1_changeMinds_28 (by decide) (fun _ => ?_) (fun _ => ?_)
      · skip
        refine v_aload_n dX1_changeMinds_40 rfl rfl ?_
        refine v_iload_n dX1_changeMinds_41 rfl rfl ?_
        refine v_cpI (fun z hz => runV (as := [.int c1]) dX1_changeMinds_42 kv_X1_129 rfl rfl (Nat.le_of_ble_eq_true rfl) (Nat.le_of_ble_eq_true rfl) (recvW h.1 rfl rfl) (ct_X1_winning _ _ h _) hz) (fun x11 => ?_)
        exact v_pick [0, 1] rfl (hK10 _)
      refine v_aload_n dX1_changeMinds_31 rfl rfl ?_
      refine v_iload_n dX1_changeMinds_32 rfl rfl ?_
      refine v_cpI (fun z hz => runV (as := [.int c1]) dX1_changeMinds_33 kv_X1_126 rfl rfl (Nat.le_of_ble_eq_true rfl) (Nat.le_of_ble_eq_true rfl) (recvW h.1 rfl rfl) (ct_X1_losing _ _ h _) hz) (fun x12 => ?_)
      refine v_ineg dX1_changeMinds_36 ?_
      refine v_goto (tgt := 45) dX1_changeMinds_37 (by decide) ?_
      exact v_pick [0, 1] rfl (hK10 _)
    refine v_istore_n (L' := [(2, .int t9), (0, .ref b), (1, .int c1)]) dX1_changeMinds_45 rfl (by decide) rfl ?_
    refine v_aload_n dX1_changeMinds_46 rfl rfl ?_
    refine v_getr dX1_changeMinds_47 kf_X1_30 h.1 rfl ?_
    refine v_iload_n dX1_changeMinds_50 rfl rfl ?_
    refine v_aload_n dX1_changeMinds_51 rfl rfl ?_
    refine v_getr dX1_changeMinds_52 kf_X1_30 h.1 rfl ?_
    refine v_iload_n dX1_changeMinds_55 rfl rfl ?_
    refine v_gd (fun g13 => ?_)
    refine v_iald dX1_changeMinds_56 h.2.2.2.2.2.2.2.1 g13 rfl ?_
    refine v_iload_n dX1_changeMinds_57 rfl rfl ?_
    refine v_iadd dX1_changeMinds_58 ?_
    refine v_cpI (fun z hz => runT (as := [.int ((gA s2 (b + 7) (ix c1)) + t9)]) dX1_changeMinds_59 kt_X1_132 rfl rfl (Nat.le_of_ble_eq_true rfl) (Nat.le_of_ble_eq_true rfl) (ct_X3_heldSure _  _) hz) (fun x14 => ?_)
    refine v_gd (fun g15 => ?_)
    refine v_iast dX1_changeMinds_62 h.2.2.2.2.2.2.2.1 g15 rfl (v_st fun s16 => ?_)
    exact v_pick [1, 2] rfl (hK6 _)
  refine v_iinc (v := (c1 + (1 : Int32))) (L' := [(1, .int (c1 + (1 : Int32))), (0, .ref b)]) dX1_changeMinds_63 rfl rfl (by decide) rfl ?_
  refine v_goto (tgt := 2) dX1_changeMinds_66 (by decide) ?_
  exact v_pick [1, 0] rfl (hrec _ _)
theorem wL_X1_changeMinds_2 {SH : SHT} (b : Nat) (h : isMoor SH b) (K : St → Option St) (hK : ∀ (s3 : St), VF mX1_changeMinds 2 SH jV 69 [] [] s3 (K s3)) : ∀ (n : Nat) (c1 : Int32) (s2 : St), VF mX1_changeMinds 2 SH jV 2 [(0, .ref b), (1, .int c1)] [] s2 (L_X1_changeMinds_2 b K n c1 s2) := by
  intro n
  induction n with
  | zero => intros; exact v_none
  | succ n ih => intro c1 s2; exact wB_X1_changeMinds_2 b h _ ih K hK c1 s2
set_option maxHeartbeats 4000000 in
set_option maxRecDepth 100000 in
theorem w_X1_changeMinds {SH : SHT} (b : Nat) (h : isMoor SH b) (s0 : St) : VF mX1_changeMinds 2 SH jV 0 [(0, .ref b)] [] s0 (f_X1_changeMinds b s0) := by
  unfold f_X1_changeMinds
  refine v_iconst (v := 0) dX1_changeMinds_0 (by decide +kernel) ?_
  refine v_istore_n (L' := [(1, .int (0 : Int32)), (0, .ref b)]) dX1_changeMinds_1 rfl (by decide) rfl ?_
  refine v_pick [1, 0] rfl (wL_X1_changeMinds_2 b h _ (fun s3 => ?_) FU _ _)
  exact v_vret dX1_changeMinds_69 rfl rfl
theorem ct_X1_changeMinds {SH : SHT} (b : Nat) (h : isMoor SH b) (s0 : St) : CT yX1_changeMinds mX1_changeMinds 2 SH jV [.ref b] s0 (f_X1_changeMinds b s0) := CT.of (by decide +kernel) rfl (fun E => Nat.le_of_ble_eq_true rfl) (w_X1_changeMinds b h s0)
set_option maxHeartbeats 4000000 in
set_option maxRecDepth 100000 in
theorem w_X1_passYear {SH : SHT} (b : Nat) (h : isMoor SH b) (s0 : St) : VF mX1_passYear 3 SH jV 0 [(0, .ref b)] [] s0 (f_X1_passYear b s0) := by
  unfold f_X1_passYear
  refine v_aload_n dX1_passYear_0 rfl rfl ?_
  refine v_cw (fun z hz => runV (as := []) dX1_passYear_1 kv_X1_106 rfl rfl (Nat.le_of_ble_eq_true rfl) (Nat.le_of_ble_eq_true rfl) (recvW h.1 rfl rfl) (ct_X1_wellUp _ h _) hz) (fun s1 => ?_)
  refine v_aload_n dX1_passYear_4 rfl rfl ?_
  refine v_cw (fun z hz => runV (as := []) dX1_passYear_5 kv_X1_109 rfl rfl (Nat.le_of_ble_eq_true rfl) (Nat.le_of_ble_eq_true rfl) (recvW h.1 rfl rfl) (ct_X1_runDown _ h _) hz) (fun s2 => ?_)
  refine v_aload_n dX1_passYear_8 rfl rfl ?_
  refine v_cw (fun z hz => runV (as := []) dX1_passYear_9 kv_X1_112 rfl rfl (Nat.le_of_ble_eq_true rfl) (Nat.le_of_ble_eq_true rfl) (recvW h.1 rfl rfl) (ct_X1_changeMinds _ h _) hz) (fun s3 => ?_)
  refine v_aload_n dX1_passYear_12 rfl rfl ?_
  refine v_dup dX1_passYear_13 rfl ?_
  refine v_geti dX1_passYear_14 kf_X1_46 h.1 rfl ?_
  refine v_iconst (v := 1) dX1_passYear_17 (by decide +kernel) ?_
  refine v_iadd dX1_passYear_18 ?_
  refine v_puti dX1_passYear_19 kp_X1_46 h.1 rfl rfl rfl (v_st fun s4 => ?_)
  exact v_vret dX1_passYear_22 rfl rfl
theorem ct_X1_passYear {SH : SHT} (b : Nat) (h : isMoor SH b) (s0 : St) : CT yX1_passYear mX1_passYear 3 SH jV [.ref b] s0 (f_X1_passYear b s0) := CT.of (by decide +kernel) rfl (fun E => Nat.le_of_ble_eq_true rfl) (w_X1_passYear b h s0)
set_option maxHeartbeats 4000000 in
set_option maxRecDepth 100000 in
theorem wB_X1_passYears_2 {SH : SHT} (b : Nat) (a1 : Int32) (h : isMoor SH b) (rec : Int32 → St → Option St) (hrec : ∀ (c1 : Int32) (s2 : St), VF mX1_passYears 4 SH jV 2 [(0, .ref b), (1, .int a1), (2, .int c1)] [] s2 (rec c1 s2)) (K : St → Option St) (hK : ∀ (s3 : St), VF mX1_passYears 4 SH jV 17 [] [] s3 (K s3)) (c1 : Int32) (s2 : St) : VF mX1_passYears 4 SH jV 2 [(0, .ref b), (1, .int a1), (2, .int c1)] [] s2 (B_X1_passYears_2 rec b a1 K c1 s2) := by
  unfold B_X1_passYears_2
  refine v_iload_n dX1_passYears_2 rfl rfl ?_
  refine v_iload_n dX1_passYears_3 rfl rfl ?_
  refine v_icmp_ge (tgt := 17) dX1_passYears_4 (by decide) (fun _ => ?_) (fun _ => ?_)
  · skip
    exact v_pick [] rfl (hK _)
  refine v_aload_n dX1_passYears_7 rfl rfl ?_
  refine v_cw (fun z hz => runV (as := []) dX1_passYears_8 kv_X1_103 rfl rfl (Nat.le_of_ble_eq_true rfl) (Nat.le_of_ble_eq_true rfl) (recvW h.1 rfl rfl) (ct_X1_passYear _ h _) hz) (fun s4 => ?_)
  refine v_iinc (v := (c1 + (1 : Int32))) (L' := [(2, .int (c1 + (1 : Int32))), (0, .ref b), (1, .int a1)]) dX1_passYears_11 rfl rfl (by decide) rfl ?_
  refine v_goto (tgt := 2) dX1_passYears_14 (by decide) ?_
  exact v_pick [1, 2, 0] rfl (hrec _ _)
theorem wL_X1_passYears_2 {SH : SHT} (b : Nat) (a1 : Int32) (h : isMoor SH b) (K : St → Option St) (hK : ∀ (s3 : St), VF mX1_passYears 4 SH jV 17 [] [] s3 (K s3)) : ∀ (n : Nat) (c1 : Int32) (s2 : St), VF mX1_passYears 4 SH jV 2 [(0, .ref b), (1, .int a1), (2, .int c1)] [] s2 (L_X1_passYears_2 b a1 K n c1 s2) := by
  intro n
  induction n with
  | zero => intros; exact v_none
  | succ n ih => intro c1 s2; exact wB_X1_passYears_2 b a1 h _ ih K hK c1 s2
set_option maxHeartbeats 4000000 in
set_option maxRecDepth 100000 in
theorem w_X1_passYears {SH : SHT} (b : Nat) (a1 : Int32) (h : isMoor SH b) (s0 : St) : VF mX1_passYears 4 SH jV 0 [(0, .ref b), (1, .int a1)] [] s0 (f_X1_passYears b a1 s0) := by
  unfold f_X1_passYears
  refine v_iconst (v := 0) dX1_passYears_0 (by decide +kernel) ?_
  refine v_istore_n (L' := [(2, .int (0 : Int32)), (0, .ref b), (1, .int a1)]) dX1_passYears_1 rfl (by decide) rfl ?_
  refine v_pick [1, 2, 0] rfl (wL_X1_passYears_2 b a1 h _ (fun s3 => ?_) FU _ _)
  exact v_vret dX1_passYears_17 rfl rfl
theorem ct_X1_passYears {SH : SHT} (b : Nat) (a1 : Int32) (h : isMoor SH b) (s0 : St) : CT yX1_passYears mX1_passYears 4 SH jV [.ref b, .int a1] s0 (f_X1_passYears b a1 s0) := CT.of (by decide +kernel) rfl (fun E => Nat.le_of_ble_eq_true rfl) (w_X1_passYears b a1 h s0)
set_option maxHeartbeats 4000000 in
set_option maxRecDepth 100000 in
theorem w_X1_draw {SH : SHT} (b : Nat) (h : isMoor SH b) (s0 : St) : VF mX1_draw 0 SH jI 0 [(0, .ref b)] [] s0 (f_X1_draw b s0) := by
  unfold f_X1_draw
  refine v_aload_n dX1_draw_0 rfl rfl ?_
  refine v_aload_n dX1_draw_1 rfl rfl ?_
  refine v_geti dX1_draw_2 kf_X1_36 h.1 rfl ?_
  refine v_ldc dX1_draw_5 kcon_X1_118 ?_
  refine v_imul dX1_draw_7 ?_
  refine v_sipush (v := 12345) dX1_draw_8 (by decide +kernel) ?_
  refine v_iadd dX1_draw_11 ?_
  refine v_puti dX1_draw_12 kp_X1_36 h.1 rfl rfl rfl (v_st fun s1 => ?_)
  refine v_aload_n dX1_draw_15 rfl rfl ?_
  refine v_geti dX1_draw_16 kf_X1_36 h.1 rfl ?_
  refine v_bipush (v := 16) dX1_draw_19 (by decide +kernel) ?_
  refine v_iushr dX1_draw_21 ?_
  exact v_ret (ty := .int) dX1_draw_22 rfl rfl rfl
theorem ct_X1_draw {SH : SHT} (b : Nat) (h : isMoor SH b) (s0 : St) : CT yX1_draw mX1_draw 0 SH jI [.ref b] s0 (f_X1_draw b s0) := CT.of (by decide +kernel) rfl (fun E => Nat.le_of_ble_eq_true rfl) (w_X1_draw b h s0)
set_option maxHeartbeats 4000000 in
set_option maxRecDepth 100000 in
theorem w_X1_passYearByDraws {SH : SHT} (b : Nat) (h : isMoor SH b) (s0 : St) : VF mX1_passYearByDraws 4 SH jV 0 [(0, .ref b)] [] s0 (f_X1_passYearByDraws b s0) := by
  unfold f_X1_passYearByDraws
  refine v_aload_n dX1_passYearByDraws_0 rfl rfl ?_
  refine v_geti dX1_passYearByDraws_1 kf_X1_49 h.1 rfl ?_
  refine v_bnK (fun K2 => ∀ (s1 : St), VF mX1_passYearByDraws 4 SH jV 43 [(0, .ref b)] [] s1 (K2 s1)) (fun K2 hK2 => ?_) (fun s1 => ?_)
  · skip
    refine v_if_le (tgt := 43) dX1_passYearByDraws_4 (by decide) (fun _ => ?_) (fun _ => ?_)
    · skip
      exact v_pick [0] rfl (hK2 _)
    refine v_aload_n dX1_passYearByDraws_7 rfl rfl ?_
    refine v_cbI (fun z hz => runV (as := []) dX1_passYearByDraws_8 kv_X1_115 rfl rfl (Nat.le_of_ble_eq_true rfl) (Nat.le_of_ble_eq_true rfl) (recvW h.1 rfl rfl) (ct_X1_draw _ h _) hz) (fun x4 s3 => ?_)
    refine v_aload_n dX1_passYearByDraws_11 rfl rfl ?_
    refine v_geti dX1_passYearByDraws_12 kf_X1_49 h.1 rfl ?_
    refine v_irem dX1_passYearByDraws_15 (fun _ => ?_)
    refine v_topi (fun x5 => ?_)
    refine v_istore_n (L' := [(1, .int x5), (0, .ref b)]) dX1_passYearByDraws_16 rfl (by decide) rfl ?_
    refine v_aload_n dX1_passYearByDraws_17 rfl rfl ?_
    refine v_cbI (fun z hz => runV (as := []) dX1_passYearByDraws_18 kv_X1_115 rfl rfl (Nat.le_of_ble_eq_true rfl) (Nat.le_of_ble_eq_true rfl) (recvW h.1 rfl rfl) (ct_X1_draw _ h _) hz) (fun x7 s6 => ?_)
    refine v_bipush (v := 100) dX1_passYearByDraws_21 (by decide +kernel) ?_
    refine v_irem' dX1_passYearByDraws_23 (by decide +kernel) ?_
    refine v_aload_n dX1_passYearByDraws_24 rfl rfl ?_
    refine v_getr dX1_passYearByDraws_25 kf_X1_9 h.1 rfl ?_
    refine v_iconst (v := 3) dX1_passYearByDraws_28 (by decide +kernel) ?_
    refine v_iald dX1_passYearByDraws_29 h.2.1 (by decide +kernel) (j := 3) (by decide +kernel) ?_
    refine v_icmp_ge (tgt := 43) dX1_passYearByDraws_30 (by decide) (fun _ => ?_) (fun _ => ?_)
    · skip
      exact v_pick [1] rfl (hK2 _)
    refine v_aload_n dX1_passYearByDraws_33 rfl rfl ?_
    refine v_getr dX1_passYearByDraws_34 kf_X1_30 h.1 rfl ?_
    refine v_iload_n dX1_passYearByDraws_37 rfl rfl ?_
    refine v_dup2 dX1_passYearByDraws_38 rfl rfl ?_
    refine v_gd (fun g8 => ?_)
    refine v_iald dX1_passYearByDraws_39 h.2.2.2.2.2.2.2.1 g8 rfl ?_
    refine v_iconst (v := 2) dX1_passYearByDraws_40 (by decide +kernel) ?_
    refine v_idiv' dX1_passYearByDraws_41 (by decide +kernel) ?_
    refine v_gd (fun g9 => ?_)
    refine v_iast dX1_passYearByDraws_42 h.2.2.2.2.2.2.2.1 g9 rfl (v_st fun s10 => ?_)
    exact v_pick [1] rfl (hK2 _)
  refine v_aload_n dX1_passYearByDraws_43 rfl rfl ?_
  refine v_cw (fun z hz => runV (as := []) dX1_passYearByDraws_44 kv_X1_103 rfl rfl (Nat.le_of_ble_eq_true rfl) (Nat.le_of_ble_eq_true rfl) (recvW h.1 rfl rfl) (ct_X1_passYear _ h _) hz) (fun s11 => ?_)
  exact v_vret dX1_passYearByDraws_47 rfl rfl
theorem ct_X1_passYearByDraws {SH : SHT} (b : Nat) (h : isMoor SH b) (s0 : St) : CT yX1_passYearByDraws mX1_passYearByDraws 4 SH jV [.ref b] s0 (f_X1_passYearByDraws b s0) := CT.of (by decide +kernel) rfl (fun E => Nat.le_of_ble_eq_true rfl) (w_X1_passYearByDraws b h s0)
set_option maxHeartbeats 4000000 in
set_option maxRecDepth 100000 in
theorem wB_X2_takes_17 {SH : SHT} (b : Nat) (a1 : Int64) (a3 : Int32) (h : isTape SH b) (rec : Int32 → St → Option (Int32 × St)) (hrec : ∀ (c1 : Int32) (s2 : St), VF mX2_takes 0 SH jI 17 [(0, .ref b), (1, .long a1), (3, .int a3), (4, .int c1)] [] s2 (rec c1 s2)) (K : St → Option (Int32 × St)) (hK : ∀ (s3 : St), VF mX2_takes 0 SH jI 57 [] [] s3 (K s3)) (c1 : Int32) (s2 : St) : VF mX2_takes 0 SH jI 17 [(0, .ref b), (1, .long a1), (3, .int a3), (4, .int c1)] [] s2 (B_X2_takes_17 rec b a1 a3 K c1 s2) := by
  unfold B_X2_takes_17
  refine v_iload dX2_takes_17 rfl ?_
  refine v_iload_n dX2_takes_19 rfl rfl ?_
  refine v_icmp_ge (tgt := 57) dX2_takes_20 (by decide) (fun _ => ?_) (fun _ => ?_)
  · skip
    exact v_pick [] rfl (hK _)
  refine v_aload_n dX2_takes_23 rfl rfl ?_
  refine v_getr dX2_takes_24 kf_X2_9 h.1 rfl ?_
  refine v_aload_n dX2_takes_27 rfl rfl ?_
  refine v_geti dX2_takes_28 kf_X2_15 h.1 rfl ?_
  refine v_lload_n dX2_takes_31 rfl rfl ?_
  refine v_bipush (v := 8) dX2_takes_32 (by decide +kernel) ?_
  refine v_iload dX2_takes_34 rfl ?_
  refine v_imul dX2_takes_36 ?_
  refine v_lushr dX2_takes_37 ?_
  refine v_l2i dX2_takes_38 ?_
  refine v_i2b dX2_takes_39 ?_
  refine v_gd (fun g4 => ?_)
  refine v_bast dX2_takes_40 h.2 g4 rfl (v_st fun s5 => ?_)
  refine v_aload_n dX2_takes_41 rfl rfl ?_
  refine v_dup dX2_takes_42 rfl ?_
  refine v_geti dX2_takes_43 kf_X2_15 h.1 rfl ?_
  refine v_iconst (v := 1) dX2_takes_46 (by decide +kernel) ?_
  refine v_iadd dX2_takes_47 ?_
  refine v_puti dX2_takes_48 kp_X2_15 h.1 rfl rfl rfl (v_st fun s6 => ?_)
  refine v_iinc (v := (c1 + (1 : Int32))) (L' := [(4, .int (c1 + (1 : Int32))), (0, .ref b), (1, .long a1), (3, .int a3)]) dX2_takes_51 rfl rfl (by decide) rfl ?_
  refine v_goto (tgt := 17) dX2_takes_54 (by decide) ?_
  exact v_pick [1, 2, 3, 0] rfl (hrec _ _)
theorem wL_X2_takes_17 {SH : SHT} (b : Nat) (a1 : Int64) (a3 : Int32) (h : isTape SH b) (K : St → Option (Int32 × St)) (hK : ∀ (s3 : St), VF mX2_takes 0 SH jI 57 [] [] s3 (K s3)) : ∀ (n : Nat) (c1 : Int32) (s2 : St), VF mX2_takes 0 SH jI 17 [(0, .ref b), (1, .long a1), (3, .int a3), (4, .int c1)] [] s2 (L_X2_takes_17 b a1 a3 K n c1 s2) := by
  intro n
  induction n with
  | zero => intros; exact v_none
  | succ n ih => intro c1 s2; exact wB_X2_takes_17 b a1 a3 h _ ih K hK c1 s2
set_option maxHeartbeats 4000000 in
set_option maxRecDepth 100000 in
theorem w_X2_takes {SH : SHT} (b : Nat) (a1 : Int64) (a3 : Int32) (h : isTape SH b) (s0 : St) : VF mX2_takes 0 SH jI 0 [(0, .ref b), (1, .long a1), (3, .int a3)] [] s0 (f_X2_takes b a1 a3 s0) := by
  unfold f_X2_takes
  refine v_iload_n dX2_takes_0 rfl rfl ?_
  refine v_sipush (v := 200) dX2_takes_1 (by decide +kernel) ?_
  refine v_aload_n dX2_takes_4 rfl rfl ?_
  refine v_geti dX2_takes_5 kf_X2_15 h.1 rfl ?_
  refine v_isub dX2_takes_8 ?_
  refine v_icmp_le (tgt := 14) dX2_takes_9 (by decide) (fun _ => ?_) (fun _ => ?_)
  · skip
    refine v_iconst (v := 0) dX2_takes_14 (by decide +kernel) ?_
    refine v_istore (L' := [(4, .int (0 : Int32)), (0, .ref b), (1, .long a1), (3, .int a3)]) dX2_takes_15 (by decide) rfl ?_
    refine v_pick [1, 2, 3, 0] rfl (wL_X2_takes_17 b a1 a3 h _ (fun s3 => ?_) FU _ _)
    refine v_iconst (v := 1) dX2_takes_57 (by decide +kernel) ?_
    exact v_ret (ty := .boolean) dX2_takes_58 rfl rfl (by decide +kernel)
  refine v_iconst (v := 0) dX2_takes_12 (by decide +kernel) ?_
  exact v_ret (ty := .boolean) dX2_takes_13 rfl rfl (by decide +kernel)
theorem ct_X2_takes {SH : SHT} (b : Nat) (a1 : Int64) (a3 : Int32) (h : isTape SH b) (s0 : St) : CT yX2_takes mX2_takes 0 SH jI [.ref b, .long a1, .int a3] s0 (f_X2_takes b a1 a3 s0) := CT.of (by decide +kernel) rfl (fun E => Nat.le_of_ble_eq_true rfl) (w_X2_takes b a1 a3 h s0)
set_option maxHeartbeats 4000000 in
set_option maxRecDepth 100000 in
theorem wB_X2_skipBlanks_2 {SH : SHT} (b : Nat) (h : isTape SH b) (rec : Int32 → St → Option St) (hrec : ∀ (c1 : Int32) (s2 : St), VF mX2_skipBlanks 0 SH jV 2 [(0, .ref b), (1, .int c1)] [] s2 (rec c1 s2)) (K : St → Option St) (hK : ∀ (s3 : St), VF mX2_skipBlanks 0 SH jV 50 [] [] s3 (K s3)) (c1 : Int32) (s2 : St) : VF mX2_skipBlanks 0 SH jV 2 [(0, .ref b), (1, .int c1)] [] s2 (B_X2_skipBlanks_2 rec b K c1 s2) := by
  unfold B_X2_skipBlanks_2
  refine v_iload_n dX2_skipBlanks_2 rfl rfl ?_
  refine v_sipush (v := 200) dX2_skipBlanks_3 (by decide +kernel) ?_
  refine v_icmp_ge (tgt := 50) dX2_skipBlanks_6 (by decide) (fun _ => ?_) (fun _ => ?_)
  · skip
    exact v_pick [] rfl (hK _)
  refine v_aload_n dX2_skipBlanks_9 rfl rfl ?_
  refine v_geti dX2_skipBlanks_10 kf_X2_19 h.1 rfl ?_
  refine v_aload_n dX2_skipBlanks_13 rfl rfl ?_
  refine v_geti dX2_skipBlanks_14 kf_X2_15 h.1 rfl ?_
  refine v_icmp_ge (tgt := 50) dX2_skipBlanks_17 (by decide) (fun _ => ?_) (fun _ => ?_)
  · skip
    exact v_pick [] rfl (hK _)
  refine v_aload_n dX2_skipBlanks_20 rfl rfl ?_
  refine v_getr dX2_skipBlanks_21 kf_X2_9 h.1 rfl ?_
  refine v_aload_n dX2_skipBlanks_24 rfl rfl ?_
  refine v_geti dX2_skipBlanks_25 kf_X2_19 h.1 rfl ?_
  refine v_gd (fun g4 => ?_)
  refine v_bald dX2_skipBlanks_28 h.2 g4 rfl ?_
  refine v_bipush (v := 32) dX2_skipBlanks_29 (by decide +kernel) ?_
  refine v_icmp_ne (tgt := 50) dX2_skipBlanks_31 (by decide) (fun _ => ?_) (fun _ => ?_)
  · skip
    exact v_pick [] rfl (hK _)
  refine v_aload_n dX2_skipBlanks_34 rfl rfl ?_
  refine v_dup dX2_skipBlanks_35 rfl ?_
  refine v_geti dX2_skipBlanks_36 kf_X2_19 h.1 rfl ?_
  refine v_iconst (v := 1) dX2_skipBlanks_39 (by decide +kernel) ?_
  refine v_iadd dX2_skipBlanks_40 ?_
  refine v_puti dX2_skipBlanks_41 kp_X2_19 h.1 rfl rfl rfl (v_st fun s5 => ?_)
  refine v_iinc (v := (c1 + (1 : Int32))) (L' := [(1, .int (c1 + (1 : Int32))), (0, .ref b)]) dX2_skipBlanks_44 rfl rfl (by decide) rfl ?_
  refine v_goto (tgt := 2) dX2_skipBlanks_47 (by decide) ?_
  exact v_pick [1, 0] rfl (hrec _ _)
theorem wL_X2_skipBlanks_2 {SH : SHT} (b : Nat) (h : isTape SH b) (K : St → Option St) (hK : ∀ (s3 : St), VF mX2_skipBlanks 0 SH jV 50 [] [] s3 (K s3)) : ∀ (n : Nat) (c1 : Int32) (s2 : St), VF mX2_skipBlanks 0 SH jV 2 [(0, .ref b), (1, .int c1)] [] s2 (L_X2_skipBlanks_2 b K n c1 s2) := by
  intro n
  induction n with
  | zero => intros; exact v_none
  | succ n ih => intro c1 s2; exact wB_X2_skipBlanks_2 b h _ ih K hK c1 s2
set_option maxHeartbeats 4000000 in
set_option maxRecDepth 100000 in
theorem w_X2_skipBlanks {SH : SHT} (b : Nat) (h : isTape SH b) (s0 : St) : VF mX2_skipBlanks 0 SH jV 0 [(0, .ref b)] [] s0 (f_X2_skipBlanks b s0) := by
  unfold f_X2_skipBlanks
  refine v_iconst (v := 0) dX2_skipBlanks_0 (by decide +kernel) ?_
  refine v_istore_n (L' := [(1, .int (0 : Int32)), (0, .ref b)]) dX2_skipBlanks_1 rfl (by decide) rfl ?_
  refine v_pick [1, 0] rfl (wL_X2_skipBlanks_2 b h _ (fun s3 => ?_) FU _ _)
  exact v_vret dX2_skipBlanks_50 rfl rfl
theorem ct_X2_skipBlanks {SH : SHT} (b : Nat) (h : isTape SH b) (s0 : St) : CT yX2_skipBlanks mX2_skipBlanks 0 SH jV [.ref b] s0 (f_X2_skipBlanks b s0) := CT.of (by decide +kernel) rfl (fun E => Nat.le_of_ble_eq_true rfl) (w_X2_skipBlanks b h s0)
set_option maxHeartbeats 4000000 in
set_option maxRecDepth 100000 in
theorem w_X2_kindName {SH : SHT} (a0 : Int32) (s0 : St) : VF mX2_kindName 0 SH (jS s0) 0 [(0, .int a0)] [] s0 (f_X2_kindName a0) := by
  unfold f_X2_kindName
  refine v_iload_n dX2_kindName_0 rfl rfl ?_
  refine v_tsw (cs := [(1, 36), (2, 39), (3, 42), (4, 45), (5, 48)]) (dt := 51) dX2_kindName_1 (by decide +kernel) (by decide) (by decide +kernel) ?_
  refine v_swc (fun _ => ?_) (fun _ => ?_)
  · skip
    refine v_ldcS (i := 0) dX2_kindName_36 rfl (by decide) (by decide +kernel) ?_
    exact v_aret dX2_kindName_38 rfl rfl
  refine v_swc (fun _ => ?_) (fun _ => ?_)
  · skip
    refine v_ldcS (i := 1) dX2_kindName_39 rfl (by decide) (by decide +kernel) ?_
    exact v_aret dX2_kindName_41 rfl rfl
  refine v_swc (fun _ => ?_) (fun _ => ?_)
  · skip
    refine v_ldcS (i := 2) dX2_kindName_42 rfl (by decide) (by decide +kernel) ?_
    exact v_aret dX2_kindName_44 rfl rfl
  refine v_swc (fun _ => ?_) (fun _ => ?_)
  · skip
    refine v_ldcS (i := 3) dX2_kindName_45 rfl (by decide) (by decide +kernel) ?_
    exact v_aret dX2_kindName_47 rfl rfl
  refine v_swc (fun _ => ?_) (fun _ => ?_)
  · skip
    refine v_ldcS (i := 4) dX2_kindName_48 rfl (by decide) (by decide +kernel) ?_
    exact v_aret dX2_kindName_50 rfl rfl
  refine v_swn ?_
  refine v_ldcS (i := 5) dX2_kindName_51 rfl (by decide) (by decide +kernel) ?_
  exact v_aret dX2_kindName_53 rfl rfl
theorem ct_X2_kindName {SH : SHT} (a0 : Int32) (s0 : St) : CT yX2_kindName mX2_kindName 0 SH (jS s0) [.int a0] s0 (f_X2_kindName a0) := CT.of (by decide +kernel) rfl (fun E => Nat.le_of_ble_eq_true rfl) (w_X2_kindName a0  s0)
set_option maxHeartbeats 4000000 in
set_option maxRecDepth 100000 in
theorem w_X2_isLetter {SH : SHT} (b : Nat) (a1 : Int32) (h : isTape SH b) (s0 : St) : VF mX2_isLetter 0 SH (jP s0) 0 [(0, .ref b), (1, .int a1)] [] s0 (f_X2_isLetter b a1 s0) := by
  unfold f_X2_isLetter
  refine v_iload_n dX2_isLetter_0 rfl rfl ?_
  refine v_aload_n dX2_isLetter_1 rfl rfl ?_
  refine v_geti dX2_isLetter_2 kf_X2_15 h.1 rfl ?_
  refine v_icmp_ge (tgt := 34) dX2_isLetter_5 (by decide) (fun _ => ?_) (fun _ => ?_)
  · skip
    refine v_iconst (v := 0) dX2_isLetter_34 (by decide +kernel) ?_
    exact v_ret (ty := .boolean) dX2_isLetter_35 rfl rfl (by decide +kernel)
  refine v_aload_n dX2_isLetter_8 rfl rfl ?_
  refine v_getr dX2_isLetter_9 kf_X2_9 h.1 rfl ?_
  refine v_iload_n dX2_isLetter_12 rfl rfl ?_
  refine v_gd (fun g1 => ?_)
  refine v_bald dX2_isLetter_13 h.2 g1 rfl ?_
  refine v_bipush (v := 97) dX2_isLetter_14 (by decide +kernel) ?_
  refine v_icmp_lt (tgt := 34) dX2_isLetter_16 (by decide) (fun _ => ?_) (fun _ => ?_)
  · skip
    refine v_iconst (v := 0) dX2_isLetter_34 (by decide +kernel) ?_
    exact v_ret (ty := .boolean) dX2_isLetter_35 rfl rfl (by decide +kernel)
  refine v_aload_n dX2_isLetter_19 rfl rfl ?_
  refine v_getr dX2_isLetter_20 kf_X2_9 h.1 rfl ?_
  refine v_iload_n dX2_isLetter_23 rfl rfl ?_
  refine v_gd (fun g2 => ?_)
  refine v_bald dX2_isLetter_24 h.2 g2 rfl ?_
  refine v_bipush (v := 122) dX2_isLetter_25 (by decide +kernel) ?_
  refine v_icmp_gt (tgt := 34) dX2_isLetter_27 (by decide) (fun _ => ?_) (fun _ => ?_)
  · skip
    refine v_iconst (v := 0) dX2_isLetter_34 (by decide +kernel) ?_
    exact v_ret (ty := .boolean) dX2_isLetter_35 rfl rfl (by decide +kernel)
  refine v_iconst (v := 1) dX2_isLetter_30 (by decide +kernel) ?_
  refine v_goto (tgt := 35) dX2_isLetter_31 (by decide) ?_
  exact v_ret (ty := .boolean) dX2_isLetter_35 rfl rfl (by decide +kernel)
theorem ct_X2_isLetter {SH : SHT} (b : Nat) (a1 : Int32) (h : isTape SH b) (s0 : St) : CT yX2_isLetter mX2_isLetter 0 SH (jP s0) [.ref b, .int a1] s0 (f_X2_isLetter b a1 s0) := CT.of (by decide +kernel) rfl (fun E => Nat.le_of_ble_eq_true rfl) (w_X2_isLetter b a1 h s0)
set_option maxHeartbeats 4000000 in
set_option maxRecDepth 100000 in
theorem wB_X2_isHere_34 {SH : SHT} (b : Nat) (a1 : Nat) (s1 : St) (h : isTape SH b) (rec : Int32 → Option (Int32 × St)) (hrec : ∀ (c5 : Int32), VF mX2_isHere 5 SH jI 34 [(0, .ref b), (1, .ref a1), (3, .int c5)] [] s1 (rec c5)) (c5 : Int32) : VF mX2_isHere 5 SH jI 34 [(0, .ref b), (1, .ref a1), (3, .int c5)] [] s1 (B_X2_isHere_34 rec b a1 s1 c5) := by
  unfold B_X2_isHere_34
  refine v_iload_n dX2_isHere_34 rfl rfl ?_
  refine v_aload_n dX2_isHere_35 rfl rfl ?_
  refine v_cpI (fun z hz => runVS (as := []) dX2_isHere_36 kv_X2_118 rfl rfl (Nat.le_of_ble_eq_true rfl) (Nat.le_of_ble_eq_true rfl) rfl (ct_J0_length_8abf5 _  _) (by first | exact str_len | exact str_chr) hz) (fun x6 => ?_)
  refine v_icmp_ge (tgt := 69) dX2_isHere_39 (by decide) (fun _ => ?_) (fun _ => ?_)
  · skip
    refine v_iconst (v := 1) dX2_isHere_69 (by decide +kernel) ?_
    exact v_ret (ty := .boolean) dX2_isHere_70 rfl rfl (by decide +kernel)
  refine v_aload_n dX2_isHere_42 rfl rfl ?_
  refine v_getr dX2_isHere_43 kf_X2_9 h.1 rfl ?_
  refine v_aload_n dX2_isHere_46 rfl rfl ?_
  refine v_geti dX2_isHere_47 kf_X2_19 h.1 rfl ?_
  refine v_iload_n dX2_isHere_50 rfl rfl ?_
  refine v_iadd dX2_isHere_51 ?_
  refine v_gd (fun g7 => ?_)
  refine v_bald dX2_isHere_52 h.2 g7 rfl ?_
  refine v_aload_n dX2_isHere_53 rfl rfl ?_
  refine v_iload_n dX2_isHere_54 rfl rfl ?_
  refine v_cpI (fun z hz => runVS (as := [.int c5]) dX2_isHere_55 kv_X2_125 rfl rfl (Nat.le_of_ble_eq_true rfl) (Nat.le_of_ble_eq_true rfl) rfl (ct_J0_charAt_5068e _ _  _) (by first | exact str_len | exact str_chr) hz) (fun x8 => ?_)
  refine v_icmp_eq (tgt := 63) dX2_isHere_58 (by decide) (fun _ => ?_) (fun _ => ?_)
  · skip
    refine v_iinc (v := (c5 + (1 : Int32))) (L' := [(3, .int (c5 + (1 : Int32))), (0, .ref b), (1, .ref a1)]) dX2_isHere_63 rfl rfl (by decide) rfl ?_
    refine v_goto (tgt := 34) dX2_isHere_66 (by decide) ?_
    exact v_pick [1, 2, 0] rfl (hrec _)
  refine v_iconst (v := 0) dX2_isHere_61 (by decide +kernel) ?_
  exact v_ret (ty := .boolean) dX2_isHere_62 rfl rfl (by decide +kernel)
theorem wL_X2_isHere_34 {SH : SHT} (b : Nat) (a1 : Nat) (s1 : St) (h : isTape SH b) : ∀ (n : Nat) (c5 : Int32), VF mX2_isHere 5 SH jI 34 [(0, .ref b), (1, .ref a1), (3, .int c5)] [] s1 (L_X2_isHere_34 b a1 s1 n c5) := by
  intro n
  induction n with
  | zero => intros; exact v_none
  | succ n ih => intro c5; exact wB_X2_isHere_34 b a1 s1 h _ ih c5
set_option maxHeartbeats 4000000 in
set_option maxRecDepth 100000 in
theorem w_X2_isHere {SH : SHT} (b : Nat) (a1 : Nat) (h : isTape SH b) (s0 : St) : VF mX2_isHere 5 SH jI 0 [(0, .ref b), (1, .ref a1)] [] s0 (f_X2_isHere b a1 s0) := by
  unfold f_X2_isHere
  refine v_aload_n dX2_isHere_0 rfl rfl ?_
  refine v_cw (fun z hz => runV (as := []) dX2_isHere_1 kv_X2_25 rfl rfl (Nat.le_of_ble_eq_true rfl) (Nat.le_of_ble_eq_true rfl) (recvW h.1 rfl rfl) (ct_X2_skipBlanks _ h _) hz) (fun s1 => ?_)
  refine v_aload_n dX2_isHere_4 rfl rfl ?_
  refine v_geti dX2_isHere_5 kf_X2_19 h.1 rfl ?_
  refine v_aload_n dX2_isHere_8 rfl rfl ?_
  refine v_cpI (fun z hz => runVS (as := []) dX2_isHere_9 kv_X2_118 rfl rfl (Nat.le_of_ble_eq_true rfl) (Nat.le_of_ble_eq_true rfl) rfl (ct_J0_length_8abf5 _  _) (by first | exact str_len | exact str_chr) hz) (fun x2 => ?_)
  refine v_iadd dX2_isHere_12 ?_
  refine v_topi (fun x3 => ?_)
  refine v_istore_n (L' := [(2, .int x3), (0, .ref b), (1, .ref a1)]) dX2_isHere_13 rfl (by decide) rfl ?_
  refine v_iload_n dX2_isHere_14 rfl rfl ?_
  refine v_aload_n dX2_isHere_15 rfl rfl ?_
  refine v_geti dX2_isHere_16 kf_X2_15 h.1 rfl ?_
  refine v_icmp_gt (tgt := 30) dX2_isHere_19 (by decide) (fun _ => ?_) (fun _ => ?_)
  · skip
    refine v_iconst (v := 0) dX2_isHere_30 (by decide +kernel) ?_
    exact v_ret (ty := .boolean) dX2_isHere_31 rfl rfl (by decide +kernel)
  refine v_aload_n dX2_isHere_22 rfl rfl ?_
  refine v_iload_n dX2_isHere_23 rfl rfl ?_
  refine v_cpI (fun z hz => runV (as := [.int x3]) dX2_isHere_24 kv_X2_122 rfl rfl (Nat.le_of_ble_eq_true rfl) (Nat.le_of_ble_eq_true rfl) (recvW h.1 rfl rfl) (ct_X2_isLetter _ _ h _) hz) (fun x4 => ?_)
  refine v_if_eq (tgt := 32) dX2_isHere_27 (by decide) (fun _ => ?_) (fun _ => ?_)
  · skip
    refine v_iconst (v := 0) dX2_isHere_32 (by decide +kernel) ?_
    refine v_istore_n (L' := [(3, .int (0 : Int32)), (2, .int x3), (0, .ref b), (1, .ref a1)]) dX2_isHere_33 rfl (by decide) rfl ?_
    exact v_pick [2, 3, 0] rfl (wL_X2_isHere_34 b a1 s1 h FU _)
  refine v_iconst (v := 0) dX2_isHere_30 (by decide +kernel) ?_
  exact v_ret (ty := .boolean) dX2_isHere_31 rfl rfl (by decide +kernel)
theorem ct_X2_isHere {SH : SHT} (b : Nat) (a1 : Nat) (h : isTape SH b) (s0 : St) : CT yX2_isHere mX2_isHere 5 SH jI [.ref b, .ref a1] s0 (f_X2_isHere b a1 s0) := CT.of (by decide +kernel) rfl (fun E => Nat.le_of_ble_eq_true rfl) (w_X2_isHere b a1 h s0)
set_option maxHeartbeats 4000000 in
set_option maxRecDepth 100000 in
theorem wB_X2_kindHere_2 {SH : SHT} (b : Nat) (h : isTape SH b) (rec : Int32 → St → Option (Int32 × St)) (hrec : ∀ (c1 : Int32) (s2 : St), VF mX2_kindHere 6 SH jI 2 [(0, .ref b), (1, .int c1)] [] s2 (rec c1 s2)) (c1 : Int32) (s2 : St) : VF mX2_kindHere 6 SH jI 2 [(0, .ref b), (1, .int c1)] [] s2 (B_X2_kindHere_2 rec b c1 s2) := by
  unfold B_X2_kindHere_2
  refine v_iload_n dX2_kindHere_2 rfl rfl ?_
  refine v_bipush (v := 6) dX2_kindHere_3 (by decide +kernel) ?_
  refine v_icmp_ge (tgt := 27) dX2_kindHere_5 (by decide) (fun _ => ?_) (fun _ => ?_)
  · skip
    refine v_iconst (v := -1) dX2_kindHere_27 (by decide +kernel) ?_
    exact v_ret (ty := .int) dX2_kindHere_28 rfl rfl rfl
  refine v_aload_n dX2_kindHere_8 rfl rfl ?_
  refine v_iload_n dX2_kindHere_9 rfl rfl ?_
  refine v_cpR (fun z hz => runT (as := [.int c1]) dX2_kindHere_10 kt_X2_93 rfl rfl (Nat.le_of_ble_eq_true rfl) (Nat.le_of_ble_eq_true rfl) (ct_X2_kindName _  _) hz) (fun x3 => ?_)
  refine v_cbI (fun z hz => runV (as := [.ref x3]) dX2_kindHere_13 kv_X2_49 rfl rfl (Nat.le_of_ble_eq_true rfl) (Nat.le_of_ble_eq_true rfl) (recvW h.1 rfl rfl) (ct_X2_isHere _ _ h _) hz) (fun x5 s4 => ?_)
  refine v_if_eq (tgt := 21) dX2_kindHere_16 (by decide) (fun _ => ?_) (fun _ => ?_)
  · skip
    refine v_iinc (v := (c1 + (1 : Int32))) (L' := [(1, .int (c1 + (1 : Int32))), (0, .ref b)]) dX2_kindHere_21 rfl rfl (by decide) rfl ?_
    refine v_goto (tgt := 2) dX2_kindHere_24 (by decide) ?_
    exact v_pick [1, 0] rfl (hrec _ _)
  refine v_iload_n dX2_kindHere_19 rfl rfl ?_
  exact v_ret (ty := .int) dX2_kindHere_20 rfl rfl rfl
theorem wL_X2_kindHere_2 {SH : SHT} (b : Nat) (h : isTape SH b) : ∀ (n : Nat) (c1 : Int32) (s2 : St), VF mX2_kindHere 6 SH jI 2 [(0, .ref b), (1, .int c1)] [] s2 (L_X2_kindHere_2 b n c1 s2) := by
  intro n
  induction n with
  | zero => intros; exact v_none
  | succ n ih => intro c1 s2; exact wB_X2_kindHere_2 b h _ ih c1 s2
set_option maxHeartbeats 4000000 in
set_option maxRecDepth 100000 in
theorem w_X2_kindHere {SH : SHT} (b : Nat) (h : isTape SH b) (s0 : St) : VF mX2_kindHere 6 SH jI 0 [(0, .ref b)] [] s0 (f_X2_kindHere b s0) := by
  unfold f_X2_kindHere
  refine v_iconst (v := 0) dX2_kindHere_0 (by decide +kernel) ?_
  refine v_istore_n (L' := [(1, .int (0 : Int32)), (0, .ref b)]) dX2_kindHere_1 rfl (by decide) rfl ?_
  exact v_pick [1, 0] rfl (wL_X2_kindHere_2 b h FU _ _)
theorem ct_X2_kindHere {SH : SHT} (b : Nat) (h : isTape SH b) (s0 : St) : CT yX2_kindHere mX2_kindHere 6 SH jI [.ref b] s0 (f_X2_kindHere b s0) := CT.of (by decide +kernel) rfl (fun E => Nat.le_of_ble_eq_true rfl) (w_X2_kindHere b h s0)
set_option maxHeartbeats 4000000 in
set_option maxRecDepth 100000 in
theorem w_X2_lawName {SH : SHT} (a0 : Int32) (s0 : St) : VF mX2_lawName 0 SH (jS s0) 0 [(0, .int a0)] [] s0 (f_X2_lawName a0) := by
  unfold f_X2_lawName
  refine v_iload_n dX2_lawName_0 rfl rfl ?_
  refine v_tsw (cs := [(1, 28), (2, 31), (3, 34)]) (dt := 37) dX2_lawName_1 (by decide +kernel) (by decide) (by decide +kernel) ?_
  refine v_swc (fun _ => ?_) (fun _ => ?_)
  · skip
    refine v_ldcS (i := 6) dX2_lawName_28 rfl (by decide) (by decide +kernel) ?_
    exact v_aret dX2_lawName_30 rfl rfl
  refine v_swc (fun _ => ?_) (fun _ => ?_)
  · skip
    refine v_ldcS (i := 7) dX2_lawName_31 rfl (by decide) (by decide +kernel) ?_
    exact v_aret dX2_lawName_33 rfl rfl
  refine v_swc (fun _ => ?_) (fun _ => ?_)
  · skip
    refine v_ldcS (i := 8) dX2_lawName_34 rfl (by decide) (by decide +kernel) ?_
    exact v_aret dX2_lawName_36 rfl rfl
  refine v_swn ?_
  refine v_ldcS (i := 9) dX2_lawName_37 rfl (by decide) (by decide +kernel) ?_
  exact v_aret dX2_lawName_39 rfl rfl
theorem ct_X2_lawName {SH : SHT} (a0 : Int32) (s0 : St) : CT yX2_lawName mX2_lawName 0 SH (jS s0) [.int a0] s0 (f_X2_lawName a0) := CT.of (by decide +kernel) rfl (fun E => Nat.le_of_ble_eq_true rfl) (w_X2_lawName a0  s0)
set_option maxHeartbeats 4000000 in
set_option maxRecDepth 100000 in
theorem wB_X2_lawHere_2 {SH : SHT} (b : Nat) (h : isTape SH b) (rec : Int32 → St → Option (Int32 × St)) (hrec : ∀ (c1 : Int32) (s2 : St), VF mX2_lawHere 6 SH jI 2 [(0, .ref b), (1, .int c1)] [] s2 (rec c1 s2)) (c1 : Int32) (s2 : St) : VF mX2_lawHere 6 SH jI 2 [(0, .ref b), (1, .int c1)] [] s2 (B_X2_lawHere_2 rec b c1 s2) := by
  unfold B_X2_lawHere_2
  refine v_iload_n dX2_lawHere_2 rfl rfl ?_
  refine v_iconst (v := 4) dX2_lawHere_3 (by decide +kernel) ?_
  refine v_icmp_ge (tgt := 26) dX2_lawHere_4 (by decide) (fun _ => ?_) (fun _ => ?_)
  · skip
    refine v_iconst (v := -1) dX2_lawHere_26 (by decide +kernel) ?_
    exact v_ret (ty := .int) dX2_lawHere_27 rfl rfl rfl
  refine v_aload_n dX2_lawHere_7 rfl rfl ?_
  refine v_iload_n dX2_lawHere_8 rfl rfl ?_
  refine v_cpR (fun z hz => runT (as := [.int c1]) dX2_lawHere_9 kt_X2_76 rfl rfl (Nat.le_of_ble_eq_true rfl) (Nat.le_of_ble_eq_true rfl) (ct_X2_lawName _  _) hz) (fun x3 => ?_)
  refine v_cbI (fun z hz => runV (as := [.ref x3]) dX2_lawHere_12 kv_X2_49 rfl rfl (Nat.le_of_ble_eq_true rfl) (Nat.le_of_ble_eq_true rfl) (recvW h.1 rfl rfl) (ct_X2_isHere _ _ h _) hz) (fun x5 s4 => ?_)
  refine v_if_eq (tgt := 20) dX2_lawHere_15 (by decide) (fun _ => ?_) (fun _ => ?_)
  · skip
    refine v_iinc (v := (c1 + (1 : Int32))) (L' := [(1, .int (c1 + (1 : Int32))), (0, .ref b)]) dX2_lawHere_20 rfl rfl (by decide) rfl ?_
    refine v_goto (tgt := 2) dX2_lawHere_23 (by decide) ?_
    exact v_pick [1, 0] rfl (hrec _ _)
  refine v_iload_n dX2_lawHere_18 rfl rfl ?_
  exact v_ret (ty := .int) dX2_lawHere_19 rfl rfl rfl
theorem wL_X2_lawHere_2 {SH : SHT} (b : Nat) (h : isTape SH b) : ∀ (n : Nat) (c1 : Int32) (s2 : St), VF mX2_lawHere 6 SH jI 2 [(0, .ref b), (1, .int c1)] [] s2 (L_X2_lawHere_2 b n c1 s2) := by
  intro n
  induction n with
  | zero => intros; exact v_none
  | succ n ih => intro c1 s2; exact wB_X2_lawHere_2 b h _ ih c1 s2
set_option maxHeartbeats 4000000 in
set_option maxRecDepth 100000 in
theorem w_X2_lawHere {SH : SHT} (b : Nat) (h : isTape SH b) (s0 : St) : VF mX2_lawHere 6 SH jI 0 [(0, .ref b)] [] s0 (f_X2_lawHere b s0) := by
  unfold f_X2_lawHere
  refine v_iconst (v := 0) dX2_lawHere_0 (by decide +kernel) ?_
  refine v_istore_n (L' := [(1, .int (0 : Int32)), (0, .ref b)]) dX2_lawHere_1 rfl (by decide) rfl ?_
  exact v_pick [1, 0] rfl (wL_X2_lawHere_2 b h FU _ _)
theorem ct_X2_lawHere {SH : SHT} (b : Nat) (h : isTape SH b) (s0 : St) : CT yX2_lawHere mX2_lawHere 6 SH jI [.ref b] s0 (f_X2_lawHere b s0) := CT.of (by decide +kernel) rfl (fun E => Nat.le_of_ble_eq_true rfl) (w_X2_lawHere b h s0)
set_option maxHeartbeats 4000000 in
set_option maxRecDepth 100000 in
theorem w_X2_refuse {SH : SHT} (b : Nat) (a1 : Int32) (h : isTape SH b) (s0 : St) : VF mX2_refuse 0 SH jV 0 [(0, .ref b), (1, .int a1)] [] s0 (f_X2_refuse b a1 s0) := by
  unfold f_X2_refuse
  refine v_aload_n dX2_refuse_0 rfl rfl ?_
  refine v_geti dX2_refuse_1 kf_X2_22 h.1 rfl ?_
  refine v_if_ge (tgt := 12) dX2_refuse_4 (by decide) (fun _ => ?_) (fun _ => ?_)
  · skip
    exact v_vret dX2_refuse_12 rfl rfl
  refine v_aload_n dX2_refuse_7 rfl rfl ?_
  refine v_iload_n dX2_refuse_8 rfl rfl ?_
  refine v_puti dX2_refuse_9 kp_X2_22 h.1 rfl rfl rfl (v_st fun s1 => ?_)
  exact v_vret dX2_refuse_12 rfl rfl
theorem ct_X2_refuse {SH : SHT} (b : Nat) (a1 : Int32) (h : isTape SH b) (s0 : St) : CT yX2_refuse mX2_refuse 0 SH jV [.ref b, .int a1] s0 (f_X2_refuse b a1 s0) := CT.of (by decide +kernel) rfl (fun E => Nat.le_of_ble_eq_true rfl) (w_X2_refuse b a1 h s0)
