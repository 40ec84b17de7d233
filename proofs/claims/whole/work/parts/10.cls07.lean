set_option maxHeartbeats 4000000 in
set_option maxRecDepth 100000 in
theorem w_X3_isSort {SH : SHT} (a0 : Int32) (s0 : St) : VF mX3_isSort 0 SH (jP s0) 0 [(0, .int a0)] [] s0 (f_X3_isSort a0) := by
  unfold f_X3_isSort
  refine v_iload_n dX3_isSort_0 rfl rfl ?_
  refine v_if_lt (tgt := 13) dX3_isSort_1 (by decide) (fun _ => ?_) (fun _ => ?_)
  · skip
    refine v_iconst (v := 0) dX3_isSort_13 (by decide +kernel) ?_
    exact v_ret (ty := .boolean) dX3_isSort_14 rfl rfl (by decide +kernel)
  refine v_iload_n dX3_isSort_4 rfl rfl ?_
  refine v_iconst (v := 4) dX3_isSort_5 (by decide +kernel) ?_
  refine v_icmp_ge (tgt := 13) dX3_isSort_6 (by decide) (fun _ => ?_) (fun _ => ?_)
  · skip
    refine v_iconst (v := 0) dX3_isSort_13 (by decide +kernel) ?_
    exact v_ret (ty := .boolean) dX3_isSort_14 rfl rfl (by decide +kernel)
  refine v_iconst (v := 1) dX3_isSort_9 (by decide +kernel) ?_
  refine v_goto (tgt := 14) dX3_isSort_10 (by decide) ?_
  exact v_ret (ty := .boolean) dX3_isSort_14 rfl rfl (by decide +kernel)
theorem ct_X3_isSort {SH : SHT} (a0 : Int32) (s0 : St) : CT yX3_isSort mX3_isSort 0 SH (jP s0) [.int a0] s0 (f_X3_isSort a0) := CT.of (by decide +kernel) rfl (fun E => Nat.le_of_ble_eq_true rfl) (w_X3_isSort a0  s0)
set_option maxHeartbeats 4000000 in
set_option maxRecDepth 100000 in
theorem w_X3_item {SH : SHT} (b : Nat) (a1 : Int32) (a2 : Int32) (a3 : Int32) (h : isOaths SH b) (s0 : St) : VF mX3_item 1 SH (jP s0) 0 [(0, .ref b), (1, .int a1), (2, .int a2), (3, .int a3)] [] s0 (f_X3_item b a1 a2 a3 s0) := by
  unfold f_X3_item
  refine v_iload_n dX3_item_0 rfl rfl ?_
  refine v_cpI (fun z hz => runT (as := [.int a1]) dX3_item_1 kt_X3_225 rfl rfl (Nat.le_of_ble_eq_true rfl) (Nat.le_of_ble_eq_true rfl) (ct_X3_isSheet _  _) hz) (fun x1 => ?_)
  refine v_if_eq (tgt := 14) dX3_item_4 (by decide) (fun _ => ?_) (fun _ => ?_)
  · skip
    refine v_iconst (v := -1) dX3_item_14 (by decide +kernel) ?_
    exact v_ret (ty := .int) dX3_item_15 rfl rfl rfl
  refine v_iload_n dX3_item_7 rfl rfl ?_
  refine v_cpI (fun z hz => runT (as := [.int a2]) dX3_item_8 kt_X3_252 rfl rfl (Nat.le_of_ble_eq_true rfl) (Nat.le_of_ble_eq_true rfl) (ct_X3_isSort _  _) hz) (fun x2 => ?_)
  refine v_if_ne (tgt := 16) dX3_item_11 (by decide) (fun _ => ?_) (fun _ => ?_)
  · skip
    refine v_aload_n dX3_item_16 rfl rfl ?_
    refine v_getr dX3_item_17 kf_X3_34 h.1 rfl ?_
    refine v_iload_n dX3_item_20 rfl rfl ?_
    refine v_gd (fun g3 => ?_)
    refine v_iald dX3_item_21 h.2.2.2.2.2.2.2.1 g3 rfl ?_
    refine v_iconst (v := -1) dX3_item_22 (by decide +kernel) ?_
    refine v_icmp_ne (tgt := 29) dX3_item_23 (by decide) (fun _ => ?_) (fun _ => ?_)
    · skip
      refine v_aload_n dX3_item_29 rfl rfl ?_
      refine v_getr dX3_item_30 kf_X3_34 h.1 rfl ?_
      refine v_iload_n dX3_item_33 rfl rfl ?_
      refine v_gd (fun g4 => ?_)
      refine v_iald dX3_item_34 h.2.2.2.2.2.2.2.1 g4 rfl ?_
      refine v_iload_n dX3_item_35 rfl rfl ?_
      refine v_icmp_eq (tgt := 42) dX3_item_36 (by decide) (fun _ => ?_) (fun _ => ?_)
      · skip
        refine v_iload_n dX3_item_42 rfl rfl ?_
        refine v_if_lt (tgt := 56) dX3_item_43 (by decide) (fun _ => ?_) (fun _ => ?_)
        · skip
          refine v_bipush (v := -12) dX3_item_56 (by decide +kernel) ?_
          exact v_ret (ty := .int) dX3_item_58 rfl rfl rfl
        refine v_iload_n dX3_item_46 rfl rfl ?_
        refine v_aload_n dX3_item_47 rfl rfl ?_
        refine v_getr dX3_item_48 kf_X3_38 h.1 rfl ?_
        refine v_iload_n dX3_item_51 rfl rfl ?_
        refine v_gd (fun g5 => ?_)
        refine v_iald dX3_item_52 h.2.2.2.2.2.2.2.2.1 g5 rfl ?_
        refine v_icmp_lt (tgt := 59) dX3_item_53 (by decide) (fun _ => ?_) (fun _ => ?_)
        · skip
          refine v_aload_n dX3_item_59 rfl rfl ?_
          refine v_getr dX3_item_60 kf_X3_43 h.1 rfl ?_
          refine v_iload_n dX3_item_63 rfl rfl ?_
          refine v_gd (fun g6 => ?_)
          refine v_aald dX3_item_64 (Or.inr rfl) h.2.2.2.2.2.2.2.2.2.1 g6 (rng_get (ib_lt g6)) ?_
          refine v_iload_n dX3_item_65 rfl rfl ?_
          refine v_gd (fun g7 => ?_)
          refine v_lald dX3_item_66 (h.2.2.2.2.2.2.2.2.2.2.1 _ (ib_lt g6)) g7 rfl ?_
          refine v_l2i dX3_item_67 ?_
          exact v_ret (ty := .int) dX3_item_68 rfl rfl rfl
        refine v_bipush (v := -12) dX3_item_56 (by decide +kernel) ?_
        exact v_ret (ty := .int) dX3_item_58 rfl rfl rfl
      refine v_bipush (v := -13) dX3_item_39 (by decide +kernel) ?_
      exact v_ret (ty := .int) dX3_item_41 rfl rfl rfl
    refine v_bipush (v := -11) dX3_item_26 (by decide +kernel) ?_
    exact v_ret (ty := .int) dX3_item_28 rfl rfl rfl
  refine v_iconst (v := -1) dX3_item_14 (by decide +kernel) ?_
  exact v_ret (ty := .int) dX3_item_15 rfl rfl rfl
theorem ct_X3_item {SH : SHT} (b : Nat) (a1 : Int32) (a2 : Int32) (a3 : Int32) (h : isOaths SH b) (s0 : St) : CT yX3_item mX3_item 1 SH (jP s0) [.ref b, .int a1, .int a2, .int a3] s0 (f_X3_item b a1 a2 a3 s0) := CT.of (by decide +kernel) rfl (fun E => Nat.le_of_ble_eq_true rfl) (w_X3_item b a1 a2 a3 h s0)
set_option maxHeartbeats 4000000 in
set_option maxRecDepth 100000 in
theorem w_X3_isShelf {SH : SHT} (a0 : Int32) (s0 : St) : VF mX3_isShelf 0 SH (jP s0) 0 [(0, .int a0)] [] s0 (f_X3_isShelf a0) := by
  unfold f_X3_isShelf
  refine v_iload_n dX3_isShelf_0 rfl rfl ?_
  refine v_if_lt (tgt := 13) dX3_isShelf_1 (by decide) (fun _ => ?_) (fun _ => ?_)
  · skip
    refine v_iconst (v := 0) dX3_isShelf_13 (by decide +kernel) ?_
    exact v_ret (ty := .boolean) dX3_isShelf_14 rfl rfl (by decide +kernel)
  refine v_iload_n dX3_isShelf_4 rfl rfl ?_
  refine v_iconst (v := 4) dX3_isShelf_5 (by decide +kernel) ?_
  refine v_icmp_ge (tgt := 13) dX3_isShelf_6 (by decide) (fun _ => ?_) (fun _ => ?_)
  · skip
    refine v_iconst (v := 0) dX3_isShelf_13 (by decide +kernel) ?_
    exact v_ret (ty := .boolean) dX3_isShelf_14 rfl rfl (by decide +kernel)
  refine v_iconst (v := 1) dX3_isShelf_9 (by decide +kernel) ?_
  refine v_goto (tgt := 14) dX3_isShelf_10 (by decide) ?_
  exact v_ret (ty := .boolean) dX3_isShelf_14 rfl rfl (by decide +kernel)
theorem ct_X3_isShelf {SH : SHT} (a0 : Int32) (s0 : St) : CT yX3_isShelf mX3_isShelf 0 SH (jP s0) [.int a0] s0 (f_X3_isShelf a0) := CT.of (by decide +kernel) rfl (fun E => Nat.le_of_ble_eq_true rfl) (w_X3_isShelf a0  s0)
set_option maxHeartbeats 4000000 in
set_option maxRecDepth 100000 in
theorem w_X3_shelve {SH : SHT} (b : Nat) (a1 : Int32) (a2 : Int32) (a3 : Int32) (a4 : Int32) (h : isOaths SH b) (s0 : St) : VF mX3_shelve 0 SH jI 0 [(0, .ref b), (1, .int a1), (2, .int a2), (3, .int a3), (4, .int a4)] [] s0 (f_X3_shelve b a1 a2 a3 a4 s0) := by
  unfold f_X3_shelve
  refine v_aload_n dX3_shelve_0 rfl rfl ?_
  refine v_getr dX3_shelve_1 kf_X3_46 h.1 rfl ?_
  refine v_iload_n dX3_shelve_4 rfl rfl ?_
  refine v_iload_n dX3_shelve_5 rfl rfl ?_
  refine v_gd (fun g1 => ?_)
  refine v_iast dX3_shelve_6 h.2.2.2.2.2.2.2.2.2.2.2.1 g1 rfl (v_st fun s2 => ?_)
  refine v_aload_n dX3_shelve_7 rfl rfl ?_
  refine v_getr dX3_shelve_8 kf_X3_49 h.1 rfl ?_
  refine v_iload_n dX3_shelve_11 rfl rfl ?_
  refine v_iload_n dX3_shelve_12 rfl rfl ?_
  refine v_gd (fun g3 => ?_)
  refine v_iast dX3_shelve_13 h.2.2.2.2.2.2.2.2.2.2.2.2.1 g3 rfl (v_st fun s4 => ?_)
  refine v_aload_n dX3_shelve_14 rfl rfl ?_
  refine v_getr dX3_shelve_15 kf_X3_52 h.1 rfl ?_
  refine v_iload_n dX3_shelve_18 rfl rfl ?_
  refine v_iload dX3_shelve_19 rfl ?_
  refine v_gd (fun g5 => ?_)
  refine v_iast dX3_shelve_21 h.2.2.2.2.2.2.2.2.2.2.2.2.2.1 g5 rfl (v_st fun s6 => ?_)
  refine v_iconst (v := 1) dX3_shelve_22 (by decide +kernel) ?_
  exact v_ret (ty := .int) dX3_shelve_23 rfl rfl rfl
theorem ct_X3_shelve {SH : SHT} (b : Nat) (a1 : Int32) (a2 : Int32) (a3 : Int32) (a4 : Int32) (h : isOaths SH b) (s0 : St) : CT yX3_shelve mX3_shelve 0 SH jI [.ref b, .int a1, .int a2, .int a3, .int a4] s0 (f_X3_shelve b a1 a2 a3 a4 s0) := CT.of (by decide +kernel) rfl (fun E => Nat.le_of_ble_eq_true rfl) (w_X3_shelve b a1 a2 a3 a4 h s0)
set_option maxHeartbeats 4000000 in
set_option maxRecDepth 100000 in
theorem w_X3_shelf {SH : SHT} (b : Nat) (a1 : Int32) (a2 : Int32) (a3 : Int32) (h : isOaths SH b) (s0 : St) : VF mX3_shelf 1 SH jI 0 [(0, .ref b), (1, .int a1), (2, .int a2), (3, .int a3)] [] s0 (f_X3_shelf b a1 a2 a3 s0) := by
  unfold f_X3_shelf
  refine v_iload_n dX3_shelf_0 rfl rfl ?_
  refine v_cpI (fun z hz => runT (as := [.int a1]) dX3_shelf_1 kt_X3_255 rfl rfl (Nat.le_of_ble_eq_true rfl) (Nat.le_of_ble_eq_true rfl) (ct_X3_isShelf _  _) hz) (fun x1 => ?_)
  refine v_if_ne (tgt := 9) dX3_shelf_4 (by decide) (fun _ => ?_) (fun _ => ?_)
  · skip
    refine v_iload_n dX3_shelf_9 rfl rfl ?_
    refine v_tsw (cs := [(0, 36), (1, 57), (2, 99)]) (dt := 108) dX3_shelf_10 (by decide +kernel) (by decide) (by decide +kernel) ?_
    refine v_swc (fun _ => ?_) (fun _ => ?_)
    · skip
      refine v_aload_n dX3_shelf_36 rfl rfl ?_
      refine v_iload_n dX3_shelf_37 rfl rfl ?_
      refine v_cpI (fun z hz => runV (as := [.int a3]) dX3_shelf_38 kv_X3_114 rfl rfl (Nat.le_of_ble_eq_true rfl) (Nat.le_of_ble_eq_true rfl) (recvW h.1 rfl rfl) (ct_X3_isPerson _ _ h _) hz) (fun x2 => ?_)
      refine v_if_eq (tgt := 55) dX3_shelf_41 (by decide) (fun _ => ?_) (fun _ => ?_)
      · skip
        refine v_iconst (v := -1) dX3_shelf_55 (by decide +kernel) ?_
        exact v_ret (ty := .int) dX3_shelf_56 rfl rfl rfl
      refine v_aload_n dX3_shelf_44 rfl rfl ?_
      refine v_iload_n dX3_shelf_45 rfl rfl ?_
      refine v_iconst (v := 0) dX3_shelf_46 (by decide +kernel) ?_
      refine v_iload_n dX3_shelf_47 rfl rfl ?_
      refine v_iconst (v := -1) dX3_shelf_48 (by decide +kernel) ?_
      refine v_cbI (fun z hz => runV (as := [.int a1, .int (0 : Int32), .int a3, .int (-1 : Int32)]) dX3_shelf_49 kv_X3_258 rfl rfl (Nat.le_of_ble_eq_true rfl) (Nat.le_of_ble_eq_true rfl) (recvW h.1 rfl rfl) (ct_X3_shelve _ _ _ _ _ h _) hz) (fun x4 s3 => ?_)
      refine v_goto (tgt := 56) dX3_shelf_52 (by decide) ?_
      exact v_ret (ty := .int) dX3_shelf_56 rfl rfl rfl
    refine v_swc (fun _ => ?_) (fun _ => ?_)
    · skip
      refine v_iload_n dX3_shelf_57 rfl rfl ?_
      refine v_cpI (fun z hz => runT (as := [.int a3]) dX3_shelf_58 kt_X3_225 rfl rfl (Nat.le_of_ble_eq_true rfl) (Nat.le_of_ble_eq_true rfl) (ct_X3_isSheet _  _) hz) (fun x5 => ?_)
      refine v_if_ne (tgt := 66) dX3_shelf_61 (by decide) (fun _ => ?_) (fun _ => ?_)
      · skip
        refine v_aload_n dX3_shelf_66 rfl rfl ?_
        refine v_iload_n dX3_shelf_67 rfl rfl ?_
        refine v_aload_n dX3_shelf_68 rfl rfl ?_
        refine v_getr dX3_shelf_69 kf_X3_34 h.1 rfl ?_
        refine v_iload_n dX3_shelf_72 rfl rfl ?_
        refine v_gd (fun g6 => ?_)
        refine v_iald dX3_shelf_73 h.2.2.2.2.2.2.2.1 g6 rfl ?_
        refine v_iconst (v := -1) dX3_shelf_74 (by decide +kernel) ?_
        refine v_bnK (fun K8 => ∀ (t7 : Int32), VF mX3_shelf 1 SH jI 83 [(0, .ref b), (3, .int a3)] [.int t7, .int a1, .ref b] s0 (K8 t7)) (fun K8 hK8 => ?_) (fun t7 => ?_)
        · skip
          refine v_icmp_ne (tgt := 82) dX3_shelf_75 (by decide) (fun _ => ?_) (fun _ => ?_)
          · skip
            refine v_iconst (v := 1) dX3_shelf_82 (by decide +kernel) ?_
            exact v_pick [0, 3] rfl (hK8 _)
          refine v_iconst (v := 2) dX3_shelf_78 (by decide +kernel) ?_
          refine v_goto (tgt := 83) dX3_shelf_79 (by decide) ?_
          exact v_pick [0, 3] rfl (hK8 _)
        refine v_aload_n dX3_shelf_83 rfl rfl ?_
        refine v_getr dX3_shelf_84 kf_X3_38 h.1 rfl ?_
        refine v_iload_n dX3_shelf_87 rfl rfl ?_
        refine v_gd (fun g9 => ?_)
        refine v_iald dX3_shelf_88 h.2.2.2.2.2.2.2.2.1 g9 rfl ?_
        refine v_aload_n dX3_shelf_89 rfl rfl ?_
        refine v_getr dX3_shelf_90 kf_X3_34 h.1 rfl ?_
        refine v_iload_n dX3_shelf_93 rfl rfl ?_
        refine v_gd (fun g10 => ?_)
        refine v_iald dX3_shelf_94 h.2.2.2.2.2.2.2.1 g10 rfl ?_
        refine v_cbI (fun z hz => runV (as := [.int a1, .int t7, .int (gA s0 (b + 42) (ix a3)), .int (gA s0 (b + 41) (ix a3))]) dX3_shelf_95 kv_X3_258 rfl rfl (Nat.le_of_ble_eq_true rfl) (Nat.le_of_ble_eq_true rfl) (recvW h.1 rfl rfl) (ct_X3_shelve _ _ _ _ _ h _) hz) (fun x12 s11 => ?_)
        exact v_ret (ty := .int) dX3_shelf_98 rfl rfl rfl
      refine v_iconst (v := -1) dX3_shelf_64 (by decide +kernel) ?_
      exact v_ret (ty := .int) dX3_shelf_65 rfl rfl rfl
    refine v_swc (fun _ => ?_) (fun _ => ?_)
    · skip
      refine v_aload_n dX3_shelf_99 rfl rfl ?_
      refine v_iload_n dX3_shelf_100 rfl rfl ?_
      refine v_iconst (v := 2) dX3_shelf_101 (by decide +kernel) ?_
      refine v_iconst (v := 0) dX3_shelf_102 (by decide +kernel) ?_
      refine v_iconst (v := -1) dX3_shelf_103 (by decide +kernel) ?_
      refine v_cbI (fun z hz => runV (as := [.int a1, .int (2 : Int32), .int (0 : Int32), .int (-1 : Int32)]) dX3_shelf_104 kv_X3_258 rfl rfl (Nat.le_of_ble_eq_true rfl) (Nat.le_of_ble_eq_true rfl) (recvW h.1 rfl rfl) (ct_X3_shelve _ _ _ _ _ h _) hz) (fun x14 s13 => ?_)
      exact v_ret (ty := .int) dX3_shelf_107 rfl rfl rfl
    refine v_swn ?_
    refine v_iconst (v := -1) dX3_shelf_108 (by decide +kernel) ?_
    exact v_ret (ty := .int) dX3_shelf_109 rfl rfl rfl
  refine v_iconst (v := -1) dX3_shelf_7 (by decide +kernel) ?_
  exact v_ret (ty := .int) dX3_shelf_8 rfl rfl rfl
theorem ct_X3_shelf {SH : SHT} (b : Nat) (a1 : Int32) (a2 : Int32) (a3 : Int32) (h : isOaths SH b) (s0 : St) : CT yX3_shelf mX3_shelf 1 SH jI [.ref b, .int a1, .int a2, .int a3] s0 (f_X3_shelf b a1 a2 a3 s0) := CT.of (by decide +kernel) rfl (fun E => Nat.le_of_ble_eq_true rfl) (w_X3_shelf b a1 a2 a3 h s0)
set_option maxHeartbeats 4000000 in
set_option maxRecDepth 100000 in
theorem w_X3_holdsRow {SH : SHT} (b : Nat) (a1 : Int32) (h : isOaths SH b) (s0 : St) : VF mX3_holdsRow 0 SH (jP s0) 0 [(0, .ref b), (1, .int a1)] [] s0 (f_X3_holdsRow b a1 s0) := by
  unfold f_X3_holdsRow
  refine v_aload_n dX3_holdsRow_0 rfl rfl ?_
  refine v_getr dX3_holdsRow_1 kf_X3_46 h.1 rfl ?_
  refine v_iload_n dX3_holdsRow_4 rfl rfl ?_
  refine v_gd (fun g1 => ?_)
  refine v_iald dX3_holdsRow_5 h.2.2.2.2.2.2.2.2.2.2.2.1 g1 rfl ?_
  refine v_iconst (v := 1) dX3_holdsRow_6 (by decide +kernel) ?_
  refine v_icmp_ne (tgt := 14) dX3_holdsRow_7 (by decide) (fun _ => ?_) (fun _ => ?_)
  · skip
    refine v_iconst (v := 0) dX3_holdsRow_14 (by decide +kernel) ?_
    exact v_ret (ty := .boolean) dX3_holdsRow_15 rfl rfl (by decide +kernel)
  refine v_iconst (v := 1) dX3_holdsRow_10 (by decide +kernel) ?_
  refine v_goto (tgt := 15) dX3_holdsRow_11 (by decide) ?_
  exact v_ret (ty := .boolean) dX3_holdsRow_15 rfl rfl (by decide +kernel)
theorem ct_X3_holdsRow {SH : SHT} (b : Nat) (a1 : Int32) (h : isOaths SH b) (s0 : St) : CT yX3_holdsRow mX3_holdsRow 0 SH (jP s0) [.ref b, .int a1] s0 (f_X3_holdsRow b a1 s0) := CT.of (by decide +kernel) rfl (fun E => Nat.le_of_ble_eq_true rfl) (w_X3_holdsRow b a1 h s0)
set_option maxHeartbeats 4000000 in
set_option maxRecDepth 100000 in
theorem w_X3_holdsPerson {SH : SHT} (b : Nat) (a1 : Int32) (h : isOaths SH b) (s0 : St) : VF mX3_holdsPerson 1 SH (jP s0) 0 [(0, .ref b), (1, .int a1)] [] s0 (f_X3_holdsPerson b a1 s0) := by
  unfold f_X3_holdsPerson
  refine v_aload_n dX3_holdsPerson_0 rfl rfl ?_
  refine v_getr dX3_holdsPerson_1 kf_X3_46 h.1 rfl ?_
  refine v_iload_n dX3_holdsPerson_4 rfl rfl ?_
  refine v_gd (fun g1 => ?_)
  refine v_iald dX3_holdsPerson_5 h.2.2.2.2.2.2.2.2.2.2.2.1 g1 rfl ?_
  refine v_if_ne (tgt := 26) dX3_holdsPerson_6 (by decide) (fun _ => ?_) (fun _ => ?_)
  · skip
    refine v_iconst (v := 0) dX3_holdsPerson_26 (by decide +kernel) ?_
    exact v_ret (ty := .boolean) dX3_holdsPerson_27 rfl rfl (by decide +kernel)
  refine v_aload_n dX3_holdsPerson_9 rfl rfl ?_
  refine v_aload_n dX3_holdsPerson_10 rfl rfl ?_
  refine v_getr dX3_holdsPerson_11 kf_X3_49 h.1 rfl ?_
  refine v_iload_n dX3_holdsPerson_14 rfl rfl ?_
  refine v_gd (fun g2 => ?_)
  refine v_iald dX3_holdsPerson_15 h.2.2.2.2.2.2.2.2.2.2.2.2.1 g2 rfl ?_
  refine v_cpI (fun z hz => runV (as := [.int (gA s0 (b + 49) (ix a1))]) dX3_holdsPerson_16 kv_X3_114 rfl rfl (Nat.le_of_ble_eq_true rfl) (Nat.le_of_ble_eq_true rfl) (recvW h.1 rfl rfl) (ct_X3_isPerson _ _ h _) hz) (fun x3 => ?_)
  refine v_if_eq (tgt := 26) dX3_holdsPerson_19 (by decide) (fun _ => ?_) (fun _ => ?_)
  · skip
    refine v_iconst (v := 0) dX3_holdsPerson_26 (by decide +kernel) ?_
    exact v_ret (ty := .boolean) dX3_holdsPerson_27 rfl rfl (by decide +kernel)
  refine v_iconst (v := 1) dX3_holdsPerson_22 (by decide +kernel) ?_
  refine v_goto (tgt := 27) dX3_holdsPerson_23 (by decide) ?_
  exact v_ret (ty := .boolean) dX3_holdsPerson_27 rfl rfl (by decide +kernel)
theorem ct_X3_holdsPerson {SH : SHT} (b : Nat) (a1 : Int32) (h : isOaths SH b) (s0 : St) : CT yX3_holdsPerson mX3_holdsPerson 1 SH (jP s0) [.ref b, .int a1] s0 (f_X3_holdsPerson b a1 s0) := CT.of (by decide +kernel) rfl (fun E => Nat.le_of_ble_eq_true rfl) (w_X3_holdsPerson b a1 h s0)
set_option maxHeartbeats 4000000 in
set_option maxRecDepth 100000 in
theorem wB_X3_isUnder_4 {SH : SHT} (a1 : Int32) (s0 : St) (rec : Int32 → Int32 → Option Int32) (hrec : ∀ (c1 : Int32) (c2 : Int32), VF mX3_isUnder 0 SH (jP s0) 4 [(1, .int a1), (2, .int c1), (3, .int c2)] [] s0 (rec c1 c2)) (K : Int32 → Option Int32) (hK : ∀ (e3 : Int32), VF mX3_isUnder 0 SH (jP s0) 31 [(1, .int a1), (2, .int e3)] [] s0 (K e3)) (c1 : Int32) (c2 : Int32) : VF mX3_isUnder 0 SH (jP s0) 4 [(1, .int a1), (2, .int c1), (3, .int c2)] [] s0 (B_X3_isUnder_4 rec a1 K c1 c2) := by
  unfold B_X3_isUnder_4
  refine v_iload_n dX3_isUnder_4 rfl rfl ?_
  refine v_bipush (v := 6) dX3_isUnder_5 (by decide +kernel) ?_
  refine v_icmp_ge (tgt := 31) dX3_isUnder_7 (by decide) (fun _ => ?_) (fun _ => ?_)
  · skip
    exact v_pick [0, 1] rfl (hK _)
  refine v_iload_n dX3_isUnder_10 rfl rfl ?_
  refine v_if_lt (tgt := 31) dX3_isUnder_11 (by decide) (fun _ => ?_) (fun _ => ?_)
  · skip
    exact v_pick [0, 1] rfl (hK _)
  refine v_iload_n dX3_isUnder_14 rfl rfl ?_
  refine v_iload_n dX3_isUnder_15 rfl rfl ?_
  refine v_icmp_eq (tgt := 31) dX3_isUnder_16 (by decide) (fun _ => ?_) (fun _ => ?_)
  · skip
    exact v_pick [0, 1] rfl (hK _)
  refine v_gets dX3_isUnder_19 ks_X3_288 ?_
  refine v_iload_n dX3_isUnder_22 rfl rfl ?_
  refine v_gd (fun g4 => ?_)
  refine v_tald (i := 0) dX3_isUnder_23 rfl (by decide) g4 rfl ?_
  refine v_topi (fun x5 => ?_)
  refine v_istore_n (L' := [(2, .int x5), (1, .int a1), (3, .int c2)]) dX3_isUnder_24 rfl (by decide) rfl ?_
  refine v_iinc (v := (c2 + (1 : Int32))) (L' := [(3, .int (c2 + (1 : Int32))), (2, .int x5), (1, .int a1)]) dX3_isUnder_25 rfl rfl (by decide) rfl ?_
  refine v_goto (tgt := 4) dX3_isUnder_28 (by decide) ?_
  exact v_pick [2, 1, 0] rfl (hrec _ _)
theorem wL_X3_isUnder_4 {SH : SHT} (a1 : Int32) (s0 : St) (K : Int32 → Option Int32) (hK : ∀ (e3 : Int32), VF mX3_isUnder 0 SH (jP s0) 31 [(1, .int a1), (2, .int e3)] [] s0 (K e3)) : ∀ (n : Nat) (c1 : Int32) (c2 : Int32), VF mX3_isUnder 0 SH (jP s0) 4 [(1, .int a1), (2, .int c1), (3, .int c2)] [] s0 (L_X3_isUnder_4 a1 K n c1 c2) := by
  intro n
  induction n with
  | zero => intros; exact v_none
  | succ n ih => intro c1 c2; exact wB_X3_isUnder_4 a1 s0 _ ih K hK c1 c2
set_option maxHeartbeats 4000000 in
set_option maxRecDepth 100000 in
theorem w_X3_isUnder {SH : SHT} (a0 : Int32) (a1 : Int32) (s0 : St) : VF mX3_isUnder 0 SH (jP s0) 0 [(0, .int a0), (1, .int a1)] [] s0 (f_X3_isUnder a0 a1 s0) := by
  unfold f_X3_isUnder
  refine v_iload_n dX3_isUnder_0 rfl rfl ?_
  refine v_istore_n (L' := [(2, .int a0), (0, .int a0), (1, .int a1)]) dX3_isUnder_1 rfl (by decide) rfl ?_
  refine v_iconst (v := 0) dX3_isUnder_2 (by decide +kernel) ?_
  refine v_istore_n (L' := [(3, .int (0 : Int32)), (2, .int a0), (0, .int a0), (1, .int a1)]) dX3_isUnder_3 rfl (by decide) rfl ?_
  refine v_pick [3, 1, 0] rfl (wL_X3_isUnder_4 a1 s0 _ (fun e3 => ?_) FU _ _)
  refine v_iload_n dX3_isUnder_31 rfl rfl ?_
  refine v_iload_n dX3_isUnder_32 rfl rfl ?_
  refine v_icmp_ne (tgt := 40) dX3_isUnder_33 (by decide) (fun _ => ?_) (fun _ => ?_)
  · skip
    refine v_iconst (v := 0) dX3_isUnder_40 (by decide +kernel) ?_
    exact v_ret (ty := .boolean) dX3_isUnder_41 rfl rfl (by decide +kernel)
  refine v_iconst (v := 1) dX3_isUnder_36 (by decide +kernel) ?_
  refine v_goto (tgt := 41) dX3_isUnder_37 (by decide) ?_
  exact v_ret (ty := .boolean) dX3_isUnder_41 rfl rfl (by decide +kernel)
theorem ct_X3_isUnder {SH : SHT} (a0 : Int32) (a1 : Int32) (s0 : St) : CT yX3_isUnder mX3_isUnder 0 SH (jP s0) [.int a0, .int a1] s0 (f_X3_isUnder a0 a1 s0) := CT.of (by decide +kernel) rfl (fun E => Nat.le_of_ble_eq_true rfl) (w_X3_isUnder a0 a1  s0)
set_option maxHeartbeats 4000000 in
set_option maxRecDepth 100000 in
theorem w_X3_taken {SH : SHT} (b : Nat) (a1 : Int32) (a2 : Int32) (h : isOaths SH b) (s0 : St) : VF mX3_taken 2 SH (jP s0) 0 [(0, .ref b), (1, .int a1), (2, .int a2)] [] s0 (f_X3_taken b a1 a2 s0) := by
  unfold f_X3_taken
  refine v_iload_n dX3_taken_0 rfl rfl ?_
  refine v_cpI (fun z hz => runT (as := [.int a1]) dX3_taken_1 kt_X3_255 rfl rfl (Nat.le_of_ble_eq_true rfl) (Nat.le_of_ble_eq_true rfl) (ct_X3_isShelf _  _) hz) (fun x1 => ?_)
  refine v_if_eq (tgt := 26) dX3_taken_4 (by decide) (fun _ => ?_) (fun _ => ?_)
  · skip
    refine v_iconst (v := -1) dX3_taken_26 (by decide +kernel) ?_
    exact v_ret (ty := .int) dX3_taken_27 rfl rfl rfl
  refine v_iload_n dX3_taken_7 rfl rfl ?_
  refine v_cpI (fun z hz => runT (as := [.int a2]) dX3_taken_8 kt_X3_104 rfl rfl (Nat.le_of_ble_eq_true rfl) (Nat.le_of_ble_eq_true rfl) (ct_X3_isKind _  _) hz) (fun x2 => ?_)
  refine v_if_ne (tgt := 28) dX3_taken_11 (by decide) (fun _ => ?_) (fun _ => ?_)
  · skip
    refine v_aload_n dX3_taken_28 rfl rfl ?_
    refine v_iload_n dX3_taken_29 rfl rfl ?_
    refine v_cpI (fun z hz => runV (as := [.int a1]) dX3_taken_30 kv_X3_261 rfl rfl (Nat.le_of_ble_eq_true rfl) (Nat.le_of_ble_eq_true rfl) (recvW h.1 rfl rfl) (ct_X3_holdsRow _ _ h _) hz) (fun x3 => ?_)
    refine v_if_eq (tgt := 61) dX3_taken_33 (by decide) (fun _ => ?_) (fun _ => ?_)
    · skip
      refine v_aload_n dX3_taken_61 rfl rfl ?_
      refine v_iload_n dX3_taken_62 rfl rfl ?_
      refine v_cpI (fun z hz => runV (as := [.int a1]) dX3_taken_63 kv_X3_264 rfl rfl (Nat.le_of_ble_eq_true rfl) (Nat.le_of_ble_eq_true rfl) (recvW h.1 rfl rfl) (ct_X3_holdsPerson _ _ h _) hz) (fun x4 => ?_)
      refine v_if_ne (tgt := 72) dX3_taken_66 (by decide) (fun _ => ?_) (fun _ => ?_)
      · skip
        refine v_aload_n dX3_taken_72 rfl rfl ?_
        refine v_getr dX3_taken_73 kf_X3_49 h.1 rfl ?_
        refine v_iload_n dX3_taken_76 rfl rfl ?_
        refine v_gd (fun g5 => ?_)
        refine v_iald dX3_taken_77 h.2.2.2.2.2.2.2.2.2.2.2.2.1 g5 rfl ?_
        refine v_topi (fun x6 => ?_)
        refine v_istore_n (L' := [(3, .int x6), (0, .ref b), (1, .int a1), (2, .int a2)]) dX3_taken_78 rfl (by decide) rfl ?_
        refine v_iload_n dX3_taken_79 rfl rfl ?_
        refine v_cpI (fun z hz => runT (as := [.int a2]) dX3_taken_80 kt_X3_104 rfl rfl (Nat.le_of_ble_eq_true rfl) (Nat.le_of_ble_eq_true rfl) (ct_X3_isKind _  _) hz) (fun x7 => ?_)
        refine v_if_eq (tgt := 106) dX3_taken_83 (by decide) (fun _ => ?_) (fun _ => ?_)
        · skip
          refine v_bipush (v := -13) dX3_taken_106 (by decide +kernel) ?_
          exact v_ret (ty := .int) dX3_taken_108 rfl rfl rfl
        refine v_aload_n dX3_taken_86 rfl rfl ?_
        refine v_getr dX3_taken_87 kf_X3_10 h.1 rfl ?_
        refine v_getr dX3_taken_90 kf_X3_117 h.2.1.1 rfl ?_
        refine v_iload_n dX3_taken_93 rfl rfl ?_
        refine v_gd (fun g8 => ?_)
        refine v_iald dX3_taken_94 h.2.1.2.2.2.2.2.1 g8 rfl ?_
        refine v_iload_n dX3_taken_95 rfl rfl ?_
        refine v_cpI (fun z hz => runT (as := [.int (gA s0 ((b + 1) + 5) (ix x6)), .int a2]) dX3_taken_96 kt_X3_267 rfl rfl (Nat.le_of_ble_eq_true rfl) (Nat.le_of_ble_eq_true rfl) (ct_X3_isUnder _ _  _) hz) (fun x9 => ?_)
        refine v_if_eq (tgt := 106) dX3_taken_99 (by decide) (fun _ => ?_) (fun _ => ?_)
        · skip
          refine v_bipush (v := -13) dX3_taken_106 (by decide +kernel) ?_
          exact v_ret (ty := .int) dX3_taken_108 rfl rfl rfl
        refine v_iload_n dX3_taken_102 rfl rfl ?_
        refine v_goto (tgt := 108) dX3_taken_103 (by decide) ?_
        exact v_ret (ty := .int) dX3_taken_108 rfl rfl rfl
      refine v_bipush (v := -11) dX3_taken_69 (by decide +kernel) ?_
      exact v_ret (ty := .int) dX3_taken_71 rfl rfl rfl
    refine v_aload_n dX3_taken_36 rfl rfl ?_
    refine v_getr dX3_taken_37 kf_X3_52 h.1 rfl ?_
    refine v_iload_n dX3_taken_40 rfl rfl ?_
    refine v_gd (fun g10 => ?_)
    refine v_iald dX3_taken_41 h.2.2.2.2.2.2.2.2.2.2.2.2.2.1 g10 rfl ?_
    refine v_iload_n dX3_taken_42 rfl rfl ?_
    refine v_bipush (v := 10) dX3_taken_43 (by decide +kernel) ?_
    refine v_isub dX3_taken_45 ?_
    refine v_icmp_ne (tgt := 58) dX3_taken_46 (by decide) (fun _ => ?_) (fun _ => ?_)
    · skip
      refine v_bipush (v := -13) dX3_taken_58 (by decide +kernel) ?_
      exact v_ret (ty := .int) dX3_taken_60 rfl rfl rfl
    refine v_aload_n dX3_taken_49 rfl rfl ?_
    refine v_getr dX3_taken_50 kf_X3_49 h.1 rfl ?_
    refine v_iload_n dX3_taken_53 rfl rfl ?_
    refine v_gd (fun g11 => ?_)
    refine v_iald dX3_taken_54 h.2.2.2.2.2.2.2.2.2.2.2.2.1 g11 rfl ?_
    refine v_goto (tgt := 60) dX3_taken_55 (by decide) ?_
    exact v_ret (ty := .int) dX3_taken_60 rfl rfl rfl
  refine v_iload_n dX3_taken_14 rfl rfl ?_
  refine v_bipush (v := 10) dX3_taken_15 (by decide +kernel) ?_
  refine v_icmp_lt (tgt := 26) dX3_taken_17 (by decide) (fun _ => ?_) (fun _ => ?_)
  · skip
    refine v_iconst (v := -1) dX3_taken_26 (by decide +kernel) ?_
    exact v_ret (ty := .int) dX3_taken_27 rfl rfl rfl
  refine v_iload_n dX3_taken_20 rfl rfl ?_
  refine v_bipush (v := 14) dX3_taken_21 (by decide +kernel) ?_
  refine v_icmp_lt (tgt := 28) dX3_taken_23 (by decide) (fun _ => ?_) (fun _ => ?_)
  · skip
    refine v_aload_n dX3_taken_28 rfl rfl ?_
    refine v_iload_n dX3_taken_29 rfl rfl ?_
    refine v_cpI (fun z hz => runV (as := [.int a1]) dX3_taken_30 kv_X3_261 rfl rfl (Nat.le_of_ble_eq_true rfl) (Nat.le_of_ble_eq_true rfl) (recvW h.1 rfl rfl) (ct_X3_holdsRow _ _ h _) hz) (fun x12 => ?_)
    refine v_if_eq (tgt := 61) dX3_taken_33 (by decide) (fun _ => ?_) (fun _ => ?_)
    · skip
      refine v_aload_n dX3_taken_61 rfl rfl ?_
      refine v_iload_n dX3_taken_62 rfl rfl ?_
      refine v_cpI (fun z hz => runV (as := [.int a1]) dX3_taken_63 kv_X3_264 rfl rfl (Nat.le_of_ble_eq_true rfl) (Nat.le_of_ble_eq_true rfl) (recvW h.1 rfl rfl) (ct_X3_holdsPerson _ _ h _) hz) (fun x13 => ?_)
      refine v_if_ne (tgt := 72) dX3_taken_66 (by decide) (fun _ => ?_) (fun _ => ?_)
      · skip
        refine v_aload_n dX3_taken_72 rfl rfl ?_
        refine v_getr dX3_taken_73 kf_X3_49 h.1 rfl ?_
        refine v_iload_n dX3_taken_76 rfl rfl ?_
        refine v_gd (fun g14 => ?_)
        refine v_iald dX3_taken_77 h.2.2.2.2.2.2.2.2.2.2.2.2.1 g14 rfl ?_
        refine v_topi (fun x15 => ?_)
        refine v_istore_n (L' := [(3, .int x15), (0, .ref b), (1, .int a1), (2, .int a2)]) dX3_taken_78 rfl (by decide) rfl ?_
        refine v_iload_n dX3_taken_79 rfl rfl ?_
        refine v_cpI (fun z hz => runT (as := [.int a2]) dX3_taken_80 kt_X3_104 rfl rfl (Nat.le_of_ble_eq_true rfl) (Nat.le_of_ble_eq_true rfl) (ct_X3_isKind _  _) hz) (fun x16 => ?_)
        refine v_if_eq (tgt := 106) dX3_taken_83 (by decide) (fun _ => ?_) (fun _ => ?_)
        · skip
          refine v_bipush (v := -13) dX3_taken_106 (by decide +kernel) ?_
          exact v_ret (ty := .int) dX3_taken_108 rfl rfl rfl
        refine v_aload_n dX3_taken_86 rfl rfl ?_
        refine v_getr dX3_taken_87 kf_X3_10 h.1 rfl ?_
        refine v_getr dX3_taken_90 kf_X3_117 h.2.1.1 rfl ?_
        refine v_iload_n dX3_taken_93 rfl rfl ?_
        refine v_gd (fun g17 => ?_)
        refine v_iald dX3_taken_94 h.2.1.2.2.2.2.2.1 g17 rfl ?_
        refine v_iload_n dX3_taken_95 rfl rfl ?_
        refine v_cpI (fun z hz => runT (as := [.int (gA s0 ((b + 1) + 5) (ix x15)), .int a2]) dX3_taken_96 kt_X3_267 rfl rfl (Nat.le_of_ble_eq_true rfl) (Nat.le_of_ble_eq_true rfl) (ct_X3_isUnder _ _  _) hz) (fun x18 => ?_)
        refine v_if_eq (tgt := 106) dX3_taken_99 (by decide) (fun _ => ?_) (fun _ => ?_)
        · skip
          refine v_bipush (v := -13) dX3_taken_106 (by decide +kernel) ?_
          exact v_ret (ty := .int) dX3_taken_108 rfl rfl rfl
        refine v_iload_n dX3_taken_102 rfl rfl ?_
        refine v_goto (tgt := 108) dX3_taken_103 (by decide) ?_
        exact v_ret (ty := .int) dX3_taken_108 rfl rfl rfl
      refine v_bipush (v := -11) dX3_taken_69 (by decide +kernel) ?_
      exact v_ret (ty := .int) dX3_taken_71 rfl rfl rfl
    refine v_aload_n dX3_taken_36 rfl rfl ?_
    refine v_getr dX3_taken_37 kf_X3_52 h.1 rfl ?_
    refine v_iload_n dX3_taken_40 rfl rfl ?_
    refine v_gd (fun g19 => ?_)
    refine v_iald dX3_taken_41 h.2.2.2.2.2.2.2.2.2.2.2.2.2.1 g19 rfl ?_
    refine v_iload_n dX3_taken_42 rfl rfl ?_
    refine v_bipush (v := 10) dX3_taken_43 (by decide +kernel) ?_
    refine v_isub dX3_taken_45 ?_
    refine v_icmp_ne (tgt := 58) dX3_taken_46 (by decide) (fun _ => ?_) (fun _ => ?_)
    · skip
      refine v_bipush (v := -13) dX3_taken_58 (by decide +kernel) ?_
      exact v_ret (ty := .int) dX3_taken_60 rfl rfl rfl
    refine v_aload_n dX3_taken_49 rfl rfl ?_
    refine v_getr dX3_taken_50 kf_X3_49 h.1 rfl ?_
    refine v_iload_n dX3_taken_53 rfl rfl ?_
    refine v_gd (fun g20 => ?_)
    refine v_iald dX3_taken_54 h.2.2.2.2.2.2.2.2.2.2.2.2.1 g20 rfl ?_
    refine v_goto (tgt := 60) dX3_taken_55 (by decide) ?_
    exact v_ret (ty := .int) dX3_taken_60 rfl rfl rfl
  refine v_iconst (v := -1) dX3_taken_26 (by decide +kernel) ?_
  exact v_ret (ty := .int) dX3_taken_27 rfl rfl rfl
theorem ct_X3_taken {SH : SHT} (b : Nat) (a1 : Int32) (a2 : Int32) (h : isOaths SH b) (s0 : St) : CT yX3_taken mX3_taken 2 SH (jP s0) [.ref b, .int a1, .int a2] s0 (f_X3_taken b a1 a2 s0) := CT.of (by decide +kernel) rfl (fun E => Nat.le_of_ble_eq_true rfl) (w_X3_taken b a1 a2 h s0)
set_option maxHeartbeats 4000000 in
set_option maxRecDepth 100000 in
theorem w_X3_act {SH : SHT} (b : Nat) (a1 : Int32) (a2 : Int32) (a3 : Int32) (h : isOaths SH b) (s0 : St) : VF mX3_act 63 SH jI 0 [(0, .ref b), (1, .int a1), (2, .int a2), (3, .int a3)] [] s0 (f_X3_act b a1 a2 a3 s0) := by
  unfold f_X3_act
  refine v_aload_n dX3_act_0 rfl rfl ?_
  refine v_getr dX3_act_1 kf_X3_58 h.1 rfl ?_
  refine v_cw (fun z hz => runV (as := []) dX3_act_4 kv_X3_270 rfl rfl (Nat.le_of_ble_eq_true rfl) (Nat.le_of_ble_eq_true rfl) (recvW h.2.2.2.2.2.2.2.2.2.2.2.2.2.2.1 rfl rfl) (ct_X0_forget _ h.2.2.2.2.2.2.2.2.2.2.2.2.2.2 _) hz) (fun s1 => ?_)
  refine v_iload_n dX3_act_7 rfl rfl ?_
  refine v_cpI (fun z hz => runT (as := [.int a1]) dX3_act_8 kt_X3_255 rfl rfl (Nat.le_of_ble_eq_true rfl) (Nat.le_of_ble_eq_true rfl) (ct_X3_isShelf _  _) hz) (fun x2 => ?_)
  refine v_if_eq (tgt := 30) dX3_act_11 (by decide) (fun _ => ?_) (fun _ => ?_)
  · skip
    refine v_iconst (v := 0) dX3_act_30 (by decide +kernel) ?_
    exact v_ret (ty := .int) dX3_act_31 rfl rfl rfl
  refine v_iload_n dX3_act_14 rfl rfl ?_
  refine v_iconst (v := 3) dX3_act_15 (by decide +kernel) ?_
  refine v_cpI (fun z hz => runT (as := [.int a2, .int (3 : Int32)]) dX3_act_16 kt_X3_97 rfl rfl (Nat.le_of_ble_eq_true rfl) (Nat.le_of_ble_eq_true rfl) (ct_X3_isWithin _ _  _) hz) (fun x3 => ?_)
  refine v_if_eq (tgt := 30) dX3_act_19 (by decide) (fun _ => ?_) (fun _ => ?_)
  · skip
    refine v_iconst (v := 0) dX3_act_30 (by decide +kernel) ?_
    exact v_ret (ty := .int) dX3_act_31 rfl rfl rfl
  refine v_aload_n dX3_act_22 rfl rfl ?_
  refine v_iload_n dX3_act_23 rfl rfl ?_
  refine v_cpI (fun z hz => runV (as := [.int a1]) dX3_act_24 kv_X3_264 rfl rfl (Nat.le_of_ble_eq_true rfl) (Nat.le_of_ble_eq_true rfl) (recvW h.1 rfl rfl) (ct_X3_holdsPerson _ _ h _) hz) (fun x4 => ?_)
  refine v_if_ne (tgt := 32) dX3_act_27 (by decide) (fun _ => ?_) (fun _ => ?_)
  · skip
    refine v_aload_n dX3_act_32 rfl rfl ?_
    refine v_getr dX3_act_33 kf_X3_49 h.1 rfl ?_
    refine v_iload_n dX3_act_36 rfl rfl ?_
    refine v_gd (fun g5 => ?_)
    refine v_iald dX3_act_37 h.2.2.2.2.2.2.2.2.2.2.2.2.1 g5 rfl ?_
    refine v_topi (fun x6 => ?_)
    refine v_istore (L' := [(4, .int x6), (0, .ref b), (1, .int a1), (2, .int a2), (3, .int a3)]) dX3_act_38 (by decide) rfl ?_
    refine v_aload_n dX3_act_40 rfl rfl ?_
    refine v_getr dX3_act_41 kf_X3_58 h.1 rfl ?_
    refine v_iload dX3_act_44 rfl ?_
    refine v_aload_n dX3_act_46 rfl rfl ?_
    refine v_getr dX3_act_47 kf_X3_10 h.1 rfl ?_
    refine v_getr dX3_act_50 kf_X3_117 h.2.1.1 rfl ?_
    refine v_iload dX3_act_53 rfl ?_
    refine v_gd (fun g7 => ?_)
    refine v_iald dX3_act_55 h.2.1.2.2.2.2.2.1 g7 rfl ?_
    refine v_aload_n dX3_act_56 rfl rfl ?_
    refine v_getr dX3_act_57 kf_X3_10 h.1 rfl ?_
    refine v_getr dX3_act_60 kf_X3_120 h.2.1.1 rfl ?_
    refine v_iload dX3_act_63 rfl ?_
    refine v_gd (fun g8 => ?_)
    refine v_iald dX3_act_65 h.2.1.2.2.2.2.2.2.1 g8 rfl ?_
    refine v_iload_n dX3_act_66 rfl rfl ?_
    refine v_iload_n dX3_act_67 rfl rfl ?_
    refine v_cbI (fun z hz => runV (as := [.int x6, .int (gA s1 ((b + 1) + 5) (ix x6)), .int (gA s1 ((b + 1) + 6) (ix x6)), .int a2, .int a3]) dX3_act_68 kv_X3_273 rfl rfl (Nat.le_of_ble_eq_true rfl) (Nat.le_of_ble_eq_true rfl) (recvW h.2.2.2.2.2.2.2.2.2.2.2.2.2.2.1 rfl rfl) (ct_X0_perform _ _ _ _ _ _ h.2.2.2.2.2.2.2.2.2.2.2.2.2.2 _) hz) (fun x10 s9 => ?_)
    exact v_ret (ty := .int) dX3_act_71 rfl rfl rfl
  refine v_iconst (v := 0) dX3_act_30 (by decide +kernel) ?_
  exact v_ret (ty := .int) dX3_act_31 rfl rfl rfl
theorem ct_X3_act {SH : SHT} (b : Nat) (a1 : Int32) (a2 : Int32) (a3 : Int32) (h : isOaths SH b) (s0 : St) : CT yX3_act mX3_act 63 SH jI [.ref b, .int a1, .int a2, .int a3] s0 (f_X3_act b a1 a2 a3 s0) := CT.of (by decide +kernel) rfl (fun E => Nat.le_of_ble_eq_true rfl) (w_X3_act b a1 a2 a3 h s0)
set_option maxHeartbeats 4000000 in
set_option maxRecDepth 100000 in
theorem w_X3_trace {SH : SHT} (b : Nat) (a1 : Int32) (h : isOaths SH b) (s0 : St) : VF mX3_trace 0 SH (jP s0) 0 [(0, .ref b), (1, .int a1)] [] s0 (f_X3_trace b a1 s0) := by
  unfold f_X3_trace
  refine v_iload_n dX3_trace_0 rfl rfl ?_
  refine v_if_lt (tgt := 27) dX3_trace_1 (by decide) (fun _ => ?_) (fun _ => ?_)
  · skip
    refine v_bipush (v := -3) dX3_trace_27 (by decide +kernel) ?_
    exact v_ret (ty := .int) dX3_trace_29 rfl rfl rfl
  refine v_iload_n dX3_trace_4 rfl rfl ?_
  refine v_aload_n dX3_trace_5 rfl rfl ?_
  refine v_getr dX3_trace_6 kf_X3_58 h.1 rfl ?_
  refine v_geti dX3_trace_9 kf_X3_277 h.2.2.2.2.2.2.2.2.2.2.2.2.2.2.1 rfl ?_
  refine v_icmp_ge (tgt := 27) dX3_trace_12 (by decide) (fun _ => ?_) (fun _ => ?_)
  · skip
    refine v_bipush (v := -3) dX3_trace_27 (by decide +kernel) ?_
    exact v_ret (ty := .int) dX3_trace_29 rfl rfl rfl
  refine v_aload_n dX3_trace_15 rfl rfl ?_
  refine v_getr dX3_trace_16 kf_X3_58 h.1 rfl ?_
  refine v_getr dX3_trace_19 kf_X3_278 h.2.2.2.2.2.2.2.2.2.2.2.2.2.2.1 rfl ?_
  refine v_iload_n dX3_trace_22 rfl rfl ?_
  refine v_gd (fun g1 => ?_)
  refine v_iald dX3_trace_23 h.2.2.2.2.2.2.2.2.2.2.2.2.2.2.2 g1 rfl ?_
  refine v_goto (tgt := 29) dX3_trace_24 (by decide) ?_
  exact v_ret (ty := .int) dX3_trace_29 rfl rfl rfl
theorem ct_X3_trace {SH : SHT} (b : Nat) (a1 : Int32) (h : isOaths SH b) (s0 : St) : CT yX3_trace mX3_trace 0 SH (jP s0) [.ref b, .int a1] s0 (f_X3_trace b a1 s0) := CT.of (by decide +kernel) rfl (fun E => Nat.le_of_ble_eq_true rfl) (w_X3_trace b a1 h s0)
set_option maxHeartbeats 4000000 in
set_option maxRecDepth 100000 in
theorem w_X3_many {SH : SHT} (b : Nat) (a1 : Int32) (h : isOaths SH b) (s0 : St) : VF mX3_many 2 SH (jP s0) 0 [(0, .ref b), (1, .int a1)] [] s0 (f_X3_many b a1 s0) := by
  unfold f_X3_many
  refine v_iload_n dX3_many_0 rfl rfl ?_
  refine v_tsw (cs := [(0, 44), (1, 52), (2, 63), (3, 74), (4, 85), (5, 90), (6, 98)]) (dt := 106) dX3_many_1 (by decide +kernel) (by decide) (by decide +kernel) ?_
  refine v_swc (fun _ => ?_) (fun _ => ?_)
  · skip
    refine v_aload_n dX3_many_44 rfl rfl ?_
    refine v_getr dX3_many_45 kf_X3_10 h.1 rfl ?_
    refine v_geti dX3_many_48 kf_X3_87 h.2.1.1 rfl ?_
    exact v_ret (ty := .int) dX3_many_51 rfl rfl rfl
  refine v_swc (fun _ => ?_) (fun _ => ?_)
  · skip
    refine v_aload_n dX3_many_52 rfl rfl ?_
    refine v_getr dX3_many_53 kf_X3_10 h.1 rfl ?_
    refine v_cpL (fun z hz => runV (as := []) dX3_many_56 kv_X3_167 rfl rfl (Nat.le_of_ble_eq_true rfl) (Nat.le_of_ble_eq_true rfl) (recvW h.2.1.1 rfl rfl) (ct_X1_wetCells _ h.2.1 _) hz) (fun x1 => ?_)
    refine v_cpI (fun z hz => runT (as := [.long x1]) dX3_many_59 kt_X3_183 rfl rfl (Nat.le_of_ble_eq_true rfl) (Nat.le_of_ble_eq_true rfl) (ct_J13_bitCount_95d88 _  _) hz) (fun x2 => ?_)
    exact v_ret (ty := .int) dX3_many_62 rfl rfl rfl
  refine v_swc (fun _ => ?_) (fun _ => ?_)
  · skip
    refine v_aload_n dX3_many_63 rfl rfl ?_
    refine v_getr dX3_many_64 kf_X3_10 h.1 rfl ?_
    refine v_cpI (fun z hz => runV (as := []) dX3_many_67 kv_X3_192 rfl rfl (Nat.le_of_ble_eq_true rfl) (Nat.le_of_ble_eq_true rfl) (recvW h.2.1.1 rfl rfl) (ct_X1_lostPeople _ h.2.1 _) hz) (fun x3 => ?_)
    refine v_cpI (fun z hz => runT (as := [.int x3]) dX3_many_70 kt_X3_196 rfl rfl (Nat.le_of_ble_eq_true rfl) (Nat.le_of_ble_eq_true rfl) (ct_J6_bitCount_0f7a4 _  _) hz) (fun x4 => ?_)
    exact v_ret (ty := .int) dX3_many_73 rfl rfl rfl
  refine v_swc (fun _ => ?_) (fun _ => ?_)
  · skip
    refine v_aload_n dX3_many_74 rfl rfl ?_
    refine v_getr dX3_many_75 kf_X3_10 h.1 rfl ?_
    refine v_cpL (fun z hz => runV (as := []) dX3_many_78 kv_X3_174 rfl rfl (Nat.le_of_ble_eq_true rfl) (Nat.le_of_ble_eq_true rfl) (recvW h.2.1.1 rfl rfl) (ct_X1_hollows _ h.2.1 _) hz) (fun x5 => ?_)
    refine v_cpI (fun z hz => runT (as := [.long x5]) dX3_many_81 kt_X3_183 rfl rfl (Nat.le_of_ble_eq_true rfl) (Nat.le_of_ble_eq_true rfl) (ct_J13_bitCount_95d88 _  _) hz) (fun x6 => ?_)
    exact v_ret (ty := .int) dX3_many_84 rfl rfl rfl
  refine v_swc (fun _ => ?_) (fun _ => ?_)
  · skip
    refine v_aload_n dX3_many_85 rfl rfl ?_
    refine v_geti dX3_many_86 kf_X3_84 h.1 rfl ?_
    exact v_ret (ty := .int) dX3_many_89 rfl rfl rfl
  refine v_swc (fun _ => ?_) (fun _ => ?_)
  · skip
    refine v_aload_n dX3_many_90 rfl rfl ?_
    refine v_getr dX3_many_91 kf_X3_25 h.1 rfl ?_
    refine v_geti dX3_many_94 kf_X3_66 h.2.2.2.2.1.1 rfl ?_
    exact v_ret (ty := .int) dX3_many_97 rfl rfl rfl
  refine v_swc (fun _ => ?_) (fun _ => ?_)
  · skip
    refine v_aload_n dX3_many_98 rfl rfl ?_
    refine v_getr dX3_many_99 kf_X3_58 h.1 rfl ?_
    refine v_geti dX3_many_102 kf_X3_277 h.2.2.2.2.2.2.2.2.2.2.2.2.2.2.1 rfl ?_
    exact v_ret (ty := .int) dX3_many_105 rfl rfl rfl
  refine v_swn ?_
  refine v_iconst (v := -1) dX3_many_106 (by decide +kernel) ?_
  exact v_ret (ty := .int) dX3_many_107 rfl rfl rfl
theorem ct_X3_many {SH : SHT} (b : Nat) (a1 : Int32) (h : isOaths SH b) (s0 : St) : CT yX3_many mX3_many 2 SH (jP s0) [.ref b, .int a1] s0 (f_X3_many b a1 s0) := CT.of (by decide +kernel) rfl (fun E => Nat.le_of_ble_eq_true rfl) (w_X3_many b a1 h s0)
set_option maxHeartbeats 4000000 in
set_option maxRecDepth 100000 in
theorem w_X3_keep {SH : SHT} (b : Nat) (h : isOaths SH b) (s0 : St) : VF mX3_keep 2 SH jI 0 [(0, .ref b)] [] s0 (f_X3_keep b s0) := by
  unfold f_X3_keep
  refine v_aload_n dX3_keep_0 rfl rfl ?_
  refine v_getr dX3_keep_1 kf_X3_19 h.1 rfl ?_
  refine v_aload_n dX3_keep_4 rfl rfl ?_
  refine v_getr dX3_keep_5 kf_X3_10 h.1 rfl ?_
  refine v_cw (fun z hz => runV (as := [.ref (b + 1)]) dX3_keep_8 kv_X3_80 rfl rfl (Nat.le_of_ble_eq_true rfl) (Nat.le_of_ble_eq_true rfl) (recvW h.2.2.2.1.1 rfl rfl) (ct_X1_become _ _ h.2.2.2.1 h.2.1 _) hz) (fun s1 => ?_)
  refine v_aload_n dX3_keep_11 rfl rfl ?_
  refine v_iconst (v := 1) dX3_keep_12 (by decide +kernel) ?_
  refine v_puti dX3_keep_13 kp_X3_281 h.1 rfl (by decide +kernel) (by decide +kernel) (v_st fun s2 => ?_)
  refine v_iconst (v := 1) dX3_keep_16 (by decide +kernel) ?_
  exact v_ret (ty := .int) dX3_keep_17 rfl rfl rfl
theorem ct_X3_keep {SH : SHT} (b : Nat) (h : isOaths SH b) (s0 : St) : CT yX3_keep mX3_keep 2 SH jI [.ref b] s0 (f_X3_keep b s0) := CT.of (by decide +kernel) rfl (fun E => Nat.le_of_ble_eq_true rfl) (w_X3_keep b h s0)
set_option maxHeartbeats 4000000 in
set_option maxRecDepth 100000 in
theorem w_X3_again {SH : SHT} (b : Nat) (h : isOaths SH b) (s0 : St) : VF mX3_again 2 SH jI 0 [(0, .ref b)] [] s0 (f_X3_again b s0) := by
  unfold f_X3_again
  refine v_aload_n dX3_again_0 rfl rfl ?_
  refine v_geti dX3_again_1 kf_X3_281 h.1 rfl ?_
  refine v_if_ne (tgt := 10) dX3_again_4 (by decide) (fun _ => ?_) (fun _ => ?_)
  · skip
    refine v_aload_n dX3_again_10 rfl rfl ?_
    refine v_getr dX3_again_11 kf_X3_10 h.1 rfl ?_
    refine v_aload_n dX3_again_14 rfl rfl ?_
    refine v_getr dX3_again_15 kf_X3_19 h.1 rfl ?_
    refine v_cw (fun z hz => runV (as := [.ref (b + 19)]) dX3_again_18 kv_X3_80 rfl rfl (Nat.le_of_ble_eq_true rfl) (Nat.le_of_ble_eq_true rfl) (recvW h.2.1.1 rfl rfl) (ct_X1_become _ _ h.2.1 h.2.2.2.1 _) hz) (fun s1 => ?_)
    refine v_aload_n dX3_again_21 rfl rfl ?_
    refine v_getr dX3_again_22 kf_X3_10 h.1 rfl ?_
    refine v_geti dX3_again_25 kf_X3_87 h.2.1.1 rfl ?_
    exact v_ret (ty := .int) dX3_again_28 rfl rfl rfl
  refine v_bipush (v := -3) dX3_again_7 (by decide +kernel) ?_
  exact v_ret (ty := .int) dX3_again_9 rfl rfl rfl
theorem ct_X3_again {SH : SHT} (b : Nat) (h : isOaths SH b) (s0 : St) : CT yX3_again mX3_again 2 SH jI [.ref b] s0 (f_X3_again b s0) := CT.of (by decide +kernel) rfl (fun E => Nat.le_of_ble_eq_true rfl) (w_X3_again b h s0)
