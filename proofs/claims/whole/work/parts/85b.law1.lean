set_option maxHeartbeats 20000000 in
set_option maxRecDepth 100000 in
theorem wc_L_12 {SH : SHT} (hO : isOaths SH 0) (hR : isModel SH 53) (rec : Int32 → St → Option (Int32 × St)) (hrec : ∀ (c1 : Int32) (s2 : St), VF mL_law 200 SH jI 18 [(0, .ref 5000), (1, .ref 0), (2, .ref 53), (3, .int c1)] [] s2 (rec c1 s2)) (c1 : Int32) (s2 : St) : VF mL_law 200 SH jI 646 [(0, .ref 5000), (1, .ref 0), (2, .ref 53), (3, .int c1)] [] s2 (gd (ib (c1 + (1 : Int32)) SH.2.1) (gd (ib (c1 + (2 : Int32)) SH.2.1) (cb (f_X3_water 0 (SH.2.2 (ix (c1 + (1 : Int32)))) (SH.2.2 (ix (c1 + (2 : Int32)))) s2) fun x92 s91 => gd (ib (c1 + (1 : Int32)) SH.2.1) (gd (ib (c1 + (2 : Int32)) SH.2.1) (cb (f_X4_water 53 (SH.2.2 (ix (c1 + (1 : Int32)))) (SH.2.2 (ix (c1 + (2 : Int32)))) s91) fun x96 s95 => (if x92 = x96 then rec (c1 + (5 : Int32)) s95 else some ((0 : Int32), s95))))))) := by
  refine v_aload_n dL_law_646 rfl rfl ?_
  refine v_aload_n dL_law_647 rfl rfl ?_
  refine v_iload_n dL_law_648 rfl rfl ?_
  refine v_iconst (v := 1) dL_law_649 (by decide +kernel) ?_
  refine v_iadd dL_law_650 ?_
  refine v_gd (fun g89 => ?_)
  refine v_sld dL_law_651 g89 ?_
  refine v_aload_n dL_law_652 rfl rfl ?_
  refine v_iload_n dL_law_653 rfl rfl ?_
  refine v_iconst (v := 2) dL_law_654 (by decide +kernel) ?_
  refine v_iadd dL_law_655 ?_
  refine v_gd (fun g90 => ?_)
  refine v_sld dL_law_656 g90 ?_
  refine v_cbI (fun z hz => runV (as := [.int (SH.2.2 (ix (c1 + (1 : Int32)))), .int (SH.2.2 (ix (c1 + (2 : Int32))))]) dL_law_657 kv_L_69 rfl rfl (Nat.le_of_ble_eq_true rfl) (Nat.le_of_ble_eq_true rfl) (recvW hO.1 rfl rfl) (ct_X3_water _ _ _ hO _) hz) (fun x92 s91 => ?_)
  refine v_aload_n dL_law_660 rfl rfl ?_
  refine v_aload_n dL_law_661 rfl rfl ?_
  refine v_iload_n dL_law_662 rfl rfl ?_
  refine v_iconst (v := 1) dL_law_663 (by decide +kernel) ?_
  refine v_iadd dL_law_664 ?_
  refine v_gd (fun g93 => ?_)
  refine v_sld dL_law_665 g93 ?_
  refine v_aload_n dL_law_666 rfl rfl ?_
  refine v_iload_n dL_law_667 rfl rfl ?_
  refine v_iconst (v := 2) dL_law_668 (by decide +kernel) ?_
  refine v_iadd dL_law_669 ?_
  refine v_gd (fun g94 => ?_)
  refine v_sld dL_law_670 g94 ?_
  refine v_cbI (fun z hz => runV (as := [.int (SH.2.2 (ix (c1 + (1 : Int32)))), .int (SH.2.2 (ix (c1 + (2 : Int32))))]) dL_law_671 kv_L_72 rfl rfl (Nat.le_of_ble_eq_true rfl) (Nat.le_of_ble_eq_true rfl) (recvW hR.1 rfl rfl) (ct_X4_water _ _ _ hR _) hz) (fun x96 s95 => ?_)
  refine v_icmp_eq (tgt := 1787) dL_law_674 (by decide) (fun _ => ?_) (fun _ => ?_)
  · skip
    refine v_iinc (v := (c1 + (5 : Int32))) (L' := [(3, .int (c1 + (5 : Int32))), (0, .ref 5000), (1, .ref 0), (2, .ref 53)]) dL_law_1787 rfl rfl (by decide) rfl ?_
    refine v_goto (tgt := 18) dL_law_1790 (by decide) ?_
    exact v_pick [1, 2, 3, 0] rfl (hrec _ _)
  refine v_iconst (v := 0) dL_law_677 (by decide +kernel) ?_
  exact v_ret (ty := .boolean) dL_law_678 rfl rfl (by decide +kernel)
set_option maxHeartbeats 20000000 in
set_option maxRecDepth 100000 in
theorem wc_L_13 {SH : SHT} (hO : isOaths SH 0) (hR : isModel SH 53) (rec : Int32 → St → Option (Int32 × St)) (hrec : ∀ (c1 : Int32) (s2 : St), VF mL_law 200 SH jI 18 [(0, .ref 5000), (1, .ref 0), (2, .ref 53), (3, .int c1)] [] s2 (rec c1 s2)) (c1 : Int32) (s2 : St) : VF mL_law 200 SH jI 679 [(0, .ref 5000), (1, .ref 0), (2, .ref 53), (3, .int c1)] [] s2 (gd (ib (c1 + (1 : Int32)) SH.2.1) (gd (ib (c1 + (2 : Int32)) SH.2.1) (cb (f_X3_height 0 (SH.2.2 (ix (c1 + (1 : Int32)))) (SH.2.2 (ix (c1 + (2 : Int32)))) s2) fun x100 s99 => gd (ib (c1 + (1 : Int32)) SH.2.1) (gd (ib (c1 + (2 : Int32)) SH.2.1) (cb (f_X4_height 53 (SH.2.2 (ix (c1 + (1 : Int32)))) (SH.2.2 (ix (c1 + (2 : Int32)))) s99) fun x104 s103 => (if x100 = x104 then rec (c1 + (5 : Int32)) s103 else some ((0 : Int32), s103))))))) := by
  refine v_aload_n dL_law_679 rfl rfl ?_
  refine v_aload_n dL_law_680 rfl rfl ?_
  refine v_iload_n dL_law_681 rfl rfl ?_
  refine v_iconst (v := 1) dL_law_682 (by decide +kernel) ?_
  refine v_iadd dL_law_683 ?_
  refine v_gd (fun g97 => ?_)
  refine v_sld dL_law_684 g97 ?_
  refine v_aload_n dL_law_685 rfl rfl ?_
  refine v_iload_n dL_law_686 rfl rfl ?_
  refine v_iconst (v := 2) dL_law_687 (by decide +kernel) ?_
  refine v_iadd dL_law_688 ?_
  refine v_gd (fun g98 => ?_)
  refine v_sld dL_law_689 g98 ?_
  refine v_cbI (fun z hz => runV (as := [.int (SH.2.2 (ix (c1 + (1 : Int32)))), .int (SH.2.2 (ix (c1 + (2 : Int32))))]) dL_law_690 kv_L_73 rfl rfl (Nat.le_of_ble_eq_true rfl) (Nat.le_of_ble_eq_true rfl) (recvW hO.1 rfl rfl) (ct_X3_height _ _ _ hO _) hz) (fun x100 s99 => ?_)
  refine v_aload_n dL_law_693 rfl rfl ?_
  refine v_aload_n dL_law_694 rfl rfl ?_
  refine v_iload_n dL_law_695 rfl rfl ?_
  refine v_iconst (v := 1) dL_law_696 (by decide +kernel) ?_
  refine v_iadd dL_law_697 ?_
  refine v_gd (fun g101 => ?_)
  refine v_sld dL_law_698 g101 ?_
  refine v_aload_n dL_law_699 rfl rfl ?_
  refine v_iload_n dL_law_700 rfl rfl ?_
  refine v_iconst (v := 2) dL_law_701 (by decide +kernel) ?_
  refine v_iadd dL_law_702 ?_
  refine v_gd (fun g102 => ?_)
  refine v_sld dL_law_703 g102 ?_
  refine v_cbI (fun z hz => runV (as := [.int (SH.2.2 (ix (c1 + (1 : Int32)))), .int (SH.2.2 (ix (c1 + (2 : Int32))))]) dL_law_704 kv_L_76 rfl rfl (Nat.le_of_ble_eq_true rfl) (Nat.le_of_ble_eq_true rfl) (recvW hR.1 rfl rfl) (ct_X4_height _ _ _ hR _) hz) (fun x104 s103 => ?_)
  refine v_icmp_eq (tgt := 1787) dL_law_707 (by decide) (fun _ => ?_) (fun _ => ?_)
  · skip
    refine v_iinc (v := (c1 + (5 : Int32))) (L' := [(3, .int (c1 + (5 : Int32))), (0, .ref 5000), (1, .ref 0), (2, .ref 53)]) dL_law_1787 rfl rfl (by decide) rfl ?_
    refine v_goto (tgt := 18) dL_law_1790 (by decide) ?_
    exact v_pick [1, 2, 3, 0] rfl (hrec _ _)
  refine v_iconst (v := 0) dL_law_710 (by decide +kernel) ?_
  exact v_ret (ty := .boolean) dL_law_711 rfl rfl (by decide +kernel)
set_option maxHeartbeats 20000000 in
set_option maxRecDepth 100000 in
theorem wc_L_14 {SH : SHT} (hO : isOaths SH 0) (hR : isModel SH 53) (rec : Int32 → St → Option (Int32 × St)) (hrec : ∀ (c1 : Int32) (s2 : St), VF mL_law 200 SH jI 18 [(0, .ref 5000), (1, .ref 0), (2, .ref 53), (3, .int c1)] [] s2 (rec c1 s2)) (c1 : Int32) (s2 : St) : VF mL_law 200 SH jI 712 [(0, .ref 5000), (1, .ref 0), (2, .ref 53), (3, .int c1)] [] s2 (gd (ib (c1 + (1 : Int32)) SH.2.1) (cp (f_X3_wets 0 (SH.2.2 (ix (c1 + (1 : Int32)))) s2) fun x106 => gd (ib (c1 + (1 : Int32)) SH.2.1) (cp (f_X4_wets 53 (SH.2.2 (ix (c1 + (1 : Int32)))) s2) fun x108 => (if (lg_cmp x106 x108) = 0 then rec (c1 + (5 : Int32)) s2 else some ((0 : Int32), s2))))) := by
  refine v_aload_n dL_law_712 rfl rfl ?_
  refine v_aload_n dL_law_713 rfl rfl ?_
  refine v_iload_n dL_law_714 rfl rfl ?_
  refine v_iconst (v := 1) dL_law_715 (by decide +kernel) ?_
  refine v_iadd dL_law_716 ?_
  refine v_gd (fun g105 => ?_)
  refine v_sld dL_law_717 g105 ?_
  refine v_cpL (fun z hz => runV (as := [.int (SH.2.2 (ix (c1 + (1 : Int32))))]) dL_law_718 kv_L_77 rfl rfl (Nat.le_of_ble_eq_true rfl) (Nat.le_of_ble_eq_true rfl) (recvW hO.1 rfl rfl) (ct_X3_wets _ _ hO _) hz) (fun x106 => ?_)
  refine v_aload_n dL_law_721 rfl rfl ?_
  refine v_aload_n dL_law_722 rfl rfl ?_
  refine v_iload_n dL_law_723 rfl rfl ?_
  refine v_iconst (v := 1) dL_law_724 (by decide +kernel) ?_
  refine v_iadd dL_law_725 ?_
  refine v_gd (fun g107 => ?_)
  refine v_sld dL_law_726 g107 ?_
  refine v_cpL (fun z hz => runV (as := [.int (SH.2.2 (ix (c1 + (1 : Int32))))]) dL_law_727 kv_L_81 rfl rfl (Nat.le_of_ble_eq_true rfl) (Nat.le_of_ble_eq_true rfl) (recvW hR.1 rfl rfl) (ct_X4_wets _ _ hR _) hz) (fun x108 => ?_)
  refine v_lcmp dL_law_730 ?_
  refine v_if_eq (tgt := 1787) dL_law_731 (by decide) (fun _ => ?_) (fun _ => ?_)
  · skip
    refine v_iinc (v := (c1 + (5 : Int32))) (L' := [(3, .int (c1 + (5 : Int32))), (0, .ref 5000), (1, .ref 0), (2, .ref 53)]) dL_law_1787 rfl rfl (by decide) rfl ?_
    refine v_goto (tgt := 18) dL_law_1790 (by decide) ?_
    exact v_pick [1, 2, 3, 0] rfl (hrec _ _)
  refine v_iconst (v := 0) dL_law_734 (by decide +kernel) ?_
  exact v_ret (ty := .boolean) dL_law_735 rfl rfl (by decide +kernel)
set_option maxHeartbeats 20000000 in
set_option maxRecDepth 100000 in
theorem wc_L_15 {SH : SHT} (hO : isOaths SH 0) (hR : isModel SH 53) (rec : Int32 → St → Option (Int32 × St)) (hrec : ∀ (c1 : Int32) (s2 : St), VF mL_law 200 SH jI 18 [(0, .ref 5000), (1, .ref 0), (2, .ref 53), (3, .int c1)] [] s2 (rec c1 s2)) (c1 : Int32) (s2 : St) : VF mL_law 200 SH jI 736 [(0, .ref 5000), (1, .ref 0), (2, .ref 53), (3, .int c1)] [] s2 (gd (ib (c1 + (1 : Int32)) SH.2.1) (cb (f_X3_years 0 (SH.2.2 (ix (c1 + (1 : Int32)))) s2) fun x111 s110 => gd (ib (c1 + (1 : Int32)) SH.2.1) (cb (f_X4_years 53 (SH.2.2 (ix (c1 + (1 : Int32)))) s110) fun x114 s113 => (if x111 = x114 then rec (c1 + (5 : Int32)) s113 else some ((0 : Int32), s113))))) := by
  refine v_aload_n dL_law_736 rfl rfl ?_
  refine v_aload_n dL_law_737 rfl rfl ?_
  refine v_iload_n dL_law_738 rfl rfl ?_
  refine v_iconst (v := 1) dL_law_739 (by decide +kernel) ?_
  refine v_iadd dL_law_740 ?_
  refine v_gd (fun g109 => ?_)
  refine v_sld dL_law_741 g109 ?_
  refine v_cbI (fun z hz => runV (as := [.int (SH.2.2 (ix (c1 + (1 : Int32))))]) dL_law_742 kv_L_82 rfl rfl (Nat.le_of_ble_eq_true rfl) (Nat.le_of_ble_eq_true rfl) (recvW hO.1 rfl rfl) (ct_X3_years _ _ hO _) hz) (fun x111 s110 => ?_)
  refine v_aload_n dL_law_745 rfl rfl ?_
  refine v_aload_n dL_law_746 rfl rfl ?_
  refine v_iload_n dL_law_747 rfl rfl ?_
  refine v_iconst (v := 1) dL_law_748 (by decide +kernel) ?_
  refine v_iadd dL_law_749 ?_
  refine v_gd (fun g112 => ?_)
  refine v_sld dL_law_750 g112 ?_
  refine v_cbI (fun z hz => runV (as := [.int (SH.2.2 (ix (c1 + (1 : Int32))))]) dL_law_751 kv_L_85 rfl rfl (Nat.le_of_ble_eq_true rfl) (Nat.le_of_ble_eq_true rfl) (recvW hR.1 rfl rfl) (ct_X4_years _ _ hR _) hz) (fun x114 s113 => ?_)
  refine v_icmp_eq (tgt := 1787) dL_law_754 (by decide) (fun _ => ?_) (fun _ => ?_)
  · skip
    refine v_iinc (v := (c1 + (5 : Int32))) (L' := [(3, .int (c1 + (5 : Int32))), (0, .ref 5000), (1, .ref 0), (2, .ref 53)]) dL_law_1787 rfl rfl (by decide) rfl ?_
    refine v_goto (tgt := 18) dL_law_1790 (by decide) ?_
    exact v_pick [1, 2, 3, 0] rfl (hrec _ _)
  refine v_iconst (v := 0) dL_law_757 (by decide +kernel) ?_
  exact v_ret (ty := .boolean) dL_law_758 rfl rfl (by decide +kernel)
set_option maxHeartbeats 20000000 in
set_option maxRecDepth 100000 in
theorem wc_L_16 {SH : SHT} (hO : isOaths SH 0) (hR : isModel SH 53) (rec : Int32 → St → Option (Int32 × St)) (hrec : ∀ (c1 : Int32) (s2 : St), VF mL_law 200 SH jI 18 [(0, .ref 5000), (1, .ref 0), (2, .ref 53), (3, .int c1)] [] s2 (rec c1 s2)) (c1 : Int32) (s2 : St) : VF mL_law 200 SH jI 759 [(0, .ref 5000), (1, .ref 0), (2, .ref 53), (3, .int c1)] [] s2 (gd (ib (c1 + (1 : Int32)) SH.2.1) (cb (f_X3_seed 0 (SH.2.2 (ix (c1 + (1 : Int32)))) s2) fun x117 s116 => gd (ib (c1 + (1 : Int32)) SH.2.1) (cb (f_X4_seed 53 (SH.2.2 (ix (c1 + (1 : Int32)))) s116) fun x120 s119 => (if x117 = x120 then rec (c1 + (5 : Int32)) s119 else some ((0 : Int32), s119))))) := by
  refine v_aload_n dL_law_759 rfl rfl ?_
  refine v_aload_n dL_law_760 rfl rfl ?_
  refine v_iload_n dL_law_761 rfl rfl ?_
  refine v_iconst (v := 1) dL_law_762 (by decide +kernel) ?_
  refine v_iadd dL_law_763 ?_
  refine v_gd (fun g115 => ?_)
  refine v_sld dL_law_764 g115 ?_
  refine v_cbI (fun z hz => runV (as := [.int (SH.2.2 (ix (c1 + (1 : Int32))))]) dL_law_765 kv_L_86 rfl rfl (Nat.le_of_ble_eq_true rfl) (Nat.le_of_ble_eq_true rfl) (recvW hO.1 rfl rfl) (ct_X3_seed _ _ hO _) hz) (fun x117 s116 => ?_)
  refine v_aload_n dL_law_768 rfl rfl ?_
  refine v_aload_n dL_law_769 rfl rfl ?_
  refine v_iload_n dL_law_770 rfl rfl ?_
  refine v_iconst (v := 1) dL_law_771 (by decide +kernel) ?_
  refine v_iadd dL_law_772 ?_
  refine v_gd (fun g118 => ?_)
  refine v_sld dL_law_773 g118 ?_
  refine v_cbI (fun z hz => runV (as := [.int (SH.2.2 (ix (c1 + (1 : Int32))))]) dL_law_774 kv_L_89 rfl rfl (Nat.le_of_ble_eq_true rfl) (Nat.le_of_ble_eq_true rfl) (recvW hR.1 rfl rfl) (ct_X4_seed _ _ hR _) hz) (fun x120 s119 => ?_)
  refine v_icmp_eq (tgt := 1787) dL_law_777 (by decide) (fun _ => ?_) (fun _ => ?_)
  · skip
    refine v_iinc (v := (c1 + (5 : Int32))) (L' := [(3, .int (c1 + (5 : Int32))), (0, .ref 5000), (1, .ref 0), (2, .ref 53)]) dL_law_1787 rfl rfl (by decide) rfl ?_
    refine v_goto (tgt := 18) dL_law_1790 (by decide) ?_
    exact v_pick [1, 2, 3, 0] rfl (hrec _ _)
  refine v_iconst (v := 0) dL_law_780 (by decide +kernel) ?_
  exact v_ret (ty := .boolean) dL_law_781 rfl rfl (by decide +kernel)
set_option maxHeartbeats 20000000 in
set_option maxRecDepth 100000 in
theorem wc_L_17 {SH : SHT} (hO : isOaths SH 0) (hR : isModel SH 53) (rec : Int32 → St → Option (Int32 × St)) (hrec : ∀ (c1 : Int32) (s2 : St), VF mL_law 200 SH jI 18 [(0, .ref 5000), (1, .ref 0), (2, .ref 53), (3, .int c1)] [] s2 (rec c1 s2)) (c1 : Int32) (s2 : St) : VF mL_law 200 SH jI 782 [(0, .ref 5000), (1, .ref 0), (2, .ref 53), (3, .int c1)] [] s2 (cb (f_X3_year 0 s2) fun x122 s121 => cb (f_X4_year 53 s121) fun x124 s123 => (if x122 = x124 then rec (c1 + (5 : Int32)) s123 else some ((0 : Int32), s123))) := by
  refine v_aload_n dL_law_782 rfl rfl ?_
  refine v_cbI (fun z hz => runV (as := []) dL_law_783 kv_L_90 rfl rfl (Nat.le_of_ble_eq_true rfl) (Nat.le_of_ble_eq_true rfl) (recvW hO.1 rfl rfl) (ct_X3_year _ hO _) hz) (fun x122 s121 => ?_)
  refine v_aload_n dL_law_786 rfl rfl ?_
  refine v_cbI (fun z hz => runV (as := []) dL_law_787 kv_L_93 rfl rfl (Nat.le_of_ble_eq_true rfl) (Nat.le_of_ble_eq_true rfl) (recvW hR.1 rfl rfl) (ct_X4_year _ hR _) hz) (fun x124 s123 => ?_)
  refine v_icmp_eq (tgt := 1787) dL_law_790 (by decide) (fun _ => ?_) (fun _ => ?_)
  · skip
    refine v_iinc (v := (c1 + (5 : Int32))) (L' := [(3, .int (c1 + (5 : Int32))), (0, .ref 5000), (1, .ref 0), (2, .ref 53)]) dL_law_1787 rfl rfl (by decide) rfl ?_
    refine v_goto (tgt := 18) dL_law_1790 (by decide) ?_
    exact v_pick [1, 2, 3, 0] rfl (hrec _ _)
  refine v_iconst (v := 0) dL_law_793 (by decide +kernel) ?_
  exact v_ret (ty := .boolean) dL_law_794 rfl rfl (by decide +kernel)
set_option maxHeartbeats 20000000 in
set_option maxRecDepth 100000 in
theorem wc_L_18 {SH : SHT} (hO : isOaths SH 0) (hR : isModel SH 53) (rec : Int32 → St → Option (Int32 × St)) (hrec : ∀ (c1 : Int32) (s2 : St), VF mL_law 200 SH jI 18 [(0, .ref 5000), (1, .ref 0), (2, .ref 53), (3, .int c1)] [] s2 (rec c1 s2)) (c1 : Int32) (s2 : St) : VF mL_law 200 SH jI 795 [(0, .ref 5000), (1, .ref 0), (2, .ref 53), (3, .int c1)] [] s2 (gd (ib (c1 + (1 : Int32)) SH.2.1) (cb (f_X3_revel 0 (SH.2.2 (ix (c1 + (1 : Int32)))) s2) fun x127 s126 => gd (ib (c1 + (1 : Int32)) SH.2.1) (cb (f_X4_revel 53 (SH.2.2 (ix (c1 + (1 : Int32)))) s126) fun x130 s129 => (if x127 = x130 then rec (c1 + (5 : Int32)) s129 else some ((0 : Int32), s129))))) := by
  refine v_aload_n dL_law_795 rfl rfl ?_
  refine v_aload_n dL_law_796 rfl rfl ?_
  refine v_iload_n dL_law_797 rfl rfl ?_
  refine v_iconst (v := 1) dL_law_798 (by decide +kernel) ?_
  refine v_iadd dL_law_799 ?_
  refine v_gd (fun g125 => ?_)
  refine v_sld dL_law_800 g125 ?_
  refine v_cbI (fun z hz => runV (as := [.int (SH.2.2 (ix (c1 + (1 : Int32))))]) dL_law_801 kv_L_94 rfl rfl (Nat.le_of_ble_eq_true rfl) (Nat.le_of_ble_eq_true rfl) (recvW hO.1 rfl rfl) (ct_X3_revel _ _ hO _) hz) (fun x127 s126 => ?_)
  refine v_aload_n dL_law_804 rfl rfl ?_
  refine v_aload_n dL_law_805 rfl rfl ?_
  refine v_iload_n dL_law_806 rfl rfl ?_
  refine v_iconst (v := 1) dL_law_807 (by decide +kernel) ?_
  refine v_iadd dL_law_808 ?_
  refine v_gd (fun g128 => ?_)
  refine v_sld dL_law_809 g128 ?_
  refine v_cbI (fun z hz => runV (as := [.int (SH.2.2 (ix (c1 + (1 : Int32))))]) dL_law_810 kv_L_97 rfl rfl (Nat.le_of_ble_eq_true rfl) (Nat.le_of_ble_eq_true rfl) (recvW hR.1 rfl rfl) (ct_X4_revel _ _ hR _) hz) (fun x130 s129 => ?_)
  refine v_icmp_eq (tgt := 1787) dL_law_813 (by decide) (fun _ => ?_) (fun _ => ?_)
  · skip
    refine v_iinc (v := (c1 + (5 : Int32))) (L' := [(3, .int (c1 + (5 : Int32))), (0, .ref 5000), (1, .ref 0), (2, .ref 53)]) dL_law_1787 rfl rfl (by decide) rfl ?_
    refine v_goto (tgt := 18) dL_law_1790 (by decide) ?_
    exact v_pick [1, 2, 3, 0] rfl (hrec _ _)
  refine v_iconst (v := 0) dL_law_816 (by decide +kernel) ?_
  exact v_ret (ty := .boolean) dL_law_817 rfl rfl (by decide +kernel)
set_option maxHeartbeats 20000000 in
set_option maxRecDepth 100000 in
theorem wc_L_19 {SH : SHT} (hO : isOaths SH 0) (hR : isModel SH 53) (rec : Int32 → St → Option (Int32 × St)) (hrec : ∀ (c1 : Int32) (s2 : St), VF mL_law 200 SH jI 18 [(0, .ref 5000), (1, .ref 0), (2, .ref 53), (3, .int c1)] [] s2 (rec c1 s2)) (c1 : Int32) (s2 : St) : VF mL_law 200 SH jI 818 [(0, .ref 5000), (1, .ref 0), (2, .ref 53), (3, .int c1)] [] s2 (gd (ib (c1 + (1 : Int32)) SH.2.1) (cp (f_X3_state 0 (SH.2.2 (ix (c1 + (1 : Int32)))) s2) fun x132 => gd (ib (c1 + (1 : Int32)) SH.2.1) (cp (f_X4_state 53 (SH.2.2 (ix (c1 + (1 : Int32)))) s2) fun x134 => (if x132 = x134 then rec (c1 + (5 : Int32)) s2 else some ((0 : Int32), s2))))) := by
  refine v_aload_n dL_law_818 rfl rfl ?_
  refine v_aload_n dL_law_819 rfl rfl ?_
  refine v_iload_n dL_law_820 rfl rfl ?_
  refine v_iconst (v := 1) dL_law_821 (by decide +kernel) ?_
  refine v_iadd dL_law_822 ?_
  refine v_gd (fun g131 => ?_)
  refine v_sld dL_law_823 g131 ?_
  refine v_cpI (fun z hz => runV (as := [.int (SH.2.2 (ix (c1 + (1 : Int32))))]) dL_law_824 kv_L_98 rfl rfl (Nat.le_of_ble_eq_true rfl) (Nat.le_of_ble_eq_true rfl) (recvW hO.1 rfl rfl) (ct_X3_state _ _ hO _) hz) (fun x132 => ?_)
  refine v_aload_n dL_law_827 rfl rfl ?_
  refine v_aload_n dL_law_828 rfl rfl ?_
  refine v_iload_n dL_law_829 rfl rfl ?_
  refine v_iconst (v := 1) dL_law_830 (by decide +kernel) ?_
  refine v_iadd dL_law_831 ?_
  refine v_gd (fun g133 => ?_)
  refine v_sld dL_law_832 g133 ?_
  refine v_cpI (fun z hz => runV (as := [.int (SH.2.2 (ix (c1 + (1 : Int32))))]) dL_law_833 kv_L_101 rfl rfl (Nat.le_of_ble_eq_true rfl) (Nat.le_of_ble_eq_true rfl) (recvW hR.1 rfl rfl) (ct_X4_state _ _ hR _) hz) (fun x134 => ?_)
  refine v_icmp_eq (tgt := 1787) dL_law_836 (by decide) (fun _ => ?_) (fun _ => ?_)
  · skip
    refine v_iinc (v := (c1 + (5 : Int32))) (L' := [(3, .int (c1 + (5 : Int32))), (0, .ref 5000), (1, .ref 0), (2, .ref 53)]) dL_law_1787 rfl rfl (by decide) rfl ?_
    refine v_goto (tgt := 18) dL_law_1790 (by decide) ?_
    exact v_pick [1, 2, 3, 0] rfl (hrec _ _)
  refine v_iconst (v := 0) dL_law_839 (by decide +kernel) ?_
  exact v_ret (ty := .boolean) dL_law_840 rfl rfl (by decide +kernel)
set_option maxHeartbeats 20000000 in
set_option maxRecDepth 100000 in
theorem wc_L_20 {SH : SHT} (hO : isOaths SH 0) (hR : isModel SH 53) (rec : Int32 → St → Option (Int32 × St)) (hrec : ∀ (c1 : Int32) (s2 : St), VF mL_law 200 SH jI 18 [(0, .ref 5000), (1, .ref 0), (2, .ref 53), (3, .int c1)] [] s2 (rec c1 s2)) (c1 : Int32) (s2 : St) : VF mL_law 200 SH jI 841 [(0, .ref 5000), (1, .ref 0), (2, .ref 53), (3, .int c1)] [] s2 (gd (ib (c1 + (1 : Int32)) SH.2.1) (gd (ib (c1 + (2 : Int32)) SH.2.1) (cb (f_X3_level 0 (SH.2.2 (ix (c1 + (1 : Int32)))) (SH.2.2 (ix (c1 + (2 : Int32)))) s2) fun x138 s137 => gd (ib (c1 + (1 : Int32)) SH.2.1) (gd (ib (c1 + (2 : Int32)) SH.2.1) (cb (f_X4_level 53 (SH.2.2 (ix (c1 + (1 : Int32)))) (SH.2.2 (ix (c1 + (2 : Int32)))) s137) fun x142 s141 => (if x138 = x142 then rec (c1 + (5 : Int32)) s141 else some ((0 : Int32), s141))))))) := by
  refine v_aload_n dL_law_841 rfl rfl ?_
  refine v_aload_n dL_law_842 rfl rfl ?_
  refine v_iload_n dL_law_843 rfl rfl ?_
  refine v_iconst (v := 1) dL_law_844 (by decide +kernel) ?_
  refine v_iadd dL_law_845 ?_
  refine v_gd (fun g135 => ?_)
  refine v_sld dL_law_846 g135 ?_
  refine v_aload_n dL_law_847 rfl rfl ?_
  refine v_iload_n dL_law_848 rfl rfl ?_
  refine v_iconst (v := 2) dL_law_849 (by decide +kernel) ?_
  refine v_iadd dL_law_850 ?_
  refine v_gd (fun g136 => ?_)
  refine v_sld dL_law_851 g136 ?_
  refine v_cbI (fun z hz => runV (as := [.int (SH.2.2 (ix (c1 + (1 : Int32)))), .int (SH.2.2 (ix (c1 + (2 : Int32))))]) dL_law_852 kv_L_102 rfl rfl (Nat.le_of_ble_eq_true rfl) (Nat.le_of_ble_eq_true rfl) (recvW hO.1 rfl rfl) (ct_X3_level _ _ _ hO _) hz) (fun x138 s137 => ?_)
  refine v_aload_n dL_law_855 rfl rfl ?_
  refine v_aload_n dL_law_856 rfl rfl ?_
  refine v_iload_n dL_law_857 rfl rfl ?_
  refine v_iconst (v := 1) dL_law_858 (by decide +kernel) ?_
  refine v_iadd dL_law_859 ?_
  refine v_gd (fun g139 => ?_)
  refine v_sld dL_law_860 g139 ?_
  refine v_aload_n dL_law_861 rfl rfl ?_
  refine v_iload_n dL_law_862 rfl rfl ?_
  refine v_iconst (v := 2) dL_law_863 (by decide +kernel) ?_
  refine v_iadd dL_law_864 ?_
  refine v_gd (fun g140 => ?_)
  refine v_sld dL_law_865 g140 ?_
  refine v_cbI (fun z hz => runV (as := [.int (SH.2.2 (ix (c1 + (1 : Int32)))), .int (SH.2.2 (ix (c1 + (2 : Int32))))]) dL_law_866 kv_L_105 rfl rfl (Nat.le_of_ble_eq_true rfl) (Nat.le_of_ble_eq_true rfl) (recvW hR.1 rfl rfl) (ct_X4_level _ _ _ hR _) hz) (fun x142 s141 => ?_)
  refine v_icmp_eq (tgt := 1787) dL_law_869 (by decide) (fun _ => ?_) (fun _ => ?_)
  · skip
    refine v_iinc (v := (c1 + (5 : Int32))) (L' := [(3, .int (c1 + (5 : Int32))), (0, .ref 5000), (1, .ref 0), (2, .ref 53)]) dL_law_1787 rfl rfl (by decide) rfl ?_
    refine v_goto (tgt := 18) dL_law_1790 (by decide) ?_
    exact v_pick [1, 2, 3, 0] rfl (hrec _ _)
  refine v_iconst (v := 0) dL_law_872 (by decide +kernel) ?_
  exact v_ret (ty := .boolean) dL_law_873 rfl rfl (by decide +kernel)
set_option maxHeartbeats 20000000 in
set_option maxRecDepth 100000 in
theorem wc_L_21 {SH : SHT} (hO : isOaths SH 0) (hR : isModel SH 53) (rec : Int32 → St → Option (Int32 × St)) (hrec : ∀ (c1 : Int32) (s2 : St), VF mL_law 200 SH jI 18 [(0, .ref 5000), (1, .ref 0), (2, .ref 53), (3, .int c1)] [] s2 (rec c1 s2)) (c1 : Int32) (s2 : St) : VF mL_law 200 SH jI 874 [(0, .ref 5000), (1, .ref 0), (2, .ref 53), (3, .int c1)] [] s2 (gd (ib (c1 + (1 : Int32)) SH.2.1) (cb (f_X3_damp 0 (SH.2.2 (ix (c1 + (1 : Int32)))) s2) fun x145 s144 => gd (ib (c1 + (1 : Int32)) SH.2.1) (cb (f_X4_damp 53 (SH.2.2 (ix (c1 + (1 : Int32)))) s144) fun x148 s147 => (if x145 = x148 then rec (c1 + (5 : Int32)) s147 else some ((0 : Int32), s147))))) := by
  refine v_aload_n dL_law_874 rfl rfl ?_
  refine v_aload_n dL_law_875 rfl rfl ?_
  refine v_iload_n dL_law_876 rfl rfl ?_
  refine v_iconst (v := 1) dL_law_877 (by decide +kernel) ?_
  refine v_iadd dL_law_878 ?_
  refine v_gd (fun g143 => ?_)
  refine v_sld dL_law_879 g143 ?_
  refine v_cbI (fun z hz => runV (as := [.int (SH.2.2 (ix (c1 + (1 : Int32))))]) dL_law_880 kv_L_106 rfl rfl (Nat.le_of_ble_eq_true rfl) (Nat.le_of_ble_eq_true rfl) (recvW hO.1 rfl rfl) (ct_X3_damp _ _ hO _) hz) (fun x145 s144 => ?_)
  refine v_aload_n dL_law_883 rfl rfl ?_
  refine v_aload_n dL_law_884 rfl rfl ?_
  refine v_iload_n dL_law_885 rfl rfl ?_
  refine v_iconst (v := 1) dL_law_886 (by decide +kernel) ?_
  refine v_iadd dL_law_887 ?_
  refine v_gd (fun g146 => ?_)
  refine v_sld dL_law_888 g146 ?_
  refine v_cbI (fun z hz => runV (as := [.int (SH.2.2 (ix (c1 + (1 : Int32))))]) dL_law_889 kv_L_109 rfl rfl (Nat.le_of_ble_eq_true rfl) (Nat.le_of_ble_eq_true rfl) (recvW hR.1 rfl rfl) (ct_X4_damp _ _ hR _) hz) (fun x148 s147 => ?_)
  refine v_icmp_eq (tgt := 1787) dL_law_892 (by decide) (fun _ => ?_) (fun _ => ?_)
  · skip
    refine v_iinc (v := (c1 + (5 : Int32))) (L' := [(3, .int (c1 + (5 : Int32))), (0, .ref 5000), (1, .ref 0), (2, .ref 53)]) dL_law_1787 rfl rfl (by decide) rfl ?_
    refine v_goto (tgt := 18) dL_law_1790 (by decide) ?_
    exact v_pick [1, 2, 3, 0] rfl (hrec _ _)
  refine v_iconst (v := 0) dL_law_895 (by decide +kernel) ?_
  exact v_ret (ty := .boolean) dL_law_896 rfl rfl (by decide +kernel)
set_option maxHeartbeats 20000000 in
set_option maxRecDepth 100000 in
theorem wc_L_22 {SH : SHT} (hO : isOaths SH 0) (hR : isModel SH 53) (rec : Int32 → St → Option (Int32 × St)) (hrec : ∀ (c1 : Int32) (s2 : St), VF mL_law 200 SH jI 18 [(0, .ref 5000), (1, .ref 0), (2, .ref 53), (3, .int c1)] [] s2 (rec c1 s2)) (c1 : Int32) (s2 : St) : VF mL_law 200 SH jI 897 [(0, .ref 5000), (1, .ref 0), (2, .ref 53), (3, .int c1)] [] s2 (gd (ib (c1 + (1 : Int32)) SH.2.1) (cb (f_X3_loss 0 (SH.2.2 (ix (c1 + (1 : Int32)))) s2) fun x151 s150 => gd (ib (c1 + (1 : Int32)) SH.2.1) (cb (f_X4_loss 53 (SH.2.2 (ix (c1 + (1 : Int32)))) s150) fun x154 s153 => (if x151 = x154 then rec (c1 + (5 : Int32)) s153 else some ((0 : Int32), s153))))) := by
  refine v_aload_n dL_law_897 rfl rfl ?_
  refine v_aload_n dL_law_898 rfl rfl ?_
  refine v_iload_n dL_law_899 rfl rfl ?_
  refine v_iconst (v := 1) dL_law_900 (by decide +kernel) ?_
  refine v_iadd dL_law_901 ?_
  refine v_gd (fun g149 => ?_)
  refine v_sld dL_law_902 g149 ?_
  refine v_cbI (fun z hz => runV (as := [.int (SH.2.2 (ix (c1 + (1 : Int32))))]) dL_law_903 kv_L_110 rfl rfl (Nat.le_of_ble_eq_true rfl) (Nat.le_of_ble_eq_true rfl) (recvW hO.1 rfl rfl) (ct_X3_loss _ _ hO _) hz) (fun x151 s150 => ?_)
  refine v_aload_n dL_law_906 rfl rfl ?_
  refine v_aload_n dL_law_907 rfl rfl ?_
  refine v_iload_n dL_law_908 rfl rfl ?_
  refine v_iconst (v := 1) dL_law_909 (by decide +kernel) ?_
  refine v_iadd dL_law_910 ?_
  refine v_gd (fun g152 => ?_)
  refine v_sld dL_law_911 g152 ?_
  refine v_cbI (fun z hz => runV (as := [.int (SH.2.2 (ix (c1 + (1 : Int32))))]) dL_law_912 kv_L_113 rfl rfl (Nat.le_of_ble_eq_true rfl) (Nat.le_of_ble_eq_true rfl) (recvW hR.1 rfl rfl) (ct_X4_loss _ _ hR _) hz) (fun x154 s153 => ?_)
  refine v_icmp_eq (tgt := 1787) dL_law_915 (by decide) (fun _ => ?_) (fun _ => ?_)
  · skip
    refine v_iinc (v := (c1 + (5 : Int32))) (L' := [(3, .int (c1 + (5 : Int32))), (0, .ref 5000), (1, .ref 0), (2, .ref 53)]) dL_law_1787 rfl rfl (by decide) rfl ?_
    refine v_goto (tgt := 18) dL_law_1790 (by decide) ?_
    exact v_pick [1, 2, 3, 0] rfl (hrec _ _)
  refine v_iconst (v := 0) dL_law_918 (by decide +kernel) ?_
  exact v_ret (ty := .boolean) dL_law_919 rfl rfl (by decide +kernel)
set_option maxHeartbeats 20000000 in
set_option maxRecDepth 100000 in
theorem wc_L_23 {SH : SHT} (hO : isOaths SH 0) (hR : isModel SH 53) (rec : Int32 → St → Option (Int32 × St)) (hrec : ∀ (c1 : Int32) (s2 : St), VF mL_law 200 SH jI 18 [(0, .ref 5000), (1, .ref 0), (2, .ref 53), (3, .int c1)] [] s2 (rec c1 s2)) (c1 : Int32) (s2 : St) : VF mL_law 200 SH jI 920 [(0, .ref 5000), (1, .ref 0), (2, .ref 53), (3, .int c1)] [] s2 (cb (f_X3_drowned 0 s2) fun x156 s155 => cb (f_X4_drowned 53 s155) fun x158 s157 => (if x156 = x158 then rec (c1 + (5 : Int32)) s157 else some ((0 : Int32), s157))) := by
  refine v_aload_n dL_law_920 rfl rfl ?_
  refine v_cbI (fun z hz => runV (as := []) dL_law_921 kv_L_114 rfl rfl (Nat.le_of_ble_eq_true rfl) (Nat.le_of_ble_eq_true rfl) (recvW hO.1 rfl rfl) (ct_X3_drowned _ hO _) hz) (fun x156 s155 => ?_)
  refine v_aload_n dL_law_924 rfl rfl ?_
  refine v_cbI (fun z hz => runV (as := []) dL_law_925 kv_L_117 rfl rfl (Nat.le_of_ble_eq_true rfl) (Nat.le_of_ble_eq_true rfl) (recvW hR.1 rfl rfl) (ct_X4_drowned _ hR _) hz) (fun x158 s157 => ?_)
  refine v_icmp_eq (tgt := 1787) dL_law_928 (by decide) (fun _ => ?_) (fun _ => ?_)
  · skip
    refine v_iinc (v := (c1 + (5 : Int32))) (L' := [(3, .int (c1 + (5 : Int32))), (0, .ref 5000), (1, .ref 0), (2, .ref 53)]) dL_law_1787 rfl rfl (by decide) rfl ?_
    refine v_goto (tgt := 18) dL_law_1790 (by decide) ?_
    exact v_pick [1, 2, 3, 0] rfl (hrec _ _)
  refine v_iconst (v := 0) dL_law_931 (by decide +kernel) ?_
  exact v_ret (ty := .boolean) dL_law_932 rfl rfl (by decide +kernel)
