set_option maxHeartbeats 20000000 in
set_option maxRecDepth 100000 in
theorem wB_L_law_18 {SH : SHT} (hO : isOaths SH 0) (hR : isModel SH 53) (rec : Int32 → St → Option (Int32 × St)) (hrec : ∀ (c1 : Int32) (s2 : St), VF mL_law 200 SH jI 18 [(0, .ref 5000), (1, .ref 0), (2, .ref 53), (3, .int c1)] [] s2 (rec c1 s2)) (c1 : Int32) (s2 : St) : VF mL_law 200 SH jI 18 [(0, .ref 5000), (1, .ref 0), (2, .ref 53), (3, .int c1)] [] s2 (B_L_law_18 rec SH c1 s2) := by
  unfold B_L_law_18
  refine v_iload_n dL_law_18 rfl rfl ?_
  refine v_aload_n dL_law_19 rfl rfl ?_
  refine v_slen dL_law_20 ?_
  refine v_iconst (v := 5) dL_law_21 (by decide +kernel) ?_
  refine v_isub dL_law_22 ?_
  refine v_icmp_gt (tgt := 1793) dL_law_23 (by decide) (fun _ => ?_) (fun _ => ?_)
  · skip
    refine v_iconst (v := 1) dL_law_1793 (by decide +kernel) ?_
    exact v_ret (ty := .boolean) dL_law_1794 rfl rfl (by decide +kernel)
  refine v_aload_n dL_law_26 rfl rfl ?_
  refine v_iload_n dL_law_27 rfl rfl ?_
  refine v_gd (fun g3 => ?_)
  refine v_sld dL_law_28 g3 ?_
  refine v_bipush (v := 63) dL_law_29 (by decide +kernel) ?_
  refine v_iand dL_law_31 ?_
  refine v_topi (fun x4 => ?_)
  refine v_tsw (cs := [(0, 240), (1, 303), (2, 316), (3, 349), (4, 372), (5, 425), (6, 458), (7, 481), (8, 524), (9, 557), (10, 590), (11, 623), (12, 646), (13, 679), (14, 712), (15, 736), (16, 759), (17, 782), (18, 795), (19, 818), (20, 841), (21, 874), (22, 897), (23, 920), (24, 933), (25, 976), (26, 1019), (27, 1062), (28, 1095), (29, 1128), (30, 1151), (31, 1204), (32, 1248), (33, 1282), (34, 1315), (35, 1348), (36, 1391), (37, 1414), (38, 1467), (39, 1510), (40, 1553), (41, 1596), (42, 1639), (43, 1672), (44, 1715), (45, 1738), (46, 1761), (47, 1774)]) (dt := 1787) dL_law_32 (by decide +kernel) (by decide) (by decide +kernel) ?_
  refine v_swc (fun _ => ?_) (fun _ => ?_)
  · exact wc_L_0 hO hR rec hrec c1 s2
  refine v_swc (fun _ => ?_) (fun _ => ?_)
  · exact wc_L_1 hO hR rec hrec c1 s2
  refine v_swc (fun _ => ?_) (fun _ => ?_)
  · exact wc_L_2 hO hR rec hrec c1 s2
  refine v_swc (fun _ => ?_) (fun _ => ?_)
  · exact wc_L_3 hO hR rec hrec c1 s2
  refine v_swc (fun _ => ?_) (fun _ => ?_)
  · exact wc_L_4 hO hR rec hrec c1 s2
  refine v_swc (fun _ => ?_) (fun _ => ?_)
  · exact wc_L_5 hO hR rec hrec c1 s2
  refine v_swc (fun _ => ?_) (fun _ => ?_)
  · exact wc_L_6 hO hR rec hrec c1 s2
  refine v_swc (fun _ => ?_) (fun _ => ?_)
  · exact wc_L_7 hO hR rec hrec c1 s2
  refine v_swc (fun _ => ?_) (fun _ => ?_)
  · exact wc_L_8 hO hR rec hrec c1 s2
  refine v_swc (fun _ => ?_) (fun _ => ?_)
  · exact wc_L_9 hO hR rec hrec c1 s2
  refine v_swc (fun _ => ?_) (fun _ => ?_)
  · exact wc_L_10 hO hR rec hrec c1 s2
  refine v_swc (fun _ => ?_) (fun _ => ?_)
  · exact wc_L_11 hO hR rec hrec c1 s2
  refine v_swc (fun _ => ?_) (fun _ => ?_)
  · exact wc_L_12 hO hR rec hrec c1 s2
  refine v_swc (fun _ => ?_) (fun _ => ?_)
  · exact wc_L_13 hO hR rec hrec c1 s2
  refine v_swc (fun _ => ?_) (fun _ => ?_)
  · exact wc_L_14 hO hR rec hrec c1 s2
  refine v_swc (fun _ => ?_) (fun _ => ?_)
  · exact wc_L_15 hO hR rec hrec c1 s2
  refine v_swc (fun _ => ?_) (fun _ => ?_)
  · exact wc_L_16 hO hR rec hrec c1 s2
  refine v_swc (fun _ => ?_) (fun _ => ?_)
  · exact wc_L_17 hO hR rec hrec c1 s2
  refine v_swc (fun _ => ?_) (fun _ => ?_)
  · exact wc_L_18 hO hR rec hrec c1 s2
  refine v_swc (fun _ => ?_) (fun _ => ?_)
  · exact wc_L_19 hO hR rec hrec c1 s2
  refine v_swc (fun _ => ?_) (fun _ => ?_)
  · exact wc_L_20 hO hR rec hrec c1 s2
  refine v_swc (fun _ => ?_) (fun _ => ?_)
  · exact wc_L_21 hO hR rec hrec c1 s2
  refine v_swc (fun _ => ?_) (fun _ => ?_)
  · exact wc_L_22 hO hR rec hrec c1 s2
  refine v_swc (fun _ => ?_) (fun _ => ?_)
  · exact wc_L_23 hO hR rec hrec c1 s2
  refine v_swc (fun _ => ?_) (fun _ => ?_)
  · exact wc_L_24 hO hR rec hrec c1 s2
  refine v_swc (fun _ => ?_) (fun _ => ?_)
  · exact wc_L_25 hO hR rec hrec c1 s2
  refine v_swc (fun _ => ?_) (fun _ => ?_)
  · exact wc_L_26 hO hR rec hrec c1 s2
  refine v_swc (fun _ => ?_) (fun _ => ?_)
  · exact wc_L_27 hO hR rec hrec c1 s2
  refine v_swc (fun _ => ?_) (fun _ => ?_)
  · exact wc_L_28 hO hR rec hrec c1 s2
  refine v_swc (fun _ => ?_) (fun _ => ?_)
  · exact wc_L_29 hO hR rec hrec c1 s2
  refine v_swc (fun _ => ?_) (fun _ => ?_)
  · exact wc_L_30 hO hR rec hrec c1 s2
  refine v_swc (fun _ => ?_) (fun _ => ?_)
  · exact wc_L_31 hO hR rec hrec c1 s2
  refine v_swc (fun _ => ?_) (fun _ => ?_)
  · exact wc_L_32 hO hR rec hrec c1 s2
  refine v_swc (fun _ => ?_) (fun _ => ?_)
  · exact wc_L_33 hO hR rec hrec c1 s2
  refine v_swc (fun _ => ?_) (fun _ => ?_)
  · exact wc_L_34 hO hR rec hrec c1 s2
  refine v_swc (fun _ => ?_) (fun _ => ?_)
  · exact wc_L_35 hO hR rec hrec c1 s2
  refine v_swc (fun _ => ?_) (fun _ => ?_)
  · exact wc_L_36 hO hR rec hrec c1 s2
  refine v_swc (fun _ => ?_) (fun _ => ?_)
  · exact wc_L_37 hO hR rec hrec c1 s2
  refine v_swc (fun _ => ?_) (fun _ => ?_)
  · exact wc_L_38 hO hR rec hrec c1 s2
  refine v_swc (fun _ => ?_) (fun _ => ?_)
  · exact wc_L_39 hO hR rec hrec c1 s2
  refine v_swc (fun _ => ?_) (fun _ => ?_)
  · exact wc_L_40 hO hR rec hrec c1 s2
  refine v_swc (fun _ => ?_) (fun _ => ?_)
  · exact wc_L_41 hO hR rec hrec c1 s2
  refine v_swc (fun _ => ?_) (fun _ => ?_)
  · exact wc_L_42 hO hR rec hrec c1 s2
  refine v_swc (fun _ => ?_) (fun _ => ?_)
  · exact wc_L_43 hO hR rec hrec c1 s2
  refine v_swc (fun _ => ?_) (fun _ => ?_)
  · exact wc_L_44 hO hR rec hrec c1 s2
  refine v_swc (fun _ => ?_) (fun _ => ?_)
  · exact wc_L_45 hO hR rec hrec c1 s2
  refine v_swc (fun _ => ?_) (fun _ => ?_)
  · exact wc_L_46 hO hR rec hrec c1 s2
  refine v_swc (fun _ => ?_) (fun _ => ?_)
  · exact wc_L_47 hO hR rec hrec c1 s2
  refine v_swn ?_
  refine v_iinc (v := (c1 + (5 : Int32))) (L' := [(3, .int (c1 + (5 : Int32))), (0, .ref 5000), (1, .ref 0), (2, .ref 53)]) dL_law_1787 rfl rfl (by decide) rfl ?_
  refine v_goto (tgt := 18) dL_law_1790 (by decide) ?_
  exact v_pick [1, 2, 3, 0] rfl (hrec _ _)
theorem wL_L_law_18 {SH : SHT} (hO : isOaths SH 0) (hR : isModel SH 53) : ∀ (n : Nat) (c1 : Int32) (s2 : St), VF mL_law 200 SH jI 18 [(0, .ref 5000), (1, .ref 0), (2, .ref 53), (3, .int c1)] [] s2 (L_L_law_18 SH n c1 s2) := by
  intro n
  induction n with
  | zero => intros; exact v_none
  | succ n ih => intro c1 s2; exact wB_L_law_18 hO hR _ ih c1 s2
set_option maxHeartbeats 20000000 in
set_option maxRecDepth 100000 in
theorem w_L_law {SH : SHT} (hO : isOaths SH 0) (hR : isModel SH 53) (s0 : St) : VF mL_law 200 SH jI 16 [(2, .ref 53), (1, .ref 0), (0, .ref 5000)] [] s0 (f_L_law SH s0) := by
  unfold f_L_law
  refine v_iconst (v := 0) dL_law_16 (by decide +kernel) ?_
  refine v_istore_n (L' := [(3, .int (0 : Int32)), (2, .ref 53), (1, .ref 0), (0, .ref 5000)]) dL_law_17 rfl (by decide) rfl ?_
  exact v_pick [3, 2, 1, 0] rfl (wL_L_law_18 hO hR FU _ _)
