set_option maxHeartbeats 20000000 in
set_option maxRecDepth 100000 in
theorem wc_L_24 {SH : SHT} (hO : isOaths SH 0) (hR : isModel SH 53) (rec : Int32 → St → Option (Int32 × St)) (hrec : ∀ (c1 : Int32) (s2 : St), VF mL_law 200 SH jI 18 [(0, .ref 5000), (1, .ref 0), (2, .ref 53), (3, .int c1)] [] s2 (rec c1 s2)) (c1 : Int32) (s2 : St) : VF mL_law 200 SH jI 933 [(0, .ref 5000), (1, .ref 0), (2, .ref 53), (3, .int c1)] [] s2 (gd (ib (c1 + (1 : Int32)) SH.2.1) (gd (ib (c1 + (2 : Int32)) SH.2.1) (gd (ib (c1 + (3 : Int32)) SH.2.1) (cb (f_X3_whereFor 0 (SH.2.2 (ix (c1 + (1 : Int32)))) (SH.2.2 (ix (c1 + (2 : Int32)))) (SH.2.2 (ix (c1 + (3 : Int32)))) s2) fun x163 s162 => gd (ib (c1 + (1 : Int32)) SH.2.1) (gd (ib (c1 + (2 : Int32)) SH.2.1) (gd (ib (c1 + (3 : Int32)) SH.2.1) (cb (f_X4_whereFor 53 (SH.2.2 (ix (c1 + (1 : Int32)))) (SH.2.2 (ix (c1 + (2 : Int32)))) (SH.2.2 (ix (c1 + (3 : Int32)))) s162) fun x168 s167 => (if x163 = x168 then rec (c1 + (5 : Int32)) s167 else some ((0 : Int32), s167))))))))) := by
  refine v_aload_n dL_law_933 rfl rfl ?_
  refine v_aload_n dL_law_934 rfl rfl ?_
  refine v_iload_n dL_law_935 rfl rfl ?_
  refine v_iconst (v := 1) dL_law_936 (by decide +kernel) ?_
  refine v_iadd dL_law_937 ?_
  refine v_gd (fun g159 => ?_)
  refine v_sld dL_law_938 g159 ?_
  refine v_aload_n dL_law_939 rfl rfl ?_
  refine v_iload_n dL_law_940 rfl rfl ?_
  refine v_iconst (v := 2) dL_law_941 (by decide +kernel) ?_
  refine v_iadd dL_law_942 ?_
  refine v_gd (fun g160 => ?_)
  refine v_sld dL_law_943 g160 ?_
  refine v_aload_n dL_law_944 rfl rfl ?_
  refine v_iload_n dL_law_945 rfl rfl ?_
  refine v_iconst (v := 3) dL_law_946 (by decide +kernel) ?_
  refine v_iadd dL_law_947 ?_
  refine v_gd (fun g161 => ?_)
  refine v_sld dL_law_948 g161 ?_
  refine v_cbI (fun z hz => runV (as := [.int (SH.2.2 (ix (c1 + (1 : Int32)))), .int (SH.2.2 (ix (c1 + (2 : Int32)))), .int (SH.2.2 (ix (c1 + (3 : Int32))))]) dL_law_949 kv_L_118 rfl rfl (Nat.le_of_ble_eq_true rfl) (Nat.le_of_ble_eq_true rfl) (recvW hO.1 rfl rfl) (ct_X3_whereFor _ _ _ _ hO _) hz) (fun x163 s162 => ?_)
  refine v_aload_n dL_law_952 rfl rfl ?_
  refine v_aload_n dL_law_953 rfl rfl ?_
  refine v_iload_n dL_law_954 rfl rfl ?_
  refine v_iconst (v := 1) dL_law_955 (by decide +kernel) ?_
  refine v_iadd dL_law_956 ?_
  refine v_gd (fun g164 => ?_)
  refine v_sld dL_law_957 g164 ?_
  refine v_aload_n dL_law_958 rfl rfl ?_
  refine v_iload_n dL_law_959 rfl rfl ?_
  refine v_iconst (v := 2) dL_law_960 (by decide +kernel) ?_
  refine v_iadd dL_law_961 ?_
  refine v_gd (fun g165 => ?_)
  refine v_sld dL_law_962 g165 ?_
  refine v_aload_n dL_law_963 rfl rfl ?_
  refine v_iload_n dL_law_964 rfl rfl ?_
  refine v_iconst (v := 3) dL_law_965 (by decide +kernel) ?_
  refine v_iadd dL_law_966 ?_
  refine v_gd (fun g166 => ?_)
  refine v_sld dL_law_967 g166 ?_
  refine v_cbI (fun z hz => runV (as := [.int (SH.2.2 (ix (c1 + (1 : Int32)))), .int (SH.2.2 (ix (c1 + (2 : Int32)))), .int (SH.2.2 (ix (c1 + (3 : Int32))))]) dL_law_968 kv_L_121 rfl rfl (Nat.le_of_ble_eq_true rfl) (Nat.le_of_ble_eq_true rfl) (recvW hR.1 rfl rfl) (ct_X4_whereFor _ _ _ _ hR _) hz) (fun x168 s167 => ?_)
  refine v_icmp_eq (tgt := 1787) dL_law_971 (by decide) (fun _ => ?_) (fun _ => ?_)
  · skip
    refine v_iinc (v := (c1 + (5 : Int32))) (L' := [(3, .int (c1 + (5 : Int32))), (0, .ref 5000), (1, .ref 0), (2, .ref 53)]) dL_law_1787 rfl rfl (by decide) rfl ?_
    refine v_goto (tgt := 18) dL_law_1790 (by decide) ?_
    exact v_pick [1, 2, 3, 0] rfl (hrec _ _)
  refine v_iconst (v := 0) dL_law_974 (by decide +kernel) ?_
  exact v_ret (ty := .boolean) dL_law_975 rfl rfl (by decide +kernel)
set_option maxHeartbeats 20000000 in
set_option maxRecDepth 100000 in
theorem wc_L_25 {SH : SHT} (hO : isOaths SH 0) (hR : isModel SH 53) (rec : Int32 → St → Option (Int32 × St)) (hrec : ∀ (c1 : Int32) (s2 : St), VF mL_law 200 SH jI 18 [(0, .ref 5000), (1, .ref 0), (2, .ref 53), (3, .int c1)] [] s2 (rec c1 s2)) (c1 : Int32) (s2 : St) : VF mL_law 200 SH jI 976 [(0, .ref 5000), (1, .ref 0), (2, .ref 53), (3, .int c1)] [] s2 (gd (ib (c1 + (1 : Int32)) SH.2.1) (gd (ib (c1 + (2 : Int32)) SH.2.1) (gd (ib (c1 + (3 : Int32)) SH.2.1) (cb (f_X3_kindFor 0 (SH.2.2 (ix (c1 + (1 : Int32)))) (SH.2.2 (ix (c1 + (2 : Int32)))) (SH.2.2 (ix (c1 + (3 : Int32)))) s2) fun x173 s172 => gd (ib (c1 + (1 : Int32)) SH.2.1) (gd (ib (c1 + (2 : Int32)) SH.2.1) (gd (ib (c1 + (3 : Int32)) SH.2.1) (cb (f_X4_kindFor 53 (SH.2.2 (ix (c1 + (1 : Int32)))) (SH.2.2 (ix (c1 + (2 : Int32)))) (SH.2.2 (ix (c1 + (3 : Int32)))) s172) fun x178 s177 => (if x173 = x178 then rec (c1 + (5 : Int32)) s177 else some ((0 : Int32), s177))))))))) := by
  refine v_aload_n dL_law_976 rfl rfl ?_
  refine v_aload_n dL_law_977 rfl rfl ?_
  refine v_iload_n dL_law_978 rfl rfl ?_
  refine v_iconst (v := 1) dL_law_979 (by decide +kernel) ?_
  refine v_iadd dL_law_980 ?_
  refine v_gd (fun g169 => ?_)
  refine v_sld dL_law_981 g169 ?_
  refine v_aload_n dL_law_982 rfl rfl ?_
  refine v_iload_n dL_law_983 rfl rfl ?_
  refine v_iconst (v := 2) dL_law_984 (by decide +kernel) ?_
  refine v_iadd dL_law_985 ?_
  refine v_gd (fun g170 => ?_)
  refine v_sld dL_law_986 g170 ?_
  refine v_aload_n dL_law_987 rfl rfl ?_
  refine v_iload_n dL_law_988 rfl rfl ?_
  refine v_iconst (v := 3) dL_law_989 (by decide +kernel) ?_
  refine v_iadd dL_law_990 ?_
  refine v_gd (fun g171 => ?_)
  refine v_sld dL_law_991 g171 ?_
  refine v_cbI (fun z hz => runV (as := [.int (SH.2.2 (ix (c1 + (1 : Int32)))), .int (SH.2.2 (ix (c1 + (2 : Int32)))), .int (SH.2.2 (ix (c1 + (3 : Int32))))]) dL_law_992 kv_L_122 rfl rfl (Nat.le_of_ble_eq_true rfl) (Nat.le_of_ble_eq_true rfl) (recvW hO.1 rfl rfl) (ct_X3_kindFor _ _ _ _ hO _) hz) (fun x173 s172 => ?_)
  refine v_aload_n dL_law_995 rfl rfl ?_
  refine v_aload_n dL_law_996 rfl rfl ?_
  refine v_iload_n dL_law_997 rfl rfl ?_
  refine v_iconst (v := 1) dL_law_998 (by decide +kernel) ?_
  refine v_iadd dL_law_999 ?_
  refine v_gd (fun g174 => ?_)
  refine v_sld dL_law_1000 g174 ?_
  refine v_aload_n dL_law_1001 rfl rfl ?_
  refine v_iload_n dL_law_1002 rfl rfl ?_
  refine v_iconst (v := 2) dL_law_1003 (by decide +kernel) ?_
  refine v_iadd dL_law_1004 ?_
  refine v_gd (fun g175 => ?_)
  refine v_sld dL_law_1005 g175 ?_
  refine v_aload_n dL_law_1006 rfl rfl ?_
  refine v_iload_n dL_law_1007 rfl rfl ?_
  refine v_iconst (v := 3) dL_law_1008 (by decide +kernel) ?_
  refine v_iadd dL_law_1009 ?_
  refine v_gd (fun g176 => ?_)
  refine v_sld dL_law_1010 g176 ?_
  refine v_cbI (fun z hz => runV (as := [.int (SH.2.2 (ix (c1 + (1 : Int32)))), .int (SH.2.2 (ix (c1 + (2 : Int32)))), .int (SH.2.2 (ix (c1 + (3 : Int32))))]) dL_law_1011 kv_L_125 rfl rfl (Nat.le_of_ble_eq_true rfl) (Nat.le_of_ble_eq_true rfl) (recvW hR.1 rfl rfl) (ct_X4_kindFor _ _ _ _ hR _) hz) (fun x178 s177 => ?_)
  refine v_icmp_eq (tgt := 1787) dL_law_1014 (by decide) (fun _ => ?_) (fun _ => ?_)
  · skip
    refine v_iinc (v := (c1 + (5 : Int32))) (L' := [(3, .int (c1 + (5 : Int32))), (0, .ref 5000), (1, .ref 0), (2, .ref 53)]) dL_law_1787 rfl rfl (by decide) rfl ?_
    refine v_goto (tgt := 18) dL_law_1790 (by decide) ?_
    exact v_pick [1, 2, 3, 0] rfl (hrec _ _)
  refine v_iconst (v := 0) dL_law_1017 (by decide +kernel) ?_
  exact v_ret (ty := .boolean) dL_law_1018 rfl rfl (by decide +kernel)
set_option maxHeartbeats 20000000 in
set_option maxRecDepth 100000 in
theorem wc_L_26 {SH : SHT} (hO : isOaths SH 0) (hR : isModel SH 53) (rec : Int32 → St → Option (Int32 × St)) (hrec : ∀ (c1 : Int32) (s2 : St), VF mL_law 200 SH jI 18 [(0, .ref 5000), (1, .ref 0), (2, .ref 53), (3, .int c1)] [] s2 (rec c1 s2)) (c1 : Int32) (s2 : St) : VF mL_law 200 SH jI 1019 [(0, .ref 5000), (1, .ref 0), (2, .ref 53), (3, .int c1)] [] s2 (gd (ib (c1 + (1 : Int32)) SH.2.1) (gd (ib (c1 + (2 : Int32)) SH.2.1) (gd (ib (c1 + (3 : Int32)) SH.2.1) (cb (f_X3_annoyed 0 (SH.2.2 (ix (c1 + (1 : Int32)))) (SH.2.2 (ix (c1 + (2 : Int32)))) (SH.2.2 (ix (c1 + (3 : Int32)))) s2) fun x183 s182 => gd (ib (c1 + (1 : Int32)) SH.2.1) (gd (ib (c1 + (2 : Int32)) SH.2.1) (gd (ib (c1 + (3 : Int32)) SH.2.1) (cb (f_X4_annoyed 53 (SH.2.2 (ix (c1 + (1 : Int32)))) (SH.2.2 (ix (c1 + (2 : Int32)))) (SH.2.2 (ix (c1 + (3 : Int32)))) s182) fun x188 s187 => (if x183 = x188 then rec (c1 + (5 : Int32)) s187 else some ((0 : Int32), s187))))))))) := by
  refine v_aload_n dL_law_1019 rfl rfl ?_
  refine v_aload_n dL_law_1020 rfl rfl ?_
  refine v_iload_n dL_law_1021 rfl rfl ?_
  refine v_iconst (v := 1) dL_law_1022 (by decide +kernel) ?_
  refine v_iadd dL_law_1023 ?_
  refine v_gd (fun g179 => ?_)
  refine v_sld dL_law_1024 g179 ?_
  refine v_aload_n dL_law_1025 rfl rfl ?_
  refine v_iload_n dL_law_1026 rfl rfl ?_
  refine v_iconst (v := 2) dL_law_1027 (by decide +kernel) ?_
  refine v_iadd dL_law_1028 ?_
  refine v_gd (fun g180 => ?_)
  refine v_sld dL_law_1029 g180 ?_
  refine v_aload_n dL_law_1030 rfl rfl ?_
  refine v_iload_n dL_law_1031 rfl rfl ?_
  refine v_iconst (v := 3) dL_law_1032 (by decide +kernel) ?_
  refine v_iadd dL_law_1033 ?_
  refine v_gd (fun g181 => ?_)
  refine v_sld dL_law_1034 g181 ?_
  refine v_cbI (fun z hz => runV (as := [.int (SH.2.2 (ix (c1 + (1 : Int32)))), .int (SH.2.2 (ix (c1 + (2 : Int32)))), .int (SH.2.2 (ix (c1 + (3 : Int32))))]) dL_law_1035 kv_L_126 rfl rfl (Nat.le_of_ble_eq_true rfl) (Nat.le_of_ble_eq_true rfl) (recvW hO.1 rfl rfl) (ct_X3_annoyed _ _ _ _ hO _) hz) (fun x183 s182 => ?_)
  refine v_aload_n dL_law_1038 rfl rfl ?_
  refine v_aload_n dL_law_1039 rfl rfl ?_
  refine v_iload_n dL_law_1040 rfl rfl ?_
  refine v_iconst (v := 1) dL_law_1041 (by decide +kernel) ?_
  refine v_iadd dL_law_1042 ?_
  refine v_gd (fun g184 => ?_)
  refine v_sld dL_law_1043 g184 ?_
  refine v_aload_n dL_law_1044 rfl rfl ?_
  refine v_iload_n dL_law_1045 rfl rfl ?_
  refine v_iconst (v := 2) dL_law_1046 (by decide +kernel) ?_
  refine v_iadd dL_law_1047 ?_
  refine v_gd (fun g185 => ?_)
  refine v_sld dL_law_1048 g185 ?_
  refine v_aload_n dL_law_1049 rfl rfl ?_
  refine v_iload_n dL_law_1050 rfl rfl ?_
  refine v_iconst (v := 3) dL_law_1051 (by decide +kernel) ?_
  refine v_iadd dL_law_1052 ?_
  refine v_gd (fun g186 => ?_)
  refine v_sld dL_law_1053 g186 ?_
  refine v_cbI (fun z hz => runV (as := [.int (SH.2.2 (ix (c1 + (1 : Int32)))), .int (SH.2.2 (ix (c1 + (2 : Int32)))), .int (SH.2.2 (ix (c1 + (3 : Int32))))]) dL_law_1054 kv_L_129 rfl rfl (Nat.le_of_ble_eq_true rfl) (Nat.le_of_ble_eq_true rfl) (recvW hR.1 rfl rfl) (ct_X4_annoyed _ _ _ _ hR _) hz) (fun x188 s187 => ?_)
  refine v_icmp_eq (tgt := 1787) dL_law_1057 (by decide) (fun _ => ?_) (fun _ => ?_)
  · skip
    refine v_iinc (v := (c1 + (5 : Int32))) (L' := [(3, .int (c1 + (5 : Int32))), (0, .ref 5000), (1, .ref 0), (2, .ref 53)]) dL_law_1787 rfl rfl (by decide) rfl ?_
    refine v_goto (tgt := 18) dL_law_1790 (by decide) ?_
    exact v_pick [1, 2, 3, 0] rfl (hrec _ _)
  refine v_iconst (v := 0) dL_law_1060 (by decide +kernel) ?_
  exact v_ret (ty := .boolean) dL_law_1061 rfl rfl (by decide +kernel)
set_option maxHeartbeats 20000000 in
set_option maxRecDepth 100000 in
theorem wc_L_27 {SH : SHT} (hO : isOaths SH 0) (hR : isModel SH 53) (rec : Int32 → St → Option (Int32 × St)) (hrec : ∀ (c1 : Int32) (s2 : St), VF mL_law 200 SH jI 18 [(0, .ref 5000), (1, .ref 0), (2, .ref 53), (3, .int c1)] [] s2 (rec c1 s2)) (c1 : Int32) (s2 : St) : VF mL_law 200 SH jI 1062 [(0, .ref 5000), (1, .ref 0), (2, .ref 53), (3, .int c1)] [] s2 (gd (ib (c1 + (1 : Int32)) SH.2.1) (gd (ib (c1 + (2 : Int32)) SH.2.1) (cb (f_X3_needed 0 (SH.2.2 (ix (c1 + (1 : Int32)))) (SH.2.2 (ix (c1 + (2 : Int32)))) s2) fun x192 s191 => gd (ib (c1 + (1 : Int32)) SH.2.1) (gd (ib (c1 + (2 : Int32)) SH.2.1) (cb (f_X4_needed 53 (SH.2.2 (ix (c1 + (1 : Int32)))) (SH.2.2 (ix (c1 + (2 : Int32)))) s191) fun x196 s195 => (if x192 = x196 then rec (c1 + (5 : Int32)) s195 else some ((0 : Int32), s195))))))) := by
  refine v_aload_n dL_law_1062 rfl rfl ?_
  refine v_aload_n dL_law_1063 rfl rfl ?_
  refine v_iload_n dL_law_1064 rfl rfl ?_
  refine v_iconst (v := 1) dL_law_1065 (by decide +kernel) ?_
  refine v_iadd dL_law_1066 ?_
  refine v_gd (fun g189 => ?_)
  refine v_sld dL_law_1067 g189 ?_
  refine v_aload_n dL_law_1068 rfl rfl ?_
  refine v_iload_n dL_law_1069 rfl rfl ?_
  refine v_iconst (v := 2) dL_law_1070 (by decide +kernel) ?_
  refine v_iadd dL_law_1071 ?_
  refine v_gd (fun g190 => ?_)
  refine v_sld dL_law_1072 g190 ?_
  refine v_cbI (fun z hz => runV (as := [.int (SH.2.2 (ix (c1 + (1 : Int32)))), .int (SH.2.2 (ix (c1 + (2 : Int32))))]) dL_law_1073 kv_L_130 rfl rfl (Nat.le_of_ble_eq_true rfl) (Nat.le_of_ble_eq_true rfl) (recvW hO.1 rfl rfl) (ct_X3_needed _ _ _ hO _) hz) (fun x192 s191 => ?_)
  refine v_aload_n dL_law_1076 rfl rfl ?_
  refine v_aload_n dL_law_1077 rfl rfl ?_
  refine v_iload_n dL_law_1078 rfl rfl ?_
  refine v_iconst (v := 1) dL_law_1079 (by decide +kernel) ?_
  refine v_iadd dL_law_1080 ?_
  refine v_gd (fun g193 => ?_)
  refine v_sld dL_law_1081 g193 ?_
  refine v_aload_n dL_law_1082 rfl rfl ?_
  refine v_iload_n dL_law_1083 rfl rfl ?_
  refine v_iconst (v := 2) dL_law_1084 (by decide +kernel) ?_
  refine v_iadd dL_law_1085 ?_
  refine v_gd (fun g194 => ?_)
  refine v_sld dL_law_1086 g194 ?_
  refine v_cbI (fun z hz => runV (as := [.int (SH.2.2 (ix (c1 + (1 : Int32)))), .int (SH.2.2 (ix (c1 + (2 : Int32))))]) dL_law_1087 kv_L_133 rfl rfl (Nat.le_of_ble_eq_true rfl) (Nat.le_of_ble_eq_true rfl) (recvW hR.1 rfl rfl) (ct_X4_needed _ _ _ hR _) hz) (fun x196 s195 => ?_)
  refine v_icmp_eq (tgt := 1787) dL_law_1090 (by decide) (fun _ => ?_) (fun _ => ?_)
  · skip
    refine v_iinc (v := (c1 + (5 : Int32))) (L' := [(3, .int (c1 + (5 : Int32))), (0, .ref 5000), (1, .ref 0), (2, .ref 53)]) dL_law_1787 rfl rfl (by decide) rfl ?_
    refine v_goto (tgt := 18) dL_law_1790 (by decide) ?_
    exact v_pick [1, 2, 3, 0] rfl (hrec _ _)
  refine v_iconst (v := 0) dL_law_1093 (by decide +kernel) ?_
  exact v_ret (ty := .boolean) dL_law_1094 rfl rfl (by decide +kernel)
set_option maxHeartbeats 20000000 in
set_option maxRecDepth 100000 in
theorem wc_L_28 {SH : SHT} (hO : isOaths SH 0) (hR : isModel SH 53) (rec : Int32 → St → Option (Int32 × St)) (hrec : ∀ (c1 : Int32) (s2 : St), VF mL_law 200 SH jI 18 [(0, .ref 5000), (1, .ref 0), (2, .ref 53), (3, .int c1)] [] s2 (rec c1 s2)) (c1 : Int32) (s2 : St) : VF mL_law 200 SH jI 1095 [(0, .ref 5000), (1, .ref 0), (2, .ref 53), (3, .int c1)] [] s2 (gd (ib (c1 + (1 : Int32)) SH.2.1) (gd (ib (c1 + (2 : Int32)) SH.2.1) (cb (f_X3_fewest 0 (SH.2.2 (ix (c1 + (1 : Int32)))) (SH.2.2 (ix (c1 + (2 : Int32)))) s2) fun x200 s199 => gd (ib (c1 + (1 : Int32)) SH.2.1) (gd (ib (c1 + (2 : Int32)) SH.2.1) (cb (f_X4_fewest 53 (SH.2.2 (ix (c1 + (1 : Int32)))) (SH.2.2 (ix (c1 + (2 : Int32)))) s199) fun x204 s203 => (if x200 = x204 then rec (c1 + (5 : Int32)) s203 else some ((0 : Int32), s203))))))) := by
  refine v_aload_n dL_law_1095 rfl rfl ?_
  refine v_aload_n dL_law_1096 rfl rfl ?_
  refine v_iload_n dL_law_1097 rfl rfl ?_
  refine v_iconst (v := 1) dL_law_1098 (by decide +kernel) ?_
  refine v_iadd dL_law_1099 ?_
  refine v_gd (fun g197 => ?_)
  refine v_sld dL_law_1100 g197 ?_
  refine v_aload_n dL_law_1101 rfl rfl ?_
  refine v_iload_n dL_law_1102 rfl rfl ?_
  refine v_iconst (v := 2) dL_law_1103 (by decide +kernel) ?_
  refine v_iadd dL_law_1104 ?_
  refine v_gd (fun g198 => ?_)
  refine v_sld dL_law_1105 g198 ?_
  refine v_cbI (fun z hz => runV (as := [.int (SH.2.2 (ix (c1 + (1 : Int32)))), .int (SH.2.2 (ix (c1 + (2 : Int32))))]) dL_law_1106 kv_L_134 rfl rfl (Nat.le_of_ble_eq_true rfl) (Nat.le_of_ble_eq_true rfl) (recvW hO.1 rfl rfl) (ct_X3_fewest _ _ _ hO _) hz) (fun x200 s199 => ?_)
  refine v_aload_n dL_law_1109 rfl rfl ?_
  refine v_aload_n dL_law_1110 rfl rfl ?_
  refine v_iload_n dL_law_1111 rfl rfl ?_
  refine v_iconst (v := 1) dL_law_1112 (by decide +kernel) ?_
  refine v_iadd dL_law_1113 ?_
  refine v_gd (fun g201 => ?_)
  refine v_sld dL_law_1114 g201 ?_
  refine v_aload_n dL_law_1115 rfl rfl ?_
  refine v_iload_n dL_law_1116 rfl rfl ?_
  refine v_iconst (v := 2) dL_law_1117 (by decide +kernel) ?_
  refine v_iadd dL_law_1118 ?_
  refine v_gd (fun g202 => ?_)
  refine v_sld dL_law_1119 g202 ?_
  refine v_cbI (fun z hz => runV (as := [.int (SH.2.2 (ix (c1 + (1 : Int32)))), .int (SH.2.2 (ix (c1 + (2 : Int32))))]) dL_law_1120 kv_L_137 rfl rfl (Nat.le_of_ble_eq_true rfl) (Nat.le_of_ble_eq_true rfl) (recvW hR.1 rfl rfl) (ct_X4_fewest _ _ _ hR _) hz) (fun x204 s203 => ?_)
  refine v_icmp_eq (tgt := 1787) dL_law_1123 (by decide) (fun _ => ?_) (fun _ => ?_)
  · skip
    refine v_iinc (v := (c1 + (5 : Int32))) (L' := [(3, .int (c1 + (5 : Int32))), (0, .ref 5000), (1, .ref 0), (2, .ref 53)]) dL_law_1787 rfl rfl (by decide) rfl ?_
    refine v_goto (tgt := 18) dL_law_1790 (by decide) ?_
    exact v_pick [1, 2, 3, 0] rfl (hrec _ _)
  refine v_iconst (v := 0) dL_law_1126 (by decide +kernel) ?_
  exact v_ret (ty := .boolean) dL_law_1127 rfl rfl (by decide +kernel)
set_option maxHeartbeats 20000000 in
set_option maxRecDepth 100000 in
theorem wc_L_29 {SH : SHT} (hO : isOaths SH 0) (hR : isModel SH 53) (rec : Int32 → St → Option (Int32 × St)) (hrec : ∀ (c1 : Int32) (s2 : St), VF mL_law 200 SH jI 18 [(0, .ref 5000), (1, .ref 0), (2, .ref 53), (3, .int c1)] [] s2 (rec c1 s2)) (c1 : Int32) (s2 : St) : VF mL_law 200 SH jI 1128 [(0, .ref 5000), (1, .ref 0), (2, .ref 53), (3, .int c1)] [] s2 (gd (ib (c1 + (1 : Int32)) SH.2.1) (cp (f_X3_ends 0 (SH.2.2 (ix (c1 + (1 : Int32)))) s2) fun x206 => gd (ib (c1 + (1 : Int32)) SH.2.1) (cp (f_X4_ends 53 (SH.2.2 (ix (c1 + (1 : Int32)))) s2) fun x208 => (if x206 = x208 then rec (c1 + (5 : Int32)) s2 else some ((0 : Int32), s2))))) := by
  refine v_aload_n dL_law_1128 rfl rfl ?_
  refine v_aload_n dL_law_1129 rfl rfl ?_
  refine v_iload_n dL_law_1130 rfl rfl ?_
  refine v_iconst (v := 1) dL_law_1131 (by decide +kernel) ?_
  refine v_iadd dL_law_1132 ?_
  refine v_gd (fun g205 => ?_)
  refine v_sld dL_law_1133 g205 ?_
  refine v_cpI (fun z hz => runV (as := [.int (SH.2.2 (ix (c1 + (1 : Int32))))]) dL_law_1134 kv_L_138 rfl rfl (Nat.le_of_ble_eq_true rfl) (Nat.le_of_ble_eq_true rfl) (recvW hO.1 rfl rfl) (ct_X3_ends _ _ hO _) hz) (fun x206 => ?_)
  refine v_aload_n dL_law_1137 rfl rfl ?_
  refine v_aload_n dL_law_1138 rfl rfl ?_
  refine v_iload_n dL_law_1139 rfl rfl ?_
  refine v_iconst (v := 1) dL_law_1140 (by decide +kernel) ?_
  refine v_iadd dL_law_1141 ?_
  refine v_gd (fun g207 => ?_)
  refine v_sld dL_law_1142 g207 ?_
  refine v_cpI (fun z hz => runV (as := [.int (SH.2.2 (ix (c1 + (1 : Int32))))]) dL_law_1143 kv_L_141 rfl rfl (Nat.le_of_ble_eq_true rfl) (Nat.le_of_ble_eq_true rfl) (recvW hR.1 rfl rfl) (ct_X4_ends _ _ hR _) hz) (fun x208 => ?_)
  refine v_icmp_eq (tgt := 1787) dL_law_1146 (by decide) (fun _ => ?_) (fun _ => ?_)
  · skip
    refine v_iinc (v := (c1 + (5 : Int32))) (L' := [(3, .int (c1 + (5 : Int32))), (0, .ref 5000), (1, .ref 0), (2, .ref 53)]) dL_law_1787 rfl rfl (by decide) rfl ?_
    refine v_goto (tgt := 18) dL_law_1790 (by decide) ?_
    exact v_pick [1, 2, 3, 0] rfl (hrec _ _)
  refine v_iconst (v := 0) dL_law_1149 (by decide +kernel) ?_
  exact v_ret (ty := .boolean) dL_law_1150 rfl rfl (by decide +kernel)
set_option maxHeartbeats 20000000 in
set_option maxRecDepth 100000 in
theorem wc_L_30 {SH : SHT} (hO : isOaths SH 0) (hR : isModel SH 53) (rec : Int32 → St → Option (Int32 × St)) (hrec : ∀ (c1 : Int32) (s2 : St), VF mL_law 200 SH jI 18 [(0, .ref 5000), (1, .ref 0), (2, .ref 53), (3, .int c1)] [] s2 (rec c1 s2)) (c1 : Int32) (s2 : St) : VF mL_law 200 SH jI 1151 [(0, .ref 5000), (1, .ref 0), (2, .ref 53), (3, .int c1)] [] s2 (gd (ib (c1 + (1 : Int32)) SH.2.1) (gd (ib (c1 + (2 : Int32)) SH.2.1) (gd (ib (c1 + (3 : Int32)) SH.2.1) (gd (ib (c1 + (4 : Int32)) SH.2.1) (cb (f_X3_fits 0 (SH.2.2 (ix (c1 + (1 : Int32)))) (SH.2.2 (ix (c1 + (2 : Int32)))) (SH.2.2 (ix (c1 + (3 : Int32)))) (SH.2.2 (ix (c1 + (4 : Int32)))) s2) fun x214 s213 => gd (ib (c1 + (1 : Int32)) SH.2.1) (gd (ib (c1 + (2 : Int32)) SH.2.1) (gd (ib (c1 + (3 : Int32)) SH.2.1) (gd (ib (c1 + (4 : Int32)) SH.2.1) (cb (f_X4_fits 53 (SH.2.2 (ix (c1 + (1 : Int32)))) (SH.2.2 (ix (c1 + (2 : Int32)))) (SH.2.2 (ix (c1 + (3 : Int32)))) (SH.2.2 (ix (c1 + (4 : Int32)))) s213) fun x220 s219 => (if x214 = x220 then rec (c1 + (5 : Int32)) s219 else some ((0 : Int32), s219))))))))))) := by
  refine v_aload_n dL_law_1151 rfl rfl ?_
  refine v_aload_n dL_law_1152 rfl rfl ?_
  refine v_iload_n dL_law_1153 rfl rfl ?_
  refine v_iconst (v := 1) dL_law_1154 (by decide +kernel) ?_
  refine v_iadd dL_law_1155 ?_
  refine v_gd (fun g209 => ?_)
  refine v_sld dL_law_1156 g209 ?_
  refine v_aload_n dL_law_1157 rfl rfl ?_
  refine v_iload_n dL_law_1158 rfl rfl ?_
  refine v_iconst (v := 2) dL_law_1159 (by decide +kernel) ?_
  refine v_iadd dL_law_1160 ?_
  refine v_gd (fun g210 => ?_)
  refine v_sld dL_law_1161 g210 ?_
  refine v_aload_n dL_law_1162 rfl rfl ?_
  refine v_iload_n dL_law_1163 rfl rfl ?_
  refine v_iconst (v := 3) dL_law_1164 (by decide +kernel) ?_
  refine v_iadd dL_law_1165 ?_
  refine v_gd (fun g211 => ?_)
  refine v_sld dL_law_1166 g211 ?_
  refine v_aload_n dL_law_1167 rfl rfl ?_
  refine v_iload_n dL_law_1168 rfl rfl ?_
  refine v_iconst (v := 4) dL_law_1169 (by decide +kernel) ?_
  refine v_iadd dL_law_1170 ?_
  refine v_gd (fun g212 => ?_)
  refine v_sld dL_law_1171 g212 ?_
  refine v_cbI (fun z hz => runV (as := [.int (SH.2.2 (ix (c1 + (1 : Int32)))), .int (SH.2.2 (ix (c1 + (2 : Int32)))), .int (SH.2.2 (ix (c1 + (3 : Int32)))), .int (SH.2.2 (ix (c1 + (4 : Int32))))]) dL_law_1172 kv_L_142 rfl rfl (Nat.le_of_ble_eq_true rfl) (Nat.le_of_ble_eq_true rfl) (recvW hO.1 rfl rfl) (ct_X3_fits _ _ _ _ _ hO _) hz) (fun x214 s213 => ?_)
  refine v_aload_n dL_law_1175 rfl rfl ?_
  refine v_aload_n dL_law_1176 rfl rfl ?_
  refine v_iload_n dL_law_1177 rfl rfl ?_
  refine v_iconst (v := 1) dL_law_1178 (by decide +kernel) ?_
  refine v_iadd dL_law_1179 ?_
  refine v_gd (fun g215 => ?_)
  refine v_sld dL_law_1180 g215 ?_
  refine v_aload_n dL_law_1181 rfl rfl ?_
  refine v_iload_n dL_law_1182 rfl rfl ?_
  refine v_iconst (v := 2) dL_law_1183 (by decide +kernel) ?_
  refine v_iadd dL_law_1184 ?_
  refine v_gd (fun g216 => ?_)
  refine v_sld dL_law_1185 g216 ?_
  refine v_aload_n dL_law_1186 rfl rfl ?_
  refine v_iload_n dL_law_1187 rfl rfl ?_
  refine v_iconst (v := 3) dL_law_1188 (by decide +kernel) ?_
  refine v_iadd dL_law_1189 ?_
  refine v_gd (fun g217 => ?_)
  refine v_sld dL_law_1190 g217 ?_
  refine v_aload_n dL_law_1191 rfl rfl ?_
  refine v_iload_n dL_law_1192 rfl rfl ?_
  refine v_iconst (v := 4) dL_law_1193 (by decide +kernel) ?_
  refine v_iadd dL_law_1194 ?_
  refine v_gd (fun g218 => ?_)
  refine v_sld dL_law_1195 g218 ?_
  refine v_cbI (fun z hz => runV (as := [.int (SH.2.2 (ix (c1 + (1 : Int32)))), .int (SH.2.2 (ix (c1 + (2 : Int32)))), .int (SH.2.2 (ix (c1 + (3 : Int32)))), .int (SH.2.2 (ix (c1 + (4 : Int32))))]) dL_law_1196 kv_L_145 rfl rfl (Nat.le_of_ble_eq_true rfl) (Nat.le_of_ble_eq_true rfl) (recvW hR.1 rfl rfl) (ct_X4_fits _ _ _ _ _ hR _) hz) (fun x220 s219 => ?_)
  refine v_icmp_eq (tgt := 1787) dL_law_1199 (by decide) (fun _ => ?_) (fun _ => ?_)
  · skip
    refine v_iinc (v := (c1 + (5 : Int32))) (L' := [(3, .int (c1 + (5 : Int32))), (0, .ref 5000), (1, .ref 0), (2, .ref 53)]) dL_law_1787 rfl rfl (by decide) rfl ?_
    refine v_goto (tgt := 18) dL_law_1790 (by decide) ?_
    exact v_pick [1, 2, 3, 0] rfl (hrec _ _)
  refine v_iconst (v := 0) dL_law_1202 (by decide +kernel) ?_
  exact v_ret (ty := .boolean) dL_law_1203 rfl rfl (by decide +kernel)
set_option maxHeartbeats 20000000 in
set_option maxRecDepth 100000 in
theorem wc_L_31 {SH : SHT} (hO : isOaths SH 0) (hR : isModel SH 53) (rec : Int32 → St → Option (Int32 × St)) (hrec : ∀ (c1 : Int32) (s2 : St), VF mL_law 200 SH jI 18 [(0, .ref 5000), (1, .ref 0), (2, .ref 53), (3, .int c1)] [] s2 (rec c1 s2)) (c1 : Int32) (s2 : St) : VF mL_law 200 SH jI 1204 [(0, .ref 5000), (1, .ref 0), (2, .ref 53), (3, .int c1)] [] s2 (gd (ib (c1 + (1 : Int32)) SH.2.1) (gd (ib (c1 + (2 : Int32)) SH.2.1) (gd (ib (c1 + (3 : Int32)) SH.2.1) (cp (f_X3_odds 0 (SH.2.2 (ix (c1 + (1 : Int32)))) (SH.2.2 (ix (c1 + (2 : Int32)))) (SH.2.2 (ix (c1 + (3 : Int32)))) s2) fun x224 => gd (ib (c1 + (1 : Int32)) SH.2.1) (gd (ib (c1 + (2 : Int32)) SH.2.1) (gd (ib (c1 + (3 : Int32)) SH.2.1) (cp (f_X4_odds 53 (SH.2.2 (ix (c1 + (1 : Int32)))) (SH.2.2 (ix (c1 + (2 : Int32)))) (SH.2.2 (ix (c1 + (3 : Int32)))) s2) fun x228 => (if (lg_cmp x224 x228) = 0 then rec (c1 + (5 : Int32)) s2 else some ((0 : Int32), s2))))))))) := by
  refine v_aload_n dL_law_1204 rfl rfl ?_
  refine v_aload_n dL_law_1205 rfl rfl ?_
  refine v_iload_n dL_law_1206 rfl rfl ?_
  refine v_iconst (v := 1) dL_law_1207 (by decide +kernel) ?_
  refine v_iadd dL_law_1208 ?_
  refine v_gd (fun g221 => ?_)
  refine v_sld dL_law_1209 g221 ?_
  refine v_aload_n dL_law_1210 rfl rfl ?_
  refine v_iload_n dL_law_1211 rfl rfl ?_
  refine v_iconst (v := 2) dL_law_1212 (by decide +kernel) ?_
  refine v_iadd dL_law_1213 ?_
  refine v_gd (fun g222 => ?_)
  refine v_sld dL_law_1214 g222 ?_
  refine v_aload_n dL_law_1215 rfl rfl ?_
  refine v_iload_n dL_law_1216 rfl rfl ?_
  refine v_iconst (v := 3) dL_law_1217 (by decide +kernel) ?_
  refine v_iadd dL_law_1218 ?_
  refine v_gd (fun g223 => ?_)
  refine v_sld dL_law_1219 g223 ?_
  refine v_cpL (fun z hz => runV (as := [.int (SH.2.2 (ix (c1 + (1 : Int32)))), .int (SH.2.2 (ix (c1 + (2 : Int32)))), .int (SH.2.2 (ix (c1 + (3 : Int32))))]) dL_law_1220 kv_L_146 rfl rfl (Nat.le_of_ble_eq_true rfl) (Nat.le_of_ble_eq_true rfl) (recvW hO.1 rfl rfl) (ct_X3_odds _ _ _ _ hO _) hz) (fun x224 => ?_)
  refine v_aload_n dL_law_1223 rfl rfl ?_
  refine v_aload_n dL_law_1224 rfl rfl ?_
  refine v_iload_n dL_law_1225 rfl rfl ?_
  refine v_iconst (v := 1) dL_law_1226 (by decide +kernel) ?_
  refine v_iadd dL_law_1227 ?_
  refine v_gd (fun g225 => ?_)
  refine v_sld dL_law_1228 g225 ?_
  refine v_aload_n dL_law_1229 rfl rfl ?_
  refine v_iload_n dL_law_1230 rfl rfl ?_
  refine v_iconst (v := 2) dL_law_1231 (by decide +kernel) ?_
  refine v_iadd dL_law_1232 ?_
  refine v_gd (fun g226 => ?_)
  refine v_sld dL_law_1233 g226 ?_
  refine v_aload_n dL_law_1234 rfl rfl ?_
  refine v_iload_n dL_law_1235 rfl rfl ?_
  refine v_iconst (v := 3) dL_law_1236 (by decide +kernel) ?_
  refine v_iadd dL_law_1237 ?_
  refine v_gd (fun g227 => ?_)
  refine v_sld dL_law_1238 g227 ?_
  refine v_cpL (fun z hz => runV (as := [.int (SH.2.2 (ix (c1 + (1 : Int32)))), .int (SH.2.2 (ix (c1 + (2 : Int32)))), .int (SH.2.2 (ix (c1 + (3 : Int32))))]) dL_law_1239 kv_L_150 rfl rfl (Nat.le_of_ble_eq_true rfl) (Nat.le_of_ble_eq_true rfl) (recvW hR.1 rfl rfl) (ct_X4_odds _ _ _ _ hR _) hz) (fun x228 => ?_)
  refine v_lcmp dL_law_1242 ?_
  refine v_if_eq (tgt := 1787) dL_law_1243 (by decide) (fun _ => ?_) (fun _ => ?_)
  · skip
    refine v_iinc (v := (c1 + (5 : Int32))) (L' := [(3, .int (c1 + (5 : Int32))), (0, .ref 5000), (1, .ref 0), (2, .ref 53)]) dL_law_1787 rfl rfl (by decide) rfl ?_
    refine v_goto (tgt := 18) dL_law_1790 (by decide) ?_
    exact v_pick [1, 2, 3, 0] rfl (hrec _ _)
  refine v_iconst (v := 0) dL_law_1246 (by decide +kernel) ?_
  exact v_ret (ty := .boolean) dL_law_1247 rfl rfl (by decide +kernel)
set_option maxHeartbeats 20000000 in
set_option maxRecDepth 100000 in
theorem wc_L_32 {SH : SHT} (hO : isOaths SH 0) (hR : isModel SH 53) (rec : Int32 → St → Option (Int32 × St)) (hrec : ∀ (c1 : Int32) (s2 : St), VF mL_law 200 SH jI 18 [(0, .ref 5000), (1, .ref 0), (2, .ref 53), (3, .int c1)] [] s2 (rec c1 s2)) (c1 : Int32) (s2 : St) : VF mL_law 200 SH jI 1248 [(0, .ref 5000), (1, .ref 0), (2, .ref 53), (3, .int c1)] [] s2 (gd (ib (c1 + (1 : Int32)) SH.2.1) (gd (ib (c1 + (2 : Int32)) SH.2.1) (cp (f_X3_hope 0 (SH.2.2 (ix (c1 + (1 : Int32)))) (SH.2.2 (ix (c1 + (2 : Int32)))) s2) fun x231 => gd (ib (c1 + (1 : Int32)) SH.2.1) (gd (ib (c1 + (2 : Int32)) SH.2.1) (cp (f_X4_hope 53 (SH.2.2 (ix (c1 + (1 : Int32)))) (SH.2.2 (ix (c1 + (2 : Int32)))) s2) fun x234 => (if (lg_cmp x231 x234) = 0 then rec (c1 + (5 : Int32)) s2 else some ((0 : Int32), s2))))))) := by
  refine v_aload_n dL_law_1248 rfl rfl ?_
  refine v_aload_n dL_law_1249 rfl rfl ?_
  refine v_iload_n dL_law_1250 rfl rfl ?_
  refine v_iconst (v := 1) dL_law_1251 (by decide +kernel) ?_
  refine v_iadd dL_law_1252 ?_
  refine v_gd (fun g229 => ?_)
  refine v_sld dL_law_1253 g229 ?_
  refine v_aload_n dL_law_1254 rfl rfl ?_
  refine v_iload_n dL_law_1255 rfl rfl ?_
  refine v_iconst (v := 2) dL_law_1256 (by decide +kernel) ?_
  refine v_iadd dL_law_1257 ?_
  refine v_gd (fun g230 => ?_)
  refine v_sld dL_law_1258 g230 ?_
  refine v_cpL (fun z hz => runV (as := [.int (SH.2.2 (ix (c1 + (1 : Int32)))), .int (SH.2.2 (ix (c1 + (2 : Int32))))]) dL_law_1259 kv_L_151 rfl rfl (Nat.le_of_ble_eq_true rfl) (Nat.le_of_ble_eq_true rfl) (recvW hO.1 rfl rfl) (ct_X3_hope _ _ _ hO _) hz) (fun x231 => ?_)
  refine v_aload_n dL_law_1262 rfl rfl ?_
  refine v_aload_n dL_law_1263 rfl rfl ?_
  refine v_iload_n dL_law_1264 rfl rfl ?_
  refine v_iconst (v := 1) dL_law_1265 (by decide +kernel) ?_
  refine v_iadd dL_law_1266 ?_
  refine v_gd (fun g232 => ?_)
  refine v_sld dL_law_1267 g232 ?_
  refine v_aload_n dL_law_1268 rfl rfl ?_
  refine v_iload_n dL_law_1269 rfl rfl ?_
  refine v_iconst (v := 2) dL_law_1270 (by decide +kernel) ?_
  refine v_iadd dL_law_1271 ?_
  refine v_gd (fun g233 => ?_)
  refine v_sld dL_law_1272 g233 ?_
  refine v_cpL (fun z hz => runV (as := [.int (SH.2.2 (ix (c1 + (1 : Int32)))), .int (SH.2.2 (ix (c1 + (2 : Int32))))]) dL_law_1273 kv_L_155 rfl rfl (Nat.le_of_ble_eq_true rfl) (Nat.le_of_ble_eq_true rfl) (recvW hR.1 rfl rfl) (ct_X4_hope _ _ _ hR _) hz) (fun x234 => ?_)
  refine v_lcmp dL_law_1276 ?_
  refine v_if_eq (tgt := 1787) dL_law_1277 (by decide) (fun _ => ?_) (fun _ => ?_)
  · skip
    refine v_iinc (v := (c1 + (5 : Int32))) (L' := [(3, .int (c1 + (5 : Int32))), (0, .ref 5000), (1, .ref 0), (2, .ref 53)]) dL_law_1787 rfl rfl (by decide) rfl ?_
    refine v_goto (tgt := 18) dL_law_1790 (by decide) ?_
    exact v_pick [1, 2, 3, 0] rfl (hrec _ _)
  refine v_iconst (v := 0) dL_law_1280 (by decide +kernel) ?_
  exact v_ret (ty := .boolean) dL_law_1281 rfl rfl (by decide +kernel)
set_option maxHeartbeats 20000000 in
set_option maxRecDepth 100000 in
theorem wc_L_33 {SH : SHT} (hO : isOaths SH 0) (hR : isModel SH 53) (rec : Int32 → St → Option (Int32 × St)) (hrec : ∀ (c1 : Int32) (s2 : St), VF mL_law 200 SH jI 18 [(0, .ref 5000), (1, .ref 0), (2, .ref 53), (3, .int c1)] [] s2 (rec c1 s2)) (c1 : Int32) (s2 : St) : VF mL_law 200 SH jI 1282 [(0, .ref 5000), (1, .ref 0), (2, .ref 53), (3, .int c1)] [] s2 (gd (ib (c1 + (1 : Int32)) SH.2.1) (gd (ib (c1 + (2 : Int32)) SH.2.1) (cb (f_X3_prove 0 (SH.2.2 (ix (c1 + (1 : Int32)))) (SH.2.2 (ix (c1 + (2 : Int32)))) s2) fun x238 s237 => gd (ib (c1 + (1 : Int32)) SH.2.1) (gd (ib (c1 + (2 : Int32)) SH.2.1) (cb (f_X4_prove 53 (SH.2.2 (ix (c1 + (1 : Int32)))) (SH.2.2 (ix (c1 + (2 : Int32)))) s237) fun x242 s241 => (if x238 = x242 then rec (c1 + (5 : Int32)) s241 else some ((0 : Int32), s241))))))) := by
  refine v_aload_n dL_law_1282 rfl rfl ?_
  refine v_aload_n dL_law_1283 rfl rfl ?_
  refine v_iload_n dL_law_1284 rfl rfl ?_
  refine v_iconst (v := 1) dL_law_1285 (by decide +kernel) ?_
  refine v_iadd dL_law_1286 ?_
  refine v_gd (fun g235 => ?_)
  refine v_sld dL_law_1287 g235 ?_
  refine v_aload_n dL_law_1288 rfl rfl ?_
  refine v_iload_n dL_law_1289 rfl rfl ?_
  refine v_iconst (v := 2) dL_law_1290 (by decide +kernel) ?_
  refine v_iadd dL_law_1291 ?_
  refine v_gd (fun g236 => ?_)
  refine v_sld dL_law_1292 g236 ?_
  refine v_cbI (fun z hz => runV (as := [.int (SH.2.2 (ix (c1 + (1 : Int32)))), .int (SH.2.2 (ix (c1 + (2 : Int32))))]) dL_law_1293 kv_L_156 rfl rfl (Nat.le_of_ble_eq_true rfl) (Nat.le_of_ble_eq_true rfl) (recvW hO.1 rfl rfl) (ct_X3_prove _ _ _ hO _) hz) (fun x238 s237 => ?_)
  refine v_aload_n dL_law_1296 rfl rfl ?_
  refine v_aload_n dL_law_1297 rfl rfl ?_
  refine v_iload_n dL_law_1298 rfl rfl ?_
  refine v_iconst (v := 1) dL_law_1299 (by decide +kernel) ?_
  refine v_iadd dL_law_1300 ?_
  refine v_gd (fun g239 => ?_)
  refine v_sld dL_law_1301 g239 ?_
  refine v_aload_n dL_law_1302 rfl rfl ?_
  refine v_iload_n dL_law_1303 rfl rfl ?_
  refine v_iconst (v := 2) dL_law_1304 (by decide +kernel) ?_
  refine v_iadd dL_law_1305 ?_
  refine v_gd (fun g240 => ?_)
  refine v_sld dL_law_1306 g240 ?_
  refine v_cbI (fun z hz => runV (as := [.int (SH.2.2 (ix (c1 + (1 : Int32)))), .int (SH.2.2 (ix (c1 + (2 : Int32))))]) dL_law_1307 kv_L_159 rfl rfl (Nat.le_of_ble_eq_true rfl) (Nat.le_of_ble_eq_true rfl) (recvW hR.1 rfl rfl) (ct_X4_prove _ _ _ hR _) hz) (fun x242 s241 => ?_)
  refine v_icmp_eq (tgt := 1787) dL_law_1310 (by decide) (fun _ => ?_) (fun _ => ?_)
  · skip
    refine v_iinc (v := (c1 + (5 : Int32))) (L' := [(3, .int (c1 + (5 : Int32))), (0, .ref 5000), (1, .ref 0), (2, .ref 53)]) dL_law_1787 rfl rfl (by decide) rfl ?_
    refine v_goto (tgt := 18) dL_law_1790 (by decide) ?_
    exact v_pick [1, 2, 3, 0] rfl (hrec _ _)
  refine v_iconst (v := 0) dL_law_1313 (by decide +kernel) ?_
  exact v_ret (ty := .boolean) dL_law_1314 rfl rfl (by decide +kernel)
set_option maxHeartbeats 20000000 in
set_option maxRecDepth 100000 in
theorem wc_L_34 {SH : SHT} (hO : isOaths SH 0) (hR : isModel SH 53) (rec : Int32 → St → Option (Int32 × St)) (hrec : ∀ (c1 : Int32) (s2 : St), VF mL_law 200 SH jI 18 [(0, .ref 5000), (1, .ref 0), (2, .ref 53), (3, .int c1)] [] s2 (rec c1 s2)) (c1 : Int32) (s2 : St) : VF mL_law 200 SH jI 1315 [(0, .ref 5000), (1, .ref 0), (2, .ref 53), (3, .int c1)] [] s2 (gd (ib (c1 + (1 : Int32)) SH.2.1) (gd (ib (c1 + (2 : Int32)) SH.2.1) (cp (f_X3_row 0 (SH.2.2 (ix (c1 + (1 : Int32)))) (SH.2.2 (ix (c1 + (2 : Int32)))) s2) fun x245 => gd (ib (c1 + (1 : Int32)) SH.2.1) (gd (ib (c1 + (2 : Int32)) SH.2.1) (cp (f_X4_row 53 (SH.2.2 (ix (c1 + (1 : Int32)))) (SH.2.2 (ix (c1 + (2 : Int32)))) s2) fun x248 => (if x245 = x248 then rec (c1 + (5 : Int32)) s2 else some ((0 : Int32), s2))))))) := by
  refine v_aload_n dL_law_1315 rfl rfl ?_
  refine v_aload_n dL_law_1316 rfl rfl ?_
  refine v_iload_n dL_law_1317 rfl rfl ?_
  refine v_iconst (v := 1) dL_law_1318 (by decide +kernel) ?_
  refine v_iadd dL_law_1319 ?_
  refine v_gd (fun g243 => ?_)
  refine v_sld dL_law_1320 g243 ?_
  refine v_aload_n dL_law_1321 rfl rfl ?_
  refine v_iload_n dL_law_1322 rfl rfl ?_
  refine v_iconst (v := 2) dL_law_1323 (by decide +kernel) ?_
  refine v_iadd dL_law_1324 ?_
  refine v_gd (fun g244 => ?_)
  refine v_sld dL_law_1325 g244 ?_
  refine v_cpI (fun z hz => runV (as := [.int (SH.2.2 (ix (c1 + (1 : Int32)))), .int (SH.2.2 (ix (c1 + (2 : Int32))))]) dL_law_1326 kv_L_160 rfl rfl (Nat.le_of_ble_eq_true rfl) (Nat.le_of_ble_eq_true rfl) (recvW hO.1 rfl rfl) (ct_X3_row _ _ _ hO _) hz) (fun x245 => ?_)
  refine v_aload_n dL_law_1329 rfl rfl ?_
  refine v_aload_n dL_law_1330 rfl rfl ?_
  refine v_iload_n dL_law_1331 rfl rfl ?_
  refine v_iconst (v := 1) dL_law_1332 (by decide +kernel) ?_
  refine v_iadd dL_law_1333 ?_
  refine v_gd (fun g246 => ?_)
  refine v_sld dL_law_1334 g246 ?_
  refine v_aload_n dL_law_1335 rfl rfl ?_
  refine v_iload_n dL_law_1336 rfl rfl ?_
  refine v_iconst (v := 2) dL_law_1337 (by decide +kernel) ?_
  refine v_iadd dL_law_1338 ?_
  refine v_gd (fun g247 => ?_)
  refine v_sld dL_law_1339 g247 ?_
  refine v_cpI (fun z hz => runV (as := [.int (SH.2.2 (ix (c1 + (1 : Int32)))), .int (SH.2.2 (ix (c1 + (2 : Int32))))]) dL_law_1340 kv_L_163 rfl rfl (Nat.le_of_ble_eq_true rfl) (Nat.le_of_ble_eq_true rfl) (recvW hR.1 rfl rfl) (ct_X4_row _ _ _ hR _) hz) (fun x248 => ?_)
  refine v_icmp_eq (tgt := 1787) dL_law_1343 (by decide) (fun _ => ?_) (fun _ => ?_)
  · skip
    refine v_iinc (v := (c1 + (5 : Int32))) (L' := [(3, .int (c1 + (5 : Int32))), (0, .ref 5000), (1, .ref 0), (2, .ref 53)]) dL_law_1787 rfl rfl (by decide) rfl ?_
    refine v_goto (tgt := 18) dL_law_1790 (by decide) ?_
    exact v_pick [1, 2, 3, 0] rfl (hrec _ _)
  refine v_iconst (v := 0) dL_law_1346 (by decide +kernel) ?_
  exact v_ret (ty := .boolean) dL_law_1347 rfl rfl (by decide +kernel)
set_option maxHeartbeats 20000000 in
set_option maxRecDepth 100000 in
theorem wc_L_35 {SH : SHT} (hO : isOaths SH 0) (hR : isModel SH 53) (rec : Int32 → St → Option (Int32 × St)) (hrec : ∀ (c1 : Int32) (s2 : St), VF mL_law 200 SH jI 18 [(0, .ref 5000), (1, .ref 0), (2, .ref 53), (3, .int c1)] [] s2 (rec c1 s2)) (c1 : Int32) (s2 : St) : VF mL_law 200 SH jI 1348 [(0, .ref 5000), (1, .ref 0), (2, .ref 53), (3, .int c1)] [] s2 (gd (ib (c1 + (1 : Int32)) SH.2.1) (gd (ib (c1 + (2 : Int32)) SH.2.1) (gd (ib (c1 + (3 : Int32)) SH.2.1) (cb (f_X3_alterRow 0 (SH.2.2 (ix (c1 + (1 : Int32)))) (SH.2.2 (ix (c1 + (2 : Int32)))) (SH.2.2 (ix (c1 + (3 : Int32)))) s2) fun x253 s252 => gd (ib (c1 + (1 : Int32)) SH.2.1) (gd (ib (c1 + (2 : Int32)) SH.2.1) (gd (ib (c1 + (3 : Int32)) SH.2.1) (cb (f_X4_alterRow 53 (SH.2.2 (ix (c1 + (1 : Int32)))) (SH.2.2 (ix (c1 + (2 : Int32)))) (SH.2.2 (ix (c1 + (3 : Int32)))) s252) fun x258 s257 => (if x253 = x258 then rec (c1 + (5 : Int32)) s257 else some ((0 : Int32), s257))))))))) := by
  refine v_aload_n dL_law_1348 rfl rfl ?_
  refine v_aload_n dL_law_1349 rfl rfl ?_
  refine v_iload_n dL_law_1350 rfl rfl ?_
  refine v_iconst (v := 1) dL_law_1351 (by decide +kernel) ?_
  refine v_iadd dL_law_1352 ?_
  refine v_gd (fun g249 => ?_)
  refine v_sld dL_law_1353 g249 ?_
  refine v_aload_n dL_law_1354 rfl rfl ?_
  refine v_iload_n dL_law_1355 rfl rfl ?_
  refine v_iconst (v := 2) dL_law_1356 (by decide +kernel) ?_
  refine v_iadd dL_law_1357 ?_
  refine v_gd (fun g250 => ?_)
  refine v_sld dL_law_1358 g250 ?_
  refine v_aload_n dL_law_1359 rfl rfl ?_
  refine v_iload_n dL_law_1360 rfl rfl ?_
  refine v_iconst (v := 3) dL_law_1361 (by decide +kernel) ?_
  refine v_iadd dL_law_1362 ?_
  refine v_gd (fun g251 => ?_)
  refine v_sld dL_law_1363 g251 ?_
  refine v_cbI (fun z hz => runV (as := [.int (SH.2.2 (ix (c1 + (1 : Int32)))), .int (SH.2.2 (ix (c1 + (2 : Int32)))), .int (SH.2.2 (ix (c1 + (3 : Int32))))]) dL_law_1364 kv_L_164 rfl rfl (Nat.le_of_ble_eq_true rfl) (Nat.le_of_ble_eq_true rfl) (recvW hO.1 rfl rfl) (ct_X3_alterRow _ _ _ _ hO _) hz) (fun x253 s252 => ?_)
  refine v_aload_n dL_law_1367 rfl rfl ?_
  refine v_aload_n dL_law_1368 rfl rfl ?_
  refine v_iload_n dL_law_1369 rfl rfl ?_
  refine v_iconst (v := 1) dL_law_1370 (by decide +kernel) ?_
  refine v_iadd dL_law_1371 ?_
  refine v_gd (fun g254 => ?_)
  refine v_sld dL_law_1372 g254 ?_
  refine v_aload_n dL_law_1373 rfl rfl ?_
  refine v_iload_n dL_law_1374 rfl rfl ?_
  refine v_iconst (v := 2) dL_law_1375 (by decide +kernel) ?_
  refine v_iadd dL_law_1376 ?_
  refine v_gd (fun g255 => ?_)
  refine v_sld dL_law_1377 g255 ?_
  refine v_aload_n dL_law_1378 rfl rfl ?_
  refine v_iload_n dL_law_1379 rfl rfl ?_
  refine v_iconst (v := 3) dL_law_1380 (by decide +kernel) ?_
  refine v_iadd dL_law_1381 ?_
  refine v_gd (fun g256 => ?_)
  refine v_sld dL_law_1382 g256 ?_
  refine v_cbI (fun z hz => runV (as := [.int (SH.2.2 (ix (c1 + (1 : Int32)))), .int (SH.2.2 (ix (c1 + (2 : Int32)))), .int (SH.2.2 (ix (c1 + (3 : Int32))))]) dL_law_1383 kv_L_167 rfl rfl (Nat.le_of_ble_eq_true rfl) (Nat.le_of_ble_eq_true rfl) (recvW hR.1 rfl rfl) (ct_X4_alterRow _ _ _ _ hR _) hz) (fun x258 s257 => ?_)
  refine v_icmp_eq (tgt := 1787) dL_law_1386 (by decide) (fun _ => ?_) (fun _ => ?_)
  · skip
    refine v_iinc (v := (c1 + (5 : Int32))) (L' := [(3, .int (c1 + (5 : Int32))), (0, .ref 5000), (1, .ref 0), (2, .ref 53)]) dL_law_1787 rfl rfl (by decide) rfl ?_
    refine v_goto (tgt := 18) dL_law_1790 (by decide) ?_
    exact v_pick [1, 2, 3, 0] rfl (hrec _ _)
  refine v_iconst (v := 0) dL_law_1389 (by decide +kernel) ?_
  exact v_ret (ty := .boolean) dL_law_1390 rfl rfl (by decide +kernel)
