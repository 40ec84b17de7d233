set_option maxHeartbeats 400000000 in
set_option maxRecDepth 1000000 in
theorem cg_X4 {X : Nat × (Nat → Int32)} {σ σ1 : St} (h : f_X4_tail 53 (zX4 σ) = some σ1) : CG yX4_init mX4_init 2 X 14 909 [.ref 53] uM0 σ uMZ σ1 := by
  refine CG.of (by decide +kernel) rfl rfl (fun E => Nat.le_of_ble_eq_true rfl) ?_
  show VG mX4_init 2 X True uMZ σ1 none 14 909 0 [(0, .ref 53)] [] uM0 σ
  refine g_aload_n dX4_init_0 rfl rfl ?_
  refine g_oinit dX4_init_1 ko_X4 (Nat.le_of_ble_eq_true rfl) (by decide) ?_
  refine g_aload_n dX4_init_4 rfl rfl ?_
  refine g_bipush (v := 103) dX4_init_5 (by decide +kernel) ?_
  refine g_newa (t := 0) (N := 103) (q := 54) (S' := uM1) dX4_init_7 kar_int (fun _ => rfl) (Or.inl ⟨by decide, rfl⟩) (by decide) (by decide +kernel) (by decide) (by decide +kernel) rfl rfl (by decide) ?_
  refine g_putF (j := 0) (k := 53) (fs := [some none, some none, some none, none, none, some none, some none, none, none, none, none, none, some none, none, some none, none, some none, some none, some none, some none, some none, some none, some none, none, none, none]) (S' := uM2) trivial dX4_init_9 kq_X4_7 rfl rfl rfl ?_
  refine g_aload_n dX4_init_12 rfl rfl ?_
  refine g_bipush (v := 103) dX4_init_13 (by decide +kernel) ?_
  refine g_newa (t := 0) (N := 103) (q := 55) (S' := uM3) dX4_init_15 kar_int (fun _ => rfl) (Or.inl ⟨by decide, rfl⟩) (by decide) (by decide +kernel) (by decide) (by decide +kernel) rfl rfl (by decide) ?_
  refine g_putF (j := 1) (k := 53) (fs := [some (some 54), some none, some none, none, none, some none, some none, none, none, none, none, none, some none, none, some none, none, some none, some none, some none, some none, some none, some none, some none, none, none, none]) (S' := uM4) trivial dX4_init_17 kq_X4_13 rfl rfl rfl ?_
  refine g_aload_n dX4_init_20 rfl rfl ?_
  refine g_bipush (v := 103) dX4_init_21 (by decide +kernel) ?_
  refine g_newa (t := 0) (N := 103) (q := 56) (S' := uM5) dX4_init_23 kar_int (fun _ => rfl) (Or.inl ⟨by decide, rfl⟩) (by decide) (by decide +kernel) (by decide) (by decide +kernel) rfl rfl (by decide) ?_
  refine g_putF (j := 2) (k := 53) (fs := [some (some 54), some (some 55), some none, none, none, some none, some none, none, none, none, none, none, some none, none, some none, none, some none, some none, some none, some none, some none, some none, some none, none, none, none]) (S' := uM6) trivial dX4_init_25 kq_X4_16 rfl rfl rfl ?_
  refine g_aload_n dX4_init_28 rfl rfl ?_
  refine g_bipush (v := 32) dX4_init_29 (by decide +kernel) ?_
  refine g_newa (t := 0) (N := 32) (q := 57) (S' := uM7) dX4_init_31 kar_int (fun _ => rfl) (Or.inl ⟨by decide, rfl⟩) (by decide) (by decide +kernel) (by decide) (by decide +kernel) rfl rfl (by decide) ?_
  refine g_putF (j := 5) (k := 53) (fs := [some (some 54), some (some 55), some (some 56), none, none, some none, some none, none, none, none, none, none, some none, none, some none, none, some none, some none, some none, some none, some none, some none, some none, none, none, none]) (S' := uM8) trivial dX4_init_33 kq_X4_19 rfl rfl rfl ?_
  refine g_aload_n dX4_init_36 rfl rfl ?_
  refine g_sipush (v := 200) dX4_init_37 (by decide +kernel) ?_
  refine g_newa (t := 0) (N := 200) (q := 58) (S' := uM9) dX4_init_40 kar_int (fun _ => rfl) (Or.inl ⟨by decide, rfl⟩) (by decide) (by decide +kernel) (by decide) (by decide +kernel) rfl rfl (by decide) ?_
  refine g_putF (j := 6) (k := 53) (fs := [some (some 54), some (some 55), some (some 56), none, none, some (some 57), some none, none, none, none, none, none, some none, none, some none, none, some none, some none, some none, some none, some none, some none, some none, none, none, none]) (S' := uM10) trivial dX4_init_42 kq_X4_22 rfl rfl rfl ?_
  refine g_aload_n dX4_init_45 rfl rfl ?_
  refine g_sipush (v := 128) dX4_init_46 (by decide +kernel) ?_
  refine g_newa (t := 2) (N := 128) (q := 59) (S' := uM11) dX4_init_49 kar_char (fun _ => rfl) (Or.inl ⟨by decide, rfl⟩) (by decide) (by decide +kernel) (by decide) (by decide +kernel) rfl rfl (by decide) ?_
  refine g_dup dX4_init_51 rfl ?_
  refine g_iconst (v := 0) dX4_init_52 (by decide +kernel) ?_
  refine g_bipush (v := 115) dX4_init_53 (by decide +kernel) ?_
  refine g_castore (n := 128) (rows := []) (j := 0) (v := 115) dX4_init_55 gw_uM11 (by decide +kernel) (by decide +kernel) (by decide +kernel) rfl ?_
  refine g_dup dX4_init_56 rfl ?_
  refine g_iconst (v := 1) dX4_init_57 (by decide +kernel) ?_
  refine g_bipush (v := 119) dX4_init_58 (by decide +kernel) ?_
  refine g_castore (n := 128) (rows := []) (j := 1) (v := 119) dX4_init_60 gw_uM11 (by decide +kernel) (by decide +kernel) (by decide +kernel) rfl ?_
  refine g_dup dX4_init_61 rfl ?_
  refine g_iconst (v := 2) dX4_init_62 (by decide +kernel) ?_
  refine g_bipush (v := 111) dX4_init_63 (by decide +kernel) ?_
  refine g_castore (n := 128) (rows := []) (j := 2) (v := 111) dX4_init_65 gw_uM11 (by decide +kernel) (by decide +kernel) (by decide +kernel) rfl ?_
  refine g_dup dX4_init_66 rfl ?_
  refine g_iconst (v := 3) dX4_init_67 (by decide +kernel) ?_
  refine g_bipush (v := 114) dX4_init_68 (by decide +kernel) ?_
  refine g_castore (n := 128) (rows := []) (j := 3) (v := 114) dX4_init_70 gw_uM11 (by decide +kernel) (by decide +kernel) (by decide +kernel) rfl ?_
  refine g_dup dX4_init_71 rfl ?_
  refine g_iconst (v := 4) dX4_init_72 (by decide +kernel) ?_
  refine g_bipush (v := 110) dX4_init_73 (by decide +kernel) ?_
  refine g_castore (n := 128) (rows := []) (j := 4) (v := 110) dX4_init_75 gw_uM11 (by decide +kernel) (by decide +kernel) (by decide +kernel) rfl ?_
  refine g_dup dX4_init_76 rfl ?_
  refine g_iconst (v := 5) dX4_init_77 (by decide +kernel) ?_
  refine g_bipush (v := 32) dX4_init_78 (by decide +kernel) ?_
  refine g_castore (n := 128) (rows := []) (j := 5) (v := 32) dX4_init_80 gw_uM11 (by decide +kernel) (by decide +kernel) (by decide +kernel) rfl ?_
  refine g_dup dX4_init_81 rfl ?_
  refine g_bipush (v := 6) dX4_init_82 (by decide +kernel) ?_
  refine g_bipush (v := 32) dX4_init_84 (by decide +kernel) ?_
  refine g_castore (n := 128) (rows := []) (j := 6) (v := 32) dX4_init_86 gw_uM11 (by decide +kernel) (by decide +kernel) (by decide +kernel) rfl ?_
  refine g_dup dX4_init_87 rfl ?_
  refine g_bipush (v := 7) dX4_init_88 (by decide +kernel) ?_
  refine g_bipush (v := 32) dX4_init_90 (by decide +kernel) ?_
  refine g_castore (n := 128) (rows := []) (j := 7) (v := 32) dX4_init_92 gw_uM11 (by decide +kernel) (by decide +kernel) (by decide +kernel) rfl ?_
  refine g_dup dX4_init_93 rfl ?_
  refine g_bipush (v := 8) dX4_init_94 (by decide +kernel) ?_
  refine g_bipush (v := 101) dX4_init_96 (by decide +kernel) ?_
  refine g_castore (n := 128) (rows := []) (j := 8) (v := 101) dX4_init_98 gw_uM11 (by decide +kernel) (by decide +kernel) (by decide +kernel) rfl ?_
  refine g_dup dX4_init_99 rfl ?_
  refine g_bipush (v := 9) dX4_init_100 (by decide +kernel) ?_
  refine g_bipush (v := 110) dX4_init_102 (by decide +kernel) ?_
  refine g_castore (n := 128) (rows := []) (j := 9) (v := 110) dX4_init_104 gw_uM11 (by decide +kernel) (by decide +kernel) (by decide +kernel) rfl ?_
  refine g_dup dX4_init_105 rfl ?_
  refine g_bipush (v := 10) dX4_init_106 (by decide +kernel) ?_
  refine g_bipush (v := 103) dX4_init_108 (by decide +kernel) ?_
  refine g_castore (n := 128) (rows := []) (j := 10) (v := 103) dX4_init_110 gw_uM11 (by decide +kernel) (by decide +kernel) (by decide +kernel) rfl ?_
  refine g_dup dX4_init_111 rfl ?_
  refine g_bipush (v := 11) dX4_init_112 (by decide +kernel) ?_
  refine g_bipush (v := 105) dX4_init_114 (by decide +kernel) ?_
  refine g_castore (n := 128) (rows := []) (j := 11) (v := 105) dX4_init_116 gw_uM11 (by decide +kernel) (by decide +kernel) (by decide +kernel) rfl ?_
  refine g_dup dX4_init_117 rfl ?_
  refine g_bipush (v := 12) dX4_init_118 (by decide +kernel) ?_
  refine g_bipush (v := 110) dX4_init_120 (by decide +kernel) ?_
  refine g_castore (n := 128) (rows := []) (j := 12) (v := 110) dX4_init_122 gw_uM11 (by decide +kernel) (by decide +kernel) (by decide +kernel) rfl ?_
  refine g_dup dX4_init_123 rfl ?_
  refine g_bipush (v := 13) dX4_init_124 (by decide +kernel) ?_
  refine g_bipush (v := 101) dX4_init_126 (by decide +kernel) ?_
  refine g_castore (n := 128) (rows := []) (j := 13) (v := 101) dX4_init_128 gw_uM11 (by decide +kernel) (by decide +kernel) (by decide +kernel) rfl ?_
  refine g_dup dX4_init_129 rfl ?_
  refine g_bipush (v := 14) dX4_init_130 (by decide +kernel) ?_
  refine g_bipush (v := 101) dX4_init_132 (by decide +kernel) ?_
  refine g_castore (n := 128) (rows := []) (j := 14) (v := 101) dX4_init_134 gw_uM11 (by decide +kernel) (by decide +kernel) (by decide +kernel) rfl ?_
  refine g_dup dX4_init_135 rfl ?_
  refine g_bipush (v := 15) dX4_init_136 (by decide +kernel) ?_
  refine g_bipush (v := 114) dX4_init_138 (by decide +kernel) ?_
  refine g_castore (n := 128) (rows := []) (j := 15) (v := 114) dX4_init_140 gw_uM11 (by decide +kernel) (by decide +kernel) (by decide +kernel) rfl ?_
  refine g_dup dX4_init_141 rfl ?_
  refine g_bipush (v := 16) dX4_init_142 (by decide +kernel) ?_
  refine g_bipush (v := 100) dX4_init_144 (by decide +kernel) ?_
  refine g_castore (n := 128) (rows := []) (j := 16) (v := 100) dX4_init_146 gw_uM11 (by decide +kernel) (by decide +kernel) (by decide +kernel) rfl ?_
  refine g_dup dX4_init_147 rfl ?_
  refine g_bipush (v := 17) dX4_init_148 (by decide +kernel) ?_
  refine g_bipush (v := 111) dX4_init_150 (by decide +kernel) ?_
  refine g_castore (n := 128) (rows := []) (j := 17) (v := 111) dX4_init_152 gw_uM11 (by decide +kernel) (by decide +kernel) (by decide +kernel) rfl ?_
  refine g_dup dX4_init_153 rfl ?_
  refine g_bipush (v := 18) dX4_init_154 (by decide +kernel) ?_
  refine g_bipush (v := 117) dX4_init_156 (by decide +kernel) ?_
  refine g_castore (n := 128) (rows := []) (j := 18) (v := 117) dX4_init_158 gw_uM11 (by decide +kernel) (by decide +kernel) (by decide +kernel) rfl ?_
  refine g_dup dX4_init_159 rfl ?_
  refine g_bipush (v := 19) dX4_init_160 (by decide +kernel) ?_
  refine g_bipush (v := 98) dX4_init_162 (by decide +kernel) ?_
  refine g_castore (n := 128) (rows := []) (j := 19) (v := 98) dX4_init_164 gw_uM11 (by decide +kernel) (by decide +kernel) (by decide +kernel) rfl ?_
  refine g_dup dX4_init_165 rfl ?_
  refine g_bipush (v := 20) dX4_init_166 (by decide +kernel) ?_
  refine g_bipush (v := 116) dX4_init_168 (by decide +kernel) ?_
  refine g_castore (n := 128) (rows := []) (j := 20) (v := 116) dX4_init_170 gw_uM11 (by decide +kernel) (by decide +kernel) (by decide +kernel) rfl ?_
  refine g_dup dX4_init_171 rfl ?_
  refine g_bipush (v := 21) dX4_init_172 (by decide +kernel) ?_
  refine g_bipush (v := 101) dX4_init_174 (by decide +kernel) ?_
  refine g_castore (n := 128) (rows := []) (j := 21) (v := 101) dX4_init_176 gw_uM11 (by decide +kernel) (by decide +kernel) (by decide +kernel) rfl ?_
  refine g_dup dX4_init_177 rfl ?_
  refine g_bipush (v := 22) dX4_init_178 (by decide +kernel) ?_
  refine g_bipush (v := 114) dX4_init_180 (by decide +kernel) ?_
  refine g_castore (n := 128) (rows := []) (j := 22) (v := 114) dX4_init_182 gw_uM11 (by decide +kernel) (by decide +kernel) (by decide +kernel) rfl ?_
  refine g_dup dX4_init_183 rfl ?_
  refine g_bipush (v := 23) dX4_init_184 (by decide +kernel) ?_
  refine g_bipush (v := 32) dX4_init_186 (by decide +kernel) ?_
  refine g_castore (n := 128) (rows := []) (j := 23) (v := 32) dX4_init_188 gw_uM11 (by decide +kernel) (by decide +kernel) (by decide +kernel) rfl ?_
  refine g_dup dX4_init_189 rfl ?_
  refine g_bipush (v := 24) dX4_init_190 (by decide +kernel) ?_
  refine g_bipush (v := 101) dX4_init_192 (by decide +kernel) ?_
  refine g_castore (n := 128) (rows := []) (j := 24) (v := 101) dX4_init_194 gw_uM11 (by decide +kernel) (by decide +kernel) (by decide +kernel) rfl ?_
  refine g_dup dX4_init_195 rfl ?_
  refine g_bipush (v := 25) dX4_init_196 (by decide +kernel) ?_
  refine g_bipush (v := 120) dX4_init_198 (by decide +kernel) ?_
  refine g_castore (n := 128) (rows := []) (j := 25) (v := 120) dX4_init_200 gw_uM11 (by decide +kernel) (by decide +kernel) (by decide +kernel) rfl ?_
  refine g_dup dX4_init_201 rfl ?_
  refine g_bipush (v := 26) dX4_init_202 (by decide +kernel) ?_
  refine g_bipush (v := 112) dX4_init_204 (by decide +kernel) ?_
  refine g_castore (n := 128) (rows := []) (j := 26) (v := 112) dX4_init_206 gw_uM11 (by decide +kernel) (by decide +kernel) (by decide +kernel) rfl ?_
  refine g_dup dX4_init_207 rfl ?_
  refine g_bipush (v := 27) dX4_init_208 (by decide +kernel) ?_
  refine g_bipush (v := 101) dX4_init_210 (by decide +kernel) ?_
  refine g_castore (n := 128) (rows := []) (j := 27) (v := 101) dX4_init_212 gw_uM11 (by decide +kernel) (by decide +kernel) (by decide +kernel) rfl ?_
  refine g_dup dX4_init_213 rfl ?_
  refine g_bipush (v := 28) dX4_init_214 (by decide +kernel) ?_
  refine g_bipush (v := 114) dX4_init_216 (by decide +kernel) ?_
  refine g_castore (n := 128) (rows := []) (j := 28) (v := 114) dX4_init_218 gw_uM11 (by decide +kernel) (by decide +kernel) (by decide +kernel) rfl ?_
  refine g_dup dX4_init_219 rfl ?_
  refine g_bipush (v := 29) dX4_init_220 (by decide +kernel) ?_
  refine g_bipush (v := 116) dX4_init_222 (by decide +kernel) ?_
  refine g_castore (n := 128) (rows := []) (j := 29) (v := 116) dX4_init_224 gw_uM11 (by decide +kernel) (by decide +kernel) (by decide +kernel) rfl ?_
  refine g_dup dX4_init_225 rfl ?_
  refine g_bipush (v := 30) dX4_init_226 (by decide +kernel) ?_
  refine g_bipush (v := 32) dX4_init_228 (by decide +kernel) ?_
  refine g_castore (n := 128) (rows := []) (j := 30) (v := 32) dX4_init_230 gw_uM11 (by decide +kernel) (by decide +kernel) (by decide +kernel) rfl ?_
  refine g_dup dX4_init_231 rfl ?_
  refine g_bipush (v := 31) dX4_init_232 (by decide +kernel) ?_
  refine g_bipush (v := 32) dX4_init_234 (by decide +kernel) ?_
  refine g_castore (n := 128) (rows := []) (j := 31) (v := 32) dX4_init_236 gw_uM11 (by decide +kernel) (by decide +kernel) (by decide +kernel) rfl ?_
  refine g_dup dX4_init_237 rfl ?_
  refine g_bipush (v := 32) dX4_init_238 (by decide +kernel) ?_
  refine g_bipush (v := 100) dX4_init_240 (by decide +kernel) ?_
  refine g_castore (n := 128) (rows := []) (j := 32) (v := 100) dX4_init_242 gw_uM11 (by decide +kernel) (by decide +kernel) (by decide +kernel) rfl ?_
  refine g_dup dX4_init_243 rfl ?_
  refine g_bipush (v := 33) dX4_init_244 (by decide +kernel) ?_
  refine g_bipush (v := 111) dX4_init_246 (by decide +kernel) ?_
  refine g_castore (n := 128) (rows := []) (j := 33) (v := 111) dX4_init_248 gw_uM11 (by decide +kernel) (by decide +kernel) (by decide +kernel) rfl ?_
  refine g_dup dX4_init_249 rfl ?_
  refine g_bipush (v := 34) dX4_init_250 (by decide +kernel) ?_
  refine g_bipush (v := 119) dX4_init_252 (by decide +kernel) ?_
  refine g_castore (n := 128) (rows := []) (j := 34) (v := 119) dX4_init_254 gw_uM11 (by decide +kernel) (by decide +kernel) (by decide +kernel) rfl ?_
  refine g_dup dX4_init_255 rfl ?_
  refine g_bipush (v := 35) dX4_init_256 (by decide +kernel) ?_
  refine g_bipush (v := 115) dX4_init_258 (by decide +kernel) ?_
  refine g_castore (n := 128) (rows := []) (j := 35) (v := 115) dX4_init_260 gw_uM11 (by decide +kernel) (by decide +kernel) (by decide +kernel) rfl ?_
  refine g_dup dX4_init_261 rfl ?_
  refine g_bipush (v := 36) dX4_init_262 (by decide +kernel) ?_
  refine g_bipush (v := 101) dX4_init_264 (by decide +kernel) ?_
  refine g_castore (n := 128) (rows := []) (j := 36) (v := 101) dX4_init_266 gw_uM11 (by decide +kernel) (by decide +kernel) (by decide +kernel) rfl ?_
  refine g_dup dX4_init_267 rfl ?_
  refine g_bipush (v := 37) dX4_init_268 (by decide +kernel) ?_
  refine g_bipush (v := 114) dX4_init_270 (by decide +kernel) ?_
  refine g_castore (n := 128) (rows := []) (j := 37) (v := 114) dX4_init_272 gw_uM11 (by decide +kernel) (by decide +kernel) (by decide +kernel) rfl ?_
  refine g_dup dX4_init_273 rfl ?_
  refine g_bipush (v := 38) dX4_init_274 (by decide +kernel) ?_
  refine g_bipush (v := 32) dX4_init_276 (by decide +kernel) ?_
  refine g_castore (n := 128) (rows := []) (j := 38) (v := 32) dX4_init_278 gw_uM11 (by decide +kernel) (by decide +kernel) (by decide +kernel) rfl ?_
  refine g_dup dX4_init_279 rfl ?_
  refine g_bipush (v := 39) dX4_init_280 (by decide +kernel) ?_
  refine g_bipush (v := 32) dX4_init_282 (by decide +kernel) ?_
  refine g_castore (n := 128) (rows := []) (j := 39) (v := 32) dX4_init_284 gw_uM11 (by decide +kernel) (by decide +kernel) (by decide +kernel) rfl ?_
  refine g_dup dX4_init_285 rfl ?_
  refine g_bipush (v := 40) dX4_init_286 (by decide +kernel) ?_
  refine g_bipush (v := 100) dX4_init_288 (by decide +kernel) ?_
  refine g_castore (n := 128) (rows := []) (j := 40) (v := 100) dX4_init_290 gw_uM11 (by decide +kernel) (by decide +kernel) (by decide +kernel) rfl ?_
  refine g_dup dX4_init_291 rfl ?_
  refine g_bipush (v := 41) dX4_init_292 (by decide +kernel) ?_
  refine g_bipush (v := 114) dX4_init_294 (by decide +kernel) ?_
  refine g_castore (n := 128) (rows := []) (j := 41) (v := 114) dX4_init_296 gw_uM11 (by decide +kernel) (by decide +kernel) (by decide +kernel) rfl ?_
  refine g_dup dX4_init_297 rfl ?_
  refine g_bipush (v := 42) dX4_init_298 (by decide +kernel) ?_
  refine g_bipush (v := 117) dX4_init_300 (by decide +kernel) ?_
  refine g_castore (n := 128) (rows := []) (j := 42) (v := 117) dX4_init_302 gw_uM11 (by decide +kernel) (by decide +kernel) (by decide +kernel) rfl ?_
  refine g_dup dX4_init_303 rfl ?_
  refine g_bipush (v := 43) dX4_init_304 (by decide +kernel) ?_
  refine g_bipush (v := 110) dX4_init_306 (by decide +kernel) ?_
  refine g_castore (n := 128) (rows := []) (j := 43) (v := 110) dX4_init_308 gw_uM11 (by decide +kernel) (by decide +kernel) (by decide +kernel) rfl ?_
  refine g_dup dX4_init_309 rfl ?_
  refine g_bipush (v := 44) dX4_init_310 (by decide +kernel) ?_
  refine g_bipush (v := 107) dX4_init_312 (by decide +kernel) ?_
  refine g_castore (n := 128) (rows := []) (j := 44) (v := 107) dX4_init_314 gw_uM11 (by decide +kernel) (by decide +kernel) (by decide +kernel) rfl ?_
  refine g_dup dX4_init_315 rfl ?_
  refine g_bipush (v := 45) dX4_init_316 (by decide +kernel) ?_
  refine g_bipush (v := 97) dX4_init_318 (by decide +kernel) ?_
  refine g_castore (n := 128) (rows := []) (j := 45) (v := 97) dX4_init_320 gw_uM11 (by decide +kernel) (by decide +kernel) (by decide +kernel) rfl ?_
  refine g_dup dX4_init_321 rfl ?_
  refine g_bipush (v := 46) dX4_init_322 (by decide +kernel) ?_
  refine g_bipush (v := 114) dX4_init_324 (by decide +kernel) ?_
  refine g_castore (n := 128) (rows := []) (j := 46) (v := 114) dX4_init_326 gw_uM11 (by decide +kernel) (by decide +kernel) (by decide +kernel) rfl ?_
  refine g_dup dX4_init_327 rfl ?_
  refine g_bipush (v := 47) dX4_init_328 (by decide +kernel) ?_
  refine g_bipush (v := 100) dX4_init_330 (by decide +kernel) ?_
  refine g_castore (n := 128) (rows := []) (j := 47) (v := 100) dX4_init_332 gw_uM11 (by decide +kernel) (by decide +kernel) (by decide +kernel) rfl ?_
  refine g_dup dX4_init_333 rfl ?_
  refine g_bipush (v := 48) dX4_init_334 (by decide +kernel) ?_
  refine g_bipush (v := 97) dX4_init_336 (by decide +kernel) ?_
  refine g_castore (n := 128) (rows := []) (j := 48) (v := 97) dX4_init_338 gw_uM11 (by decide +kernel) (by decide +kernel) (by decide +kernel) rfl ?_
  refine g_dup dX4_init_339 rfl ?_
  refine g_bipush (v := 49) dX4_init_340 (by decide +kernel) ?_
  refine g_bipush (v := 116) dX4_init_342 (by decide +kernel) ?_
  refine g_castore (n := 128) (rows := []) (j := 49) (v := 116) dX4_init_344 gw_uM11 (by decide +kernel) (by decide +kernel) (by decide +kernel) rfl ?_
  refine g_dup dX4_init_345 rfl ?_
  refine g_bipush (v := 50) dX4_init_346 (by decide +kernel) ?_
  refine g_bipush (v := 32) dX4_init_348 (by decide +kernel) ?_
  refine g_castore (n := 128) (rows := []) (j := 50) (v := 32) dX4_init_350 gw_uM11 (by decide +kernel) (by decide +kernel) (by decide +kernel) rfl ?_
  refine g_dup dX4_init_351 rfl ?_
  refine g_bipush (v := 51) dX4_init_352 (by decide +kernel) ?_
  refine g_bipush (v := 32) dX4_init_354 (by decide +kernel) ?_
  refine g_castore (n := 128) (rows := []) (j := 51) (v := 32) dX4_init_356 gw_uM11 (by decide +kernel) (by decide +kernel) (by decide +kernel) rfl ?_
  refine g_dup dX4_init_357 rfl ?_
  refine g_bipush (v := 52) dX4_init_358 (by decide +kernel) ?_
  refine g_bipush (v := 32) dX4_init_360 (by decide +kernel) ?_
  refine g_castore (n := 128) (rows := []) (j := 52) (v := 32) dX4_init_362 gw_uM11 (by decide +kernel) (by decide +kernel) (by decide +kernel) rfl ?_
  refine g_dup dX4_init_363 rfl ?_
  refine g_bipush (v := 53) dX4_init_364 (by decide +kernel) ?_
  refine g_bipush (v := 32) dX4_init_366 (by decide +kernel) ?_
  refine g_castore (n := 128) (rows := []) (j := 53) (v := 32) dX4_init_368 gw_uM11 (by decide +kernel) (by decide +kernel) (by decide +kernel) rfl ?_
  refine g_dup dX4_init_369 rfl ?_
  refine g_bipush (v := 54) dX4_init_370 (by decide +kernel) ?_
  refine g_bipush (v := 32) dX4_init_372 (by decide +kernel) ?_
  refine g_castore (n := 128) (rows := []) (j := 54) (v := 32) dX4_init_374 gw_uM11 (by decide +kernel) (by decide +kernel) (by decide +kernel) rfl ?_
  refine g_dup dX4_init_375 rfl ?_
  refine g_bipush (v := 55) dX4_init_376 (by decide +kernel) ?_
  refine g_bipush (v := 32) dX4_init_378 (by decide +kernel) ?_
  refine g_castore (n := 128) (rows := []) (j := 55) (v := 32) dX4_init_380 gw_uM11 (by decide +kernel) (by decide +kernel) (by decide +kernel) rfl ?_
  refine g_dup dX4_init_381 rfl ?_
  refine g_bipush (v := 56) dX4_init_382 (by decide +kernel) ?_
  refine g_bipush (v := 115) dX4_init_384 (by decide +kernel) ?_
  refine g_castore (n := 128) (rows := []) (j := 56) (v := 115) dX4_init_386 gw_uM11 (by decide +kernel) (by decide +kernel) (by decide +kernel) rfl ?_
  refine g_dup dX4_init_387 rfl ?_
  refine g_bipush (v := 57) dX4_init_388 (by decide +kernel) ?_
  refine g_bipush (v := 117) dX4_init_390 (by decide +kernel) ?_
  refine g_castore (n := 128) (rows := []) (j := 57) (v := 117) dX4_init_392 gw_uM11 (by decide +kernel) (by decide +kernel) (by decide +kernel) rfl ?_
  refine g_dup dX4_init_393 rfl ?_
  refine g_bipush (v := 58) dX4_init_394 (by decide +kernel) ?_
  refine g_bipush (v := 114) dX4_init_396 (by decide +kernel) ?_
  refine g_castore (n := 128) (rows := []) (j := 58) (v := 114) dX4_init_398 gw_uM11 (by decide +kernel) (by decide +kernel) (by decide +kernel) rfl ?_
  refine g_dup dX4_init_399 rfl ?_
  refine g_bipush (v := 59) dX4_init_400 (by decide +kernel) ?_
  refine g_bipush (v := 101) dX4_init_402 (by decide +kernel) ?_
  refine g_castore (n := 128) (rows := []) (j := 59) (v := 101) dX4_init_404 gw_uM11 (by decide +kernel) (by decide +kernel) (by decide +kernel) rfl ?_
  refine g_dup dX4_init_405 rfl ?_
  refine g_bipush (v := 60) dX4_init_406 (by decide +kernel) ?_
  refine g_bipush (v := 32) dX4_init_408 (by decide +kernel) ?_
  refine g_castore (n := 128) (rows := []) (j := 60) (v := 32) dX4_init_410 gw_uM11 (by decide +kernel) (by decide +kernel) (by decide +kernel) rfl ?_
  refine g_dup dX4_init_411 rfl ?_
  refine g_bipush (v := 61) dX4_init_412 (by decide +kernel) ?_
  refine g_bipush (v := 32) dX4_init_414 (by decide +kernel) ?_
  refine g_castore (n := 128) (rows := []) (j := 61) (v := 32) dX4_init_416 gw_uM11 (by decide +kernel) (by decide +kernel) (by decide +kernel) rfl ?_
  refine g_dup dX4_init_417 rfl ?_
  refine g_bipush (v := 62) dX4_init_418 (by decide +kernel) ?_
  refine g_bipush (v := 32) dX4_init_420 (by decide +kernel) ?_
  refine g_castore (n := 128) (rows := []) (j := 62) (v := 32) dX4_init_422 gw_uM11 (by decide +kernel) (by decide +kernel) (by decide +kernel) rfl ?_
  refine g_dup dX4_init_423 rfl ?_
  refine g_bipush (v := 63) dX4_init_424 (by decide +kernel) ?_
  refine g_bipush (v := 32) dX4_init_426 (by decide +kernel) ?_
  refine g_castore (n := 128) (rows := []) (j := 63) (v := 32) dX4_init_428 gw_uM11 (by decide +kernel) (by decide +kernel) (by decide +kernel) rfl ?_
  refine g_dup dX4_init_429 rfl ?_
  refine g_bipush (v := 64) dX4_init_430 (by decide +kernel) ?_
  refine g_bipush (v := 115) dX4_init_432 (by decide +kernel) ?_
  refine g_castore (n := 128) (rows := []) (j := 64) (v := 115) dX4_init_434 gw_uM11 (by decide +kernel) (by decide +kernel) (by decide +kernel) rfl ?_
  refine g_dup dX4_init_435 rfl ?_
  refine g_bipush (v := 65) dX4_init_436 (by decide +kernel) ?_
  refine g_bipush (v := 101) dX4_init_438 (by decide +kernel) ?_
  refine g_castore (n := 128) (rows := []) (j := 65) (v := 101) dX4_init_440 gw_uM11 (by decide +kernel) (by decide +kernel) (by decide +kernel) rfl ?_
  refine g_dup dX4_init_441 rfl ?_
  refine g_bipush (v := 66) dX4_init_442 (by decide +kernel) ?_
  refine g_bipush (v := 110) dX4_init_444 (by decide +kernel) ?_
  refine g_castore (n := 128) (rows := []) (j := 66) (v := 110) dX4_init_446 gw_uM11 (by decide +kernel) (by decide +kernel) (by decide +kernel) rfl ?_
  refine g_dup dX4_init_447 rfl ?_
  refine g_bipush (v := 67) dX4_init_448 (by decide +kernel) ?_
  refine g_bipush (v := 115) dX4_init_450 (by decide +kernel) ?_
  refine g_castore (n := 128) (rows := []) (j := 67) (v := 115) dX4_init_452 gw_uM11 (by decide +kernel) (by decide +kernel) (by decide +kernel) rfl ?_
  refine g_dup dX4_init_453 rfl ?_
  refine g_bipush (v := 68) dX4_init_454 (by decide +kernel) ?_
  refine g_bipush (v := 101) dX4_init_456 (by decide +kernel) ?_
  refine g_castore (n := 128) (rows := []) (j := 68) (v := 101) dX4_init_458 gw_uM11 (by decide +kernel) (by decide +kernel) (by decide +kernel) rfl ?_
  refine g_dup dX4_init_459 rfl ?_
  refine g_bipush (v := 69) dX4_init_460 (by decide +kernel) ?_
  refine g_bipush (v := 32) dX4_init_462 (by decide +kernel) ?_
  refine g_castore (n := 128) (rows := []) (j := 69) (v := 32) dX4_init_464 gw_uM11 (by decide +kernel) (by decide +kernel) (by decide +kernel) rfl ?_
  refine g_dup dX4_init_465 rfl ?_
  refine g_bipush (v := 70) dX4_init_466 (by decide +kernel) ?_
  refine g_bipush (v := 32) dX4_init_468 (by decide +kernel) ?_
  refine g_castore (n := 128) (rows := []) (j := 70) (v := 32) dX4_init_470 gw_uM11 (by decide +kernel) (by decide +kernel) (by decide +kernel) rfl ?_
  refine g_dup dX4_init_471 rfl ?_
  refine g_bipush (v := 71) dX4_init_472 (by decide +kernel) ?_
  refine g_bipush (v := 32) dX4_init_474 (by decide +kernel) ?_
  refine g_castore (n := 128) (rows := []) (j := 71) (v := 32) dX4_init_476 gw_uM11 (by decide +kernel) (by decide +kernel) (by decide +kernel) rfl ?_
  refine g_dup dX4_init_477 rfl ?_
  refine g_bipush (v := 72) dX4_init_478 (by decide +kernel) ?_
  refine g_bipush (v := 105) dX4_init_480 (by decide +kernel) ?_
  refine g_castore (n := 128) (rows := []) (j := 72) (v := 105) dX4_init_482 gw_uM11 (by decide +kernel) (by decide +kernel) (by decide +kernel) rfl ?_
  refine g_dup dX4_init_483 rfl ?_
  refine g_bipush (v := 73) dX4_init_484 (by decide +kernel) ?_
  refine g_bipush (v := 115) dX4_init_486 (by decide +kernel) ?_
  refine g_castore (n := 128) (rows := []) (j := 73) (v := 115) dX4_init_488 gw_uM11 (by decide +kernel) (by decide +kernel) (by decide +kernel) rfl ?_
  refine g_dup dX4_init_489 rfl ?_
  refine g_bipush (v := 74) dX4_init_490 (by decide +kernel) ?_
  refine g_bipush (v := 32) dX4_init_492 (by decide +kernel) ?_
  refine g_castore (n := 128) (rows := []) (j := 74) (v := 32) dX4_init_494 gw_uM11 (by decide +kernel) (by decide +kernel) (by decide +kernel) rfl ?_
  refine g_dup dX4_init_495 rfl ?_
  refine g_bipush (v := 75) dX4_init_496 (by decide +kernel) ?_
  refine g_bipush (v := 32) dX4_init_498 (by decide +kernel) ?_
  refine g_castore (n := 128) (rows := []) (j := 75) (v := 32) dX4_init_500 gw_uM11 (by decide +kernel) (by decide +kernel) (by decide +kernel) rfl ?_
  refine g_dup dX4_init_501 rfl ?_
  refine g_bipush (v := 76) dX4_init_502 (by decide +kernel) ?_
  refine g_bipush (v := 32) dX4_init_504 (by decide +kernel) ?_
  refine g_castore (n := 128) (rows := []) (j := 76) (v := 32) dX4_init_506 gw_uM11 (by decide +kernel) (by decide +kernel) (by decide +kernel) rfl ?_
  refine g_dup dX4_init_507 rfl ?_
  refine g_bipush (v := 77) dX4_init_508 (by decide +kernel) ?_
  refine g_bipush (v := 32) dX4_init_510 (by decide +kernel) ?_
  refine g_castore (n := 128) (rows := []) (j := 77) (v := 32) dX4_init_512 gw_uM11 (by decide +kernel) (by decide +kernel) (by decide +kernel) rfl ?_
  refine g_dup dX4_init_513 rfl ?_
  refine g_bipush (v := 78) dX4_init_514 (by decide +kernel) ?_
  refine g_bipush (v := 32) dX4_init_516 (by decide +kernel) ?_
  refine g_castore (n := 128) (rows := []) (j := 78) (v := 32) dX4_init_518 gw_uM11 (by decide +kernel) (by decide +kernel) (by decide +kernel) rfl ?_
  refine g_dup dX4_init_519 rfl ?_
  refine g_bipush (v := 79) dX4_init_520 (by decide +kernel) ?_
  refine g_bipush (v := 32) dX4_init_522 (by decide +kernel) ?_
  refine g_castore (n := 128) (rows := []) (j := 79) (v := 32) dX4_init_524 gw_uM11 (by decide +kernel) (by decide +kernel) (by decide +kernel) rfl ?_
  refine g_dup dX4_init_525 rfl ?_
  refine g_bipush (v := 80) dX4_init_526 (by decide +kernel) ?_
  refine g_bipush (v := 104) dX4_init_528 (by decide +kernel) ?_
  refine g_castore (n := 128) (rows := []) (j := 80) (v := 104) dX4_init_530 gw_uM11 (by decide +kernel) (by decide +kernel) (by decide +kernel) rfl ?_
  refine g_dup dX4_init_531 rfl ?_
  refine g_bipush (v := 81) dX4_init_532 (by decide +kernel) ?_
  refine g_bipush (v := 101) dX4_init_534 (by decide +kernel) ?_
  refine g_castore (n := 128) (rows := []) (j := 81) (v := 101) dX4_init_536 gw_uM11 (by decide +kernel) (by decide +kernel) (by decide +kernel) rfl ?_
  refine g_dup dX4_init_537 rfl ?_
  refine g_bipush (v := 82) dX4_init_538 (by decide +kernel) ?_
  refine g_bipush (v := 105) dX4_init_540 (by decide +kernel) ?_
  refine g_castore (n := 128) (rows := []) (j := 82) (v := 105) dX4_init_542 gw_uM11 (by decide +kernel) (by decide +kernel) (by decide +kernel) rfl ?_
  refine g_dup dX4_init_543 rfl ?_
  refine g_bipush (v := 83) dX4_init_544 (by decide +kernel) ?_
  refine g_bipush (v := 103) dX4_init_546 (by decide +kernel) ?_
  refine g_castore (n := 128) (rows := []) (j := 83) (v := 103) dX4_init_548 gw_uM11 (by decide +kernel) (by decide +kernel) (by decide +kernel) rfl ?_
  refine g_dup dX4_init_549 rfl ?_
  refine g_bipush (v := 84) dX4_init_550 (by decide +kernel) ?_
  refine g_bipush (v := 104) dX4_init_552 (by decide +kernel) ?_
  refine g_castore (n := 128) (rows := []) (j := 84) (v := 104) dX4_init_554 gw_uM11 (by decide +kernel) (by decide +kernel) (by decide +kernel) rfl ?_
  refine g_dup dX4_init_555 rfl ?_
  refine g_bipush (v := 85) dX4_init_556 (by decide +kernel) ?_
  refine g_bipush (v := 116) dX4_init_558 (by decide +kernel) ?_
  refine g_castore (n := 128) (rows := []) (j := 85) (v := 116) dX4_init_560 gw_uM11 (by decide +kernel) (by decide +kernel) (by decide +kernel) rfl ?_
  refine g_dup dX4_init_561 rfl ?_
  refine g_bipush (v := 86) dX4_init_562 (by decide +kernel) ?_
  refine g_bipush (v := 32) dX4_init_564 (by decide +kernel) ?_
  refine g_castore (n := 128) (rows := []) (j := 86) (v := 32) dX4_init_566 gw_uM11 (by decide +kernel) (by decide +kernel) (by decide +kernel) rfl ?_
  refine g_dup dX4_init_567 rfl ?_
  refine g_bipush (v := 87) dX4_init_568 (by decide +kernel) ?_
  refine g_bipush (v := 32) dX4_init_570 (by decide +kernel) ?_
  refine g_castore (n := 128) (rows := []) (j := 87) (v := 32) dX4_init_572 gw_uM11 (by decide +kernel) (by decide +kernel) (by decide +kernel) rfl ?_
  refine g_dup dX4_init_573 rfl ?_
  refine g_bipush (v := 88) dX4_init_574 (by decide +kernel) ?_
  refine g_bipush (v := 119) dX4_init_576 (by decide +kernel) ?_
  refine g_castore (n := 128) (rows := []) (j := 88) (v := 119) dX4_init_578 gw_uM11 (by decide +kernel) (by decide +kernel) (by decide +kernel) rfl ?_
  refine g_dup dX4_init_579 rfl ?_
  refine g_bipush (v := 89) dX4_init_580 (by decide +kernel) ?_
  refine g_bipush (v := 97) dX4_init_582 (by decide +kernel) ?_
  refine g_castore (n := 128) (rows := []) (j := 89) (v := 97) dX4_init_584 gw_uM11 (by decide +kernel) (by decide +kernel) (by decide +kernel) rfl ?_
  refine g_dup dX4_init_585 rfl ?_
  refine g_bipush (v := 90) dX4_init_586 (by decide +kernel) ?_
  refine g_bipush (v := 116) dX4_init_588 (by decide +kernel) ?_
  refine g_castore (n := 128) (rows := []) (j := 90) (v := 116) dX4_init_590 gw_uM11 (by decide +kernel) (by decide +kernel) (by decide +kernel) rfl ?_
  refine g_dup dX4_init_591 rfl ?_
  refine g_bipush (v := 91) dX4_init_592 (by decide +kernel) ?_
  refine g_bipush (v := 101) dX4_init_594 (by decide +kernel) ?_
  refine g_castore (n := 128) (rows := []) (j := 91) (v := 101) dX4_init_596 gw_uM11 (by decide +kernel) (by decide +kernel) (by decide +kernel) rfl ?_
  refine g_dup dX4_init_597 rfl ?_
  refine g_bipush (v := 92) dX4_init_598 (by decide +kernel) ?_
  refine g_bipush (v := 114) dX4_init_600 (by decide +kernel) ?_
  refine g_castore (n := 128) (rows := []) (j := 92) (v := 114) dX4_init_602 gw_uM11 (by decide +kernel) (by decide +kernel) (by decide +kernel) rfl ?_
  refine g_dup dX4_init_603 rfl ?_
  refine g_bipush (v := 93) dX4_init_604 (by decide +kernel) ?_
  refine g_bipush (v := 32) dX4_init_606 (by decide +kernel) ?_
  refine g_castore (n := 128) (rows := []) (j := 93) (v := 32) dX4_init_608 gw_uM11 (by decide +kernel) (by decide +kernel) (by decide +kernel) rfl ?_
  refine g_dup dX4_init_609 rfl ?_
  refine g_bipush (v := 94) dX4_init_610 (by decide +kernel) ?_
  refine g_bipush (v := 32) dX4_init_612 (by decide +kernel) ?_
  refine g_castore (n := 128) (rows := []) (j := 94) (v := 32) dX4_init_614 gw_uM11 (by decide +kernel) (by decide +kernel) (by decide +kernel) rfl ?_
  refine g_dup dX4_init_615 rfl ?_
  refine g_bipush (v := 95) dX4_init_616 (by decide +kernel) ?_
  refine g_bipush (v := 32) dX4_init_618 (by decide +kernel) ?_
  refine g_castore (n := 128) (rows := []) (j := 95) (v := 32) dX4_init_620 gw_uM11 (by decide +kernel) (by decide +kernel) (by decide +kernel) rfl ?_
  refine g_dup dX4_init_621 rfl ?_
  refine g_bipush (v := 96) dX4_init_622 (by decide +kernel) ?_
  refine g_bipush (v := 115) dX4_init_624 (by decide +kernel) ?_
  refine g_castore (n := 128) (rows := []) (j := 96) (v := 115) dX4_init_626 gw_uM11 (by decide +kernel) (by decide +kernel) (by decide +kernel) rfl ?_
  refine g_dup dX4_init_627 rfl ?_
  refine g_bipush (v := 97) dX4_init_628 (by decide +kernel) ?_
  refine g_bipush (v := 112) dX4_init_630 (by decide +kernel) ?_
  refine g_castore (n := 128) (rows := []) (j := 97) (v := 112) dX4_init_632 gw_uM11 (by decide +kernel) (by decide +kernel) (by decide +kernel) rfl ?_
  refine g_dup dX4_init_633 rfl ?_
  refine g_bipush (v := 98) dX4_init_634 (by decide +kernel) ?_
  refine g_bipush (v := 114) dX4_init_636 (by decide +kernel) ?_
  refine g_castore (n := 128) (rows := []) (j := 98) (v := 114) dX4_init_638 gw_uM11 (by decide +kernel) (by decide +kernel) (by decide +kernel) rfl ?_
  refine g_dup dX4_init_639 rfl ?_
  refine g_bipush (v := 99) dX4_init_640 (by decide +kernel) ?_
  refine g_bipush (v := 105) dX4_init_642 (by decide +kernel) ?_
  refine g_castore (n := 128) (rows := []) (j := 99) (v := 105) dX4_init_644 gw_uM11 (by decide +kernel) (by decide +kernel) (by decide +kernel) rfl ?_
  refine g_dup dX4_init_645 rfl ?_
  refine g_bipush (v := 100) dX4_init_646 (by decide +kernel) ?_
  refine g_bipush (v := 110) dX4_init_648 (by decide +kernel) ?_
  refine g_castore (n := 128) (rows := []) (j := 100) (v := 110) dX4_init_650 gw_uM11 (by decide +kernel) (by decide +kernel) (by decide +kernel) rfl ?_
  refine g_dup dX4_init_651 rfl ?_
  refine g_bipush (v := 101) dX4_init_652 (by decide +kernel) ?_
  refine g_bipush (v := 103) dX4_init_654 (by decide +kernel) ?_
  refine g_castore (n := 128) (rows := []) (j := 101) (v := 103) dX4_init_656 gw_uM11 (by decide +kernel) (by decide +kernel) (by decide +kernel) rfl ?_
  refine g_dup dX4_init_657 rfl ?_
  refine g_bipush (v := 102) dX4_init_658 (by decide +kernel) ?_
  refine g_bipush (v := 32) dX4_init_660 (by decide +kernel) ?_
  refine g_castore (n := 128) (rows := []) (j := 102) (v := 32) dX4_init_662 gw_uM11 (by decide +kernel) (by decide +kernel) (by decide +kernel) rfl ?_
  refine g_dup dX4_init_663 rfl ?_
  refine g_bipush (v := 103) dX4_init_664 (by decide +kernel) ?_
  refine g_bipush (v := 32) dX4_init_666 (by decide +kernel) ?_
  refine g_castore (n := 128) (rows := []) (j := 103) (v := 32) dX4_init_668 gw_uM11 (by decide +kernel) (by decide +kernel) (by decide +kernel) rfl ?_
  refine g_dup dX4_init_669 rfl ?_
  refine g_bipush (v := 104) dX4_init_670 (by decide +kernel) ?_
  refine g_bipush (v := 115) dX4_init_672 (by decide +kernel) ?_
  refine g_castore (n := 128) (rows := []) (j := 104) (v := 115) dX4_init_674 gw_uM11 (by decide +kernel) (by decide +kernel) (by decide +kernel) rfl ?_
  refine g_dup dX4_init_675 rfl ?_
  refine g_bipush (v := 105) dX4_init_676 (by decide +kernel) ?_
  refine g_bipush (v := 101) dX4_init_678 (by decide +kernel) ?_
  refine g_castore (n := 128) (rows := []) (j := 105) (v := 101) dX4_init_680 gw_uM11 (by decide +kernel) (by decide +kernel) (by decide +kernel) rfl ?_
  refine g_dup dX4_init_681 rfl ?_
  refine g_bipush (v := 106) dX4_init_682 (by decide +kernel) ?_
  refine g_bipush (v := 101) dX4_init_684 (by decide +kernel) ?_
  refine g_castore (n := 128) (rows := []) (j := 106) (v := 101) dX4_init_686 gw_uM11 (by decide +kernel) (by decide +kernel) (by decide +kernel) rfl ?_
  refine g_dup dX4_init_687 rfl ?_
  refine g_bipush (v := 107) dX4_init_688 (by decide +kernel) ?_
  refine g_bipush (v := 112) dX4_init_690 (by decide +kernel) ?_
  refine g_castore (n := 128) (rows := []) (j := 107) (v := 112) dX4_init_692 gw_uM11 (by decide +kernel) (by decide +kernel) (by decide +kernel) rfl ?_
  refine g_dup dX4_init_693 rfl ?_
  refine g_bipush (v := 108) dX4_init_694 (by decide +kernel) ?_
  refine g_bipush (v := 32) dX4_init_696 (by decide +kernel) ?_
  refine g_castore (n := 128) (rows := []) (j := 108) (v := 32) dX4_init_698 gw_uM11 (by decide +kernel) (by decide +kernel) (by decide +kernel) rfl ?_
  refine g_dup dX4_init_699 rfl ?_
  refine g_bipush (v := 109) dX4_init_700 (by decide +kernel) ?_
  refine g_bipush (v := 32) dX4_init_702 (by decide +kernel) ?_
  refine g_castore (n := 128) (rows := []) (j := 109) (v := 32) dX4_init_704 gw_uM11 (by decide +kernel) (by decide +kernel) (by decide +kernel) rfl ?_
  refine g_dup dX4_init_705 rfl ?_
  refine g_bipush (v := 110) dX4_init_706 (by decide +kernel) ?_
  refine g_bipush (v := 32) dX4_init_708 (by decide +kernel) ?_
  refine g_castore (n := 128) (rows := []) (j := 110) (v := 32) dX4_init_710 gw_uM11 (by decide +kernel) (by decide +kernel) (by decide +kernel) rfl ?_
  refine g_dup dX4_init_711 rfl ?_
  refine g_bipush (v := 111) dX4_init_712 (by decide +kernel) ?_
  refine g_bipush (v := 32) dX4_init_714 (by decide +kernel) ?_
  refine g_castore (n := 128) (rows := []) (j := 111) (v := 32) dX4_init_716 gw_uM11 (by decide +kernel) (by decide +kernel) (by decide +kernel) rfl ?_
  refine g_dup dX4_init_717 rfl ?_
  refine g_bipush (v := 112) dX4_init_718 (by decide +kernel) ?_
  refine g_bipush (v := 98) dX4_init_720 (by decide +kernel) ?_
  refine g_castore (n := 128) (rows := []) (j := 112) (v := 98) dX4_init_722 gw_uM11 (by decide +kernel) (by decide +kernel) (by decide +kernel) rfl ?_
  refine g_dup dX4_init_723 rfl ?_
  refine g_bipush (v := 113) dX4_init_724 (by decide +kernel) ?_
  refine g_bipush (v := 111) dX4_init_726 (by decide +kernel) ?_
  refine g_castore (n := 128) (rows := []) (j := 113) (v := 111) dX4_init_728 gw_uM11 (by decide +kernel) (by decide +kernel) (by decide +kernel) rfl ?_
  refine g_dup dX4_init_729 rfl ?_
  refine g_bipush (v := 114) dX4_init_730 (by decide +kernel) ?_
  refine g_bipush (v := 103) dX4_init_732 (by decide +kernel) ?_
  refine g_castore (n := 128) (rows := []) (j := 114) (v := 103) dX4_init_734 gw_uM11 (by decide +kernel) (by decide +kernel) (by decide +kernel) rfl ?_
  refine g_dup dX4_init_735 rfl ?_
  refine g_bipush (v := 115) dX4_init_736 (by decide +kernel) ?_
  refine g_bipush (v := 32) dX4_init_738 (by decide +kernel) ?_
  refine g_castore (n := 128) (rows := []) (j := 115) (v := 32) dX4_init_740 gw_uM11 (by decide +kernel) (by decide +kernel) (by decide +kernel) rfl ?_
  refine g_dup dX4_init_741 rfl ?_
  refine g_bipush (v := 116) dX4_init_742 (by decide +kernel) ?_
  refine g_bipush (v := 32) dX4_init_744 (by decide +kernel) ?_
  refine g_castore (n := 128) (rows := []) (j := 116) (v := 32) dX4_init_746 gw_uM11 (by decide +kernel) (by decide +kernel) (by decide +kernel) rfl ?_
  refine g_dup dX4_init_747 rfl ?_
  refine g_bipush (v := 117) dX4_init_748 (by decide +kernel) ?_
  refine g_bipush (v := 32) dX4_init_750 (by decide +kernel) ?_
  refine g_castore (n := 128) (rows := []) (j := 117) (v := 32) dX4_init_752 gw_uM11 (by decide +kernel) (by decide +kernel) (by decide +kernel) rfl ?_
  refine g_dup dX4_init_753 rfl ?_
  refine g_bipush (v := 118) dX4_init_754 (by decide +kernel) ?_
  refine g_bipush (v := 32) dX4_init_756 (by decide +kernel) ?_
  refine g_castore (n := 128) (rows := []) (j := 118) (v := 32) dX4_init_758 gw_uM11 (by decide +kernel) (by decide +kernel) (by decide +kernel) rfl ?_
  refine g_dup dX4_init_759 rfl ?_
  refine g_bipush (v := 119) dX4_init_760 (by decide +kernel) ?_
  refine g_bipush (v := 32) dX4_init_762 (by decide +kernel) ?_
  refine g_castore (n := 128) (rows := []) (j := 119) (v := 32) dX4_init_764 gw_uM11 (by decide +kernel) (by decide +kernel) (by decide +kernel) rfl ?_
  refine g_dup dX4_init_765 rfl ?_
  refine g_bipush (v := 120) dX4_init_766 (by decide +kernel) ?_
  refine g_bipush (v := 100) dX4_init_768 (by decide +kernel) ?_
  refine g_castore (n := 128) (rows := []) (j := 120) (v := 100) dX4_init_770 gw_uM11 (by decide +kernel) (by decide +kernel) (by decide +kernel) rfl ?_
  refine g_dup dX4_init_771 rfl ?_
  refine g_bipush (v := 121) dX4_init_772 (by decide +kernel) ?_
  refine g_bipush (v := 114) dX4_init_774 (by decide +kernel) ?_
  refine g_castore (n := 128) (rows := []) (j := 121) (v := 114) dX4_init_776 gw_uM11 (by decide +kernel) (by decide +kernel) (by decide +kernel) rfl ?_
  refine g_dup dX4_init_777 rfl ?_
  refine g_bipush (v := 122) dX4_init_778 (by decide +kernel) ?_
  refine g_bipush (v := 105) dX4_init_780 (by decide +kernel) ?_
  refine g_castore (n := 128) (rows := []) (j := 122) (v := 105) dX4_init_782 gw_uM11 (by decide +kernel) (by decide +kernel) (by decide +kernel) rfl ?_
  refine g_dup dX4_init_783 rfl ?_
  refine g_bipush (v := 123) dX4_init_784 (by decide +kernel) ?_
  refine g_bipush (v := 110) dX4_init_786 (by decide +kernel) ?_
  refine g_castore (n := 128) (rows := []) (j := 123) (v := 110) dX4_init_788 gw_uM11 (by decide +kernel) (by decide +kernel) (by decide +kernel) rfl ?_
  refine g_dup dX4_init_789 rfl ?_
  refine g_bipush (v := 124) dX4_init_790 (by decide +kernel) ?_
  refine g_bipush (v := 107) dX4_init_792 (by decide +kernel) ?_
  refine g_castore (n := 128) (rows := []) (j := 124) (v := 107) dX4_init_794 gw_uM11 (by decide +kernel) (by decide +kernel) (by decide +kernel) rfl ?_
  refine g_dup dX4_init_795 rfl ?_
  refine g_bipush (v := 125) dX4_init_796 (by decide +kernel) ?_
  refine g_bipush (v := 32) dX4_init_798 (by decide +kernel) ?_
  refine g_castore (n := 128) (rows := []) (j := 125) (v := 32) dX4_init_800 gw_uM11 (by decide +kernel) (by decide +kernel) (by decide +kernel) rfl ?_
  refine g_dup dX4_init_801 rfl ?_
  refine g_bipush (v := 126) dX4_init_802 (by decide +kernel) ?_
  refine g_bipush (v := 32) dX4_init_804 (by decide +kernel) ?_
  refine g_castore (n := 128) (rows := []) (j := 126) (v := 32) dX4_init_806 gw_uM11 (by decide +kernel) (by decide +kernel) (by decide +kernel) rfl ?_
  refine g_dup dX4_init_807 rfl ?_
  refine g_bipush (v := 127) dX4_init_808 (by decide +kernel) ?_
  refine g_bipush (v := 32) dX4_init_810 (by decide +kernel) ?_
  refine g_castore (n := 128) (rows := []) (j := 127) (v := 32) dX4_init_812 gw_uM11 (by decide +kernel) (by decide +kernel) (by decide +kernel) rfl ?_
  refine g_putF (j := 12) (k := 53) (fs := [some (some 54), some (some 55), some (some 56), none, none, some (some 57), some (some 58), none, none, none, none, none, some none, none, some none, none, some none, some none, some none, some none, some none, some none, some none, none, none, none]) (S' := uM12) trivial dX4_init_813 kq_X4_25 rfl rfl rfl ?_
  refine g_aload_n dX4_init_816 rfl rfl ?_
  refine g_bipush (v := 30) dX4_init_817 (by decide +kernel) ?_
  refine g_newa (t := 0) (N := 30) (q := 60) (S' := uM13) dX4_init_819 kar_int (fun _ => rfl) (Or.inl ⟨by decide, rfl⟩) (by decide) (by decide +kernel) (by decide) (by decide +kernel) rfl rfl (by decide) ?_
  refine g_putF (j := 14) (k := 53) (fs := [some (some 54), some (some 55), some (some 56), none, none, some (some 57), some (some 58), none, none, none, none, none, some (some 59), none, some none, none, some none, some none, some none, some none, some none, some none, some none, none, none, none]) (S' := uM14) trivial dX4_init_821 kq_X4_29 rfl rfl rfl ?_
  refine g_aload_n dX4_init_824 rfl rfl ?_
  refine g_iconst (v := 4) dX4_init_825 (by decide +kernel) ?_
  refine g_newa (t := 0) (N := 4) (q := 61) (S' := uM15) dX4_init_826 kar_int (fun _ => rfl) (Or.inl ⟨by decide, rfl⟩) (by decide) (by decide +kernel) (by decide) (by decide +kernel) rfl rfl (by decide) ?_
  refine g_putF (j := 16) (k := 53) (fs := [some (some 54), some (some 55), some (some 56), none, none, some (some 57), some (some 58), none, none, none, none, none, some (some 59), none, some (some 60), none, some none, some none, some none, some none, some none, some none, some none, none, none, none]) (S' := uM16) trivial dX4_init_828 kq_X4_32 rfl rfl rfl ?_
  refine g_aload_n dX4_init_831 rfl rfl ?_
  refine g_iconst (v := 4) dX4_init_832 (by decide +kernel) ?_
  refine g_newa (t := 0) (N := 4) (q := 62) (S' := uM17) dX4_init_833 kar_int (fun _ => rfl) (Or.inl ⟨by decide, rfl⟩) (by decide) (by decide +kernel) (by decide) (by decide +kernel) rfl rfl (by decide) ?_
  refine g_putF (j := 17) (k := 53) (fs := [some (some 54), some (some 55), some (some 56), none, none, some (some 57), some (some 58), none, none, none, none, none, some (some 59), none, some (some 60), none, some (some 61), some none, some none, some none, some none, some none, some none, none, none, none]) (S' := uM18) trivial dX4_init_835 kq_X4_35 rfl rfl rfl ?_
  refine g_aload_n dX4_init_838 rfl rfl ?_
  refine g_sipush (v := 160) dX4_init_839 (by decide +kernel) ?_
  refine g_newa (t := 3) (N := 160) (q := 63) (S' := uM19) dX4_init_842 kar_long (fun _ => rfl) (Or.inr ⟨rfl, rfl⟩) (by decide) (by decide +kernel) (by decide) (by decide +kernel) rfl rfl (by decide) ?_
  refine g_putF (j := 18) (k := 53) (fs := [some (some 54), some (some 55), some (some 56), none, none, some (some 57), some (some 58), none, none, none, none, none, some (some 59), none, some (some 60), none, some (some 61), some (some 62), some none, some none, some none, some none, some none, none, none, none]) (S' := uM20) trivial dX4_init_844 kq_X4_38 rfl rfl rfl ?_
  refine g_aload_n dX4_init_847 rfl rfl ?_
  refine g_iconst (v := 4) dX4_init_848 (by decide +kernel) ?_
  refine g_newa (t := 0) (N := 4) (q := 64) (S' := uM21) dX4_init_849 kar_int (fun _ => rfl) (Or.inl ⟨by decide, rfl⟩) (by decide) (by decide +kernel) (by decide) (by decide +kernel) rfl rfl (by decide) ?_
  refine g_putF (j := 19) (k := 53) (fs := [some (some 54), some (some 55), some (some 56), none, none, some (some 57), some (some 58), none, none, none, none, none, some (some 59), none, some (some 60), none, some (some 61), some (some 62), some (some 63), some none, some none, some none, some none, none, none, none]) (S' := uM22) trivial dX4_init_851 kq_X4_42 rfl rfl rfl ?_
  refine g_aload_n dX4_init_854 rfl rfl ?_
  refine g_iconst (v := 4) dX4_init_855 (by decide +kernel) ?_
  refine g_newa (t := 0) (N := 4) (q := 65) (S' := uM23) dX4_init_856 kar_int (fun _ => rfl) (Or.inl ⟨by decide, rfl⟩) (by decide) (by decide +kernel) (by decide) (by decide +kernel) rfl rfl (by decide) ?_
  refine g_putF (j := 20) (k := 53) (fs := [some (some 54), some (some 55), some (some 56), none, none, some (some 57), some (some 58), none, none, none, none, none, some (some 59), none, some (some 60), none, some (some 61), some (some 62), some (some 63), some (some 64), some none, some none, some none, none, none, none]) (S' := uM24) trivial dX4_init_858 kq_X4_45 rfl rfl rfl ?_
  refine g_aload_n dX4_init_861 rfl rfl ?_
  refine g_iconst (v := 4) dX4_init_862 (by decide +kernel) ?_
  refine g_newa (t := 0) (N := 4) (q := 66) (S' := uM25) dX4_init_863 kar_int (fun _ => rfl) (Or.inl ⟨by decide, rfl⟩) (by decide) (by decide +kernel) (by decide) (by decide +kernel) rfl rfl (by decide) ?_
  refine g_putF (j := 21) (k := 53) (fs := [some (some 54), some (some 55), some (some 56), none, none, some (some 57), some (some 58), none, none, none, none, none, some (some 59), none, some (some 60), none, some (some 61), some (some 62), some (some 63), some (some 64), some (some 65), some none, some none, none, none, none]) (S' := uM26) trivial dX4_init_865 kq_X4_48 rfl rfl rfl ?_
  refine g_aload_n dX4_init_868 rfl rfl ?_
  refine g_bipush (v := 30) dX4_init_869 (by decide +kernel) ?_
  refine g_newa (t := 0) (N := 30) (q := 67) (S' := uM27) dX4_init_871 kar_int (fun _ => rfl) (Or.inl ⟨by decide, rfl⟩) (by decide) (by decide +kernel) (by decide) (by decide +kernel) rfl rfl (by decide) ?_
  refine g_putF (j := 22) (k := 53) (fs := [some (some 54), some (some 55), some (some 56), none, none, some (some 57), some (some 58), none, none, none, none, none, some (some 59), none, some (some 60), none, some (some 61), some (some 62), some (some 63), some (some 64), some (some 65), some (some 66), some none, none, none, none]) (S' := uM28) trivial dX4_init_873 kq_X4_51 rfl rfl rfl ?_
  exact g_enter (ι := jV) (z := σ1) (w_X4_tail 53 uMZ_M _) h
theorem kn_L_7 : GN RL 7 3 14 FX3 := ⟨RX3, TX3, tyX3, rfl, iX3, tyX3_ok, (TB_t 14 (by decide +kernel) (by decide +kernel)), (TB_t 15 (by decide +kernel) (by decide +kernel)), (TB_t 1 (by decide +kernel) (by decide +kernel)), (by decide +kernel)⟩
theorem kn_L_10 : GN RL 10 4 26 FX4 := ⟨RX4, TX4, tyX4, rfl, iX4, tyX4_ok, (TB_t 770 (by decide +kernel) (by decide +kernel)), (TB_t 771 (by decide +kernel) (by decide +kernel)), (TB_t 5 (by decide +kernel) (by decide +kernel)), (by decide +kernel)⟩
theorem ki_L_9 : GI RL 9 yX3_init mX3_init := ⟨kc_X3_init, rfl, rfl, (TB_t 17 (by decide +kernel) (by decide +kernel)), Or.inl (TB_t 16 (by decide +kernel) (by decide +kernel))⟩
theorem ki_L_12 : GI RL 12 yX4_init mX4_init := ⟨kc_X4_init, rfl, rfl, (TB_t 773 (by decide +kernel) (by decide +kernel)), Or.inl (TB_t 772 (by decide +kernel) (by decide +kernel))⟩
