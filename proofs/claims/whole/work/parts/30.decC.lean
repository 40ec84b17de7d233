theorem dX4_init_0 : decode cX4_init 0 = .ok (.aload_n 0, 1) := by decide +kernel
theorem dX4_init_1 : decode cX4_init 1 = .ok (.invokespecial 1, 3) := by decide +kernel
theorem dX4_init_4 : decode cX4_init 4 = .ok (.aload_n 0, 1) := by decide +kernel
theorem dX4_init_5 : decode cX4_init 5 = .ok (.bipush 103, 2) := by decide +kernel
theorem dX4_init_7 : decode cX4_init 7 = .ok (.newarray .int, 2) := by decide +kernel
theorem dX4_init_9 : decode cX4_init 9 = .ok (.putfield 7, 3) := by decide +kernel
theorem dX4_init_12 : decode cX4_init 12 = .ok (.aload_n 0, 1) := by decide +kernel
theorem dX4_init_13 : decode cX4_init 13 = .ok (.bipush 103, 2) := by decide +kernel
theorem dX4_init_15 : decode cX4_init 15 = .ok (.newarray .int, 2) := by decide +kernel
theorem dX4_init_17 : decode cX4_init 17 = .ok (.putfield 13, 3) := by decide +kernel
theorem dX4_init_20 : decode cX4_init 20 = .ok (.aload_n 0, 1) := by decide +kernel
theorem dX4_init_21 : decode cX4_init 21 = .ok (.bipush 103, 2) := by decide +kernel
theorem dX4_init_23 : decode cX4_init 23 = .ok (.newarray .int, 2) := by decide +kernel
theorem dX4_init_25 : decode cX4_init 25 = .ok (.putfield 16, 3) := by decide +kernel
theorem dX4_init_28 : decode cX4_init 28 = .ok (.aload_n 0, 1) := by decide +kernel
theorem dX4_init_29 : decode cX4_init 29 = .ok (.bipush 32, 2) := by decide +kernel
theorem dX4_init_31 : decode cX4_init 31 = .ok (.newarray .int, 2) := by decide +kernel
theorem dX4_init_33 : decode cX4_init 33 = .ok (.putfield 19, 3) := by decide +kernel
theorem dX4_init_36 : decode cX4_init 36 = .ok (.aload_n 0, 1) := by decide +kernel
theorem dX4_init_37 : decode cX4_init 37 = .ok (.sipush 200, 3) := by decide +kernel
theorem dX4_init_40 : decode cX4_init 40 = .ok (.newarray .int, 2) := by decide +kernel
theorem dX4_init_42 : decode cX4_init 42 = .ok (.putfield 22, 3) := by decide +kernel
theorem dX4_init_45 : decode cX4_init 45 = .ok (.aload_n 0, 1) := by decide +kernel
theorem dX4_init_46 : decode cX4_init 46 = .ok (.sipush 128, 3) := by decide +kernel
theorem dX4_init_49 : decode cX4_init 49 = .ok (.newarray .char, 2) := by decide +kernel
theorem dX4_init_51 : decode cX4_init 51 = .ok (.dup, 1) := by decide +kernel
theorem dX4_init_52 : decode cX4_init 52 = .ok (.iconst 0, 1) := by decide +kernel
theorem dX4_init_53 : decode cX4_init 53 = .ok (.bipush 115, 2) := by decide +kernel
theorem dX4_init_55 : decode cX4_init 55 = .ok (.castore, 1) := by decide +kernel
theorem dX4_init_56 : decode cX4_init 56 = .ok (.dup, 1) := by decide +kernel
theorem dX4_init_57 : decode cX4_init 57 = .ok (.iconst 1, 1) := by decide +kernel
theorem dX4_init_58 : decode cX4_init 58 = .ok (.bipush 119, 2) := by decide +kernel
theorem dX4_init_60 : decode cX4_init 60 = .ok (.castore, 1) := by decide +kernel
theorem dX4_init_61 : decode cX4_init 61 = .ok (.dup, 1) := by decide +kernel
theorem dX4_init_62 : decode cX4_init 62 = .ok (.iconst 2, 1) := by decide +kernel
theorem dX4_init_63 : decode cX4_init 63 = .ok (.bipush 111, 2) := by decide +kernel
theorem dX4_init_65 : decode cX4_init 65 = .ok (.castore, 1) := by decide +kernel
theorem dX4_init_66 : decode cX4_init 66 = .ok (.dup, 1) := by decide +kernel
theorem dX4_init_67 : decode cX4_init 67 = .ok (.iconst 3, 1) := by decide +kernel
theorem dX4_init_68 : decode cX4_init 68 = .ok (.bipush 114, 2) := by decide +kernel
theorem dX4_init_70 : decode cX4_init 70 = .ok (.castore, 1) := by decide +kernel
theorem dX4_init_71 : decode cX4_init 71 = .ok (.dup, 1) := by decide +kernel
theorem dX4_init_72 : decode cX4_init 72 = .ok (.iconst 4, 1) := by decide +kernel
theorem dX4_init_73 : decode cX4_init 73 = .ok (.bipush 110, 2) := by decide +kernel
theorem dX4_init_75 : decode cX4_init 75 = .ok (.castore, 1) := by decide +kernel
theorem dX4_init_76 : decode cX4_init 76 = .ok (.dup, 1) := by decide +kernel
theorem dX4_init_77 : decode cX4_init 77 = .ok (.iconst 5, 1) := by decide +kernel
theorem dX4_init_78 : decode cX4_init 78 = .ok (.bipush 32, 2) := by decide +kernel
theorem dX4_init_80 : decode cX4_init 80 = .ok (.castore, 1) := by decide +kernel
theorem dX4_init_81 : decode cX4_init 81 = .ok (.dup, 1) := by decide +kernel
theorem dX4_init_82 : decode cX4_init 82 = .ok (.bipush 6, 2) := by decide +kernel
theorem dX4_init_84 : decode cX4_init 84 = .ok (.bipush 32, 2) := by decide +kernel
theorem dX4_init_86 : decode cX4_init 86 = .ok (.castore, 1) := by decide +kernel
theorem dX4_init_87 : decode cX4_init 87 = .ok (.dup, 1) := by decide +kernel
theorem dX4_init_88 : decode cX4_init 88 = .ok (.bipush 7, 2) := by decide +kernel
theorem dX4_init_90 : decode cX4_init 90 = .ok (.bipush 32, 2) := by decide +kernel
theorem dX4_init_92 : decode cX4_init 92 = .ok (.castore, 1) := by decide +kernel
theorem dX4_init_93 : decode cX4_init 93 = .ok (.dup, 1) := by decide +kernel
theorem dX4_init_94 : decode cX4_init 94 = .ok (.bipush 8, 2) := by decide +kernel
theorem dX4_init_96 : decode cX4_init 96 = .ok (.bipush 101, 2) := by decide +kernel
theorem dX4_init_98 : decode cX4_init 98 = .ok (.castore, 1) := by decide +kernel
theorem dX4_init_99 : decode cX4_init 99 = .ok (.dup, 1) := by decide +kernel
theorem dX4_init_100 : decode cX4_init 100 = .ok (.bipush 9, 2) := by decide +kernel
theorem dX4_init_102 : decode cX4_init 102 = .ok (.bipush 110, 2) := by decide +kernel
theorem dX4_init_104 : decode cX4_init 104 = .ok (.castore, 1) := by decide +kernel
theorem dX4_init_105 : decode cX4_init 105 = .ok (.dup, 1) := by decide +kernel
theorem dX4_init_106 : decode cX4_init 106 = .ok (.bipush 10, 2) := by decide +kernel
theorem dX4_init_108 : decode cX4_init 108 = .ok (.bipush 103, 2) := by decide +kernel
theorem dX4_init_110 : decode cX4_init 110 = .ok (.castore, 1) := by decide +kernel
theorem dX4_init_111 : decode cX4_init 111 = .ok (.dup, 1) := by decide +kernel
theorem dX4_init_112 : decode cX4_init 112 = .ok (.bipush 11, 2) := by decide +kernel
theorem dX4_init_114 : decode cX4_init 114 = .ok (.bipush 105, 2) := by decide +kernel
theorem dX4_init_116 : decode cX4_init 116 = .ok (.castore, 1) := by decide +kernel
theorem dX4_init_117 : decode cX4_init 117 = .ok (.dup, 1) := by decide +kernel
theorem dX4_init_118 : decode cX4_init 118 = .ok (.bipush 12, 2) := by decide +kernel
theorem dX4_init_120 : decode cX4_init 120 = .ok (.bipush 110, 2) := by decide +kernel
theorem dX4_init_122 : decode cX4_init 122 = .ok (.castore, 1) := by decide +kernel
theorem dX4_init_123 : decode cX4_init 123 = .ok (.dup, 1) := by decide +kernel
theorem dX4_init_124 : decode cX4_init 124 = .ok (.bipush 13, 2) := by decide +kernel
theorem dX4_init_126 : decode cX4_init 126 = .ok (.bipush 101, 2) := by decide +kernel
theorem dX4_init_128 : decode cX4_init 128 = .ok (.castore, 1) := by decide +kernel
theorem dX4_init_129 : decode cX4_init 129 = .ok (.dup, 1) := by decide +kernel
theorem dX4_init_130 : decode cX4_init 130 = .ok (.bipush 14, 2) := by decide +kernel
theorem dX4_init_132 : decode cX4_init 132 = .ok (.bipush 101, 2) := by decide +kernel
theorem dX4_init_134 : decode cX4_init 134 = .ok (.castore, 1) := by decide +kernel
theorem dX4_init_135 : decode cX4_init 135 = .ok (.dup, 1) := by decide +kernel
theorem dX4_init_136 : decode cX4_init 136 = .ok (.bipush 15, 2) := by decide +kernel
theorem dX4_init_138 : decode cX4_init 138 = .ok (.bipush 114, 2) := by decide +kernel
theorem dX4_init_140 : decode cX4_init 140 = .ok (.castore, 1) := by decide +kernel
theorem dX4_init_141 : decode cX4_init 141 = .ok (.dup, 1) := by decide +kernel
theorem dX4_init_142 : decode cX4_init 142 = .ok (.bipush 16, 2) := by decide +kernel
theorem dX4_init_144 : decode cX4_init 144 = .ok (.bipush 100, 2) := by decide +kernel
theorem dX4_init_146 : decode cX4_init 146 = .ok (.castore, 1) := by decide +kernel
theorem dX4_init_147 : decode cX4_init 147 = .ok (.dup, 1) := by decide +kernel
theorem dX4_init_148 : decode cX4_init 148 = .ok (.bipush 17, 2) := by decide +kernel
theorem dX4_init_150 : decode cX4_init 150 = .ok (.bipush 111, 2) := by decide +kernel
theorem dX4_init_152 : decode cX4_init 152 = .ok (.castore, 1) := by decide +kernel
theorem dX4_init_153 : decode cX4_init 153 = .ok (.dup, 1) := by decide +kernel
theorem dX4_init_154 : decode cX4_init 154 = .ok (.bipush 18, 2) := by decide +kernel
theorem dX4_init_156 : decode cX4_init 156 = .ok (.bipush 117, 2) := by decide +kernel
theorem dX4_init_158 : decode cX4_init 158 = .ok (.castore, 1) := by decide +kernel
theorem dX4_init_159 : decode cX4_init 159 = .ok (.dup, 1) := by decide +kernel
theorem dX4_init_160 : decode cX4_init 160 = .ok (.bipush 19, 2) := by decide +kernel
theorem dX4_init_162 : decode cX4_init 162 = .ok (.bipush 98, 2) := by decide +kernel
theorem dX4_init_164 : decode cX4_init 164 = .ok (.castore, 1) := by decide +kernel
theorem dX4_init_165 : decode cX4_init 165 = .ok (.dup, 1) := by decide +kernel
theorem dX4_init_166 : decode cX4_init 166 = .ok (.bipush 20, 2) := by decide +kernel
theorem dX4_init_168 : decode cX4_init 168 = .ok (.bipush 116, 2) := by decide +kernel
theorem dX4_init_170 : decode cX4_init 170 = .ok (.castore, 1) := by decide +kernel
theorem dX4_init_171 : decode cX4_init 171 = .ok (.dup, 1) := by decide +kernel
theorem dX4_init_172 : decode cX4_init 172 = .ok (.bipush 21, 2) := by decide +kernel
theorem dX4_init_174 : decode cX4_init 174 = .ok (.bipush 101, 2) := by decide +kernel
theorem dX4_init_176 : decode cX4_init 176 = .ok (.castore, 1) := by decide +kernel
theorem dX4_init_177 : decode cX4_init 177 = .ok (.dup, 1) := by decide +kernel
theorem dX4_init_178 : decode cX4_init 178 = .ok (.bipush 22, 2) := by decide +kernel
theorem dX4_init_180 : decode cX4_init 180 = .ok (.bipush 114, 2) := by decide +kernel
theorem dX4_init_182 : decode cX4_init 182 = .ok (.castore, 1) := by decide +kernel
theorem dX4_init_183 : decode cX4_init 183 = .ok (.dup, 1) := by decide +kernel
theorem dX4_init_184 : decode cX4_init 184 = .ok (.bipush 23, 2) := by decide +kernel
theorem dX4_init_186 : decode cX4_init 186 = .ok (.bipush 32, 2) := by decide +kernel
theorem dX4_init_188 : decode cX4_init 188 = .ok (.castore, 1) := by decide +kernel
theorem dX4_init_189 : decode cX4_init 189 = .ok (.dup, 1) := by decide +kernel
theorem dX4_init_190 : decode cX4_init 190 = .ok (.bipush 24, 2) := by decide +kernel
theorem dX4_init_192 : decode cX4_init 192 = .ok (.bipush 101, 2) := by decide +kernel
theorem dX4_init_194 : decode cX4_init 194 = .ok (.castore, 1) := by decide +kernel
theorem dX4_init_195 : decode cX4_init 195 = .ok (.dup, 1) := by decide +kernel
theorem dX4_init_196 : decode cX4_init 196 = .ok (.bipush 25, 2) := by decide +kernel
theorem dX4_init_198 : decode cX4_init 198 = .ok (.bipush 120, 2) := by decide +kernel
theorem dX4_init_200 : decode cX4_init 200 = .ok (.castore, 1) := by decide +kernel
theorem dX4_init_201 : decode cX4_init 201 = .ok (.dup, 1) := by decide +kernel
theorem dX4_init_202 : decode cX4_init 202 = .ok (.bipush 26, 2) := by decide +kernel
theorem dX4_init_204 : decode cX4_init 204 = .ok (.bipush 112, 2) := by decide +kernel
theorem dX4_init_206 : decode cX4_init 206 = .ok (.castore, 1) := by decide +kernel
theorem dX4_init_207 : decode cX4_init 207 = .ok (.dup, 1) := by decide +kernel
theorem dX4_init_208 : decode cX4_init 208 = .ok (.bipush 27, 2) := by decide +kernel
theorem dX4_init_210 : decode cX4_init 210 = .ok (.bipush 101, 2) := by decide +kernel
theorem dX4_init_212 : decode cX4_init 212 = .ok (.castore, 1) := by decide +kernel
theorem dX4_init_213 : decode cX4_init 213 = .ok (.dup, 1) := by decide +kernel
theorem dX4_init_214 : decode cX4_init 214 = .ok (.bipush 28, 2) := by decide +kernel
theorem dX4_init_216 : decode cX4_init 216 = .ok (.bipush 114, 2) := by decide +kernel
theorem dX4_init_218 : decode cX4_init 218 = .ok (.castore, 1) := by decide +kernel
theorem dX4_init_219 : decode cX4_init 219 = .ok (.dup, 1) := by decide +kernel
theorem dX4_init_220 : decode cX4_init 220 = .ok (.bipush 29, 2) := by decide +kernel
theorem dX4_init_222 : decode cX4_init 222 = .ok (.bipush 116, 2) := by decide +kernel
theorem dX4_init_224 : decode cX4_init 224 = .ok (.castore, 1) := by decide +kernel
theorem dX4_init_225 : decode cX4_init 225 = .ok (.dup, 1) := by decide +kernel
theorem dX4_init_226 : decode cX4_init 226 = .ok (.bipush 30, 2) := by decide +kernel
theorem dX4_init_228 : decode cX4_init 228 = .ok (.bipush 32, 2) := by decide +kernel
theorem dX4_init_230 : decode cX4_init 230 = .ok (.castore, 1) := by decide +kernel
theorem dX4_init_231 : decode cX4_init 231 = .ok (.dup, 1) := by decide +kernel
theorem dX4_init_232 : decode cX4_init 232 = .ok (.bipush 31, 2) := by decide +kernel
theorem dX4_init_234 : decode cX4_init 234 = .ok (.bipush 32, 2) := by decide +kernel
theorem dX4_init_236 : decode cX4_init 236 = .ok (.castore, 1) := by decide +kernel
theorem dX4_init_237 : decode cX4_init 237 = .ok (.dup, 1) := by decide +kernel
theorem dX4_init_238 : decode cX4_init 238 = .ok (.bipush 32, 2) := by decide +kernel
theorem dX4_init_240 : decode cX4_init 240 = .ok (.bipush 100, 2) := by decide +kernel
theorem dX4_init_242 : decode cX4_init 242 = .ok (.castore, 1) := by decide +kernel
theorem dX4_init_243 : decode cX4_init 243 = .ok (.dup, 1) := by decide +kernel
theorem dX4_init_244 : decode cX4_init 244 = .ok (.bipush 33, 2) := by decide +kernel
theorem dX4_init_246 : decode cX4_init 246 = .ok (.bipush 111, 2) := by decide +kernel
theorem dX4_init_248 : decode cX4_init 248 = .ok (.castore, 1) := by decide +kernel
theorem dX4_init_249 : decode cX4_init 249 = .ok (.dup, 1) := by decide +kernel
theorem dX4_init_250 : decode cX4_init 250 = .ok (.bipush 34, 2) := by decide +kernel
theorem dX4_init_252 : decode cX4_init 252 = .ok (.bipush 119, 2) := by decide +kernel
theorem dX4_init_254 : decode cX4_init 254 = .ok (.castore, 1) := by decide +kernel
theorem dX4_init_255 : decode cX4_init 255 = .ok (.dup, 1) := by decide +kernel
theorem dX4_init_256 : decode cX4_init 256 = .ok (.bipush 35, 2) := by decide +kernel
theorem dX4_init_258 : decode cX4_init 258 = .ok (.bipush 115, 2) := by decide +kernel
theorem dX4_init_260 : decode cX4_init 260 = .ok (.castore, 1) := by decide +kernel
theorem dX4_init_261 : decode cX4_init 261 = .ok (.dup, 1) := by decide +kernel
theorem dX4_init_262 : decode cX4_init 262 = .ok (.bipush 36, 2) := by decide +kernel
theorem dX4_init_264 : decode cX4_init 264 = .ok (.bipush 101, 2) := by decide +kernel
theorem dX4_init_266 : decode cX4_init 266 = .ok (.castore, 1) := by decide +kernel
theorem dX4_init_267 : decode cX4_init 267 = .ok (.dup, 1) := by decide +kernel
theorem dX4_init_268 : decode cX4_init 268 = .ok (.bipush 37, 2) := by decide +kernel
theorem dX4_init_270 : decode cX4_init 270 = .ok (.bipush 114, 2) := by decide +kernel
theorem dX4_init_272 : decode cX4_init 272 = .ok (.castore, 1) := by decide +kernel
theorem dX4_init_273 : decode cX4_init 273 = .ok (.dup, 1) := by decide +kernel
theorem dX4_init_274 : decode cX4_init 274 = .ok (.bipush 38, 2) := by decide +kernel
theorem dX4_init_276 : decode cX4_init 276 = .ok (.bipush 32, 2) := by decide +kernel
theorem dX4_init_278 : decode cX4_init 278 = .ok (.castore, 1) := by decide +kernel
theorem dX4_init_279 : decode cX4_init 279 = .ok (.dup, 1) := by decide +kernel
theorem dX4_init_280 : decode cX4_init 280 = .ok (.bipush 39, 2) := by decide +kernel
theorem dX4_init_282 : decode cX4_init 282 = .ok (.bipush 32, 2) := by decide +kernel
theorem dX4_init_284 : decode cX4_init 284 = .ok (.castore, 1) := by decide +kernel
theorem dX4_init_285 : decode cX4_init 285 = .ok (.dup, 1) := by decide +kernel
theorem dX4_init_286 : decode cX4_init 286 = .ok (.bipush 40, 2) := by decide +kernel
theorem dX4_init_288 : decode cX4_init 288 = .ok (.bipush 100, 2) := by decide +kernel
theorem dX4_init_290 : decode cX4_init 290 = .ok (.castore, 1) := by decide +kernel
theorem dX4_init_291 : decode cX4_init 291 = .ok (.dup, 1) := by decide +kernel
theorem dX4_init_292 : decode cX4_init 292 = .ok (.bipush 41, 2) := by decide +kernel
theorem dX4_init_294 : decode cX4_init 294 = .ok (.bipush 114, 2) := by decide +kernel
theorem dX4_init_296 : decode cX4_init 296 = .ok (.castore, 1) := by decide +kernel
theorem dX4_init_297 : decode cX4_init 297 = .ok (.dup, 1) := by decide +kernel
theorem dX4_init_298 : decode cX4_init 298 = .ok (.bipush 42, 2) := by decide +kernel
theorem dX4_init_300 : decode cX4_init 300 = .ok (.bipush 117, 2) := by decide +kernel
theorem dX4_init_302 : decode cX4_init 302 = .ok (.castore, 1) := by decide +kernel
theorem dX4_init_303 : decode cX4_init 303 = .ok (.dup, 1) := by decide +kernel
theorem dX4_init_304 : decode cX4_init 304 = .ok (.bipush 43, 2) := by decide +kernel
theorem dX4_init_306 : decode cX4_init 306 = .ok (.bipush 110, 2) := by decide +kernel
theorem dX4_init_308 : decode cX4_init 308 = .ok (.castore, 1) := by decide +kernel
theorem dX4_init_309 : decode cX4_init 309 = .ok (.dup, 1) := by decide +kernel
theorem dX4_init_310 : decode cX4_init 310 = .ok (.bipush 44, 2) := by decide +kernel
theorem dX4_init_312 : decode cX4_init 312 = .ok (.bipush 107, 2) := by decide +kernel
theorem dX4_init_314 : decode cX4_init 314 = .ok (.castore, 1) := by decide +kernel
theorem dX4_init_315 : decode cX4_init 315 = .ok (.dup, 1) := by decide +kernel
theorem dX4_init_316 : decode cX4_init 316 = .ok (.bipush 45, 2) := by decide +kernel
theorem dX4_init_318 : decode cX4_init 318 = .ok (.bipush 97, 2) := by decide +kernel
theorem dX4_init_320 : decode cX4_init 320 = .ok (.castore, 1) := by decide +kernel
theorem dX4_init_321 : decode cX4_init 321 = .ok (.dup, 1) := by decide +kernel
theorem dX4_init_322 : decode cX4_init 322 = .ok (.bipush 46, 2) := by decide +kernel
theorem dX4_init_324 : decode cX4_init 324 = .ok (.bipush 114, 2) := by decide +kernel
theorem dX4_init_326 : decode cX4_init 326 = .ok (.castore, 1) := by decide +kernel
theorem dX4_init_327 : decode cX4_init 327 = .ok (.dup, 1) := by decide +kernel
theorem dX4_init_328 : decode cX4_init 328 = .ok (.bipush 47, 2) := by decide +kernel
theorem dX4_init_330 : decode cX4_init 330 = .ok (.bipush 100, 2) := by decide +kernel
theorem dX4_init_332 : decode cX4_init 332 = .ok (.castore, 1) := by decide +kernel
theorem dX4_init_333 : decode cX4_init 333 = .ok (.dup, 1) := by decide +kernel
theorem dX4_init_334 : decode cX4_init 334 = .ok (.bipush 48, 2) := by decide +kernel
theorem dX4_init_336 : decode cX4_init 336 = .ok (.bipush 97, 2) := by decide +kernel
theorem dX4_init_338 : decode cX4_init 338 = .ok (.castore, 1) := by decide +kernel
theorem dX4_init_339 : decode cX4_init 339 = .ok (.dup, 1) := by decide +kernel
theorem dX4_init_340 : decode cX4_init 340 = .ok (.bipush 49, 2) := by decide +kernel
theorem dX4_init_342 : decode cX4_init 342 = .ok (.bipush 116, 2) := by decide +kernel
theorem dX4_init_344 : decode cX4_init 344 = .ok (.castore, 1) := by decide +kernel
theorem dX4_init_345 : decode cX4_init 345 = .ok (.dup, 1) := by decide +kernel
theorem dX4_init_346 : decode cX4_init 346 = .ok (.bipush 50, 2) := by decide +kernel
theorem dX4_init_348 : decode cX4_init 348 = .ok (.bipush 32, 2) := by decide +kernel
theorem dX4_init_350 : decode cX4_init 350 = .ok (.castore, 1) := by decide +kernel
theorem dX4_init_351 : decode cX4_init 351 = .ok (.dup, 1) := by decide +kernel
theorem dX4_init_352 : decode cX4_init 352 = .ok (.bipush 51, 2) := by decide +kernel
theorem dX4_init_354 : decode cX4_init 354 = .ok (.bipush 32, 2) := by decide +kernel
theorem dX4_init_356 : decode cX4_init 356 = .ok (.castore, 1) := by decide +kernel
theorem dX4_init_357 : decode cX4_init 357 = .ok (.dup, 1) := by decide +kernel
theorem dX4_init_358 : decode cX4_init 358 = .ok (.bipush 52, 2) := by decide +kernel
theorem dX4_init_360 : decode cX4_init 360 = .ok (.bipush 32, 2) := by decide +kernel
theorem dX4_init_362 : decode cX4_init 362 = .ok (.castore, 1) := by decide +kernel
theorem dX4_init_363 : decode cX4_init 363 = .ok (.dup, 1) := by decide +kernel
theorem dX4_init_364 : decode cX4_init 364 = .ok (.bipush 53, 2) := by decide +kernel
theorem dX4_init_366 : decode cX4_init 366 = .ok (.bipush 32, 2) := by decide +kernel
theorem dX4_init_368 : decode cX4_init 368 = .ok (.castore, 1) := by decide +kernel
theorem dX4_init_369 : decode cX4_init 369 = .ok (.dup, 1) := by decide +kernel
theorem dX4_init_370 : decode cX4_init 370 = .ok (.bipush 54, 2) := by decide +kernel
theorem dX4_init_372 : decode cX4_init 372 = .ok (.bipush 32, 2) := by decide +kernel
theorem dX4_init_374 : decode cX4_init 374 = .ok (.castore, 1) := by decide +kernel
theorem dX4_init_375 : decode cX4_init 375 = .ok (.dup, 1) := by decide +kernel
theorem dX4_init_376 : decode cX4_init 376 = .ok (.bipush 55, 2) := by decide +kernel
theorem dX4_init_378 : decode cX4_init 378 = .ok (.bipush 32, 2) := by decide +kernel
theorem dX4_init_380 : decode cX4_init 380 = .ok (.castore, 1) := by decide +kernel
theorem dX4_init_381 : decode cX4_init 381 = .ok (.dup, 1) := by decide +kernel
theorem dX4_init_382 : decode cX4_init 382 = .ok (.bipush 56, 2) := by decide +kernel
theorem dX4_init_384 : decode cX4_init 384 = .ok (.bipush 115, 2) := by decide +kernel
theorem dX4_init_386 : decode cX4_init 386 = .ok (.castore, 1) := by decide +kernel
theorem dX4_init_387 : decode cX4_init 387 = .ok (.dup, 1) := by decide +kernel
theorem dX4_init_388 : decode cX4_init 388 = .ok (.bipush 57, 2) := by decide +kernel
theorem dX4_init_390 : decode cX4_init 390 = .ok (.bipush 117, 2) := by decide +kernel
theorem dX4_init_392 : decode cX4_init 392 = .ok (.castore, 1) := by decide +kernel
theorem dX4_init_393 : decode cX4_init 393 = .ok (.dup, 1) := by decide +kernel
theorem dX4_init_394 : decode cX4_init 394 = .ok (.bipush 58, 2) := by decide +kernel
theorem dX4_init_396 : decode cX4_init 396 = .ok (.bipush 114, 2) := by decide +kernel
theorem dX4_init_398 : decode cX4_init 398 = .ok (.castore, 1) := by decide +kernel
theorem dX4_init_399 : decode cX4_init 399 = .ok (.dup, 1) := by decide +kernel
theorem dX4_init_400 : decode cX4_init 400 = .ok (.bipush 59, 2) := by decide +kernel
theorem dX4_init_402 : decode cX4_init 402 = .ok (.bipush 101, 2) := by decide +kernel
theorem dX4_init_404 : decode cX4_init 404 = .ok (.castore, 1) := by decide +kernel
theorem dX4_init_405 : decode cX4_init 405 = .ok (.dup, 1) := by decide +kernel
theorem dX4_init_406 : decode cX4_init 406 = .ok (.bipush 60, 2) := by decide +kernel
theorem dX4_init_408 : decode cX4_init 408 = .ok (.bipush 32, 2) := by decide +kernel
theorem dX4_init_410 : decode cX4_init 410 = .ok (.castore, 1) := by decide +kernel
theorem dX4_init_411 : decode cX4_init 411 = .ok (.dup, 1) := by decide +kernel
theorem dX4_init_412 : decode cX4_init 412 = .ok (.bipush 61, 2) := by decide +kernel
theorem dX4_init_414 : decode cX4_init 414 = .ok (.bipush 32, 2) := by decide +kernel
theorem dX4_init_416 : decode cX4_init 416 = .ok (.castore, 1) := by decide +kernel
theorem dX4_init_417 : decode cX4_init 417 = .ok (.dup, 1) := by decide +kernel
theorem dX4_init_418 : decode cX4_init 418 = .ok (.bipush 62, 2) := by decide +kernel
theorem dX4_init_420 : decode cX4_init 420 = .ok (.bipush 32, 2) := by decide +kernel
theorem dX4_init_422 : decode cX4_init 422 = .ok (.castore, 1) := by decide +kernel
theorem dX4_init_423 : decode cX4_init 423 = .ok (.dup, 1) := by decide +kernel
theorem dX4_init_424 : decode cX4_init 424 = .ok (.bipush 63, 2) := by decide +kernel
theorem dX4_init_426 : decode cX4_init 426 = .ok (.bipush 32, 2) := by decide +kernel
theorem dX4_init_428 : decode cX4_init 428 = .ok (.castore, 1) := by decide +kernel
theorem dX4_init_429 : decode cX4_init 429 = .ok (.dup, 1) := by decide +kernel
theorem dX4_init_430 : decode cX4_init 430 = .ok (.bipush 64, 2) := by decide +kernel
theorem dX4_init_432 : decode cX4_init 432 = .ok (.bipush 115, 2) := by decide +kernel
theorem dX4_init_434 : decode cX4_init 434 = .ok (.castore, 1) := by decide +kernel
theorem dX4_init_435 : decode cX4_init 435 = .ok (.dup, 1) := by decide +kernel
theorem dX4_init_436 : decode cX4_init 436 = .ok (.bipush 65, 2) := by decide +kernel
theorem dX4_init_438 : decode cX4_init 438 = .ok (.bipush 101, 2) := by decide +kernel
theorem dX4_init_440 : decode cX4_init 440 = .ok (.castore, 1) := by decide +kernel
theorem dX4_init_441 : decode cX4_init 441 = .ok (.dup, 1) := by decide +kernel
theorem dX4_init_442 : decode cX4_init 442 = .ok (.bipush 66, 2) := by decide +kernel
theorem dX4_init_444 : decode cX4_init 444 = .ok (.bipush 110, 2) := by decide +kernel
theorem dX4_init_446 : decode cX4_init 446 = .ok (.castore, 1) := by decide +kernel
theorem dX4_init_447 : decode cX4_init 447 = .ok (.dup, 1) := by decide +kernel
theorem dX4_init_448 : decode cX4_init 448 = .ok (.bipush 67, 2) := by decide +kernel
theorem dX4_init_450 : decode cX4_init 450 = .ok (.bipush 115, 2) := by decide +kernel
theorem dX4_init_452 : decode cX4_init 452 = .ok (.castore, 1) := by decide +kernel
theorem dX4_init_453 : decode cX4_init 453 = .ok (.dup, 1) := by decide +kernel
theorem dX4_init_454 : decode cX4_init 454 = .ok (.bipush 68, 2) := by decide +kernel
theorem dX4_init_456 : decode cX4_init 456 = .ok (.bipush 101, 2) := by decide +kernel
theorem dX4_init_458 : decode cX4_init 458 = .ok (.castore, 1) := by decide +kernel
theorem dX4_init_459 : decode cX4_init 459 = .ok (.dup, 1) := by decide +kernel
theorem dX4_init_460 : decode cX4_init 460 = .ok (.bipush 69, 2) := by decide +kernel
theorem dX4_init_462 : decode cX4_init 462 = .ok (.bipush 32, 2) := by decide +kernel
theorem dX4_init_464 : decode cX4_init 464 = .ok (.castore, 1) := by decide +kernel
theorem dX4_init_465 : decode cX4_init 465 = .ok (.dup, 1) := by decide +kernel
theorem dX4_init_466 : decode cX4_init 466 = .ok (.bipush 70, 2) := by decide +kernel
theorem dX4_init_468 : decode cX4_init 468 = .ok (.bipush 32, 2) := by decide +kernel
theorem dX4_init_470 : decode cX4_init 470 = .ok (.castore, 1) := by decide +kernel
theorem dX4_init_471 : decode cX4_init 471 = .ok (.dup, 1) := by decide +kernel
theorem dX4_init_472 : decode cX4_init 472 = .ok (.bipush 71, 2) := by decide +kernel
theorem dX4_init_474 : decode cX4_init 474 = .ok (.bipush 32, 2) := by decide +kernel
theorem dX4_init_476 : decode cX4_init 476 = .ok (.castore, 1) := by decide +kernel
theorem dX4_init_477 : decode cX4_init 477 = .ok (.dup, 1) := by decide +kernel
theorem dX4_init_478 : decode cX4_init 478 = .ok (.bipush 72, 2) := by decide +kernel
theorem dX4_init_480 : decode cX4_init 480 = .ok (.bipush 105, 2) := by decide +kernel
theorem dX4_init_482 : decode cX4_init 482 = .ok (.castore, 1) := by decide +kernel
theorem dX4_init_483 : decode cX4_init 483 = .ok (.dup, 1) := by decide +kernel
theorem dX4_init_484 : decode cX4_init 484 = .ok (.bipush 73, 2) := by decide +kernel
theorem dX4_init_486 : decode cX4_init 486 = .ok (.bipush 115, 2) := by decide +kernel
theorem dX4_init_488 : decode cX4_init 488 = .ok (.castore, 1) := by decide +kernel
theorem dX4_init_489 : decode cX4_init 489 = .ok (.dup, 1) := by decide +kernel
theorem dX4_init_490 : decode cX4_init 490 = .ok (.bipush 74, 2) := by decide +kernel
theorem dX4_init_492 : decode cX4_init 492 = .ok (.bipush 32, 2) := by decide +kernel
theorem dX4_init_494 : decode cX4_init 494 = .ok (.castore, 1) := by decide +kernel
theorem dX4_init_495 : decode cX4_init 495 = .ok (.dup, 1) := by decide +kernel
theorem dX4_init_496 : decode cX4_init 496 = .ok (.bipush 75, 2) := by decide +kernel
theorem dX4_init_498 : decode cX4_init 498 = .ok (.bipush 32, 2) := by decide +kernel
theorem dX4_init_500 : decode cX4_init 500 = .ok (.castore, 1) := by decide +kernel
theorem dX4_init_501 : decode cX4_init 501 = .ok (.dup, 1) := by decide +kernel
theorem dX4_init_502 : decode cX4_init 502 = .ok (.bipush 76, 2) := by decide +kernel
theorem dX4_init_504 : decode cX4_init 504 = .ok (.bipush 32, 2) := by decide +kernel
theorem dX4_init_506 : decode cX4_init 506 = .ok (.castore, 1) := by decide +kernel
theorem dX4_init_507 : decode cX4_init 507 = .ok (.dup, 1) := by decide +kernel
theorem dX4_init_508 : decode cX4_init 508 = .ok (.bipush 77, 2) := by decide +kernel
theorem dX4_init_510 : decode cX4_init 510 = .ok (.bipush 32, 2) := by decide +kernel
theorem dX4_init_512 : decode cX4_init 512 = .ok (.castore, 1) := by decide +kernel
theorem dX4_init_513 : decode cX4_init 513 = .ok (.dup, 1) := by decide +kernel
theorem dX4_init_514 : decode cX4_init 514 = .ok (.bipush 78, 2) := by decide +kernel
theorem dX4_init_516 : decode cX4_init 516 = .ok (.bipush 32, 2) := by decide +kernel
theorem dX4_init_518 : decode cX4_init 518 = .ok (.castore, 1) := by decide +kernel
theorem dX4_init_519 : decode cX4_init 519 = .ok (.dup, 1) := by decide +kernel
theorem dX4_init_520 : decode cX4_init 520 = .ok (.bipush 79, 2) := by decide +kernel
theorem dX4_init_522 : decode cX4_init 522 = .ok (.bipush 32, 2) := by decide +kernel
theorem dX4_init_524 : decode cX4_init 524 = .ok (.castore, 1) := by decide +kernel
theorem dX4_init_525 : decode cX4_init 525 = .ok (.dup, 1) := by decide +kernel
theorem dX4_init_526 : decode cX4_init 526 = .ok (.bipush 80, 2) := by decide +kernel
theorem dX4_init_528 : decode cX4_init 528 = .ok (.bipush 104, 2) := by decide +kernel
theorem dX4_init_530 : decode cX4_init 530 = .ok (.castore, 1) := by decide +kernel
theorem dX4_init_531 : decode cX4_init 531 = .ok (.dup, 1) := by decide +kernel
theorem dX4_init_532 : decode cX4_init 532 = .ok (.bipush 81, 2) := by decide +kernel
theorem dX4_init_534 : decode cX4_init 534 = .ok (.bipush 101, 2) := by decide +kernel
theorem dX4_init_536 : decode cX4_init 536 = .ok (.castore, 1) := by decide +kernel
theorem dX4_init_537 : decode cX4_init 537 = .ok (.dup, 1) := by decide +kernel
theorem dX4_init_538 : decode cX4_init 538 = .ok (.bipush 82, 2) := by decide +kernel
theorem dX4_init_540 : decode cX4_init 540 = .ok (.bipush 105, 2) := by decide +kernel
theorem dX4_init_542 : decode cX4_init 542 = .ok (.castore, 1) := by decide +kernel
theorem dX4_init_543 : decode cX4_init 543 = .ok (.dup, 1) := by decide +kernel
theorem dX4_init_544 : decode cX4_init 544 = .ok (.bipush 83, 2) := by decide +kernel
theorem dX4_init_546 : decode cX4_init 546 = .ok (.bipush 103, 2) := by decide +kernel
theorem dX4_init_548 : decode cX4_init 548 = .ok (.castore, 1) := by decide +kernel
theorem dX4_init_549 : decode cX4_init 549 = .ok (.dup, 1) := by decide +kernel
theorem dX4_init_550 : decode cX4_init 550 = .ok (.bipush 84, 2) := by decide +kernel
theorem dX4_init_552 : decode cX4_init 552 = .ok (.bipush 104, 2) := by decide +kernel
theorem dX4_init_554 : decode cX4_init 554 = .ok (.castore, 1) := by decide +kernel
theorem dX4_init_555 : decode cX4_init 555 = .ok (.dup, 1) := by decide +kernel
theorem dX4_init_556 : decode cX4_init 556 = .ok (.bipush 85, 2) := by decide +kernel
theorem dX4_init_558 : decode cX4_init 558 = .ok (.bipush 116, 2) := by decide +kernel
theorem dX4_init_560 : decode cX4_init 560 = .ok (.castore, 1) := by decide +kernel
theorem dX4_init_561 : decode cX4_init 561 = .ok (.dup, 1) := by decide +kernel
theorem dX4_init_562 : decode cX4_init 562 = .ok (.bipush 86, 2) := by decide +kernel
theorem dX4_init_564 : decode cX4_init 564 = .ok (.bipush 32, 2) := by decide +kernel
theorem dX4_init_566 : decode cX4_init 566 = .ok (.castore, 1) := by decide +kernel
theorem dX4_init_567 : decode cX4_init 567 = .ok (.dup, 1) := by decide +kernel
theorem dX4_init_568 : decode cX4_init 568 = .ok (.bipush 87, 2) := by decide +kernel
theorem dX4_init_570 : decode cX4_init 570 = .ok (.bipush 32, 2) := by decide +kernel
theorem dX4_init_572 : decode cX4_init 572 = .ok (.castore, 1) := by decide +kernel
theorem dX4_init_573 : decode cX4_init 573 = .ok (.dup, 1) := by decide +kernel
theorem dX4_init_574 : decode cX4_init 574 = .ok (.bipush 88, 2) := by decide +kernel
theorem dX4_init_576 : decode cX4_init 576 = .ok (.bipush 119, 2) := by decide +kernel
theorem dX4_init_578 : decode cX4_init 578 = .ok (.castore, 1) := by decide +kernel
theorem dX4_init_579 : decode cX4_init 579 = .ok (.dup, 1) := by decide +kernel
theorem dX4_init_580 : decode cX4_init 580 = .ok (.bipush 89, 2) := by decide +kernel
theorem dX4_init_582 : decode cX4_init 582 = .ok (.bipush 97, 2) := by decide +kernel
theorem dX4_init_584 : decode cX4_init 584 = .ok (.castore, 1) := by decide +kernel
theorem dX4_init_585 : decode cX4_init 585 = .ok (.dup, 1) := by decide +kernel
theorem dX4_init_586 : decode cX4_init 586 = .ok (.bipush 90, 2) := by decide +kernel
theorem dX4_init_588 : decode cX4_init 588 = .ok (.bipush 116, 2) := by decide +kernel
theorem dX4_init_590 : decode cX4_init 590 = .ok (.castore, 1) := by decide +kernel
theorem dX4_init_591 : decode cX4_init 591 = .ok (.dup, 1) := by decide +kernel
theorem dX4_init_592 : decode cX4_init 592 = .ok (.bipush 91, 2) := by decide +kernel
theorem dX4_init_594 : decode cX4_init 594 = .ok (.bipush 101, 2) := by decide +kernel
theorem dX4_init_596 : decode cX4_init 596 = .ok (.castore, 1) := by decide +kernel
theorem dX4_init_597 : decode cX4_init 597 = .ok (.dup, 1) := by decide +kernel
theorem dX4_init_598 : decode cX4_init 598 = .ok (.bipush 92, 2) := by decide +kernel
theorem dX4_init_600 : decode cX4_init 600 = .ok (.bipush 114, 2) := by decide +kernel
theorem dX4_init_602 : decode cX4_init 602 = .ok (.castore, 1) := by decide +kernel
theorem dX4_init_603 : decode cX4_init 603 = .ok (.dup, 1) := by decide +kernel
theorem dX4_init_604 : decode cX4_init 604 = .ok (.bipush 93, 2) := by decide +kernel
theorem dX4_init_606 : decode cX4_init 606 = .ok (.bipush 32, 2) := by decide +kernel
theorem dX4_init_608 : decode cX4_init 608 = .ok (.castore, 1) := by decide +kernel
theorem dX4_init_609 : decode cX4_init 609 = .ok (.dup, 1) := by decide +kernel
theorem dX4_init_610 : decode cX4_init 610 = .ok (.bipush 94, 2) := by decide +kernel
theorem dX4_init_612 : decode cX4_init 612 = .ok (.bipush 32, 2) := by decide +kernel
theorem dX4_init_614 : decode cX4_init 614 = .ok (.castore, 1) := by decide +kernel
theorem dX4_init_615 : decode cX4_init 615 = .ok (.dup, 1) := by decide +kernel
theorem dX4_init_616 : decode cX4_init 616 = .ok (.bipush 95, 2) := by decide +kernel
theorem dX4_init_618 : decode cX4_init 618 = .ok (.bipush 32, 2) := by decide +kernel
theorem dX4_init_620 : decode cX4_init 620 = .ok (.castore, 1) := by decide +kernel
theorem dX4_init_621 : decode cX4_init 621 = .ok (.dup, 1) := by decide +kernel
theorem dX4_init_622 : decode cX4_init 622 = .ok (.bipush 96, 2) := by decide +kernel
theorem dX4_init_624 : decode cX4_init 624 = .ok (.bipush 115, 2) := by decide +kernel
theorem dX4_init_626 : decode cX4_init 626 = .ok (.castore, 1) := by decide +kernel
theorem dX4_init_627 : decode cX4_init 627 = .ok (.dup, 1) := by decide +kernel
theorem dX4_init_628 : decode cX4_init 628 = .ok (.bipush 97, 2) := by decide +kernel
theorem dX4_init_630 : decode cX4_init 630 = .ok (.bipush 112, 2) := by decide +kernel
theorem dX4_init_632 : decode cX4_init 632 = .ok (.castore, 1) := by decide +kernel
theorem dX4_init_633 : decode cX4_init 633 = .ok (.dup, 1) := by decide +kernel
theorem dX4_init_634 : decode cX4_init 634 = .ok (.bipush 98, 2) := by decide +kernel
theorem dX4_init_636 : decode cX4_init 636 = .ok (.bipush 114, 2) := by decide +kernel
theorem dX4_init_638 : decode cX4_init 638 = .ok (.castore, 1) := by decide +kernel
theorem dX4_init_639 : decode cX4_init 639 = .ok (.dup, 1) := by decide +kernel
theorem dX4_init_640 : decode cX4_init 640 = .ok (.bipush 99, 2) := by decide +kernel
theorem dX4_init_642 : decode cX4_init 642 = .ok (.bipush 105, 2) := by decide +kernel
theorem dX4_init_644 : decode cX4_init 644 = .ok (.castore, 1) := by decide +kernel
theorem dX4_init_645 : decode cX4_init 645 = .ok (.dup, 1) := by decide +kernel
theorem dX4_init_646 : decode cX4_init 646 = .ok (.bipush 100, 2) := by decide +kernel
theorem dX4_init_648 : decode cX4_init 648 = .ok (.bipush 110, 2) := by decide +kernel
theorem dX4_init_650 : decode cX4_init 650 = .ok (.castore, 1) := by decide +kernel
theorem dX4_init_651 : decode cX4_init 651 = .ok (.dup, 1) := by decide +kernel
theorem dX4_init_652 : decode cX4_init 652 = .ok (.bipush 101, 2) := by decide +kernel
theorem dX4_init_654 : decode cX4_init 654 = .ok (.bipush 103, 2) := by decide +kernel
theorem dX4_init_656 : decode cX4_init 656 = .ok (.castore, 1) := by decide +kernel
theorem dX4_init_657 : decode cX4_init 657 = .ok (.dup, 1) := by decide +kernel
theorem dX4_init_658 : decode cX4_init 658 = .ok (.bipush 102, 2) := by decide +kernel
theorem dX4_init_660 : decode cX4_init 660 = .ok (.bipush 32, 2) := by decide +kernel
theorem dX4_init_662 : decode cX4_init 662 = .ok (.castore, 1) := by decide +kernel
theorem dX4_init_663 : decode cX4_init 663 = .ok (.dup, 1) := by decide +kernel
theorem dX4_init_664 : decode cX4_init 664 = .ok (.bipush 103, 2) := by decide +kernel
theorem dX4_init_666 : decode cX4_init 666 = .ok (.bipush 32, 2) := by decide +kernel
theorem dX4_init_668 : decode cX4_init 668 = .ok (.castore, 1) := by decide +kernel
theorem dX4_init_669 : decode cX4_init 669 = .ok (.dup, 1) := by decide +kernel
theorem dX4_init_670 : decode cX4_init 670 = .ok (.bipush 104, 2) := by decide +kernel
theorem dX4_init_672 : decode cX4_init 672 = .ok (.bipush 115, 2) := by decide +kernel
theorem dX4_init_674 : decode cX4_init 674 = .ok (.castore, 1) := by decide +kernel
theorem dX4_init_675 : decode cX4_init 675 = .ok (.dup, 1) := by decide +kernel
theorem dX4_init_676 : decode cX4_init 676 = .ok (.bipush 105, 2) := by decide +kernel
theorem dX4_init_678 : decode cX4_init 678 = .ok (.bipush 101, 2) := by decide +kernel
theorem dX4_init_680 : decode cX4_init 680 = .ok (.castore, 1) := by decide +kernel
theorem dX4_init_681 : decode cX4_init 681 = .ok (.dup, 1) := by decide +kernel
theorem dX4_init_682 : decode cX4_init 682 = .ok (.bipush 106, 2) := by decide +kernel
theorem dX4_init_684 : decode cX4_init 684 = .ok (.bipush 101, 2) := by decide +kernel
theorem dX4_init_686 : decode cX4_init 686 = .ok (.castore, 1) := by decide +kernel
theorem dX4_init_687 : decode cX4_init 687 = .ok (.dup, 1) := by decide +kernel
theorem dX4_init_688 : decode cX4_init 688 = .ok (.bipush 107, 2) := by decide +kernel
theorem dX4_init_690 : decode cX4_init 690 = .ok (.bipush 112, 2) := by decide +kernel
theorem dX4_init_692 : decode cX4_init 692 = .ok (.castore, 1) := by decide +kernel
theorem dX4_init_693 : decode cX4_init 693 = .ok (.dup, 1) := by decide +kernel
theorem dX4_init_694 : decode cX4_init 694 = .ok (.bipush 108, 2) := by decide +kernel
theorem dX4_init_696 : decode cX4_init 696 = .ok (.bipush 32, 2) := by decide +kernel
theorem dX4_init_698 : decode cX4_init 698 = .ok (.castore, 1) := by decide +kernel
theorem dX4_init_699 : decode cX4_init 699 = .ok (.dup, 1) := by decide +kernel
theorem dX4_init_700 : decode cX4_init 700 = .ok (.bipush 109, 2) := by decide +kernel
theorem dX4_init_702 : decode cX4_init 702 = .ok (.bipush 32, 2) := by decide +kernel
theorem dX4_init_704 : decode cX4_init 704 = .ok (.castore, 1) := by decide +kernel
theorem dX4_init_705 : decode cX4_init 705 = .ok (.dup, 1) := by decide +kernel
theorem dX4_init_706 : decode cX4_init 706 = .ok (.bipush 110, 2) := by decide +kernel
theorem dX4_init_708 : decode cX4_init 708 = .ok (.bipush 32, 2) := by decide +kernel
theorem dX4_init_710 : decode cX4_init 710 = .ok (.castore, 1) := by decide +kernel
theorem dX4_init_711 : decode cX4_init 711 = .ok (.dup, 1) := by decide +kernel
theorem dX4_init_712 : decode cX4_init 712 = .ok (.bipush 111, 2) := by decide +kernel
theorem dX4_init_714 : decode cX4_init 714 = .ok (.bipush 32, 2) := by decide +kernel
theorem dX4_init_716 : decode cX4_init 716 = .ok (.castore, 1) := by decide +kernel
theorem dX4_init_717 : decode cX4_init 717 = .ok (.dup, 1) := by decide +kernel
theorem dX4_init_718 : decode cX4_init 718 = .ok (.bipush 112, 2) := by decide +kernel
theorem dX4_init_720 : decode cX4_init 720 = .ok (.bipush 98, 2) := by decide +kernel
theorem dX4_init_722 : decode cX4_init 722 = .ok (.castore, 1) := by decide +kernel
theorem dX4_init_723 : decode cX4_init 723 = .ok (.dup, 1) := by decide +kernel
theorem dX4_init_724 : decode cX4_init 724 = .ok (.bipush 113, 2) := by decide +kernel
theorem dX4_init_726 : decode cX4_init 726 = .ok (.bipush 111, 2) := by decide +kernel
theorem dX4_init_728 : decode cX4_init 728 = .ok (.castore, 1) := by decide +kernel
theorem dX4_init_729 : decode cX4_init 729 = .ok (.dup, 1) := by decide +kernel
theorem dX4_init_730 : decode cX4_init 730 = .ok (.bipush 114, 2) := by decide +kernel
theorem dX4_init_732 : decode cX4_init 732 = .ok (.bipush 103, 2) := by decide +kernel
theorem dX4_init_734 : decode cX4_init 734 = .ok (.castore, 1) := by decide +kernel
theorem dX4_init_735 : decode cX4_init 735 = .ok (.dup, 1) := by decide +kernel
theorem dX4_init_736 : decode cX4_init 736 = .ok (.bipush 115, 2) := by decide +kernel
theorem dX4_init_738 : decode cX4_init 738 = .ok (.bipush 32, 2) := by decide +kernel
theorem dX4_init_740 : decode cX4_init 740 = .ok (.castore, 1) := by decide +kernel
theorem dX4_init_741 : decode cX4_init 741 = .ok (.dup, 1) := by decide +kernel
theorem dX4_init_742 : decode cX4_init 742 = .ok (.bipush 116, 2) := by decide +kernel
theorem dX4_init_744 : decode cX4_init 744 = .ok (.bipush 32, 2) := by decide +kernel
theorem dX4_init_746 : decode cX4_init 746 = .ok (.castore, 1) := by decide +kernel
theorem dX4_init_747 : decode cX4_init 747 = .ok (.dup, 1) := by decide +kernel
theorem dX4_init_748 : decode cX4_init 748 = .ok (.bipush 117, 2) := by decide +kernel
theorem dX4_init_750 : decode cX4_init 750 = .ok (.bipush 32, 2) := by decide +kernel
theorem dX4_init_752 : decode cX4_init 752 = .ok (.castore, 1) := by decide +kernel
theorem dX4_init_753 : decode cX4_init 753 = .ok (.dup, 1) := by decide +kernel
theorem dX4_init_754 : decode cX4_init 754 = .ok (.bipush 118, 2) := by decide +kernel
theorem dX4_init_756 : decode cX4_init 756 = .ok (.bipush 32, 2) := by decide +kernel
theorem dX4_init_758 : decode cX4_init 758 = .ok (.castore, 1) := by decide +kernel
theorem dX4_init_759 : decode cX4_init 759 = .ok (.dup, 1) := by decide +kernel
theorem dX4_init_760 : decode cX4_init 760 = .ok (.bipush 119, 2) := by decide +kernel
theorem dX4_init_762 : decode cX4_init 762 = .ok (.bipush 32, 2) := by decide +kernel
theorem dX4_init_764 : decode cX4_init 764 = .ok (.castore, 1) := by decide +kernel
theorem dX4_init_765 : decode cX4_init 765 = .ok (.dup, 1) := by decide +kernel
theorem dX4_init_766 : decode cX4_init 766 = .ok (.bipush 120, 2) := by decide +kernel
theorem dX4_init_768 : decode cX4_init 768 = .ok (.bipush 100, 2) := by decide +kernel
theorem dX4_init_770 : decode cX4_init 770 = .ok (.castore, 1) := by decide +kernel
theorem dX4_init_771 : decode cX4_init 771 = .ok (.dup, 1) := by decide +kernel
theorem dX4_init_772 : decode cX4_init 772 = .ok (.bipush 121, 2) := by decide +kernel
theorem dX4_init_774 : decode cX4_init 774 = .ok (.bipush 114, 2) := by decide +kernel
theorem dX4_init_776 : decode cX4_init 776 = .ok (.castore, 1) := by decide +kernel
theorem dX4_init_777 : decode cX4_init 777 = .ok (.dup, 1) := by decide +kernel
theorem dX4_init_778 : decode cX4_init 778 = .ok (.bipush 122, 2) := by decide +kernel
theorem dX4_init_780 : decode cX4_init 780 = .ok (.bipush 105, 2) := by decide +kernel
theorem dX4_init_782 : decode cX4_init 782 = .ok (.castore, 1) := by decide +kernel
theorem dX4_init_783 : decode cX4_init 783 = .ok (.dup, 1) := by decide +kernel
theorem dX4_init_784 : decode cX4_init 784 = .ok (.bipush 123, 2) := by decide +kernel
theorem dX4_init_786 : decode cX4_init 786 = .ok (.bipush 110, 2) := by decide +kernel
theorem dX4_init_788 : decode cX4_init 788 = .ok (.castore, 1) := by decide +kernel
theorem dX4_init_789 : decode cX4_init 789 = .ok (.dup, 1) := by decide +kernel
theorem dX4_init_790 : decode cX4_init 790 = .ok (.bipush 124, 2) := by decide +kernel
theorem dX4_init_792 : decode cX4_init 792 = .ok (.bipush 107, 2) := by decide +kernel
theorem dX4_init_794 : decode cX4_init 794 = .ok (.castore, 1) := by decide +kernel
theorem dX4_init_795 : decode cX4_init 795 = .ok (.dup, 1) := by decide +kernel
theorem dX4_init_796 : decode cX4_init 796 = .ok (.bipush 125, 2) := by decide +kernel
theorem dX4_init_798 : decode cX4_init 798 = .ok (.bipush 32, 2) := by decide +kernel
theorem dX4_init_800 : decode cX4_init 800 = .ok (.castore, 1) := by decide +kernel
theorem dX4_init_801 : decode cX4_init 801 = .ok (.dup, 1) := by decide +kernel
theorem dX4_init_802 : decode cX4_init 802 = .ok (.bipush 126, 2) := by decide +kernel
theorem dX4_init_804 : decode cX4_init 804 = .ok (.bipush 32, 2) := by decide +kernel
theorem dX4_init_806 : decode cX4_init 806 = .ok (.castore, 1) := by decide +kernel
theorem dX4_init_807 : decode cX4_init 807 = .ok (.dup, 1) := by decide +kernel
theorem dX4_init_808 : decode cX4_init 808 = .ok (.bipush 127, 2) := by decide +kernel
theorem dX4_init_810 : decode cX4_init 810 = .ok (.bipush 32, 2) := by decide +kernel
theorem dX4_init_812 : decode cX4_init 812 = .ok (.castore, 1) := by decide +kernel
theorem dX4_init_813 : decode cX4_init 813 = .ok (.putfield 25, 3) := by decide +kernel
theorem dX4_init_816 : decode cX4_init 816 = .ok (.aload_n 0, 1) := by decide +kernel
theorem dX4_init_817 : decode cX4_init 817 = .ok (.bipush 30, 2) := by decide +kernel
theorem dX4_init_819 : decode cX4_init 819 = .ok (.newarray .int, 2) := by decide +kernel
theorem dX4_init_821 : decode cX4_init 821 = .ok (.putfield 29, 3) := by decide +kernel
theorem dX4_init_824 : decode cX4_init 824 = .ok (.aload_n 0, 1) := by decide +kernel
theorem dX4_init_825 : decode cX4_init 825 = .ok (.iconst 4, 1) := by decide +kernel
theorem dX4_init_826 : decode cX4_init 826 = .ok (.newarray .int, 2) := by decide +kernel
theorem dX4_init_828 : decode cX4_init 828 = .ok (.putfield 32, 3) := by decide +kernel
theorem dX4_init_831 : decode cX4_init 831 = .ok (.aload_n 0, 1) := by decide +kernel
theorem dX4_init_832 : decode cX4_init 832 = .ok (.iconst 4, 1) := by decide +kernel
theorem dX4_init_833 : decode cX4_init 833 = .ok (.newarray .int, 2) := by decide +kernel
theorem dX4_init_835 : decode cX4_init 835 = .ok (.putfield 35, 3) := by decide +kernel
theorem dX4_init_838 : decode cX4_init 838 = .ok (.aload_n 0, 1) := by decide +kernel
theorem dX4_init_839 : decode cX4_init 839 = .ok (.sipush 160, 3) := by decide +kernel
theorem dX4_init_842 : decode cX4_init 842 = .ok (.newarray .long, 2) := by decide +kernel
theorem dX4_init_844 : decode cX4_init 844 = .ok (.putfield 38, 3) := by decide +kernel
theorem dX4_init_847 : decode cX4_init 847 = .ok (.aload_n 0, 1) := by decide +kernel
theorem dX4_init_848 : decode cX4_init 848 = .ok (.iconst 4, 1) := by decide +kernel
theorem dX4_init_849 : decode cX4_init 849 = .ok (.newarray .int, 2) := by decide +kernel
theorem dX4_init_851 : decode cX4_init 851 = .ok (.putfield 42, 3) := by decide +kernel
theorem dX4_init_854 : decode cX4_init 854 = .ok (.aload_n 0, 1) := by decide +kernel
theorem dX4_init_855 : decode cX4_init 855 = .ok (.iconst 4, 1) := by decide +kernel
theorem dX4_init_856 : decode cX4_init 856 = .ok (.newarray .int, 2) := by decide +kernel
theorem dX4_init_858 : decode cX4_init 858 = .ok (.putfield 45, 3) := by decide +kernel
theorem dX4_init_861 : decode cX4_init 861 = .ok (.aload_n 0, 1) := by decide +kernel
theorem dX4_init_862 : decode cX4_init 862 = .ok (.iconst 4, 1) := by decide +kernel
theorem dX4_init_863 : decode cX4_init 863 = .ok (.newarray .int, 2) := by decide +kernel
theorem dX4_init_865 : decode cX4_init 865 = .ok (.putfield 48, 3) := by decide +kernel
theorem dX4_init_868 : decode cX4_init 868 = .ok (.aload_n 0, 1) := by decide +kernel
theorem dX4_init_869 : decode cX4_init 869 = .ok (.bipush 30, 2) := by decide +kernel
theorem dX4_init_871 : decode cX4_init 871 = .ok (.newarray .int, 2) := by decide +kernel
theorem dX4_init_873 : decode cX4_init 873 = .ok (.putfield 51, 3) := by decide +kernel
theorem dX4_init_876 : decode cX4_init 876 = .ok (.aload_n 0, 1) := by decide +kernel
theorem dX4_init_877 : decode cX4_init 877 = .ok (.invokevirtual 54, 3) := by decide +kernel
theorem dX4_init_880 : decode cX4_init 880 = .ok (.aload_n 0, 1) := by decide +kernel
theorem dX4_init_881 : decode cX4_init 881 = .ok (.getfield 7, 3) := by decide +kernel
theorem dX4_init_884 : decode cX4_init 884 = .ok (.bipush 6, 2) := by decide +kernel
theorem dX4_init_886 : decode cX4_init 886 = .ok (.iconst 1, 1) := by decide +kernel
theorem dX4_init_887 : decode cX4_init 887 = .ok (.iastore, 1) := by decide +kernel
theorem dX4_init_888 : decode cX4_init 888 = .ok (.return_, 1) := by decide +kernel
