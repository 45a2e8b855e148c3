theorem dX6_init_0 : decode cX6_init 0 = .ok (.aload_n 0, 1) := by decide +kernel
theorem dX6_init_1 : decode cX6_init 1 = .ok (.invokespecial 1, 3) := by decide +kernel
theorem dX6_init_4 : decode cX6_init 4 = .ok (.aload_n 0, 1) := by decide +kernel
theorem dX6_init_5 : decode cX6_init 5 = .ok (.bipush 64, 2) := by decide +kernel
theorem dX6_init_7 : decode cX6_init 7 = .ok (.newarray .int, 2) := by decide +kernel
theorem dX6_init_9 : decode cX6_init 9 = .ok (.dup, 1) := by decide +kernel
theorem dX6_init_10 : decode cX6_init 10 = .ok (.iconst 0, 1) := by decide +kernel
theorem dX6_init_11 : decode cX6_init 11 = .ok (.ldc 7, 2) := by decide +kernel
theorem dX6_init_13 : decode cX6_init 13 = .ok (.iastore, 1) := by decide +kernel
theorem dX6_init_14 : decode cX6_init 14 = .ok (.dup, 1) := by decide +kernel
theorem dX6_init_15 : decode cX6_init 15 = .ok (.iconst 1, 1) := by decide +kernel
theorem dX6_init_16 : decode cX6_init 16 = .ok (.ldc 8, 2) := by decide +kernel
theorem dX6_init_18 : decode cX6_init 18 = .ok (.iastore, 1) := by decide +kernel
theorem dX6_init_19 : decode cX6_init 19 = .ok (.dup, 1) := by decide +kernel
theorem dX6_init_20 : decode cX6_init 20 = .ok (.iconst 2, 1) := by decide +kernel
theorem dX6_init_21 : decode cX6_init 21 = .ok (.ldc 9, 2) := by decide +kernel
theorem dX6_init_23 : decode cX6_init 23 = .ok (.iastore, 1) := by decide +kernel
theorem dX6_init_24 : decode cX6_init 24 = .ok (.dup, 1) := by decide +kernel
theorem dX6_init_25 : decode cX6_init 25 = .ok (.iconst 3, 1) := by decide +kernel
theorem dX6_init_26 : decode cX6_init 26 = .ok (.ldc 10, 2) := by decide +kernel
theorem dX6_init_28 : decode cX6_init 28 = .ok (.iastore, 1) := by decide +kernel
theorem dX6_init_29 : decode cX6_init 29 = .ok (.dup, 1) := by decide +kernel
theorem dX6_init_30 : decode cX6_init 30 = .ok (.iconst 4, 1) := by decide +kernel
theorem dX6_init_31 : decode cX6_init 31 = .ok (.ldc 11, 2) := by decide +kernel
theorem dX6_init_33 : decode cX6_init 33 = .ok (.iastore, 1) := by decide +kernel
theorem dX6_init_34 : decode cX6_init 34 = .ok (.dup, 1) := by decide +kernel
theorem dX6_init_35 : decode cX6_init 35 = .ok (.iconst 5, 1) := by decide +kernel
theorem dX6_init_36 : decode cX6_init 36 = .ok (.ldc 12, 2) := by decide +kernel
theorem dX6_init_38 : decode cX6_init 38 = .ok (.iastore, 1) := by decide +kernel
theorem dX6_init_39 : decode cX6_init 39 = .ok (.dup, 1) := by decide +kernel
theorem dX6_init_40 : decode cX6_init 40 = .ok (.bipush 6, 2) := by decide +kernel
theorem dX6_init_42 : decode cX6_init 42 = .ok (.ldc 13, 2) := by decide +kernel
theorem dX6_init_44 : decode cX6_init 44 = .ok (.iastore, 1) := by decide +kernel
theorem dX6_init_45 : decode cX6_init 45 = .ok (.dup, 1) := by decide +kernel
theorem dX6_init_46 : decode cX6_init 46 = .ok (.bipush 7, 2) := by decide +kernel
theorem dX6_init_48 : decode cX6_init 48 = .ok (.ldc 14, 2) := by decide +kernel
theorem dX6_init_50 : decode cX6_init 50 = .ok (.iastore, 1) := by decide +kernel
theorem dX6_init_51 : decode cX6_init 51 = .ok (.dup, 1) := by decide +kernel
theorem dX6_init_52 : decode cX6_init 52 = .ok (.bipush 8, 2) := by decide +kernel
theorem dX6_init_54 : decode cX6_init 54 = .ok (.ldc 15, 2) := by decide +kernel
theorem dX6_init_56 : decode cX6_init 56 = .ok (.iastore, 1) := by decide +kernel
theorem dX6_init_57 : decode cX6_init 57 = .ok (.dup, 1) := by decide +kernel
theorem dX6_init_58 : decode cX6_init 58 = .ok (.bipush 9, 2) := by decide +kernel
theorem dX6_init_60 : decode cX6_init 60 = .ok (.ldc 16, 2) := by decide +kernel
theorem dX6_init_62 : decode cX6_init 62 = .ok (.iastore, 1) := by decide +kernel
theorem dX6_init_63 : decode cX6_init 63 = .ok (.dup, 1) := by decide +kernel
theorem dX6_init_64 : decode cX6_init 64 = .ok (.bipush 10, 2) := by decide +kernel
theorem dX6_init_66 : decode cX6_init 66 = .ok (.ldc 17, 2) := by decide +kernel
theorem dX6_init_68 : decode cX6_init 68 = .ok (.iastore, 1) := by decide +kernel
theorem dX6_init_69 : decode cX6_init 69 = .ok (.dup, 1) := by decide +kernel
theorem dX6_init_70 : decode cX6_init 70 = .ok (.bipush 11, 2) := by decide +kernel
theorem dX6_init_72 : decode cX6_init 72 = .ok (.ldc 18, 2) := by decide +kernel
theorem dX6_init_74 : decode cX6_init 74 = .ok (.iastore, 1) := by decide +kernel
theorem dX6_init_75 : decode cX6_init 75 = .ok (.dup, 1) := by decide +kernel
theorem dX6_init_76 : decode cX6_init 76 = .ok (.bipush 12, 2) := by decide +kernel
theorem dX6_init_78 : decode cX6_init 78 = .ok (.ldc 19, 2) := by decide +kernel
theorem dX6_init_80 : decode cX6_init 80 = .ok (.iastore, 1) := by decide +kernel
theorem dX6_init_81 : decode cX6_init 81 = .ok (.dup, 1) := by decide +kernel
theorem dX6_init_82 : decode cX6_init 82 = .ok (.bipush 13, 2) := by decide +kernel
theorem dX6_init_84 : decode cX6_init 84 = .ok (.ldc 20, 2) := by decide +kernel
theorem dX6_init_86 : decode cX6_init 86 = .ok (.iastore, 1) := by decide +kernel
theorem dX6_init_87 : decode cX6_init 87 = .ok (.dup, 1) := by decide +kernel
theorem dX6_init_88 : decode cX6_init 88 = .ok (.bipush 14, 2) := by decide +kernel
theorem dX6_init_90 : decode cX6_init 90 = .ok (.ldc 21, 2) := by decide +kernel
theorem dX6_init_92 : decode cX6_init 92 = .ok (.iastore, 1) := by decide +kernel
theorem dX6_init_93 : decode cX6_init 93 = .ok (.dup, 1) := by decide +kernel
theorem dX6_init_94 : decode cX6_init 94 = .ok (.bipush 15, 2) := by decide +kernel
theorem dX6_init_96 : decode cX6_init 96 = .ok (.ldc 22, 2) := by decide +kernel
theorem dX6_init_98 : decode cX6_init 98 = .ok (.iastore, 1) := by decide +kernel
theorem dX6_init_99 : decode cX6_init 99 = .ok (.dup, 1) := by decide +kernel
theorem dX6_init_100 : decode cX6_init 100 = .ok (.bipush 16, 2) := by decide +kernel
theorem dX6_init_102 : decode cX6_init 102 = .ok (.ldc 23, 2) := by decide +kernel
theorem dX6_init_104 : decode cX6_init 104 = .ok (.iastore, 1) := by decide +kernel
theorem dX6_init_105 : decode cX6_init 105 = .ok (.dup, 1) := by decide +kernel
theorem dX6_init_106 : decode cX6_init 106 = .ok (.bipush 17, 2) := by decide +kernel
theorem dX6_init_108 : decode cX6_init 108 = .ok (.ldc 24, 2) := by decide +kernel
theorem dX6_init_110 : decode cX6_init 110 = .ok (.iastore, 1) := by decide +kernel
theorem dX6_init_111 : decode cX6_init 111 = .ok (.dup, 1) := by decide +kernel
theorem dX6_init_112 : decode cX6_init 112 = .ok (.bipush 18, 2) := by decide +kernel
theorem dX6_init_114 : decode cX6_init 114 = .ok (.ldc 25, 2) := by decide +kernel
theorem dX6_init_116 : decode cX6_init 116 = .ok (.iastore, 1) := by decide +kernel
theorem dX6_init_117 : decode cX6_init 117 = .ok (.dup, 1) := by decide +kernel
theorem dX6_init_118 : decode cX6_init 118 = .ok (.bipush 19, 2) := by decide +kernel
theorem dX6_init_120 : decode cX6_init 120 = .ok (.ldc 26, 2) := by decide +kernel
theorem dX6_init_122 : decode cX6_init 122 = .ok (.iastore, 1) := by decide +kernel
theorem dX6_init_123 : decode cX6_init 123 = .ok (.dup, 1) := by decide +kernel
theorem dX6_init_124 : decode cX6_init 124 = .ok (.bipush 20, 2) := by decide +kernel
theorem dX6_init_126 : decode cX6_init 126 = .ok (.ldc 27, 2) := by decide +kernel
theorem dX6_init_128 : decode cX6_init 128 = .ok (.iastore, 1) := by decide +kernel
theorem dX6_init_129 : decode cX6_init 129 = .ok (.dup, 1) := by decide +kernel
theorem dX6_init_130 : decode cX6_init 130 = .ok (.bipush 21, 2) := by decide +kernel
theorem dX6_init_132 : decode cX6_init 132 = .ok (.ldc 28, 2) := by decide +kernel
theorem dX6_init_134 : decode cX6_init 134 = .ok (.iastore, 1) := by decide +kernel
theorem dX6_init_135 : decode cX6_init 135 = .ok (.dup, 1) := by decide +kernel
theorem dX6_init_136 : decode cX6_init 136 = .ok (.bipush 22, 2) := by decide +kernel
theorem dX6_init_138 : decode cX6_init 138 = .ok (.ldc 29, 2) := by decide +kernel
theorem dX6_init_140 : decode cX6_init 140 = .ok (.iastore, 1) := by decide +kernel
theorem dX6_init_141 : decode cX6_init 141 = .ok (.dup, 1) := by decide +kernel
theorem dX6_init_142 : decode cX6_init 142 = .ok (.bipush 23, 2) := by decide +kernel
theorem dX6_init_144 : decode cX6_init 144 = .ok (.ldc 30, 2) := by decide +kernel
theorem dX6_init_146 : decode cX6_init 146 = .ok (.iastore, 1) := by decide +kernel
theorem dX6_init_147 : decode cX6_init 147 = .ok (.dup, 1) := by decide +kernel
theorem dX6_init_148 : decode cX6_init 148 = .ok (.bipush 24, 2) := by decide +kernel
theorem dX6_init_150 : decode cX6_init 150 = .ok (.ldc 31, 2) := by decide +kernel
theorem dX6_init_152 : decode cX6_init 152 = .ok (.iastore, 1) := by decide +kernel
theorem dX6_init_153 : decode cX6_init 153 = .ok (.dup, 1) := by decide +kernel
theorem dX6_init_154 : decode cX6_init 154 = .ok (.bipush 25, 2) := by decide +kernel
theorem dX6_init_156 : decode cX6_init 156 = .ok (.ldc 32, 2) := by decide +kernel
theorem dX6_init_158 : decode cX6_init 158 = .ok (.iastore, 1) := by decide +kernel
theorem dX6_init_159 : decode cX6_init 159 = .ok (.dup, 1) := by decide +kernel
theorem dX6_init_160 : decode cX6_init 160 = .ok (.bipush 26, 2) := by decide +kernel
theorem dX6_init_162 : decode cX6_init 162 = .ok (.ldc 33, 2) := by decide +kernel
theorem dX6_init_164 : decode cX6_init 164 = .ok (.iastore, 1) := by decide +kernel
theorem dX6_init_165 : decode cX6_init 165 = .ok (.dup, 1) := by decide +kernel
theorem dX6_init_166 : decode cX6_init 166 = .ok (.bipush 27, 2) := by decide +kernel
theorem dX6_init_168 : decode cX6_init 168 = .ok (.ldc 34, 2) := by decide +kernel
theorem dX6_init_170 : decode cX6_init 170 = .ok (.iastore, 1) := by decide +kernel
theorem dX6_init_171 : decode cX6_init 171 = .ok (.dup, 1) := by decide +kernel
theorem dX6_init_172 : decode cX6_init 172 = .ok (.bipush 28, 2) := by decide +kernel
theorem dX6_init_174 : decode cX6_init 174 = .ok (.ldc 35, 2) := by decide +kernel
theorem dX6_init_176 : decode cX6_init 176 = .ok (.iastore, 1) := by decide +kernel
theorem dX6_init_177 : decode cX6_init 177 = .ok (.dup, 1) := by decide +kernel
theorem dX6_init_178 : decode cX6_init 178 = .ok (.bipush 29, 2) := by decide +kernel
theorem dX6_init_180 : decode cX6_init 180 = .ok (.ldc 36, 2) := by decide +kernel
theorem dX6_init_182 : decode cX6_init 182 = .ok (.iastore, 1) := by decide +kernel
theorem dX6_init_183 : decode cX6_init 183 = .ok (.dup, 1) := by decide +kernel
theorem dX6_init_184 : decode cX6_init 184 = .ok (.bipush 30, 2) := by decide +kernel
theorem dX6_init_186 : decode cX6_init 186 = .ok (.ldc 37, 2) := by decide +kernel
theorem dX6_init_188 : decode cX6_init 188 = .ok (.iastore, 1) := by decide +kernel
theorem dX6_init_189 : decode cX6_init 189 = .ok (.dup, 1) := by decide +kernel
theorem dX6_init_190 : decode cX6_init 190 = .ok (.bipush 31, 2) := by decide +kernel
theorem dX6_init_192 : decode cX6_init 192 = .ok (.ldc 38, 2) := by decide +kernel
theorem dX6_init_194 : decode cX6_init 194 = .ok (.iastore, 1) := by decide +kernel
theorem dX6_init_195 : decode cX6_init 195 = .ok (.dup, 1) := by decide +kernel
theorem dX6_init_196 : decode cX6_init 196 = .ok (.bipush 32, 2) := by decide +kernel
theorem dX6_init_198 : decode cX6_init 198 = .ok (.ldc 39, 2) := by decide +kernel
theorem dX6_init_200 : decode cX6_init 200 = .ok (.iastore, 1) := by decide +kernel
theorem dX6_init_201 : decode cX6_init 201 = .ok (.dup, 1) := by decide +kernel
theorem dX6_init_202 : decode cX6_init 202 = .ok (.bipush 33, 2) := by decide +kernel
theorem dX6_init_204 : decode cX6_init 204 = .ok (.ldc 40, 2) := by decide +kernel
theorem dX6_init_206 : decode cX6_init 206 = .ok (.iastore, 1) := by decide +kernel
theorem dX6_init_207 : decode cX6_init 207 = .ok (.dup, 1) := by decide +kernel
theorem dX6_init_208 : decode cX6_init 208 = .ok (.bipush 34, 2) := by decide +kernel
theorem dX6_init_210 : decode cX6_init 210 = .ok (.ldc 41, 2) := by decide +kernel
theorem dX6_init_212 : decode cX6_init 212 = .ok (.iastore, 1) := by decide +kernel
theorem dX6_init_213 : decode cX6_init 213 = .ok (.dup, 1) := by decide +kernel
theorem dX6_init_214 : decode cX6_init 214 = .ok (.bipush 35, 2) := by decide +kernel
theorem dX6_init_216 : decode cX6_init 216 = .ok (.ldc 42, 2) := by decide +kernel
theorem dX6_init_218 : decode cX6_init 218 = .ok (.iastore, 1) := by decide +kernel
theorem dX6_init_219 : decode cX6_init 219 = .ok (.dup, 1) := by decide +kernel
theorem dX6_init_220 : decode cX6_init 220 = .ok (.bipush 36, 2) := by decide +kernel
theorem dX6_init_222 : decode cX6_init 222 = .ok (.ldc 43, 2) := by decide +kernel
theorem dX6_init_224 : decode cX6_init 224 = .ok (.iastore, 1) := by decide +kernel
theorem dX6_init_225 : decode cX6_init 225 = .ok (.dup, 1) := by decide +kernel
theorem dX6_init_226 : decode cX6_init 226 = .ok (.bipush 37, 2) := by decide +kernel
theorem dX6_init_228 : decode cX6_init 228 = .ok (.ldc 44, 2) := by decide +kernel
theorem dX6_init_230 : decode cX6_init 230 = .ok (.iastore, 1) := by decide +kernel
theorem dX6_init_231 : decode cX6_init 231 = .ok (.dup, 1) := by decide +kernel
theorem dX6_init_232 : decode cX6_init 232 = .ok (.bipush 38, 2) := by decide +kernel
theorem dX6_init_234 : decode cX6_init 234 = .ok (.ldc 45, 2) := by decide +kernel
theorem dX6_init_236 : decode cX6_init 236 = .ok (.iastore, 1) := by decide +kernel
theorem dX6_init_237 : decode cX6_init 237 = .ok (.dup, 1) := by decide +kernel
theorem dX6_init_238 : decode cX6_init 238 = .ok (.bipush 39, 2) := by decide +kernel
theorem dX6_init_240 : decode cX6_init 240 = .ok (.ldc 46, 2) := by decide +kernel
theorem dX6_init_242 : decode cX6_init 242 = .ok (.iastore, 1) := by decide +kernel
theorem dX6_init_243 : decode cX6_init 243 = .ok (.dup, 1) := by decide +kernel
theorem dX6_init_244 : decode cX6_init 244 = .ok (.bipush 40, 2) := by decide +kernel
theorem dX6_init_246 : decode cX6_init 246 = .ok (.ldc 47, 2) := by decide +kernel
theorem dX6_init_248 : decode cX6_init 248 = .ok (.iastore, 1) := by decide +kernel
theorem dX6_init_249 : decode cX6_init 249 = .ok (.dup, 1) := by decide +kernel
theorem dX6_init_250 : decode cX6_init 250 = .ok (.bipush 41, 2) := by decide +kernel
theorem dX6_init_252 : decode cX6_init 252 = .ok (.ldc 48, 2) := by decide +kernel
theorem dX6_init_254 : decode cX6_init 254 = .ok (.iastore, 1) := by decide +kernel
theorem dX6_init_255 : decode cX6_init 255 = .ok (.dup, 1) := by decide +kernel
theorem dX6_init_256 : decode cX6_init 256 = .ok (.bipush 42, 2) := by decide +kernel
theorem dX6_init_258 : decode cX6_init 258 = .ok (.ldc 49, 2) := by decide +kernel
theorem dX6_init_260 : decode cX6_init 260 = .ok (.iastore, 1) := by decide +kernel
theorem dX6_init_261 : decode cX6_init 261 = .ok (.dup, 1) := by decide +kernel
theorem dX6_init_262 : decode cX6_init 262 = .ok (.bipush 43, 2) := by decide +kernel
theorem dX6_init_264 : decode cX6_init 264 = .ok (.ldc 50, 2) := by decide +kernel
theorem dX6_init_266 : decode cX6_init 266 = .ok (.iastore, 1) := by decide +kernel
theorem dX6_init_267 : decode cX6_init 267 = .ok (.dup, 1) := by decide +kernel
theorem dX6_init_268 : decode cX6_init 268 = .ok (.bipush 44, 2) := by decide +kernel
theorem dX6_init_270 : decode cX6_init 270 = .ok (.ldc 51, 2) := by decide +kernel
theorem dX6_init_272 : decode cX6_init 272 = .ok (.iastore, 1) := by decide +kernel
theorem dX6_init_273 : decode cX6_init 273 = .ok (.dup, 1) := by decide +kernel
theorem dX6_init_274 : decode cX6_init 274 = .ok (.bipush 45, 2) := by decide +kernel
theorem dX6_init_276 : decode cX6_init 276 = .ok (.ldc 52, 2) := by decide +kernel
theorem dX6_init_278 : decode cX6_init 278 = .ok (.iastore, 1) := by decide +kernel
theorem dX6_init_279 : decode cX6_init 279 = .ok (.dup, 1) := by decide +kernel
theorem dX6_init_280 : decode cX6_init 280 = .ok (.bipush 46, 2) := by decide +kernel
theorem dX6_init_282 : decode cX6_init 282 = .ok (.ldc 53, 2) := by decide +kernel
theorem dX6_init_284 : decode cX6_init 284 = .ok (.iastore, 1) := by decide +kernel
theorem dX6_init_285 : decode cX6_init 285 = .ok (.dup, 1) := by decide +kernel
theorem dX6_init_286 : decode cX6_init 286 = .ok (.bipush 47, 2) := by decide +kernel
theorem dX6_init_288 : decode cX6_init 288 = .ok (.ldc 54, 2) := by decide +kernel
theorem dX6_init_290 : decode cX6_init 290 = .ok (.iastore, 1) := by decide +kernel
theorem dX6_init_291 : decode cX6_init 291 = .ok (.dup, 1) := by decide +kernel
theorem dX6_init_292 : decode cX6_init 292 = .ok (.bipush 48, 2) := by decide +kernel
theorem dX6_init_294 : decode cX6_init 294 = .ok (.ldc 55, 2) := by decide +kernel
theorem dX6_init_296 : decode cX6_init 296 = .ok (.iastore, 1) := by decide +kernel
theorem dX6_init_297 : decode cX6_init 297 = .ok (.dup, 1) := by decide +kernel
theorem dX6_init_298 : decode cX6_init 298 = .ok (.bipush 49, 2) := by decide +kernel
theorem dX6_init_300 : decode cX6_init 300 = .ok (.ldc 56, 2) := by decide +kernel
theorem dX6_init_302 : decode cX6_init 302 = .ok (.iastore, 1) := by decide +kernel
theorem dX6_init_303 : decode cX6_init 303 = .ok (.dup, 1) := by decide +kernel
theorem dX6_init_304 : decode cX6_init 304 = .ok (.bipush 50, 2) := by decide +kernel
theorem dX6_init_306 : decode cX6_init 306 = .ok (.ldc 57, 2) := by decide +kernel
theorem dX6_init_308 : decode cX6_init 308 = .ok (.iastore, 1) := by decide +kernel
theorem dX6_init_309 : decode cX6_init 309 = .ok (.dup, 1) := by decide +kernel
theorem dX6_init_310 : decode cX6_init 310 = .ok (.bipush 51, 2) := by decide +kernel
theorem dX6_init_312 : decode cX6_init 312 = .ok (.ldc 58, 2) := by decide +kernel
theorem dX6_init_314 : decode cX6_init 314 = .ok (.iastore, 1) := by decide +kernel
theorem dX6_init_315 : decode cX6_init 315 = .ok (.dup, 1) := by decide +kernel
theorem dX6_init_316 : decode cX6_init 316 = .ok (.bipush 52, 2) := by decide +kernel
theorem dX6_init_318 : decode cX6_init 318 = .ok (.ldc 59, 2) := by decide +kernel
theorem dX6_init_320 : decode cX6_init 320 = .ok (.iastore, 1) := by decide +kernel
theorem dX6_init_321 : decode cX6_init 321 = .ok (.dup, 1) := by decide +kernel
theorem dX6_init_322 : decode cX6_init 322 = .ok (.bipush 53, 2) := by decide +kernel
theorem dX6_init_324 : decode cX6_init 324 = .ok (.ldc 60, 2) := by decide +kernel
theorem dX6_init_326 : decode cX6_init 326 = .ok (.iastore, 1) := by decide +kernel
theorem dX6_init_327 : decode cX6_init 327 = .ok (.dup, 1) := by decide +kernel
theorem dX6_init_328 : decode cX6_init 328 = .ok (.bipush 54, 2) := by decide +kernel
theorem dX6_init_330 : decode cX6_init 330 = .ok (.ldc 61, 2) := by decide +kernel
theorem dX6_init_332 : decode cX6_init 332 = .ok (.iastore, 1) := by decide +kernel
theorem dX6_init_333 : decode cX6_init 333 = .ok (.dup, 1) := by decide +kernel
theorem dX6_init_334 : decode cX6_init 334 = .ok (.bipush 55, 2) := by decide +kernel
theorem dX6_init_336 : decode cX6_init 336 = .ok (.ldc 62, 2) := by decide +kernel
theorem dX6_init_338 : decode cX6_init 338 = .ok (.iastore, 1) := by decide +kernel
theorem dX6_init_339 : decode cX6_init 339 = .ok (.dup, 1) := by decide +kernel
theorem dX6_init_340 : decode cX6_init 340 = .ok (.bipush 56, 2) := by decide +kernel
theorem dX6_init_342 : decode cX6_init 342 = .ok (.ldc 63, 2) := by decide +kernel
theorem dX6_init_344 : decode cX6_init 344 = .ok (.iastore, 1) := by decide +kernel
theorem dX6_init_345 : decode cX6_init 345 = .ok (.dup, 1) := by decide +kernel
theorem dX6_init_346 : decode cX6_init 346 = .ok (.bipush 57, 2) := by decide +kernel
theorem dX6_init_348 : decode cX6_init 348 = .ok (.ldc 64, 2) := by decide +kernel
theorem dX6_init_350 : decode cX6_init 350 = .ok (.iastore, 1) := by decide +kernel
theorem dX6_init_351 : decode cX6_init 351 = .ok (.dup, 1) := by decide +kernel
theorem dX6_init_352 : decode cX6_init 352 = .ok (.bipush 58, 2) := by decide +kernel
theorem dX6_init_354 : decode cX6_init 354 = .ok (.ldc 65, 2) := by decide +kernel
theorem dX6_init_356 : decode cX6_init 356 = .ok (.iastore, 1) := by decide +kernel
theorem dX6_init_357 : decode cX6_init 357 = .ok (.dup, 1) := by decide +kernel
theorem dX6_init_358 : decode cX6_init 358 = .ok (.bipush 59, 2) := by decide +kernel
theorem dX6_init_360 : decode cX6_init 360 = .ok (.ldc 66, 2) := by decide +kernel
theorem dX6_init_362 : decode cX6_init 362 = .ok (.iastore, 1) := by decide +kernel
theorem dX6_init_363 : decode cX6_init 363 = .ok (.dup, 1) := by decide +kernel
theorem dX6_init_364 : decode cX6_init 364 = .ok (.bipush 60, 2) := by decide +kernel
theorem dX6_init_366 : decode cX6_init 366 = .ok (.ldc 67, 2) := by decide +kernel
theorem dX6_init_368 : decode cX6_init 368 = .ok (.iastore, 1) := by decide +kernel
theorem dX6_init_369 : decode cX6_init 369 = .ok (.dup, 1) := by decide +kernel
theorem dX6_init_370 : decode cX6_init 370 = .ok (.bipush 61, 2) := by decide +kernel
theorem dX6_init_372 : decode cX6_init 372 = .ok (.ldc 68, 2) := by decide +kernel
theorem dX6_init_374 : decode cX6_init 374 = .ok (.iastore, 1) := by decide +kernel
theorem dX6_init_375 : decode cX6_init 375 = .ok (.dup, 1) := by decide +kernel
theorem dX6_init_376 : decode cX6_init 376 = .ok (.bipush 62, 2) := by decide +kernel
theorem dX6_init_378 : decode cX6_init 378 = .ok (.ldc 69, 2) := by decide +kernel
theorem dX6_init_380 : decode cX6_init 380 = .ok (.iastore, 1) := by decide +kernel
theorem dX6_init_381 : decode cX6_init 381 = .ok (.dup, 1) := by decide +kernel
theorem dX6_init_382 : decode cX6_init 382 = .ok (.bipush 63, 2) := by decide +kernel
theorem dX6_init_384 : decode cX6_init 384 = .ok (.ldc 70, 2) := by decide +kernel
theorem dX6_init_386 : decode cX6_init 386 = .ok (.iastore, 1) := by decide +kernel
theorem dX6_init_387 : decode cX6_init 387 = .ok (.putfield 71, 3) := by decide +kernel
theorem dX6_init_390 : decode cX6_init 390 = .ok (.aload_n 0, 1) := by decide +kernel
theorem dX6_init_391 : decode cX6_init 391 = .ok (.sipush 1500, 3) := by decide +kernel
theorem dX6_init_394 : decode cX6_init 394 = .ok (.newarray .byte, 2) := by decide +kernel
theorem dX6_init_396 : decode cX6_init 396 = .ok (.putfield 77, 3) := by decide +kernel
theorem dX6_init_399 : decode cX6_init 399 = .ok (.aload_n 0, 1) := by decide +kernel
theorem dX6_init_400 : decode cX6_init 400 = .ok (.bipush 8, 2) := by decide +kernel
theorem dX6_init_402 : decode cX6_init 402 = .ok (.newarray .int, 2) := by decide +kernel
theorem dX6_init_404 : decode cX6_init 404 = .ok (.putfield 81, 3) := by decide +kernel
theorem dX6_init_407 : decode cX6_init 407 = .ok (.aload_n 0, 1) := by decide +kernel
theorem dX6_init_408 : decode cX6_init 408 = .ok (.bipush 8, 2) := by decide +kernel
theorem dX6_init_410 : decode cX6_init 410 = .ok (.newarray .int, 2) := by decide +kernel
theorem dX6_init_412 : decode cX6_init 412 = .ok (.putfield 84, 3) := by decide +kernel
theorem dX6_init_415 : decode cX6_init 415 = .ok (.aload_n 0, 1) := by decide +kernel
theorem dX6_init_416 : decode cX6_init 416 = .ok (.bipush 8, 2) := by decide +kernel
theorem dX6_init_418 : decode cX6_init 418 = .ok (.newarray .int, 2) := by decide +kernel
theorem dX6_init_420 : decode cX6_init 420 = .ok (.putfield 87, 3) := by decide +kernel
theorem dX6_init_423 : decode cX6_init 423 = .ok (.aload_n 0, 1) := by decide +kernel
theorem dX6_init_424 : decode cX6_init 424 = .ok (.bipush 8, 2) := by decide +kernel
theorem dX6_init_426 : decode cX6_init 426 = .ok (.newarray .int, 2) := by decide +kernel
theorem dX6_init_428 : decode cX6_init 428 = .ok (.putfield 90, 3) := by decide +kernel
theorem dX6_init_431 : decode cX6_init 431 = .ok (.aload_n 0, 1) := by decide +kernel
theorem dX6_init_432 : decode cX6_init 432 = .ok (.bipush 8, 2) := by decide +kernel
theorem dX6_init_434 : decode cX6_init 434 = .ok (.newarray .boolean, 2) := by decide +kernel
theorem dX6_init_436 : decode cX6_init 436 = .ok (.putfield 93, 3) := by decide +kernel
theorem dX6_init_439 : decode cX6_init 439 = .ok (.aload_n 0, 1) := by decide +kernel
theorem dX6_init_440 : decode cX6_init 440 = .ok (.bipush 8, 2) := by decide +kernel
theorem dX6_init_442 : decode cX6_init 442 = .ok (.newarray .long, 2) := by decide +kernel
theorem dX6_init_444 : decode cX6_init 444 = .ok (.putfield 97, 3) := by decide +kernel
theorem dX6_init_447 : decode cX6_init 447 = .ok (.aload_n 0, 1) := by decide +kernel
theorem dX6_init_448 : decode cX6_init 448 = .ok (.bipush 8, 2) := by decide +kernel
theorem dX6_init_450 : decode cX6_init 450 = .ok (.newarray .int, 2) := by decide +kernel
theorem dX6_init_452 : decode cX6_init 452 = .ok (.putfield 101, 3) := by decide +kernel
theorem dX6_init_455 : decode cX6_init 455 = .ok (.aload_n 0, 1) := by decide +kernel
theorem dX6_init_456 : decode cX6_init 456 = .ok (.bipush 8, 2) := by decide +kernel
theorem dX6_init_458 : decode cX6_init 458 = .ok (.newarray .int, 2) := by decide +kernel
theorem dX6_init_460 : decode cX6_init 460 = .ok (.putfield 104, 3) := by decide +kernel
theorem dX6_init_463 : decode cX6_init 463 = .ok (.aload_n 0, 1) := by decide +kernel
theorem dX6_init_464 : decode cX6_init 464 = .ok (.bipush 32, 2) := by decide +kernel
theorem dX6_init_466 : decode cX6_init 466 = .ok (.newarray .long, 2) := by decide +kernel
theorem dX6_init_468 : decode cX6_init 468 = .ok (.putfield 107, 3) := by decide +kernel
theorem dX6_init_471 : decode cX6_init 471 = .ok (.aload_n 0, 1) := by decide +kernel
theorem dX6_init_472 : decode cX6_init 472 = .ok (.bipush 64, 2) := by decide +kernel
theorem dX6_init_474 : decode cX6_init 474 = .ok (.newarray .int, 2) := by decide +kernel
theorem dX6_init_476 : decode cX6_init 476 = .ok (.putfield 110, 3) := by decide +kernel
theorem dX6_init_479 : decode cX6_init 479 = .ok (.aload_n 0, 1) := by decide +kernel
theorem dX6_init_480 : decode cX6_init 480 = .ok (.bipush 8, 2) := by decide +kernel
theorem dX6_init_482 : decode cX6_init 482 = .ok (.newarray .int, 2) := by decide +kernel
theorem dX6_init_484 : decode cX6_init 484 = .ok (.putfield 113, 3) := by decide +kernel
theorem dX6_init_487 : decode cX6_init 487 = .ok (.aload_n 0, 1) := by decide +kernel
theorem dX6_init_488 : decode cX6_init 488 = .ok (.bipush 64, 2) := by decide +kernel
theorem dX6_init_490 : decode cX6_init 490 = .ok (.newarray .long, 2) := by decide +kernel
theorem dX6_init_492 : decode cX6_init 492 = .ok (.putfield 116, 3) := by decide +kernel
theorem dX6_init_495 : decode cX6_init 495 = .ok (.aload_n 0, 1) := by decide +kernel
theorem dX6_init_496 : decode cX6_init 496 = .ok (.bipush 8, 2) := by decide +kernel
theorem dX6_init_498 : decode cX6_init 498 = .ok (.newarray .int, 2) := by decide +kernel
theorem dX6_init_500 : decode cX6_init 500 = .ok (.putfield 119, 3) := by decide +kernel
theorem dX6_init_503 : decode cX6_init 503 = .ok (.aload_n 0, 1) := by decide +kernel
theorem dX6_init_504 : decode cX6_init 504 = .ok (.sipush 160, 3) := by decide +kernel
theorem dX6_init_507 : decode cX6_init 507 = .ok (.newarray .boolean, 2) := by decide +kernel
theorem dX6_init_509 : decode cX6_init 509 = .ok (.putfield 122, 3) := by decide +kernel
theorem dX6_init_512 : decode cX6_init 512 = .ok (.aload_n 0, 1) := by decide +kernel
theorem dX6_init_513 : decode cX6_init 513 = .ok (.bipush 8, 2) := by decide +kernel
theorem dX6_init_515 : decode cX6_init 515 = .ok (.newarray .int, 2) := by decide +kernel
theorem dX6_init_517 : decode cX6_init 517 = .ok (.putfield 125, 3) := by decide +kernel
theorem dX6_init_520 : decode cX6_init 520 = .ok (.aload_n 0, 1) := by decide +kernel
theorem dX6_init_521 : decode cX6_init 521 = .ok (.bipush 8, 2) := by decide +kernel
theorem dX6_init_523 : decode cX6_init 523 = .ok (.newarray .int, 2) := by decide +kernel
theorem dX6_init_525 : decode cX6_init 525 = .ok (.putfield 128, 3) := by decide +kernel
theorem dX6_init_528 : decode cX6_init 528 = .ok (.aload_n 0, 1) := by decide +kernel
theorem dX6_init_529 : decode cX6_init 529 = .ok (.bipush 40, 2) := by decide +kernel
theorem dX6_init_531 : decode cX6_init 531 = .ok (.newarray .int, 2) := by decide +kernel
theorem dX6_init_533 : decode cX6_init 533 = .ok (.putfield 131, 3) := by decide +kernel
theorem dX6_init_536 : decode cX6_init 536 = .ok (.aload_n 0, 1) := by decide +kernel
theorem dX6_init_537 : decode cX6_init 537 = .ok (.bipush 40, 2) := by decide +kernel
theorem dX6_init_539 : decode cX6_init 539 = .ok (.newarray .int, 2) := by decide +kernel
theorem dX6_init_541 : decode cX6_init 541 = .ok (.putfield 134, 3) := by decide +kernel
theorem dX6_init_544 : decode cX6_init 544 = .ok (.aload_n 0, 1) := by decide +kernel
theorem dX6_init_545 : decode cX6_init 545 = .ok (.bipush 10, 2) := by decide +kernel
theorem dX6_init_547 : decode cX6_init 547 = .ok (.newarray .long, 2) := by decide +kernel
theorem dX6_init_549 : decode cX6_init 549 = .ok (.putfield 137, 3) := by decide +kernel
theorem dX6_init_552 : decode cX6_init 552 = .ok (.aload_n 0, 1) := by decide +kernel
theorem dX6_init_553 : decode cX6_init 553 = .ok (.bipush 10, 2) := by decide +kernel
theorem dX6_init_555 : decode cX6_init 555 = .ok (.newarray .int, 2) := by decide +kernel
theorem dX6_init_557 : decode cX6_init 557 = .ok (.putfield 140, 3) := by decide +kernel
theorem dX6_init_560 : decode cX6_init 560 = .ok (.aload_n 0, 1) := by decide +kernel
theorem dX6_init_561 : decode cX6_init 561 = .ok (.bipush 80, 2) := by decide +kernel
theorem dX6_init_563 : decode cX6_init 563 = .ok (.newarray .int, 2) := by decide +kernel
theorem dX6_init_565 : decode cX6_init 565 = .ok (.putfield 143, 3) := by decide +kernel
theorem dX6_init_568 : decode cX6_init 568 = .ok (.aload_n 0, 1) := by decide +kernel
theorem dX6_init_569 : decode cX6_init 569 = .ok (.bipush 8, 2) := by decide +kernel
theorem dX6_init_571 : decode cX6_init 571 = .ok (.newarray .int, 2) := by decide +kernel
theorem dX6_init_573 : decode cX6_init 573 = .ok (.putfield 146, 3) := by decide +kernel
theorem dX6_init_576 : decode cX6_init 576 = .ok (.aload_n 0, 1) := by decide +kernel
theorem dX6_init_577 : decode cX6_init 577 = .ok (.bipush 8, 2) := by decide +kernel
theorem dX6_init_579 : decode cX6_init 579 = .ok (.newarray .int, 2) := by decide +kernel
theorem dX6_init_581 : decode cX6_init 581 = .ok (.putfield 149, 3) := by decide +kernel
theorem dX6_init_584 : decode cX6_init 584 = .ok (.aload_n 0, 1) := by decide +kernel
theorem dX6_init_585 : decode cX6_init 585 = .ok (.bipush 64, 2) := by decide +kernel
theorem dX6_init_587 : decode cX6_init 587 = .ok (.newarray .int, 2) := by decide +kernel
theorem dX6_init_589 : decode cX6_init 589 = .ok (.putfield 152, 3) := by decide +kernel
theorem dX6_init_592 : decode cX6_init 592 = .ok (.aload_n 0, 1) := by decide +kernel
theorem dX6_init_593 : decode cX6_init 593 = .ok (.iconst 0, 1) := by decide +kernel
theorem dX6_init_594 : decode cX6_init 594 = .ok (.putfield 155, 3) := by decide +kernel
theorem dX6_init_597 : decode cX6_init 597 = .ok (.return_, 1) := by decide +kernel
theorem dX6_thrown_0 : decode cX6_thrown 0 = .ok (.aload_n 0, 1) := by decide +kernel
theorem dX6_thrown_1 : decode cX6_thrown 1 = .ok (.getfield 159, 3) := by decide +kernel
theorem dX6_thrown_4 : decode cX6_thrown 4 = .ok (.ireturn, 1) := by decide +kernel
theorem dX6_refused_0 : decode cX6_refused 0 = .ok (.aload_n 0, 1) := by decide +kernel
theorem dX6_refused_1 : decode cX6_refused 1 = .ok (.iload_n 1, 1) := by decide +kernel
theorem dX6_refused_2 : decode cX6_refused 2 = .ok (.ifCond .eq 7, 3) := by decide +kernel
theorem dX6_refused_5 : decode cX6_refused 5 = .ok (.iconst 1, 1) := by decide +kernel
theorem dX6_refused_6 : decode cX6_refused 6 = .ok (.goto 20, 3) := by decide +kernel
theorem dX6_refused_9 : decode cX6_refused 9 = .ok (.iload_n 2, 1) := by decide +kernel
theorem dX6_refused_10 : decode cX6_refused 10 = .ok (.ifCond .eq 7, 3) := by decide +kernel
theorem dX6_refused_13 : decode cX6_refused 13 = .ok (.iconst 2, 1) := by decide +kernel
theorem dX6_refused_14 : decode cX6_refused 14 = .ok (.goto 12, 3) := by decide +kernel
theorem dX6_refused_17 : decode cX6_refused 17 = .ok (.iload_n 3, 1) := by decide +kernel
theorem dX6_refused_18 : decode cX6_refused 18 = .ok (.ifCond .eq 7, 3) := by decide +kernel
theorem dX6_refused_21 : decode cX6_refused 21 = .ok (.iconst 3, 1) := by decide +kernel
theorem dX6_refused_22 : decode cX6_refused 22 = .ok (.goto 4, 3) := by decide +kernel
theorem dX6_refused_25 : decode cX6_refused 25 = .ok (.iconst 0, 1) := by decide +kernel
theorem dX6_refused_26 : decode cX6_refused 26 = .ok (.putfield 159, 3) := by decide +kernel
theorem dX6_refused_29 : decode cX6_refused 29 = .ok (.aload_n 0, 1) := by decide +kernel
theorem dX6_refused_30 : decode cX6_refused 30 = .ok (.getfield 159, 3) := by decide +kernel
theorem dX6_refused_33 : decode cX6_refused 33 = .ok (.ifCond .le 7, 3) := by decide +kernel
theorem dX6_refused_36 : decode cX6_refused 36 = .ok (.iconst 1, 1) := by decide +kernel
theorem dX6_refused_37 : decode cX6_refused 37 = .ok (.goto 4, 3) := by decide +kernel
theorem dX6_refused_40 : decode cX6_refused 40 = .ok (.iconst 0, 1) := by decide +kernel
theorem dX6_refused_41 : decode cX6_refused 41 = .ok (.ireturn, 1) := by decide +kernel
theorem dX6_isNone_0 : decode cX6_isNone 0 = .ok (.iload_n 1, 1) := by decide +kernel
theorem dX6_isNone_1 : decode cX6_isNone 1 = .ok (.ifCond .lt 11, 3) := by decide +kernel
theorem dX6_isNone_4 : decode cX6_isNone 4 = .ok (.iload_n 1, 1) := by decide +kernel
theorem dX6_isNone_5 : decode cX6_isNone 5 = .ok (.aload_n 0, 1) := by decide +kernel
theorem dX6_isNone_6 : decode cX6_isNone 6 = .ok (.getfield 162, 3) := by decide +kernel
theorem dX6_isNone_9 : decode cX6_isNone 9 = .ok (.if_icmp .lt 7, 3) := by decide +kernel
theorem dX6_isNone_12 : decode cX6_isNone 12 = .ok (.iconst 1, 1) := by decide +kernel
theorem dX6_isNone_13 : decode cX6_isNone 13 = .ok (.goto 4, 3) := by decide +kernel
theorem dX6_isNone_16 : decode cX6_isNone 16 = .ok (.iconst 0, 1) := by decide +kernel
theorem dX6_isNone_17 : decode cX6_isNone 17 = .ok (.ireturn, 1) := by decide +kernel
theorem dX6_turn_0 : decode cX6_turn 0 = .ok (.iload_n 0, 1) := by decide +kernel
theorem dX6_turn_1 : decode cX6_turn 1 = .ok (.iload_n 1, 1) := by decide +kernel
theorem dX6_turn_2 : decode cX6_turn 2 = .ok (.iushr, 1) := by decide +kernel
theorem dX6_turn_3 : decode cX6_turn 3 = .ok (.iload_n 0, 1) := by decide +kernel
theorem dX6_turn_4 : decode cX6_turn 4 = .ok (.bipush 32, 2) := by decide +kernel
theorem dX6_turn_6 : decode cX6_turn 6 = .ok (.iload_n 1, 1) := by decide +kernel
theorem dX6_turn_7 : decode cX6_turn 7 = .ok (.isub, 1) := by decide +kernel
theorem dX6_turn_8 : decode cX6_turn 8 = .ok (.ishl, 1) := by decide +kernel
theorem dX6_turn_9 : decode cX6_turn 9 = .ok (.ior, 1) := by decide +kernel
theorem dX6_turn_10 : decode cX6_turn 10 = .ok (.ireturn, 1) := by decide +kernel
theorem dX6_byteOf_0 : decode cX6_byteOf 0 = .ok (.iload_n 2, 1) := by decide +kernel
theorem dX6_byteOf_1 : decode cX6_byteOf 1 = .ok (.iload 4, 2) := by decide +kernel
theorem dX6_byteOf_3 : decode cX6_byteOf 3 = .ok (.iadd, 1) := by decide +kernel
theorem dX6_byteOf_4 : decode cX6_byteOf 4 = .ok (.iload_n 3, 1) := by decide +kernel
theorem dX6_byteOf_5 : decode cX6_byteOf 5 = .ok (.isub, 1) := by decide +kernel
theorem dX6_byteOf_6 : decode cX6_byteOf 6 = .ok (.istore 5, 2) := by decide +kernel
theorem dX6_byteOf_8 : decode cX6_byteOf 8 = .ok (.iload_n 1, 1) := by decide +kernel
theorem dX6_byteOf_9 : decode cX6_byteOf 9 = .ok (.iload 5, 2) := by decide +kernel
theorem dX6_byteOf_11 : decode cX6_byteOf 11 = .ok (.if_icmp .ge 27, 3) := by decide +kernel
theorem dX6_byteOf_14 : decode cX6_byteOf 14 = .ok (.aload_n 0, 1) := by decide +kernel
theorem dX6_byteOf_15 : decode cX6_byteOf 15 = .ok (.getfield 77, 3) := by decide +kernel
theorem dX6_byteOf_18 : decode cX6_byteOf 18 = .ok (.iload_n 1, 1) := by decide +kernel
theorem dX6_byteOf_19 : decode cX6_byteOf 19 = .ok (.iload_n 2, 1) := by decide +kernel
theorem dX6_byteOf_20 : decode cX6_byteOf 20 = .ok (.if_icmp .ge 7, 3) := by decide +kernel
theorem dX6_byteOf_23 : decode cX6_byteOf 23 = .ok (.iload_n 1, 1) := by decide +kernel
theorem dX6_byteOf_24 : decode cX6_byteOf 24 = .ok (.goto 8, 3) := by decide +kernel
theorem dX6_byteOf_27 : decode cX6_byteOf 27 = .ok (.iload_n 1, 1) := by decide +kernel
theorem dX6_byteOf_28 : decode cX6_byteOf 28 = .ok (.iload_n 2, 1) := by decide +kernel
theorem dX6_byteOf_29 : decode cX6_byteOf 29 = .ok (.isub, 1) := by decide +kernel
theorem dX6_byteOf_30 : decode cX6_byteOf 30 = .ok (.iload_n 3, 1) := by decide +kernel
theorem dX6_byteOf_31 : decode cX6_byteOf 31 = .ok (.iadd, 1) := by decide +kernel
theorem dX6_byteOf_32 : decode cX6_byteOf 32 = .ok (.baload, 1) := by decide +kernel
theorem dX6_byteOf_33 : decode cX6_byteOf 33 = .ok (.sipush 255, 3) := by decide +kernel
theorem dX6_byteOf_36 : decode cX6_byteOf 36 = .ok (.iand, 1) := by decide +kernel
theorem dX6_byteOf_37 : decode cX6_byteOf 37 = .ok (.ireturn, 1) := by decide +kernel
theorem dX6_byteOf_38 : decode cX6_byteOf 38 = .ok (.iload 5, 2) := by decide +kernel
theorem dX6_byteOf_40 : decode cX6_byteOf 40 = .ok (.bipush 72, 2) := by decide +kernel
theorem dX6_byteOf_42 : decode cX6_byteOf 42 = .ok (.iadd, 1) := by decide +kernel
theorem dX6_byteOf_43 : decode cX6_byteOf 43 = .ok (.bipush 64, 2) := by decide +kernel
theorem dX6_byteOf_45 : decode cX6_byteOf 45 = .ok (.idiv, 1) := by decide +kernel
theorem dX6_byteOf_46 : decode cX6_byteOf 46 = .ok (.istore 6, 2) := by decide +kernel
theorem dX6_byteOf_48 : decode cX6_byteOf 48 = .ok (.bipush 64, 2) := by decide +kernel
theorem dX6_byteOf_50 : decode cX6_byteOf 50 = .ok (.iload 6, 2) := by decide +kernel
theorem dX6_byteOf_52 : decode cX6_byteOf 52 = .ok (.imul, 1) := by decide +kernel
theorem dX6_byteOf_53 : decode cX6_byteOf 53 = .ok (.iconst 1, 1) := by decide +kernel
theorem dX6_byteOf_54 : decode cX6_byteOf 54 = .ok (.isub, 1) := by decide +kernel
theorem dX6_byteOf_55 : decode cX6_byteOf 55 = .ok (.iload_n 1, 1) := by decide +kernel
theorem dX6_byteOf_56 : decode cX6_byteOf 56 = .ok (.isub, 1) := by decide +kernel
theorem dX6_byteOf_57 : decode cX6_byteOf 57 = .ok (.istore 7, 2) := by decide +kernel
theorem dX6_byteOf_59 : decode cX6_byteOf 59 = .ok (.iload_n 1, 1) := by decide +kernel
theorem dX6_byteOf_60 : decode cX6_byteOf 60 = .ok (.iload 5, 2) := by decide +kernel
theorem dX6_byteOf_62 : decode cX6_byteOf 62 = .ok (.if_icmp .ne 9, 3) := by decide +kernel
theorem dX6_byteOf_65 : decode cX6_byteOf 65 = .ok (.sipush 128, 3) := by decide +kernel
theorem dX6_byteOf_68 : decode cX6_byteOf 68 = .ok (.goto 28, 3) := by decide +kernel
theorem dX6_byteOf_71 : decode cX6_byteOf 71 = .ok (.iload 7, 2) := by decide +kernel
theorem dX6_byteOf_73 : decode cX6_byteOf 73 = .ok (.iconst 4, 1) := by decide +kernel
theorem dX6_byteOf_74 : decode cX6_byteOf 74 = .ok (.if_icmp .ge 21, 3) := by decide +kernel
theorem dX6_byteOf_77 : decode cX6_byteOf 77 = .ok (.bipush 8, 2) := by decide +kernel
theorem dX6_byteOf_79 : decode cX6_byteOf 79 = .ok (.iload 5, 2) := by decide +kernel
theorem dX6_byteOf_81 : decode cX6_byteOf 81 = .ok (.imul, 1) := by decide +kernel
theorem dX6_byteOf_82 : decode cX6_byteOf 82 = .ok (.bipush 8, 2) := by decide +kernel
theorem dX6_byteOf_84 : decode cX6_byteOf 84 = .ok (.iload 7, 2) := by decide +kernel
theorem dX6_byteOf_86 : decode cX6_byteOf 86 = .ok (.imul, 1) := by decide +kernel
theorem dX6_byteOf_87 : decode cX6_byteOf 87 = .ok (.ishr, 1) := by decide +kernel
theorem dX6_byteOf_88 : decode cX6_byteOf 88 = .ok (.sipush 255, 3) := by decide +kernel
theorem dX6_byteOf_91 : decode cX6_byteOf 91 = .ok (.iand, 1) := by decide +kernel
theorem dX6_byteOf_92 : decode cX6_byteOf 92 = .ok (.goto 4, 3) := by decide +kernel
theorem dX6_byteOf_95 : decode cX6_byteOf 95 = .ok (.iconst 0, 1) := by decide +kernel
theorem dX6_byteOf_96 : decode cX6_byteOf 96 = .ok (.ireturn, 1) := by decide +kernel
