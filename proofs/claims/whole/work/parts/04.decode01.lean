set_option maxRecDepth 20000 in
theorem ggX2_stir_X2_turn : GoodIn wsX2_stir wsX2_turn := goodIn_r _ [7] (by decide +kernel) (by decide +kernel)
set_option maxRecDepth 20000 in
theorem gX2_stir_X2_turn : GoodIn wsX2_stir (va_wsS RX2 46 yX2_turn wsX2_turn) := goodIn_app (goodIn_of _ (by decide +kernel)) ggX2_stir_X2_turn
theorem dX2_stir_0 : decode cX2_stir 0 = .ok (.aload_n 0, 1) := by decide +kernel
theorem dX2_stir_1 : decode cX2_stir 1 = .ok (.getfield 15, 3) := by decide +kernel
theorem dX2_stir_4 : decode cX2_stir 4 = .ok (.iconst 0, 1) := by decide +kernel
theorem dX2_stir_5 : decode cX2_stir 5 = .ok (.iaload, 1) := by decide +kernel
theorem dX2_stir_6 : decode cX2_stir 6 = .ok (.istore_n 1, 1) := by decide +kernel
theorem dX2_stir_7 : decode cX2_stir 7 = .ok (.aload_n 0, 1) := by decide +kernel
theorem dX2_stir_8 : decode cX2_stir 8 = .ok (.getfield 15, 3) := by decide +kernel
theorem dX2_stir_11 : decode cX2_stir 11 = .ok (.iconst 1, 1) := by decide +kernel
theorem dX2_stir_12 : decode cX2_stir 12 = .ok (.iaload, 1) := by decide +kernel
theorem dX2_stir_13 : decode cX2_stir 13 = .ok (.istore_n 2, 1) := by decide +kernel
theorem dX2_stir_14 : decode cX2_stir 14 = .ok (.aload_n 0, 1) := by decide +kernel
theorem dX2_stir_15 : decode cX2_stir 15 = .ok (.getfield 15, 3) := by decide +kernel
theorem dX2_stir_18 : decode cX2_stir 18 = .ok (.iconst 2, 1) := by decide +kernel
theorem dX2_stir_19 : decode cX2_stir 19 = .ok (.iaload, 1) := by decide +kernel
theorem dX2_stir_20 : decode cX2_stir 20 = .ok (.istore_n 3, 1) := by decide +kernel
theorem dX2_stir_21 : decode cX2_stir 21 = .ok (.aload_n 0, 1) := by decide +kernel
theorem dX2_stir_22 : decode cX2_stir 22 = .ok (.getfield 15, 3) := by decide +kernel
theorem dX2_stir_25 : decode cX2_stir 25 = .ok (.iconst 3, 1) := by decide +kernel
theorem dX2_stir_26 : decode cX2_stir 26 = .ok (.iaload, 1) := by decide +kernel
theorem dX2_stir_27 : decode cX2_stir 27 = .ok (.istore 4, 2) := by decide +kernel
theorem dX2_stir_29 : decode cX2_stir 29 = .ok (.aload_n 0, 1) := by decide +kernel
theorem dX2_stir_30 : decode cX2_stir 30 = .ok (.getfield 15, 3) := by decide +kernel
theorem dX2_stir_33 : decode cX2_stir 33 = .ok (.iconst 4, 1) := by decide +kernel
theorem dX2_stir_34 : decode cX2_stir 34 = .ok (.iaload, 1) := by decide +kernel
theorem dX2_stir_35 : decode cX2_stir 35 = .ok (.istore 5, 2) := by decide +kernel
theorem dX2_stir_37 : decode cX2_stir 37 = .ok (.aload_n 0, 1) := by decide +kernel
theorem dX2_stir_38 : decode cX2_stir 38 = .ok (.getfield 15, 3) := by decide +kernel
theorem dX2_stir_41 : decode cX2_stir 41 = .ok (.iconst 5, 1) := by decide +kernel
theorem dX2_stir_42 : decode cX2_stir 42 = .ok (.iaload, 1) := by decide +kernel
theorem dX2_stir_43 : decode cX2_stir 43 = .ok (.istore 6, 2) := by decide +kernel
theorem dX2_stir_45 : decode cX2_stir 45 = .ok (.aload_n 0, 1) := by decide +kernel
theorem dX2_stir_46 : decode cX2_stir 46 = .ok (.getfield 15, 3) := by decide +kernel
theorem dX2_stir_49 : decode cX2_stir 49 = .ok (.bipush 6, 2) := by decide +kernel
theorem dX2_stir_51 : decode cX2_stir 51 = .ok (.iaload, 1) := by decide +kernel
theorem dX2_stir_52 : decode cX2_stir 52 = .ok (.istore 7, 2) := by decide +kernel
theorem dX2_stir_54 : decode cX2_stir 54 = .ok (.aload_n 0, 1) := by decide +kernel
theorem dX2_stir_55 : decode cX2_stir 55 = .ok (.getfield 15, 3) := by decide +kernel
theorem dX2_stir_58 : decode cX2_stir 58 = .ok (.bipush 7, 2) := by decide +kernel
theorem dX2_stir_60 : decode cX2_stir 60 = .ok (.iaload, 1) := by decide +kernel
theorem dX2_stir_61 : decode cX2_stir 61 = .ok (.istore 8, 2) := by decide +kernel
theorem dX2_stir_63 : decode cX2_stir 63 = .ok (.iconst 0, 1) := by decide +kernel
theorem dX2_stir_64 : decode cX2_stir 64 = .ok (.istore 9, 2) := by decide +kernel
theorem dX2_stir_66 : decode cX2_stir 66 = .ok (.iload 9, 2) := by decide +kernel
theorem dX2_stir_68 : decode cX2_stir 68 = .ok (.bipush 64, 2) := by decide +kernel
theorem dX2_stir_70 : decode cX2_stir 70 = .ok (.if_icmp .ge 139, 3) := by decide +kernel
theorem dX2_stir_73 : decode cX2_stir 73 = .ok (.iload 5, 2) := by decide +kernel
theorem dX2_stir_75 : decode cX2_stir 75 = .ok (.bipush 6, 2) := by decide +kernel
theorem dX2_stir_77 : decode cX2_stir 77 = .ok (.invokestatic 46, 3) := by decide +kernel
theorem dX2_stir_80 : decode cX2_stir 80 = .ok (.iload 5, 2) := by decide +kernel
theorem dX2_stir_82 : decode cX2_stir 82 = .ok (.bipush 11, 2) := by decide +kernel
theorem dX2_stir_84 : decode cX2_stir 84 = .ok (.invokestatic 46, 3) := by decide +kernel
theorem dX2_stir_87 : decode cX2_stir 87 = .ok (.ixor, 1) := by decide +kernel
theorem dX2_stir_88 : decode cX2_stir 88 = .ok (.iload 5, 2) := by decide +kernel
theorem dX2_stir_90 : decode cX2_stir 90 = .ok (.bipush 25, 2) := by decide +kernel
theorem dX2_stir_92 : decode cX2_stir 92 = .ok (.invokestatic 46, 3) := by decide +kernel
theorem dX2_stir_95 : decode cX2_stir 95 = .ok (.ixor, 1) := by decide +kernel
theorem dX2_stir_96 : decode cX2_stir 96 = .ok (.istore 10, 2) := by decide +kernel
theorem dX2_stir_98 : decode cX2_stir 98 = .ok (.iload 8, 2) := by decide +kernel
theorem dX2_stir_100 : decode cX2_stir 100 = .ok (.iload 10, 2) := by decide +kernel
theorem dX2_stir_102 : decode cX2_stir 102 = .ok (.iadd, 1) := by decide +kernel
theorem dX2_stir_103 : decode cX2_stir 103 = .ok (.iload 5, 2) := by decide +kernel
theorem dX2_stir_105 : decode cX2_stir 105 = .ok (.iload 6, 2) := by decide +kernel
theorem dX2_stir_107 : decode cX2_stir 107 = .ok (.iand, 1) := by decide +kernel
theorem dX2_stir_108 : decode cX2_stir 108 = .ok (.iload 5, 2) := by decide +kernel
theorem dX2_stir_110 : decode cX2_stir 110 = .ok (.iconst (-1), 1) := by decide +kernel
theorem dX2_stir_111 : decode cX2_stir 111 = .ok (.ixor, 1) := by decide +kernel
theorem dX2_stir_112 : decode cX2_stir 112 = .ok (.iload 7, 2) := by decide +kernel
theorem dX2_stir_114 : decode cX2_stir 114 = .ok (.iand, 1) := by decide +kernel
theorem dX2_stir_115 : decode cX2_stir 115 = .ok (.ixor, 1) := by decide +kernel
theorem dX2_stir_116 : decode cX2_stir 116 = .ok (.iadd, 1) := by decide +kernel
theorem dX2_stir_117 : decode cX2_stir 117 = .ok (.getstatic 49, 3) := by decide +kernel
theorem dX2_stir_120 : decode cX2_stir 120 = .ok (.iload 9, 2) := by decide +kernel
theorem dX2_stir_122 : decode cX2_stir 122 = .ok (.iaload, 1) := by decide +kernel
theorem dX2_stir_123 : decode cX2_stir 123 = .ok (.iadd, 1) := by decide +kernel
theorem dX2_stir_124 : decode cX2_stir 124 = .ok (.aload_n 0, 1) := by decide +kernel
theorem dX2_stir_125 : decode cX2_stir 125 = .ok (.getfield 19, 3) := by decide +kernel
theorem dX2_stir_128 : decode cX2_stir 128 = .ok (.iload 9, 2) := by decide +kernel
theorem dX2_stir_130 : decode cX2_stir 130 = .ok (.iaload, 1) := by decide +kernel
theorem dX2_stir_131 : decode cX2_stir 131 = .ok (.iadd, 1) := by decide +kernel
theorem dX2_stir_132 : decode cX2_stir 132 = .ok (.istore 11, 2) := by decide +kernel
theorem dX2_stir_134 : decode cX2_stir 134 = .ok (.iload_n 1, 1) := by decide +kernel
theorem dX2_stir_135 : decode cX2_stir 135 = .ok (.iconst 2, 1) := by decide +kernel
theorem dX2_stir_136 : decode cX2_stir 136 = .ok (.invokestatic 46, 3) := by decide +kernel
theorem dX2_stir_139 : decode cX2_stir 139 = .ok (.iload_n 1, 1) := by decide +kernel
theorem dX2_stir_140 : decode cX2_stir 140 = .ok (.bipush 13, 2) := by decide +kernel
theorem dX2_stir_142 : decode cX2_stir 142 = .ok (.invokestatic 46, 3) := by decide +kernel
theorem dX2_stir_145 : decode cX2_stir 145 = .ok (.ixor, 1) := by decide +kernel
theorem dX2_stir_146 : decode cX2_stir 146 = .ok (.iload_n 1, 1) := by decide +kernel
theorem dX2_stir_147 : decode cX2_stir 147 = .ok (.bipush 22, 2) := by decide +kernel
theorem dX2_stir_149 : decode cX2_stir 149 = .ok (.invokestatic 46, 3) := by decide +kernel
theorem dX2_stir_152 : decode cX2_stir 152 = .ok (.ixor, 1) := by decide +kernel
theorem dX2_stir_153 : decode cX2_stir 153 = .ok (.istore 12, 2) := by decide +kernel
theorem dX2_stir_155 : decode cX2_stir 155 = .ok (.iload 12, 2) := by decide +kernel
theorem dX2_stir_157 : decode cX2_stir 157 = .ok (.iload_n 1, 1) := by decide +kernel
theorem dX2_stir_158 : decode cX2_stir 158 = .ok (.iload_n 2, 1) := by decide +kernel
theorem dX2_stir_159 : decode cX2_stir 159 = .ok (.iand, 1) := by decide +kernel
theorem dX2_stir_160 : decode cX2_stir 160 = .ok (.iload_n 1, 1) := by decide +kernel
theorem dX2_stir_161 : decode cX2_stir 161 = .ok (.iload_n 3, 1) := by decide +kernel
theorem dX2_stir_162 : decode cX2_stir 162 = .ok (.iand, 1) := by decide +kernel
theorem dX2_stir_163 : decode cX2_stir 163 = .ok (.ixor, 1) := by decide +kernel
theorem dX2_stir_164 : decode cX2_stir 164 = .ok (.iload_n 2, 1) := by decide +kernel
theorem dX2_stir_165 : decode cX2_stir 165 = .ok (.iload_n 3, 1) := by decide +kernel
theorem dX2_stir_166 : decode cX2_stir 166 = .ok (.iand, 1) := by decide +kernel
theorem dX2_stir_167 : decode cX2_stir 167 = .ok (.ixor, 1) := by decide +kernel
theorem dX2_stir_168 : decode cX2_stir 168 = .ok (.iadd, 1) := by decide +kernel
theorem dX2_stir_169 : decode cX2_stir 169 = .ok (.istore 13, 2) := by decide +kernel
theorem dX2_stir_171 : decode cX2_stir 171 = .ok (.iload 7, 2) := by decide +kernel
theorem dX2_stir_173 : decode cX2_stir 173 = .ok (.istore 8, 2) := by decide +kernel
theorem dX2_stir_175 : decode cX2_stir 175 = .ok (.iload 6, 2) := by decide +kernel
theorem dX2_stir_177 : decode cX2_stir 177 = .ok (.istore 7, 2) := by decide +kernel
theorem dX2_stir_179 : decode cX2_stir 179 = .ok (.iload 5, 2) := by decide +kernel
theorem dX2_stir_181 : decode cX2_stir 181 = .ok (.istore 6, 2) := by decide +kernel
theorem dX2_stir_183 : decode cX2_stir 183 = .ok (.iload 4, 2) := by decide +kernel
theorem dX2_stir_185 : decode cX2_stir 185 = .ok (.iload 11, 2) := by decide +kernel
theorem dX2_stir_187 : decode cX2_stir 187 = .ok (.iadd, 1) := by decide +kernel
theorem dX2_stir_188 : decode cX2_stir 188 = .ok (.istore 5, 2) := by decide +kernel
theorem dX2_stir_190 : decode cX2_stir 190 = .ok (.iload_n 3, 1) := by decide +kernel
theorem dX2_stir_191 : decode cX2_stir 191 = .ok (.istore 4, 2) := by decide +kernel
theorem dX2_stir_193 : decode cX2_stir 193 = .ok (.iload_n 2, 1) := by decide +kernel
theorem dX2_stir_194 : decode cX2_stir 194 = .ok (.istore_n 3, 1) := by decide +kernel
theorem dX2_stir_195 : decode cX2_stir 195 = .ok (.iload_n 1, 1) := by decide +kernel
theorem dX2_stir_196 : decode cX2_stir 196 = .ok (.istore_n 2, 1) := by decide +kernel
theorem dX2_stir_197 : decode cX2_stir 197 = .ok (.iload 11, 2) := by decide +kernel
theorem dX2_stir_199 : decode cX2_stir 199 = .ok (.iload 13, 2) := by decide +kernel
theorem dX2_stir_201 : decode cX2_stir 201 = .ok (.iadd, 1) := by decide +kernel
theorem dX2_stir_202 : decode cX2_stir 202 = .ok (.istore_n 1, 1) := by decide +kernel
theorem dX2_stir_203 : decode cX2_stir 203 = .ok (.iinc 9 1, 3) := by decide +kernel
theorem dX2_stir_206 : decode cX2_stir 206 = .ok (.goto (-140), 3) := by decide +kernel
theorem dX2_stir_209 : decode cX2_stir 209 = .ok (.aload_n 0, 1) := by decide +kernel
theorem dX2_stir_210 : decode cX2_stir 210 = .ok (.getfield 15, 3) := by decide +kernel
theorem dX2_stir_213 : decode cX2_stir 213 = .ok (.iconst 0, 1) := by decide +kernel
theorem dX2_stir_214 : decode cX2_stir 214 = .ok (.dup2, 1) := by decide +kernel
theorem dX2_stir_215 : decode cX2_stir 215 = .ok (.iaload, 1) := by decide +kernel
theorem dX2_stir_216 : decode cX2_stir 216 = .ok (.iload_n 1, 1) := by decide +kernel
theorem dX2_stir_217 : decode cX2_stir 217 = .ok (.iadd, 1) := by decide +kernel
theorem dX2_stir_218 : decode cX2_stir 218 = .ok (.iastore, 1) := by decide +kernel
theorem dX2_stir_219 : decode cX2_stir 219 = .ok (.aload_n 0, 1) := by decide +kernel
theorem dX2_stir_220 : decode cX2_stir 220 = .ok (.getfield 15, 3) := by decide +kernel
theorem dX2_stir_223 : decode cX2_stir 223 = .ok (.iconst 1, 1) := by decide +kernel
theorem dX2_stir_224 : decode cX2_stir 224 = .ok (.dup2, 1) := by decide +kernel
theorem dX2_stir_225 : decode cX2_stir 225 = .ok (.iaload, 1) := by decide +kernel
theorem dX2_stir_226 : decode cX2_stir 226 = .ok (.iload_n 2, 1) := by decide +kernel
theorem dX2_stir_227 : decode cX2_stir 227 = .ok (.iadd, 1) := by decide +kernel
theorem dX2_stir_228 : decode cX2_stir 228 = .ok (.iastore, 1) := by decide +kernel
theorem dX2_stir_229 : decode cX2_stir 229 = .ok (.aload_n 0, 1) := by decide +kernel
theorem dX2_stir_230 : decode cX2_stir 230 = .ok (.getfield 15, 3) := by decide +kernel
theorem dX2_stir_233 : decode cX2_stir 233 = .ok (.iconst 2, 1) := by decide +kernel
theorem dX2_stir_234 : decode cX2_stir 234 = .ok (.dup2, 1) := by decide +kernel
theorem dX2_stir_235 : decode cX2_stir 235 = .ok (.iaload, 1) := by decide +kernel
theorem dX2_stir_236 : decode cX2_stir 236 = .ok (.iload_n 3, 1) := by decide +kernel
theorem dX2_stir_237 : decode cX2_stir 237 = .ok (.iadd, 1) := by decide +kernel
theorem dX2_stir_238 : decode cX2_stir 238 = .ok (.iastore, 1) := by decide +kernel
theorem dX2_stir_239 : decode cX2_stir 239 = .ok (.aload_n 0, 1) := by decide +kernel
theorem dX2_stir_240 : decode cX2_stir 240 = .ok (.getfield 15, 3) := by decide +kernel
theorem dX2_stir_243 : decode cX2_stir 243 = .ok (.iconst 3, 1) := by decide +kernel
theorem dX2_stir_244 : decode cX2_stir 244 = .ok (.dup2, 1) := by decide +kernel
theorem dX2_stir_245 : decode cX2_stir 245 = .ok (.iaload, 1) := by decide +kernel
theorem dX2_stir_246 : decode cX2_stir 246 = .ok (.iload 4, 2) := by decide +kernel
theorem dX2_stir_248 : decode cX2_stir 248 = .ok (.iadd, 1) := by decide +kernel
theorem dX2_stir_249 : decode cX2_stir 249 = .ok (.iastore, 1) := by decide +kernel
theorem dX2_stir_250 : decode cX2_stir 250 = .ok (.aload_n 0, 1) := by decide +kernel
theorem dX2_stir_251 : decode cX2_stir 251 = .ok (.getfield 15, 3) := by decide +kernel
theorem dX2_stir_254 : decode cX2_stir 254 = .ok (.iconst 4, 1) := by decide +kernel
theorem dX2_stir_255 : decode cX2_stir 255 = .ok (.dup2, 1) := by decide +kernel
theorem dX2_stir_256 : decode cX2_stir 256 = .ok (.iaload, 1) := by decide +kernel
theorem dX2_stir_257 : decode cX2_stir 257 = .ok (.iload 5, 2) := by decide +kernel
theorem dX2_stir_259 : decode cX2_stir 259 = .ok (.iadd, 1) := by decide +kernel
theorem dX2_stir_260 : decode cX2_stir 260 = .ok (.iastore, 1) := by decide +kernel
theorem dX2_stir_261 : decode cX2_stir 261 = .ok (.aload_n 0, 1) := by decide +kernel
theorem dX2_stir_262 : decode cX2_stir 262 = .ok (.getfield 15, 3) := by decide +kernel
theorem dX2_stir_265 : decode cX2_stir 265 = .ok (.iconst 5, 1) := by decide +kernel
theorem dX2_stir_266 : decode cX2_stir 266 = .ok (.dup2, 1) := by decide +kernel
theorem dX2_stir_267 : decode cX2_stir 267 = .ok (.iaload, 1) := by decide +kernel
theorem dX2_stir_268 : decode cX2_stir 268 = .ok (.iload 6, 2) := by decide +kernel
theorem dX2_stir_270 : decode cX2_stir 270 = .ok (.iadd, 1) := by decide +kernel
theorem dX2_stir_271 : decode cX2_stir 271 = .ok (.iastore, 1) := by decide +kernel
theorem dX2_stir_272 : decode cX2_stir 272 = .ok (.aload_n 0, 1) := by decide +kernel
theorem dX2_stir_273 : decode cX2_stir 273 = .ok (.getfield 15, 3) := by decide +kernel
theorem dX2_stir_276 : decode cX2_stir 276 = .ok (.bipush 6, 2) := by decide +kernel
theorem dX2_stir_278 : decode cX2_stir 278 = .ok (.dup2, 1) := by decide +kernel
theorem dX2_stir_279 : decode cX2_stir 279 = .ok (.iaload, 1) := by decide +kernel
theorem dX2_stir_280 : decode cX2_stir 280 = .ok (.iload 7, 2) := by decide +kernel
theorem dX2_stir_282 : decode cX2_stir 282 = .ok (.iadd, 1) := by decide +kernel
theorem dX2_stir_283 : decode cX2_stir 283 = .ok (.iastore, 1) := by decide +kernel
theorem dX2_stir_284 : decode cX2_stir 284 = .ok (.aload_n 0, 1) := by decide +kernel
theorem dX2_stir_285 : decode cX2_stir 285 = .ok (.getfield 15, 3) := by decide +kernel
theorem dX2_stir_288 : decode cX2_stir 288 = .ok (.bipush 7, 2) := by decide +kernel
theorem dX2_stir_290 : decode cX2_stir 290 = .ok (.dup2, 1) := by decide +kernel
theorem dX2_stir_291 : decode cX2_stir 291 = .ok (.iaload, 1) := by decide +kernel
theorem dX2_stir_292 : decode cX2_stir 292 = .ok (.iload 8, 2) := by decide +kernel
theorem dX2_stir_294 : decode cX2_stir 294 = .ok (.iadd, 1) := by decide +kernel
theorem dX2_stir_295 : decode cX2_stir 295 = .ok (.iastore, 1) := by decide +kernel
theorem dX2_stir_296 : decode cX2_stir 296 = .ok (.return_, 1) := by decide +kernel
theorem dX2_turn_0 : decode cX2_turn 0 = .ok (.iload_n 0, 1) := by decide +kernel
theorem dX2_turn_1 : decode cX2_turn 1 = .ok (.iload_n 1, 1) := by decide +kernel
theorem dX2_turn_2 : decode cX2_turn 2 = .ok (.iushr, 1) := by decide +kernel
theorem dX2_turn_3 : decode cX2_turn 3 = .ok (.iload_n 0, 1) := by decide +kernel
theorem dX2_turn_4 : decode cX2_turn 4 = .ok (.bipush 32, 2) := by decide +kernel
theorem dX2_turn_6 : decode cX2_turn 6 = .ok (.iload_n 1, 1) := by decide +kernel
theorem dX2_turn_7 : decode cX2_turn 7 = .ok (.isub, 1) := by decide +kernel
theorem dX2_turn_8 : decode cX2_turn 8 = .ok (.ishl, 1) := by decide +kernel
theorem dX2_turn_9 : decode cX2_turn 9 = .ok (.ior, 1) := by decide +kernel
theorem dX2_turn_10 : decode cX2_turn 10 = .ok (.ireturn, 1) := by decide +kernel
theorem dX3_init_0 : decode cX3_init 0 = .ok (.aload_n 0, 1) := by decide +kernel
theorem dX3_init_1 : decode cX3_init 1 = .ok (.invokespecial 3, 3) := by decide +kernel
theorem dX3_init_4 : decode cX3_init 4 = .ok (.aload_n 0, 1) := by decide +kernel
theorem dX3_init_5 : decode cX3_init 5 = .ok (.bipush 8, 2) := by decide +kernel
theorem dX3_init_7 : decode cX3_init 7 = .ok (.newarray .int, 2) := by decide +kernel
theorem dX3_init_9 : decode cX3_init 9 = .ok (.putfield 11, 3) := by decide +kernel
theorem dX3_init_12 : decode cX3_init 12 = .ok (.aload_n 0, 1) := by decide +kernel
theorem dX3_init_13 : decode cX3_init 13 = .ok (.iconst 4, 1) := by decide +kernel
theorem dX3_init_14 : decode cX3_init 14 = .ok (.newarray .long, 2) := by decide +kernel
theorem dX3_init_16 : decode cX3_init 16 = .ok (.putfield 17, 3) := by decide +kernel
theorem dX3_init_19 : decode cX3_init 19 = .ok (.aload_n 0, 1) := by decide +kernel
theorem dX3_init_20 : decode cX3_init 20 = .ok (.iconst 4, 1) := by decide +kernel
theorem dX3_init_21 : decode cX3_init 21 = .ok (.newarray .long, 2) := by decide +kernel
theorem dX3_init_23 : decode cX3_init 23 = .ok (.putfield 21, 3) := by decide +kernel
theorem dX3_init_26 : decode cX3_init 26 = .ok (.aload_n 0, 1) := by decide +kernel
theorem dX3_init_27 : decode cX3_init 27 = .ok (.iconst 4, 1) := by decide +kernel
theorem dX3_init_28 : decode cX3_init 28 = .ok (.newarray .long, 2) := by decide +kernel
theorem dX3_init_30 : decode cX3_init 30 = .ok (.putfield 24, 3) := by decide +kernel
theorem dX3_init_33 : decode cX3_init 33 = .ok (.aload_n 0, 1) := by decide +kernel
theorem dX3_init_34 : decode cX3_init 34 = .ok (.bipush 15, 2) := by decide +kernel
theorem dX3_init_36 : decode cX3_init 36 = .ok (.putfield 27, 3) := by decide +kernel
theorem dX3_init_39 : decode cX3_init 39 = .ok (.aload_n 0, 1) := by decide +kernel
theorem dX3_init_40 : decode cX3_init 40 = .ok (.iload_n 1, 1) := by decide +kernel
theorem dX3_init_41 : decode cX3_init 41 = .ok (.putfield 31, 3) := by decide +kernel
theorem dX3_init_44 : decode cX3_init 44 = .ok (.aload_n 0, 1) := by decide +kernel
theorem dX3_init_45 : decode cX3_init 45 = .ok (.iload_n 2, 1) := by decide +kernel
theorem dX3_init_46 : decode cX3_init 46 = .ok (.putfield 34, 3) := by decide +kernel
theorem dX3_init_49 : decode cX3_init 49 = .ok (.aload_n 0, 1) := by decide +kernel
theorem dX3_init_50 : decode cX3_init 50 = .ok (.iload_n 3, 1) := by decide +kernel
theorem dX3_init_51 : decode cX3_init 51 = .ok (.putfield 37, 3) := by decide +kernel
theorem dX3_init_54 : decode cX3_init 54 = .ok (.aload_n 0, 1) := by decide +kernel
theorem dX3_init_55 : decode cX3_init 55 = .ok (.iload 4, 2) := by decide +kernel
theorem dX3_init_57 : decode cX3_init 57 = .ok (.putfield 40, 3) := by decide +kernel
theorem dX3_init_60 : decode cX3_init 60 = .ok (.aload_n 0, 1) := by decide +kernel
theorem dX3_init_61 : decode cX3_init 61 = .ok (.lload 5, 2) := by decide +kernel
theorem dX3_init_63 : decode cX3_init 63 = .ok (.putfield 44, 3) := by decide +kernel
theorem dX3_init_66 : decode cX3_init 66 = .ok (.aload_n 0, 1) := by decide +kernel
theorem dX3_init_67 : decode cX3_init 67 = .ok (.iload 7, 2) := by decide +kernel
theorem dX3_init_69 : decode cX3_init 69 = .ok (.putfield 48, 3) := by decide +kernel
theorem dX3_init_72 : decode cX3_init 72 = .ok (.aload_n 0, 1) := by decide +kernel
theorem dX3_init_73 : decode cX3_init 73 = .ok (.getfield 17, 3) := by decide +kernel
theorem dX3_init_76 : decode cX3_init 76 = .ok (.iconst 1, 1) := by decide +kernel
theorem dX3_init_77 : decode cX3_init 77 = .ok (.iload_n 1, 1) := by decide +kernel
theorem dX3_init_78 : decode cX3_init 78 = .ok (.i2l, 1) := by decide +kernel
theorem dX3_init_79 : decode cX3_init 79 = .ok (.lastore, 1) := by decide +kernel
theorem dX3_init_80 : decode cX3_init 80 = .ok (.aload_n 0, 1) := by decide +kernel
theorem dX3_init_81 : decode cX3_init 81 = .ok (.getfield 17, 3) := by decide +kernel
theorem dX3_init_84 : decode cX3_init 84 = .ok (.iconst 2, 1) := by decide +kernel
theorem dX3_init_85 : decode cX3_init 85 = .ok (.iload_n 2, 1) := by decide +kernel
theorem dX3_init_86 : decode cX3_init 86 = .ok (.i2l, 1) := by decide +kernel
theorem dX3_init_87 : decode cX3_init 87 = .ok (.lastore, 1) := by decide +kernel
theorem dX3_init_88 : decode cX3_init 88 = .ok (.aload_n 0, 1) := by decide +kernel
theorem dX3_init_89 : decode cX3_init 89 = .ok (.getfield 17, 3) := by decide +kernel
theorem dX3_init_92 : decode cX3_init 92 = .ok (.iconst 3, 1) := by decide +kernel
theorem dX3_init_93 : decode cX3_init 93 = .ok (.iload_n 3, 1) := by decide +kernel
theorem dX3_init_94 : decode cX3_init 94 = .ok (.i2l, 1) := by decide +kernel
theorem dX3_init_95 : decode cX3_init 95 = .ok (.lastore, 1) := by decide +kernel
theorem dX3_init_96 : decode cX3_init 96 = .ok (.return_, 1) := by decide +kernel
theorem dX3_spanFault_0 : decode cX3_spanFault 0 = .ok (.aload_n 0, 1) := by decide +kernel
theorem dX3_spanFault_1 : decode cX3_spanFault 1 = .ok (.getfield 17, 3) := by decide +kernel
theorem dX3_spanFault_4 : decode cX3_spanFault 4 = .ok (.iconst 0, 1) := by decide +kernel
theorem dX3_spanFault_5 : decode cX3_spanFault 5 = .ok (.laload, 1) := by decide +kernel
theorem dX3_spanFault_6 : decode cX3_spanFault 6 = .ok (.lconst 0, 1) := by decide +kernel
theorem dX3_spanFault_7 : decode cX3_spanFault 7 = .ok (.lcmp, 1) := by decide +kernel
theorem dX3_spanFault_8 : decode cX3_spanFault 8 = .ok (.ifCond .eq 5, 3) := by decide +kernel
theorem dX3_spanFault_11 : decode cX3_spanFault 11 = .ok (.iconst 2, 1) := by decide +kernel
theorem dX3_spanFault_12 : decode cX3_spanFault 12 = .ok (.ireturn, 1) := by decide +kernel
theorem dX3_spanFault_13 : decode cX3_spanFault 13 = .ok (.aload_n 0, 1) := by decide +kernel
theorem dX3_spanFault_14 : decode cX3_spanFault 14 = .ok (.getfield 17, 3) := by decide +kernel
theorem dX3_spanFault_17 : decode cX3_spanFault 17 = .ok (.iconst 1, 1) := by decide +kernel
theorem dX3_spanFault_18 : decode cX3_spanFault 18 = .ok (.laload, 1) := by decide +kernel
theorem dX3_spanFault_19 : decode cX3_spanFault 19 = .ok (.aload_n 0, 1) := by decide +kernel
theorem dX3_spanFault_20 : decode cX3_spanFault 20 = .ok (.getfield 31, 3) := by decide +kernel
theorem dX3_spanFault_23 : decode cX3_spanFault 23 = .ok (.i2l, 1) := by decide +kernel
theorem dX3_spanFault_24 : decode cX3_spanFault 24 = .ok (.lcmp, 1) := by decide +kernel
theorem dX3_spanFault_25 : decode cX3_spanFault 25 = .ok (.ifCond .ne 18, 3) := by decide +kernel
theorem dX3_spanFault_28 : decode cX3_spanFault 28 = .ok (.aload_n 0, 1) := by decide +kernel
theorem dX3_spanFault_29 : decode cX3_spanFault 29 = .ok (.getfield 17, 3) := by decide +kernel
theorem dX3_spanFault_32 : decode cX3_spanFault 32 = .ok (.iconst 2, 1) := by decide +kernel
theorem dX3_spanFault_33 : decode cX3_spanFault 33 = .ok (.laload, 1) := by decide +kernel
theorem dX3_spanFault_34 : decode cX3_spanFault 34 = .ok (.aload_n 0, 1) := by decide +kernel
theorem dX3_spanFault_35 : decode cX3_spanFault 35 = .ok (.getfield 34, 3) := by decide +kernel
theorem dX3_spanFault_38 : decode cX3_spanFault 38 = .ok (.i2l, 1) := by decide +kernel
theorem dX3_spanFault_39 : decode cX3_spanFault 39 = .ok (.lcmp, 1) := by decide +kernel
theorem dX3_spanFault_40 : decode cX3_spanFault 40 = .ok (.ifCond .eq 5, 3) := by decide +kernel
theorem dX3_spanFault_43 : decode cX3_spanFault 43 = .ok (.iconst 3, 1) := by decide +kernel
theorem dX3_spanFault_44 : decode cX3_spanFault 44 = .ok (.ireturn, 1) := by decide +kernel
theorem dX3_spanFault_45 : decode cX3_spanFault 45 = .ok (.aload_n 0, 1) := by decide +kernel
theorem dX3_spanFault_46 : decode cX3_spanFault 46 = .ok (.getfield 17, 3) := by decide +kernel
theorem dX3_spanFault_49 : decode cX3_spanFault 49 = .ok (.iconst 3, 1) := by decide +kernel
theorem dX3_spanFault_50 : decode cX3_spanFault 50 = .ok (.laload, 1) := by decide +kernel
theorem dX3_spanFault_51 : decode cX3_spanFault 51 = .ok (.aload_n 0, 1) := by decide +kernel
theorem dX3_spanFault_52 : decode cX3_spanFault 52 = .ok (.getfield 37, 3) := by decide +kernel
theorem dX3_spanFault_55 : decode cX3_spanFault 55 = .ok (.i2l, 1) := by decide +kernel
theorem dX3_spanFault_56 : decode cX3_spanFault 56 = .ok (.lcmp, 1) := by decide +kernel
theorem dX3_spanFault_57 : decode cX3_spanFault 57 = .ok (.ifCond .eq 7, 3) := by decide +kernel
theorem dX3_spanFault_60 : decode cX3_spanFault 60 = .ok (.iconst 4, 1) := by decide +kernel
theorem dX3_spanFault_61 : decode cX3_spanFault 61 = .ok (.goto 4, 3) := by decide +kernel
theorem dX3_spanFault_64 : decode cX3_spanFault 64 = .ok (.iconst 0, 1) := by decide +kernel
theorem dX3_spanFault_65 : decode cX3_spanFault 65 = .ok (.ireturn, 1) := by decide +kernel
theorem dX3_putChainRow_0 : decode cX3_putChainRow 0 = .ok (.aload_n 0, 1) := by decide +kernel
theorem dX3_putChainRow_1 : decode cX3_putChainRow 1 = .ok (.getfield 21, 3) := by decide +kernel
theorem dX3_putChainRow_4 : decode cX3_putChainRow 4 = .ok (.aload_n 0, 1) := by decide +kernel
theorem dX3_putChainRow_5 : decode cX3_putChainRow 5 = .ok (.getfield 51, 3) := by decide +kernel
theorem dX3_putChainRow_8 : decode cX3_putChainRow 8 = .ok (.lload_n 1, 1) := by decide +kernel
theorem dX3_putChainRow_9 : decode cX3_putChainRow 9 = .ok (.lastore, 1) := by decide +kernel
theorem dX3_putChainRow_10 : decode cX3_putChainRow 10 = .ok (.aload_n 0, 1) := by decide +kernel
theorem dX3_putChainRow_11 : decode cX3_putChainRow 11 = .ok (.getfield 24, 3) := by decide +kernel
theorem dX3_putChainRow_14 : decode cX3_putChainRow 14 = .ok (.aload_n 0, 1) := by decide +kernel
theorem dX3_putChainRow_15 : decode cX3_putChainRow 15 = .ok (.getfield 51, 3) := by decide +kernel
theorem dX3_putChainRow_18 : decode cX3_putChainRow 18 = .ok (.lload_n 3, 1) := by decide +kernel
theorem dX3_putChainRow_19 : decode cX3_putChainRow 19 = .ok (.lastore, 1) := by decide +kernel
theorem dX3_putChainRow_20 : decode cX3_putChainRow 20 = .ok (.aload_n 0, 1) := by decide +kernel
theorem dX3_putChainRow_21 : decode cX3_putChainRow 21 = .ok (.dup, 1) := by decide +kernel
theorem dX3_putChainRow_22 : decode cX3_putChainRow 22 = .ok (.getfield 51, 3) := by decide +kernel
theorem dX3_putChainRow_25 : decode cX3_putChainRow 25 = .ok (.iconst 1, 1) := by decide +kernel
theorem dX3_putChainRow_26 : decode cX3_putChainRow 26 = .ok (.iadd, 1) := by decide +kernel
theorem dX3_putChainRow_27 : decode cX3_putChainRow 27 = .ok (.putfield 51, 3) := by decide +kernel
theorem dX3_putChainRow_30 : decode cX3_putChainRow 30 = .ok (.aload_n 0, 1) := by decide +kernel
theorem dX3_putChainRow_31 : decode cX3_putChainRow 31 = .ok (.getfield 51, 3) := by decide +kernel
theorem dX3_putChainRow_34 : decode cX3_putChainRow 34 = .ok (.ireturn, 1) := by decide +kernel
theorem dX3_chainHasTime_0 : decode cX3_chainHasTime 0 = .ok (.iconst 0, 1) := by decide +kernel
theorem dX3_chainHasTime_1 : decode cX3_chainHasTime 1 = .ok (.istore_n 1, 1) := by decide +kernel
theorem dX3_chainHasTime_2 : decode cX3_chainHasTime 2 = .ok (.iload_n 1, 1) := by decide +kernel
theorem dX3_chainHasTime_3 : decode cX3_chainHasTime 3 = .ok (.aload_n 0, 1) := by decide +kernel
theorem dX3_chainHasTime_4 : decode cX3_chainHasTime 4 = .ok (.getfield 51, 3) := by decide +kernel
theorem dX3_chainHasTime_7 : decode cX3_chainHasTime 7 = .ok (.if_icmp .ge 39, 3) := by decide +kernel
theorem dX3_chainHasTime_10 : decode cX3_chainHasTime 10 = .ok (.aload_n 0, 1) := by decide +kernel
theorem dX3_chainHasTime_11 : decode cX3_chainHasTime 11 = .ok (.getfield 44, 3) := by decide +kernel
theorem dX3_chainHasTime_14 : decode cX3_chainHasTime 14 = .ok (.aload_n 0, 1) := by decide +kernel
theorem dX3_chainHasTime_15 : decode cX3_chainHasTime 15 = .ok (.getfield 21, 3) := by decide +kernel
theorem dX3_chainHasTime_18 : decode cX3_chainHasTime 18 = .ok (.iload_n 1, 1) := by decide +kernel
theorem dX3_chainHasTime_19 : decode cX3_chainHasTime 19 = .ok (.laload, 1) := by decide +kernel
theorem dX3_chainHasTime_20 : decode cX3_chainHasTime 20 = .ok (.lcmp, 1) := by decide +kernel
theorem dX3_chainHasTime_21 : decode cX3_chainHasTime 21 = .ok (.ifCond .lt 17, 3) := by decide +kernel
theorem dX3_chainHasTime_24 : decode cX3_chainHasTime 24 = .ok (.aload_n 0, 1) := by decide +kernel
theorem dX3_chainHasTime_25 : decode cX3_chainHasTime 25 = .ok (.getfield 44, 3) := by decide +kernel
theorem dX3_chainHasTime_28 : decode cX3_chainHasTime 28 = .ok (.aload_n 0, 1) := by decide +kernel
theorem dX3_chainHasTime_29 : decode cX3_chainHasTime 29 = .ok (.getfield 24, 3) := by decide +kernel
theorem dX3_chainHasTime_32 : decode cX3_chainHasTime 32 = .ok (.iload_n 1, 1) := by decide +kernel
theorem dX3_chainHasTime_33 : decode cX3_chainHasTime 33 = .ok (.laload, 1) := by decide +kernel
theorem dX3_chainHasTime_34 : decode cX3_chainHasTime 34 = .ok (.lcmp, 1) := by decide +kernel
theorem dX3_chainHasTime_35 : decode cX3_chainHasTime 35 = .ok (.ifCond .le 5, 3) := by decide +kernel
theorem dX3_chainHasTime_38 : decode cX3_chainHasTime 38 = .ok (.iconst 0, 1) := by decide +kernel
theorem dX3_chainHasTime_39 : decode cX3_chainHasTime 39 = .ok (.ireturn, 1) := by decide +kernel
theorem dX3_chainHasTime_40 : decode cX3_chainHasTime 40 = .ok (.iinc 1 1, 3) := by decide +kernel
theorem dX3_chainHasTime_43 : decode cX3_chainHasTime 43 = .ok (.goto (-41), 3) := by decide +kernel
theorem dX3_chainHasTime_46 : decode cX3_chainHasTime 46 = .ok (.aload_n 0, 1) := by decide +kernel
theorem dX3_chainHasTime_47 : decode cX3_chainHasTime 47 = .ok (.getfield 51, 3) := by decide +kernel
theorem dX3_chainHasTime_50 : decode cX3_chainHasTime 50 = .ok (.ifCond .le 7, 3) := by decide +kernel
theorem dX3_chainHasTime_53 : decode cX3_chainHasTime 53 = .ok (.iconst 1, 1) := by decide +kernel
theorem dX3_chainHasTime_54 : decode cX3_chainHasTime 54 = .ok (.goto 4, 3) := by decide +kernel
theorem dX3_chainHasTime_57 : decode cX3_chainHasTime 57 = .ok (.iconst 0, 1) := by decide +kernel
theorem dX3_chainHasTime_58 : decode cX3_chainHasTime 58 = .ok (.ireturn, 1) := by decide +kernel
set_option maxRecDepth 20000 in
theorem ggX3_allows_X5_hasField : GoodIn wsX3_allows wsX5_hasField := goodIn_r _ [6] (by decide +kernel) (by decide +kernel)
set_option maxRecDepth 20000 in
theorem gX3_allows_X5_hasField_n60 : GoodIn wsX3_allows (wsX5_hasField) := ggX3_allows_X5_hasField
theorem dX3_allows_0 : decode cX3_allows 0 = .ok (.aload_n 0, 1) := by decide +kernel
theorem dX3_allows_1 : decode cX3_allows 1 = .ok (.getfield 27, 3) := by decide +kernel
theorem dX3_allows_4 : decode cX3_allows 4 = .ok (.iload_n 1, 1) := by decide +kernel
theorem dX3_allows_5 : decode cX3_allows 5 = .ok (.ishr, 1) := by decide +kernel
theorem dX3_allows_6 : decode cX3_allows 6 = .ok (.iconst 1, 1) := by decide +kernel
theorem dX3_allows_7 : decode cX3_allows 7 = .ok (.iand, 1) := by decide +kernel
theorem dX3_allows_8 : decode cX3_allows 8 = .ok (.ifCond .ne 5, 3) := by decide +kernel
theorem dX3_allows_11 : decode cX3_allows 11 = .ok (.iconst 0, 1) := by decide +kernel
theorem dX3_allows_12 : decode cX3_allows 12 = .ok (.ireturn, 1) := by decide +kernel
theorem dX3_allows_13 : decode cX3_allows 13 = .ok (.aload_n 0, 1) := by decide +kernel
theorem dX3_allows_14 : decode cX3_allows 14 = .ok (.getfield 54, 3) := by decide +kernel
theorem dX3_allows_17 : decode cX3_allows 17 = .ok (.ifCond .eq 15, 3) := by decide +kernel
theorem dX3_allows_20 : decode cX3_allows 20 = .ok (.iload_n 1, 1) := by decide +kernel
theorem dX3_allows_21 : decode cX3_allows 21 = .ok (.aload_n 0, 1) := by decide +kernel
theorem dX3_allows_22 : decode cX3_allows 22 = .ok (.getfield 54, 3) := by decide +kernel
theorem dX3_allows_25 : decode cX3_allows 25 = .ok (.iconst 2, 1) := by decide +kernel
theorem dX3_allows_26 : decode cX3_allows 26 = .ok (.isub, 1) := by decide +kernel
theorem dX3_allows_27 : decode cX3_allows 27 = .ok (.if_icmp .le 5, 3) := by decide +kernel
theorem dX3_allows_30 : decode cX3_allows 30 = .ok (.iconst 0, 1) := by decide +kernel
theorem dX3_allows_31 : decode cX3_allows 31 = .ok (.ireturn, 1) := by decide +kernel
theorem dX3_allows_32 : decode cX3_allows 32 = .ok (.iload_n 1, 1) := by decide +kernel
theorem dX3_allows_33 : decode cX3_allows 33 = .ok (.ifCond .ne 14, 3) := by decide +kernel
theorem dX3_allows_36 : decode cX3_allows 36 = .ok (.aload_n 0, 1) := by decide +kernel
theorem dX3_allows_37 : decode cX3_allows 37 = .ok (.getfield 57, 3) := by decide +kernel
theorem dX3_allows_40 : decode cX3_allows 40 = .ok (.iload_n 2, 1) := by decide +kernel
theorem dX3_allows_41 : decode cX3_allows 41 = .ok (.invokestatic 60, 3) := by decide +kernel
theorem dX3_allows_44 : decode cX3_allows 44 = .ok (.ifCond .ne 7, 3) := by decide +kernel
theorem dX3_allows_47 : decode cX3_allows 47 = .ok (.iconst 1, 1) := by decide +kernel
theorem dX3_allows_48 : decode cX3_allows 48 = .ok (.goto 4, 3) := by decide +kernel
theorem dX3_allows_51 : decode cX3_allows 51 = .ok (.iconst 0, 1) := by decide +kernel
theorem dX3_allows_52 : decode cX3_allows 52 = .ok (.ireturn, 1) := by decide +kernel
theorem dX4_init_0 : decode cX4_init 0 = .ok (.aload_n 0, 1) := by decide +kernel
theorem dX4_init_1 : decode cX4_init 1 = .ok (.invokespecial 3, 3) := by decide +kernel
theorem dX4_init_4 : decode cX4_init 4 = .ok (.aload_n 0, 1) := by decide +kernel
theorem dX4_init_5 : decode cX4_init 5 = .ok (.bipush 10, 2) := by decide +kernel
theorem dX4_init_7 : decode cX4_init 7 = .ok (.newarray .long, 2) := by decide +kernel
theorem dX4_init_9 : decode cX4_init 9 = .ok (.putfield 9, 3) := by decide +kernel
theorem dX4_init_12 : decode cX4_init 12 = .ok (.aload_n 0, 1) := by decide +kernel
theorem dX4_init_13 : decode cX4_init 13 = .ok (.bipush 10, 2) := by decide +kernel
theorem dX4_init_15 : decode cX4_init 15 = .ok (.newarray .int, 2) := by decide +kernel
theorem dX4_init_17 : decode cX4_init 17 = .ok (.putfield 15, 3) := by decide +kernel
theorem dX4_init_20 : decode cX4_init 20 = .ok (.aload_n 0, 1) := by decide +kernel
theorem dX4_init_21 : decode cX4_init 21 = .ok (.bipush 10, 2) := by decide +kernel
theorem dX4_init_23 : decode cX4_init 23 = .ok (.bipush 8, 2) := by decide +kernel
theorem dX4_init_25 : decode cX4_init 25 = .ok (.multianewarray 21 2, 4) := by decide +kernel
theorem dX4_init_29 : decode cX4_init 29 = .ok (.putfield 23, 3) := by decide +kernel
theorem dX4_init_32 : decode cX4_init 32 = .ok (.aload_n 0, 1) := by decide +kernel
theorem dX4_init_33 : decode cX4_init 33 = .ok (.bipush 10, 2) := by decide +kernel
theorem dX4_init_35 : decode cX4_init 35 = .ok (.newarray .int, 2) := by decide +kernel
theorem dX4_init_37 : decode cX4_init 37 = .ok (.putfield 26, 3) := by decide +kernel
theorem dX4_init_40 : decode cX4_init 40 = .ok (.return_, 1) := by decide +kernel
theorem dX4_put_0 : decode cX4_put 0 = .ok (.aload_n 0, 1) := by decide +kernel
theorem dX4_put_1 : decode cX4_put 1 = .ok (.getfield 29, 3) := by decide +kernel
theorem dX4_put_4 : decode cX4_put 4 = .ok (.istore 4, 2) := by decide +kernel
theorem dX4_put_6 : decode cX4_put 6 = .ok (.aload_n 0, 1) := by decide +kernel
theorem dX4_put_7 : decode cX4_put 7 = .ok (.getfield 9, 3) := by decide +kernel
theorem dX4_put_10 : decode cX4_put 10 = .ok (.iload 4, 2) := by decide +kernel
theorem dX4_put_12 : decode cX4_put 12 = .ok (.lload_n 1, 1) := by decide +kernel
theorem dX4_put_13 : decode cX4_put 13 = .ok (.lastore, 1) := by decide +kernel
theorem dX4_put_14 : decode cX4_put 14 = .ok (.aload_n 0, 1) := by decide +kernel
theorem dX4_put_15 : decode cX4_put 15 = .ok (.getfield 15, 3) := by decide +kernel
theorem dX4_put_18 : decode cX4_put 18 = .ok (.iload 4, 2) := by decide +kernel
theorem dX4_put_20 : decode cX4_put 20 = .ok (.iload_n 3, 1) := by decide +kernel
theorem dX4_put_21 : decode cX4_put 21 = .ok (.iastore, 1) := by decide +kernel
theorem dX4_put_22 : decode cX4_put 22 = .ok (.iload 4, 2) := by decide +kernel
theorem dX4_put_24 : decode cX4_put 24 = .ok (.istore 5, 2) := by decide +kernel
theorem dX4_put_26 : decode cX4_put 26 = .ok (.iload 5, 2) := by decide +kernel
theorem dX4_put_28 : decode cX4_put 28 = .ok (.ifCond .le 44, 3) := by decide +kernel
theorem dX4_put_31 : decode cX4_put 31 = .ok (.aload_n 0, 1) := by decide +kernel
theorem dX4_put_32 : decode cX4_put 32 = .ok (.getfield 9, 3) := by decide +kernel
theorem dX4_put_35 : decode cX4_put 35 = .ok (.aload_n 0, 1) := by decide +kernel
theorem dX4_put_36 : decode cX4_put 36 = .ok (.getfield 26, 3) := by decide +kernel
theorem dX4_put_39 : decode cX4_put 39 = .ok (.iload 5, 2) := by decide +kernel
theorem dX4_put_41 : decode cX4_put 41 = .ok (.iconst 1, 1) := by decide +kernel
theorem dX4_put_42 : decode cX4_put 42 = .ok (.isub, 1) := by decide +kernel
theorem dX4_put_43 : decode cX4_put 43 = .ok (.iaload, 1) := by decide +kernel
theorem dX4_put_44 : decode cX4_put 44 = .ok (.laload, 1) := by decide +kernel
theorem dX4_put_45 : decode cX4_put 45 = .ok (.lload_n 1, 1) := by decide +kernel
theorem dX4_put_46 : decode cX4_put 46 = .ok (.lcmp, 1) := by decide +kernel
theorem dX4_put_47 : decode cX4_put 47 = .ok (.ifCond .le 25, 3) := by decide +kernel
theorem dX4_put_50 : decode cX4_put 50 = .ok (.aload_n 0, 1) := by decide +kernel
theorem dX4_put_51 : decode cX4_put 51 = .ok (.getfield 26, 3) := by decide +kernel
theorem dX4_put_54 : decode cX4_put 54 = .ok (.iload 5, 2) := by decide +kernel
theorem dX4_put_56 : decode cX4_put 56 = .ok (.aload_n 0, 1) := by decide +kernel
theorem dX4_put_57 : decode cX4_put 57 = .ok (.getfield 26, 3) := by decide +kernel
theorem dX4_put_60 : decode cX4_put 60 = .ok (.iload 5, 2) := by decide +kernel
theorem dX4_put_62 : decode cX4_put 62 = .ok (.iconst 1, 1) := by decide +kernel
theorem dX4_put_63 : decode cX4_put 63 = .ok (.isub, 1) := by decide +kernel
theorem dX4_put_64 : decode cX4_put 64 = .ok (.iaload, 1) := by decide +kernel
theorem dX4_put_65 : decode cX4_put 65 = .ok (.iastore, 1) := by decide +kernel
theorem dX4_put_66 : decode cX4_put 66 = .ok (.iinc 5 (-1), 3) := by decide +kernel
theorem dX4_put_69 : decode cX4_put 69 = .ok (.goto (-43), 3) := by decide +kernel
theorem dX4_put_72 : decode cX4_put 72 = .ok (.aload_n 0, 1) := by decide +kernel
theorem dX4_put_73 : decode cX4_put 73 = .ok (.getfield 26, 3) := by decide +kernel
theorem dX4_put_76 : decode cX4_put 76 = .ok (.iload 5, 2) := by decide +kernel
theorem dX4_put_78 : decode cX4_put 78 = .ok (.iload 4, 2) := by decide +kernel
theorem dX4_put_80 : decode cX4_put 80 = .ok (.iastore, 1) := by decide +kernel
theorem dX4_put_81 : decode cX4_put 81 = .ok (.aload_n 0, 1) := by decide +kernel
theorem dX4_put_82 : decode cX4_put 82 = .ok (.dup, 1) := by decide +kernel
theorem dX4_put_83 : decode cX4_put 83 = .ok (.getfield 29, 3) := by decide +kernel
theorem dX4_put_86 : decode cX4_put 86 = .ok (.iconst 1, 1) := by decide +kernel
theorem dX4_put_87 : decode cX4_put 87 = .ok (.iadd, 1) := by decide +kernel
theorem dX4_put_88 : decode cX4_put 88 = .ok (.putfield 29, 3) := by decide +kernel
theorem dX4_put_91 : decode cX4_put 91 = .ok (.iload 4, 2) := by decide +kernel
theorem dX4_put_93 : decode cX4_put 93 = .ok (.ireturn, 1) := by decide +kernel
set_option maxRecDepth 20000 in
theorem ggX5_init_X1_init : GoodIn wsX5_init wsX1_init := goodIn_r _ [25, 26, 2, 3, 27, 28, 29, 30, 31, 61, 62, 63, 64] (by decide +kernel) (by decide +kernel)
set_option maxRecDepth 20000 in
theorem gX5_init_X1_init_n15 : GoodIn wsX5_init (wsX1_init) := ggX5_init_X1_init
set_option maxRecDepth 20000 in
theorem ggX5_init_X0_init : GoodIn wsX5_init wsX0_init := goodIn_r _ [33, 34, 2, 3, 27, 35, 36, 65, 66, 67] (by decide +kernel) (by decide +kernel)
set_option maxRecDepth 20000 in
theorem gX5_init_X0_init_n28 : GoodIn wsX5_init (wsX0_init) := ggX5_init_X0_init
set_option maxRecDepth 20000 in
theorem ggX5_init_X4_init : GoodIn wsX5_init wsX4_init := goodIn_r _ [38, 39, 2, 3, 40, 41, 27, 42, 43, 44, 45, 68, 69, 70, 71, 72] (by decide +kernel) (by decide +kernel)
set_option maxRecDepth 20000 in
theorem gX5_init_X4_init_n35 : GoodIn wsX5_init (wsX4_init) := ggX5_init_X4_init
set_option maxRecDepth 20000 in
theorem ggX5_init_X2_init : GoodIn wsX5_init wsX2_init := goodIn_r _ [47, 48, 2, 3, 4, 49, 27, 50, 51, 73, 74, 75, 76] (by decide +kernel) (by decide +kernel)
set_option maxRecDepth 20000 in
theorem gX5_init_X2_init_n42 : GoodIn wsX5_init (wsX2_init) := ggX5_init_X2_init
theorem dX5_init_0 : decode cX5_init 0 = .ok (.aload_n 0, 1) := by decide +kernel
theorem dX5_init_1 : decode cX5_init 1 = .ok (.invokespecial 1, 3) := by decide +kernel
theorem dX5_init_4 : decode cX5_init 4 = .ok (.aload_n 0, 1) := by decide +kernel
theorem dX5_init_5 : decode cX5_init 5 = .ok (.sipush 1500, 3) := by decide +kernel
theorem dX5_init_8 : decode cX5_init 8 = .ok (.newarray .byte, 2) := by decide +kernel
theorem dX5_init_10 : decode cX5_init 10 = .ok (.putfield 9, 3) := by decide +kernel
theorem dX5_init_13 : decode cX5_init 13 = .ok (.aload_n 0, 1) := by decide +kernel
theorem dX5_init_14 : decode cX5_init 14 = .ok (.new 13, 3) := by decide +kernel
theorem dX5_init_17 : decode cX5_init 17 = .ok (.dup, 1) := by decide +kernel
theorem dX5_init_18 : decode cX5_init 18 = .ok (.invokespecial 15, 3) := by decide +kernel
theorem dX5_init_21 : decode cX5_init 21 = .ok (.putfield 16, 3) := by decide +kernel
theorem dX5_init_24 : decode cX5_init 24 = .ok (.aload_n 0, 1) := by decide +kernel
theorem dX5_init_25 : decode cX5_init 25 = .ok (.bipush 8, 2) := by decide +kernel
theorem dX5_init_27 : decode cX5_init 27 = .ok (.anewarray 20, 3) := by decide +kernel
theorem dX5_init_30 : decode cX5_init 30 = .ok (.putfield 22, 3) := by decide +kernel
theorem dX5_init_33 : decode cX5_init 33 = .ok (.aload_n 0, 1) := by decide +kernel
theorem dX5_init_34 : decode cX5_init 34 = .ok (.new 26, 3) := by decide +kernel
theorem dX5_init_37 : decode cX5_init 37 = .ok (.dup, 1) := by decide +kernel
theorem dX5_init_38 : decode cX5_init 38 = .ok (.invokespecial 28, 3) := by decide +kernel
theorem dX5_init_41 : decode cX5_init 41 = .ok (.putfield 29, 3) := by decide +kernel
theorem dX5_init_44 : decode cX5_init 44 = .ok (.aload_n 0, 1) := by decide +kernel
theorem dX5_init_45 : decode cX5_init 45 = .ok (.new 33, 3) := by decide +kernel
theorem dX5_init_48 : decode cX5_init 48 = .ok (.dup, 1) := by decide +kernel
theorem dX5_init_49 : decode cX5_init 49 = .ok (.invokespecial 35, 3) := by decide +kernel
theorem dX5_init_52 : decode cX5_init 52 = .ok (.putfield 36, 3) := by decide +kernel
theorem dX5_init_55 : decode cX5_init 55 = .ok (.aload_n 0, 1) := by decide +kernel
theorem dX5_init_56 : decode cX5_init 56 = .ok (.new 40, 3) := by decide +kernel
theorem dX5_init_59 : decode cX5_init 59 = .ok (.dup, 1) := by decide +kernel
theorem dX5_init_60 : decode cX5_init 60 = .ok (.invokespecial 42, 3) := by decide +kernel
theorem dX5_init_63 : decode cX5_init 63 = .ok (.putfield 43, 3) := by decide +kernel
theorem dX5_init_66 : decode cX5_init 66 = .ok (.return_, 1) := by decide +kernel
theorem dX5_add_0 : decode cX5_add 0 = .ok (.aload_n 0, 1) := by decide +kernel
theorem dX5_add_1 : decode cX5_add 1 = .ok (.getfield 47, 3) := by decide +kernel
theorem dX5_add_4 : decode cX5_add 4 = .ok (.sipush 1500, 3) := by decide +kernel
theorem dX5_add_7 : decode cX5_add 7 = .ok (.if_icmp .lt 13, 3) := by decide +kernel
theorem dX5_add_10 : decode cX5_add 10 = .ok (.new 51, 3) := by decide +kernel
theorem dX5_add_13 : decode cX5_add 13 = .ok (.dup, 1) := by decide +kernel
theorem dX5_add_14 : decode cX5_add 14 = .ok (.ldc 53, 2) := by decide +kernel
theorem dX5_add_16 : decode cX5_add 16 = .ok (.invokespecial 55, 3) := by decide +kernel
theorem dX5_add_19 : decode cX5_add 19 = .ok (.athrow, 1) := by decide +kernel
theorem dX5_add_20 : decode cX5_add 20 = .ok (.aload_n 0, 1) := by decide +kernel
theorem dX5_add_21 : decode cX5_add 21 = .ok (.getfield 9, 3) := by decide +kernel
theorem dX5_add_24 : decode cX5_add 24 = .ok (.aload_n 0, 1) := by decide +kernel
theorem dX5_add_25 : decode cX5_add 25 = .ok (.getfield 47, 3) := by decide +kernel
theorem dX5_add_28 : decode cX5_add 28 = .ok (.iload_n 1, 1) := by decide +kernel
theorem dX5_add_29 : decode cX5_add 29 = .ok (.bastore, 1) := by decide +kernel
theorem dX5_add_30 : decode cX5_add 30 = .ok (.aload_n 0, 1) := by decide +kernel
theorem dX5_add_31 : decode cX5_add 31 = .ok (.dup, 1) := by decide +kernel
theorem dX5_add_32 : decode cX5_add 32 = .ok (.getfield 47, 3) := by decide +kernel
theorem dX5_add_35 : decode cX5_add 35 = .ok (.iconst 1, 1) := by decide +kernel
theorem dX5_add_36 : decode cX5_add 36 = .ok (.iadd, 1) := by decide +kernel
theorem dX5_add_37 : decode cX5_add 37 = .ok (.putfield 47, 3) := by decide +kernel
theorem dX5_add_40 : decode cX5_add 40 = .ok (.aload_n 0, 1) := by decide +kernel
theorem dX5_add_41 : decode cX5_add 41 = .ok (.getfield 47, 3) := by decide +kernel
theorem dX5_add_44 : decode cX5_add 44 = .ok (.ireturn, 1) := by decide +kernel
