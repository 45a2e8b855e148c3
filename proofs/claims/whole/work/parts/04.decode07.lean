set_option maxRecDepth 20000 in
theorem ggX6_holds_X6_isNone : GoodIn wsX6_holds wsX6_isNone := goodIn_r _ [16, 17, 69, 70, 71, 72, 73, 74, 75, 76, 77, 78, 79, 80, 81, 82, 83, 84, 85, 86, 87, 88, 89, 90, 91, 92, 93, 94, 95, 96, 97, 98, 99, 100] (by decide +kernel) (by decide +kernel)
set_option maxRecDepth 20000 in
theorem gX6_holds_X6_isNone : GoodIn wsX6_holds (wsV RX6 206 RX6 yX6_isNone wsX6_isNone) := goodIn_app (goodIn_of _ (by decide +kernel)) ggX6_holds_X6_isNone
set_option maxRecDepth 20000 in
theorem ggX6_holds_X6_refused : GoodIn wsX6_holds wsX6_refused := goodIn_r _ [21, 22, 69, 70, 71, 72, 73, 74, 75, 76, 77, 78, 79, 80, 81, 82, 83, 84, 85, 86, 87, 88, 89, 90, 91, 92, 93, 94, 95, 96, 97, 98, 99, 100] (by decide +kernel) (by decide +kernel)
set_option maxRecDepth 20000 in
theorem gX6_holds_X6_refused : GoodIn wsX6_holds (wsV RX6 184 RX6 yX6_refused wsX6_refused) := goodIn_app (goodIn_of _ (by decide +kernel)) ggX6_holds_X6_refused
set_option maxRecDepth 20000 in
theorem ggX6_holds_X6_reckon : GoodIn wsX6_holds wsX6_reckon := goodIn_ca (goodIn_r _ [26, 27, 28, 29, 30, 31, 32, 33, 34, 35, 36, 37, 38, 39, 15, 40, 41, 42, 43, 44, 45, 46, 47, 48, 49, 50, 69, 70, 71, 72, 73, 74, 75, 76, 77, 78, 79, 80, 81, 82, 83, 84, 85, 86, 87, 88, 89, 90, 91, 92, 93, 94, 95, 96, 97, 98, 99, 100] (by decide +kernel) (by decide +kernel)) (goodIn_sub (fun _ h => List.mem_cons_of_mem _ (List.mem_append_right _ h)) (by decide +kernel))
set_option maxRecDepth 20000 in
theorem gX6_holds_X6_reckon : GoodIn wsX6_holds (wsV RX6 198 RX6 yX6_reckon wsX6_reckon) := goodIn_app (goodIn_of _ (by decide +kernel)) ggX6_holds_X6_reckon
set_option maxRecDepth 20000 in
theorem ggX6_holds_X6_isSum : GoodIn wsX6_holds wsX6_isSum := goodIn_ca (goodIn_r _ [54, 27, 69, 70, 71, 72, 73, 74, 75, 76, 77, 78, 79, 80, 81, 82, 83, 84, 85, 86, 87, 88, 89, 90, 91, 92, 93, 94, 95, 96, 97, 98, 99, 100] (by decide +kernel) (by decide +kernel)) (goodIn_sub (fun _ h => List.mem_cons_of_mem _ (List.mem_append_right _ h)) (by decide +kernel))
set_option maxRecDepth 20000 in
theorem gX6_holds_X6_isSum : GoodIn wsX6_holds (wsV RX6 210 RX6 yX6_isSum wsX6_isSum) := goodIn_app (goodIn_of _ (by decide +kernel)) ggX6_holds_X6_isSum
set_option maxRecDepth 20000 in
theorem ggX6_holds_X6_mayBe : GoodIn wsX6_holds wsX6_mayBe := goodIn_ca (goodIn_r _ [58, 59, 60, 61, 69, 70, 71, 72, 73, 74, 75, 76, 77, 78, 79, 80, 81, 82, 83, 84, 85, 86, 87, 88, 89, 90, 91, 92, 93, 94, 95, 96, 97, 98, 99, 100] (by decide +kernel) (by decide +kernel)) (goodIn_sub (fun _ h => List.mem_cons_of_mem _ (List.mem_append_right _ h)) (by decide +kernel))
set_option maxRecDepth 20000 in
theorem gX6_holds_X6_mayBe : GoodIn wsX6_holds (wsV RX6 214 RX6 yX6_mayBe wsX6_mayBe) := goodIn_app (goodIn_of _ (by decide +kernel)) ggX6_holds_X6_mayBe
set_option maxRecDepth 20000 in
theorem ggX6_holds_X6_isChained : GoodIn wsX6_holds wsX6_isChained := goodIn_ca (goodIn_r _ [65, 66, 67, 68, 69, 70, 71, 72, 73, 74, 75, 76, 77, 78, 79, 80, 81, 82, 83, 84, 85, 86, 87, 88, 89, 90, 91, 92, 93, 94, 95, 96, 97, 98, 99, 100] (by decide +kernel) (by decide +kernel)) (goodIn_sub (fun _ h => List.mem_cons_of_mem _ (List.mem_append_right _ h)) (by decide +kernel))
set_option maxRecDepth 20000 in
theorem gX6_holds_X6_isChained : GoodIn wsX6_holds (wsV RX6 218 RX6 yX6_isChained wsX6_isChained) := goodIn_app (goodIn_of _ (by decide +kernel)) ggX6_holds_X6_isChained
theorem dX6_holds_0 : decode cX6_holds 0 = .ok (.aload_n 0, 1) := by decide +kernel
theorem dX6_holds_1 : decode cX6_holds 1 = .ok (.aload_n 0, 1) := by decide +kernel
theorem dX6_holds_2 : decode cX6_holds 2 = .ok (.iload_n 1, 1) := by decide +kernel
theorem dX6_holds_3 : decode cX6_holds 3 = .ok (.invokevirtual 206, 3) := by decide +kernel
theorem dX6_holds_6 : decode cX6_holds 6 = .ok (.iconst 0, 1) := by decide +kernel
theorem dX6_holds_7 : decode cX6_holds 7 = .ok (.iconst 0, 1) := by decide +kernel
theorem dX6_holds_8 : decode cX6_holds 8 = .ok (.invokevirtual 184, 3) := by decide +kernel
theorem dX6_holds_11 : decode cX6_holds 11 = .ok (.ifCond .eq 5, 3) := by decide +kernel
theorem dX6_holds_14 : decode cX6_holds 14 = .ok (.iconst 0, 1) := by decide +kernel
theorem dX6_holds_15 : decode cX6_holds 15 = .ok (.ireturn, 1) := by decide +kernel
theorem dX6_holds_16 : decode cX6_holds 16 = .ok (.aload_n 0, 1) := by decide +kernel
theorem dX6_holds_17 : decode cX6_holds 17 = .ok (.getfield 101, 3) := by decide +kernel
theorem dX6_holds_20 : decode cX6_holds 20 = .ok (.iload_n 1, 1) := by decide +kernel
theorem dX6_holds_21 : decode cX6_holds 21 = .ok (.iaload, 1) := by decide +kernel
theorem dX6_holds_22 : decode cX6_holds 22 = .ok (.istore_n 2, 1) := by decide +kernel
theorem dX6_holds_23 : decode cX6_holds 23 = .ok (.aload_n 0, 1) := by decide +kernel
theorem dX6_holds_24 : decode cX6_holds 24 = .ok (.getfield 107, 3) := by decide +kernel
theorem dX6_holds_27 : decode cX6_holds 27 = .ok (.iconst 4, 1) := by decide +kernel
theorem dX6_holds_28 : decode cX6_holds 28 = .ok (.iload_n 1, 1) := by decide +kernel
theorem dX6_holds_29 : decode cX6_holds 29 = .ok (.imul, 1) := by decide +kernel
theorem dX6_holds_30 : decode cX6_holds 30 = .ok (.laload, 1) := by decide +kernel
theorem dX6_holds_31 : decode cX6_holds 31 = .ok (.lconst 0, 1) := by decide +kernel
theorem dX6_holds_32 : decode cX6_holds 32 = .ok (.lcmp, 1) := by decide +kernel
theorem dX6_holds_33 : decode cX6_holds 33 = .ok (.ifCond .eq 5, 3) := by decide +kernel
theorem dX6_holds_36 : decode cX6_holds 36 = .ok (.iconst 2, 1) := by decide +kernel
theorem dX6_holds_37 : decode cX6_holds 37 = .ok (.ireturn, 1) := by decide +kernel
theorem dX6_holds_38 : decode cX6_holds 38 = .ok (.aload_n 0, 1) := by decide +kernel
theorem dX6_holds_39 : decode cX6_holds 39 = .ok (.getfield 107, 3) := by decide +kernel
theorem dX6_holds_42 : decode cX6_holds 42 = .ok (.iconst 4, 1) := by decide +kernel
theorem dX6_holds_43 : decode cX6_holds 43 = .ok (.iload_n 1, 1) := by decide +kernel
theorem dX6_holds_44 : decode cX6_holds 44 = .ok (.imul, 1) := by decide +kernel
theorem dX6_holds_45 : decode cX6_holds 45 = .ok (.iconst 1, 1) := by decide +kernel
theorem dX6_holds_46 : decode cX6_holds 46 = .ok (.iadd, 1) := by decide +kernel
theorem dX6_holds_47 : decode cX6_holds 47 = .ok (.laload, 1) := by decide +kernel
theorem dX6_holds_48 : decode cX6_holds 48 = .ok (.aload_n 0, 1) := by decide +kernel
theorem dX6_holds_49 : decode cX6_holds 49 = .ok (.getfield 81, 3) := by decide +kernel
theorem dX6_holds_52 : decode cX6_holds 52 = .ok (.iload_n 2, 1) := by decide +kernel
theorem dX6_holds_53 : decode cX6_holds 53 = .ok (.iaload, 1) := by decide +kernel
theorem dX6_holds_54 : decode cX6_holds 54 = .ok (.i2l, 1) := by decide +kernel
theorem dX6_holds_55 : decode cX6_holds 55 = .ok (.lcmp, 1) := by decide +kernel
theorem dX6_holds_56 : decode cX6_holds 56 = .ok (.ifCond .ne 24, 3) := by decide +kernel
theorem dX6_holds_59 : decode cX6_holds 59 = .ok (.aload_n 0, 1) := by decide +kernel
theorem dX6_holds_60 : decode cX6_holds 60 = .ok (.getfield 107, 3) := by decide +kernel
theorem dX6_holds_63 : decode cX6_holds 63 = .ok (.iconst 4, 1) := by decide +kernel
theorem dX6_holds_64 : decode cX6_holds 64 = .ok (.iload_n 1, 1) := by decide +kernel
theorem dX6_holds_65 : decode cX6_holds 65 = .ok (.imul, 1) := by decide +kernel
theorem dX6_holds_66 : decode cX6_holds 66 = .ok (.iconst 2, 1) := by decide +kernel
theorem dX6_holds_67 : decode cX6_holds 67 = .ok (.iadd, 1) := by decide +kernel
theorem dX6_holds_68 : decode cX6_holds 68 = .ok (.laload, 1) := by decide +kernel
theorem dX6_holds_69 : decode cX6_holds 69 = .ok (.aload_n 0, 1) := by decide +kernel
theorem dX6_holds_70 : decode cX6_holds 70 = .ok (.getfield 84, 3) := by decide +kernel
theorem dX6_holds_73 : decode cX6_holds 73 = .ok (.iload_n 2, 1) := by decide +kernel
theorem dX6_holds_74 : decode cX6_holds 74 = .ok (.iaload, 1) := by decide +kernel
theorem dX6_holds_75 : decode cX6_holds 75 = .ok (.i2l, 1) := by decide +kernel
theorem dX6_holds_76 : decode cX6_holds 76 = .ok (.lcmp, 1) := by decide +kernel
theorem dX6_holds_77 : decode cX6_holds 77 = .ok (.ifCond .eq 5, 3) := by decide +kernel
theorem dX6_holds_80 : decode cX6_holds 80 = .ok (.iconst 3, 1) := by decide +kernel
theorem dX6_holds_81 : decode cX6_holds 81 = .ok (.ireturn, 1) := by decide +kernel
theorem dX6_holds_82 : decode cX6_holds 82 = .ok (.aload_n 0, 1) := by decide +kernel
theorem dX6_holds_83 : decode cX6_holds 83 = .ok (.getfield 107, 3) := by decide +kernel
theorem dX6_holds_86 : decode cX6_holds 86 = .ok (.iconst 4, 1) := by decide +kernel
theorem dX6_holds_87 : decode cX6_holds 87 = .ok (.iload_n 1, 1) := by decide +kernel
theorem dX6_holds_88 : decode cX6_holds 88 = .ok (.imul, 1) := by decide +kernel
theorem dX6_holds_89 : decode cX6_holds 89 = .ok (.iconst 3, 1) := by decide +kernel
theorem dX6_holds_90 : decode cX6_holds 90 = .ok (.iadd, 1) := by decide +kernel
theorem dX6_holds_91 : decode cX6_holds 91 = .ok (.laload, 1) := by decide +kernel
theorem dX6_holds_92 : decode cX6_holds 92 = .ok (.aload_n 0, 1) := by decide +kernel
theorem dX6_holds_93 : decode cX6_holds 93 = .ok (.getfield 104, 3) := by decide +kernel
theorem dX6_holds_96 : decode cX6_holds 96 = .ok (.iload_n 1, 1) := by decide +kernel
theorem dX6_holds_97 : decode cX6_holds 97 = .ok (.iaload, 1) := by decide +kernel
theorem dX6_holds_98 : decode cX6_holds 98 = .ok (.i2l, 1) := by decide +kernel
theorem dX6_holds_99 : decode cX6_holds 99 = .ok (.lcmp, 1) := by decide +kernel
theorem dX6_holds_100 : decode cX6_holds 100 = .ok (.ifCond .eq 5, 3) := by decide +kernel
theorem dX6_holds_103 : decode cX6_holds 103 = .ok (.iconst 4, 1) := by decide +kernel
theorem dX6_holds_104 : decode cX6_holds 104 = .ok (.ireturn, 1) := by decide +kernel
theorem dX6_holds_105 : decode cX6_holds 105 = .ok (.aload_n 0, 1) := by decide +kernel
theorem dX6_holds_106 : decode cX6_holds 106 = .ok (.aload_n 0, 1) := by decide +kernel
theorem dX6_holds_107 : decode cX6_holds 107 = .ok (.getfield 81, 3) := by decide +kernel
theorem dX6_holds_110 : decode cX6_holds 110 = .ok (.iload_n 2, 1) := by decide +kernel
theorem dX6_holds_111 : decode cX6_holds 111 = .ok (.iaload, 1) := by decide +kernel
theorem dX6_holds_112 : decode cX6_holds 112 = .ok (.aload_n 0, 1) := by decide +kernel
theorem dX6_holds_113 : decode cX6_holds 113 = .ok (.getfield 84, 3) := by decide +kernel
theorem dX6_holds_116 : decode cX6_holds 116 = .ok (.iload_n 2, 1) := by decide +kernel
theorem dX6_holds_117 : decode cX6_holds 117 = .ok (.iaload, 1) := by decide +kernel
theorem dX6_holds_118 : decode cX6_holds 118 = .ok (.aload_n 0, 1) := by decide +kernel
theorem dX6_holds_119 : decode cX6_holds 119 = .ok (.getfield 104, 3) := by decide +kernel
theorem dX6_holds_122 : decode cX6_holds 122 = .ok (.iload_n 1, 1) := by decide +kernel
theorem dX6_holds_123 : decode cX6_holds 123 = .ok (.iaload, 1) := by decide +kernel
theorem dX6_holds_124 : decode cX6_holds 124 = .ok (.invokevirtual 198, 3) := by decide +kernel
theorem dX6_holds_127 : decode cX6_holds 127 = .ok (.aload_n 0, 1) := by decide +kernel
theorem dX6_holds_128 : decode cX6_holds 128 = .ok (.aload_n 0, 1) := by decide +kernel
theorem dX6_holds_129 : decode cX6_holds 129 = .ok (.getfield 110, 3) := by decide +kernel
theorem dX6_holds_132 : decode cX6_holds 132 = .ok (.bipush 8, 2) := by decide +kernel
theorem dX6_holds_134 : decode cX6_holds 134 = .ok (.iload_n 1, 1) := by decide +kernel
theorem dX6_holds_135 : decode cX6_holds 135 = .ok (.imul, 1) := by decide +kernel
theorem dX6_holds_136 : decode cX6_holds 136 = .ok (.invokevirtual 210, 3) := by decide +kernel
theorem dX6_holds_139 : decode cX6_holds 139 = .ok (.ifCond .ne 5, 3) := by decide +kernel
theorem dX6_holds_142 : decode cX6_holds 142 = .ok (.iconst 5, 1) := by decide +kernel
theorem dX6_holds_143 : decode cX6_holds 143 = .ok (.ireturn, 1) := by decide +kernel
theorem dX6_holds_144 : decode cX6_holds 144 = .ok (.iconst 0, 1) := by decide +kernel
theorem dX6_holds_145 : decode cX6_holds 145 = .ok (.istore_n 3, 1) := by decide +kernel
theorem dX6_holds_146 : decode cX6_holds 146 = .ok (.aload_n 0, 1) := by decide +kernel
theorem dX6_holds_147 : decode cX6_holds 147 = .ok (.getfield 128, 3) := by decide +kernel
theorem dX6_holds_150 : decode cX6_holds 150 = .ok (.iload_n 1, 1) := by decide +kernel
theorem dX6_holds_151 : decode cX6_holds 151 = .ok (.iaload, 1) := by decide +kernel
theorem dX6_holds_152 : decode cX6_holds 152 = .ok (.istore 4, 2) := by decide +kernel
theorem dX6_holds_154 : decode cX6_holds 154 = .ok (.iload 4, 2) := by decide +kernel
theorem dX6_holds_156 : decode cX6_holds 156 = .ok (.aload_n 0, 1) := by decide +kernel
theorem dX6_holds_157 : decode cX6_holds 157 = .ok (.getfield 191, 3) := by decide +kernel
theorem dX6_holds_160 : decode cX6_holds 160 = .ok (.if_icmp .ge 41, 3) := by decide +kernel
theorem dX6_holds_163 : decode cX6_holds 163 = .ok (.iload_n 3, 1) := by decide +kernel
theorem dX6_holds_164 : decode cX6_holds 164 = .ok (.ifCond .ne 25, 3) := by decide +kernel
theorem dX6_holds_167 : decode cX6_holds 167 = .ok (.aload_n 0, 1) := by decide +kernel
theorem dX6_holds_168 : decode cX6_holds 168 = .ok (.iload_n 1, 1) := by decide +kernel
theorem dX6_holds_169 : decode cX6_holds 169 = .ok (.aload_n 0, 1) := by decide +kernel
theorem dX6_holds_170 : decode cX6_holds 170 = .ok (.getfield 131, 3) := by decide +kernel
theorem dX6_holds_173 : decode cX6_holds 173 = .ok (.iload 4, 2) := by decide +kernel
theorem dX6_holds_175 : decode cX6_holds 175 = .ok (.iaload, 1) := by decide +kernel
theorem dX6_holds_176 : decode cX6_holds 176 = .ok (.aload_n 0, 1) := by decide +kernel
theorem dX6_holds_177 : decode cX6_holds 177 = .ok (.getfield 134, 3) := by decide +kernel
theorem dX6_holds_180 : decode cX6_holds 180 = .ok (.iload 4, 2) := by decide +kernel
theorem dX6_holds_182 : decode cX6_holds 182 = .ok (.iaload, 1) := by decide +kernel
theorem dX6_holds_183 : decode cX6_holds 183 = .ok (.invokevirtual 214, 3) := by decide +kernel
theorem dX6_holds_186 : decode cX6_holds 186 = .ok (.ifCond .ne 7, 3) := by decide +kernel
theorem dX6_holds_189 : decode cX6_holds 189 = .ok (.iconst 1, 1) := by decide +kernel
theorem dX6_holds_190 : decode cX6_holds 190 = .ok (.goto 4, 3) := by decide +kernel
theorem dX6_holds_193 : decode cX6_holds 193 = .ok (.iconst 0, 1) := by decide +kernel
theorem dX6_holds_194 : decode cX6_holds 194 = .ok (.istore_n 3, 1) := by decide +kernel
theorem dX6_holds_195 : decode cX6_holds 195 = .ok (.iinc 4 1, 3) := by decide +kernel
theorem dX6_holds_198 : decode cX6_holds 198 = .ok (.goto (-44), 3) := by decide +kernel
theorem dX6_holds_201 : decode cX6_holds 201 = .ok (.aload_n 0, 1) := by decide +kernel
theorem dX6_holds_202 : decode cX6_holds 202 = .ok (.getfield 93, 3) := by decide +kernel
theorem dX6_holds_205 : decode cX6_holds 205 = .ok (.iload_n 1, 1) := by decide +kernel
theorem dX6_holds_206 : decode cX6_holds 206 = .ok (.baload, 1) := by decide +kernel
theorem dX6_holds_207 : decode cX6_holds 207 = .ok (.ifCond .ne 8, 3) := by decide +kernel
theorem dX6_holds_210 : decode cX6_holds 210 = .ok (.bipush 6, 2) := by decide +kernel
theorem dX6_holds_212 : decode cX6_holds 212 = .ok (.goto 26, 3) := by decide +kernel
theorem dX6_holds_215 : decode cX6_holds 215 = .ok (.aload_n 0, 1) := by decide +kernel
theorem dX6_holds_216 : decode cX6_holds 216 = .ok (.iload_n 1, 1) := by decide +kernel
theorem dX6_holds_217 : decode cX6_holds 217 = .ok (.invokevirtual 218, 3) := by decide +kernel
theorem dX6_holds_220 : decode cX6_holds 220 = .ok (.ifCond .ne 8, 3) := by decide +kernel
theorem dX6_holds_223 : decode cX6_holds 223 = .ok (.bipush 7, 2) := by decide +kernel
theorem dX6_holds_225 : decode cX6_holds 225 = .ok (.goto 13, 3) := by decide +kernel
theorem dX6_holds_228 : decode cX6_holds 228 = .ok (.iload_n 3, 1) := by decide +kernel
theorem dX6_holds_229 : decode cX6_holds 229 = .ok (.ifCond .eq 8, 3) := by decide +kernel
theorem dX6_holds_232 : decode cX6_holds 232 = .ok (.bipush 8, 2) := by decide +kernel
theorem dX6_holds_234 : decode cX6_holds 234 = .ok (.goto 4, 3) := by decide +kernel
theorem dX6_holds_237 : decode cX6_holds 237 = .ok (.iconst 1, 1) := by decide +kernel
theorem dX6_holds_238 : decode cX6_holds 238 = .ok (.ireturn, 1) := by decide +kernel
theorem dX6_isOne_0 : decode cX6_isOne 0 = .ok (.iload_n 0, 1) := by decide +kernel
theorem dX6_isOne_1 : decode cX6_isOne 1 = .ok (.ifCond .eq 8, 3) := by decide +kernel
theorem dX6_isOne_4 : decode cX6_isOne 4 = .ok (.iload_n 0, 1) := by decide +kernel
theorem dX6_isOne_5 : decode cX6_isOne 5 = .ok (.iconst 1, 1) := by decide +kernel
theorem dX6_isOne_6 : decode cX6_isOne 6 = .ok (.if_icmp .ne 7, 3) := by decide +kernel
theorem dX6_isOne_9 : decode cX6_isOne 9 = .ok (.iconst 1, 1) := by decide +kernel
theorem dX6_isOne_10 : decode cX6_isOne 10 = .ok (.goto 4, 3) := by decide +kernel
theorem dX6_isOne_13 : decode cX6_isOne 13 = .ok (.iconst 0, 1) := by decide +kernel
theorem dX6_isOne_14 : decode cX6_isOne 14 = .ok (.ireturn, 1) := by decide +kernel
set_option maxRecDepth 20000 in
theorem ggX6_span_X6_isNone : GoodIn wsX6_span wsX6_isNone := goodIn_r _ [6, 7, 16, 17, 18, 19, 20, 21, 22, 23, 24, 25, 26, 27, 28, 29, 30, 31, 32, 33, 34, 35, 36, 37, 38, 39, 40, 41, 42, 43, 44, 45, 46, 47] (by decide +kernel) (by decide +kernel)
set_option maxRecDepth 20000 in
theorem gX6_span_X6_isNone : GoodIn wsX6_span (wsV RX6 206 RX6 yX6_isNone wsX6_isNone) := goodIn_app (goodIn_of _ (by decide +kernel)) ggX6_span_X6_isNone
set_option maxRecDepth 20000 in
theorem ggX6_span_X6_isOne : GoodIn wsX6_span wsX6_isOne := goodIn_r _ [10] (by decide +kernel) (by decide +kernel)
set_option maxRecDepth 20000 in
theorem gX6_span_X6_isOne : GoodIn wsX6_span (va_wsS RX6 221 yX6_isOne wsX6_isOne) := goodIn_app (goodIn_of _ (by decide +kernel)) ggX6_span_X6_isOne
set_option maxRecDepth 20000 in
theorem ggX6_span_X6_refused : GoodIn wsX6_span wsX6_refused := goodIn_r _ [14, 15, 16, 17, 18, 19, 20, 21, 22, 23, 24, 25, 26, 27, 28, 29, 30, 31, 32, 33, 34, 35, 36, 37, 38, 39, 40, 41, 42, 43, 44, 45, 46, 47] (by decide +kernel) (by decide +kernel)
set_option maxRecDepth 20000 in
theorem gX6_span_X6_refused : GoodIn wsX6_span (wsV RX6 184 RX6 yX6_refused wsX6_refused) := goodIn_app (goodIn_of _ (by decide +kernel)) ggX6_span_X6_refused
theorem dX6_span_0 : decode cX6_span 0 = .ok (.aload_n 0, 1) := by decide +kernel
theorem dX6_span_1 : decode cX6_span 1 = .ok (.aload_n 0, 1) := by decide +kernel
theorem dX6_span_2 : decode cX6_span 2 = .ok (.iload_n 1, 1) := by decide +kernel
theorem dX6_span_3 : decode cX6_span 3 = .ok (.invokevirtual 206, 3) := by decide +kernel
theorem dX6_span_6 : decode cX6_span 6 = .ok (.iload_n 2, 1) := by decide +kernel
theorem dX6_span_7 : decode cX6_span 7 = .ok (.invokestatic 221, 3) := by decide +kernel
theorem dX6_span_10 : decode cX6_span 10 = .ok (.ifCond .eq 10, 3) := by decide +kernel
theorem dX6_span_13 : decode cX6_span 13 = .ok (.iload_n 3, 1) := by decide +kernel
theorem dX6_span_14 : decode cX6_span 14 = .ok (.invokestatic 221, 3) := by decide +kernel
theorem dX6_span_17 : decode cX6_span 17 = .ok (.ifCond .ne 7, 3) := by decide +kernel
theorem dX6_span_20 : decode cX6_span 20 = .ok (.iconst 1, 1) := by decide +kernel
theorem dX6_span_21 : decode cX6_span 21 = .ok (.goto 4, 3) := by decide +kernel
theorem dX6_span_24 : decode cX6_span 24 = .ok (.iconst 0, 1) := by decide +kernel
theorem dX6_span_25 : decode cX6_span 25 = .ok (.iconst 0, 1) := by decide +kernel
theorem dX6_span_26 : decode cX6_span 26 = .ok (.invokevirtual 184, 3) := by decide +kernel
theorem dX6_span_29 : decode cX6_span 29 = .ok (.ifCond .eq 7, 3) := by decide +kernel
theorem dX6_span_32 : decode cX6_span 32 = .ok (.lconst 0, 1) := by decide +kernel
theorem dX6_span_33 : decode cX6_span 33 = .ok (.goto 17, 3) := by decide +kernel
theorem dX6_span_36 : decode cX6_span 36 = .ok (.aload_n 0, 1) := by decide +kernel
theorem dX6_span_37 : decode cX6_span 37 = .ok (.getfield 107, 3) := by decide +kernel
theorem dX6_span_40 : decode cX6_span 40 = .ok (.iconst 4, 1) := by decide +kernel
theorem dX6_span_41 : decode cX6_span 41 = .ok (.iload_n 1, 1) := by decide +kernel
theorem dX6_span_42 : decode cX6_span 42 = .ok (.imul, 1) := by decide +kernel
theorem dX6_span_43 : decode cX6_span 43 = .ok (.iconst 2, 1) := by decide +kernel
theorem dX6_span_44 : decode cX6_span 44 = .ok (.iload_n 2, 1) := by decide +kernel
theorem dX6_span_45 : decode cX6_span 45 = .ok (.imul, 1) := by decide +kernel
theorem dX6_span_46 : decode cX6_span 46 = .ok (.iadd, 1) := by decide +kernel
theorem dX6_span_47 : decode cX6_span 47 = .ok (.iload_n 3, 1) := by decide +kernel
theorem dX6_span_48 : decode cX6_span 48 = .ok (.iadd, 1) := by decide +kernel
theorem dX6_span_49 : decode cX6_span 49 = .ok (.laload, 1) := by decide +kernel
theorem dX6_span_50 : decode cX6_span 50 = .ok (.lreturn, 1) := by decide +kernel
set_option maxRecDepth 20000 in
theorem ggX6_tell_X6_isNone : GoodIn wsX6_tell wsX6_isNone := goodIn_r _ [6, 7, 16, 17, 18, 19, 20, 21, 22, 23, 24, 25, 26, 27, 28, 29, 30, 31, 32, 33, 34, 35, 36, 37, 38, 39, 40, 41, 42, 43, 44, 45, 46, 47] (by decide +kernel) (by decide +kernel)
set_option maxRecDepth 20000 in
theorem gX6_tell_X6_isNone : GoodIn wsX6_tell (wsV RX6 206 RX6 yX6_isNone wsX6_isNone) := goodIn_app (goodIn_of _ (by decide +kernel)) ggX6_tell_X6_isNone
set_option maxRecDepth 20000 in
theorem ggX6_tell_X6_isOne : GoodIn wsX6_tell wsX6_isOne := goodIn_r _ [10] (by decide +kernel) (by decide +kernel)
set_option maxRecDepth 20000 in
theorem gX6_tell_X6_isOne : GoodIn wsX6_tell (va_wsS RX6 221 yX6_isOne wsX6_isOne) := goodIn_app (goodIn_of _ (by decide +kernel)) ggX6_tell_X6_isOne
set_option maxRecDepth 20000 in
theorem ggX6_tell_X6_refused : GoodIn wsX6_tell wsX6_refused := goodIn_r _ [14, 15, 16, 17, 18, 19, 20, 21, 22, 23, 24, 25, 26, 27, 28, 29, 30, 31, 32, 33, 34, 35, 36, 37, 38, 39, 40, 41, 42, 43, 44, 45, 46, 47] (by decide +kernel) (by decide +kernel)
set_option maxRecDepth 20000 in
theorem gX6_tell_X6_refused : GoodIn wsX6_tell (wsV RX6 184 RX6 yX6_refused wsX6_refused) := goodIn_app (goodIn_of _ (by decide +kernel)) ggX6_tell_X6_refused
theorem dX6_tell_0 : decode cX6_tell 0 = .ok (.aload_n 0, 1) := by decide +kernel
theorem dX6_tell_1 : decode cX6_tell 1 = .ok (.aload_n 0, 1) := by decide +kernel
theorem dX6_tell_2 : decode cX6_tell 2 = .ok (.iload_n 1, 1) := by decide +kernel
theorem dX6_tell_3 : decode cX6_tell 3 = .ok (.invokevirtual 206, 3) := by decide +kernel
theorem dX6_tell_6 : decode cX6_tell 6 = .ok (.iload_n 2, 1) := by decide +kernel
theorem dX6_tell_7 : decode cX6_tell 7 = .ok (.invokestatic 221, 3) := by decide +kernel
theorem dX6_tell_10 : decode cX6_tell 10 = .ok (.ifCond .ne 7, 3) := by decide +kernel
theorem dX6_tell_13 : decode cX6_tell 13 = .ok (.iconst 1, 1) := by decide +kernel
theorem dX6_tell_14 : decode cX6_tell 14 = .ok (.goto 4, 3) := by decide +kernel
theorem dX6_tell_17 : decode cX6_tell 17 = .ok (.iconst 0, 1) := by decide +kernel
theorem dX6_tell_18 : decode cX6_tell 18 = .ok (.iconst 0, 1) := by decide +kernel
theorem dX6_tell_19 : decode cX6_tell 19 = .ok (.invokevirtual 184, 3) := by decide +kernel
theorem dX6_tell_22 : decode cX6_tell 22 = .ok (.ifCond .ne 32, 3) := by decide +kernel
theorem dX6_tell_25 : decode cX6_tell 25 = .ok (.aload_n 0, 1) := by decide +kernel
theorem dX6_tell_26 : decode cX6_tell 26 = .ok (.getfield 107, 3) := by decide +kernel
theorem dX6_tell_29 : decode cX6_tell 29 = .ok (.iconst 4, 1) := by decide +kernel
theorem dX6_tell_30 : decode cX6_tell 30 = .ok (.iload_n 1, 1) := by decide +kernel
theorem dX6_tell_31 : decode cX6_tell 31 = .ok (.imul, 1) := by decide +kernel
theorem dX6_tell_32 : decode cX6_tell 32 = .ok (.iconst 2, 1) := by decide +kernel
theorem dX6_tell_33 : decode cX6_tell 33 = .ok (.iload_n 2, 1) := by decide +kernel
theorem dX6_tell_34 : decode cX6_tell 34 = .ok (.imul, 1) := by decide +kernel
theorem dX6_tell_35 : decode cX6_tell 35 = .ok (.iadd, 1) := by decide +kernel
theorem dX6_tell_36 : decode cX6_tell 36 = .ok (.lload_n 3, 1) := by decide +kernel
theorem dX6_tell_37 : decode cX6_tell 37 = .ok (.lastore, 1) := by decide +kernel
theorem dX6_tell_38 : decode cX6_tell 38 = .ok (.aload_n 0, 1) := by decide +kernel
theorem dX6_tell_39 : decode cX6_tell 39 = .ok (.getfield 107, 3) := by decide +kernel
theorem dX6_tell_42 : decode cX6_tell 42 = .ok (.iconst 4, 1) := by decide +kernel
theorem dX6_tell_43 : decode cX6_tell 43 = .ok (.iload_n 1, 1) := by decide +kernel
theorem dX6_tell_44 : decode cX6_tell 44 = .ok (.imul, 1) := by decide +kernel
theorem dX6_tell_45 : decode cX6_tell 45 = .ok (.iconst 2, 1) := by decide +kernel
theorem dX6_tell_46 : decode cX6_tell 46 = .ok (.iload_n 2, 1) := by decide +kernel
theorem dX6_tell_47 : decode cX6_tell 47 = .ok (.imul, 1) := by decide +kernel
theorem dX6_tell_48 : decode cX6_tell 48 = .ok (.iadd, 1) := by decide +kernel
theorem dX6_tell_49 : decode cX6_tell 49 = .ok (.iconst 1, 1) := by decide +kernel
theorem dX6_tell_50 : decode cX6_tell 50 = .ok (.iadd, 1) := by decide +kernel
theorem dX6_tell_51 : decode cX6_tell 51 = .ok (.lload 5, 2) := by decide +kernel
theorem dX6_tell_53 : decode cX6_tell 53 = .ok (.lastore, 1) := by decide +kernel
theorem dX6_tell_54 : decode cX6_tell 54 = .ok (.return_, 1) := by decide +kernel
set_option maxRecDepth 20000 in
theorem ggX6_chain_X6_isNone : GoodIn wsX6_chain wsX6_isNone := goodIn_r _ [7, 8, 14, 15, 16, 17, 18, 19, 20, 21, 22, 23, 24, 25, 26, 27, 28, 29, 30, 31, 32, 33, 34, 35, 36, 37, 38, 39, 40, 41, 42, 43, 44, 45] (by decide +kernel) (by decide +kernel)
set_option maxRecDepth 20000 in
theorem gX6_chain_X6_isNone : GoodIn wsX6_chain (wsV RX6 206 RX6 yX6_isNone wsX6_isNone) := goodIn_app (goodIn_of _ (by decide +kernel)) ggX6_chain_X6_isNone
set_option maxRecDepth 20000 in
theorem ggX6_chain_X6_refused : GoodIn wsX6_chain wsX6_refused := goodIn_r _ [12, 13, 14, 15, 16, 17, 18, 19, 20, 21, 22, 23, 24, 25, 26, 27, 28, 29, 30, 31, 32, 33, 34, 35, 36, 37, 38, 39, 40, 41, 42, 43, 44, 45] (by decide +kernel) (by decide +kernel)
set_option maxRecDepth 20000 in
theorem gX6_chain_X6_refused : GoodIn wsX6_chain (wsV RX6 184 RX6 yX6_refused wsX6_refused) := goodIn_app (goodIn_of _ (by decide +kernel)) ggX6_chain_X6_refused
theorem dX6_chain_0 : decode cX6_chain 0 = .ok (.aload_n 0, 1) := by decide +kernel
theorem dX6_chain_1 : decode cX6_chain 1 = .ok (.aload_n 0, 1) := by decide +kernel
theorem dX6_chain_2 : decode cX6_chain 2 = .ok (.iload_n 1, 1) := by decide +kernel
theorem dX6_chain_3 : decode cX6_chain 3 = .ok (.invokevirtual 206, 3) := by decide +kernel
theorem dX6_chain_6 : decode cX6_chain 6 = .ok (.lload 4, 2) := by decide +kernel
theorem dX6_chain_8 : decode cX6_chain 8 = .ok (.lload_n 2, 1) := by decide +kernel
theorem dX6_chain_9 : decode cX6_chain 9 = .ok (.lcmp, 1) := by decide +kernel
theorem dX6_chain_10 : decode cX6_chain 10 = .ok (.ifCond .ge 7, 3) := by decide +kernel
theorem dX6_chain_13 : decode cX6_chain 13 = .ok (.iconst 1, 1) := by decide +kernel
theorem dX6_chain_14 : decode cX6_chain 14 = .ok (.goto 4, 3) := by decide +kernel
theorem dX6_chain_17 : decode cX6_chain 17 = .ok (.iconst 0, 1) := by decide +kernel
theorem dX6_chain_18 : decode cX6_chain 18 = .ok (.aload_n 0, 1) := by decide +kernel
theorem dX6_chain_19 : decode cX6_chain 19 = .ok (.iload_n 1, 1) := by decide +kernel
theorem dX6_chain_20 : decode cX6_chain 20 = .ok (.invokevirtual 206, 3) := by decide +kernel
theorem dX6_chain_23 : decode cX6_chain 23 = .ok (.ifCond .ne 17, 3) := by decide +kernel
theorem dX6_chain_26 : decode cX6_chain 26 = .ok (.aload_n 0, 1) := by decide +kernel
theorem dX6_chain_27 : decode cX6_chain 27 = .ok (.getfield 113, 3) := by decide +kernel
theorem dX6_chain_30 : decode cX6_chain 30 = .ok (.iload_n 1, 1) := by decide +kernel
theorem dX6_chain_31 : decode cX6_chain 31 = .ok (.iaload, 1) := by decide +kernel
theorem dX6_chain_32 : decode cX6_chain 32 = .ok (.iconst 4, 1) := by decide +kernel
theorem dX6_chain_33 : decode cX6_chain 33 = .ok (.if_icmp .ne 7, 3) := by decide +kernel
theorem dX6_chain_36 : decode cX6_chain 36 = .ok (.iconst 1, 1) := by decide +kernel
theorem dX6_chain_37 : decode cX6_chain 37 = .ok (.goto 4, 3) := by decide +kernel
theorem dX6_chain_40 : decode cX6_chain 40 = .ok (.iconst 0, 1) := by decide +kernel
theorem dX6_chain_41 : decode cX6_chain 41 = .ok (.invokevirtual 184, 3) := by decide +kernel
theorem dX6_chain_44 : decode cX6_chain 44 = .ok (.ifCond .eq 5, 3) := by decide +kernel
theorem dX6_chain_47 : decode cX6_chain 47 = .ok (.iconst 0, 1) := by decide +kernel
theorem dX6_chain_48 : decode cX6_chain 48 = .ok (.ireturn, 1) := by decide +kernel
theorem dX6_chain_49 : decode cX6_chain 49 = .ok (.aload_n 0, 1) := by decide +kernel
theorem dX6_chain_50 : decode cX6_chain 50 = .ok (.getfield 116, 3) := by decide +kernel
theorem dX6_chain_53 : decode cX6_chain 53 = .ok (.bipush 8, 2) := by decide +kernel
theorem dX6_chain_55 : decode cX6_chain 55 = .ok (.iload_n 1, 1) := by decide +kernel
theorem dX6_chain_56 : decode cX6_chain 56 = .ok (.imul, 1) := by decide +kernel
theorem dX6_chain_57 : decode cX6_chain 57 = .ok (.iconst 2, 1) := by decide +kernel
theorem dX6_chain_58 : decode cX6_chain 58 = .ok (.aload_n 0, 1) := by decide +kernel
theorem dX6_chain_59 : decode cX6_chain 59 = .ok (.getfield 113, 3) := by decide +kernel
theorem dX6_chain_62 : decode cX6_chain 62 = .ok (.iload_n 1, 1) := by decide +kernel
theorem dX6_chain_63 : decode cX6_chain 63 = .ok (.iaload, 1) := by decide +kernel
theorem dX6_chain_64 : decode cX6_chain 64 = .ok (.imul, 1) := by decide +kernel
theorem dX6_chain_65 : decode cX6_chain 65 = .ok (.iadd, 1) := by decide +kernel
theorem dX6_chain_66 : decode cX6_chain 66 = .ok (.lload_n 2, 1) := by decide +kernel
theorem dX6_chain_67 : decode cX6_chain 67 = .ok (.lastore, 1) := by decide +kernel
theorem dX6_chain_68 : decode cX6_chain 68 = .ok (.aload_n 0, 1) := by decide +kernel
theorem dX6_chain_69 : decode cX6_chain 69 = .ok (.getfield 116, 3) := by decide +kernel
theorem dX6_chain_72 : decode cX6_chain 72 = .ok (.bipush 8, 2) := by decide +kernel
theorem dX6_chain_74 : decode cX6_chain 74 = .ok (.iload_n 1, 1) := by decide +kernel
theorem dX6_chain_75 : decode cX6_chain 75 = .ok (.imul, 1) := by decide +kernel
theorem dX6_chain_76 : decode cX6_chain 76 = .ok (.iconst 2, 1) := by decide +kernel
theorem dX6_chain_77 : decode cX6_chain 77 = .ok (.aload_n 0, 1) := by decide +kernel
theorem dX6_chain_78 : decode cX6_chain 78 = .ok (.getfield 113, 3) := by decide +kernel
theorem dX6_chain_81 : decode cX6_chain 81 = .ok (.iload_n 1, 1) := by decide +kernel
theorem dX6_chain_82 : decode cX6_chain 82 = .ok (.iaload, 1) := by decide +kernel
theorem dX6_chain_83 : decode cX6_chain 83 = .ok (.imul, 1) := by decide +kernel
theorem dX6_chain_84 : decode cX6_chain 84 = .ok (.iadd, 1) := by decide +kernel
theorem dX6_chain_85 : decode cX6_chain 85 = .ok (.iconst 1, 1) := by decide +kernel
theorem dX6_chain_86 : decode cX6_chain 86 = .ok (.iadd, 1) := by decide +kernel
theorem dX6_chain_87 : decode cX6_chain 87 = .ok (.lload 4, 2) := by decide +kernel
theorem dX6_chain_89 : decode cX6_chain 89 = .ok (.lastore, 1) := by decide +kernel
theorem dX6_chain_90 : decode cX6_chain 90 = .ok (.aload_n 0, 1) := by decide +kernel
theorem dX6_chain_91 : decode cX6_chain 91 = .ok (.getfield 113, 3) := by decide +kernel
theorem dX6_chain_94 : decode cX6_chain 94 = .ok (.iload_n 1, 1) := by decide +kernel
theorem dX6_chain_95 : decode cX6_chain 95 = .ok (.dup2, 1) := by decide +kernel
theorem dX6_chain_96 : decode cX6_chain 96 = .ok (.iaload, 1) := by decide +kernel
theorem dX6_chain_97 : decode cX6_chain 97 = .ok (.iconst 1, 1) := by decide +kernel
theorem dX6_chain_98 : decode cX6_chain 98 = .ok (.iadd, 1) := by decide +kernel
theorem dX6_chain_99 : decode cX6_chain 99 = .ok (.iastore, 1) := by decide +kernel
theorem dX6_chain_100 : decode cX6_chain 100 = .ok (.aload_n 0, 1) := by decide +kernel
theorem dX6_chain_101 : decode cX6_chain 101 = .ok (.getfield 113, 3) := by decide +kernel
theorem dX6_chain_104 : decode cX6_chain 104 = .ok (.iload_n 1, 1) := by decide +kernel
theorem dX6_chain_105 : decode cX6_chain 105 = .ok (.iaload, 1) := by decide +kernel
theorem dX6_chain_106 : decode cX6_chain 106 = .ok (.ireturn, 1) := by decide +kernel
theorem dX6_note_0 : decode cX6_note 0 = .ok (.aload_n 0, 1) := by decide +kernel
theorem dX6_note_1 : decode cX6_note 1 = .ok (.getfield 131, 3) := by decide +kernel
theorem dX6_note_4 : decode cX6_note 4 = .ok (.aload_n 0, 1) := by decide +kernel
theorem dX6_note_5 : decode cX6_note 5 = .ok (.getfield 191, 3) := by decide +kernel
theorem dX6_note_8 : decode cX6_note 8 = .ok (.iload_n 1, 1) := by decide +kernel
theorem dX6_note_9 : decode cX6_note 9 = .ok (.iastore, 1) := by decide +kernel
theorem dX6_note_10 : decode cX6_note 10 = .ok (.aload_n 0, 1) := by decide +kernel
theorem dX6_note_11 : decode cX6_note 11 = .ok (.getfield 134, 3) := by decide +kernel
theorem dX6_note_14 : decode cX6_note 14 = .ok (.aload_n 0, 1) := by decide +kernel
theorem dX6_note_15 : decode cX6_note 15 = .ok (.getfield 191, 3) := by decide +kernel
theorem dX6_note_18 : decode cX6_note 18 = .ok (.iload_n 2, 1) := by decide +kernel
theorem dX6_note_19 : decode cX6_note 19 = .ok (.iastore, 1) := by decide +kernel
theorem dX6_note_20 : decode cX6_note 20 = .ok (.aload_n 0, 1) := by decide +kernel
theorem dX6_note_21 : decode cX6_note 21 = .ok (.dup, 1) := by decide +kernel
theorem dX6_note_22 : decode cX6_note 22 = .ok (.getfield 191, 3) := by decide +kernel
theorem dX6_note_25 : decode cX6_note 25 = .ok (.iconst 1, 1) := by decide +kernel
theorem dX6_note_26 : decode cX6_note 26 = .ok (.iadd, 1) := by decide +kernel
theorem dX6_note_27 : decode cX6_note 27 = .ok (.putfield 191, 3) := by decide +kernel
theorem dX6_note_30 : decode cX6_note 30 = .ok (.return_, 1) := by decide +kernel
set_option maxRecDepth 20000 in
theorem ggX6_change_X6_refused : GoodIn wsX6_change wsX6_refused := goodIn_r _ [6, 7, 14, 15, 16, 17, 18, 19, 20, 21, 22, 23, 24, 25, 26, 27, 28, 29, 30, 31, 32, 33, 34, 35, 36, 37, 38, 39, 40, 41, 42, 43, 44, 45] (by decide +kernel) (by decide +kernel)
set_option maxRecDepth 20000 in
theorem gX6_change_X6_refused : GoodIn wsX6_change (wsV RX6 184 RX6 yX6_refused wsX6_refused) := goodIn_app (goodIn_of _ (by decide +kernel)) ggX6_change_X6_refused
set_option maxRecDepth 20000 in
theorem ggX6_change_X6_note : GoodIn wsX6_change wsX6_note := goodIn_ca (goodIn_r _ [11, 12, 1, 13, 14, 15, 16, 17, 18, 19, 20, 21, 22, 23, 24, 25, 26, 27, 28, 29, 30, 31, 32, 33, 34, 35, 36, 37, 38, 39, 40, 41, 42, 43, 44, 45] (by decide +kernel) (by decide +kernel)) (goodIn_sub (fun _ h => List.mem_cons_of_mem _ (List.mem_append_right _ h)) (by decide +kernel))
set_option maxRecDepth 20000 in
theorem gX6_change_X6_note : GoodIn wsX6_change (wsV RX6 194 RX6 yX6_note wsX6_note) := goodIn_app (goodIn_of _ (by decide +kernel)) ggX6_change_X6_note
theorem dX6_change_0 : decode cX6_change 0 = .ok (.aload_n 0, 1) := by decide +kernel
theorem dX6_change_1 : decode cX6_change 1 = .ok (.iload_n 1, 1) := by decide +kernel
theorem dX6_change_2 : decode cX6_change 2 = .ok (.ifCond .lt 18, 3) := by decide +kernel
theorem dX6_change_5 : decode cX6_change 5 = .ok (.iload_n 1, 1) := by decide +kernel
theorem dX6_change_6 : decode cX6_change 6 = .ok (.iconst 3, 1) := by decide +kernel
theorem dX6_change_7 : decode cX6_change 7 = .ok (.if_icmp .gt 13, 3) := by decide +kernel
theorem dX6_change_10 : decode cX6_change 10 = .ok (.iload_n 2, 1) := by decide +kernel
theorem dX6_change_11 : decode cX6_change 11 = .ok (.ifCond .lt 9, 3) := by decide +kernel
theorem dX6_change_14 : decode cX6_change 14 = .ok (.iload_n 2, 1) := by decide +kernel
theorem dX6_change_15 : decode cX6_change 15 = .ok (.bipush 19, 2) := by decide +kernel
theorem dX6_change_17 : decode cX6_change 17 = .ok (.if_icmp .le 7, 3) := by decide +kernel
theorem dX6_change_20 : decode cX6_change 20 = .ok (.iconst 1, 1) := by decide +kernel
theorem dX6_change_21 : decode cX6_change 21 = .ok (.goto 4, 3) := by decide +kernel
theorem dX6_change_24 : decode cX6_change 24 = .ok (.iconst 0, 1) := by decide +kernel
theorem dX6_change_25 : decode cX6_change 25 = .ok (.aload_n 0, 1) := by decide +kernel
theorem dX6_change_26 : decode cX6_change 26 = .ok (.getfield 191, 3) := by decide +kernel
theorem dX6_change_29 : decode cX6_change 29 = .ok (.bipush 40, 2) := by decide +kernel
theorem dX6_change_31 : decode cX6_change 31 = .ok (.if_icmp .ne 7, 3) := by decide +kernel
theorem dX6_change_34 : decode cX6_change 34 = .ok (.iconst 1, 1) := by decide +kernel
theorem dX6_change_35 : decode cX6_change 35 = .ok (.goto 4, 3) := by decide +kernel
theorem dX6_change_38 : decode cX6_change 38 = .ok (.iconst 0, 1) := by decide +kernel
theorem dX6_change_39 : decode cX6_change 39 = .ok (.iconst 0, 1) := by decide +kernel
theorem dX6_change_40 : decode cX6_change 40 = .ok (.invokevirtual 184, 3) := by decide +kernel
theorem dX6_change_43 : decode cX6_change 43 = .ok (.ifCond .eq 5, 3) := by decide +kernel
theorem dX6_change_46 : decode cX6_change 46 = .ok (.iconst 0, 1) := by decide +kernel
theorem dX6_change_47 : decode cX6_change 47 = .ok (.ireturn, 1) := by decide +kernel
theorem dX6_change_48 : decode cX6_change 48 = .ok (.aload_n 0, 1) := by decide +kernel
theorem dX6_change_49 : decode cX6_change 49 = .ok (.iload_n 1, 1) := by decide +kernel
theorem dX6_change_50 : decode cX6_change 50 = .ok (.iload_n 2, 1) := by decide +kernel
theorem dX6_change_51 : decode cX6_change 51 = .ok (.invokevirtual 194, 3) := by decide +kernel
theorem dX6_change_54 : decode cX6_change 54 = .ok (.aload_n 0, 1) := by decide +kernel
theorem dX6_change_55 : decode cX6_change 55 = .ok (.getfield 191, 3) := by decide +kernel
theorem dX6_change_58 : decode cX6_change 58 = .ok (.ireturn, 1) := by decide +kernel
set_option maxRecDepth 20000 in
theorem ggX6_allow_X6_isNone : GoodIn wsX6_allow wsX6_isNone := goodIn_r _ [6, 7, 13, 14, 15, 16, 17, 18, 19, 20, 21, 22, 23, 24, 25, 26, 27, 28, 29, 30, 31, 32, 33, 34, 35, 36, 37, 38, 39, 40, 41, 42, 43, 44] (by decide +kernel) (by decide +kernel)
set_option maxRecDepth 20000 in
theorem gX6_allow_X6_isNone : GoodIn wsX6_allow (wsV RX6 206 RX6 yX6_isNone wsX6_isNone) := goodIn_app (goodIn_of _ (by decide +kernel)) ggX6_allow_X6_isNone
set_option maxRecDepth 20000 in
theorem ggX6_allow_X6_refused : GoodIn wsX6_allow wsX6_refused := goodIn_r _ [11, 12, 13, 14, 15, 16, 17, 18, 19, 20, 21, 22, 23, 24, 25, 26, 27, 28, 29, 30, 31, 32, 33, 34, 35, 36, 37, 38, 39, 40, 41, 42, 43, 44] (by decide +kernel) (by decide +kernel)
set_option maxRecDepth 20000 in
theorem gX6_allow_X6_refused : GoodIn wsX6_allow (wsV RX6 184 RX6 yX6_refused wsX6_refused) := goodIn_app (goodIn_of _ (by decide +kernel)) ggX6_allow_X6_refused
theorem dX6_allow_0 : decode cX6_allow 0 = .ok (.aload_n 0, 1) := by decide +kernel
theorem dX6_allow_1 : decode cX6_allow 1 = .ok (.aload_n 0, 1) := by decide +kernel
theorem dX6_allow_2 : decode cX6_allow 2 = .ok (.iload_n 1, 1) := by decide +kernel
theorem dX6_allow_3 : decode cX6_allow 3 = .ok (.invokevirtual 206, 3) := by decide +kernel
theorem dX6_allow_6 : decode cX6_allow 6 = .ok (.iconst 0, 1) := by decide +kernel
theorem dX6_allow_7 : decode cX6_allow 7 = .ok (.iconst 0, 1) := by decide +kernel
theorem dX6_allow_8 : decode cX6_allow 8 = .ok (.invokevirtual 184, 3) := by decide +kernel
theorem dX6_allow_11 : decode cX6_allow 11 = .ok (.ifCond .eq 5, 3) := by decide +kernel
theorem dX6_allow_14 : decode cX6_allow 14 = .ok (.iconst 0, 1) := by decide +kernel
theorem dX6_allow_15 : decode cX6_allow 15 = .ok (.ireturn, 1) := by decide +kernel
theorem dX6_allow_16 : decode cX6_allow 16 = .ok (.aload_n 0, 1) := by decide +kernel
theorem dX6_allow_17 : decode cX6_allow 17 = .ok (.getfield 119, 3) := by decide +kernel
theorem dX6_allow_20 : decode cX6_allow 20 = .ok (.iload_n 1, 1) := by decide +kernel
theorem dX6_allow_21 : decode cX6_allow 21 = .ok (.iaload, 1) := by decide +kernel
theorem dX6_allow_22 : decode cX6_allow 22 = .ok (.istore_n 3, 1) := by decide +kernel
theorem dX6_allow_23 : decode cX6_allow 23 = .ok (.aload_n 0, 1) := by decide +kernel
theorem dX6_allow_24 : decode cX6_allow 24 = .ok (.getfield 119, 3) := by decide +kernel
theorem dX6_allow_27 : decode cX6_allow 27 = .ok (.iload_n 1, 1) := by decide +kernel
theorem dX6_allow_28 : decode cX6_allow 28 = .ok (.iload_n 2, 1) := by decide +kernel
theorem dX6_allow_29 : decode cX6_allow 29 = .ok (.bipush 15, 2) := by decide +kernel
theorem dX6_allow_31 : decode cX6_allow 31 = .ok (.iand, 1) := by decide +kernel
theorem dX6_allow_32 : decode cX6_allow 32 = .ok (.iastore, 1) := by decide +kernel
theorem dX6_allow_33 : decode cX6_allow 33 = .ok (.iload_n 3, 1) := by decide +kernel
theorem dX6_allow_34 : decode cX6_allow 34 = .ok (.ireturn, 1) := by decide +kernel
set_option maxRecDepth 20000 in
theorem ggX6_lock_X6_isNone : GoodIn wsX6_lock wsX6_isNone := goodIn_r _ [6, 7, 13, 14, 15, 16, 17, 18, 19, 20, 21, 22, 23, 24, 25, 26, 27, 28, 29, 30, 31, 32, 33, 34, 35, 36, 37, 38, 39, 40, 41, 42, 43, 44] (by decide +kernel) (by decide +kernel)
set_option maxRecDepth 20000 in
theorem gX6_lock_X6_isNone : GoodIn wsX6_lock (wsV RX6 206 RX6 yX6_isNone wsX6_isNone) := goodIn_app (goodIn_of _ (by decide +kernel)) ggX6_lock_X6_isNone
set_option maxRecDepth 20000 in
theorem ggX6_lock_X6_refused : GoodIn wsX6_lock wsX6_refused := goodIn_r _ [11, 12, 13, 14, 15, 16, 17, 18, 19, 20, 21, 22, 23, 24, 25, 26, 27, 28, 29, 30, 31, 32, 33, 34, 35, 36, 37, 38, 39, 40, 41, 42, 43, 44] (by decide +kernel) (by decide +kernel)
set_option maxRecDepth 20000 in
theorem gX6_lock_X6_refused : GoodIn wsX6_lock (wsV RX6 184 RX6 yX6_refused wsX6_refused) := goodIn_app (goodIn_of _ (by decide +kernel)) ggX6_lock_X6_refused
theorem dX6_lock_0 : decode cX6_lock 0 = .ok (.aload_n 0, 1) := by decide +kernel
theorem dX6_lock_1 : decode cX6_lock 1 = .ok (.aload_n 0, 1) := by decide +kernel
theorem dX6_lock_2 : decode cX6_lock 2 = .ok (.iload_n 1, 1) := by decide +kernel
theorem dX6_lock_3 : decode cX6_lock 3 = .ok (.invokevirtual 206, 3) := by decide +kernel
theorem dX6_lock_6 : decode cX6_lock 6 = .ok (.iload_n 2, 1) := by decide +kernel
theorem dX6_lock_7 : decode cX6_lock 7 = .ok (.ifCond .lt 9, 3) := by decide +kernel
theorem dX6_lock_10 : decode cX6_lock 10 = .ok (.iload_n 2, 1) := by decide +kernel
theorem dX6_lock_11 : decode cX6_lock 11 = .ok (.bipush 19, 2) := by decide +kernel
theorem dX6_lock_13 : decode cX6_lock 13 = .ok (.if_icmp .le 7, 3) := by decide +kernel
theorem dX6_lock_16 : decode cX6_lock 16 = .ok (.iconst 1, 1) := by decide +kernel
theorem dX6_lock_17 : decode cX6_lock 17 = .ok (.goto 4, 3) := by decide +kernel
theorem dX6_lock_20 : decode cX6_lock 20 = .ok (.iconst 0, 1) := by decide +kernel
theorem dX6_lock_21 : decode cX6_lock 21 = .ok (.iconst 0, 1) := by decide +kernel
theorem dX6_lock_22 : decode cX6_lock 22 = .ok (.invokevirtual 184, 3) := by decide +kernel
theorem dX6_lock_25 : decode cX6_lock 25 = .ok (.ifCond .eq 5, 3) := by decide +kernel
theorem dX6_lock_28 : decode cX6_lock 28 = .ok (.iconst 0, 1) := by decide +kernel
theorem dX6_lock_29 : decode cX6_lock 29 = .ok (.ireturn, 1) := by decide +kernel
theorem dX6_lock_30 : decode cX6_lock 30 = .ok (.aload_n 0, 1) := by decide +kernel
theorem dX6_lock_31 : decode cX6_lock 31 = .ok (.getfield 122, 3) := by decide +kernel
theorem dX6_lock_34 : decode cX6_lock 34 = .ok (.bipush 20, 2) := by decide +kernel
theorem dX6_lock_36 : decode cX6_lock 36 = .ok (.iload_n 1, 1) := by decide +kernel
theorem dX6_lock_37 : decode cX6_lock 37 = .ok (.imul, 1) := by decide +kernel
theorem dX6_lock_38 : decode cX6_lock 38 = .ok (.iload_n 2, 1) := by decide +kernel
theorem dX6_lock_39 : decode cX6_lock 39 = .ok (.iadd, 1) := by decide +kernel
theorem dX6_lock_40 : decode cX6_lock 40 = .ok (.baload, 1) := by decide +kernel
theorem dX6_lock_41 : decode cX6_lock 41 = .ok (.ifCond .eq 7, 3) := by decide +kernel
theorem dX6_lock_44 : decode cX6_lock 44 = .ok (.iconst 0, 1) := by decide +kernel
theorem dX6_lock_45 : decode cX6_lock 45 = .ok (.goto 4, 3) := by decide +kernel
theorem dX6_lock_48 : decode cX6_lock 48 = .ok (.iconst 1, 1) := by decide +kernel
theorem dX6_lock_49 : decode cX6_lock 49 = .ok (.istore_n 3, 1) := by decide +kernel
theorem dX6_lock_50 : decode cX6_lock 50 = .ok (.aload_n 0, 1) := by decide +kernel
theorem dX6_lock_51 : decode cX6_lock 51 = .ok (.getfield 122, 3) := by decide +kernel
theorem dX6_lock_54 : decode cX6_lock 54 = .ok (.bipush 20, 2) := by decide +kernel
theorem dX6_lock_56 : decode cX6_lock 56 = .ok (.iload_n 1, 1) := by decide +kernel
theorem dX6_lock_57 : decode cX6_lock 57 = .ok (.imul, 1) := by decide +kernel
theorem dX6_lock_58 : decode cX6_lock 58 = .ok (.iload_n 2, 1) := by decide +kernel
theorem dX6_lock_59 : decode cX6_lock 59 = .ok (.iadd, 1) := by decide +kernel
theorem dX6_lock_60 : decode cX6_lock 60 = .ok (.iconst 1, 1) := by decide +kernel
theorem dX6_lock_61 : decode cX6_lock 61 = .ok (.bastore, 1) := by decide +kernel
theorem dX6_lock_62 : decode cX6_lock 62 = .ok (.iload_n 3, 1) := by decide +kernel
theorem dX6_lock_63 : decode cX6_lock 63 = .ok (.ireturn, 1) := by decide +kernel
set_option maxRecDepth 20000 in
theorem ggX6_certify_X6_isNone : GoodIn wsX6_certify wsX6_isNone := goodIn_r _ [6, 7, 13, 14, 15, 16, 17, 18, 19, 20, 21, 22, 23, 24, 25, 26, 27, 28, 29, 30, 31, 32, 33, 34, 35, 36, 37, 38, 39, 40, 41, 42, 43, 44] (by decide +kernel) (by decide +kernel)
set_option maxRecDepth 20000 in
theorem gX6_certify_X6_isNone : GoodIn wsX6_certify (wsV RX6 206 RX6 yX6_isNone wsX6_isNone) := goodIn_app (goodIn_of _ (by decide +kernel)) ggX6_certify_X6_isNone
set_option maxRecDepth 20000 in
theorem ggX6_certify_X6_refused : GoodIn wsX6_certify wsX6_refused := goodIn_r _ [11, 12, 13, 14, 15, 16, 17, 18, 19, 20, 21, 22, 23, 24, 25, 26, 27, 28, 29, 30, 31, 32, 33, 34, 35, 36, 37, 38, 39, 40, 41, 42, 43, 44] (by decide +kernel) (by decide +kernel)
set_option maxRecDepth 20000 in
theorem gX6_certify_X6_refused : GoodIn wsX6_certify (wsV RX6 184 RX6 yX6_refused wsX6_refused) := goodIn_app (goodIn_of _ (by decide +kernel)) ggX6_certify_X6_refused
theorem dX6_certify_0 : decode cX6_certify 0 = .ok (.aload_n 0, 1) := by decide +kernel
theorem dX6_certify_1 : decode cX6_certify 1 = .ok (.aload_n 0, 1) := by decide +kernel
theorem dX6_certify_2 : decode cX6_certify 2 = .ok (.iload_n 1, 1) := by decide +kernel
theorem dX6_certify_3 : decode cX6_certify 3 = .ok (.invokevirtual 206, 3) := by decide +kernel
theorem dX6_certify_6 : decode cX6_certify 6 = .ok (.iload_n 2, 1) := by decide +kernel
theorem dX6_certify_7 : decode cX6_certify 7 = .ok (.iconst 1, 1) := by decide +kernel
theorem dX6_certify_8 : decode cX6_certify 8 = .ok (.if_icmp .lt 8, 3) := by decide +kernel
theorem dX6_certify_11 : decode cX6_certify 11 = .ok (.iload_n 2, 1) := by decide +kernel
theorem dX6_certify_12 : decode cX6_certify 12 = .ok (.iconst 3, 1) := by decide +kernel
theorem dX6_certify_13 : decode cX6_certify 13 = .ok (.if_icmp .le 7, 3) := by decide +kernel
theorem dX6_certify_16 : decode cX6_certify 16 = .ok (.iconst 1, 1) := by decide +kernel
theorem dX6_certify_17 : decode cX6_certify 17 = .ok (.goto 4, 3) := by decide +kernel
theorem dX6_certify_20 : decode cX6_certify 20 = .ok (.iconst 0, 1) := by decide +kernel
theorem dX6_certify_21 : decode cX6_certify 21 = .ok (.iconst 0, 1) := by decide +kernel
theorem dX6_certify_22 : decode cX6_certify 22 = .ok (.invokevirtual 184, 3) := by decide +kernel
theorem dX6_certify_25 : decode cX6_certify 25 = .ok (.ifCond .ne 16, 3) := by decide +kernel
theorem dX6_certify_28 : decode cX6_certify 28 = .ok (.iload_n 1, 1) := by decide +kernel
theorem dX6_certify_29 : decode cX6_certify 29 = .ok (.ifCond .gt 12, 3) := by decide +kernel
theorem dX6_certify_32 : decode cX6_certify 32 = .ok (.aload_n 0, 1) := by decide +kernel
theorem dX6_certify_33 : decode cX6_certify 33 = .ok (.getfield 125, 3) := by decide +kernel
theorem dX6_certify_36 : decode cX6_certify 36 = .ok (.iload_n 1, 1) := by decide +kernel
theorem dX6_certify_37 : decode cX6_certify 37 = .ok (.iaload, 1) := by decide +kernel
theorem dX6_certify_38 : decode cX6_certify 38 = .ok (.ifCond .le 5, 3) := by decide +kernel
theorem dX6_certify_41 : decode cX6_certify 41 = .ok (.iconst 0, 1) := by decide +kernel
theorem dX6_certify_42 : decode cX6_certify 42 = .ok (.ireturn, 1) := by decide +kernel
theorem dX6_certify_43 : decode cX6_certify 43 = .ok (.aload_n 0, 1) := by decide +kernel
theorem dX6_certify_44 : decode cX6_certify 44 = .ok (.getfield 125, 3) := by decide +kernel
theorem dX6_certify_47 : decode cX6_certify 47 = .ok (.iload_n 1, 1) := by decide +kernel
theorem dX6_certify_48 : decode cX6_certify 48 = .ok (.iload_n 2, 1) := by decide +kernel
theorem dX6_certify_49 : decode cX6_certify 49 = .ok (.iastore, 1) := by decide +kernel
theorem dX6_certify_50 : decode cX6_certify 50 = .ok (.iconst 1, 1) := by decide +kernel
theorem dX6_certify_51 : decode cX6_certify 51 = .ok (.ireturn, 1) := by decide +kernel
