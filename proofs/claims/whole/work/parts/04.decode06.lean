set_option maxRecDepth 20000 in
theorem ggX6_place_X6_refused : GoodIn wsX6_place wsX6_refused := goodIn_r _ [10, 11, 12, 13, 14, 15, 16, 17, 18, 19, 20, 21, 22, 23, 24, 25, 26, 27, 28, 29, 30, 31, 32, 33, 34, 35, 36, 37, 38, 39, 40, 41, 42, 43] (by decide +kernel) (by decide +kernel)
set_option maxRecDepth 20000 in
theorem gX6_place_X6_refused : GoodIn wsX6_place (wsV RX6 184 RX6 yX6_refused wsX6_refused) := goodIn_app (goodIn_of _ (by decide +kernel)) ggX6_place_X6_refused
theorem dX6_place_0 : decode cX6_place 0 = .ok (.lload_n 1, 1) := by decide +kernel
theorem dX6_place_1 : decode cX6_place 1 = .ok (.lconst 0, 1) := by decide +kernel
theorem dX6_place_2 : decode cX6_place 2 = .ok (.lcmp, 1) := by decide +kernel
theorem dX6_place_3 : decode cX6_place 3 = .ok (.ifCond .lt 19, 3) := by decide +kernel
theorem dX6_place_6 : decode cX6_place 6 = .ok (.lload_n 3, 1) := by decide +kernel
theorem dX6_place_7 : decode cX6_place 7 = .ok (.aload_n 0, 1) := by decide +kernel
theorem dX6_place_8 : decode cX6_place 8 = .ok (.getfield 155, 3) := by decide +kernel
theorem dX6_place_11 : decode cX6_place 11 = .ok (.i2l, 1) := by decide +kernel
theorem dX6_place_12 : decode cX6_place 12 = .ok (.lcmp, 1) := by decide +kernel
theorem dX6_place_13 : decode cX6_place 13 = .ok (.ifCond .gt 9, 3) := by decide +kernel
theorem dX6_place_16 : decode cX6_place 16 = .ok (.lload_n 1, 1) := by decide +kernel
theorem dX6_place_17 : decode cX6_place 17 = .ok (.lload_n 3, 1) := by decide +kernel
theorem dX6_place_18 : decode cX6_place 18 = .ok (.lcmp, 1) := by decide +kernel
theorem dX6_place_19 : decode cX6_place 19 = .ok (.ifCond .lt 7, 3) := by decide +kernel
theorem dX6_place_22 : decode cX6_place 22 = .ok (.iconst 1, 1) := by decide +kernel
theorem dX6_place_23 : decode cX6_place 23 = .ok (.goto 4, 3) := by decide +kernel
theorem dX6_place_26 : decode cX6_place 26 = .ok (.iconst 0, 1) := by decide +kernel
theorem dX6_place_27 : decode cX6_place 27 = .ok (.istore 5, 2) := by decide +kernel
theorem dX6_place_29 : decode cX6_place 29 = .ok (.iconst 0, 1) := by decide +kernel
theorem dX6_place_30 : decode cX6_place 30 = .ok (.istore 6, 2) := by decide +kernel
theorem dX6_place_32 : decode cX6_place 32 = .ok (.iload 6, 2) := by decide +kernel
theorem dX6_place_34 : decode cX6_place 34 = .ok (.aload_n 0, 1) := by decide +kernel
theorem dX6_place_35 : decode cX6_place 35 = .ok (.getfield 188, 3) := by decide +kernel
theorem dX6_place_38 : decode cX6_place 38 = .ok (.if_icmp .ge 47, 3) := by decide +kernel
theorem dX6_place_41 : decode cX6_place 41 = .ok (.iload 5, 2) := by decide +kernel
theorem dX6_place_43 : decode cX6_place 43 = .ok (.ifCond .ne 29, 3) := by decide +kernel
theorem dX6_place_46 : decode cX6_place 46 = .ok (.lload_n 1, 1) := by decide +kernel
theorem dX6_place_47 : decode cX6_place 47 = .ok (.aload_n 0, 1) := by decide +kernel
theorem dX6_place_48 : decode cX6_place 48 = .ok (.getfield 84, 3) := by decide +kernel
theorem dX6_place_51 : decode cX6_place 51 = .ok (.iload 6, 2) := by decide +kernel
theorem dX6_place_53 : decode cX6_place 53 = .ok (.iaload, 1) := by decide +kernel
theorem dX6_place_54 : decode cX6_place 54 = .ok (.i2l, 1) := by decide +kernel
theorem dX6_place_55 : decode cX6_place 55 = .ok (.lcmp, 1) := by decide +kernel
theorem dX6_place_56 : decode cX6_place 56 = .ok (.ifCond .ge 20, 3) := by decide +kernel
theorem dX6_place_59 : decode cX6_place 59 = .ok (.lload_n 3, 1) := by decide +kernel
theorem dX6_place_60 : decode cX6_place 60 = .ok (.aload_n 0, 1) := by decide +kernel
theorem dX6_place_61 : decode cX6_place 61 = .ok (.getfield 81, 3) := by decide +kernel
theorem dX6_place_64 : decode cX6_place 64 = .ok (.iload 6, 2) := by decide +kernel
theorem dX6_place_66 : decode cX6_place 66 = .ok (.iaload, 1) := by decide +kernel
theorem dX6_place_67 : decode cX6_place 67 = .ok (.i2l, 1) := by decide +kernel
theorem dX6_place_68 : decode cX6_place 68 = .ok (.lcmp, 1) := by decide +kernel
theorem dX6_place_69 : decode cX6_place 69 = .ok (.ifCond .le 7, 3) := by decide +kernel
theorem dX6_place_72 : decode cX6_place 72 = .ok (.iconst 1, 1) := by decide +kernel
theorem dX6_place_73 : decode cX6_place 73 = .ok (.goto 4, 3) := by decide +kernel
theorem dX6_place_76 : decode cX6_place 76 = .ok (.iconst 0, 1) := by decide +kernel
theorem dX6_place_77 : decode cX6_place 77 = .ok (.istore 5, 2) := by decide +kernel
theorem dX6_place_79 : decode cX6_place 79 = .ok (.iinc 6 1, 3) := by decide +kernel
theorem dX6_place_82 : decode cX6_place 82 = .ok (.goto (-50), 3) := by decide +kernel
theorem dX6_place_85 : decode cX6_place 85 = .ok (.aload_n 0, 1) := by decide +kernel
theorem dX6_place_86 : decode cX6_place 86 = .ok (.iload 5, 2) := by decide +kernel
theorem dX6_place_88 : decode cX6_place 88 = .ok (.aload_n 0, 1) := by decide +kernel
theorem dX6_place_89 : decode cX6_place 89 = .ok (.getfield 188, 3) := by decide +kernel
theorem dX6_place_92 : decode cX6_place 92 = .ok (.bipush 8, 2) := by decide +kernel
theorem dX6_place_94 : decode cX6_place 94 = .ok (.if_icmp .ne 7, 3) := by decide +kernel
theorem dX6_place_97 : decode cX6_place 97 = .ok (.iconst 1, 1) := by decide +kernel
theorem dX6_place_98 : decode cX6_place 98 = .ok (.goto 4, 3) := by decide +kernel
theorem dX6_place_101 : decode cX6_place 101 = .ok (.iconst 0, 1) := by decide +kernel
theorem dX6_place_102 : decode cX6_place 102 = .ok (.iconst 0, 1) := by decide +kernel
theorem dX6_place_103 : decode cX6_place 103 = .ok (.invokevirtual 184, 3) := by decide +kernel
theorem dX6_place_106 : decode cX6_place 106 = .ok (.ifCond .eq 5, 3) := by decide +kernel
theorem dX6_place_109 : decode cX6_place 109 = .ok (.iconst 0, 1) := by decide +kernel
theorem dX6_place_110 : decode cX6_place 110 = .ok (.ireturn, 1) := by decide +kernel
theorem dX6_place_111 : decode cX6_place 111 = .ok (.aload_n 0, 1) := by decide +kernel
theorem dX6_place_112 : decode cX6_place 112 = .ok (.getfield 81, 3) := by decide +kernel
theorem dX6_place_115 : decode cX6_place 115 = .ok (.aload_n 0, 1) := by decide +kernel
theorem dX6_place_116 : decode cX6_place 116 = .ok (.getfield 188, 3) := by decide +kernel
theorem dX6_place_119 : decode cX6_place 119 = .ok (.lload_n 1, 1) := by decide +kernel
theorem dX6_place_120 : decode cX6_place 120 = .ok (.l2i, 1) := by decide +kernel
theorem dX6_place_121 : decode cX6_place 121 = .ok (.iastore, 1) := by decide +kernel
theorem dX6_place_122 : decode cX6_place 122 = .ok (.aload_n 0, 1) := by decide +kernel
theorem dX6_place_123 : decode cX6_place 123 = .ok (.getfield 84, 3) := by decide +kernel
theorem dX6_place_126 : decode cX6_place 126 = .ok (.aload_n 0, 1) := by decide +kernel
theorem dX6_place_127 : decode cX6_place 127 = .ok (.getfield 188, 3) := by decide +kernel
theorem dX6_place_130 : decode cX6_place 130 = .ok (.lload_n 3, 1) := by decide +kernel
theorem dX6_place_131 : decode cX6_place 131 = .ok (.l2i, 1) := by decide +kernel
theorem dX6_place_132 : decode cX6_place 132 = .ok (.iastore, 1) := by decide +kernel
theorem dX6_place_133 : decode cX6_place 133 = .ok (.aload_n 0, 1) := by decide +kernel
theorem dX6_place_134 : decode cX6_place 134 = .ok (.getfield 87, 3) := by decide +kernel
theorem dX6_place_137 : decode cX6_place 137 = .ok (.aload_n 0, 1) := by decide +kernel
theorem dX6_place_138 : decode cX6_place 138 = .ok (.getfield 188, 3) := by decide +kernel
theorem dX6_place_141 : decode cX6_place 141 = .ok (.iconst (-1), 1) := by decide +kernel
theorem dX6_place_142 : decode cX6_place 142 = .ok (.iastore, 1) := by decide +kernel
theorem dX6_place_143 : decode cX6_place 143 = .ok (.aload_n 0, 1) := by decide +kernel
theorem dX6_place_144 : decode cX6_place 144 = .ok (.dup, 1) := by decide +kernel
theorem dX6_place_145 : decode cX6_place 145 = .ok (.getfield 188, 3) := by decide +kernel
theorem dX6_place_148 : decode cX6_place 148 = .ok (.iconst 1, 1) := by decide +kernel
theorem dX6_place_149 : decode cX6_place 149 = .ok (.iadd, 1) := by decide +kernel
theorem dX6_place_150 : decode cX6_place 150 = .ok (.putfield 188, 3) := by decide +kernel
theorem dX6_place_153 : decode cX6_place 153 = .ok (.aload_n 0, 1) := by decide +kernel
theorem dX6_place_154 : decode cX6_place 154 = .ok (.getfield 188, 3) := by decide +kernel
theorem dX6_place_157 : decode cX6_place 157 = .ok (.iconst 1, 1) := by decide +kernel
theorem dX6_place_158 : decode cX6_place 158 = .ok (.isub, 1) := by decide +kernel
theorem dX6_place_159 : decode cX6_place 159 = .ok (.ireturn, 1) := by decide +kernel
set_option maxRecDepth 20000 in
theorem ggX6_sign_X6_refused : GoodIn wsX6_sign wsX6_refused := goodIn_r _ [21, 22, 61, 62, 63, 64, 65, 66, 67, 68, 69, 70, 71, 72, 73, 74, 75, 76, 77, 78, 79, 80, 81, 82, 83, 84, 85, 86, 87, 88, 89, 90, 91, 92] (by decide +kernel) (by decide +kernel)
set_option maxRecDepth 20000 in
theorem gX6_sign_X6_refused : GoodIn wsX6_sign (wsV RX6 184 RX6 yX6_refused wsX6_refused) := goodIn_app (goodIn_of _ (by decide +kernel)) ggX6_sign_X6_refused
set_option maxRecDepth 20000 in
theorem ggX6_sign_X6_note : GoodIn wsX6_sign wsX6_note := goodIn_ca (goodIn_r _ [26, 27, 5, 28, 61, 62, 63, 64, 65, 66, 67, 68, 69, 70, 71, 72, 73, 74, 75, 76, 77, 78, 79, 80, 81, 82, 83, 84, 85, 86, 87, 88, 89, 90, 91, 92] (by decide +kernel) (by decide +kernel)) (goodIn_sub (fun _ h => List.mem_cons_of_mem _ (List.mem_append_right _ h)) (by decide +kernel))
set_option maxRecDepth 20000 in
theorem gX6_sign_X6_note : GoodIn wsX6_sign (wsV RX6 194 RX6 yX6_note wsX6_note) := goodIn_app (goodIn_of _ (by decide +kernel)) ggX6_sign_X6_note
set_option maxRecDepth 20000 in
theorem ggX6_sign_X6_reckon : GoodIn wsX6_sign wsX6_reckon := goodIn_ca (goodIn_r _ [32, 33, 34, 35, 36, 37, 38, 39, 40, 41, 42, 43, 44, 45, 20, 46, 47, 48, 49, 50, 51, 52, 53, 54, 55, 56, 61, 62, 63, 64, 65, 66, 67, 68, 69, 70, 71, 72, 73, 74, 75, 76, 77, 78, 79, 80, 81, 82, 83, 84, 85, 86, 87, 88, 89, 90, 91, 92] (by decide +kernel) (by decide +kernel)) (goodIn_sub (fun _ h => List.mem_cons_of_mem _ (List.mem_append_right _ h)) (by decide +kernel))
set_option maxRecDepth 20000 in
theorem gX6_sign_X6_reckon : GoodIn wsX6_sign (wsV RX6 198 RX6 yX6_reckon wsX6_reckon) := goodIn_app (goodIn_of _ (by decide +kernel)) ggX6_sign_X6_reckon
set_option maxRecDepth 20000 in
theorem ggX6_sign_X6_keepSum : GoodIn wsX6_sign wsX6_keepSum := goodIn_ca (goodIn_r _ [60, 33, 61, 62, 63, 64, 65, 66, 67, 68, 69, 70, 71, 72, 73, 74, 75, 76, 77, 78, 79, 80, 81, 82, 83, 84, 85, 86, 87, 88, 89, 90, 91, 92] (by decide +kernel) (by decide +kernel)) (goodIn_sub (fun _ h => List.mem_cons_of_mem _ (List.mem_append_right _ h)) (by decide +kernel))
set_option maxRecDepth 20000 in
theorem gX6_sign_X6_keepSum : GoodIn wsX6_sign (wsV RX6 202 RX6 yX6_keepSum wsX6_keepSum) := goodIn_app (goodIn_of _ (by decide +kernel)) ggX6_sign_X6_keepSum
theorem dX6_sign_0 : decode cX6_sign 0 = .ok (.iconst (-1), 1) := by decide +kernel
theorem dX6_sign_1 : decode cX6_sign 1 = .ok (.istore 5, 2) := by decide +kernel
theorem dX6_sign_3 : decode cX6_sign 3 = .ok (.iconst 0, 1) := by decide +kernel
theorem dX6_sign_4 : decode cX6_sign 4 = .ok (.istore 6, 2) := by decide +kernel
theorem dX6_sign_6 : decode cX6_sign 6 = .ok (.iload 6, 2) := by decide +kernel
theorem dX6_sign_8 : decode cX6_sign 8 = .ok (.aload_n 0, 1) := by decide +kernel
theorem dX6_sign_9 : decode cX6_sign 9 = .ok (.getfield 188, 3) := by decide +kernel
theorem dX6_sign_12 : decode cX6_sign 12 = .ok (.if_icmp .ge 29, 3) := by decide +kernel
theorem dX6_sign_15 : decode cX6_sign 15 = .ok (.aload_n 0, 1) := by decide +kernel
theorem dX6_sign_16 : decode cX6_sign 16 = .ok (.getfield 87, 3) := by decide +kernel
theorem dX6_sign_19 : decode cX6_sign 19 = .ok (.iload 6, 2) := by decide +kernel
theorem dX6_sign_21 : decode cX6_sign 21 = .ok (.iaload, 1) := by decide +kernel
theorem dX6_sign_22 : decode cX6_sign 22 = .ok (.iconst (-1), 1) := by decide +kernel
theorem dX6_sign_23 : decode cX6_sign 23 = .ok (.if_icmp .ne 8, 3) := by decide +kernel
theorem dX6_sign_26 : decode cX6_sign 26 = .ok (.iload 6, 2) := by decide +kernel
theorem dX6_sign_28 : decode cX6_sign 28 = .ok (.goto 5, 3) := by decide +kernel
theorem dX6_sign_31 : decode cX6_sign 31 = .ok (.iload 5, 2) := by decide +kernel
theorem dX6_sign_33 : decode cX6_sign 33 = .ok (.istore 5, 2) := by decide +kernel
theorem dX6_sign_35 : decode cX6_sign 35 = .ok (.iinc 6 1, 3) := by decide +kernel
theorem dX6_sign_38 : decode cX6_sign 38 = .ok (.goto (-32), 3) := by decide +kernel
theorem dX6_sign_41 : decode cX6_sign 41 = .ok (.iconst 0, 1) := by decide +kernel
theorem dX6_sign_42 : decode cX6_sign 42 = .ok (.istore 6, 2) := by decide +kernel
theorem dX6_sign_44 : decode cX6_sign 44 = .ok (.iconst 0, 1) := by decide +kernel
theorem dX6_sign_45 : decode cX6_sign 45 = .ok (.istore 7, 2) := by decide +kernel
theorem dX6_sign_47 : decode cX6_sign 47 = .ok (.iload 7, 2) := by decide +kernel
theorem dX6_sign_49 : decode cX6_sign 49 = .ok (.aload_n 0, 1) := by decide +kernel
theorem dX6_sign_50 : decode cX6_sign 50 = .ok (.getfield 162, 3) := by decide +kernel
theorem dX6_sign_53 : decode cX6_sign 53 = .ok (.if_icmp .ge 32, 3) := by decide +kernel
theorem dX6_sign_56 : decode cX6_sign 56 = .ok (.iload 6, 2) := by decide +kernel
theorem dX6_sign_58 : decode cX6_sign 58 = .ok (.ifCond .ne 14, 3) := by decide +kernel
theorem dX6_sign_61 : decode cX6_sign 61 = .ok (.aload_n 0, 1) := by decide +kernel
theorem dX6_sign_62 : decode cX6_sign 62 = .ok (.getfield 90, 3) := by decide +kernel
theorem dX6_sign_65 : decode cX6_sign 65 = .ok (.iload 7, 2) := by decide +kernel
theorem dX6_sign_67 : decode cX6_sign 67 = .ok (.iaload, 1) := by decide +kernel
theorem dX6_sign_68 : decode cX6_sign 68 = .ok (.iload_n 1, 1) := by decide +kernel
theorem dX6_sign_69 : decode cX6_sign 69 = .ok (.if_icmp .ne 7, 3) := by decide +kernel
theorem dX6_sign_72 : decode cX6_sign 72 = .ok (.iconst 1, 1) := by decide +kernel
theorem dX6_sign_73 : decode cX6_sign 73 = .ok (.goto 4, 3) := by decide +kernel
theorem dX6_sign_76 : decode cX6_sign 76 = .ok (.iconst 0, 1) := by decide +kernel
theorem dX6_sign_77 : decode cX6_sign 77 = .ok (.istore 6, 2) := by decide +kernel
theorem dX6_sign_79 : decode cX6_sign 79 = .ok (.iinc 7 1, 3) := by decide +kernel
theorem dX6_sign_82 : decode cX6_sign 82 = .ok (.goto (-35), 3) := by decide +kernel
theorem dX6_sign_85 : decode cX6_sign 85 = .ok (.aload_n 0, 1) := by decide +kernel
theorem dX6_sign_86 : decode cX6_sign 86 = .ok (.getfield 162, 3) := by decide +kernel
theorem dX6_sign_89 : decode cX6_sign 89 = .ok (.bipush 8, 2) := by decide +kernel
theorem dX6_sign_91 : decode cX6_sign 91 = .ok (.if_icmp .eq 19, 3) := by decide +kernel
theorem dX6_sign_94 : decode cX6_sign 94 = .ok (.aload_n 0, 1) := by decide +kernel
theorem dX6_sign_95 : decode cX6_sign 95 = .ok (.getfield 162, 3) := by decide +kernel
theorem dX6_sign_98 : decode cX6_sign 98 = .ok (.ifCond .le 16, 3) := by decide +kernel
theorem dX6_sign_101 : decode cX6_sign 101 = .ok (.aload_n 0, 1) := by decide +kernel
theorem dX6_sign_102 : decode cX6_sign 102 = .ok (.getfield 191, 3) := by decide +kernel
theorem dX6_sign_105 : decode cX6_sign 105 = .ok (.bipush 40, 2) := by decide +kernel
theorem dX6_sign_107 : decode cX6_sign 107 = .ok (.if_icmp .ne 7, 3) := by decide +kernel
theorem dX6_sign_110 : decode cX6_sign 110 = .ok (.iconst 1, 1) := by decide +kernel
theorem dX6_sign_111 : decode cX6_sign 111 = .ok (.goto 4, 3) := by decide +kernel
theorem dX6_sign_114 : decode cX6_sign 114 = .ok (.iconst 0, 1) := by decide +kernel
theorem dX6_sign_115 : decode cX6_sign 115 = .ok (.istore 7, 2) := by decide +kernel
theorem dX6_sign_117 : decode cX6_sign 117 = .ok (.aload_n 0, 1) := by decide +kernel
theorem dX6_sign_118 : decode cX6_sign 118 = .ok (.iload_n 1, 1) := by decide +kernel
theorem dX6_sign_119 : decode cX6_sign 119 = .ok (.ifCond .lt 15, 3) := by decide +kernel
theorem dX6_sign_122 : decode cX6_sign 122 = .ok (.iload_n 1, 1) := by decide +kernel
theorem dX6_sign_123 : decode cX6_sign 123 = .ok (.bipush 19, 2) := by decide +kernel
theorem dX6_sign_125 : decode cX6_sign 125 = .ok (.if_icmp .gt 9, 3) := by decide +kernel
theorem dX6_sign_128 : decode cX6_sign 128 = .ok (.lload_n 3, 1) := by decide +kernel
theorem dX6_sign_129 : decode cX6_sign 129 = .ok (.lconst 0, 1) := by decide +kernel
theorem dX6_sign_130 : decode cX6_sign 130 = .ok (.lcmp, 1) := by decide +kernel
theorem dX6_sign_131 : decode cX6_sign 131 = .ok (.ifCond .ge 7, 3) := by decide +kernel
theorem dX6_sign_134 : decode cX6_sign 134 = .ok (.iconst 1, 1) := by decide +kernel
theorem dX6_sign_135 : decode cX6_sign 135 = .ok (.goto 4, 3) := by decide +kernel
theorem dX6_sign_138 : decode cX6_sign 138 = .ok (.iconst 0, 1) := by decide +kernel
theorem dX6_sign_139 : decode cX6_sign 139 = .ok (.iload 5, 2) := by decide +kernel
theorem dX6_sign_141 : decode cX6_sign 141 = .ok (.iconst (-1), 1) := by decide +kernel
theorem dX6_sign_142 : decode cX6_sign 142 = .ok (.if_icmp .eq 8, 3) := by decide +kernel
theorem dX6_sign_145 : decode cX6_sign 145 = .ok (.iload 6, 2) := by decide +kernel
theorem dX6_sign_147 : decode cX6_sign 147 = .ok (.ifCond .eq 7, 3) := by decide +kernel
theorem dX6_sign_150 : decode cX6_sign 150 = .ok (.iconst 1, 1) := by decide +kernel
theorem dX6_sign_151 : decode cX6_sign 151 = .ok (.goto 4, 3) := by decide +kernel
theorem dX6_sign_154 : decode cX6_sign 154 = .ok (.iconst 0, 1) := by decide +kernel
theorem dX6_sign_155 : decode cX6_sign 155 = .ok (.iload 7, 2) := by decide +kernel
theorem dX6_sign_157 : decode cX6_sign 157 = .ok (.invokevirtual 184, 3) := by decide +kernel
theorem dX6_sign_160 : decode cX6_sign 160 = .ok (.ifCond .eq 5, 3) := by decide +kernel
theorem dX6_sign_163 : decode cX6_sign 163 = .ok (.iconst 0, 1) := by decide +kernel
theorem dX6_sign_164 : decode cX6_sign 164 = .ok (.ireturn, 1) := by decide +kernel
theorem dX6_sign_165 : decode cX6_sign 165 = .ok (.aload_n 0, 1) := by decide +kernel
theorem dX6_sign_166 : decode cX6_sign 166 = .ok (.getfield 162, 3) := by decide +kernel
theorem dX6_sign_169 : decode cX6_sign 169 = .ok (.ifCond .le 9, 3) := by decide +kernel
theorem dX6_sign_172 : decode cX6_sign 172 = .ok (.aload_n 0, 1) := by decide +kernel
theorem dX6_sign_173 : decode cX6_sign 173 = .ok (.iconst 0, 1) := by decide +kernel
theorem dX6_sign_174 : decode cX6_sign 174 = .ok (.iload_n 1, 1) := by decide +kernel
theorem dX6_sign_175 : decode cX6_sign 175 = .ok (.invokevirtual 194, 3) := by decide +kernel
theorem dX6_sign_178 : decode cX6_sign 178 = .ok (.aload_n 0, 1) := by decide +kernel
theorem dX6_sign_179 : decode cX6_sign 179 = .ok (.getfield 162, 3) := by decide +kernel
theorem dX6_sign_182 : decode cX6_sign 182 = .ok (.istore 8, 2) := by decide +kernel
theorem dX6_sign_184 : decode cX6_sign 184 = .ok (.aload_n 0, 1) := by decide +kernel
theorem dX6_sign_185 : decode cX6_sign 185 = .ok (.getfield 87, 3) := by decide +kernel
theorem dX6_sign_188 : decode cX6_sign 188 = .ok (.iload 5, 2) := by decide +kernel
theorem dX6_sign_190 : decode cX6_sign 190 = .ok (.iload 8, 2) := by decide +kernel
theorem dX6_sign_192 : decode cX6_sign 192 = .ok (.iastore, 1) := by decide +kernel
theorem dX6_sign_193 : decode cX6_sign 193 = .ok (.aload_n 0, 1) := by decide +kernel
theorem dX6_sign_194 : decode cX6_sign 194 = .ok (.getfield 90, 3) := by decide +kernel
theorem dX6_sign_197 : decode cX6_sign 197 = .ok (.iload 8, 2) := by decide +kernel
theorem dX6_sign_199 : decode cX6_sign 199 = .ok (.iload_n 1, 1) := by decide +kernel
theorem dX6_sign_200 : decode cX6_sign 200 = .ok (.iastore, 1) := by decide +kernel
theorem dX6_sign_201 : decode cX6_sign 201 = .ok (.aload_n 0, 1) := by decide +kernel
theorem dX6_sign_202 : decode cX6_sign 202 = .ok (.getfield 93, 3) := by decide +kernel
theorem dX6_sign_205 : decode cX6_sign 205 = .ok (.iload 8, 2) := by decide +kernel
theorem dX6_sign_207 : decode cX6_sign 207 = .ok (.iload_n 2, 1) := by decide +kernel
theorem dX6_sign_208 : decode cX6_sign 208 = .ok (.bastore, 1) := by decide +kernel
theorem dX6_sign_209 : decode cX6_sign 209 = .ok (.aload_n 0, 1) := by decide +kernel
theorem dX6_sign_210 : decode cX6_sign 210 = .ok (.getfield 97, 3) := by decide +kernel
theorem dX6_sign_213 : decode cX6_sign 213 = .ok (.iload 8, 2) := by decide +kernel
theorem dX6_sign_215 : decode cX6_sign 215 = .ok (.lload_n 3, 1) := by decide +kernel
theorem dX6_sign_216 : decode cX6_sign 216 = .ok (.lastore, 1) := by decide +kernel
theorem dX6_sign_217 : decode cX6_sign 217 = .ok (.aload_n 0, 1) := by decide +kernel
theorem dX6_sign_218 : decode cX6_sign 218 = .ok (.getfield 101, 3) := by decide +kernel
theorem dX6_sign_221 : decode cX6_sign 221 = .ok (.iload 8, 2) := by decide +kernel
theorem dX6_sign_223 : decode cX6_sign 223 = .ok (.iload 5, 2) := by decide +kernel
theorem dX6_sign_225 : decode cX6_sign 225 = .ok (.iastore, 1) := by decide +kernel
theorem dX6_sign_226 : decode cX6_sign 226 = .ok (.aload_n 0, 1) := by decide +kernel
theorem dX6_sign_227 : decode cX6_sign 227 = .ok (.getfield 104, 3) := by decide +kernel
theorem dX6_sign_230 : decode cX6_sign 230 = .ok (.iload 8, 2) := by decide +kernel
theorem dX6_sign_232 : decode cX6_sign 232 = .ok (.aload_n 0, 1) := by decide +kernel
theorem dX6_sign_233 : decode cX6_sign 233 = .ok (.getfield 155, 3) := by decide +kernel
theorem dX6_sign_236 : decode cX6_sign 236 = .ok (.iastore, 1) := by decide +kernel
theorem dX6_sign_237 : decode cX6_sign 237 = .ok (.aload_n 0, 1) := by decide +kernel
theorem dX6_sign_238 : decode cX6_sign 238 = .ok (.getfield 107, 3) := by decide +kernel
theorem dX6_sign_241 : decode cX6_sign 241 = .ok (.iconst 4, 1) := by decide +kernel
theorem dX6_sign_242 : decode cX6_sign 242 = .ok (.iload 8, 2) := by decide +kernel
theorem dX6_sign_244 : decode cX6_sign 244 = .ok (.imul, 1) := by decide +kernel
theorem dX6_sign_245 : decode cX6_sign 245 = .ok (.lconst 0, 1) := by decide +kernel
theorem dX6_sign_246 : decode cX6_sign 246 = .ok (.lastore, 1) := by decide +kernel
theorem dX6_sign_247 : decode cX6_sign 247 = .ok (.aload_n 0, 1) := by decide +kernel
theorem dX6_sign_248 : decode cX6_sign 248 = .ok (.getfield 107, 3) := by decide +kernel
theorem dX6_sign_251 : decode cX6_sign 251 = .ok (.iconst 4, 1) := by decide +kernel
theorem dX6_sign_252 : decode cX6_sign 252 = .ok (.iload 8, 2) := by decide +kernel
theorem dX6_sign_254 : decode cX6_sign 254 = .ok (.imul, 1) := by decide +kernel
theorem dX6_sign_255 : decode cX6_sign 255 = .ok (.iconst 1, 1) := by decide +kernel
theorem dX6_sign_256 : decode cX6_sign 256 = .ok (.iadd, 1) := by decide +kernel
theorem dX6_sign_257 : decode cX6_sign 257 = .ok (.aload_n 0, 1) := by decide +kernel
theorem dX6_sign_258 : decode cX6_sign 258 = .ok (.getfield 81, 3) := by decide +kernel
theorem dX6_sign_261 : decode cX6_sign 261 = .ok (.iload 5, 2) := by decide +kernel
theorem dX6_sign_263 : decode cX6_sign 263 = .ok (.iaload, 1) := by decide +kernel
theorem dX6_sign_264 : decode cX6_sign 264 = .ok (.i2l, 1) := by decide +kernel
theorem dX6_sign_265 : decode cX6_sign 265 = .ok (.lastore, 1) := by decide +kernel
theorem dX6_sign_266 : decode cX6_sign 266 = .ok (.aload_n 0, 1) := by decide +kernel
theorem dX6_sign_267 : decode cX6_sign 267 = .ok (.getfield 107, 3) := by decide +kernel
theorem dX6_sign_270 : decode cX6_sign 270 = .ok (.iconst 4, 1) := by decide +kernel
theorem dX6_sign_271 : decode cX6_sign 271 = .ok (.iload 8, 2) := by decide +kernel
theorem dX6_sign_273 : decode cX6_sign 273 = .ok (.imul, 1) := by decide +kernel
theorem dX6_sign_274 : decode cX6_sign 274 = .ok (.iconst 2, 1) := by decide +kernel
theorem dX6_sign_275 : decode cX6_sign 275 = .ok (.iadd, 1) := by decide +kernel
theorem dX6_sign_276 : decode cX6_sign 276 = .ok (.aload_n 0, 1) := by decide +kernel
theorem dX6_sign_277 : decode cX6_sign 277 = .ok (.getfield 84, 3) := by decide +kernel
theorem dX6_sign_280 : decode cX6_sign 280 = .ok (.iload 5, 2) := by decide +kernel
theorem dX6_sign_282 : decode cX6_sign 282 = .ok (.iaload, 1) := by decide +kernel
theorem dX6_sign_283 : decode cX6_sign 283 = .ok (.i2l, 1) := by decide +kernel
theorem dX6_sign_284 : decode cX6_sign 284 = .ok (.lastore, 1) := by decide +kernel
theorem dX6_sign_285 : decode cX6_sign 285 = .ok (.aload_n 0, 1) := by decide +kernel
theorem dX6_sign_286 : decode cX6_sign 286 = .ok (.getfield 107, 3) := by decide +kernel
theorem dX6_sign_289 : decode cX6_sign 289 = .ok (.iconst 4, 1) := by decide +kernel
theorem dX6_sign_290 : decode cX6_sign 290 = .ok (.iload 8, 2) := by decide +kernel
theorem dX6_sign_292 : decode cX6_sign 292 = .ok (.imul, 1) := by decide +kernel
theorem dX6_sign_293 : decode cX6_sign 293 = .ok (.iconst 3, 1) := by decide +kernel
theorem dX6_sign_294 : decode cX6_sign 294 = .ok (.iadd, 1) := by decide +kernel
theorem dX6_sign_295 : decode cX6_sign 295 = .ok (.aload_n 0, 1) := by decide +kernel
theorem dX6_sign_296 : decode cX6_sign 296 = .ok (.getfield 155, 3) := by decide +kernel
theorem dX6_sign_299 : decode cX6_sign 299 = .ok (.i2l, 1) := by decide +kernel
theorem dX6_sign_300 : decode cX6_sign 300 = .ok (.lastore, 1) := by decide +kernel
theorem dX6_sign_301 : decode cX6_sign 301 = .ok (.aload_n 0, 1) := by decide +kernel
theorem dX6_sign_302 : decode cX6_sign 302 = .ok (.getfield 119, 3) := by decide +kernel
theorem dX6_sign_305 : decode cX6_sign 305 = .ok (.iload 8, 2) := by decide +kernel
theorem dX6_sign_307 : decode cX6_sign 307 = .ok (.bipush 15, 2) := by decide +kernel
theorem dX6_sign_309 : decode cX6_sign 309 = .ok (.iastore, 1) := by decide +kernel
theorem dX6_sign_310 : decode cX6_sign 310 = .ok (.aload_n 0, 1) := by decide +kernel
theorem dX6_sign_311 : decode cX6_sign 311 = .ok (.getfield 128, 3) := by decide +kernel
theorem dX6_sign_314 : decode cX6_sign 314 = .ok (.iload 8, 2) := by decide +kernel
theorem dX6_sign_316 : decode cX6_sign 316 = .ok (.aload_n 0, 1) := by decide +kernel
theorem dX6_sign_317 : decode cX6_sign 317 = .ok (.getfield 191, 3) := by decide +kernel
theorem dX6_sign_320 : decode cX6_sign 320 = .ok (.iastore, 1) := by decide +kernel
theorem dX6_sign_321 : decode cX6_sign 321 = .ok (.aload_n 0, 1) := by decide +kernel
theorem dX6_sign_322 : decode cX6_sign 322 = .ok (.aload_n 0, 1) := by decide +kernel
theorem dX6_sign_323 : decode cX6_sign 323 = .ok (.getfield 81, 3) := by decide +kernel
theorem dX6_sign_326 : decode cX6_sign 326 = .ok (.iload 5, 2) := by decide +kernel
theorem dX6_sign_328 : decode cX6_sign 328 = .ok (.iaload, 1) := by decide +kernel
theorem dX6_sign_329 : decode cX6_sign 329 = .ok (.aload_n 0, 1) := by decide +kernel
theorem dX6_sign_330 : decode cX6_sign 330 = .ok (.getfield 84, 3) := by decide +kernel
theorem dX6_sign_333 : decode cX6_sign 333 = .ok (.iload 5, 2) := by decide +kernel
theorem dX6_sign_335 : decode cX6_sign 335 = .ok (.iaload, 1) := by decide +kernel
theorem dX6_sign_336 : decode cX6_sign 336 = .ok (.aload_n 0, 1) := by decide +kernel
theorem dX6_sign_337 : decode cX6_sign 337 = .ok (.getfield 155, 3) := by decide +kernel
theorem dX6_sign_340 : decode cX6_sign 340 = .ok (.invokevirtual 198, 3) := by decide +kernel
theorem dX6_sign_343 : decode cX6_sign 343 = .ok (.aload_n 0, 1) := by decide +kernel
theorem dX6_sign_344 : decode cX6_sign 344 = .ok (.aload_n 0, 1) := by decide +kernel
theorem dX6_sign_345 : decode cX6_sign 345 = .ok (.getfield 110, 3) := by decide +kernel
theorem dX6_sign_348 : decode cX6_sign 348 = .ok (.bipush 8, 2) := by decide +kernel
theorem dX6_sign_350 : decode cX6_sign 350 = .ok (.iload 8, 2) := by decide +kernel
theorem dX6_sign_352 : decode cX6_sign 352 = .ok (.imul, 1) := by decide +kernel
theorem dX6_sign_353 : decode cX6_sign 353 = .ok (.invokevirtual 202, 3) := by decide +kernel
theorem dX6_sign_356 : decode cX6_sign 356 = .ok (.aload_n 0, 1) := by decide +kernel
theorem dX6_sign_357 : decode cX6_sign 357 = .ok (.dup, 1) := by decide +kernel
theorem dX6_sign_358 : decode cX6_sign 358 = .ok (.getfield 162, 3) := by decide +kernel
theorem dX6_sign_361 : decode cX6_sign 361 = .ok (.iconst 1, 1) := by decide +kernel
theorem dX6_sign_362 : decode cX6_sign 362 = .ok (.iadd, 1) := by decide +kernel
theorem dX6_sign_363 : decode cX6_sign 363 = .ok (.putfield 162, 3) := by decide +kernel
theorem dX6_sign_366 : decode cX6_sign 366 = .ok (.iload 8, 2) := by decide +kernel
theorem dX6_sign_368 : decode cX6_sign 368 = .ok (.ireturn, 1) := by decide +kernel
theorem dX6_isChained_0 : decode cX6_isChained 0 = .ok (.aload_n 0, 1) := by decide +kernel
theorem dX6_isChained_1 : decode cX6_isChained 1 = .ok (.getfield 113, 3) := by decide +kernel
theorem dX6_isChained_4 : decode cX6_isChained 4 = .ok (.iload_n 1, 1) := by decide +kernel
theorem dX6_isChained_5 : decode cX6_isChained 5 = .ok (.iaload, 1) := by decide +kernel
theorem dX6_isChained_6 : decode cX6_isChained 6 = .ok (.ifCond .le 7, 3) := by decide +kernel
theorem dX6_isChained_9 : decode cX6_isChained 9 = .ok (.iconst 1, 1) := by decide +kernel
theorem dX6_isChained_10 : decode cX6_isChained 10 = .ok (.goto 4, 3) := by decide +kernel
theorem dX6_isChained_13 : decode cX6_isChained 13 = .ok (.iconst 0, 1) := by decide +kernel
theorem dX6_isChained_14 : decode cX6_isChained 14 = .ok (.istore_n 2, 1) := by decide +kernel
theorem dX6_isChained_15 : decode cX6_isChained 15 = .ok (.iconst 0, 1) := by decide +kernel
theorem dX6_isChained_16 : decode cX6_isChained 16 = .ok (.istore_n 3, 1) := by decide +kernel
theorem dX6_isChained_17 : decode cX6_isChained 17 = .ok (.iload_n 3, 1) := by decide +kernel
theorem dX6_isChained_18 : decode cX6_isChained 18 = .ok (.aload_n 0, 1) := by decide +kernel
theorem dX6_isChained_19 : decode cX6_isChained 19 = .ok (.getfield 113, 3) := by decide +kernel
theorem dX6_isChained_22 : decode cX6_isChained 22 = .ok (.iload_n 1, 1) := by decide +kernel
theorem dX6_isChained_23 : decode cX6_isChained 23 = .ok (.iaload, 1) := by decide +kernel
theorem dX6_isChained_24 : decode cX6_isChained 24 = .ok (.if_icmp .ge 67, 3) := by decide +kernel
theorem dX6_isChained_27 : decode cX6_isChained 27 = .ok (.iload_n 2, 1) := by decide +kernel
theorem dX6_isChained_28 : decode cX6_isChained 28 = .ok (.ifCond .eq 55, 3) := by decide +kernel
theorem dX6_isChained_31 : decode cX6_isChained 31 = .ok (.aload_n 0, 1) := by decide +kernel
theorem dX6_isChained_32 : decode cX6_isChained 32 = .ok (.getfield 116, 3) := by decide +kernel
theorem dX6_isChained_35 : decode cX6_isChained 35 = .ok (.bipush 8, 2) := by decide +kernel
theorem dX6_isChained_37 : decode cX6_isChained 37 = .ok (.iload_n 1, 1) := by decide +kernel
theorem dX6_isChained_38 : decode cX6_isChained 38 = .ok (.imul, 1) := by decide +kernel
theorem dX6_isChained_39 : decode cX6_isChained 39 = .ok (.iconst 2, 1) := by decide +kernel
theorem dX6_isChained_40 : decode cX6_isChained 40 = .ok (.iload_n 3, 1) := by decide +kernel
theorem dX6_isChained_41 : decode cX6_isChained 41 = .ok (.imul, 1) := by decide +kernel
theorem dX6_isChained_42 : decode cX6_isChained 42 = .ok (.iadd, 1) := by decide +kernel
theorem dX6_isChained_43 : decode cX6_isChained 43 = .ok (.laload, 1) := by decide +kernel
theorem dX6_isChained_44 : decode cX6_isChained 44 = .ok (.aload_n 0, 1) := by decide +kernel
theorem dX6_isChained_45 : decode cX6_isChained 45 = .ok (.getfield 97, 3) := by decide +kernel
theorem dX6_isChained_48 : decode cX6_isChained 48 = .ok (.iload_n 1, 1) := by decide +kernel
theorem dX6_isChained_49 : decode cX6_isChained 49 = .ok (.laload, 1) := by decide +kernel
theorem dX6_isChained_50 : decode cX6_isChained 50 = .ok (.lcmp, 1) := by decide +kernel
theorem dX6_isChained_51 : decode cX6_isChained 51 = .ok (.ifCond .gt 32, 3) := by decide +kernel
theorem dX6_isChained_54 : decode cX6_isChained 54 = .ok (.aload_n 0, 1) := by decide +kernel
theorem dX6_isChained_55 : decode cX6_isChained 55 = .ok (.getfield 97, 3) := by decide +kernel
theorem dX6_isChained_58 : decode cX6_isChained 58 = .ok (.iload_n 1, 1) := by decide +kernel
theorem dX6_isChained_59 : decode cX6_isChained 59 = .ok (.laload, 1) := by decide +kernel
theorem dX6_isChained_60 : decode cX6_isChained 60 = .ok (.aload_n 0, 1) := by decide +kernel
theorem dX6_isChained_61 : decode cX6_isChained 61 = .ok (.getfield 116, 3) := by decide +kernel
theorem dX6_isChained_64 : decode cX6_isChained 64 = .ok (.bipush 8, 2) := by decide +kernel
theorem dX6_isChained_66 : decode cX6_isChained 66 = .ok (.iload_n 1, 1) := by decide +kernel
theorem dX6_isChained_67 : decode cX6_isChained 67 = .ok (.imul, 1) := by decide +kernel
theorem dX6_isChained_68 : decode cX6_isChained 68 = .ok (.iconst 2, 1) := by decide +kernel
theorem dX6_isChained_69 : decode cX6_isChained 69 = .ok (.iload_n 3, 1) := by decide +kernel
theorem dX6_isChained_70 : decode cX6_isChained 70 = .ok (.imul, 1) := by decide +kernel
theorem dX6_isChained_71 : decode cX6_isChained 71 = .ok (.iadd, 1) := by decide +kernel
theorem dX6_isChained_72 : decode cX6_isChained 72 = .ok (.iconst 1, 1) := by decide +kernel
theorem dX6_isChained_73 : decode cX6_isChained 73 = .ok (.iadd, 1) := by decide +kernel
theorem dX6_isChained_74 : decode cX6_isChained 74 = .ok (.laload, 1) := by decide +kernel
theorem dX6_isChained_75 : decode cX6_isChained 75 = .ok (.lcmp, 1) := by decide +kernel
theorem dX6_isChained_76 : decode cX6_isChained 76 = .ok (.ifCond .gt 7, 3) := by decide +kernel
theorem dX6_isChained_79 : decode cX6_isChained 79 = .ok (.iconst 1, 1) := by decide +kernel
theorem dX6_isChained_80 : decode cX6_isChained 80 = .ok (.goto 4, 3) := by decide +kernel
theorem dX6_isChained_83 : decode cX6_isChained 83 = .ok (.iconst 0, 1) := by decide +kernel
theorem dX6_isChained_84 : decode cX6_isChained 84 = .ok (.istore_n 2, 1) := by decide +kernel
theorem dX6_isChained_85 : decode cX6_isChained 85 = .ok (.iinc 3 1, 3) := by decide +kernel
theorem dX6_isChained_88 : decode cX6_isChained 88 = .ok (.goto (-71), 3) := by decide +kernel
theorem dX6_isChained_91 : decode cX6_isChained 91 = .ok (.iload_n 2, 1) := by decide +kernel
theorem dX6_isChained_92 : decode cX6_isChained 92 = .ok (.ireturn, 1) := by decide +kernel
theorem dX6_mayBe_0 : decode cX6_mayBe 0 = .ok (.aload_n 0, 1) := by decide +kernel
theorem dX6_mayBe_1 : decode cX6_mayBe 1 = .ok (.getfield 119, 3) := by decide +kernel
theorem dX6_mayBe_4 : decode cX6_mayBe 4 = .ok (.iload_n 1, 1) := by decide +kernel
theorem dX6_mayBe_5 : decode cX6_mayBe 5 = .ok (.iaload, 1) := by decide +kernel
theorem dX6_mayBe_6 : decode cX6_mayBe 6 = .ok (.iload_n 2, 1) := by decide +kernel
theorem dX6_mayBe_7 : decode cX6_mayBe 7 = .ok (.ishr, 1) := by decide +kernel
theorem dX6_mayBe_8 : decode cX6_mayBe 8 = .ok (.iconst 1, 1) := by decide +kernel
theorem dX6_mayBe_9 : decode cX6_mayBe 9 = .ok (.iand, 1) := by decide +kernel
theorem dX6_mayBe_10 : decode cX6_mayBe 10 = .ok (.iconst 1, 1) := by decide +kernel
theorem dX6_mayBe_11 : decode cX6_mayBe 11 = .ok (.if_icmp .ne 7, 3) := by decide +kernel
theorem dX6_mayBe_14 : decode cX6_mayBe 14 = .ok (.iconst 1, 1) := by decide +kernel
theorem dX6_mayBe_15 : decode cX6_mayBe 15 = .ok (.goto 4, 3) := by decide +kernel
theorem dX6_mayBe_18 : decode cX6_mayBe 18 = .ok (.iconst 0, 1) := by decide +kernel
theorem dX6_mayBe_19 : decode cX6_mayBe 19 = .ok (.istore 4, 2) := by decide +kernel
theorem dX6_mayBe_21 : decode cX6_mayBe 21 = .ok (.aload_n 0, 1) := by decide +kernel
theorem dX6_mayBe_22 : decode cX6_mayBe 22 = .ok (.getfield 125, 3) := by decide +kernel
theorem dX6_mayBe_25 : decode cX6_mayBe 25 = .ok (.iload_n 1, 1) := by decide +kernel
theorem dX6_mayBe_26 : decode cX6_mayBe 26 = .ok (.iaload, 1) := by decide +kernel
theorem dX6_mayBe_27 : decode cX6_mayBe 27 = .ok (.ifCond .le 48, 3) := by decide +kernel
theorem dX6_mayBe_30 : decode cX6_mayBe 30 = .ok (.iload 4, 2) := by decide +kernel
theorem dX6_mayBe_32 : decode cX6_mayBe 32 = .ok (.ifCond .eq 40, 3) := by decide +kernel
theorem dX6_mayBe_35 : decode cX6_mayBe 35 = .ok (.aload_n 0, 1) := by decide +kernel
theorem dX6_mayBe_36 : decode cX6_mayBe 36 = .ok (.getfield 125, 3) := by decide +kernel
theorem dX6_mayBe_39 : decode cX6_mayBe 39 = .ok (.iload_n 1, 1) := by decide +kernel
theorem dX6_mayBe_40 : decode cX6_mayBe 40 = .ok (.iaload, 1) := by decide +kernel
theorem dX6_mayBe_41 : decode cX6_mayBe 41 = .ok (.iconst 2, 1) := by decide +kernel
theorem dX6_mayBe_42 : decode cX6_mayBe 42 = .ok (.if_icmp .ne 7, 3) := by decide +kernel
theorem dX6_mayBe_45 : decode cX6_mayBe 45 = .ok (.iload_n 2, 1) := by decide +kernel
theorem dX6_mayBe_46 : decode cX6_mayBe 46 = .ok (.ifCond .eq 22, 3) := by decide +kernel
theorem dX6_mayBe_49 : decode cX6_mayBe 49 = .ok (.aload_n 0, 1) := by decide +kernel
theorem dX6_mayBe_50 : decode cX6_mayBe 50 = .ok (.getfield 125, 3) := by decide +kernel
theorem dX6_mayBe_53 : decode cX6_mayBe 53 = .ok (.iload_n 1, 1) := by decide +kernel
theorem dX6_mayBe_54 : decode cX6_mayBe 54 = .ok (.iaload, 1) := by decide +kernel
theorem dX6_mayBe_55 : decode cX6_mayBe 55 = .ok (.iconst 3, 1) := by decide +kernel
theorem dX6_mayBe_56 : decode cX6_mayBe 56 = .ok (.if_icmp .ne 16, 3) := by decide +kernel
theorem dX6_mayBe_59 : decode cX6_mayBe 59 = .ok (.iload_n 2, 1) := by decide +kernel
theorem dX6_mayBe_60 : decode cX6_mayBe 60 = .ok (.ifCond .eq 8, 3) := by decide +kernel
theorem dX6_mayBe_63 : decode cX6_mayBe 63 = .ok (.iload_n 2, 1) := by decide +kernel
theorem dX6_mayBe_64 : decode cX6_mayBe 64 = .ok (.iconst 1, 1) := by decide +kernel
theorem dX6_mayBe_65 : decode cX6_mayBe 65 = .ok (.if_icmp .ne 7, 3) := by decide +kernel
theorem dX6_mayBe_68 : decode cX6_mayBe 68 = .ok (.iconst 1, 1) := by decide +kernel
theorem dX6_mayBe_69 : decode cX6_mayBe 69 = .ok (.goto 4, 3) := by decide +kernel
theorem dX6_mayBe_72 : decode cX6_mayBe 72 = .ok (.iconst 0, 1) := by decide +kernel
theorem dX6_mayBe_73 : decode cX6_mayBe 73 = .ok (.istore 4, 2) := by decide +kernel
theorem dX6_mayBe_75 : decode cX6_mayBe 75 = .ok (.iload 4, 2) := by decide +kernel
theorem dX6_mayBe_77 : decode cX6_mayBe 77 = .ok (.ifCond .eq 25, 3) := by decide +kernel
theorem dX6_mayBe_80 : decode cX6_mayBe 80 = .ok (.iload_n 2, 1) := by decide +kernel
theorem dX6_mayBe_81 : decode cX6_mayBe 81 = .ok (.ifCond .ne 17, 3) := by decide +kernel
theorem dX6_mayBe_84 : decode cX6_mayBe 84 = .ok (.aload_n 0, 1) := by decide +kernel
theorem dX6_mayBe_85 : decode cX6_mayBe 85 = .ok (.getfield 122, 3) := by decide +kernel
theorem dX6_mayBe_88 : decode cX6_mayBe 88 = .ok (.bipush 20, 2) := by decide +kernel
theorem dX6_mayBe_90 : decode cX6_mayBe 90 = .ok (.iload_n 1, 1) := by decide +kernel
theorem dX6_mayBe_91 : decode cX6_mayBe 91 = .ok (.imul, 1) := by decide +kernel
theorem dX6_mayBe_92 : decode cX6_mayBe 92 = .ok (.iload_n 3, 1) := by decide +kernel
theorem dX6_mayBe_93 : decode cX6_mayBe 93 = .ok (.iadd, 1) := by decide +kernel
theorem dX6_mayBe_94 : decode cX6_mayBe 94 = .ok (.baload, 1) := by decide +kernel
theorem dX6_mayBe_95 : decode cX6_mayBe 95 = .ok (.ifCond .ne 7, 3) := by decide +kernel
theorem dX6_mayBe_98 : decode cX6_mayBe 98 = .ok (.iconst 1, 1) := by decide +kernel
theorem dX6_mayBe_99 : decode cX6_mayBe 99 = .ok (.goto 4, 3) := by decide +kernel
theorem dX6_mayBe_102 : decode cX6_mayBe 102 = .ok (.iconst 0, 1) := by decide +kernel
theorem dX6_mayBe_103 : decode cX6_mayBe 103 = .ok (.ireturn, 1) := by decide +kernel
