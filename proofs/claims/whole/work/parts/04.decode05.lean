set_option maxRecDepth 20000 in
theorem ggX6_reckon_X6_byteOf : GoodIn wsX6_reckon wsX6_byteOf := goodIn_ca (goodIn_r _ [15, 16, 26, 27, 28, 29, 30, 31, 32, 33, 34, 35, 36, 37, 38, 39, 40, 41, 42, 43, 44, 45, 46, 47, 48, 49, 50, 51, 52, 53, 54, 55, 56, 57] (by decide +kernel) (by decide +kernel)) (goodIn_sub (fun _ h => List.mem_cons_of_mem _ (List.mem_append_right _ h)) (by decide +kernel))
set_option maxRecDepth 20000 in
theorem gX6_reckon_X6_byteOf : GoodIn wsX6_reckon (wsV RX6 173 RX6 yX6_byteOf wsX6_byteOf) := goodIn_app (goodIn_of _ (by decide +kernel)) ggX6_reckon_X6_byteOf
set_option maxRecDepth 20000 in
theorem ggX6_reckon_X6_mix : GoodIn wsX6_reckon wsX6_mix := goodIn_ca (goodIn_r _ [20, 10, 21, 1, 22, 23, 24, 14, 25, 26, 27, 28, 29, 30, 31, 32, 33, 34, 35, 36, 37, 38, 39, 40, 41, 42, 43, 44, 45, 46, 47, 48, 49, 50, 51, 52, 53, 54, 55, 56, 57] (by decide +kernel) (by decide +kernel)) (goodIn_sub (fun _ h => List.mem_cons_of_mem _ (List.mem_append_right _ h)) (by decide +kernel))
set_option maxRecDepth 20000 in
theorem gX6_reckon_X6_mix : GoodIn wsX6_reckon (wsV RX6 177 RX6 yX6_mix wsX6_mix) := goodIn_app (goodIn_of _ (by decide +kernel)) ggX6_reckon_X6_mix
theorem dX6_reckon_0 : decode cX6_reckon 0 = .ok (.iload_n 1, 1) := by decide +kernel
theorem dX6_reckon_1 : decode cX6_reckon 1 = .ok (.iload_n 3, 1) := by decide +kernel
theorem dX6_reckon_2 : decode cX6_reckon 2 = .ok (.iadd, 1) := by decide +kernel
theorem dX6_reckon_3 : decode cX6_reckon 3 = .ok (.iload_n 2, 1) := by decide +kernel
theorem dX6_reckon_4 : decode cX6_reckon 4 = .ok (.isub, 1) := by decide +kernel
theorem dX6_reckon_5 : decode cX6_reckon 5 = .ok (.bipush 72, 2) := by decide +kernel
theorem dX6_reckon_7 : decode cX6_reckon 7 = .ok (.iadd, 1) := by decide +kernel
theorem dX6_reckon_8 : decode cX6_reckon 8 = .ok (.bipush 64, 2) := by decide +kernel
theorem dX6_reckon_10 : decode cX6_reckon 10 = .ok (.idiv, 1) := by decide +kernel
theorem dX6_reckon_11 : decode cX6_reckon 11 = .ok (.istore 4, 2) := by decide +kernel
theorem dX6_reckon_13 : decode cX6_reckon 13 = .ok (.aload_n 0, 1) := by decide +kernel
theorem dX6_reckon_14 : decode cX6_reckon 14 = .ok (.getfield 146, 3) := by decide +kernel
theorem dX6_reckon_17 : decode cX6_reckon 17 = .ok (.iconst 0, 1) := by decide +kernel
theorem dX6_reckon_18 : decode cX6_reckon 18 = .ok (.ldc 165, 2) := by decide +kernel
theorem dX6_reckon_20 : decode cX6_reckon 20 = .ok (.iastore, 1) := by decide +kernel
theorem dX6_reckon_21 : decode cX6_reckon 21 = .ok (.aload_n 0, 1) := by decide +kernel
theorem dX6_reckon_22 : decode cX6_reckon 22 = .ok (.getfield 146, 3) := by decide +kernel
theorem dX6_reckon_25 : decode cX6_reckon 25 = .ok (.iconst 1, 1) := by decide +kernel
theorem dX6_reckon_26 : decode cX6_reckon 26 = .ok (.ldc 166, 2) := by decide +kernel
theorem dX6_reckon_28 : decode cX6_reckon 28 = .ok (.iastore, 1) := by decide +kernel
theorem dX6_reckon_29 : decode cX6_reckon 29 = .ok (.aload_n 0, 1) := by decide +kernel
theorem dX6_reckon_30 : decode cX6_reckon 30 = .ok (.getfield 146, 3) := by decide +kernel
theorem dX6_reckon_33 : decode cX6_reckon 33 = .ok (.iconst 2, 1) := by decide +kernel
theorem dX6_reckon_34 : decode cX6_reckon 34 = .ok (.ldc 167, 2) := by decide +kernel
theorem dX6_reckon_36 : decode cX6_reckon 36 = .ok (.iastore, 1) := by decide +kernel
theorem dX6_reckon_37 : decode cX6_reckon 37 = .ok (.aload_n 0, 1) := by decide +kernel
theorem dX6_reckon_38 : decode cX6_reckon 38 = .ok (.getfield 146, 3) := by decide +kernel
theorem dX6_reckon_41 : decode cX6_reckon 41 = .ok (.iconst 3, 1) := by decide +kernel
theorem dX6_reckon_42 : decode cX6_reckon 42 = .ok (.ldc 168, 2) := by decide +kernel
theorem dX6_reckon_44 : decode cX6_reckon 44 = .ok (.iastore, 1) := by decide +kernel
theorem dX6_reckon_45 : decode cX6_reckon 45 = .ok (.aload_n 0, 1) := by decide +kernel
theorem dX6_reckon_46 : decode cX6_reckon 46 = .ok (.getfield 146, 3) := by decide +kernel
theorem dX6_reckon_49 : decode cX6_reckon 49 = .ok (.iconst 4, 1) := by decide +kernel
theorem dX6_reckon_50 : decode cX6_reckon 50 = .ok (.ldc 169, 2) := by decide +kernel
theorem dX6_reckon_52 : decode cX6_reckon 52 = .ok (.iastore, 1) := by decide +kernel
theorem dX6_reckon_53 : decode cX6_reckon 53 = .ok (.aload_n 0, 1) := by decide +kernel
theorem dX6_reckon_54 : decode cX6_reckon 54 = .ok (.getfield 146, 3) := by decide +kernel
theorem dX6_reckon_57 : decode cX6_reckon 57 = .ok (.iconst 5, 1) := by decide +kernel
theorem dX6_reckon_58 : decode cX6_reckon 58 = .ok (.ldc 170, 2) := by decide +kernel
theorem dX6_reckon_60 : decode cX6_reckon 60 = .ok (.iastore, 1) := by decide +kernel
theorem dX6_reckon_61 : decode cX6_reckon 61 = .ok (.aload_n 0, 1) := by decide +kernel
theorem dX6_reckon_62 : decode cX6_reckon 62 = .ok (.getfield 146, 3) := by decide +kernel
theorem dX6_reckon_65 : decode cX6_reckon 65 = .ok (.bipush 6, 2) := by decide +kernel
theorem dX6_reckon_67 : decode cX6_reckon 67 = .ok (.ldc 171, 2) := by decide +kernel
theorem dX6_reckon_69 : decode cX6_reckon 69 = .ok (.iastore, 1) := by decide +kernel
theorem dX6_reckon_70 : decode cX6_reckon 70 = .ok (.aload_n 0, 1) := by decide +kernel
theorem dX6_reckon_71 : decode cX6_reckon 71 = .ok (.getfield 146, 3) := by decide +kernel
theorem dX6_reckon_74 : decode cX6_reckon 74 = .ok (.bipush 7, 2) := by decide +kernel
theorem dX6_reckon_76 : decode cX6_reckon 76 = .ok (.ldc 172, 2) := by decide +kernel
theorem dX6_reckon_78 : decode cX6_reckon 78 = .ok (.iastore, 1) := by decide +kernel
theorem dX6_reckon_79 : decode cX6_reckon 79 = .ok (.iconst 0, 1) := by decide +kernel
theorem dX6_reckon_80 : decode cX6_reckon 80 = .ok (.istore 5, 2) := by decide +kernel
theorem dX6_reckon_82 : decode cX6_reckon 82 = .ok (.iload 5, 2) := by decide +kernel
theorem dX6_reckon_84 : decode cX6_reckon 84 = .ok (.iload 4, 2) := by decide +kernel
theorem dX6_reckon_86 : decode cX6_reckon 86 = .ok (.if_icmp .ge 90, 3) := by decide +kernel
theorem dX6_reckon_89 : decode cX6_reckon 89 = .ok (.iconst 0, 1) := by decide +kernel
theorem dX6_reckon_90 : decode cX6_reckon 90 = .ok (.istore 6, 2) := by decide +kernel
theorem dX6_reckon_92 : decode cX6_reckon 92 = .ok (.iload 6, 2) := by decide +kernel
theorem dX6_reckon_94 : decode cX6_reckon 94 = .ok (.bipush 16, 2) := by decide +kernel
theorem dX6_reckon_96 : decode cX6_reckon 96 = .ok (.if_icmp .ge 70, 3) := by decide +kernel
theorem dX6_reckon_99 : decode cX6_reckon 99 = .ok (.aload_n 0, 1) := by decide +kernel
theorem dX6_reckon_100 : decode cX6_reckon 100 = .ok (.getfield 152, 3) := by decide +kernel
theorem dX6_reckon_103 : decode cX6_reckon 103 = .ok (.iload 6, 2) := by decide +kernel
theorem dX6_reckon_105 : decode cX6_reckon 105 = .ok (.iconst 0, 1) := by decide +kernel
theorem dX6_reckon_106 : decode cX6_reckon 106 = .ok (.iastore, 1) := by decide +kernel
theorem dX6_reckon_107 : decode cX6_reckon 107 = .ok (.iconst 0, 1) := by decide +kernel
theorem dX6_reckon_108 : decode cX6_reckon 108 = .ok (.istore 7, 2) := by decide +kernel
theorem dX6_reckon_110 : decode cX6_reckon 110 = .ok (.iload 7, 2) := by decide +kernel
theorem dX6_reckon_112 : decode cX6_reckon 112 = .ok (.iconst 4, 1) := by decide +kernel
theorem dX6_reckon_113 : decode cX6_reckon 113 = .ok (.if_icmp .ge 47, 3) := by decide +kernel
theorem dX6_reckon_116 : decode cX6_reckon 116 = .ok (.aload_n 0, 1) := by decide +kernel
theorem dX6_reckon_117 : decode cX6_reckon 117 = .ok (.getfield 152, 3) := by decide +kernel
theorem dX6_reckon_120 : decode cX6_reckon 120 = .ok (.iload 6, 2) := by decide +kernel
theorem dX6_reckon_122 : decode cX6_reckon 122 = .ok (.aload_n 0, 1) := by decide +kernel
theorem dX6_reckon_123 : decode cX6_reckon 123 = .ok (.getfield 152, 3) := by decide +kernel
theorem dX6_reckon_126 : decode cX6_reckon 126 = .ok (.iload 6, 2) := by decide +kernel
theorem dX6_reckon_128 : decode cX6_reckon 128 = .ok (.iaload, 1) := by decide +kernel
theorem dX6_reckon_129 : decode cX6_reckon 129 = .ok (.bipush 8, 2) := by decide +kernel
theorem dX6_reckon_131 : decode cX6_reckon 131 = .ok (.ishl, 1) := by decide +kernel
theorem dX6_reckon_132 : decode cX6_reckon 132 = .ok (.aload_n 0, 1) := by decide +kernel
theorem dX6_reckon_133 : decode cX6_reckon 133 = .ok (.bipush 64, 2) := by decide +kernel
theorem dX6_reckon_135 : decode cX6_reckon 135 = .ok (.iload 5, 2) := by decide +kernel
theorem dX6_reckon_137 : decode cX6_reckon 137 = .ok (.imul, 1) := by decide +kernel
theorem dX6_reckon_138 : decode cX6_reckon 138 = .ok (.iconst 4, 1) := by decide +kernel
theorem dX6_reckon_139 : decode cX6_reckon 139 = .ok (.iload 6, 2) := by decide +kernel
theorem dX6_reckon_141 : decode cX6_reckon 141 = .ok (.imul, 1) := by decide +kernel
theorem dX6_reckon_142 : decode cX6_reckon 142 = .ok (.iadd, 1) := by decide +kernel
theorem dX6_reckon_143 : decode cX6_reckon 143 = .ok (.iload 7, 2) := by decide +kernel
theorem dX6_reckon_145 : decode cX6_reckon 145 = .ok (.iadd, 1) := by decide +kernel
theorem dX6_reckon_146 : decode cX6_reckon 146 = .ok (.iload_n 1, 1) := by decide +kernel
theorem dX6_reckon_147 : decode cX6_reckon 147 = .ok (.iload_n 2, 1) := by decide +kernel
theorem dX6_reckon_148 : decode cX6_reckon 148 = .ok (.iload_n 3, 1) := by decide +kernel
theorem dX6_reckon_149 : decode cX6_reckon 149 = .ok (.invokevirtual 173, 3) := by decide +kernel
theorem dX6_reckon_152 : decode cX6_reckon 152 = .ok (.ior, 1) := by decide +kernel
theorem dX6_reckon_153 : decode cX6_reckon 153 = .ok (.iastore, 1) := by decide +kernel
theorem dX6_reckon_154 : decode cX6_reckon 154 = .ok (.iinc 7 1, 3) := by decide +kernel
theorem dX6_reckon_157 : decode cX6_reckon 157 = .ok (.goto (-47), 3) := by decide +kernel
theorem dX6_reckon_160 : decode cX6_reckon 160 = .ok (.iinc 6 1, 3) := by decide +kernel
theorem dX6_reckon_163 : decode cX6_reckon 163 = .ok (.goto (-71), 3) := by decide +kernel
theorem dX6_reckon_166 : decode cX6_reckon 166 = .ok (.aload_n 0, 1) := by decide +kernel
theorem dX6_reckon_167 : decode cX6_reckon 167 = .ok (.invokevirtual 177, 3) := by decide +kernel
theorem dX6_reckon_170 : decode cX6_reckon 170 = .ok (.iinc 5 1, 3) := by decide +kernel
theorem dX6_reckon_173 : decode cX6_reckon 173 = .ok (.goto (-91), 3) := by decide +kernel
theorem dX6_reckon_176 : decode cX6_reckon 176 = .ok (.return_, 1) := by decide +kernel
set_option maxRecDepth 20000 in
theorem ggX6_mix_X6_turn : GoodIn wsX6_mix wsX6_turn := goodIn_r _ [8] (by decide +kernel) (by decide +kernel)
set_option maxRecDepth 20000 in
theorem gX6_mix_X6_turn : GoodIn wsX6_mix (va_wsS RX6 180 yX6_turn wsX6_turn) := goodIn_app (goodIn_of _ (by decide +kernel)) ggX6_mix_X6_turn
theorem dX6_mix_0 : decode cX6_mix 0 = .ok (.bipush 16, 2) := by decide +kernel
theorem dX6_mix_2 : decode cX6_mix 2 = .ok (.istore_n 1, 1) := by decide +kernel
theorem dX6_mix_3 : decode cX6_mix 3 = .ok (.iload_n 1, 1) := by decide +kernel
theorem dX6_mix_4 : decode cX6_mix 4 = .ok (.bipush 64, 2) := by decide +kernel
theorem dX6_mix_6 : decode cX6_mix 6 = .ok (.if_icmp .ge 90, 3) := by decide +kernel
theorem dX6_mix_9 : decode cX6_mix 9 = .ok (.aload_n 0, 1) := by decide +kernel
theorem dX6_mix_10 : decode cX6_mix 10 = .ok (.getfield 152, 3) := by decide +kernel
theorem dX6_mix_13 : decode cX6_mix 13 = .ok (.iload_n 1, 1) := by decide +kernel
theorem dX6_mix_14 : decode cX6_mix 14 = .ok (.bipush 15, 2) := by decide +kernel
theorem dX6_mix_16 : decode cX6_mix 16 = .ok (.isub, 1) := by decide +kernel
theorem dX6_mix_17 : decode cX6_mix 17 = .ok (.iaload, 1) := by decide +kernel
theorem dX6_mix_18 : decode cX6_mix 18 = .ok (.istore_n 2, 1) := by decide +kernel
theorem dX6_mix_19 : decode cX6_mix 19 = .ok (.aload_n 0, 1) := by decide +kernel
theorem dX6_mix_20 : decode cX6_mix 20 = .ok (.getfield 152, 3) := by decide +kernel
theorem dX6_mix_23 : decode cX6_mix 23 = .ok (.iload_n 1, 1) := by decide +kernel
theorem dX6_mix_24 : decode cX6_mix 24 = .ok (.iconst 2, 1) := by decide +kernel
theorem dX6_mix_25 : decode cX6_mix 25 = .ok (.isub, 1) := by decide +kernel
theorem dX6_mix_26 : decode cX6_mix 26 = .ok (.iaload, 1) := by decide +kernel
theorem dX6_mix_27 : decode cX6_mix 27 = .ok (.istore_n 3, 1) := by decide +kernel
theorem dX6_mix_28 : decode cX6_mix 28 = .ok (.aload_n 0, 1) := by decide +kernel
theorem dX6_mix_29 : decode cX6_mix 29 = .ok (.getfield 152, 3) := by decide +kernel
theorem dX6_mix_32 : decode cX6_mix 32 = .ok (.iload_n 1, 1) := by decide +kernel
theorem dX6_mix_33 : decode cX6_mix 33 = .ok (.aload_n 0, 1) := by decide +kernel
theorem dX6_mix_34 : decode cX6_mix 34 = .ok (.getfield 152, 3) := by decide +kernel
theorem dX6_mix_37 : decode cX6_mix 37 = .ok (.iload_n 1, 1) := by decide +kernel
theorem dX6_mix_38 : decode cX6_mix 38 = .ok (.bipush 16, 2) := by decide +kernel
theorem dX6_mix_40 : decode cX6_mix 40 = .ok (.isub, 1) := by decide +kernel
theorem dX6_mix_41 : decode cX6_mix 41 = .ok (.iaload, 1) := by decide +kernel
theorem dX6_mix_42 : decode cX6_mix 42 = .ok (.iload_n 2, 1) := by decide +kernel
theorem dX6_mix_43 : decode cX6_mix 43 = .ok (.bipush 7, 2) := by decide +kernel
theorem dX6_mix_45 : decode cX6_mix 45 = .ok (.invokestatic 180, 3) := by decide +kernel
theorem dX6_mix_48 : decode cX6_mix 48 = .ok (.iload_n 2, 1) := by decide +kernel
theorem dX6_mix_49 : decode cX6_mix 49 = .ok (.bipush 18, 2) := by decide +kernel
theorem dX6_mix_51 : decode cX6_mix 51 = .ok (.invokestatic 180, 3) := by decide +kernel
theorem dX6_mix_54 : decode cX6_mix 54 = .ok (.ixor, 1) := by decide +kernel
theorem dX6_mix_55 : decode cX6_mix 55 = .ok (.iload_n 2, 1) := by decide +kernel
theorem dX6_mix_56 : decode cX6_mix 56 = .ok (.iconst 3, 1) := by decide +kernel
theorem dX6_mix_57 : decode cX6_mix 57 = .ok (.iushr, 1) := by decide +kernel
theorem dX6_mix_58 : decode cX6_mix 58 = .ok (.ixor, 1) := by decide +kernel
theorem dX6_mix_59 : decode cX6_mix 59 = .ok (.iadd, 1) := by decide +kernel
theorem dX6_mix_60 : decode cX6_mix 60 = .ok (.aload_n 0, 1) := by decide +kernel
theorem dX6_mix_61 : decode cX6_mix 61 = .ok (.getfield 152, 3) := by decide +kernel
theorem dX6_mix_64 : decode cX6_mix 64 = .ok (.iload_n 1, 1) := by decide +kernel
theorem dX6_mix_65 : decode cX6_mix 65 = .ok (.bipush 7, 2) := by decide +kernel
theorem dX6_mix_67 : decode cX6_mix 67 = .ok (.isub, 1) := by decide +kernel
theorem dX6_mix_68 : decode cX6_mix 68 = .ok (.iaload, 1) := by decide +kernel
theorem dX6_mix_69 : decode cX6_mix 69 = .ok (.iadd, 1) := by decide +kernel
theorem dX6_mix_70 : decode cX6_mix 70 = .ok (.iload_n 3, 1) := by decide +kernel
theorem dX6_mix_71 : decode cX6_mix 71 = .ok (.bipush 17, 2) := by decide +kernel
theorem dX6_mix_73 : decode cX6_mix 73 = .ok (.invokestatic 180, 3) := by decide +kernel
theorem dX6_mix_76 : decode cX6_mix 76 = .ok (.iload_n 3, 1) := by decide +kernel
theorem dX6_mix_77 : decode cX6_mix 77 = .ok (.bipush 19, 2) := by decide +kernel
theorem dX6_mix_79 : decode cX6_mix 79 = .ok (.invokestatic 180, 3) := by decide +kernel
theorem dX6_mix_82 : decode cX6_mix 82 = .ok (.ixor, 1) := by decide +kernel
theorem dX6_mix_83 : decode cX6_mix 83 = .ok (.iload_n 3, 1) := by decide +kernel
theorem dX6_mix_84 : decode cX6_mix 84 = .ok (.bipush 10, 2) := by decide +kernel
theorem dX6_mix_86 : decode cX6_mix 86 = .ok (.iushr, 1) := by decide +kernel
theorem dX6_mix_87 : decode cX6_mix 87 = .ok (.ixor, 1) := by decide +kernel
theorem dX6_mix_88 : decode cX6_mix 88 = .ok (.iadd, 1) := by decide +kernel
theorem dX6_mix_89 : decode cX6_mix 89 = .ok (.iastore, 1) := by decide +kernel
theorem dX6_mix_90 : decode cX6_mix 90 = .ok (.iinc 1 1, 3) := by decide +kernel
theorem dX6_mix_93 : decode cX6_mix 93 = .ok (.goto (-90), 3) := by decide +kernel
theorem dX6_mix_96 : decode cX6_mix 96 = .ok (.iconst 0, 1) := by decide +kernel
theorem dX6_mix_97 : decode cX6_mix 97 = .ok (.istore_n 1, 1) := by decide +kernel
theorem dX6_mix_98 : decode cX6_mix 98 = .ok (.iload_n 1, 1) := by decide +kernel
theorem dX6_mix_99 : decode cX6_mix 99 = .ok (.bipush 8, 2) := by decide +kernel
theorem dX6_mix_101 : decode cX6_mix 101 = .ok (.if_icmp .ge 21, 3) := by decide +kernel
theorem dX6_mix_104 : decode cX6_mix 104 = .ok (.aload_n 0, 1) := by decide +kernel
theorem dX6_mix_105 : decode cX6_mix 105 = .ok (.getfield 149, 3) := by decide +kernel
theorem dX6_mix_108 : decode cX6_mix 108 = .ok (.iload_n 1, 1) := by decide +kernel
theorem dX6_mix_109 : decode cX6_mix 109 = .ok (.aload_n 0, 1) := by decide +kernel
theorem dX6_mix_110 : decode cX6_mix 110 = .ok (.getfield 146, 3) := by decide +kernel
theorem dX6_mix_113 : decode cX6_mix 113 = .ok (.iload_n 1, 1) := by decide +kernel
theorem dX6_mix_114 : decode cX6_mix 114 = .ok (.iaload, 1) := by decide +kernel
theorem dX6_mix_115 : decode cX6_mix 115 = .ok (.iastore, 1) := by decide +kernel
theorem dX6_mix_116 : decode cX6_mix 116 = .ok (.iinc 1 1, 3) := by decide +kernel
theorem dX6_mix_119 : decode cX6_mix 119 = .ok (.goto (-21), 3) := by decide +kernel
theorem dX6_mix_122 : decode cX6_mix 122 = .ok (.iconst 0, 1) := by decide +kernel
theorem dX6_mix_123 : decode cX6_mix 123 = .ok (.istore_n 1, 1) := by decide +kernel
theorem dX6_mix_124 : decode cX6_mix 124 = .ok (.iload_n 1, 1) := by decide +kernel
theorem dX6_mix_125 : decode cX6_mix 125 = .ok (.bipush 64, 2) := by decide +kernel
theorem dX6_mix_127 : decode cX6_mix 127 = .ok (.if_icmp .ge 198, 3) := by decide +kernel
theorem dX6_mix_130 : decode cX6_mix 130 = .ok (.aload_n 0, 1) := by decide +kernel
theorem dX6_mix_131 : decode cX6_mix 131 = .ok (.getfield 149, 3) := by decide +kernel
theorem dX6_mix_134 : decode cX6_mix 134 = .ok (.iconst 4, 1) := by decide +kernel
theorem dX6_mix_135 : decode cX6_mix 135 = .ok (.iaload, 1) := by decide +kernel
theorem dX6_mix_136 : decode cX6_mix 136 = .ok (.istore_n 2, 1) := by decide +kernel
theorem dX6_mix_137 : decode cX6_mix 137 = .ok (.aload_n 0, 1) := by decide +kernel
theorem dX6_mix_138 : decode cX6_mix 138 = .ok (.getfield 149, 3) := by decide +kernel
theorem dX6_mix_141 : decode cX6_mix 141 = .ok (.iconst 0, 1) := by decide +kernel
theorem dX6_mix_142 : decode cX6_mix 142 = .ok (.iaload, 1) := by decide +kernel
theorem dX6_mix_143 : decode cX6_mix 143 = .ok (.istore_n 3, 1) := by decide +kernel
theorem dX6_mix_144 : decode cX6_mix 144 = .ok (.aload_n 0, 1) := by decide +kernel
theorem dX6_mix_145 : decode cX6_mix 145 = .ok (.getfield 149, 3) := by decide +kernel
theorem dX6_mix_148 : decode cX6_mix 148 = .ok (.bipush 7, 2) := by decide +kernel
theorem dX6_mix_150 : decode cX6_mix 150 = .ok (.iaload, 1) := by decide +kernel
theorem dX6_mix_151 : decode cX6_mix 151 = .ok (.iload_n 2, 1) := by decide +kernel
theorem dX6_mix_152 : decode cX6_mix 152 = .ok (.bipush 6, 2) := by decide +kernel
theorem dX6_mix_154 : decode cX6_mix 154 = .ok (.invokestatic 180, 3) := by decide +kernel
theorem dX6_mix_157 : decode cX6_mix 157 = .ok (.iload_n 2, 1) := by decide +kernel
theorem dX6_mix_158 : decode cX6_mix 158 = .ok (.bipush 11, 2) := by decide +kernel
theorem dX6_mix_160 : decode cX6_mix 160 = .ok (.invokestatic 180, 3) := by decide +kernel
theorem dX6_mix_163 : decode cX6_mix 163 = .ok (.ixor, 1) := by decide +kernel
theorem dX6_mix_164 : decode cX6_mix 164 = .ok (.iload_n 2, 1) := by decide +kernel
theorem dX6_mix_165 : decode cX6_mix 165 = .ok (.bipush 25, 2) := by decide +kernel
theorem dX6_mix_167 : decode cX6_mix 167 = .ok (.invokestatic 180, 3) := by decide +kernel
theorem dX6_mix_170 : decode cX6_mix 170 = .ok (.ixor, 1) := by decide +kernel
theorem dX6_mix_171 : decode cX6_mix 171 = .ok (.iadd, 1) := by decide +kernel
theorem dX6_mix_172 : decode cX6_mix 172 = .ok (.iload_n 2, 1) := by decide +kernel
theorem dX6_mix_173 : decode cX6_mix 173 = .ok (.aload_n 0, 1) := by decide +kernel
theorem dX6_mix_174 : decode cX6_mix 174 = .ok (.getfield 149, 3) := by decide +kernel
theorem dX6_mix_177 : decode cX6_mix 177 = .ok (.iconst 5, 1) := by decide +kernel
theorem dX6_mix_178 : decode cX6_mix 178 = .ok (.iaload, 1) := by decide +kernel
theorem dX6_mix_179 : decode cX6_mix 179 = .ok (.iand, 1) := by decide +kernel
theorem dX6_mix_180 : decode cX6_mix 180 = .ok (.iload_n 2, 1) := by decide +kernel
theorem dX6_mix_181 : decode cX6_mix 181 = .ok (.iconst (-1), 1) := by decide +kernel
theorem dX6_mix_182 : decode cX6_mix 182 = .ok (.ixor, 1) := by decide +kernel
theorem dX6_mix_183 : decode cX6_mix 183 = .ok (.aload_n 0, 1) := by decide +kernel
theorem dX6_mix_184 : decode cX6_mix 184 = .ok (.getfield 149, 3) := by decide +kernel
theorem dX6_mix_187 : decode cX6_mix 187 = .ok (.bipush 6, 2) := by decide +kernel
theorem dX6_mix_189 : decode cX6_mix 189 = .ok (.iaload, 1) := by decide +kernel
theorem dX6_mix_190 : decode cX6_mix 190 = .ok (.iand, 1) := by decide +kernel
theorem dX6_mix_191 : decode cX6_mix 191 = .ok (.ixor, 1) := by decide +kernel
theorem dX6_mix_192 : decode cX6_mix 192 = .ok (.iadd, 1) := by decide +kernel
theorem dX6_mix_193 : decode cX6_mix 193 = .ok (.aload_n 0, 1) := by decide +kernel
theorem dX6_mix_194 : decode cX6_mix 194 = .ok (.getfield 71, 3) := by decide +kernel
theorem dX6_mix_197 : decode cX6_mix 197 = .ok (.iload_n 1, 1) := by decide +kernel
theorem dX6_mix_198 : decode cX6_mix 198 = .ok (.iaload, 1) := by decide +kernel
theorem dX6_mix_199 : decode cX6_mix 199 = .ok (.iadd, 1) := by decide +kernel
theorem dX6_mix_200 : decode cX6_mix 200 = .ok (.aload_n 0, 1) := by decide +kernel
theorem dX6_mix_201 : decode cX6_mix 201 = .ok (.getfield 152, 3) := by decide +kernel
theorem dX6_mix_204 : decode cX6_mix 204 = .ok (.iload_n 1, 1) := by decide +kernel
theorem dX6_mix_205 : decode cX6_mix 205 = .ok (.iaload, 1) := by decide +kernel
theorem dX6_mix_206 : decode cX6_mix 206 = .ok (.iadd, 1) := by decide +kernel
theorem dX6_mix_207 : decode cX6_mix 207 = .ok (.istore 4, 2) := by decide +kernel
theorem dX6_mix_209 : decode cX6_mix 209 = .ok (.iload_n 3, 1) := by decide +kernel
theorem dX6_mix_210 : decode cX6_mix 210 = .ok (.iconst 2, 1) := by decide +kernel
theorem dX6_mix_211 : decode cX6_mix 211 = .ok (.invokestatic 180, 3) := by decide +kernel
theorem dX6_mix_214 : decode cX6_mix 214 = .ok (.iload_n 3, 1) := by decide +kernel
theorem dX6_mix_215 : decode cX6_mix 215 = .ok (.bipush 13, 2) := by decide +kernel
theorem dX6_mix_217 : decode cX6_mix 217 = .ok (.invokestatic 180, 3) := by decide +kernel
theorem dX6_mix_220 : decode cX6_mix 220 = .ok (.ixor, 1) := by decide +kernel
theorem dX6_mix_221 : decode cX6_mix 221 = .ok (.iload_n 3, 1) := by decide +kernel
theorem dX6_mix_222 : decode cX6_mix 222 = .ok (.bipush 22, 2) := by decide +kernel
theorem dX6_mix_224 : decode cX6_mix 224 = .ok (.invokestatic 180, 3) := by decide +kernel
theorem dX6_mix_227 : decode cX6_mix 227 = .ok (.ixor, 1) := by decide +kernel
theorem dX6_mix_228 : decode cX6_mix 228 = .ok (.iload_n 3, 1) := by decide +kernel
theorem dX6_mix_229 : decode cX6_mix 229 = .ok (.aload_n 0, 1) := by decide +kernel
theorem dX6_mix_230 : decode cX6_mix 230 = .ok (.getfield 149, 3) := by decide +kernel
theorem dX6_mix_233 : decode cX6_mix 233 = .ok (.iconst 1, 1) := by decide +kernel
theorem dX6_mix_234 : decode cX6_mix 234 = .ok (.iaload, 1) := by decide +kernel
theorem dX6_mix_235 : decode cX6_mix 235 = .ok (.iand, 1) := by decide +kernel
theorem dX6_mix_236 : decode cX6_mix 236 = .ok (.iload_n 3, 1) := by decide +kernel
theorem dX6_mix_237 : decode cX6_mix 237 = .ok (.aload_n 0, 1) := by decide +kernel
theorem dX6_mix_238 : decode cX6_mix 238 = .ok (.getfield 149, 3) := by decide +kernel
theorem dX6_mix_241 : decode cX6_mix 241 = .ok (.iconst 2, 1) := by decide +kernel
theorem dX6_mix_242 : decode cX6_mix 242 = .ok (.iaload, 1) := by decide +kernel
theorem dX6_mix_243 : decode cX6_mix 243 = .ok (.iand, 1) := by decide +kernel
theorem dX6_mix_244 : decode cX6_mix 244 = .ok (.ixor, 1) := by decide +kernel
theorem dX6_mix_245 : decode cX6_mix 245 = .ok (.aload_n 0, 1) := by decide +kernel
theorem dX6_mix_246 : decode cX6_mix 246 = .ok (.getfield 149, 3) := by decide +kernel
theorem dX6_mix_249 : decode cX6_mix 249 = .ok (.iconst 1, 1) := by decide +kernel
theorem dX6_mix_250 : decode cX6_mix 250 = .ok (.iaload, 1) := by decide +kernel
theorem dX6_mix_251 : decode cX6_mix 251 = .ok (.aload_n 0, 1) := by decide +kernel
theorem dX6_mix_252 : decode cX6_mix 252 = .ok (.getfield 149, 3) := by decide +kernel
theorem dX6_mix_255 : decode cX6_mix 255 = .ok (.iconst 2, 1) := by decide +kernel
theorem dX6_mix_256 : decode cX6_mix 256 = .ok (.iaload, 1) := by decide +kernel
theorem dX6_mix_257 : decode cX6_mix 257 = .ok (.iand, 1) := by decide +kernel
theorem dX6_mix_258 : decode cX6_mix 258 = .ok (.ixor, 1) := by decide +kernel
theorem dX6_mix_259 : decode cX6_mix 259 = .ok (.iadd, 1) := by decide +kernel
theorem dX6_mix_260 : decode cX6_mix 260 = .ok (.istore 5, 2) := by decide +kernel
theorem dX6_mix_262 : decode cX6_mix 262 = .ok (.bipush 7, 2) := by decide +kernel
theorem dX6_mix_264 : decode cX6_mix 264 = .ok (.istore 6, 2) := by decide +kernel
theorem dX6_mix_266 : decode cX6_mix 266 = .ok (.iload 6, 2) := by decide +kernel
theorem dX6_mix_268 : decode cX6_mix 268 = .ok (.ifCond .le 25, 3) := by decide +kernel
theorem dX6_mix_271 : decode cX6_mix 271 = .ok (.aload_n 0, 1) := by decide +kernel
theorem dX6_mix_272 : decode cX6_mix 272 = .ok (.getfield 149, 3) := by decide +kernel
theorem dX6_mix_275 : decode cX6_mix 275 = .ok (.iload 6, 2) := by decide +kernel
theorem dX6_mix_277 : decode cX6_mix 277 = .ok (.aload_n 0, 1) := by decide +kernel
theorem dX6_mix_278 : decode cX6_mix 278 = .ok (.getfield 149, 3) := by decide +kernel
theorem dX6_mix_281 : decode cX6_mix 281 = .ok (.iload 6, 2) := by decide +kernel
theorem dX6_mix_283 : decode cX6_mix 283 = .ok (.iconst 1, 1) := by decide +kernel
theorem dX6_mix_284 : decode cX6_mix 284 = .ok (.isub, 1) := by decide +kernel
theorem dX6_mix_285 : decode cX6_mix 285 = .ok (.iaload, 1) := by decide +kernel
theorem dX6_mix_286 : decode cX6_mix 286 = .ok (.iastore, 1) := by decide +kernel
theorem dX6_mix_287 : decode cX6_mix 287 = .ok (.iinc 6 (-1), 3) := by decide +kernel
theorem dX6_mix_290 : decode cX6_mix 290 = .ok (.goto (-24), 3) := by decide +kernel
theorem dX6_mix_293 : decode cX6_mix 293 = .ok (.aload_n 0, 1) := by decide +kernel
theorem dX6_mix_294 : decode cX6_mix 294 = .ok (.getfield 149, 3) := by decide +kernel
theorem dX6_mix_297 : decode cX6_mix 297 = .ok (.iconst 4, 1) := by decide +kernel
theorem dX6_mix_298 : decode cX6_mix 298 = .ok (.aload_n 0, 1) := by decide +kernel
theorem dX6_mix_299 : decode cX6_mix 299 = .ok (.getfield 149, 3) := by decide +kernel
theorem dX6_mix_302 : decode cX6_mix 302 = .ok (.iconst 4, 1) := by decide +kernel
theorem dX6_mix_303 : decode cX6_mix 303 = .ok (.iaload, 1) := by decide +kernel
theorem dX6_mix_304 : decode cX6_mix 304 = .ok (.iload 4, 2) := by decide +kernel
theorem dX6_mix_306 : decode cX6_mix 306 = .ok (.iadd, 1) := by decide +kernel
theorem dX6_mix_307 : decode cX6_mix 307 = .ok (.iastore, 1) := by decide +kernel
theorem dX6_mix_308 : decode cX6_mix 308 = .ok (.aload_n 0, 1) := by decide +kernel
theorem dX6_mix_309 : decode cX6_mix 309 = .ok (.getfield 149, 3) := by decide +kernel
theorem dX6_mix_312 : decode cX6_mix 312 = .ok (.iconst 0, 1) := by decide +kernel
theorem dX6_mix_313 : decode cX6_mix 313 = .ok (.iload 4, 2) := by decide +kernel
theorem dX6_mix_315 : decode cX6_mix 315 = .ok (.iload 5, 2) := by decide +kernel
theorem dX6_mix_317 : decode cX6_mix 317 = .ok (.iadd, 1) := by decide +kernel
theorem dX6_mix_318 : decode cX6_mix 318 = .ok (.iastore, 1) := by decide +kernel
theorem dX6_mix_319 : decode cX6_mix 319 = .ok (.iinc 1 1, 3) := by decide +kernel
theorem dX6_mix_322 : decode cX6_mix 322 = .ok (.goto (-198), 3) := by decide +kernel
theorem dX6_mix_325 : decode cX6_mix 325 = .ok (.iconst 0, 1) := by decide +kernel
theorem dX6_mix_326 : decode cX6_mix 326 = .ok (.istore_n 1, 1) := by decide +kernel
theorem dX6_mix_327 : decode cX6_mix 327 = .ok (.iload_n 1, 1) := by decide +kernel
theorem dX6_mix_328 : decode cX6_mix 328 = .ok (.bipush 8, 2) := by decide +kernel
theorem dX6_mix_330 : decode cX6_mix 330 = .ok (.if_icmp .ge 28, 3) := by decide +kernel
theorem dX6_mix_333 : decode cX6_mix 333 = .ok (.aload_n 0, 1) := by decide +kernel
theorem dX6_mix_334 : decode cX6_mix 334 = .ok (.getfield 146, 3) := by decide +kernel
theorem dX6_mix_337 : decode cX6_mix 337 = .ok (.iload_n 1, 1) := by decide +kernel
theorem dX6_mix_338 : decode cX6_mix 338 = .ok (.aload_n 0, 1) := by decide +kernel
theorem dX6_mix_339 : decode cX6_mix 339 = .ok (.getfield 146, 3) := by decide +kernel
theorem dX6_mix_342 : decode cX6_mix 342 = .ok (.iload_n 1, 1) := by decide +kernel
theorem dX6_mix_343 : decode cX6_mix 343 = .ok (.iaload, 1) := by decide +kernel
theorem dX6_mix_344 : decode cX6_mix 344 = .ok (.aload_n 0, 1) := by decide +kernel
theorem dX6_mix_345 : decode cX6_mix 345 = .ok (.getfield 149, 3) := by decide +kernel
theorem dX6_mix_348 : decode cX6_mix 348 = .ok (.iload_n 1, 1) := by decide +kernel
theorem dX6_mix_349 : decode cX6_mix 349 = .ok (.iaload, 1) := by decide +kernel
theorem dX6_mix_350 : decode cX6_mix 350 = .ok (.iadd, 1) := by decide +kernel
theorem dX6_mix_351 : decode cX6_mix 351 = .ok (.iastore, 1) := by decide +kernel
theorem dX6_mix_352 : decode cX6_mix 352 = .ok (.iinc 1 1, 3) := by decide +kernel
theorem dX6_mix_355 : decode cX6_mix 355 = .ok (.goto (-28), 3) := by decide +kernel
theorem dX6_mix_358 : decode cX6_mix 358 = .ok (.return_, 1) := by decide +kernel
theorem dX6_isSum_0 : decode cX6_isSum 0 = .ok (.iconst 1, 1) := by decide +kernel
theorem dX6_isSum_1 : decode cX6_isSum 1 = .ok (.istore_n 3, 1) := by decide +kernel
theorem dX6_isSum_2 : decode cX6_isSum 2 = .ok (.iconst 0, 1) := by decide +kernel
theorem dX6_isSum_3 : decode cX6_isSum 3 = .ok (.istore 4, 2) := by decide +kernel
theorem dX6_isSum_5 : decode cX6_isSum 5 = .ok (.iload 4, 2) := by decide +kernel
theorem dX6_isSum_7 : decode cX6_isSum 7 = .ok (.bipush 8, 2) := by decide +kernel
theorem dX6_isSum_9 : decode cX6_isSum 9 = .ok (.if_icmp .ge 35, 3) := by decide +kernel
theorem dX6_isSum_12 : decode cX6_isSum 12 = .ok (.iload_n 3, 1) := by decide +kernel
theorem dX6_isSum_13 : decode cX6_isSum 13 = .ok (.ifCond .eq 23, 3) := by decide +kernel
theorem dX6_isSum_16 : decode cX6_isSum 16 = .ok (.aload_n 1, 1) := by decide +kernel
theorem dX6_isSum_17 : decode cX6_isSum 17 = .ok (.iload_n 2, 1) := by decide +kernel
theorem dX6_isSum_18 : decode cX6_isSum 18 = .ok (.iload 4, 2) := by decide +kernel
theorem dX6_isSum_20 : decode cX6_isSum 20 = .ok (.iadd, 1) := by decide +kernel
theorem dX6_isSum_21 : decode cX6_isSum 21 = .ok (.iaload, 1) := by decide +kernel
theorem dX6_isSum_22 : decode cX6_isSum 22 = .ok (.aload_n 0, 1) := by decide +kernel
theorem dX6_isSum_23 : decode cX6_isSum 23 = .ok (.getfield 146, 3) := by decide +kernel
theorem dX6_isSum_26 : decode cX6_isSum 26 = .ok (.iload 4, 2) := by decide +kernel
theorem dX6_isSum_28 : decode cX6_isSum 28 = .ok (.iaload, 1) := by decide +kernel
theorem dX6_isSum_29 : decode cX6_isSum 29 = .ok (.if_icmp .ne 7, 3) := by decide +kernel
theorem dX6_isSum_32 : decode cX6_isSum 32 = .ok (.iconst 1, 1) := by decide +kernel
theorem dX6_isSum_33 : decode cX6_isSum 33 = .ok (.goto 4, 3) := by decide +kernel
theorem dX6_isSum_36 : decode cX6_isSum 36 = .ok (.iconst 0, 1) := by decide +kernel
theorem dX6_isSum_37 : decode cX6_isSum 37 = .ok (.istore_n 3, 1) := by decide +kernel
theorem dX6_isSum_38 : decode cX6_isSum 38 = .ok (.iinc 4 1, 3) := by decide +kernel
theorem dX6_isSum_41 : decode cX6_isSum 41 = .ok (.goto (-36), 3) := by decide +kernel
theorem dX6_isSum_44 : decode cX6_isSum 44 = .ok (.iload_n 3, 1) := by decide +kernel
theorem dX6_isSum_45 : decode cX6_isSum 45 = .ok (.ireturn, 1) := by decide +kernel
theorem dX6_keepSum_0 : decode cX6_keepSum 0 = .ok (.iconst 0, 1) := by decide +kernel
theorem dX6_keepSum_1 : decode cX6_keepSum 1 = .ok (.istore_n 3, 1) := by decide +kernel
theorem dX6_keepSum_2 : decode cX6_keepSum 2 = .ok (.iload_n 3, 1) := by decide +kernel
theorem dX6_keepSum_3 : decode cX6_keepSum 3 = .ok (.bipush 8, 2) := by decide +kernel
theorem dX6_keepSum_5 : decode cX6_keepSum 5 = .ok (.if_icmp .ge 20, 3) := by decide +kernel
theorem dX6_keepSum_8 : decode cX6_keepSum 8 = .ok (.aload_n 1, 1) := by decide +kernel
theorem dX6_keepSum_9 : decode cX6_keepSum 9 = .ok (.iload_n 2, 1) := by decide +kernel
theorem dX6_keepSum_10 : decode cX6_keepSum 10 = .ok (.iload_n 3, 1) := by decide +kernel
theorem dX6_keepSum_11 : decode cX6_keepSum 11 = .ok (.iadd, 1) := by decide +kernel
theorem dX6_keepSum_12 : decode cX6_keepSum 12 = .ok (.aload_n 0, 1) := by decide +kernel
theorem dX6_keepSum_13 : decode cX6_keepSum 13 = .ok (.getfield 146, 3) := by decide +kernel
theorem dX6_keepSum_16 : decode cX6_keepSum 16 = .ok (.iload_n 3, 1) := by decide +kernel
theorem dX6_keepSum_17 : decode cX6_keepSum 17 = .ok (.iaload, 1) := by decide +kernel
theorem dX6_keepSum_18 : decode cX6_keepSum 18 = .ok (.iastore, 1) := by decide +kernel
theorem dX6_keepSum_19 : decode cX6_keepSum 19 = .ok (.iinc 3 1, 3) := by decide +kernel
theorem dX6_keepSum_22 : decode cX6_keepSum 22 = .ok (.goto (-20), 3) := by decide +kernel
theorem dX6_keepSum_25 : decode cX6_keepSum 25 = .ok (.return_, 1) := by decide +kernel
set_option maxRecDepth 20000 in
theorem ggX6_add_X6_refused : GoodIn wsX6_add wsX6_refused := goodIn_r _ [7, 8, 9, 10, 11, 12, 13, 14, 15, 16, 17, 18, 19, 20, 21, 22, 23, 24, 25, 26, 27, 28, 29, 30, 31, 32, 33, 34, 35, 36, 37, 38, 39, 40] (by decide +kernel) (by decide +kernel)
set_option maxRecDepth 20000 in
theorem gX6_add_X6_refused : GoodIn wsX6_add (wsV RX6 184 RX6 yX6_refused wsX6_refused) := goodIn_app (goodIn_of _ (by decide +kernel)) ggX6_add_X6_refused
theorem dX6_add_0 : decode cX6_add 0 = .ok (.aload_n 0, 1) := by decide +kernel
theorem dX6_add_1 : decode cX6_add 1 = .ok (.aload_n 0, 1) := by decide +kernel
theorem dX6_add_2 : decode cX6_add 2 = .ok (.getfield 155, 3) := by decide +kernel
theorem dX6_add_5 : decode cX6_add 5 = .ok (.sipush 1500, 3) := by decide +kernel
theorem dX6_add_8 : decode cX6_add 8 = .ok (.if_icmp .ne 7, 3) := by decide +kernel
theorem dX6_add_11 : decode cX6_add 11 = .ok (.iconst 1, 1) := by decide +kernel
theorem dX6_add_12 : decode cX6_add 12 = .ok (.goto 4, 3) := by decide +kernel
theorem dX6_add_15 : decode cX6_add 15 = .ok (.iconst 0, 1) := by decide +kernel
theorem dX6_add_16 : decode cX6_add 16 = .ok (.iconst 0, 1) := by decide +kernel
theorem dX6_add_17 : decode cX6_add 17 = .ok (.iconst 0, 1) := by decide +kernel
theorem dX6_add_18 : decode cX6_add 18 = .ok (.invokevirtual 184, 3) := by decide +kernel
theorem dX6_add_21 : decode cX6_add 21 = .ok (.ifCond .eq 5, 3) := by decide +kernel
theorem dX6_add_24 : decode cX6_add 24 = .ok (.iconst 0, 1) := by decide +kernel
theorem dX6_add_25 : decode cX6_add 25 = .ok (.ireturn, 1) := by decide +kernel
theorem dX6_add_26 : decode cX6_add 26 = .ok (.aload_n 0, 1) := by decide +kernel
theorem dX6_add_27 : decode cX6_add 27 = .ok (.getfield 77, 3) := by decide +kernel
theorem dX6_add_30 : decode cX6_add 30 = .ok (.aload_n 0, 1) := by decide +kernel
theorem dX6_add_31 : decode cX6_add 31 = .ok (.getfield 155, 3) := by decide +kernel
theorem dX6_add_34 : decode cX6_add 34 = .ok (.iload_n 1, 1) := by decide +kernel
theorem dX6_add_35 : decode cX6_add 35 = .ok (.bastore, 1) := by decide +kernel
theorem dX6_add_36 : decode cX6_add 36 = .ok (.aload_n 0, 1) := by decide +kernel
theorem dX6_add_37 : decode cX6_add 37 = .ok (.dup, 1) := by decide +kernel
theorem dX6_add_38 : decode cX6_add 38 = .ok (.getfield 155, 3) := by decide +kernel
theorem dX6_add_41 : decode cX6_add 41 = .ok (.iconst 1, 1) := by decide +kernel
theorem dX6_add_42 : decode cX6_add 42 = .ok (.iadd, 1) := by decide +kernel
theorem dX6_add_43 : decode cX6_add 43 = .ok (.putfield 155, 3) := by decide +kernel
theorem dX6_add_46 : decode cX6_add 46 = .ok (.aload_n 0, 1) := by decide +kernel
theorem dX6_add_47 : decode cX6_add 47 = .ok (.getfield 155, 3) := by decide +kernel
theorem dX6_add_50 : decode cX6_add 50 = .ok (.ireturn, 1) := by decide +kernel
set_option maxRecDepth 20000 in
theorem ggX6_poke_X6_refused : GoodIn wsX6_poke wsX6_refused := goodIn_r _ [7, 8, 9, 10, 11, 12, 13, 14, 15, 16, 17, 18, 19, 20, 21, 22, 23, 24, 25, 26, 27, 28, 29, 30, 31, 32, 33, 34, 35, 36, 37, 38, 39, 40] (by decide +kernel) (by decide +kernel)
set_option maxRecDepth 20000 in
theorem gX6_poke_X6_refused : GoodIn wsX6_poke (wsV RX6 184 RX6 yX6_refused wsX6_refused) := goodIn_app (goodIn_of _ (by decide +kernel)) ggX6_poke_X6_refused
theorem dX6_poke_0 : decode cX6_poke 0 = .ok (.aload_n 0, 1) := by decide +kernel
theorem dX6_poke_1 : decode cX6_poke 1 = .ok (.lload_n 1, 1) := by decide +kernel
theorem dX6_poke_2 : decode cX6_poke 2 = .ok (.lconst 0, 1) := by decide +kernel
theorem dX6_poke_3 : decode cX6_poke 3 = .ok (.lcmp, 1) := by decide +kernel
theorem dX6_poke_4 : decode cX6_poke 4 = .ok (.ifCond .lt 13, 3) := by decide +kernel
theorem dX6_poke_7 : decode cX6_poke 7 = .ok (.lload_n 1, 1) := by decide +kernel
theorem dX6_poke_8 : decode cX6_poke 8 = .ok (.aload_n 0, 1) := by decide +kernel
theorem dX6_poke_9 : decode cX6_poke 9 = .ok (.getfield 155, 3) := by decide +kernel
theorem dX6_poke_12 : decode cX6_poke 12 = .ok (.i2l, 1) := by decide +kernel
theorem dX6_poke_13 : decode cX6_poke 13 = .ok (.lcmp, 1) := by decide +kernel
theorem dX6_poke_14 : decode cX6_poke 14 = .ok (.ifCond .lt 7, 3) := by decide +kernel
theorem dX6_poke_17 : decode cX6_poke 17 = .ok (.iconst 1, 1) := by decide +kernel
theorem dX6_poke_18 : decode cX6_poke 18 = .ok (.goto 4, 3) := by decide +kernel
theorem dX6_poke_21 : decode cX6_poke 21 = .ok (.iconst 0, 1) := by decide +kernel
theorem dX6_poke_22 : decode cX6_poke 22 = .ok (.iconst 0, 1) := by decide +kernel
theorem dX6_poke_23 : decode cX6_poke 23 = .ok (.iconst 0, 1) := by decide +kernel
theorem dX6_poke_24 : decode cX6_poke 24 = .ok (.invokevirtual 184, 3) := by decide +kernel
theorem dX6_poke_27 : decode cX6_poke 27 = .ok (.ifCond .eq 5, 3) := by decide +kernel
theorem dX6_poke_30 : decode cX6_poke 30 = .ok (.iconst 0, 1) := by decide +kernel
theorem dX6_poke_31 : decode cX6_poke 31 = .ok (.ireturn, 1) := by decide +kernel
theorem dX6_poke_32 : decode cX6_poke 32 = .ok (.lload_n 1, 1) := by decide +kernel
theorem dX6_poke_33 : decode cX6_poke 33 = .ok (.l2i, 1) := by decide +kernel
theorem dX6_poke_34 : decode cX6_poke 34 = .ok (.istore 4, 2) := by decide +kernel
theorem dX6_poke_36 : decode cX6_poke 36 = .ok (.aload_n 0, 1) := by decide +kernel
theorem dX6_poke_37 : decode cX6_poke 37 = .ok (.getfield 77, 3) := by decide +kernel
theorem dX6_poke_40 : decode cX6_poke 40 = .ok (.iload 4, 2) := by decide +kernel
theorem dX6_poke_42 : decode cX6_poke 42 = .ok (.aload_n 0, 1) := by decide +kernel
theorem dX6_poke_43 : decode cX6_poke 43 = .ok (.getfield 77, 3) := by decide +kernel
theorem dX6_poke_46 : decode cX6_poke 46 = .ok (.iload 4, 2) := by decide +kernel
theorem dX6_poke_48 : decode cX6_poke 48 = .ok (.baload, 1) := by decide +kernel
theorem dX6_poke_49 : decode cX6_poke 49 = .ok (.iload_n 3, 1) := by decide +kernel
theorem dX6_poke_50 : decode cX6_poke 50 = .ok (.ixor, 1) := by decide +kernel
theorem dX6_poke_51 : decode cX6_poke 51 = .ok (.i2b, 1) := by decide +kernel
theorem dX6_poke_52 : decode cX6_poke 52 = .ok (.bastore, 1) := by decide +kernel
theorem dX6_poke_53 : decode cX6_poke 53 = .ok (.aload_n 0, 1) := by decide +kernel
theorem dX6_poke_54 : decode cX6_poke 54 = .ok (.getfield 77, 3) := by decide +kernel
theorem dX6_poke_57 : decode cX6_poke 57 = .ok (.iload 4, 2) := by decide +kernel
theorem dX6_poke_59 : decode cX6_poke 59 = .ok (.baload, 1) := by decide +kernel
theorem dX6_poke_60 : decode cX6_poke 60 = .ok (.sipush 255, 3) := by decide +kernel
theorem dX6_poke_63 : decode cX6_poke 63 = .ok (.iand, 1) := by decide +kernel
theorem dX6_poke_64 : decode cX6_poke 64 = .ok (.ireturn, 1) := by decide +kernel
