theorem dX5_poke_0 : decode cX5_poke 0 = .ok (.lload_n 1, 1) := by decide +kernel
theorem dX5_poke_1 : decode cX5_poke 1 = .ok (.lconst 0, 1) := by decide +kernel
theorem dX5_poke_2 : decode cX5_poke 2 = .ok (.lcmp, 1) := by decide +kernel
theorem dX5_poke_3 : decode cX5_poke 3 = .ok (.ifCond .lt 13, 3) := by decide +kernel
theorem dX5_poke_6 : decode cX5_poke 6 = .ok (.lload_n 1, 1) := by decide +kernel
theorem dX5_poke_7 : decode cX5_poke 7 = .ok (.aload_n 0, 1) := by decide +kernel
theorem dX5_poke_8 : decode cX5_poke 8 = .ok (.getfield 47, 3) := by decide +kernel
theorem dX5_poke_11 : decode cX5_poke 11 = .ok (.i2l, 1) := by decide +kernel
theorem dX5_poke_12 : decode cX5_poke 12 = .ok (.lcmp, 1) := by decide +kernel
theorem dX5_poke_13 : decode cX5_poke 13 = .ok (.ifCond .lt 13, 3) := by decide +kernel
theorem dX5_poke_16 : decode cX5_poke 16 = .ok (.new 58, 3) := by decide +kernel
theorem dX5_poke_19 : decode cX5_poke 19 = .ok (.dup, 1) := by decide +kernel
theorem dX5_poke_20 : decode cX5_poke 20 = .ok (.ldc 60, 2) := by decide +kernel
theorem dX5_poke_22 : decode cX5_poke 22 = .ok (.invokespecial 62, 3) := by decide +kernel
theorem dX5_poke_25 : decode cX5_poke 25 = .ok (.athrow, 1) := by decide +kernel
theorem dX5_poke_26 : decode cX5_poke 26 = .ok (.lload_n 1, 1) := by decide +kernel
theorem dX5_poke_27 : decode cX5_poke 27 = .ok (.l2i, 1) := by decide +kernel
theorem dX5_poke_28 : decode cX5_poke 28 = .ok (.istore 4, 2) := by decide +kernel
theorem dX5_poke_30 : decode cX5_poke 30 = .ok (.aload_n 0, 1) := by decide +kernel
theorem dX5_poke_31 : decode cX5_poke 31 = .ok (.getfield 9, 3) := by decide +kernel
theorem dX5_poke_34 : decode cX5_poke 34 = .ok (.iload 4, 2) := by decide +kernel
theorem dX5_poke_36 : decode cX5_poke 36 = .ok (.aload_n 0, 1) := by decide +kernel
theorem dX5_poke_37 : decode cX5_poke 37 = .ok (.getfield 9, 3) := by decide +kernel
theorem dX5_poke_40 : decode cX5_poke 40 = .ok (.iload 4, 2) := by decide +kernel
theorem dX5_poke_42 : decode cX5_poke 42 = .ok (.baload, 1) := by decide +kernel
theorem dX5_poke_43 : decode cX5_poke 43 = .ok (.iload_n 3, 1) := by decide +kernel
theorem dX5_poke_44 : decode cX5_poke 44 = .ok (.ixor, 1) := by decide +kernel
theorem dX5_poke_45 : decode cX5_poke 45 = .ok (.i2b, 1) := by decide +kernel
theorem dX5_poke_46 : decode cX5_poke 46 = .ok (.bastore, 1) := by decide +kernel
theorem dX5_poke_47 : decode cX5_poke 47 = .ok (.aload_n 0, 1) := by decide +kernel
theorem dX5_poke_48 : decode cX5_poke 48 = .ok (.getfield 9, 3) := by decide +kernel
theorem dX5_poke_51 : decode cX5_poke 51 = .ok (.iload 4, 2) := by decide +kernel
theorem dX5_poke_53 : decode cX5_poke 53 = .ok (.baload, 1) := by decide +kernel
theorem dX5_poke_54 : decode cX5_poke 54 = .ok (.sipush 255, 3) := by decide +kernel
theorem dX5_poke_57 : decode cX5_poke 57 = .ok (.iand, 1) := by decide +kernel
theorem dX5_poke_58 : decode cX5_poke 58 = .ok (.ireturn, 1) := by decide +kernel
set_option maxRecDepth 20000 in
theorem ggX5_place_X1_shareByte : GoodIn wsX5_place wsX1_shareByte := goodIn_ca (goodIn_r _ [12, 13, 14, 15, 29, 30, 31, 32] (by decide +kernel) (by decide +kernel)) (goodIn_sub (fun _ h => List.mem_cons_of_mem _ (List.mem_append_right _ h)) (by decide +kernel))
set_option maxRecDepth 20000 in
theorem gX5_place_X1_shareByte : GoodIn wsX5_place (wsV RX5 68 RX1 yX1_shareByte wsX1_shareByte) := goodIn_app (goodIn_of _ (by decide +kernel)) ggX5_place_X1_shareByte
set_option maxRecDepth 20000 in
theorem ggX5_place_X1_put : GoodIn wsX5_place wsX1_put := goodIn_ca (goodIn_r _ [19, 15, 13, 14, 29, 30, 31, 32] (by decide +kernel) (by decide +kernel)) (goodIn_sub (fun _ h => List.mem_cons_of_mem _ (List.mem_append_right _ h)) (by decide +kernel))
set_option maxRecDepth 20000 in
theorem gX5_place_X1_put : GoodIn wsX5_place (wsV RX5 79 RX1 yX1_put wsX1_put) := goodIn_app (goodIn_of _ (by decide +kernel)) ggX5_place_X1_put
theorem dX5_place_0 : decode cX5_place 0 = .ok (.lload_n 1, 1) := by decide +kernel
theorem dX5_place_1 : decode cX5_place 1 = .ok (.lconst 0, 1) := by decide +kernel
theorem dX5_place_2 : decode cX5_place 2 = .ok (.lcmp, 1) := by decide +kernel
theorem dX5_place_3 : decode cX5_place 3 = .ok (.ifCond .lt 19, 3) := by decide +kernel
theorem dX5_place_6 : decode cX5_place 6 = .ok (.lload_n 3, 1) := by decide +kernel
theorem dX5_place_7 : decode cX5_place 7 = .ok (.aload_n 0, 1) := by decide +kernel
theorem dX5_place_8 : decode cX5_place 8 = .ok (.getfield 47, 3) := by decide +kernel
theorem dX5_place_11 : decode cX5_place 11 = .ok (.i2l, 1) := by decide +kernel
theorem dX5_place_12 : decode cX5_place 12 = .ok (.lcmp, 1) := by decide +kernel
theorem dX5_place_13 : decode cX5_place 13 = .ok (.ifCond .gt 9, 3) := by decide +kernel
theorem dX5_place_16 : decode cX5_place 16 = .ok (.lload_n 1, 1) := by decide +kernel
theorem dX5_place_17 : decode cX5_place 17 = .ok (.lload_n 3, 1) := by decide +kernel
theorem dX5_place_18 : decode cX5_place 18 = .ok (.lcmp, 1) := by decide +kernel
theorem dX5_place_19 : decode cX5_place 19 = .ok (.ifCond .lt 13, 3) := by decide +kernel
theorem dX5_place_22 : decode cX5_place 22 = .ok (.new 63, 3) := by decide +kernel
theorem dX5_place_25 : decode cX5_place 25 = .ok (.dup, 1) := by decide +kernel
theorem dX5_place_26 : decode cX5_place 26 = .ok (.ldc 65, 2) := by decide +kernel
theorem dX5_place_28 : decode cX5_place 28 = .ok (.invokespecial 67, 3) := by decide +kernel
theorem dX5_place_31 : decode cX5_place 31 = .ok (.athrow, 1) := by decide +kernel
theorem dX5_place_32 : decode cX5_place 32 = .ok (.lload_n 1, 1) := by decide +kernel
theorem dX5_place_33 : decode cX5_place 33 = .ok (.l2i, 1) := by decide +kernel
theorem dX5_place_34 : decode cX5_place 34 = .ok (.istore 5, 2) := by decide +kernel
theorem dX5_place_36 : decode cX5_place 36 = .ok (.lload_n 3, 1) := by decide +kernel
theorem dX5_place_37 : decode cX5_place 37 = .ok (.l2i, 1) := by decide +kernel
theorem dX5_place_38 : decode cX5_place 38 = .ok (.istore 6, 2) := by decide +kernel
theorem dX5_place_40 : decode cX5_place 40 = .ok (.aload_n 0, 1) := by decide +kernel
theorem dX5_place_41 : decode cX5_place 41 = .ok (.getfield 16, 3) := by decide +kernel
theorem dX5_place_44 : decode cX5_place 44 = .ok (.iload 5, 2) := by decide +kernel
theorem dX5_place_46 : decode cX5_place 46 = .ok (.iload 6, 2) := by decide +kernel
theorem dX5_place_48 : decode cX5_place 48 = .ok (.invokevirtual 68, 3) := by decide +kernel
theorem dX5_place_51 : decode cX5_place 51 = .ok (.ifCond .eq 13, 3) := by decide +kernel
theorem dX5_place_54 : decode cX5_place 54 = .ok (.new 63, 3) := by decide +kernel
theorem dX5_place_57 : decode cX5_place 57 = .ok (.dup, 1) := by decide +kernel
theorem dX5_place_58 : decode cX5_place 58 = .ok (.ldc 72, 2) := by decide +kernel
theorem dX5_place_60 : decode cX5_place 60 = .ok (.invokespecial 67, 3) := by decide +kernel
theorem dX5_place_63 : decode cX5_place 63 = .ok (.athrow, 1) := by decide +kernel
theorem dX5_place_64 : decode cX5_place 64 = .ok (.aload_n 0, 1) := by decide +kernel
theorem dX5_place_65 : decode cX5_place 65 = .ok (.getfield 16, 3) := by decide +kernel
theorem dX5_place_68 : decode cX5_place 68 = .ok (.getfield 74, 3) := by decide +kernel
theorem dX5_place_71 : decode cX5_place 71 = .ok (.bipush 8, 2) := by decide +kernel
theorem dX5_place_73 : decode cX5_place 73 = .ok (.if_icmp .lt 13, 3) := by decide +kernel
theorem dX5_place_76 : decode cX5_place 76 = .ok (.new 51, 3) := by decide +kernel
theorem dX5_place_79 : decode cX5_place 79 = .ok (.dup, 1) := by decide +kernel
theorem dX5_place_80 : decode cX5_place 80 = .ok (.ldc 77, 2) := by decide +kernel
theorem dX5_place_82 : decode cX5_place 82 = .ok (.invokespecial 55, 3) := by decide +kernel
theorem dX5_place_85 : decode cX5_place 85 = .ok (.athrow, 1) := by decide +kernel
theorem dX5_place_86 : decode cX5_place 86 = .ok (.aload_n 0, 1) := by decide +kernel
theorem dX5_place_87 : decode cX5_place 87 = .ok (.getfield 16, 3) := by decide +kernel
theorem dX5_place_90 : decode cX5_place 90 = .ok (.iload 5, 2) := by decide +kernel
theorem dX5_place_92 : decode cX5_place 92 = .ok (.iload 6, 2) := by decide +kernel
theorem dX5_place_94 : decode cX5_place 94 = .ok (.invokevirtual 79, 3) := by decide +kernel
theorem dX5_place_97 : decode cX5_place 97 = .ok (.ireturn, 1) := by decide +kernel
set_option maxRecDepth 20000 in
theorem ggX5_sign_X5_isField : GoodIn wsX5_sign wsX5_isField := goodIn_r _ [25] (by decide +kernel) (by decide +kernel)
set_option maxRecDepth 20000 in
theorem gX5_sign_X5_isField : GoodIn wsX5_sign (va_wsS RX5 83 yX5_isField wsX5_isField) := goodIn_app (goodIn_of _ (by decide +kernel)) ggX5_sign_X5_isField
set_option maxRecDepth 20000 in
theorem ggX5_sign_X1_latestFree : GoodIn wsX5_sign wsX1_latestFree := goodIn_ca (goodIn_r _ [30, 31, 32, 139, 140, 141, 142] (by decide +kernel) (by decide +kernel)) (goodIn_sub (fun _ h => List.mem_cons_of_mem _ (List.mem_append_right _ h)) (by decide +kernel))
set_option maxRecDepth 20000 in
theorem gX5_sign_X1_latestFree : GoodIn wsX5_sign (wsV RX5 89 RX1 yX1_latestFree wsX1_latestFree) := goodIn_app (goodIn_of _ (by decide +kernel)) ggX5_sign_X1_latestFree
set_option maxRecDepth 20000 in
theorem ggX5_sign_X5_hasField : GoodIn wsX5_sign wsX5_hasField := goodIn_r _ [35] (by decide +kernel) (by decide +kernel)
set_option maxRecDepth 20000 in
theorem gX5_sign_X5_hasField : GoodIn wsX5_sign (va_wsS RX5 96 yX5_hasField wsX5_hasField) := goodIn_app (goodIn_of _ (by decide +kernel)) ggX5_sign_X5_hasField
set_option maxRecDepth 20000 in
theorem ggX5_sign_X0_put : GoodIn wsX5_sign wsX0_put := goodIn_ca (goodIn_r _ [40, 41, 42, 43, 122, 123, 124] (by decide +kernel) (by decide +kernel)) (goodIn_sub (fun _ h => List.mem_cons_of_mem _ (List.mem_append_right _ h)) (by decide +kernel))
set_option maxRecDepth 20000 in
theorem gX5_sign_X0_put : GoodIn wsX5_sign (wsV RX5 110 RX0 yX0_put wsX0_put) := goodIn_app (goodIn_of _ (by decide +kernel)) ggX5_sign_X0_put
set_option maxRecDepth 20000 in
theorem ggX5_sign_X3_init : GoodIn wsX5_sign wsX3_init := goodIn_ca (goodIn_r _ [46, 47, 48, 49, 50, 51, 52, 53, 54, 55, 56, 57, 58, 59, 60, 61, 62, 125, 126, 127, 128, 129, 130, 131, 132, 133, 134, 135, 136, 137, 138] (by decide +kernel) (by decide +kernel)) (goodIn_sub (fun _ h => List.mem_cons_of_mem _ (List.mem_append_right _ h)) (by decide +kernel))
set_option maxRecDepth 20000 in
theorem gX5_sign_X3_init : GoodIn wsX5_sign (wsX3_init) := ggX5_sign_X3_init
set_option maxRecDepth 20000 in
theorem ggX5_sign_X5_hashSigned : GoodIn wsX5_sign wsX5_hashSigned := goodIn_ca (goodIn_r _ [66, 18, 67, 68, 69, 70, 71, 72, 73, 74, 75, 76, 77, 78, 79, 80, 81, 82, 83, 84, 85, 86, 87, 88, 89, 90, 91, 92, 93, 94, 95, 96, 97, 98, 99, 100, 101, 102, 103, 104, 105, 106, 107, 108, 113, 114, 115, 116, 117, 118, 119, 120, 121, 125, 126, 127, 128, 129, 130, 131, 132, 133, 134, 135, 136, 137, 138, 143, 144, 145, 146] (by decide +kernel) (by decide +kernel)) (goodIn_sub (fun _ h => List.mem_cons_of_mem _ (List.mem_append_right _ h)) (by decide +kernel))
set_option maxRecDepth 20000 in
theorem gX5_sign_X5_hashSigned : GoodIn wsX5_sign (wsV RX5 121 RX5 yX5_hashSigned wsX5_hashSigned) := goodIn_app (goodIn_of _ (by decide +kernel)) ggX5_sign_X5_hashSigned
set_option maxRecDepth 20000 in
theorem ggX5_sign_X2_copyWords : GoodIn wsX5_sign wsX2_copyWords := goodIn_ca (goodIn_r _ [112, 90, 143, 144, 145, 146] (by decide +kernel) (by decide +kernel)) (goodIn_sub (fun _ h => List.mem_cons_of_mem _ (List.mem_append_right _ h)) (by decide +kernel))
set_option maxRecDepth 20000 in
theorem gX5_sign_X2_copyWords : GoodIn wsX5_sign (wsV RX5 128 RX2 yX2_copyWords wsX2_copyWords) := goodIn_app (goodIn_of _ (by decide +kernel)) ggX5_sign_X2_copyWords
theorem dX5_sign_0 : decode cX5_sign 0 = .ok (.iload_n 1, 1) := by decide +kernel
theorem dX5_sign_1 : decode cX5_sign 1 = .ok (.invokestatic 83, 3) := by decide +kernel
theorem dX5_sign_4 : decode cX5_sign 4 = .ok (.ifCond .eq 9, 3) := by decide +kernel
theorem dX5_sign_7 : decode cX5_sign 7 = .ok (.lload_n 3, 1) := by decide +kernel
theorem dX5_sign_8 : decode cX5_sign 8 = .ok (.lconst 0, 1) := by decide +kernel
theorem dX5_sign_9 : decode cX5_sign 9 = .ok (.lcmp, 1) := by decide +kernel
theorem dX5_sign_10 : decode cX5_sign 10 = .ok (.ifCond .ge 13, 3) := by decide +kernel
theorem dX5_sign_13 : decode cX5_sign 13 = .ok (.new 63, 3) := by decide +kernel
theorem dX5_sign_16 : decode cX5_sign 16 = .ok (.dup, 1) := by decide +kernel
theorem dX5_sign_17 : decode cX5_sign 17 = .ok (.ldc 87, 2) := by decide +kernel
theorem dX5_sign_19 : decode cX5_sign 19 = .ok (.invokespecial 67, 3) := by decide +kernel
theorem dX5_sign_22 : decode cX5_sign 22 = .ok (.athrow, 1) := by decide +kernel
theorem dX5_sign_23 : decode cX5_sign 23 = .ok (.aload_n 0, 1) := by decide +kernel
theorem dX5_sign_24 : decode cX5_sign 24 = .ok (.getfield 16, 3) := by decide +kernel
theorem dX5_sign_27 : decode cX5_sign 27 = .ok (.invokevirtual 89, 3) := by decide +kernel
theorem dX5_sign_30 : decode cX5_sign 30 = .ok (.istore 5, 2) := by decide +kernel
theorem dX5_sign_32 : decode cX5_sign 32 = .ok (.iload 5, 2) := by decide +kernel
theorem dX5_sign_34 : decode cX5_sign 34 = .ok (.ifCond .lt 14, 3) := by decide +kernel
theorem dX5_sign_37 : decode cX5_sign 37 = .ok (.aload_n 0, 1) := by decide +kernel
theorem dX5_sign_38 : decode cX5_sign 38 = .ok (.getfield 93, 3) := by decide +kernel
theorem dX5_sign_41 : decode cX5_sign 41 = .ok (.iload_n 1, 1) := by decide +kernel
theorem dX5_sign_42 : decode cX5_sign 42 = .ok (.invokestatic 96, 3) := by decide +kernel
theorem dX5_sign_45 : decode cX5_sign 45 = .ok (.ifCond .eq 13, 3) := by decide +kernel
theorem dX5_sign_48 : decode cX5_sign 48 = .ok (.new 99, 3) := by decide +kernel
theorem dX5_sign_51 : decode cX5_sign 51 = .ok (.dup, 1) := by decide +kernel
theorem dX5_sign_52 : decode cX5_sign 52 = .ok (.ldc 101, 2) := by decide +kernel
theorem dX5_sign_54 : decode cX5_sign 54 = .ok (.invokespecial 103, 3) := by decide +kernel
theorem dX5_sign_57 : decode cX5_sign 57 = .ok (.athrow, 1) := by decide +kernel
theorem dX5_sign_58 : decode cX5_sign 58 = .ok (.aload_n 0, 1) := by decide +kernel
theorem dX5_sign_59 : decode cX5_sign 59 = .ok (.getfield 104, 3) := by decide +kernel
theorem dX5_sign_62 : decode cX5_sign 62 = .ok (.ifCond .le 7, 3) := by decide +kernel
theorem dX5_sign_65 : decode cX5_sign 65 = .ok (.iconst 1, 1) := by decide +kernel
theorem dX5_sign_66 : decode cX5_sign 66 = .ok (.goto 4, 3) := by decide +kernel
theorem dX5_sign_69 : decode cX5_sign 69 = .ok (.iconst 0, 1) := by decide +kernel
theorem dX5_sign_70 : decode cX5_sign 70 = .ok (.istore 6, 2) := by decide +kernel
theorem dX5_sign_72 : decode cX5_sign 72 = .ok (.aload_n 0, 1) := by decide +kernel
theorem dX5_sign_73 : decode cX5_sign 73 = .ok (.getfield 104, 3) := by decide +kernel
theorem dX5_sign_76 : decode cX5_sign 76 = .ok (.bipush 8, 2) := by decide +kernel
theorem dX5_sign_78 : decode cX5_sign 78 = .ok (.if_icmp .ge 20, 3) := by decide +kernel
theorem dX5_sign_81 : decode cX5_sign 81 = .ok (.iload 6, 2) := by decide +kernel
theorem dX5_sign_83 : decode cX5_sign 83 = .ok (.ifCond .eq 25, 3) := by decide +kernel
theorem dX5_sign_86 : decode cX5_sign 86 = .ok (.aload_n 0, 1) := by decide +kernel
theorem dX5_sign_87 : decode cX5_sign 87 = .ok (.getfield 29, 3) := by decide +kernel
theorem dX5_sign_90 : decode cX5_sign 90 = .ok (.getfield 107, 3) := by decide +kernel
theorem dX5_sign_93 : decode cX5_sign 93 = .ok (.bipush 40, 2) := by decide +kernel
theorem dX5_sign_95 : decode cX5_sign 95 = .ok (.if_icmp .lt 13, 3) := by decide +kernel
theorem dX5_sign_98 : decode cX5_sign 98 = .ok (.new 51, 3) := by decide +kernel
theorem dX5_sign_101 : decode cX5_sign 101 = .ok (.dup, 1) := by decide +kernel
theorem dX5_sign_102 : decode cX5_sign 102 = .ok (.ldc 108, 2) := by decide +kernel
theorem dX5_sign_104 : decode cX5_sign 104 = .ok (.invokespecial 55, 3) := by decide +kernel
theorem dX5_sign_107 : decode cX5_sign 107 = .ok (.athrow, 1) := by decide +kernel
theorem dX5_sign_108 : decode cX5_sign 108 = .ok (.iload 6, 2) := by decide +kernel
theorem dX5_sign_110 : decode cX5_sign 110 = .ok (.ifCond .eq 13, 3) := by decide +kernel
theorem dX5_sign_113 : decode cX5_sign 113 = .ok (.aload_n 0, 1) := by decide +kernel
theorem dX5_sign_114 : decode cX5_sign 114 = .ok (.getfield 29, 3) := by decide +kernel
theorem dX5_sign_117 : decode cX5_sign 117 = .ok (.iconst 0, 1) := by decide +kernel
theorem dX5_sign_118 : decode cX5_sign 118 = .ok (.iload_n 1, 1) := by decide +kernel
theorem dX5_sign_119 : decode cX5_sign 119 = .ok (.invokevirtual 110, 3) := by decide +kernel
theorem dX5_sign_122 : decode cX5_sign 122 = .ok (.pop, 1) := by decide +kernel
theorem dX5_sign_123 : decode cX5_sign 123 = .ok (.new 20, 3) := by decide +kernel
theorem dX5_sign_126 : decode cX5_sign 126 = .ok (.dup, 1) := by decide +kernel
theorem dX5_sign_127 : decode cX5_sign 127 = .ok (.aload_n 0, 1) := by decide +kernel
theorem dX5_sign_128 : decode cX5_sign 128 = .ok (.getfield 16, 3) := by decide +kernel
theorem dX5_sign_131 : decode cX5_sign 131 = .ok (.getfield 111, 3) := by decide +kernel
theorem dX5_sign_134 : decode cX5_sign 134 = .ok (.iload 5, 2) := by decide +kernel
theorem dX5_sign_136 : decode cX5_sign 136 = .ok (.iaload, 1) := by decide +kernel
theorem dX5_sign_137 : decode cX5_sign 137 = .ok (.aload_n 0, 1) := by decide +kernel
theorem dX5_sign_138 : decode cX5_sign 138 = .ok (.getfield 16, 3) := by decide +kernel
theorem dX5_sign_141 : decode cX5_sign 141 = .ok (.getfield 115, 3) := by decide +kernel
theorem dX5_sign_144 : decode cX5_sign 144 = .ok (.iload 5, 2) := by decide +kernel
theorem dX5_sign_146 : decode cX5_sign 146 = .ok (.iaload, 1) := by decide +kernel
theorem dX5_sign_147 : decode cX5_sign 147 = .ok (.aload_n 0, 1) := by decide +kernel
theorem dX5_sign_148 : decode cX5_sign 148 = .ok (.getfield 47, 3) := by decide +kernel
theorem dX5_sign_151 : decode cX5_sign 151 = .ok (.iload_n 2, 1) := by decide +kernel
theorem dX5_sign_152 : decode cX5_sign 152 = .ok (.lload_n 3, 1) := by decide +kernel
theorem dX5_sign_153 : decode cX5_sign 153 = .ok (.aload_n 0, 1) := by decide +kernel
theorem dX5_sign_154 : decode cX5_sign 154 = .ok (.getfield 29, 3) := by decide +kernel
theorem dX5_sign_157 : decode cX5_sign 157 = .ok (.getfield 107, 3) := by decide +kernel
theorem dX5_sign_160 : decode cX5_sign 160 = .ok (.invokespecial 118, 3) := by decide +kernel
theorem dX5_sign_163 : decode cX5_sign 163 = .ok (.astore 7, 2) := by decide +kernel
theorem dX5_sign_165 : decode cX5_sign 165 = .ok (.aload_n 0, 1) := by decide +kernel
theorem dX5_sign_166 : decode cX5_sign 166 = .ok (.aload 7, 2) := by decide +kernel
theorem dX5_sign_168 : decode cX5_sign 168 = .ok (.invokevirtual 121, 3) := by decide +kernel
theorem dX5_sign_171 : decode cX5_sign 171 = .ok (.aload_n 0, 1) := by decide +kernel
theorem dX5_sign_172 : decode cX5_sign 172 = .ok (.getfield 43, 3) := by decide +kernel
theorem dX5_sign_175 : decode cX5_sign 175 = .ok (.aload 7, 2) := by decide +kernel
theorem dX5_sign_177 : decode cX5_sign 177 = .ok (.getfield 125, 3) := by decide +kernel
theorem dX5_sign_180 : decode cX5_sign 180 = .ok (.invokevirtual 128, 3) := by decide +kernel
theorem dX5_sign_183 : decode cX5_sign 183 = .ok (.aload_n 0, 1) := by decide +kernel
theorem dX5_sign_184 : decode cX5_sign 184 = .ok (.getfield 16, 3) := by decide +kernel
theorem dX5_sign_187 : decode cX5_sign 187 = .ok (.getfield 132, 3) := by decide +kernel
theorem dX5_sign_190 : decode cX5_sign 190 = .ok (.iload 5, 2) := by decide +kernel
theorem dX5_sign_192 : decode cX5_sign 192 = .ok (.iconst 1, 1) := by decide +kernel
theorem dX5_sign_193 : decode cX5_sign 193 = .ok (.bastore, 1) := by decide +kernel
theorem dX5_sign_194 : decode cX5_sign 194 = .ok (.aload_n 0, 1) := by decide +kernel
theorem dX5_sign_195 : decode cX5_sign 195 = .ok (.dup, 1) := by decide +kernel
theorem dX5_sign_196 : decode cX5_sign 196 = .ok (.getfield 93, 3) := by decide +kernel
theorem dX5_sign_199 : decode cX5_sign 199 = .ok (.iconst 1, 1) := by decide +kernel
theorem dX5_sign_200 : decode cX5_sign 200 = .ok (.iload_n 1, 1) := by decide +kernel
theorem dX5_sign_201 : decode cX5_sign 201 = .ok (.ishl, 1) := by decide +kernel
theorem dX5_sign_202 : decode cX5_sign 202 = .ok (.ior, 1) := by decide +kernel
theorem dX5_sign_203 : decode cX5_sign 203 = .ok (.putfield 93, 3) := by decide +kernel
theorem dX5_sign_206 : decode cX5_sign 206 = .ok (.aload_n 0, 1) := by decide +kernel
theorem dX5_sign_207 : decode cX5_sign 207 = .ok (.getfield 22, 3) := by decide +kernel
theorem dX5_sign_210 : decode cX5_sign 210 = .ok (.aload_n 0, 1) := by decide +kernel
theorem dX5_sign_211 : decode cX5_sign 211 = .ok (.getfield 104, 3) := by decide +kernel
theorem dX5_sign_214 : decode cX5_sign 214 = .ok (.aload 7, 2) := by decide +kernel
theorem dX5_sign_216 : decode cX5_sign 216 = .ok (.aastore, 1) := by decide +kernel
theorem dX5_sign_217 : decode cX5_sign 217 = .ok (.aload_n 0, 1) := by decide +kernel
theorem dX5_sign_218 : decode cX5_sign 218 = .ok (.dup, 1) := by decide +kernel
theorem dX5_sign_219 : decode cX5_sign 219 = .ok (.getfield 104, 3) := by decide +kernel
theorem dX5_sign_222 : decode cX5_sign 222 = .ok (.iconst 1, 1) := by decide +kernel
theorem dX5_sign_223 : decode cX5_sign 223 = .ok (.iadd, 1) := by decide +kernel
theorem dX5_sign_224 : decode cX5_sign 224 = .ok (.putfield 104, 3) := by decide +kernel
theorem dX5_sign_227 : decode cX5_sign 227 = .ok (.aload_n 0, 1) := by decide +kernel
theorem dX5_sign_228 : decode cX5_sign 228 = .ok (.getfield 104, 3) := by decide +kernel
theorem dX5_sign_231 : decode cX5_sign 231 = .ok (.iconst 1, 1) := by decide +kernel
theorem dX5_sign_232 : decode cX5_sign 232 = .ok (.isub, 1) := by decide +kernel
theorem dX5_sign_233 : decode cX5_sign 233 = .ok (.ireturn, 1) := by decide +kernel
set_option maxRecDepth 20000 in
theorem ggX5_holds_X5_signatureAt : GoodIn wsX5_holds wsX5_signatureAt := goodIn_ca (goodIn_r _ [9, 10, 11, 12, 13, 99, 100, 101, 102, 103, 104, 105, 106, 107] (by decide +kernel) (by decide +kernel)) (goodIn_sub (fun _ h => List.mem_cons_of_mem _ (List.mem_append_left _ (List.mem_append_right _ h))) (by decide +kernel))
set_option maxRecDepth 20000 in
theorem gX5_holds_X5_signatureAt : GoodIn wsX5_holds (wsV RX5 136 RX5 yX5_signatureAt wsX5_signatureAt) := goodIn_app (goodIn_of _ (by decide +kernel)) ggX5_holds_X5_signatureAt
set_option maxRecDepth 20000 in
theorem ggX5_holds_X3_spanFault : GoodIn wsX5_holds wsX3_spanFault := goodIn_ca (goodIn_r _ [18, 19, 20, 21, 22, 108, 109, 110, 111, 112, 113, 114, 115, 116, 117, 118, 119, 120, 121] (by decide +kernel) (by decide +kernel)) (goodIn_sub (fun _ h => List.mem_cons_of_mem _ (List.mem_append_right _ h)) (by decide +kernel))
set_option maxRecDepth 20000 in
theorem gX5_holds_X3_spanFault : GoodIn wsX5_holds (wsV RX5 140 RX3 yX3_spanFault wsX3_spanFault) := goodIn_app (goodIn_of _ (by decide +kernel)) ggX5_holds_X3_spanFault
set_option maxRecDepth 20000 in
theorem ggX5_holds_X5_hashSigned : GoodIn wsX5_holds wsX5_hashSigned := goodIn_ca (goodIn_r _ [26, 1, 27, 28, 29, 30, 31, 32, 33, 34, 35, 36, 37, 38, 39, 40, 41, 42, 43, 44, 45, 46, 47, 48, 49, 50, 51, 52, 53, 54, 55, 56, 57, 58, 59, 60, 61, 62, 63, 64, 65, 66, 67, 68, 99, 100, 101, 102, 103, 104, 105, 106, 107, 108, 109, 110, 111, 112, 113, 114, 115, 116, 117, 118, 119, 120, 121, 122, 123, 124, 125] (by decide +kernel) (by decide +kernel)) (goodIn_sub (fun _ h => List.mem_cons_of_mem _ (List.mem_append_right _ h)) (by decide +kernel))
set_option maxRecDepth 20000 in
theorem gX5_holds_X5_hashSigned : GoodIn wsX5_holds (wsV RX5 121 RX5 yX5_hashSigned wsX5_hashSigned) := goodIn_app (goodIn_of _ (by decide +kernel)) ggX5_holds_X5_hashSigned
set_option maxRecDepth 20000 in
theorem ggX5_holds_X2_hasWords : GoodIn wsX5_holds wsX2_hasWords := goodIn_ca (goodIn_r _ [72, 50, 122, 123, 124, 125] (by decide +kernel) (by decide +kernel)) (goodIn_sub (fun _ h => List.mem_cons_of_mem _ (List.mem_append_right _ h)) (by decide +kernel))
set_option maxRecDepth 20000 in
theorem gX5_holds_X2_hasWords : GoodIn wsX5_holds (wsV RX5 143 RX2 yX2_hasWords wsX2_hasWords) := goodIn_app (goodIn_of _ (by decide +kernel)) ggX5_holds_X2_hasWords
set_option maxRecDepth 20000 in
theorem ggX5_holds_X3_chainHasTime : GoodIn wsX5_holds wsX3_chainHasTime := goodIn_ca (goodIn_r _ [76, 77, 78, 79, 80, 108, 109, 110, 111, 112, 113, 114, 115, 116, 117, 118, 119, 120, 121] (by decide +kernel) (by decide +kernel)) (goodIn_sub (fun _ h => List.mem_cons_of_mem _ (List.mem_append_right _ h)) (by decide +kernel))
set_option maxRecDepth 20000 in
theorem gX5_holds_X3_chainHasTime : GoodIn wsX5_holds (wsV RX5 151 RX3 yX3_chainHasTime wsX3_chainHasTime) := goodIn_app (goodIn_of _ (by decide +kernel)) ggX5_holds_X3_chainHasTime
set_option maxRecDepth 20000 in
theorem ggX5_holds_X0_allAllowedBy : GoodIn wsX5_holds wsX0_allAllowedBy := goodIn_ca (goodIn_r _ [85, 86, 87, 88, 89, 90, 91, 92, 17, 93, 94, 95, 96, 97, 8, 98, 108, 109, 110, 111, 112, 113, 114, 115, 116, 117, 118, 119, 120, 121, 126, 127, 128] (by decide +kernel) (by decide +kernel)) (goodIn_sub (fun _ h => List.mem_cons_of_mem _ (List.mem_append_right _ h)) (by decide +kernel))
set_option maxRecDepth 20000 in
theorem gX5_holds_X0_allAllowedBy : GoodIn wsX5_holds (wsV RX5 155 RX0 yX0_allAllowedBy wsX0_allAllowedBy) := goodIn_app (goodIn_of _ (by decide +kernel)) ggX5_holds_X0_allAllowedBy
theorem dX5_holds_0 : decode cX5_holds 0 = .ok (.aload_n 0, 1) := by decide +kernel
theorem dX5_holds_1 : decode cX5_holds 1 = .ok (.iload_n 1, 1) := by decide +kernel
theorem dX5_holds_2 : decode cX5_holds 2 = .ok (.invokevirtual 136, 3) := by decide +kernel
theorem dX5_holds_5 : decode cX5_holds 5 = .ok (.astore_n 2, 1) := by decide +kernel
theorem dX5_holds_6 : decode cX5_holds 6 = .ok (.aload_n 2, 1) := by decide +kernel
theorem dX5_holds_7 : decode cX5_holds 7 = .ok (.invokevirtual 140, 3) := by decide +kernel
theorem dX5_holds_10 : decode cX5_holds 10 = .ok (.istore_n 3, 1) := by decide +kernel
theorem dX5_holds_11 : decode cX5_holds 11 = .ok (.iload_n 3, 1) := by decide +kernel
theorem dX5_holds_12 : decode cX5_holds 12 = .ok (.ifCond .eq 5, 3) := by decide +kernel
theorem dX5_holds_15 : decode cX5_holds 15 = .ok (.iload_n 3, 1) := by decide +kernel
theorem dX5_holds_16 : decode cX5_holds 16 = .ok (.ireturn, 1) := by decide +kernel
theorem dX5_holds_17 : decode cX5_holds 17 = .ok (.aload_n 0, 1) := by decide +kernel
theorem dX5_holds_18 : decode cX5_holds 18 = .ok (.aload_n 2, 1) := by decide +kernel
theorem dX5_holds_19 : decode cX5_holds 19 = .ok (.invokevirtual 121, 3) := by decide +kernel
theorem dX5_holds_22 : decode cX5_holds 22 = .ok (.aload_n 0, 1) := by decide +kernel
theorem dX5_holds_23 : decode cX5_holds 23 = .ok (.getfield 43, 3) := by decide +kernel
theorem dX5_holds_26 : decode cX5_holds 26 = .ok (.aload_n 2, 1) := by decide +kernel
theorem dX5_holds_27 : decode cX5_holds 27 = .ok (.getfield 125, 3) := by decide +kernel
theorem dX5_holds_30 : decode cX5_holds 30 = .ok (.invokevirtual 143, 3) := by decide +kernel
theorem dX5_holds_33 : decode cX5_holds 33 = .ok (.ifCond .ne 5, 3) := by decide +kernel
theorem dX5_holds_36 : decode cX5_holds 36 = .ok (.iconst 5, 1) := by decide +kernel
theorem dX5_holds_37 : decode cX5_holds 37 = .ok (.ireturn, 1) := by decide +kernel
theorem dX5_holds_38 : decode cX5_holds 38 = .ok (.aload_n 2, 1) := by decide +kernel
theorem dX5_holds_39 : decode cX5_holds 39 = .ok (.getfield 147, 3) := by decide +kernel
theorem dX5_holds_42 : decode cX5_holds 42 = .ok (.ifCond .ne 6, 3) := by decide +kernel
theorem dX5_holds_45 : decode cX5_holds 45 = .ok (.bipush 6, 2) := by decide +kernel
theorem dX5_holds_47 : decode cX5_holds 47 = .ok (.ireturn, 1) := by decide +kernel
theorem dX5_holds_48 : decode cX5_holds 48 = .ok (.aload_n 2, 1) := by decide +kernel
theorem dX5_holds_49 : decode cX5_holds 49 = .ok (.invokevirtual 151, 3) := by decide +kernel
theorem dX5_holds_52 : decode cX5_holds 52 = .ok (.ifCond .ne 6, 3) := by decide +kernel
theorem dX5_holds_55 : decode cX5_holds 55 = .ok (.bipush 7, 2) := by decide +kernel
theorem dX5_holds_57 : decode cX5_holds 57 = .ok (.ireturn, 1) := by decide +kernel
theorem dX5_holds_58 : decode cX5_holds 58 = .ok (.aload_n 0, 1) := by decide +kernel
theorem dX5_holds_59 : decode cX5_holds 59 = .ok (.getfield 29, 3) := by decide +kernel
theorem dX5_holds_62 : decode cX5_holds 62 = .ok (.aload_n 2, 1) := by decide +kernel
theorem dX5_holds_63 : decode cX5_holds 63 = .ok (.invokevirtual 155, 3) := by decide +kernel
theorem dX5_holds_66 : decode cX5_holds 66 = .ok (.ifCond .eq 7, 3) := by decide +kernel
theorem dX5_holds_69 : decode cX5_holds 69 = .ok (.iconst 1, 1) := by decide +kernel
theorem dX5_holds_70 : decode cX5_holds 70 = .ok (.goto 5, 3) := by decide +kernel
theorem dX5_holds_73 : decode cX5_holds 73 = .ok (.bipush 8, 2) := by decide +kernel
theorem dX5_holds_75 : decode cX5_holds 75 = .ok (.ireturn, 1) := by decide +kernel
set_option maxRecDepth 20000 in
theorem ggX5_span_X5_signatureAt : GoodIn wsX5_span wsX5_signatureAt := goodIn_ca (goodIn_r _ [8, 9, 10, 11, 12, 27, 28, 29, 30, 31, 32, 33, 34, 35] (by decide +kernel) (by decide +kernel)) (goodIn_sub (fun _ h => List.mem_cons_of_mem _ (List.mem_append_right _ h)) (by decide +kernel))
set_option maxRecDepth 20000 in
theorem gX5_span_X5_signatureAt : GoodIn wsX5_span (wsV RX5 136 RX5 yX5_signatureAt wsX5_signatureAt) := goodIn_app (goodIn_of _ (by decide +kernel)) ggX5_span_X5_signatureAt
theorem dX5_span_0 : decode cX5_span 0 = .ok (.aload_n 0, 1) := by decide +kernel
theorem dX5_span_1 : decode cX5_span 1 = .ok (.iload_n 1, 1) := by decide +kernel
theorem dX5_span_2 : decode cX5_span 2 = .ok (.invokevirtual 136, 3) := by decide +kernel
theorem dX5_span_5 : decode cX5_span 5 = .ok (.astore 4, 2) := by decide +kernel
theorem dX5_span_7 : decode cX5_span 7 = .ok (.iload_n 2, 1) := by decide +kernel
theorem dX5_span_8 : decode cX5_span 8 = .ok (.ifCond .lt 17, 3) := by decide +kernel
theorem dX5_span_11 : decode cX5_span 11 = .ok (.iload_n 2, 1) := by decide +kernel
theorem dX5_span_12 : decode cX5_span 12 = .ok (.iconst 1, 1) := by decide +kernel
theorem dX5_span_13 : decode cX5_span 13 = .ok (.if_icmp .gt 12, 3) := by decide +kernel
theorem dX5_span_16 : decode cX5_span 16 = .ok (.iload_n 3, 1) := by decide +kernel
theorem dX5_span_17 : decode cX5_span 17 = .ok (.ifCond .lt 8, 3) := by decide +kernel
theorem dX5_span_20 : decode cX5_span 20 = .ok (.iload_n 3, 1) := by decide +kernel
theorem dX5_span_21 : decode cX5_span 21 = .ok (.iconst 1, 1) := by decide +kernel
theorem dX5_span_22 : decode cX5_span 22 = .ok (.if_icmp .le 13, 3) := by decide +kernel
theorem dX5_span_25 : decode cX5_span 25 = .ok (.new 58, 3) := by decide +kernel
theorem dX5_span_28 : decode cX5_span 28 = .ok (.dup, 1) := by decide +kernel
theorem dX5_span_29 : decode cX5_span 29 = .ok (.ldc 159, 2) := by decide +kernel
theorem dX5_span_31 : decode cX5_span 31 = .ok (.invokespecial 62, 3) := by decide +kernel
theorem dX5_span_34 : decode cX5_span 34 = .ok (.athrow, 1) := by decide +kernel
theorem dX5_span_35 : decode cX5_span 35 = .ok (.aload 4, 2) := by decide +kernel
theorem dX5_span_37 : decode cX5_span 37 = .ok (.getfield 161, 3) := by decide +kernel
theorem dX5_span_40 : decode cX5_span 40 = .ok (.iconst 2, 1) := by decide +kernel
theorem dX5_span_41 : decode cX5_span 41 = .ok (.iload_n 2, 1) := by decide +kernel
theorem dX5_span_42 : decode cX5_span 42 = .ok (.imul, 1) := by decide +kernel
theorem dX5_span_43 : decode cX5_span 43 = .ok (.iload_n 3, 1) := by decide +kernel
theorem dX5_span_44 : decode cX5_span 44 = .ok (.iadd, 1) := by decide +kernel
theorem dX5_span_45 : decode cX5_span 45 = .ok (.laload, 1) := by decide +kernel
theorem dX5_span_46 : decode cX5_span 46 = .ok (.lreturn, 1) := by decide +kernel
set_option maxRecDepth 20000 in
theorem ggX5_tell_X5_signatureAt : GoodIn wsX5_tell wsX5_signatureAt := goodIn_ca (goodIn_r _ [8, 9, 10, 11, 12, 27, 28, 29, 30, 31, 32, 33, 34, 35] (by decide +kernel) (by decide +kernel)) (goodIn_sub (fun _ h => List.mem_cons_of_mem _ (List.mem_append_right _ h)) (by decide +kernel))
set_option maxRecDepth 20000 in
theorem gX5_tell_X5_signatureAt : GoodIn wsX5_tell (wsV RX5 136 RX5 yX5_signatureAt wsX5_signatureAt) := goodIn_app (goodIn_of _ (by decide +kernel)) ggX5_tell_X5_signatureAt
theorem dX5_tell_0 : decode cX5_tell 0 = .ok (.aload_n 0, 1) := by decide +kernel
theorem dX5_tell_1 : decode cX5_tell 1 = .ok (.iload_n 1, 1) := by decide +kernel
theorem dX5_tell_2 : decode cX5_tell 2 = .ok (.invokevirtual 136, 3) := by decide +kernel
theorem dX5_tell_5 : decode cX5_tell 5 = .ok (.astore 7, 2) := by decide +kernel
theorem dX5_tell_7 : decode cX5_tell 7 = .ok (.iload_n 2, 1) := by decide +kernel
theorem dX5_tell_8 : decode cX5_tell 8 = .ok (.ifCond .lt 8, 3) := by decide +kernel
theorem dX5_tell_11 : decode cX5_tell 11 = .ok (.iload_n 2, 1) := by decide +kernel
theorem dX5_tell_12 : decode cX5_tell 12 = .ok (.iconst 1, 1) := by decide +kernel
theorem dX5_tell_13 : decode cX5_tell 13 = .ok (.if_icmp .le 13, 3) := by decide +kernel
theorem dX5_tell_16 : decode cX5_tell 16 = .ok (.new 58, 3) := by decide +kernel
theorem dX5_tell_19 : decode cX5_tell 19 = .ok (.dup, 1) := by decide +kernel
theorem dX5_tell_20 : decode cX5_tell 20 = .ok (.ldc 165, 2) := by decide +kernel
theorem dX5_tell_22 : decode cX5_tell 22 = .ok (.invokespecial 62, 3) := by decide +kernel
theorem dX5_tell_25 : decode cX5_tell 25 = .ok (.athrow, 1) := by decide +kernel
theorem dX5_tell_26 : decode cX5_tell 26 = .ok (.aload 7, 2) := by decide +kernel
theorem dX5_tell_28 : decode cX5_tell 28 = .ok (.getfield 161, 3) := by decide +kernel
theorem dX5_tell_31 : decode cX5_tell 31 = .ok (.iconst 2, 1) := by decide +kernel
theorem dX5_tell_32 : decode cX5_tell 32 = .ok (.iload_n 2, 1) := by decide +kernel
theorem dX5_tell_33 : decode cX5_tell 33 = .ok (.imul, 1) := by decide +kernel
theorem dX5_tell_34 : decode cX5_tell 34 = .ok (.lload_n 3, 1) := by decide +kernel
theorem dX5_tell_35 : decode cX5_tell 35 = .ok (.lastore, 1) := by decide +kernel
theorem dX5_tell_36 : decode cX5_tell 36 = .ok (.aload 7, 2) := by decide +kernel
theorem dX5_tell_38 : decode cX5_tell 38 = .ok (.getfield 161, 3) := by decide +kernel
theorem dX5_tell_41 : decode cX5_tell 41 = .ok (.iconst 2, 1) := by decide +kernel
theorem dX5_tell_42 : decode cX5_tell 42 = .ok (.iload_n 2, 1) := by decide +kernel
theorem dX5_tell_43 : decode cX5_tell 43 = .ok (.imul, 1) := by decide +kernel
theorem dX5_tell_44 : decode cX5_tell 44 = .ok (.iconst 1, 1) := by decide +kernel
theorem dX5_tell_45 : decode cX5_tell 45 = .ok (.iadd, 1) := by decide +kernel
theorem dX5_tell_46 : decode cX5_tell 46 = .ok (.lload 5, 2) := by decide +kernel
theorem dX5_tell_48 : decode cX5_tell 48 = .ok (.lastore, 1) := by decide +kernel
theorem dX5_tell_49 : decode cX5_tell 49 = .ok (.return_, 1) := by decide +kernel
set_option maxRecDepth 20000 in
theorem ggX5_chain_X5_signatureAt : GoodIn wsX5_chain wsX5_signatureAt := goodIn_ca (goodIn_r _ [10, 11, 12, 13, 14, 37, 38, 39, 40, 41, 42, 43, 44, 45] (by decide +kernel) (by decide +kernel)) (goodIn_sub (fun _ h => List.mem_cons_of_mem _ (List.mem_append_left _ (List.mem_append_right _ h))) (by decide +kernel))
set_option maxRecDepth 20000 in
theorem gX5_chain_X5_signatureAt : GoodIn wsX5_chain (wsV RX5 136 RX5 yX5_signatureAt wsX5_signatureAt) := goodIn_app (goodIn_of _ (by decide +kernel)) ggX5_chain_X5_signatureAt
set_option maxRecDepth 20000 in
theorem ggX5_chain_X3_putChainRow : GoodIn wsX5_chain wsX3_putChainRow := goodIn_ca (goodIn_r _ [19, 20, 21, 22, 23, 24, 25, 26, 27, 28, 29, 30, 31, 32, 33, 34, 35, 36] (by decide +kernel) (by decide +kernel)) (goodIn_sub (fun _ h => List.mem_cons_of_mem _ (List.mem_append_right _ h)) (by decide +kernel))
set_option maxRecDepth 20000 in
theorem gX5_chain_X3_putChainRow : GoodIn wsX5_chain (wsV RX5 174 RX3 yX3_putChainRow wsX3_putChainRow) := goodIn_app (goodIn_of _ (by decide +kernel)) ggX5_chain_X3_putChainRow
theorem dX5_chain_0 : decode cX5_chain 0 = .ok (.aload_n 0, 1) := by decide +kernel
theorem dX5_chain_1 : decode cX5_chain 1 = .ok (.iload_n 1, 1) := by decide +kernel
theorem dX5_chain_2 : decode cX5_chain 2 = .ok (.invokevirtual 136, 3) := by decide +kernel
theorem dX5_chain_5 : decode cX5_chain 5 = .ok (.astore 6, 2) := by decide +kernel
theorem dX5_chain_7 : decode cX5_chain 7 = .ok (.lload 4, 2) := by decide +kernel
theorem dX5_chain_9 : decode cX5_chain 9 = .ok (.lload_n 2, 1) := by decide +kernel
theorem dX5_chain_10 : decode cX5_chain 10 = .ok (.lcmp, 1) := by decide +kernel
theorem dX5_chain_11 : decode cX5_chain 11 = .ok (.ifCond .ge 13, 3) := by decide +kernel
theorem dX5_chain_14 : decode cX5_chain 14 = .ok (.new 63, 3) := by decide +kernel
theorem dX5_chain_17 : decode cX5_chain 17 = .ok (.dup, 1) := by decide +kernel
theorem dX5_chain_18 : decode cX5_chain 18 = .ok (.ldc 167, 2) := by decide +kernel
theorem dX5_chain_20 : decode cX5_chain 20 = .ok (.invokespecial 67, 3) := by decide +kernel
theorem dX5_chain_23 : decode cX5_chain 23 = .ok (.athrow, 1) := by decide +kernel
theorem dX5_chain_24 : decode cX5_chain 24 = .ok (.aload 6, 2) := by decide +kernel
theorem dX5_chain_26 : decode cX5_chain 26 = .ok (.getfield 169, 3) := by decide +kernel
theorem dX5_chain_29 : decode cX5_chain 29 = .ok (.iconst 4, 1) := by decide +kernel
theorem dX5_chain_30 : decode cX5_chain 30 = .ok (.if_icmp .lt 13, 3) := by decide +kernel
theorem dX5_chain_33 : decode cX5_chain 33 = .ok (.new 51, 3) := by decide +kernel
theorem dX5_chain_36 : decode cX5_chain 36 = .ok (.dup, 1) := by decide +kernel
theorem dX5_chain_37 : decode cX5_chain 37 = .ok (.ldc 172, 2) := by decide +kernel
theorem dX5_chain_39 : decode cX5_chain 39 = .ok (.invokespecial 55, 3) := by decide +kernel
theorem dX5_chain_42 : decode cX5_chain 42 = .ok (.athrow, 1) := by decide +kernel
theorem dX5_chain_43 : decode cX5_chain 43 = .ok (.aload 6, 2) := by decide +kernel
theorem dX5_chain_45 : decode cX5_chain 45 = .ok (.lload_n 2, 1) := by decide +kernel
theorem dX5_chain_46 : decode cX5_chain 46 = .ok (.lload 4, 2) := by decide +kernel
theorem dX5_chain_48 : decode cX5_chain 48 = .ok (.invokevirtual 174, 3) := by decide +kernel
theorem dX5_chain_51 : decode cX5_chain 51 = .ok (.ireturn, 1) := by decide +kernel
set_option maxRecDepth 20000 in
theorem ggX5_change_X5_isField : GoodIn wsX5_change wsX5_isField := goodIn_r _ [10] (by decide +kernel) (by decide +kernel)
set_option maxRecDepth 20000 in
theorem gX5_change_X5_isField : GoodIn wsX5_change (va_wsS RX5 83 yX5_isField wsX5_isField) := goodIn_app (goodIn_of _ (by decide +kernel)) ggX5_change_X5_isField
set_option maxRecDepth 20000 in
theorem ggX5_change_X0_put : GoodIn wsX5_change wsX0_put := goodIn_ca (goodIn_r _ [15, 16, 17, 18, 28, 29, 30] (by decide +kernel) (by decide +kernel)) (goodIn_sub (fun _ h => List.mem_cons_of_mem _ (List.mem_append_right _ h)) (by decide +kernel))
set_option maxRecDepth 20000 in
theorem gX5_change_X0_put : GoodIn wsX5_change (wsV RX5 110 RX0 yX0_put wsX0_put) := goodIn_app (goodIn_of _ (by decide +kernel)) ggX5_change_X0_put
theorem dX5_change_0 : decode cX5_change 0 = .ok (.iload_n 1, 1) := by decide +kernel
theorem dX5_change_1 : decode cX5_change 1 = .ok (.ifCond .lt 15, 3) := by decide +kernel
theorem dX5_change_4 : decode cX5_change 4 = .ok (.iload_n 1, 1) := by decide +kernel
theorem dX5_change_5 : decode cX5_change 5 = .ok (.iconst 4, 1) := by decide +kernel
theorem dX5_change_6 : decode cX5_change 6 = .ok (.if_icmp .ge 10, 3) := by decide +kernel
theorem dX5_change_9 : decode cX5_change 9 = .ok (.iload_n 2, 1) := by decide +kernel
theorem dX5_change_10 : decode cX5_change 10 = .ok (.invokestatic 83, 3) := by decide +kernel
theorem dX5_change_13 : decode cX5_change 13 = .ok (.ifCond .ne 13, 3) := by decide +kernel
theorem dX5_change_16 : decode cX5_change 16 = .ok (.new 63, 3) := by decide +kernel
theorem dX5_change_19 : decode cX5_change 19 = .ok (.dup, 1) := by decide +kernel
theorem dX5_change_20 : decode cX5_change 20 = .ok (.ldc 178, 2) := by decide +kernel
theorem dX5_change_22 : decode cX5_change 22 = .ok (.invokespecial 67, 3) := by decide +kernel
theorem dX5_change_25 : decode cX5_change 25 = .ok (.athrow, 1) := by decide +kernel
theorem dX5_change_26 : decode cX5_change 26 = .ok (.aload_n 0, 1) := by decide +kernel
theorem dX5_change_27 : decode cX5_change 27 = .ok (.getfield 29, 3) := by decide +kernel
theorem dX5_change_30 : decode cX5_change 30 = .ok (.getfield 107, 3) := by decide +kernel
theorem dX5_change_33 : decode cX5_change 33 = .ok (.bipush 40, 2) := by decide +kernel
theorem dX5_change_35 : decode cX5_change 35 = .ok (.if_icmp .lt 13, 3) := by decide +kernel
theorem dX5_change_38 : decode cX5_change 38 = .ok (.new 51, 3) := by decide +kernel
theorem dX5_change_41 : decode cX5_change 41 = .ok (.dup, 1) := by decide +kernel
theorem dX5_change_42 : decode cX5_change 42 = .ok (.ldc 180, 2) := by decide +kernel
theorem dX5_change_44 : decode cX5_change 44 = .ok (.invokespecial 55, 3) := by decide +kernel
theorem dX5_change_47 : decode cX5_change 47 = .ok (.athrow, 1) := by decide +kernel
theorem dX5_change_48 : decode cX5_change 48 = .ok (.aload_n 0, 1) := by decide +kernel
theorem dX5_change_49 : decode cX5_change 49 = .ok (.getfield 29, 3) := by decide +kernel
theorem dX5_change_52 : decode cX5_change 52 = .ok (.iload_n 1, 1) := by decide +kernel
theorem dX5_change_53 : decode cX5_change 53 = .ok (.iload_n 2, 1) := by decide +kernel
theorem dX5_change_54 : decode cX5_change 54 = .ok (.invokevirtual 110, 3) := by decide +kernel
theorem dX5_change_57 : decode cX5_change 57 = .ok (.ireturn, 1) := by decide +kernel
set_option maxRecDepth 20000 in
theorem ggX5_allow_X5_signatureAt : GoodIn wsX5_allow wsX5_signatureAt := goodIn_ca (goodIn_r _ [6, 7, 8, 9, 10, 25, 26, 27, 28, 29, 30, 31, 32, 33] (by decide +kernel) (by decide +kernel)) (goodIn_sub (fun _ h => List.mem_cons_of_mem _ (List.mem_append_right _ h)) (by decide +kernel))
set_option maxRecDepth 20000 in
theorem gX5_allow_X5_signatureAt : GoodIn wsX5_allow (wsV RX5 136 RX5 yX5_signatureAt wsX5_signatureAt) := goodIn_app (goodIn_of _ (by decide +kernel)) ggX5_allow_X5_signatureAt
theorem dX5_allow_0 : decode cX5_allow 0 = .ok (.aload_n 0, 1) := by decide +kernel
theorem dX5_allow_1 : decode cX5_allow 1 = .ok (.iload_n 1, 1) := by decide +kernel
theorem dX5_allow_2 : decode cX5_allow 2 = .ok (.invokevirtual 136, 3) := by decide +kernel
theorem dX5_allow_5 : decode cX5_allow 5 = .ok (.astore_n 3, 1) := by decide +kernel
theorem dX5_allow_6 : decode cX5_allow 6 = .ok (.aload_n 3, 1) := by decide +kernel
theorem dX5_allow_7 : decode cX5_allow 7 = .ok (.getfield 182, 3) := by decide +kernel
theorem dX5_allow_10 : decode cX5_allow 10 = .ok (.istore 4, 2) := by decide +kernel
theorem dX5_allow_12 : decode cX5_allow 12 = .ok (.aload_n 3, 1) := by decide +kernel
theorem dX5_allow_13 : decode cX5_allow 13 = .ok (.iload_n 2, 1) := by decide +kernel
theorem dX5_allow_14 : decode cX5_allow 14 = .ok (.bipush 15, 2) := by decide +kernel
theorem dX5_allow_16 : decode cX5_allow 16 = .ok (.iand, 1) := by decide +kernel
theorem dX5_allow_17 : decode cX5_allow 17 = .ok (.putfield 182, 3) := by decide +kernel
theorem dX5_allow_20 : decode cX5_allow 20 = .ok (.iload 4, 2) := by decide +kernel
theorem dX5_allow_22 : decode cX5_allow 22 = .ok (.ireturn, 1) := by decide +kernel
set_option maxRecDepth 20000 in
theorem ggX5_lock_X5_signatureAt : GoodIn wsX5_lock wsX5_signatureAt := goodIn_ca (goodIn_r _ [8, 9, 10, 11, 12, 33, 34, 35, 36, 37, 38, 39, 40, 41] (by decide +kernel) (by decide +kernel)) (goodIn_sub (fun _ h => List.mem_cons_of_mem _ (List.mem_append_right _ h)) (by decide +kernel))
set_option maxRecDepth 20000 in
theorem gX5_lock_X5_signatureAt : GoodIn wsX5_lock (wsV RX5 136 RX5 yX5_signatureAt wsX5_signatureAt) := goodIn_app (goodIn_of _ (by decide +kernel)) ggX5_lock_X5_signatureAt
set_option maxRecDepth 20000 in
theorem ggX5_lock_X5_isField : GoodIn wsX5_lock wsX5_isField := goodIn_r _ [15] (by decide +kernel) (by decide +kernel)
set_option maxRecDepth 20000 in
theorem gX5_lock_X5_isField : GoodIn wsX5_lock (va_wsS RX5 83 yX5_isField wsX5_isField) := goodIn_app (goodIn_of _ (by decide +kernel)) ggX5_lock_X5_isField
set_option maxRecDepth 20000 in
theorem ggX5_lock_X5_hasField : GoodIn wsX5_lock wsX5_hasField := goodIn_r _ [18] (by decide +kernel) (by decide +kernel)
set_option maxRecDepth 20000 in
theorem gX5_lock_X5_hasField : GoodIn wsX5_lock (va_wsS RX5 96 yX5_hasField wsX5_hasField) := goodIn_app (goodIn_of _ (by decide +kernel)) ggX5_lock_X5_hasField
theorem dX5_lock_0 : decode cX5_lock 0 = .ok (.aload_n 0, 1) := by decide +kernel
theorem dX5_lock_1 : decode cX5_lock 1 = .ok (.iload_n 1, 1) := by decide +kernel
theorem dX5_lock_2 : decode cX5_lock 2 = .ok (.invokevirtual 136, 3) := by decide +kernel
theorem dX5_lock_5 : decode cX5_lock 5 = .ok (.astore_n 3, 1) := by decide +kernel
theorem dX5_lock_6 : decode cX5_lock 6 = .ok (.iload_n 2, 1) := by decide +kernel
theorem dX5_lock_7 : decode cX5_lock 7 = .ok (.invokestatic 83, 3) := by decide +kernel
theorem dX5_lock_10 : decode cX5_lock 10 = .ok (.ifCond .ne 13, 3) := by decide +kernel
theorem dX5_lock_13 : decode cX5_lock 13 = .ok (.new 63, 3) := by decide +kernel
theorem dX5_lock_16 : decode cX5_lock 16 = .ok (.dup, 1) := by decide +kernel
theorem dX5_lock_17 : decode cX5_lock 17 = .ok (.ldc 185, 2) := by decide +kernel
theorem dX5_lock_19 : decode cX5_lock 19 = .ok (.invokespecial 67, 3) := by decide +kernel
theorem dX5_lock_22 : decode cX5_lock 22 = .ok (.athrow, 1) := by decide +kernel
theorem dX5_lock_23 : decode cX5_lock 23 = .ok (.aload_n 3, 1) := by decide +kernel
theorem dX5_lock_24 : decode cX5_lock 24 = .ok (.getfield 187, 3) := by decide +kernel
theorem dX5_lock_27 : decode cX5_lock 27 = .ok (.iload_n 2, 1) := by decide +kernel
theorem dX5_lock_28 : decode cX5_lock 28 = .ok (.invokestatic 96, 3) := by decide +kernel
theorem dX5_lock_31 : decode cX5_lock 31 = .ok (.ifCond .eq 5, 3) := by decide +kernel
theorem dX5_lock_34 : decode cX5_lock 34 = .ok (.iconst 0, 1) := by decide +kernel
theorem dX5_lock_35 : decode cX5_lock 35 = .ok (.ireturn, 1) := by decide +kernel
theorem dX5_lock_36 : decode cX5_lock 36 = .ok (.aload_n 3, 1) := by decide +kernel
theorem dX5_lock_37 : decode cX5_lock 37 = .ok (.dup, 1) := by decide +kernel
theorem dX5_lock_38 : decode cX5_lock 38 = .ok (.getfield 187, 3) := by decide +kernel
theorem dX5_lock_41 : decode cX5_lock 41 = .ok (.iconst 1, 1) := by decide +kernel
theorem dX5_lock_42 : decode cX5_lock 42 = .ok (.iload_n 2, 1) := by decide +kernel
theorem dX5_lock_43 : decode cX5_lock 43 = .ok (.ishl, 1) := by decide +kernel
theorem dX5_lock_44 : decode cX5_lock 44 = .ok (.ior, 1) := by decide +kernel
theorem dX5_lock_45 : decode cX5_lock 45 = .ok (.putfield 187, 3) := by decide +kernel
theorem dX5_lock_48 : decode cX5_lock 48 = .ok (.iconst 1, 1) := by decide +kernel
theorem dX5_lock_49 : decode cX5_lock 49 = .ok (.ireturn, 1) := by decide +kernel
set_option maxRecDepth 20000 in
theorem ggX5_certify_X5_signatureAt : GoodIn wsX5_certify wsX5_signatureAt := goodIn_ca (goodIn_r _ [8, 9, 10, 11, 12, 27, 28, 29, 30, 31, 32, 33, 34, 35] (by decide +kernel) (by decide +kernel)) (goodIn_sub (fun _ h => List.mem_cons_of_mem _ (List.mem_append_right _ h)) (by decide +kernel))
set_option maxRecDepth 20000 in
theorem gX5_certify_X5_signatureAt : GoodIn wsX5_certify (wsV RX5 136 RX5 yX5_signatureAt wsX5_signatureAt) := goodIn_app (goodIn_of _ (by decide +kernel)) ggX5_certify_X5_signatureAt
theorem dX5_certify_0 : decode cX5_certify 0 = .ok (.aload_n 0, 1) := by decide +kernel
theorem dX5_certify_1 : decode cX5_certify 1 = .ok (.iload_n 1, 1) := by decide +kernel
theorem dX5_certify_2 : decode cX5_certify 2 = .ok (.invokevirtual 136, 3) := by decide +kernel
theorem dX5_certify_5 : decode cX5_certify 5 = .ok (.astore_n 3, 1) := by decide +kernel
theorem dX5_certify_6 : decode cX5_certify 6 = .ok (.iload_n 2, 1) := by decide +kernel
theorem dX5_certify_7 : decode cX5_certify 7 = .ok (.iconst 1, 1) := by decide +kernel
theorem dX5_certify_8 : decode cX5_certify 8 = .ok (.if_icmp .lt 8, 3) := by decide +kernel
theorem dX5_certify_11 : decode cX5_certify 11 = .ok (.iload_n 2, 1) := by decide +kernel
theorem dX5_certify_12 : decode cX5_certify 12 = .ok (.iconst 3, 1) := by decide +kernel
theorem dX5_certify_13 : decode cX5_certify 13 = .ok (.if_icmp .le 13, 3) := by decide +kernel
theorem dX5_certify_16 : decode cX5_certify 16 = .ok (.new 63, 3) := by decide +kernel
theorem dX5_certify_19 : decode cX5_certify 19 = .ok (.dup, 1) := by decide +kernel
theorem dX5_certify_20 : decode cX5_certify 20 = .ok (.ldc 190, 2) := by decide +kernel
theorem dX5_certify_22 : decode cX5_certify 22 = .ok (.invokespecial 67, 3) := by decide +kernel
theorem dX5_certify_25 : decode cX5_certify 25 = .ok (.athrow, 1) := by decide +kernel
theorem dX5_certify_26 : decode cX5_certify 26 = .ok (.iload_n 1, 1) := by decide +kernel
theorem dX5_certify_27 : decode cX5_certify 27 = .ok (.ifCond .ne 10, 3) := by decide +kernel
theorem dX5_certify_30 : decode cX5_certify 30 = .ok (.aload_n 3, 1) := by decide +kernel
theorem dX5_certify_31 : decode cX5_certify 31 = .ok (.getfield 192, 3) := by decide +kernel
theorem dX5_certify_34 : decode cX5_certify 34 = .ok (.ifCond .eq 5, 3) := by decide +kernel
theorem dX5_certify_37 : decode cX5_certify 37 = .ok (.iconst 0, 1) := by decide +kernel
theorem dX5_certify_38 : decode cX5_certify 38 = .ok (.ireturn, 1) := by decide +kernel
theorem dX5_certify_39 : decode cX5_certify 39 = .ok (.aload_n 3, 1) := by decide +kernel
theorem dX5_certify_40 : decode cX5_certify 40 = .ok (.iload_n 2, 1) := by decide +kernel
theorem dX5_certify_41 : decode cX5_certify 41 = .ok (.putfield 192, 3) := by decide +kernel
theorem dX5_certify_44 : decode cX5_certify 44 = .ok (.iconst 1, 1) := by decide +kernel
theorem dX5_certify_45 : decode cX5_certify 45 = .ok (.ireturn, 1) := by decide +kernel
