set_option maxRecDepth 20000 in
theorem ggX6_since_X6_isNone : GoodIn wsX6_since wsX6_isNone := goodIn_r _ [9, 10, 23, 24, 25, 26, 27, 28, 29, 30, 31, 32, 33, 34, 35, 36, 37, 38, 39, 40, 41, 42, 43, 44, 45, 46, 47, 48, 49, 50, 51, 52, 53, 54] (by decide +kernel) (by decide +kernel)
set_option maxRecDepth 20000 in
theorem gX6_since_X6_isNone : GoodIn wsX6_since (wsV RX6 206 RX6 yX6_isNone wsX6_isNone) := goodIn_app (goodIn_of _ (by decide +kernel)) ggX6_since_X6_isNone
set_option maxRecDepth 20000 in
theorem ggX6_since_X6_refused : GoodIn wsX6_since wsX6_refused := goodIn_r _ [14, 15, 23, 24, 25, 26, 27, 28, 29, 30, 31, 32, 33, 34, 35, 36, 37, 38, 39, 40, 41, 42, 43, 44, 45, 46, 47, 48, 49, 50, 51, 52, 53, 54] (by decide +kernel) (by decide +kernel)
set_option maxRecDepth 20000 in
theorem gX6_since_X6_refused : GoodIn wsX6_since (wsV RX6 184 RX6 yX6_refused wsX6_refused) := goodIn_app (goodIn_of _ (by decide +kernel)) ggX6_since_X6_refused
set_option maxRecDepth 20000 in
theorem ggX6_since_X6_mayBe : GoodIn wsX6_since wsX6_mayBe := goodIn_ca (goodIn_r _ [19, 20, 21, 22, 23, 24, 25, 26, 27, 28, 29, 30, 31, 32, 33, 34, 35, 36, 37, 38, 39, 40, 41, 42, 43, 44, 45, 46, 47, 48, 49, 50, 51, 52, 53, 54] (by decide +kernel) (by decide +kernel)) (goodIn_sub (fun _ h => List.mem_cons_of_mem _ (List.mem_append_right _ h)) (by decide +kernel))
set_option maxRecDepth 20000 in
theorem gX6_since_X6_mayBe : GoodIn wsX6_since (wsV RX6 214 RX6 yX6_mayBe wsX6_mayBe) := goodIn_app (goodIn_of _ (by decide +kernel)) ggX6_since_X6_mayBe
theorem dX6_since_0 : decode cX6_since 0 = .ok (.aload_n 0, 1) := by decide +kernel
theorem dX6_since_1 : decode cX6_since 1 = .ok (.iload_n 1, 1) := by decide +kernel
theorem dX6_since_2 : decode cX6_since 2 = .ok (.invokevirtual 206, 3) := by decide +kernel
theorem dX6_since_5 : decode cX6_since 5 = .ok (.ifCond .eq 7, 3) := by decide +kernel
theorem dX6_since_8 : decode cX6_since 8 = .ok (.iconst 0, 1) := by decide +kernel
theorem dX6_since_9 : decode cX6_since 9 = .ok (.goto 14, 3) := by decide +kernel
theorem dX6_since_12 : decode cX6_since 12 = .ok (.aload_n 0, 1) := by decide +kernel
theorem dX6_since_13 : decode cX6_since 13 = .ok (.getfield 191, 3) := by decide +kernel
theorem dX6_since_16 : decode cX6_since 16 = .ok (.aload_n 0, 1) := by decide +kernel
theorem dX6_since_17 : decode cX6_since 17 = .ok (.getfield 128, 3) := by decide +kernel
theorem dX6_since_20 : decode cX6_since 20 = .ok (.iload_n 1, 1) := by decide +kernel
theorem dX6_since_21 : decode cX6_since 21 = .ok (.iaload, 1) := by decide +kernel
theorem dX6_since_22 : decode cX6_since 22 = .ok (.isub, 1) := by decide +kernel
theorem dX6_since_23 : decode cX6_since 23 = .ok (.istore 4, 2) := by decide +kernel
theorem dX6_since_25 : decode cX6_since 25 = .ok (.aload_n 0, 1) := by decide +kernel
theorem dX6_since_26 : decode cX6_since 26 = .ok (.aload_n 0, 1) := by decide +kernel
theorem dX6_since_27 : decode cX6_since 27 = .ok (.iload_n 1, 1) := by decide +kernel
theorem dX6_since_28 : decode cX6_since 28 = .ok (.invokevirtual 206, 3) := by decide +kernel
theorem dX6_since_31 : decode cX6_since 31 = .ok (.iload_n 2, 1) := by decide +kernel
theorem dX6_since_32 : decode cX6_since 32 = .ok (.iconst (-1), 1) := by decide +kernel
theorem dX6_since_33 : decode cX6_since 33 = .ok (.if_icmp .eq 26, 3) := by decide +kernel
theorem dX6_since_36 : decode cX6_since 36 = .ok (.iload_n 2, 1) := by decide +kernel
theorem dX6_since_37 : decode cX6_since 37 = .ok (.ifCond .lt 18, 3) := by decide +kernel
theorem dX6_since_40 : decode cX6_since 40 = .ok (.iload_n 2, 1) := by decide +kernel
theorem dX6_since_41 : decode cX6_since 41 = .ok (.iload 4, 2) := by decide +kernel
theorem dX6_since_43 : decode cX6_since 43 = .ok (.if_icmp .ge 12, 3) := by decide +kernel
theorem dX6_since_46 : decode cX6_since 46 = .ok (.iload_n 3, 1) := by decide +kernel
theorem dX6_since_47 : decode cX6_since 47 = .ok (.ifCond .lt 8, 3) := by decide +kernel
theorem dX6_since_50 : decode cX6_since 50 = .ok (.iload_n 3, 1) := by decide +kernel
theorem dX6_since_51 : decode cX6_since 51 = .ok (.iconst 2, 1) := by decide +kernel
theorem dX6_since_52 : decode cX6_since 52 = .ok (.if_icmp .le 7, 3) := by decide +kernel
theorem dX6_since_55 : decode cX6_since 55 = .ok (.iconst 1, 1) := by decide +kernel
theorem dX6_since_56 : decode cX6_since 56 = .ok (.goto 4, 3) := by decide +kernel
theorem dX6_since_59 : decode cX6_since 59 = .ok (.iconst 0, 1) := by decide +kernel
theorem dX6_since_60 : decode cX6_since 60 = .ok (.iconst 0, 1) := by decide +kernel
theorem dX6_since_61 : decode cX6_since 61 = .ok (.invokevirtual 184, 3) := by decide +kernel
theorem dX6_since_64 : decode cX6_since 64 = .ok (.ifCond .eq 5, 3) := by decide +kernel
theorem dX6_since_67 : decode cX6_since 67 = .ok (.iconst 0, 1) := by decide +kernel
theorem dX6_since_68 : decode cX6_since 68 = .ok (.ireturn, 1) := by decide +kernel
theorem dX6_since_69 : decode cX6_since 69 = .ok (.iload_n 2, 1) := by decide +kernel
theorem dX6_since_70 : decode cX6_since 70 = .ok (.iconst (-1), 1) := by decide +kernel
theorem dX6_since_71 : decode cX6_since 71 = .ok (.if_icmp .ne 6, 3) := by decide +kernel
theorem dX6_since_74 : decode cX6_since 74 = .ok (.iload 4, 2) := by decide +kernel
theorem dX6_since_76 : decode cX6_since 76 = .ok (.ireturn, 1) := by decide +kernel
theorem dX6_since_77 : decode cX6_since 77 = .ok (.aload_n 0, 1) := by decide +kernel
theorem dX6_since_78 : decode cX6_since 78 = .ok (.getfield 128, 3) := by decide +kernel
theorem dX6_since_81 : decode cX6_since 81 = .ok (.iload_n 1, 1) := by decide +kernel
theorem dX6_since_82 : decode cX6_since 82 = .ok (.iaload, 1) := by decide +kernel
theorem dX6_since_83 : decode cX6_since 83 = .ok (.iload_n 2, 1) := by decide +kernel
theorem dX6_since_84 : decode cX6_since 84 = .ok (.iadd, 1) := by decide +kernel
theorem dX6_since_85 : decode cX6_since 85 = .ok (.istore 5, 2) := by decide +kernel
theorem dX6_since_87 : decode cX6_since 87 = .ok (.iload_n 3, 1) := by decide +kernel
theorem dX6_since_88 : decode cX6_since 88 = .ok (.ifCond .ne 13, 3) := by decide +kernel
theorem dX6_since_91 : decode cX6_since 91 = .ok (.aload_n 0, 1) := by decide +kernel
theorem dX6_since_92 : decode cX6_since 92 = .ok (.getfield 131, 3) := by decide +kernel
theorem dX6_since_95 : decode cX6_since 95 = .ok (.iload 5, 2) := by decide +kernel
theorem dX6_since_97 : decode cX6_since 97 = .ok (.iaload, 1) := by decide +kernel
theorem dX6_since_98 : decode cX6_since 98 = .ok (.goto 45, 3) := by decide +kernel
theorem dX6_since_101 : decode cX6_since 101 = .ok (.iload_n 3, 1) := by decide +kernel
theorem dX6_since_102 : decode cX6_since 102 = .ok (.iconst 1, 1) := by decide +kernel
theorem dX6_since_103 : decode cX6_since 103 = .ok (.if_icmp .ne 13, 3) := by decide +kernel
theorem dX6_since_106 : decode cX6_since 106 = .ok (.aload_n 0, 1) := by decide +kernel
theorem dX6_since_107 : decode cX6_since 107 = .ok (.getfield 134, 3) := by decide +kernel
theorem dX6_since_110 : decode cX6_since 110 = .ok (.iload 5, 2) := by decide +kernel
theorem dX6_since_112 : decode cX6_since 112 = .ok (.iaload, 1) := by decide +kernel
theorem dX6_since_113 : decode cX6_since 113 = .ok (.goto 30, 3) := by decide +kernel
theorem dX6_since_116 : decode cX6_since 116 = .ok (.aload_n 0, 1) := by decide +kernel
theorem dX6_since_117 : decode cX6_since 117 = .ok (.iload_n 1, 1) := by decide +kernel
theorem dX6_since_118 : decode cX6_since 118 = .ok (.aload_n 0, 1) := by decide +kernel
theorem dX6_since_119 : decode cX6_since 119 = .ok (.getfield 131, 3) := by decide +kernel
theorem dX6_since_122 : decode cX6_since 122 = .ok (.iload 5, 2) := by decide +kernel
theorem dX6_since_124 : decode cX6_since 124 = .ok (.iaload, 1) := by decide +kernel
theorem dX6_since_125 : decode cX6_since 125 = .ok (.aload_n 0, 1) := by decide +kernel
theorem dX6_since_126 : decode cX6_since 126 = .ok (.getfield 134, 3) := by decide +kernel
theorem dX6_since_129 : decode cX6_since 129 = .ok (.iload 5, 2) := by decide +kernel
theorem dX6_since_131 : decode cX6_since 131 = .ok (.iaload, 1) := by decide +kernel
theorem dX6_since_132 : decode cX6_since 132 = .ok (.invokevirtual 214, 3) := by decide +kernel
theorem dX6_since_135 : decode cX6_since 135 = .ok (.ifCond .eq 7, 3) := by decide +kernel
theorem dX6_since_138 : decode cX6_since 138 = .ok (.iconst 1, 1) := by decide +kernel
theorem dX6_since_139 : decode cX6_since 139 = .ok (.goto 4, 3) := by decide +kernel
theorem dX6_since_142 : decode cX6_since 142 = .ok (.iconst 0, 1) := by decide +kernel
theorem dX6_since_143 : decode cX6_since 143 = .ok (.ireturn, 1) := by decide +kernel
set_option maxRecDepth 20000 in
theorem ggX6_digest_X6_isNone : GoodIn wsX6_digest wsX6_isNone := goodIn_r _ [6, 7, 13, 14, 15, 16, 17, 18, 19, 20, 21, 22, 23, 24, 25, 26, 27, 28, 29, 30, 31, 32, 33, 34, 35, 36, 37, 38, 39, 40, 41, 42, 43, 44] (by decide +kernel) (by decide +kernel)
set_option maxRecDepth 20000 in
theorem gX6_digest_X6_isNone : GoodIn wsX6_digest (wsV RX6 206 RX6 yX6_isNone wsX6_isNone) := goodIn_app (goodIn_of _ (by decide +kernel)) ggX6_digest_X6_isNone
set_option maxRecDepth 20000 in
theorem ggX6_digest_X6_refused : GoodIn wsX6_digest wsX6_refused := goodIn_r _ [11, 12, 13, 14, 15, 16, 17, 18, 19, 20, 21, 22, 23, 24, 25, 26, 27, 28, 29, 30, 31, 32, 33, 34, 35, 36, 37, 38, 39, 40, 41, 42, 43, 44] (by decide +kernel) (by decide +kernel)
set_option maxRecDepth 20000 in
theorem gX6_digest_X6_refused : GoodIn wsX6_digest (wsV RX6 184 RX6 yX6_refused wsX6_refused) := goodIn_app (goodIn_of _ (by decide +kernel)) ggX6_digest_X6_refused
theorem dX6_digest_0 : decode cX6_digest 0 = .ok (.aload_n 0, 1) := by decide +kernel
theorem dX6_digest_1 : decode cX6_digest 1 = .ok (.aload_n 0, 1) := by decide +kernel
theorem dX6_digest_2 : decode cX6_digest 2 = .ok (.iload_n 1, 1) := by decide +kernel
theorem dX6_digest_3 : decode cX6_digest 3 = .ok (.invokevirtual 206, 3) := by decide +kernel
theorem dX6_digest_6 : decode cX6_digest 6 = .ok (.iload_n 2, 1) := by decide +kernel
theorem dX6_digest_7 : decode cX6_digest 7 = .ok (.ifCond .lt 9, 3) := by decide +kernel
theorem dX6_digest_10 : decode cX6_digest 10 = .ok (.iload_n 2, 1) := by decide +kernel
theorem dX6_digest_11 : decode cX6_digest 11 = .ok (.bipush 31, 2) := by decide +kernel
theorem dX6_digest_13 : decode cX6_digest 13 = .ok (.if_icmp .le 7, 3) := by decide +kernel
theorem dX6_digest_16 : decode cX6_digest 16 = .ok (.iconst 1, 1) := by decide +kernel
theorem dX6_digest_17 : decode cX6_digest 17 = .ok (.goto 4, 3) := by decide +kernel
theorem dX6_digest_20 : decode cX6_digest 20 = .ok (.iconst 0, 1) := by decide +kernel
theorem dX6_digest_21 : decode cX6_digest 21 = .ok (.iconst 0, 1) := by decide +kernel
theorem dX6_digest_22 : decode cX6_digest 22 = .ok (.invokevirtual 184, 3) := by decide +kernel
theorem dX6_digest_25 : decode cX6_digest 25 = .ok (.ifCond .eq 5, 3) := by decide +kernel
theorem dX6_digest_28 : decode cX6_digest 28 = .ok (.iconst 0, 1) := by decide +kernel
theorem dX6_digest_29 : decode cX6_digest 29 = .ok (.ireturn, 1) := by decide +kernel
theorem dX6_digest_30 : decode cX6_digest 30 = .ok (.aload_n 0, 1) := by decide +kernel
theorem dX6_digest_31 : decode cX6_digest 31 = .ok (.getfield 110, 3) := by decide +kernel
theorem dX6_digest_34 : decode cX6_digest 34 = .ok (.bipush 8, 2) := by decide +kernel
theorem dX6_digest_36 : decode cX6_digest 36 = .ok (.iload_n 1, 1) := by decide +kernel
theorem dX6_digest_37 : decode cX6_digest 37 = .ok (.imul, 1) := by decide +kernel
theorem dX6_digest_38 : decode cX6_digest 38 = .ok (.iload_n 2, 1) := by decide +kernel
theorem dX6_digest_39 : decode cX6_digest 39 = .ok (.iconst 4, 1) := by decide +kernel
theorem dX6_digest_40 : decode cX6_digest 40 = .ok (.idiv, 1) := by decide +kernel
theorem dX6_digest_41 : decode cX6_digest 41 = .ok (.iadd, 1) := by decide +kernel
theorem dX6_digest_42 : decode cX6_digest 42 = .ok (.iaload, 1) := by decide +kernel
theorem dX6_digest_43 : decode cX6_digest 43 = .ok (.bipush 24, 2) := by decide +kernel
theorem dX6_digest_45 : decode cX6_digest 45 = .ok (.bipush 8, 2) := by decide +kernel
theorem dX6_digest_47 : decode cX6_digest 47 = .ok (.iload_n 2, 1) := by decide +kernel
theorem dX6_digest_48 : decode cX6_digest 48 = .ok (.iconst 4, 1) := by decide +kernel
theorem dX6_digest_49 : decode cX6_digest 49 = .ok (.irem, 1) := by decide +kernel
theorem dX6_digest_50 : decode cX6_digest 50 = .ok (.imul, 1) := by decide +kernel
theorem dX6_digest_51 : decode cX6_digest 51 = .ok (.isub, 1) := by decide +kernel
theorem dX6_digest_52 : decode cX6_digest 52 = .ok (.ishr, 1) := by decide +kernel
theorem dX6_digest_53 : decode cX6_digest 53 = .ok (.i2b, 1) := by decide +kernel
theorem dX6_digest_54 : decode cX6_digest 54 = .ok (.ireturn, 1) := by decide +kernel
set_option maxRecDepth 20000 in
theorem ggX6_behind_X6_isNone : GoodIn wsX6_behind wsX6_isNone := goodIn_r _ [7, 8, 14, 15, 16, 17, 18, 19, 20, 21, 22, 23, 24, 25, 26, 27, 28, 29, 30, 31, 32, 33, 34, 35, 36, 37, 38, 39, 40, 41, 42, 43, 44, 45] (by decide +kernel) (by decide +kernel)
set_option maxRecDepth 20000 in
theorem gX6_behind_X6_isNone : GoodIn wsX6_behind (wsV RX6 206 RX6 yX6_isNone wsX6_isNone) := goodIn_app (goodIn_of _ (by decide +kernel)) ggX6_behind_X6_isNone
set_option maxRecDepth 20000 in
theorem ggX6_behind_X6_refused : GoodIn wsX6_behind wsX6_refused := goodIn_r _ [12, 13, 14, 15, 16, 17, 18, 19, 20, 21, 22, 23, 24, 25, 26, 27, 28, 29, 30, 31, 32, 33, 34, 35, 36, 37, 38, 39, 40, 41, 42, 43, 44, 45] (by decide +kernel) (by decide +kernel)
set_option maxRecDepth 20000 in
theorem gX6_behind_X6_refused : GoodIn wsX6_behind (wsV RX6 184 RX6 yX6_refused wsX6_refused) := goodIn_app (goodIn_of _ (by decide +kernel)) ggX6_behind_X6_refused
theorem dX6_behind_0 : decode cX6_behind 0 = .ok (.aload_n 0, 1) := by decide +kernel
theorem dX6_behind_1 : decode cX6_behind 1 = .ok (.aload_n 0, 1) := by decide +kernel
theorem dX6_behind_2 : decode cX6_behind 2 = .ok (.iload_n 1, 1) := by decide +kernel
theorem dX6_behind_3 : decode cX6_behind 3 = .ok (.invokevirtual 206, 3) := by decide +kernel
theorem dX6_behind_6 : decode cX6_behind 6 = .ok (.iconst 0, 1) := by decide +kernel
theorem dX6_behind_7 : decode cX6_behind 7 = .ok (.iconst 0, 1) := by decide +kernel
theorem dX6_behind_8 : decode cX6_behind 8 = .ok (.invokevirtual 184, 3) := by decide +kernel
theorem dX6_behind_11 : decode cX6_behind 11 = .ok (.ifCond .eq 7, 3) := by decide +kernel
theorem dX6_behind_14 : decode cX6_behind 14 = .ok (.lconst 0, 1) := by decide +kernel
theorem dX6_behind_15 : decode cX6_behind 15 = .ok (.goto 15, 3) := by decide +kernel
theorem dX6_behind_18 : decode cX6_behind 18 = .ok (.aload_n 0, 1) := by decide +kernel
theorem dX6_behind_19 : decode cX6_behind 19 = .ok (.getfield 155, 3) := by decide +kernel
theorem dX6_behind_22 : decode cX6_behind 22 = .ok (.aload_n 0, 1) := by decide +kernel
theorem dX6_behind_23 : decode cX6_behind 23 = .ok (.getfield 104, 3) := by decide +kernel
theorem dX6_behind_26 : decode cX6_behind 26 = .ok (.iload_n 1, 1) := by decide +kernel
theorem dX6_behind_27 : decode cX6_behind 27 = .ok (.iaload, 1) := by decide +kernel
theorem dX6_behind_28 : decode cX6_behind 28 = .ok (.isub, 1) := by decide +kernel
theorem dX6_behind_29 : decode cX6_behind 29 = .ok (.i2l, 1) := by decide +kernel
theorem dX6_behind_30 : decode cX6_behind 30 = .ok (.lreturn, 1) := by decide +kernel
set_option maxRecDepth 20000 in
theorem ggX6_stamp_X6_refused : GoodIn wsX6_stamp wsX6_refused := goodIn_r _ [10, 11, 44, 45, 46, 47, 48, 49, 50, 51, 52, 53, 54, 55, 56, 57, 58, 59, 60, 61, 62, 63, 64, 65, 66, 67, 68, 69, 70, 71, 72, 73, 74, 75] (by decide +kernel) (by decide +kernel)
set_option maxRecDepth 20000 in
theorem gX6_stamp_X6_refused : GoodIn wsX6_stamp (wsV RX6 184 RX6 yX6_refused wsX6_refused) := goodIn_app (goodIn_of _ (by decide +kernel)) ggX6_stamp_X6_refused
set_option maxRecDepth 20000 in
theorem ggX6_stamp_X6_reckon : GoodIn wsX6_stamp wsX6_reckon := goodIn_ca (goodIn_r _ [15, 16, 17, 18, 19, 20, 21, 22, 23, 24, 25, 26, 27, 28, 9, 29, 30, 31, 32, 33, 34, 35, 36, 37, 38, 39, 44, 45, 46, 47, 48, 49, 50, 51, 52, 53, 54, 55, 56, 57, 58, 59, 60, 61, 62, 63, 64, 65, 66, 67, 68, 69, 70, 71, 72, 73, 74, 75] (by decide +kernel) (by decide +kernel)) (goodIn_sub (fun _ h => List.mem_cons_of_mem _ (List.mem_append_right _ h)) (by decide +kernel))
set_option maxRecDepth 20000 in
theorem gX6_stamp_X6_reckon : GoodIn wsX6_stamp (wsV RX6 198 RX6 yX6_reckon wsX6_reckon) := goodIn_app (goodIn_of _ (by decide +kernel)) ggX6_stamp_X6_reckon
set_option maxRecDepth 20000 in
theorem ggX6_stamp_X6_keepSum : GoodIn wsX6_stamp wsX6_keepSum := goodIn_ca (goodIn_r _ [43, 16, 44, 45, 46, 47, 48, 49, 50, 51, 52, 53, 54, 55, 56, 57, 58, 59, 60, 61, 62, 63, 64, 65, 66, 67, 68, 69, 70, 71, 72, 73, 74, 75] (by decide +kernel) (by decide +kernel)) (goodIn_sub (fun _ h => List.mem_cons_of_mem _ (List.mem_append_right _ h)) (by decide +kernel))
set_option maxRecDepth 20000 in
theorem gX6_stamp_X6_keepSum : GoodIn wsX6_stamp (wsV RX6 202 RX6 yX6_keepSum wsX6_keepSum) := goodIn_app (goodIn_of _ (by decide +kernel)) ggX6_stamp_X6_keepSum
theorem dX6_stamp_0 : decode cX6_stamp 0 = .ok (.aload_n 0, 1) := by decide +kernel
theorem dX6_stamp_1 : decode cX6_stamp 1 = .ok (.lload_n 1, 1) := by decide +kernel
theorem dX6_stamp_2 : decode cX6_stamp 2 = .ok (.lconst 0, 1) := by decide +kernel
theorem dX6_stamp_3 : decode cX6_stamp 3 = .ok (.lcmp, 1) := by decide +kernel
theorem dX6_stamp_4 : decode cX6_stamp 4 = .ok (.ifCond .ge 7, 3) := by decide +kernel
theorem dX6_stamp_7 : decode cX6_stamp 7 = .ok (.iconst 1, 1) := by decide +kernel
theorem dX6_stamp_8 : decode cX6_stamp 8 = .ok (.goto 4, 3) := by decide +kernel
theorem dX6_stamp_11 : decode cX6_stamp 11 = .ok (.iconst 0, 1) := by decide +kernel
theorem dX6_stamp_12 : decode cX6_stamp 12 = .ok (.aload_n 0, 1) := by decide +kernel
theorem dX6_stamp_13 : decode cX6_stamp 13 = .ok (.getfield 224, 3) := by decide +kernel
theorem dX6_stamp_16 : decode cX6_stamp 16 = .ok (.bipush 10, 2) := by decide +kernel
theorem dX6_stamp_18 : decode cX6_stamp 18 = .ok (.if_icmp .ne 7, 3) := by decide +kernel
theorem dX6_stamp_21 : decode cX6_stamp 21 = .ok (.iconst 1, 1) := by decide +kernel
theorem dX6_stamp_22 : decode cX6_stamp 22 = .ok (.goto 4, 3) := by decide +kernel
theorem dX6_stamp_25 : decode cX6_stamp 25 = .ok (.iconst 0, 1) := by decide +kernel
theorem dX6_stamp_26 : decode cX6_stamp 26 = .ok (.iconst 0, 1) := by decide +kernel
theorem dX6_stamp_27 : decode cX6_stamp 27 = .ok (.invokevirtual 184, 3) := by decide +kernel
theorem dX6_stamp_30 : decode cX6_stamp 30 = .ok (.ifCond .eq 5, 3) := by decide +kernel
theorem dX6_stamp_33 : decode cX6_stamp 33 = .ok (.iconst 0, 1) := by decide +kernel
theorem dX6_stamp_34 : decode cX6_stamp 34 = .ok (.ireturn, 1) := by decide +kernel
theorem dX6_stamp_35 : decode cX6_stamp 35 = .ok (.aload_n 0, 1) := by decide +kernel
theorem dX6_stamp_36 : decode cX6_stamp 36 = .ok (.getfield 137, 3) := by decide +kernel
theorem dX6_stamp_39 : decode cX6_stamp 39 = .ok (.aload_n 0, 1) := by decide +kernel
theorem dX6_stamp_40 : decode cX6_stamp 40 = .ok (.getfield 224, 3) := by decide +kernel
theorem dX6_stamp_43 : decode cX6_stamp 43 = .ok (.lload_n 1, 1) := by decide +kernel
theorem dX6_stamp_44 : decode cX6_stamp 44 = .ok (.lastore, 1) := by decide +kernel
theorem dX6_stamp_45 : decode cX6_stamp 45 = .ok (.aload_n 0, 1) := by decide +kernel
theorem dX6_stamp_46 : decode cX6_stamp 46 = .ok (.getfield 140, 3) := by decide +kernel
theorem dX6_stamp_49 : decode cX6_stamp 49 = .ok (.aload_n 0, 1) := by decide +kernel
theorem dX6_stamp_50 : decode cX6_stamp 50 = .ok (.getfield 224, 3) := by decide +kernel
theorem dX6_stamp_53 : decode cX6_stamp 53 = .ok (.aload_n 0, 1) := by decide +kernel
theorem dX6_stamp_54 : decode cX6_stamp 54 = .ok (.getfield 155, 3) := by decide +kernel
theorem dX6_stamp_57 : decode cX6_stamp 57 = .ok (.iastore, 1) := by decide +kernel
theorem dX6_stamp_58 : decode cX6_stamp 58 = .ok (.aload_n 0, 1) := by decide +kernel
theorem dX6_stamp_59 : decode cX6_stamp 59 = .ok (.aload_n 0, 1) := by decide +kernel
theorem dX6_stamp_60 : decode cX6_stamp 60 = .ok (.getfield 155, 3) := by decide +kernel
theorem dX6_stamp_63 : decode cX6_stamp 63 = .ok (.aload_n 0, 1) := by decide +kernel
theorem dX6_stamp_64 : decode cX6_stamp 64 = .ok (.getfield 155, 3) := by decide +kernel
theorem dX6_stamp_67 : decode cX6_stamp 67 = .ok (.aload_n 0, 1) := by decide +kernel
theorem dX6_stamp_68 : decode cX6_stamp 68 = .ok (.getfield 155, 3) := by decide +kernel
theorem dX6_stamp_71 : decode cX6_stamp 71 = .ok (.invokevirtual 198, 3) := by decide +kernel
theorem dX6_stamp_74 : decode cX6_stamp 74 = .ok (.aload_n 0, 1) := by decide +kernel
theorem dX6_stamp_75 : decode cX6_stamp 75 = .ok (.aload_n 0, 1) := by decide +kernel
theorem dX6_stamp_76 : decode cX6_stamp 76 = .ok (.getfield 143, 3) := by decide +kernel
theorem dX6_stamp_79 : decode cX6_stamp 79 = .ok (.bipush 8, 2) := by decide +kernel
theorem dX6_stamp_81 : decode cX6_stamp 81 = .ok (.aload_n 0, 1) := by decide +kernel
theorem dX6_stamp_82 : decode cX6_stamp 82 = .ok (.getfield 224, 3) := by decide +kernel
theorem dX6_stamp_85 : decode cX6_stamp 85 = .ok (.imul, 1) := by decide +kernel
theorem dX6_stamp_86 : decode cX6_stamp 86 = .ok (.invokevirtual 202, 3) := by decide +kernel
theorem dX6_stamp_89 : decode cX6_stamp 89 = .ok (.aload_n 0, 1) := by decide +kernel
theorem dX6_stamp_90 : decode cX6_stamp 90 = .ok (.dup, 1) := by decide +kernel
theorem dX6_stamp_91 : decode cX6_stamp 91 = .ok (.getfield 224, 3) := by decide +kernel
theorem dX6_stamp_94 : decode cX6_stamp 94 = .ok (.iconst 1, 1) := by decide +kernel
theorem dX6_stamp_95 : decode cX6_stamp 95 = .ok (.iadd, 1) := by decide +kernel
theorem dX6_stamp_96 : decode cX6_stamp 96 = .ok (.putfield 224, 3) := by decide +kernel
theorem dX6_stamp_99 : decode cX6_stamp 99 = .ok (.aload_n 0, 1) := by decide +kernel
theorem dX6_stamp_100 : decode cX6_stamp 100 = .ok (.getfield 224, 3) := by decide +kernel
theorem dX6_stamp_103 : decode cX6_stamp 103 = .ok (.iconst 1, 1) := by decide +kernel
theorem dX6_stamp_104 : decode cX6_stamp 104 = .ok (.isub, 1) := by decide +kernel
theorem dX6_stamp_105 : decode cX6_stamp 105 = .ok (.ireturn, 1) := by decide +kernel
set_option maxRecDepth 20000 in
theorem ggX6_stamped_X6_refused : GoodIn wsX6_stamped wsX6_refused := goodIn_r _ [9, 10, 43, 44, 45, 46, 47, 48, 49, 50, 51, 52, 53, 54, 55, 56, 57, 58, 59, 60, 61, 62, 63, 64, 65, 66, 67, 68, 69, 70, 71, 72, 73, 74] (by decide +kernel) (by decide +kernel)
set_option maxRecDepth 20000 in
theorem gX6_stamped_X6_refused : GoodIn wsX6_stamped (wsV RX6 184 RX6 yX6_refused wsX6_refused) := goodIn_app (goodIn_of _ (by decide +kernel)) ggX6_stamped_X6_refused
set_option maxRecDepth 20000 in
theorem ggX6_stamped_X6_reckon : GoodIn wsX6_stamped wsX6_reckon := goodIn_ca (goodIn_r _ [14, 15, 16, 17, 18, 19, 20, 21, 22, 23, 24, 25, 26, 27, 8, 28, 29, 30, 31, 32, 33, 34, 35, 36, 37, 38, 43, 44, 45, 46, 47, 48, 49, 50, 51, 52, 53, 54, 55, 56, 57, 58, 59, 60, 61, 62, 63, 64, 65, 66, 67, 68, 69, 70, 71, 72, 73, 74] (by decide +kernel) (by decide +kernel)) (goodIn_sub (fun _ h => List.mem_cons_of_mem _ (List.mem_append_right _ h)) (by decide +kernel))
set_option maxRecDepth 20000 in
theorem gX6_stamped_X6_reckon : GoodIn wsX6_stamped (wsV RX6 198 RX6 yX6_reckon wsX6_reckon) := goodIn_app (goodIn_of _ (by decide +kernel)) ggX6_stamped_X6_reckon
set_option maxRecDepth 20000 in
theorem ggX6_stamped_X6_isSum : GoodIn wsX6_stamped wsX6_isSum := goodIn_ca (goodIn_r _ [42, 15, 43, 44, 45, 46, 47, 48, 49, 50, 51, 52, 53, 54, 55, 56, 57, 58, 59, 60, 61, 62, 63, 64, 65, 66, 67, 68, 69, 70, 71, 72, 73, 74] (by decide +kernel) (by decide +kernel)) (goodIn_sub (fun _ h => List.mem_cons_of_mem _ (List.mem_append_right _ h)) (by decide +kernel))
set_option maxRecDepth 20000 in
theorem gX6_stamped_X6_isSum : GoodIn wsX6_stamped (wsV RX6 210 RX6 yX6_isSum wsX6_isSum) := goodIn_app (goodIn_of _ (by decide +kernel)) ggX6_stamped_X6_isSum
theorem dX6_stamped_0 : decode cX6_stamped 0 = .ok (.aload_n 0, 1) := by decide +kernel
theorem dX6_stamped_1 : decode cX6_stamped 1 = .ok (.iload_n 1, 1) := by decide +kernel
theorem dX6_stamped_2 : decode cX6_stamped 2 = .ok (.iconst (-1), 1) := by decide +kernel
theorem dX6_stamped_3 : decode cX6_stamped 3 = .ok (.if_icmp .eq 28, 3) := by decide +kernel
theorem dX6_stamped_6 : decode cX6_stamped 6 = .ok (.iload_n 1, 1) := by decide +kernel
theorem dX6_stamped_7 : decode cX6_stamped 7 = .ok (.ifCond .lt 20, 3) := by decide +kernel
theorem dX6_stamped_10 : decode cX6_stamped 10 = .ok (.iload_n 1, 1) := by decide +kernel
theorem dX6_stamped_11 : decode cX6_stamped 11 = .ok (.aload_n 0, 1) := by decide +kernel
theorem dX6_stamped_12 : decode cX6_stamped 12 = .ok (.getfield 224, 3) := by decide +kernel
theorem dX6_stamped_15 : decode cX6_stamped 15 = .ok (.if_icmp .ge 12, 3) := by decide +kernel
theorem dX6_stamped_18 : decode cX6_stamped 18 = .ok (.iload_n 2, 1) := by decide +kernel
theorem dX6_stamped_19 : decode cX6_stamped 19 = .ok (.ifCond .lt 8, 3) := by decide +kernel
theorem dX6_stamped_22 : decode cX6_stamped 22 = .ok (.iload_n 2, 1) := by decide +kernel
theorem dX6_stamped_23 : decode cX6_stamped 23 = .ok (.iconst 3, 1) := by decide +kernel
theorem dX6_stamped_24 : decode cX6_stamped 24 = .ok (.if_icmp .le 7, 3) := by decide +kernel
theorem dX6_stamped_27 : decode cX6_stamped 27 = .ok (.iconst 1, 1) := by decide +kernel
theorem dX6_stamped_28 : decode cX6_stamped 28 = .ok (.goto 4, 3) := by decide +kernel
theorem dX6_stamped_31 : decode cX6_stamped 31 = .ok (.iconst 0, 1) := by decide +kernel
theorem dX6_stamped_32 : decode cX6_stamped 32 = .ok (.iconst 0, 1) := by decide +kernel
theorem dX6_stamped_33 : decode cX6_stamped 33 = .ok (.iconst 0, 1) := by decide +kernel
theorem dX6_stamped_34 : decode cX6_stamped 34 = .ok (.invokevirtual 184, 3) := by decide +kernel
theorem dX6_stamped_37 : decode cX6_stamped 37 = .ok (.ifCond .eq 5, 3) := by decide +kernel
theorem dX6_stamped_40 : decode cX6_stamped 40 = .ok (.lconst 0, 1) := by decide +kernel
theorem dX6_stamped_41 : decode cX6_stamped 41 = .ok (.lreturn, 1) := by decide +kernel
theorem dX6_stamped_42 : decode cX6_stamped 42 = .ok (.iload_n 1, 1) := by decide +kernel
theorem dX6_stamped_43 : decode cX6_stamped 43 = .ok (.iconst (-1), 1) := by decide +kernel
theorem dX6_stamped_44 : decode cX6_stamped 44 = .ok (.if_icmp .ne 9, 3) := by decide +kernel
theorem dX6_stamped_47 : decode cX6_stamped 47 = .ok (.aload_n 0, 1) := by decide +kernel
theorem dX6_stamped_48 : decode cX6_stamped 48 = .ok (.getfield 224, 3) := by decide +kernel
theorem dX6_stamped_51 : decode cX6_stamped 51 = .ok (.i2l, 1) := by decide +kernel
theorem dX6_stamped_52 : decode cX6_stamped 52 = .ok (.lreturn, 1) := by decide +kernel
theorem dX6_stamped_53 : decode cX6_stamped 53 = .ok (.iconst (-1), 1) := by decide +kernel
theorem dX6_stamped_54 : decode cX6_stamped 54 = .ok (.istore_n 3, 1) := by decide +kernel
theorem dX6_stamped_55 : decode cX6_stamped 55 = .ok (.iconst 0, 1) := by decide +kernel
theorem dX6_stamped_56 : decode cX6_stamped 56 = .ok (.istore 4, 2) := by decide +kernel
theorem dX6_stamped_58 : decode cX6_stamped 58 = .ok (.iload 4, 2) := by decide +kernel
theorem dX6_stamped_60 : decode cX6_stamped 60 = .ok (.aload_n 0, 1) := by decide +kernel
theorem dX6_stamped_61 : decode cX6_stamped 61 = .ok (.getfield 224, 3) := by decide +kernel
theorem dX6_stamped_64 : decode cX6_stamped 64 = .ok (.if_icmp .ge 96, 3) := by decide +kernel
theorem dX6_stamped_67 : decode cX6_stamped 67 = .ok (.iconst 0, 1) := by decide +kernel
theorem dX6_stamped_68 : decode cX6_stamped 68 = .ok (.istore 5, 2) := by decide +kernel
theorem dX6_stamped_70 : decode cX6_stamped 70 = .ok (.iconst 0, 1) := by decide +kernel
theorem dX6_stamped_71 : decode cX6_stamped 71 = .ok (.istore 6, 2) := by decide +kernel
theorem dX6_stamped_73 : decode cX6_stamped 73 = .ok (.iload 6, 2) := by decide +kernel
theorem dX6_stamped_75 : decode cX6_stamped 75 = .ok (.aload_n 0, 1) := by decide +kernel
theorem dX6_stamped_76 : decode cX6_stamped 76 = .ok (.getfield 224, 3) := by decide +kernel
theorem dX6_stamped_79 : decode cX6_stamped 79 = .ok (.if_icmp .ge 62, 3) := by decide +kernel
theorem dX6_stamped_82 : decode cX6_stamped 82 = .ok (.iload 5, 2) := by decide +kernel
theorem dX6_stamped_84 : decode cX6_stamped 84 = .ok (.aload_n 0, 1) := by decide +kernel
theorem dX6_stamped_85 : decode cX6_stamped 85 = .ok (.getfield 137, 3) := by decide +kernel
theorem dX6_stamped_88 : decode cX6_stamped 88 = .ok (.iload 6, 2) := by decide +kernel
theorem dX6_stamped_90 : decode cX6_stamped 90 = .ok (.laload, 1) := by decide +kernel
theorem dX6_stamped_91 : decode cX6_stamped 91 = .ok (.aload_n 0, 1) := by decide +kernel
theorem dX6_stamped_92 : decode cX6_stamped 92 = .ok (.getfield 137, 3) := by decide +kernel
theorem dX6_stamped_95 : decode cX6_stamped 95 = .ok (.iload 4, 2) := by decide +kernel
theorem dX6_stamped_97 : decode cX6_stamped 97 = .ok (.laload, 1) := by decide +kernel
theorem dX6_stamped_98 : decode cX6_stamped 98 = .ok (.lcmp, 1) := by decide +kernel
theorem dX6_stamped_99 : decode cX6_stamped 99 = .ok (.ifCond .lt 28, 3) := by decide +kernel
theorem dX6_stamped_102 : decode cX6_stamped 102 = .ok (.aload_n 0, 1) := by decide +kernel
theorem dX6_stamped_103 : decode cX6_stamped 103 = .ok (.getfield 137, 3) := by decide +kernel
theorem dX6_stamped_106 : decode cX6_stamped 106 = .ok (.iload 6, 2) := by decide +kernel
theorem dX6_stamped_108 : decode cX6_stamped 108 = .ok (.laload, 1) := by decide +kernel
theorem dX6_stamped_109 : decode cX6_stamped 109 = .ok (.aload_n 0, 1) := by decide +kernel
theorem dX6_stamped_110 : decode cX6_stamped 110 = .ok (.getfield 137, 3) := by decide +kernel
theorem dX6_stamped_113 : decode cX6_stamped 113 = .ok (.iload 4, 2) := by decide +kernel
theorem dX6_stamped_115 : decode cX6_stamped 115 = .ok (.laload, 1) := by decide +kernel
theorem dX6_stamped_116 : decode cX6_stamped 116 = .ok (.lcmp, 1) := by decide +kernel
theorem dX6_stamped_117 : decode cX6_stamped 117 = .ok (.ifCond .ne 14, 3) := by decide +kernel
theorem dX6_stamped_120 : decode cX6_stamped 120 = .ok (.iload 6, 2) := by decide +kernel
theorem dX6_stamped_122 : decode cX6_stamped 122 = .ok (.iload 4, 2) := by decide +kernel
theorem dX6_stamped_124 : decode cX6_stamped 124 = .ok (.if_icmp .ge 7, 3) := by decide +kernel
theorem dX6_stamped_127 : decode cX6_stamped 127 = .ok (.iconst 1, 1) := by decide +kernel
theorem dX6_stamped_128 : decode cX6_stamped 128 = .ok (.goto 4, 3) := by decide +kernel
theorem dX6_stamped_131 : decode cX6_stamped 131 = .ok (.iconst 0, 1) := by decide +kernel
theorem dX6_stamped_132 : decode cX6_stamped 132 = .ok (.iadd, 1) := by decide +kernel
theorem dX6_stamped_133 : decode cX6_stamped 133 = .ok (.istore 5, 2) := by decide +kernel
theorem dX6_stamped_135 : decode cX6_stamped 135 = .ok (.iinc 6 1, 3) := by decide +kernel
theorem dX6_stamped_138 : decode cX6_stamped 138 = .ok (.goto (-65), 3) := by decide +kernel
theorem dX6_stamped_141 : decode cX6_stamped 141 = .ok (.iload 5, 2) := by decide +kernel
theorem dX6_stamped_143 : decode cX6_stamped 143 = .ok (.iload_n 1, 1) := by decide +kernel
theorem dX6_stamped_144 : decode cX6_stamped 144 = .ok (.if_icmp .ne 8, 3) := by decide +kernel
theorem dX6_stamped_147 : decode cX6_stamped 147 = .ok (.iload 4, 2) := by decide +kernel
theorem dX6_stamped_149 : decode cX6_stamped 149 = .ok (.goto 4, 3) := by decide +kernel
theorem dX6_stamped_152 : decode cX6_stamped 152 = .ok (.iload_n 3, 1) := by decide +kernel
theorem dX6_stamped_153 : decode cX6_stamped 153 = .ok (.istore_n 3, 1) := by decide +kernel
theorem dX6_stamped_154 : decode cX6_stamped 154 = .ok (.iinc 4 1, 3) := by decide +kernel
theorem dX6_stamped_157 : decode cX6_stamped 157 = .ok (.goto (-99), 3) := by decide +kernel
theorem dX6_stamped_160 : decode cX6_stamped 160 = .ok (.iload_n 2, 1) := by decide +kernel
theorem dX6_stamped_161 : decode cX6_stamped 161 = .ok (.iconst 3, 1) := by decide +kernel
theorem dX6_stamped_162 : decode cX6_stamped 162 = .ok (.if_icmp .ge 34, 3) := by decide +kernel
theorem dX6_stamped_165 : decode cX6_stamped 165 = .ok (.iload_n 2, 1) := by decide +kernel
theorem dX6_stamped_166 : decode cX6_stamped 166 = .ok (.ifCond .ne 8, 3) := by decide +kernel
theorem dX6_stamped_169 : decode cX6_stamped 169 = .ok (.iload_n 3, 1) := by decide +kernel
theorem dX6_stamped_170 : decode cX6_stamped 170 = .ok (.i2l, 1) := by decide +kernel
theorem dX6_stamped_171 : decode cX6_stamped 171 = .ok (.goto 24, 3) := by decide +kernel
theorem dX6_stamped_174 : decode cX6_stamped 174 = .ok (.iload_n 2, 1) := by decide +kernel
theorem dX6_stamped_175 : decode cX6_stamped 175 = .ok (.iconst 1, 1) := by decide +kernel
theorem dX6_stamped_176 : decode cX6_stamped 176 = .ok (.if_icmp .ne 12, 3) := by decide +kernel
theorem dX6_stamped_179 : decode cX6_stamped 179 = .ok (.aload_n 0, 1) := by decide +kernel
theorem dX6_stamped_180 : decode cX6_stamped 180 = .ok (.getfield 137, 3) := by decide +kernel
theorem dX6_stamped_183 : decode cX6_stamped 183 = .ok (.iload_n 3, 1) := by decide +kernel
theorem dX6_stamped_184 : decode cX6_stamped 184 = .ok (.laload, 1) := by decide +kernel
theorem dX6_stamped_185 : decode cX6_stamped 185 = .ok (.goto 10, 3) := by decide +kernel
theorem dX6_stamped_188 : decode cX6_stamped 188 = .ok (.aload_n 0, 1) := by decide +kernel
theorem dX6_stamped_189 : decode cX6_stamped 189 = .ok (.getfield 140, 3) := by decide +kernel
theorem dX6_stamped_192 : decode cX6_stamped 192 = .ok (.iload_n 3, 1) := by decide +kernel
theorem dX6_stamped_193 : decode cX6_stamped 193 = .ok (.iaload, 1) := by decide +kernel
theorem dX6_stamped_194 : decode cX6_stamped 194 = .ok (.i2l, 1) := by decide +kernel
theorem dX6_stamped_195 : decode cX6_stamped 195 = .ok (.lreturn, 1) := by decide +kernel
theorem dX6_stamped_196 : decode cX6_stamped 196 = .ok (.aload_n 0, 1) := by decide +kernel
theorem dX6_stamped_197 : decode cX6_stamped 197 = .ok (.aload_n 0, 1) := by decide +kernel
theorem dX6_stamped_198 : decode cX6_stamped 198 = .ok (.getfield 140, 3) := by decide +kernel
theorem dX6_stamped_201 : decode cX6_stamped 201 = .ok (.iload_n 3, 1) := by decide +kernel
theorem dX6_stamped_202 : decode cX6_stamped 202 = .ok (.iaload, 1) := by decide +kernel
theorem dX6_stamped_203 : decode cX6_stamped 203 = .ok (.aload_n 0, 1) := by decide +kernel
theorem dX6_stamped_204 : decode cX6_stamped 204 = .ok (.getfield 140, 3) := by decide +kernel
theorem dX6_stamped_207 : decode cX6_stamped 207 = .ok (.iload_n 3, 1) := by decide +kernel
theorem dX6_stamped_208 : decode cX6_stamped 208 = .ok (.iaload, 1) := by decide +kernel
theorem dX6_stamped_209 : decode cX6_stamped 209 = .ok (.aload_n 0, 1) := by decide +kernel
theorem dX6_stamped_210 : decode cX6_stamped 210 = .ok (.getfield 140, 3) := by decide +kernel
theorem dX6_stamped_213 : decode cX6_stamped 213 = .ok (.iload_n 3, 1) := by decide +kernel
theorem dX6_stamped_214 : decode cX6_stamped 214 = .ok (.iaload, 1) := by decide +kernel
theorem dX6_stamped_215 : decode cX6_stamped 215 = .ok (.invokevirtual 198, 3) := by decide +kernel
theorem dX6_stamped_218 : decode cX6_stamped 218 = .ok (.aload_n 0, 1) := by decide +kernel
theorem dX6_stamped_219 : decode cX6_stamped 219 = .ok (.aload_n 0, 1) := by decide +kernel
theorem dX6_stamped_220 : decode cX6_stamped 220 = .ok (.getfield 143, 3) := by decide +kernel
theorem dX6_stamped_223 : decode cX6_stamped 223 = .ok (.bipush 8, 2) := by decide +kernel
theorem dX6_stamped_225 : decode cX6_stamped 225 = .ok (.iload_n 3, 1) := by decide +kernel
theorem dX6_stamped_226 : decode cX6_stamped 226 = .ok (.imul, 1) := by decide +kernel
theorem dX6_stamped_227 : decode cX6_stamped 227 = .ok (.invokevirtual 210, 3) := by decide +kernel
theorem dX6_stamped_230 : decode cX6_stamped 230 = .ok (.ifCond .eq 7, 3) := by decide +kernel
theorem dX6_stamped_233 : decode cX6_stamped 233 = .ok (.lconst 1, 1) := by decide +kernel
theorem dX6_stamped_234 : decode cX6_stamped 234 = .ok (.goto 4, 3) := by decide +kernel
theorem dX6_stamped_237 : decode cX6_stamped 237 = .ok (.lconst 0, 1) := by decide +kernel
theorem dX6_stamped_238 : decode cX6_stamped 238 = .ok (.lreturn, 1) := by decide +kernel
theorem dJx00060_init_a7421_0 : decode cJx00060_init_a7421 0 = .ok (.aload_n 0, 1) := by decide +kernel
theorem dJx00060_init_a7421_1 : decode cJx00060_init_a7421 1 = .ok (.aload_n 1, 1) := by decide +kernel
theorem dJx00060_init_a7421_2 : decode cJx00060_init_a7421 2 = .ok (.invokespecial 7, 3) := by decide +kernel
theorem dJx00060_init_a7421_5 : decode cJx00060_init_a7421 5 = .ok (.return_, 1) := by decide +kernel
theorem dJ9_max_7cf53_0 : decode cJ9_max_7cf53 0 = .ok (.iload_n 0, 1) := by decide +kernel
theorem dJ9_max_7cf53_1 : decode cJ9_max_7cf53 1 = .ok (.iload_n 1, 1) := by decide +kernel
theorem dJ9_max_7cf53_2 : decode cJ9_max_7cf53 2 = .ok (.if_icmp .lt 7, 3) := by decide +kernel
theorem dJ9_max_7cf53_5 : decode cJ9_max_7cf53 5 = .ok (.iload_n 0, 1) := by decide +kernel
theorem dJ9_max_7cf53_6 : decode cJ9_max_7cf53 6 = .ok (.goto 4, 3) := by decide +kernel
theorem dJ9_max_7cf53_9 : decode cJ9_max_7cf53 9 = .ok (.iload_n 1, 1) := by decide +kernel
theorem dJ9_max_7cf53_10 : decode cJ9_max_7cf53 10 = .ok (.ireturn, 1) := by decide +kernel
set_option maxRecDepth 20000 in
theorem ggL_add_X5_add : GoodIn wsL_add wsX5_add := goodIn_ca (goodIn_ca (goodIn_r _ [6, 7, 8, 9, 10, 11, 12, 13, 14, 15, 16, 17, 18, 19] (by decide +kernel) (by decide +kernel)) (goodIn_sub (fun _ h => List.mem_cons_of_mem _ (List.mem_append_right _ h)) (by decide +kernel))) (goodIn_sub (fun _ h => List.mem_cons_of_mem _ (List.mem_append_left _ (List.mem_append_right _ h))) (by decide +kernel))
set_option maxRecDepth 20000 in
theorem gL_add_X5_add : GoodIn wsL_add (wsV RL 7 RX5 yX5_add wsX5_add) := goodIn_app (goodIn_of _ (by decide +kernel)) ggL_add_X5_add
theorem dL_add_0 : decode cL_add 0 = .ok (.aload_n 2, 1) := by decide +kernel
theorem dL_add_1 : decode cL_add 1 = .ok (.iconst 0, 1) := by decide +kernel
theorem dL_add_2 : decode cL_add 2 = .ok (.aload_n 0, 1) := by decide +kernel
theorem dL_add_3 : decode cL_add 3 = .ok (.iload_n 1, 1) := by decide +kernel
theorem dL_add_4 : decode cL_add 4 = .ok (.invokevirtual 7, 3) := by decide +kernel
theorem dL_add_7 : decode cL_add 7 = .ok (.i2l, 1) := by decide +kernel
theorem dL_add_8 : decode cL_add 8 = .ok (.lastore, 1) := by decide +kernel
theorem dL_add_9 : decode cL_add 9 = .ok (.goto 6, 3) := by decide +kernel
theorem dL_add_12 : decode cL_add 12 = .ok (.astore_n 3, 1) := by decide +kernel
theorem dL_add_13 : decode cL_add 13 = .ok (.iconst 1, 1) := by decide +kernel
theorem dL_add_14 : decode cL_add 14 = .ok (.ireturn, 1) := by decide +kernel
theorem dL_add_15 : decode cL_add 15 = .ok (.iconst 0, 1) := by decide +kernel
theorem dL_add_16 : decode cL_add 16 = .ok (.ireturn, 1) := by decide +kernel
set_option maxRecDepth 20000 in
theorem ggL_poke_X5_poke : GoodIn wsL_poke wsX5_poke := goodIn_ca (goodIn_ca (goodIn_r _ [6, 7, 8, 9, 10, 11, 12, 13, 14, 15, 16, 17, 18, 19] (by decide +kernel) (by decide +kernel)) (goodIn_sub (fun _ h => List.mem_cons_of_mem _ (List.mem_append_right _ h)) (by decide +kernel))) (goodIn_sub (fun _ h => List.mem_cons_of_mem _ (List.mem_append_left _ (List.mem_append_right _ h))) (by decide +kernel))
set_option maxRecDepth 20000 in
theorem gL_poke_X5_poke : GoodIn wsL_poke (wsV RL 15 RX5 yX5_poke wsX5_poke) := goodIn_app (goodIn_of _ (by decide +kernel)) ggL_poke_X5_poke
theorem dL_poke_0 : decode cL_poke 0 = .ok (.aload 4, 2) := by decide +kernel
theorem dL_poke_2 : decode cL_poke 2 = .ok (.iconst 0, 1) := by decide +kernel
theorem dL_poke_3 : decode cL_poke 3 = .ok (.aload_n 0, 1) := by decide +kernel
theorem dL_poke_4 : decode cL_poke 4 = .ok (.lload_n 1, 1) := by decide +kernel
theorem dL_poke_5 : decode cL_poke 5 = .ok (.iload_n 3, 1) := by decide +kernel
theorem dL_poke_6 : decode cL_poke 6 = .ok (.invokevirtual 15, 3) := by decide +kernel
theorem dL_poke_9 : decode cL_poke 9 = .ok (.i2l, 1) := by decide +kernel
theorem dL_poke_10 : decode cL_poke 10 = .ok (.lastore, 1) := by decide +kernel
theorem dL_poke_11 : decode cL_poke 11 = .ok (.goto 7, 3) := by decide +kernel
theorem dL_poke_14 : decode cL_poke 14 = .ok (.astore 5, 2) := by decide +kernel
theorem dL_poke_16 : decode cL_poke 16 = .ok (.iconst 1, 1) := by decide +kernel
theorem dL_poke_17 : decode cL_poke 17 = .ok (.ireturn, 1) := by decide +kernel
theorem dL_poke_18 : decode cL_poke 18 = .ok (.iconst 0, 1) := by decide +kernel
theorem dL_poke_19 : decode cL_poke 19 = .ok (.ireturn, 1) := by decide +kernel
set_option maxRecDepth 20000 in
theorem ggL_place_X5_place : GoodIn wsL_place wsX5_place := goodIn_ca (goodIn_ca (goodIn_ca (goodIn_r _ [7, 8, 9, 10, 11, 12, 13, 14, 15, 16, 17, 18, 19, 20, 21, 22, 23, 24, 25, 26, 27, 28, 29, 30, 31, 32, 33, 34, 35, 36, 37, 38, 39] (by decide +kernel) (by decide +kernel)) (goodIn_sub (fun _ h => List.mem_cons_of_mem _ (List.mem_append_left _ (List.mem_append_right _ h))) (by decide +kernel))) (goodIn_sub (fun _ h => List.mem_cons_of_mem _ (List.mem_append_right _ h)) (by decide +kernel))) (goodIn_sub (fun _ h => List.mem_cons_of_mem _ (List.mem_append_left _ (List.mem_append_left _ (List.mem_append_right _ h)))) (by decide +kernel))
set_option maxRecDepth 20000 in
theorem gL_place_X5_place : GoodIn wsL_place (wsV RL 21 RX5 yX5_place wsX5_place) := goodIn_app (goodIn_of _ (by decide +kernel)) ggL_place_X5_place
theorem dL_place_0 : decode cL_place 0 = .ok (.aload 5, 2) := by decide +kernel
theorem dL_place_2 : decode cL_place 2 = .ok (.iconst 0, 1) := by decide +kernel
theorem dL_place_3 : decode cL_place 3 = .ok (.aload_n 0, 1) := by decide +kernel
theorem dL_place_4 : decode cL_place 4 = .ok (.lload_n 1, 1) := by decide +kernel
theorem dL_place_5 : decode cL_place 5 = .ok (.lload_n 3, 1) := by decide +kernel
theorem dL_place_6 : decode cL_place 6 = .ok (.invokevirtual 21, 3) := by decide +kernel
theorem dL_place_9 : decode cL_place 9 = .ok (.i2l, 1) := by decide +kernel
theorem dL_place_10 : decode cL_place 10 = .ok (.lastore, 1) := by decide +kernel
theorem dL_place_11 : decode cL_place 11 = .ok (.goto 11, 3) := by decide +kernel
theorem dL_place_14 : decode cL_place 14 = .ok (.astore 6, 2) := by decide +kernel
theorem dL_place_16 : decode cL_place 16 = .ok (.iconst 1, 1) := by decide +kernel
theorem dL_place_17 : decode cL_place 17 = .ok (.ireturn, 1) := by decide +kernel
theorem dL_place_18 : decode cL_place 18 = .ok (.astore 6, 2) := by decide +kernel
theorem dL_place_20 : decode cL_place 20 = .ok (.iconst 2, 1) := by decide +kernel
theorem dL_place_21 : decode cL_place 21 = .ok (.ireturn, 1) := by decide +kernel
theorem dL_place_22 : decode cL_place 22 = .ok (.iconst 0, 1) := by decide +kernel
theorem dL_place_23 : decode cL_place 23 = .ok (.ireturn, 1) := by decide +kernel
set_option maxRecDepth 20000 in
theorem ggL_sign_X5_sign : GoodIn wsL_sign wsX5_sign := goodIn_ca (goodIn_ca (goodIn_ca (goodIn_ca (goodIn_r _ [8, 9, 10, 11, 12, 13, 14, 15, 16, 17, 18, 19, 20, 21, 22, 23, 24, 25, 26, 27, 28, 29, 30, 31, 7, 32, 33, 34, 35, 36, 37, 38, 39, 40, 41, 42, 43, 44, 45, 46, 47, 48, 49, 50, 51, 52, 53, 54, 55, 56, 57, 58, 59, 60, 61, 62, 63, 64, 65, 66, 67, 68, 69, 70, 71, 72, 73, 74, 75, 76, 77, 78, 79, 80, 81, 82, 83, 84, 85, 86, 87, 88, 89, 90, 91, 92, 93, 94, 95, 96, 97, 98, 99, 100, 101, 102, 103, 104, 105, 106, 107, 108, 109, 110, 111, 112, 113, 114, 115, 116, 117, 118, 119, 120, 121, 122, 123, 124, 125, 126, 127, 128, 129, 130, 131, 132, 133, 134, 135, 136, 137, 138, 139, 140, 141, 142, 143, 144, 145, 146, 147, 148, 149, 150, 151, 152, 153] (by decide +kernel) (by decide +kernel)) (goodIn_sub (fun _ h => List.mem_cons_of_mem _ (List.mem_append_left _ (List.mem_append_left _ (List.mem_append_right _ h)))) (by decide +kernel))) (goodIn_sub (fun _ h => List.mem_cons_of_mem _ (List.mem_append_left _ (List.mem_append_right _ h))) (by decide +kernel))) (goodIn_sub (fun _ h => List.mem_cons_of_mem _ (List.mem_append_right _ h)) (by decide +kernel))) (goodIn_sub (fun _ h => List.mem_cons_of_mem _ (List.mem_append_left _ (List.mem_append_left _ (List.mem_append_left _ (List.mem_append_right _ h))))) (by decide +kernel))
set_option maxRecDepth 20000 in
theorem gL_sign_X5_sign : GoodIn wsL_sign (wsV RL 27 RX5 yX5_sign wsX5_sign) := goodIn_app (goodIn_of _ (by decide +kernel)) ggL_sign_X5_sign
theorem dL_sign_0 : decode cL_sign 0 = .ok (.aload 5, 2) := by decide +kernel
theorem dL_sign_2 : decode cL_sign 2 = .ok (.iconst 0, 1) := by decide +kernel
theorem dL_sign_3 : decode cL_sign 3 = .ok (.aload_n 0, 1) := by decide +kernel
theorem dL_sign_4 : decode cL_sign 4 = .ok (.iload_n 1, 1) := by decide +kernel
theorem dL_sign_5 : decode cL_sign 5 = .ok (.iload_n 2, 1) := by decide +kernel
theorem dL_sign_6 : decode cL_sign 6 = .ok (.lload_n 3, 1) := by decide +kernel
theorem dL_sign_7 : decode cL_sign 7 = .ok (.invokevirtual 27, 3) := by decide +kernel
theorem dL_sign_10 : decode cL_sign 10 = .ok (.i2l, 1) := by decide +kernel
theorem dL_sign_11 : decode cL_sign 11 = .ok (.lastore, 1) := by decide +kernel
theorem dL_sign_12 : decode cL_sign 12 = .ok (.goto 15, 3) := by decide +kernel
theorem dL_sign_15 : decode cL_sign 15 = .ok (.astore 6, 2) := by decide +kernel
theorem dL_sign_17 : decode cL_sign 17 = .ok (.iconst 1, 1) := by decide +kernel
theorem dL_sign_18 : decode cL_sign 18 = .ok (.ireturn, 1) := by decide +kernel
theorem dL_sign_19 : decode cL_sign 19 = .ok (.astore 6, 2) := by decide +kernel
theorem dL_sign_21 : decode cL_sign 21 = .ok (.iconst 2, 1) := by decide +kernel
theorem dL_sign_22 : decode cL_sign 22 = .ok (.ireturn, 1) := by decide +kernel
theorem dL_sign_23 : decode cL_sign 23 = .ok (.astore 6, 2) := by decide +kernel
theorem dL_sign_25 : decode cL_sign 25 = .ok (.iconst 3, 1) := by decide +kernel
theorem dL_sign_26 : decode cL_sign 26 = .ok (.ireturn, 1) := by decide +kernel
theorem dL_sign_27 : decode cL_sign 27 = .ok (.iconst 0, 1) := by decide +kernel
theorem dL_sign_28 : decode cL_sign 28 = .ok (.ireturn, 1) := by decide +kernel
set_option maxRecDepth 20000 in
theorem ggL_holds_X5_holds : GoodIn wsL_holds wsX5_holds := goodIn_ca (goodIn_ca (goodIn_r _ [6, 7, 8, 9, 10, 11, 12, 13, 5, 14, 15, 16, 17, 18, 19, 20, 21, 22, 23, 24, 25, 26, 27, 28, 29, 30, 31, 32, 33, 34, 35, 36, 37, 38, 39, 40, 41, 42, 43, 44, 45, 46, 47, 48, 49, 50, 51, 52, 53, 54, 55, 56, 57, 58, 59, 60, 61, 62, 63, 64, 65, 66, 67, 68, 69, 70, 71, 72, 73, 74, 75, 76, 77, 78, 79, 80, 81, 82, 83, 84, 85, 86, 87, 88, 89, 90, 91, 92, 93, 94, 95, 96, 97, 98, 99, 100, 101, 102, 103, 104, 105, 106, 107, 108, 109, 110, 111, 112, 113, 114, 115, 116, 117, 118, 119, 120, 121, 122, 123, 124, 125, 126, 127, 128, 129, 130, 131, 132, 133] (by decide +kernel) (by decide +kernel)) (goodIn_sub (fun _ h => List.mem_cons_of_mem _ (List.mem_append_right _ h)) (by decide +kernel))) (goodIn_sub (fun _ h => List.mem_cons_of_mem _ (List.mem_append_left _ (List.mem_append_right _ h))) (by decide +kernel))
set_option maxRecDepth 20000 in
theorem gL_holds_X5_holds : GoodIn wsL_holds (wsV RL 33 RX5 yX5_holds wsX5_holds) := goodIn_app (goodIn_of _ (by decide +kernel)) ggL_holds_X5_holds
theorem dL_holds_0 : decode cL_holds 0 = .ok (.aload_n 2, 1) := by decide +kernel
theorem dL_holds_1 : decode cL_holds 1 = .ok (.iconst 0, 1) := by decide +kernel
theorem dL_holds_2 : decode cL_holds 2 = .ok (.aload_n 0, 1) := by decide +kernel
theorem dL_holds_3 : decode cL_holds 3 = .ok (.iload_n 1, 1) := by decide +kernel
theorem dL_holds_4 : decode cL_holds 4 = .ok (.invokevirtual 33, 3) := by decide +kernel
theorem dL_holds_7 : decode cL_holds 7 = .ok (.i2l, 1) := by decide +kernel
theorem dL_holds_8 : decode cL_holds 8 = .ok (.lastore, 1) := by decide +kernel
theorem dL_holds_9 : decode cL_holds 9 = .ok (.goto 6, 3) := by decide +kernel
theorem dL_holds_12 : decode cL_holds 12 = .ok (.astore_n 3, 1) := by decide +kernel
theorem dL_holds_13 : decode cL_holds 13 = .ok (.iconst 1, 1) := by decide +kernel
theorem dL_holds_14 : decode cL_holds 14 = .ok (.ireturn, 1) := by decide +kernel
theorem dL_holds_15 : decode cL_holds 15 = .ok (.iconst 0, 1) := by decide +kernel
theorem dL_holds_16 : decode cL_holds 16 = .ok (.ireturn, 1) := by decide +kernel
set_option maxRecDepth 20000 in
theorem ggL_span_X5_span : GoodIn wsL_span wsX5_span := goodIn_ca (goodIn_ca (goodIn_ca (goodIn_r _ [7, 8, 9, 10, 11, 12, 13, 6, 14, 15, 16, 17, 18, 19, 20, 21, 22, 23, 24, 25, 26, 27, 28, 29, 30, 31, 32, 33, 34, 35, 36, 37, 38, 39, 40, 41] (by decide +kernel) (by decide +kernel)) (goodIn_sub (fun _ h => List.mem_cons_of_mem _ (List.mem_append_left _ (List.mem_append_right _ h))) (by decide +kernel))) (goodIn_sub (fun _ h => List.mem_cons_of_mem _ (List.mem_append_left _ (List.mem_append_left _ (List.mem_append_right _ h)))) (by decide +kernel))) (goodIn_sub (fun _ h => List.mem_cons_of_mem _ (List.mem_append_right _ h)) (by decide +kernel))
set_option maxRecDepth 20000 in
theorem gL_span_X5_span : GoodIn wsL_span (wsV RL 39 RX5 yX5_span wsX5_span) := goodIn_app (goodIn_of _ (by decide +kernel)) ggL_span_X5_span
theorem dL_span_0 : decode cL_span 0 = .ok (.aload 4, 2) := by decide +kernel
theorem dL_span_2 : decode cL_span 2 = .ok (.iconst 0, 1) := by decide +kernel
theorem dL_span_3 : decode cL_span 3 = .ok (.aload_n 0, 1) := by decide +kernel
theorem dL_span_4 : decode cL_span 4 = .ok (.iload_n 1, 1) := by decide +kernel
theorem dL_span_5 : decode cL_span 5 = .ok (.iload_n 2, 1) := by decide +kernel
theorem dL_span_6 : decode cL_span 6 = .ok (.iload_n 3, 1) := by decide +kernel
theorem dL_span_7 : decode cL_span 7 = .ok (.invokevirtual 39, 3) := by decide +kernel
theorem dL_span_10 : decode cL_span 10 = .ok (.lastore, 1) := by decide +kernel
theorem dL_span_11 : decode cL_span 11 = .ok (.goto 11, 3) := by decide +kernel
theorem dL_span_14 : decode cL_span 14 = .ok (.astore 5, 2) := by decide +kernel
theorem dL_span_16 : decode cL_span 16 = .ok (.iconst 1, 1) := by decide +kernel
theorem dL_span_17 : decode cL_span 17 = .ok (.ireturn, 1) := by decide +kernel
theorem dL_span_18 : decode cL_span 18 = .ok (.astore 5, 2) := by decide +kernel
theorem dL_span_20 : decode cL_span 20 = .ok (.iconst 2, 1) := by decide +kernel
theorem dL_span_21 : decode cL_span 21 = .ok (.ireturn, 1) := by decide +kernel
theorem dL_span_22 : decode cL_span 22 = .ok (.iconst 0, 1) := by decide +kernel
theorem dL_span_23 : decode cL_span 23 = .ok (.ireturn, 1) := by decide +kernel
set_option maxRecDepth 20000 in
theorem ggL_tell_X5_tell : GoodIn wsL_tell wsX5_tell := goodIn_ca (goodIn_ca (goodIn_ca (goodIn_r _ [7, 8, 9, 10, 11, 12, 13, 6, 14, 15, 16, 17, 18, 19, 20, 21, 22, 23, 24, 25, 26, 27, 28, 29, 30, 31, 32, 33, 34, 35, 36, 37, 38, 39, 40, 41] (by decide +kernel) (by decide +kernel)) (goodIn_sub (fun _ h => List.mem_cons_of_mem _ (List.mem_append_left _ (List.mem_append_left _ (List.mem_append_right _ h)))) (by decide +kernel))) (goodIn_sub (fun _ h => List.mem_cons_of_mem _ (List.mem_append_left _ (List.mem_append_right _ h))) (by decide +kernel))) (goodIn_sub (fun _ h => List.mem_cons_of_mem _ (List.mem_append_right _ h)) (by decide +kernel))
set_option maxRecDepth 20000 in
theorem gL_tell_X5_tell : GoodIn wsL_tell (wsV RL 43 RX5 yX5_tell wsX5_tell) := goodIn_app (goodIn_of _ (by decide +kernel)) ggL_tell_X5_tell
theorem dL_tell_0 : decode cL_tell 0 = .ok (.aload_n 0, 1) := by decide +kernel
theorem dL_tell_1 : decode cL_tell 1 = .ok (.iload_n 1, 1) := by decide +kernel
theorem dL_tell_2 : decode cL_tell 2 = .ok (.iload_n 2, 1) := by decide +kernel
theorem dL_tell_3 : decode cL_tell 3 = .ok (.lload_n 3, 1) := by decide +kernel
theorem dL_tell_4 : decode cL_tell 4 = .ok (.lload 5, 2) := by decide +kernel
theorem dL_tell_6 : decode cL_tell 6 = .ok (.invokevirtual 43, 3) := by decide +kernel
theorem dL_tell_9 : decode cL_tell 9 = .ok (.goto 11, 3) := by decide +kernel
theorem dL_tell_12 : decode cL_tell 12 = .ok (.astore 7, 2) := by decide +kernel
theorem dL_tell_14 : decode cL_tell 14 = .ok (.iconst 1, 1) := by decide +kernel
theorem dL_tell_15 : decode cL_tell 15 = .ok (.ireturn, 1) := by decide +kernel
theorem dL_tell_16 : decode cL_tell 16 = .ok (.astore 7, 2) := by decide +kernel
theorem dL_tell_18 : decode cL_tell 18 = .ok (.iconst 2, 1) := by decide +kernel
theorem dL_tell_19 : decode cL_tell 19 = .ok (.ireturn, 1) := by decide +kernel
theorem dL_tell_20 : decode cL_tell 20 = .ok (.iconst 0, 1) := by decide +kernel
theorem dL_tell_21 : decode cL_tell 21 = .ok (.ireturn, 1) := by decide +kernel
set_option maxRecDepth 20000 in
theorem ggL_chain_X5_chain : GoodIn wsL_chain wsX5_chain := goodIn_ca (goodIn_ca (goodIn_ca (goodIn_ca (goodIn_r _ [8, 9, 10, 11, 12, 13, 14, 15, 16, 7, 17, 18, 19, 20, 21, 22, 23, 24, 25, 26, 27, 28, 29, 30, 31, 32, 33, 34, 35, 36, 37, 38, 39, 40, 41, 42, 43, 44, 45, 46, 47, 48, 49, 50, 51, 52] (by decide +kernel) (by decide +kernel)) (goodIn_sub (fun _ h => List.mem_cons_of_mem _ (List.mem_append_left _ (List.mem_append_left _ (List.mem_append_right _ h)))) (by decide +kernel))) (goodIn_sub (fun _ h => List.mem_cons_of_mem _ (List.mem_append_left _ (List.mem_append_right _ h))) (by decide +kernel))) (goodIn_sub (fun _ h => List.mem_cons_of_mem _ (List.mem_append_right _ h)) (by decide +kernel))) (goodIn_sub (fun _ h => List.mem_cons_of_mem _ (List.mem_append_left _ (List.mem_append_left _ (List.mem_append_left _ (List.mem_append_right _ h))))) (by decide +kernel))
set_option maxRecDepth 20000 in
theorem gL_chain_X5_chain : GoodIn wsL_chain (wsV RL 47 RX5 yX5_chain wsX5_chain) := goodIn_app (goodIn_of _ (by decide +kernel)) ggL_chain_X5_chain
theorem dL_chain_0 : decode cL_chain 0 = .ok (.aload 6, 2) := by decide +kernel
theorem dL_chain_2 : decode cL_chain 2 = .ok (.iconst 0, 1) := by decide +kernel
theorem dL_chain_3 : decode cL_chain 3 = .ok (.aload_n 0, 1) := by decide +kernel
theorem dL_chain_4 : decode cL_chain 4 = .ok (.iload_n 1, 1) := by decide +kernel
theorem dL_chain_5 : decode cL_chain 5 = .ok (.lload_n 2, 1) := by decide +kernel
theorem dL_chain_6 : decode cL_chain 6 = .ok (.lload 4, 2) := by decide +kernel
theorem dL_chain_8 : decode cL_chain 8 = .ok (.invokevirtual 47, 3) := by decide +kernel
theorem dL_chain_11 : decode cL_chain 11 = .ok (.i2l, 1) := by decide +kernel
theorem dL_chain_12 : decode cL_chain 12 = .ok (.lastore, 1) := by decide +kernel
theorem dL_chain_13 : decode cL_chain 13 = .ok (.goto 15, 3) := by decide +kernel
theorem dL_chain_16 : decode cL_chain 16 = .ok (.astore 7, 2) := by decide +kernel
theorem dL_chain_18 : decode cL_chain 18 = .ok (.iconst 1, 1) := by decide +kernel
theorem dL_chain_19 : decode cL_chain 19 = .ok (.ireturn, 1) := by decide +kernel
theorem dL_chain_20 : decode cL_chain 20 = .ok (.astore 7, 2) := by decide +kernel
theorem dL_chain_22 : decode cL_chain 22 = .ok (.iconst 2, 1) := by decide +kernel
theorem dL_chain_23 : decode cL_chain 23 = .ok (.ireturn, 1) := by decide +kernel
theorem dL_chain_24 : decode cL_chain 24 = .ok (.astore 7, 2) := by decide +kernel
theorem dL_chain_26 : decode cL_chain 26 = .ok (.iconst 3, 1) := by decide +kernel
theorem dL_chain_27 : decode cL_chain 27 = .ok (.ireturn, 1) := by decide +kernel
theorem dL_chain_28 : decode cL_chain 28 = .ok (.iconst 0, 1) := by decide +kernel
theorem dL_chain_29 : decode cL_chain 29 = .ok (.ireturn, 1) := by decide +kernel
