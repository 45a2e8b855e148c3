set_option maxRecDepth 20000 in
theorem ggX5_since_X5_signatureAt : GoodIn wsX5_since wsX5_signatureAt := goodIn_ca (goodIn_r _ [12, 13, 14, 15, 16, 27, 28, 29, 30, 31, 32, 33, 34, 35] (by decide +kernel) (by decide +kernel)) (goodIn_sub (fun _ h => List.mem_cons_of_mem _ (List.mem_append_right _ h)) (by decide +kernel))
set_option maxRecDepth 20000 in
theorem gX5_since_X5_signatureAt : GoodIn wsX5_since (wsV RX5 136 RX5 yX5_signatureAt wsX5_signatureAt) := goodIn_app (goodIn_of _ (by decide +kernel)) ggX5_since_X5_signatureAt
set_option maxRecDepth 20000 in
theorem ggX5_since_X3_allows : GoodIn wsX5_since wsX3_allows := goodIn_r _ [21, 22, 23, 24, 25, 11, 26, 39, 40, 41, 42, 43, 44, 45, 46, 47, 48, 49, 50, 51, 52] (by decide +kernel) (by decide +kernel)
set_option maxRecDepth 20000 in
theorem gX5_since_X3_allows : GoodIn wsX5_since (wsV RX5 206 RX3 yX3_allows wsX3_allows) := goodIn_app (goodIn_of _ (by decide +kernel)) ggX5_since_X3_allows
theorem dX5_since_0 : decode cX5_since 0 = .ok (.aload_n 0, 1) := by decide +kernel
theorem dX5_since_1 : decode cX5_since 1 = .ok (.iload_n 1, 1) := by decide +kernel
theorem dX5_since_2 : decode cX5_since 2 = .ok (.invokevirtual 136, 3) := by decide +kernel
theorem dX5_since_5 : decode cX5_since 5 = .ok (.astore 4, 2) := by decide +kernel
theorem dX5_since_7 : decode cX5_since 7 = .ok (.aload_n 0, 1) := by decide +kernel
theorem dX5_since_8 : decode cX5_since 8 = .ok (.getfield 29, 3) := by decide +kernel
theorem dX5_since_11 : decode cX5_since 11 = .ok (.getfield 107, 3) := by decide +kernel
theorem dX5_since_14 : decode cX5_since 14 = .ok (.aload 4, 2) := by decide +kernel
theorem dX5_since_16 : decode cX5_since 16 = .ok (.getfield 195, 3) := by decide +kernel
theorem dX5_since_19 : decode cX5_since 19 = .ok (.isub, 1) := by decide +kernel
theorem dX5_since_20 : decode cX5_since 20 = .ok (.istore 5, 2) := by decide +kernel
theorem dX5_since_22 : decode cX5_since 22 = .ok (.iload_n 2, 1) := by decide +kernel
theorem dX5_since_23 : decode cX5_since 23 = .ok (.iconst (-1), 1) := by decide +kernel
theorem dX5_since_24 : decode cX5_since 24 = .ok (.if_icmp .ne 6, 3) := by decide +kernel
theorem dX5_since_27 : decode cX5_since 27 = .ok (.iload 5, 2) := by decide +kernel
theorem dX5_since_29 : decode cX5_since 29 = .ok (.ireturn, 1) := by decide +kernel
theorem dX5_since_30 : decode cX5_since 30 = .ok (.iload_n 2, 1) := by decide +kernel
theorem dX5_since_31 : decode cX5_since 31 = .ok (.ifCond .lt 18, 3) := by decide +kernel
theorem dX5_since_34 : decode cX5_since 34 = .ok (.iload_n 2, 1) := by decide +kernel
theorem dX5_since_35 : decode cX5_since 35 = .ok (.iload 5, 2) := by decide +kernel
theorem dX5_since_37 : decode cX5_since 37 = .ok (.if_icmp .ge 12, 3) := by decide +kernel
theorem dX5_since_40 : decode cX5_since 40 = .ok (.iload_n 3, 1) := by decide +kernel
theorem dX5_since_41 : decode cX5_since 41 = .ok (.ifCond .lt 8, 3) := by decide +kernel
theorem dX5_since_44 : decode cX5_since 44 = .ok (.iload_n 3, 1) := by decide +kernel
theorem dX5_since_45 : decode cX5_since 45 = .ok (.iconst 2, 1) := by decide +kernel
theorem dX5_since_46 : decode cX5_since 46 = .ok (.if_icmp .le 13, 3) := by decide +kernel
theorem dX5_since_49 : decode cX5_since 49 = .ok (.new 58, 3) := by decide +kernel
theorem dX5_since_52 : decode cX5_since 52 = .ok (.dup, 1) := by decide +kernel
theorem dX5_since_53 : decode cX5_since 53 = .ok (.ldc 198, 2) := by decide +kernel
theorem dX5_since_55 : decode cX5_since 55 = .ok (.invokespecial 62, 3) := by decide +kernel
theorem dX5_since_58 : decode cX5_since 58 = .ok (.athrow, 1) := by decide +kernel
theorem dX5_since_59 : decode cX5_since 59 = .ok (.aload 4, 2) := by decide +kernel
theorem dX5_since_61 : decode cX5_since 61 = .ok (.getfield 195, 3) := by decide +kernel
theorem dX5_since_64 : decode cX5_since 64 = .ok (.iload_n 2, 1) := by decide +kernel
theorem dX5_since_65 : decode cX5_since 65 = .ok (.iadd, 1) := by decide +kernel
theorem dX5_since_66 : decode cX5_since 66 = .ok (.istore 6, 2) := by decide +kernel
theorem dX5_since_68 : decode cX5_since 68 = .ok (.iload_n 3, 1) := by decide +kernel
theorem dX5_since_69 : decode cX5_since 69 = .ok (.ifCond .ne 14, 3) := by decide +kernel
theorem dX5_since_72 : decode cX5_since 72 = .ok (.aload_n 0, 1) := by decide +kernel
theorem dX5_since_73 : decode cX5_since 73 = .ok (.getfield 29, 3) := by decide +kernel
theorem dX5_since_76 : decode cX5_since 76 = .ok (.getfield 200, 3) := by decide +kernel
theorem dX5_since_79 : decode cX5_since 79 = .ok (.iload 6, 2) := by decide +kernel
theorem dX5_since_81 : decode cX5_since 81 = .ok (.iaload, 1) := by decide +kernel
theorem dX5_since_82 : decode cX5_since 82 = .ok (.ireturn, 1) := by decide +kernel
theorem dX5_since_83 : decode cX5_since 83 = .ok (.iload_n 3, 1) := by decide +kernel
theorem dX5_since_84 : decode cX5_since 84 = .ok (.iconst 1, 1) := by decide +kernel
theorem dX5_since_85 : decode cX5_since 85 = .ok (.if_icmp .ne 14, 3) := by decide +kernel
theorem dX5_since_88 : decode cX5_since 88 = .ok (.aload_n 0, 1) := by decide +kernel
theorem dX5_since_89 : decode cX5_since 89 = .ok (.getfield 29, 3) := by decide +kernel
theorem dX5_since_92 : decode cX5_since 92 = .ok (.getfield 203, 3) := by decide +kernel
theorem dX5_since_95 : decode cX5_since 95 = .ok (.iload 6, 2) := by decide +kernel
theorem dX5_since_97 : decode cX5_since 97 = .ok (.iaload, 1) := by decide +kernel
theorem dX5_since_98 : decode cX5_since 98 = .ok (.ireturn, 1) := by decide +kernel
theorem dX5_since_99 : decode cX5_since 99 = .ok (.aload 4, 2) := by decide +kernel
theorem dX5_since_101 : decode cX5_since 101 = .ok (.aload_n 0, 1) := by decide +kernel
theorem dX5_since_102 : decode cX5_since 102 = .ok (.getfield 29, 3) := by decide +kernel
theorem dX5_since_105 : decode cX5_since 105 = .ok (.getfield 200, 3) := by decide +kernel
theorem dX5_since_108 : decode cX5_since 108 = .ok (.iload 6, 2) := by decide +kernel
theorem dX5_since_110 : decode cX5_since 110 = .ok (.iaload, 1) := by decide +kernel
theorem dX5_since_111 : decode cX5_since 111 = .ok (.aload_n 0, 1) := by decide +kernel
theorem dX5_since_112 : decode cX5_since 112 = .ok (.getfield 29, 3) := by decide +kernel
theorem dX5_since_115 : decode cX5_since 115 = .ok (.getfield 203, 3) := by decide +kernel
theorem dX5_since_118 : decode cX5_since 118 = .ok (.iload 6, 2) := by decide +kernel
theorem dX5_since_120 : decode cX5_since 120 = .ok (.iaload, 1) := by decide +kernel
theorem dX5_since_121 : decode cX5_since 121 = .ok (.invokevirtual 206, 3) := by decide +kernel
theorem dX5_since_124 : decode cX5_since 124 = .ok (.ifCond .eq 7, 3) := by decide +kernel
theorem dX5_since_127 : decode cX5_since 127 = .ok (.iconst 1, 1) := by decide +kernel
theorem dX5_since_128 : decode cX5_since 128 = .ok (.goto 4, 3) := by decide +kernel
theorem dX5_since_131 : decode cX5_since 131 = .ok (.iconst 0, 1) := by decide +kernel
theorem dX5_since_132 : decode cX5_since 132 = .ok (.ireturn, 1) := by decide +kernel
set_option maxRecDepth 20000 in
theorem ggX5_digest_X5_signatureAt : GoodIn wsX5_digest wsX5_signatureAt := goodIn_ca (goodIn_r _ [9, 10, 11, 12, 13, 34, 35, 36, 37, 38, 39, 40, 41, 42] (by decide +kernel) (by decide +kernel)) (goodIn_sub (fun _ h => List.mem_cons_of_mem _ (List.mem_append_right _ h)) (by decide +kernel))
set_option maxRecDepth 20000 in
theorem gX5_digest_X5_signatureAt : GoodIn wsX5_digest (wsV RX5 136 RX5 yX5_signatureAt wsX5_signatureAt) := goodIn_app (goodIn_of _ (by decide +kernel)) ggX5_digest_X5_signatureAt
theorem dX5_digest_0 : decode cX5_digest 0 = .ok (.aload_n 0, 1) := by decide +kernel
theorem dX5_digest_1 : decode cX5_digest 1 = .ok (.iload_n 1, 1) := by decide +kernel
theorem dX5_digest_2 : decode cX5_digest 2 = .ok (.invokevirtual 136, 3) := by decide +kernel
theorem dX5_digest_5 : decode cX5_digest 5 = .ok (.astore_n 3, 1) := by decide +kernel
theorem dX5_digest_6 : decode cX5_digest 6 = .ok (.iload_n 2, 1) := by decide +kernel
theorem dX5_digest_7 : decode cX5_digest 7 = .ok (.ifCond .lt 9, 3) := by decide +kernel
theorem dX5_digest_10 : decode cX5_digest 10 = .ok (.iload_n 2, 1) := by decide +kernel
theorem dX5_digest_11 : decode cX5_digest 11 = .ok (.bipush 32, 2) := by decide +kernel
theorem dX5_digest_13 : decode cX5_digest 13 = .ok (.if_icmp .lt 13, 3) := by decide +kernel
theorem dX5_digest_16 : decode cX5_digest 16 = .ok (.new 209, 3) := by decide +kernel
theorem dX5_digest_19 : decode cX5_digest 19 = .ok (.dup, 1) := by decide +kernel
theorem dX5_digest_20 : decode cX5_digest 20 = .ok (.ldc 211, 2) := by decide +kernel
theorem dX5_digest_22 : decode cX5_digest 22 = .ok (.invokespecial 213, 3) := by decide +kernel
theorem dX5_digest_25 : decode cX5_digest 25 = .ok (.athrow, 1) := by decide +kernel
theorem dX5_digest_26 : decode cX5_digest 26 = .ok (.aload_n 3, 1) := by decide +kernel
theorem dX5_digest_27 : decode cX5_digest 27 = .ok (.getfield 125, 3) := by decide +kernel
theorem dX5_digest_30 : decode cX5_digest 30 = .ok (.iload_n 2, 1) := by decide +kernel
theorem dX5_digest_31 : decode cX5_digest 31 = .ok (.iconst 2, 1) := by decide +kernel
theorem dX5_digest_32 : decode cX5_digest 32 = .ok (.ishr, 1) := by decide +kernel
theorem dX5_digest_33 : decode cX5_digest 33 = .ok (.iaload, 1) := by decide +kernel
theorem dX5_digest_34 : decode cX5_digest 34 = .ok (.bipush 24, 2) := by decide +kernel
theorem dX5_digest_36 : decode cX5_digest 36 = .ok (.bipush 8, 2) := by decide +kernel
theorem dX5_digest_38 : decode cX5_digest 38 = .ok (.iload_n 2, 1) := by decide +kernel
theorem dX5_digest_39 : decode cX5_digest 39 = .ok (.iconst 3, 1) := by decide +kernel
theorem dX5_digest_40 : decode cX5_digest 40 = .ok (.iand, 1) := by decide +kernel
theorem dX5_digest_41 : decode cX5_digest 41 = .ok (.imul, 1) := by decide +kernel
theorem dX5_digest_42 : decode cX5_digest 42 = .ok (.isub, 1) := by decide +kernel
theorem dX5_digest_43 : decode cX5_digest 43 = .ok (.iushr, 1) := by decide +kernel
theorem dX5_digest_44 : decode cX5_digest 44 = .ok (.i2b, 1) := by decide +kernel
theorem dX5_digest_45 : decode cX5_digest 45 = .ok (.ireturn, 1) := by decide +kernel
set_option maxRecDepth 20000 in
theorem ggX5_behind_X5_signatureAt : GoodIn wsX5_behind wsX5_signatureAt := goodIn_ca (goodIn_r _ [7, 8, 9, 10, 11, 12, 13, 14, 15, 16, 17, 18, 19, 20] (by decide +kernel) (by decide +kernel)) (goodIn_sub (fun _ h => List.mem_cons_of_mem _ (List.mem_append_right _ h)) (by decide +kernel))
set_option maxRecDepth 20000 in
theorem gX5_behind_X5_signatureAt : GoodIn wsX5_behind (wsV RX5 136 RX5 yX5_signatureAt wsX5_signatureAt) := goodIn_app (goodIn_of _ (by decide +kernel)) ggX5_behind_X5_signatureAt
theorem dX5_behind_0 : decode cX5_behind 0 = .ok (.aload_n 0, 1) := by decide +kernel
theorem dX5_behind_1 : decode cX5_behind 1 = .ok (.getfield 47, 3) := by decide +kernel
theorem dX5_behind_4 : decode cX5_behind 4 = .ok (.aload_n 0, 1) := by decide +kernel
theorem dX5_behind_5 : decode cX5_behind 5 = .ok (.iload_n 1, 1) := by decide +kernel
theorem dX5_behind_6 : decode cX5_behind 6 = .ok (.invokevirtual 136, 3) := by decide +kernel
theorem dX5_behind_9 : decode cX5_behind 9 = .ok (.getfield 214, 3) := by decide +kernel
theorem dX5_behind_12 : decode cX5_behind 12 = .ok (.isub, 1) := by decide +kernel
theorem dX5_behind_13 : decode cX5_behind 13 = .ok (.i2l, 1) := by decide +kernel
theorem dX5_behind_14 : decode cX5_behind 14 = .ok (.lreturn, 1) := by decide +kernel
set_option maxRecDepth 20000 in
theorem ggX5_stamp_X5_hashFirst : GoodIn wsX5_stamp wsX5_hashFirst := goodIn_ca (goodIn_r _ [14, 8, 15, 16, 17, 18, 19, 20, 21, 22, 23, 24, 25, 26, 27, 28, 29, 30, 31, 32, 33, 34, 35, 36, 37, 38, 39, 40, 41, 42, 43, 44, 45, 46, 47, 48, 49, 50, 51, 52, 53, 67, 68, 69, 70, 71, 72, 73, 74, 75, 81, 82, 83, 84] (by decide +kernel) (by decide +kernel)) (goodIn_sub (fun _ h => List.mem_cons_of_mem _ (List.mem_append_right _ h)) (by decide +kernel))
set_option maxRecDepth 20000 in
theorem gX5_stamp_X5_hashFirst : GoodIn wsX5_stamp (wsV RX5 222 RX5 yX5_hashFirst wsX5_hashFirst) := goodIn_app (goodIn_of _ (by decide +kernel)) ggX5_stamp_X5_hashFirst
set_option maxRecDepth 20000 in
theorem ggX5_stamp_X2_copyWords : GoodIn wsX5_stamp wsX2_copyWords := goodIn_ca (goodIn_r _ [57, 35, 81, 82, 83, 84] (by decide +kernel) (by decide +kernel)) (goodIn_sub (fun _ h => List.mem_cons_of_mem _ (List.mem_append_right _ h)) (by decide +kernel))
set_option maxRecDepth 20000 in
theorem gX5_stamp_X2_copyWords : GoodIn wsX5_stamp (wsV RX5 128 RX2 yX2_copyWords wsX2_copyWords) := goodIn_app (goodIn_of _ (by decide +kernel)) ggX5_stamp_X2_copyWords
set_option maxRecDepth 20000 in
theorem ggX5_stamp_X4_put : GoodIn wsX5_stamp wsX4_put := goodIn_ca (goodIn_r _ [62, 63, 64, 65, 66, 76, 77, 78, 79, 80] (by decide +kernel) (by decide +kernel)) (goodIn_sub (fun _ h => List.mem_cons_of_mem _ (List.mem_append_right _ h)) (by decide +kernel))
set_option maxRecDepth 20000 in
theorem gX5_stamp_X4_put : GoodIn wsX5_stamp (wsV RX5 229 RX4 yX4_put wsX4_put) := goodIn_app (goodIn_of _ (by decide +kernel)) ggX5_stamp_X4_put
theorem dX5_stamp_0 : decode cX5_stamp 0 = .ok (.lload_n 1, 1) := by decide +kernel
theorem dX5_stamp_1 : decode cX5_stamp 1 = .ok (.lconst 0, 1) := by decide +kernel
theorem dX5_stamp_2 : decode cX5_stamp 2 = .ok (.lcmp, 1) := by decide +kernel
theorem dX5_stamp_3 : decode cX5_stamp 3 = .ok (.ifCond .ge 13, 3) := by decide +kernel
theorem dX5_stamp_6 : decode cX5_stamp 6 = .ok (.new 63, 3) := by decide +kernel
theorem dX5_stamp_9 : decode cX5_stamp 9 = .ok (.dup, 1) := by decide +kernel
theorem dX5_stamp_10 : decode cX5_stamp 10 = .ok (.ldc 217, 2) := by decide +kernel
theorem dX5_stamp_12 : decode cX5_stamp 12 = .ok (.invokespecial 67, 3) := by decide +kernel
theorem dX5_stamp_15 : decode cX5_stamp 15 = .ok (.athrow, 1) := by decide +kernel
theorem dX5_stamp_16 : decode cX5_stamp 16 = .ok (.aload_n 0, 1) := by decide +kernel
theorem dX5_stamp_17 : decode cX5_stamp 17 = .ok (.getfield 36, 3) := by decide +kernel
theorem dX5_stamp_20 : decode cX5_stamp 20 = .ok (.getfield 219, 3) := by decide +kernel
theorem dX5_stamp_23 : decode cX5_stamp 23 = .ok (.bipush 10, 2) := by decide +kernel
theorem dX5_stamp_25 : decode cX5_stamp 25 = .ok (.if_icmp .lt 13, 3) := by decide +kernel
theorem dX5_stamp_28 : decode cX5_stamp 28 = .ok (.new 51, 3) := by decide +kernel
theorem dX5_stamp_31 : decode cX5_stamp 31 = .ok (.dup, 1) := by decide +kernel
theorem dX5_stamp_32 : decode cX5_stamp 32 = .ok (.ldc 220, 2) := by decide +kernel
theorem dX5_stamp_34 : decode cX5_stamp 34 = .ok (.invokespecial 55, 3) := by decide +kernel
theorem dX5_stamp_37 : decode cX5_stamp 37 = .ok (.athrow, 1) := by decide +kernel
theorem dX5_stamp_38 : decode cX5_stamp 38 = .ok (.aload_n 0, 1) := by decide +kernel
theorem dX5_stamp_39 : decode cX5_stamp 39 = .ok (.aload_n 0, 1) := by decide +kernel
theorem dX5_stamp_40 : decode cX5_stamp 40 = .ok (.getfield 47, 3) := by decide +kernel
theorem dX5_stamp_43 : decode cX5_stamp 43 = .ok (.invokevirtual 222, 3) := by decide +kernel
theorem dX5_stamp_46 : decode cX5_stamp 46 = .ok (.aload_n 0, 1) := by decide +kernel
theorem dX5_stamp_47 : decode cX5_stamp 47 = .ok (.getfield 43, 3) := by decide +kernel
theorem dX5_stamp_50 : decode cX5_stamp 50 = .ok (.aload_n 0, 1) := by decide +kernel
theorem dX5_stamp_51 : decode cX5_stamp 51 = .ok (.getfield 36, 3) := by decide +kernel
theorem dX5_stamp_54 : decode cX5_stamp 54 = .ok (.getfield 226, 3) := by decide +kernel
theorem dX5_stamp_57 : decode cX5_stamp 57 = .ok (.aload_n 0, 1) := by decide +kernel
theorem dX5_stamp_58 : decode cX5_stamp 58 = .ok (.getfield 36, 3) := by decide +kernel
theorem dX5_stamp_61 : decode cX5_stamp 61 = .ok (.getfield 219, 3) := by decide +kernel
theorem dX5_stamp_64 : decode cX5_stamp 64 = .ok (.aaload, 1) := by decide +kernel
theorem dX5_stamp_65 : decode cX5_stamp 65 = .ok (.invokevirtual 128, 3) := by decide +kernel
theorem dX5_stamp_68 : decode cX5_stamp 68 = .ok (.aload_n 0, 1) := by decide +kernel
theorem dX5_stamp_69 : decode cX5_stamp 69 = .ok (.getfield 36, 3) := by decide +kernel
theorem dX5_stamp_72 : decode cX5_stamp 72 = .ok (.lload_n 1, 1) := by decide +kernel
theorem dX5_stamp_73 : decode cX5_stamp 73 = .ok (.aload_n 0, 1) := by decide +kernel
theorem dX5_stamp_74 : decode cX5_stamp 74 = .ok (.getfield 47, 3) := by decide +kernel
theorem dX5_stamp_77 : decode cX5_stamp 77 = .ok (.invokevirtual 229, 3) := by decide +kernel
theorem dX5_stamp_80 : decode cX5_stamp 80 = .ok (.ireturn, 1) := by decide +kernel
set_option maxRecDepth 20000 in
theorem ggX5_stamped_X5_hashFirst : GoodIn wsX5_stamped wsX5_hashFirst := goodIn_ca (goodIn_r _ [14, 8, 15, 16, 17, 18, 19, 20, 21, 22, 23, 24, 25, 26, 27, 28, 29, 30, 31, 32, 33, 34, 35, 36, 37, 38, 39, 40, 41, 42, 43, 44, 45, 46, 47, 48, 49, 50, 51, 52, 53, 58, 59, 60, 61, 62, 63, 64, 65, 66, 72, 73, 74, 75] (by decide +kernel) (by decide +kernel)) (goodIn_sub (fun _ h => List.mem_cons_of_mem _ (List.mem_append_right _ h)) (by decide +kernel))
set_option maxRecDepth 20000 in
theorem gX5_stamped_X5_hashFirst : GoodIn wsX5_stamped (wsV RX5 222 RX5 yX5_hashFirst wsX5_hashFirst) := goodIn_app (goodIn_of _ (by decide +kernel)) ggX5_stamped_X5_hashFirst
set_option maxRecDepth 20000 in
theorem ggX5_stamped_X2_hasWords : GoodIn wsX5_stamped wsX2_hasWords := goodIn_ca (goodIn_r _ [57, 35, 72, 73, 74, 75] (by decide +kernel) (by decide +kernel)) (goodIn_sub (fun _ h => List.mem_cons_of_mem _ (List.mem_append_right _ h)) (by decide +kernel))
set_option maxRecDepth 20000 in
theorem gX5_stamped_X2_hasWords : GoodIn wsX5_stamped (wsV RX5 143 RX2 yX2_hasWords wsX2_hasWords) := goodIn_app (goodIn_of _ (by decide +kernel)) ggX5_stamped_X2_hasWords
theorem dX5_stamped_0 : decode cX5_stamped 0 = .ok (.iload_n 1, 1) := by decide +kernel
theorem dX5_stamped_1 : decode cX5_stamped 1 = .ok (.iconst (-1), 1) := by decide +kernel
theorem dX5_stamped_2 : decode cX5_stamped 2 = .ok (.if_icmp .ne 12, 3) := by decide +kernel
theorem dX5_stamped_5 : decode cX5_stamped 5 = .ok (.aload_n 0, 1) := by decide +kernel
theorem dX5_stamped_6 : decode cX5_stamped 6 = .ok (.getfield 36, 3) := by decide +kernel
theorem dX5_stamped_9 : decode cX5_stamped 9 = .ok (.getfield 219, 3) := by decide +kernel
theorem dX5_stamped_12 : decode cX5_stamped 12 = .ok (.i2l, 1) := by decide +kernel
theorem dX5_stamped_13 : decode cX5_stamped 13 = .ok (.lreturn, 1) := by decide +kernel
theorem dX5_stamped_14 : decode cX5_stamped 14 = .ok (.iload_n 1, 1) := by decide +kernel
theorem dX5_stamped_15 : decode cX5_stamped 15 = .ok (.ifCond .lt 23, 3) := by decide +kernel
theorem dX5_stamped_18 : decode cX5_stamped 18 = .ok (.iload_n 1, 1) := by decide +kernel
theorem dX5_stamped_19 : decode cX5_stamped 19 = .ok (.aload_n 0, 1) := by decide +kernel
theorem dX5_stamped_20 : decode cX5_stamped 20 = .ok (.getfield 36, 3) := by decide +kernel
theorem dX5_stamped_23 : decode cX5_stamped 23 = .ok (.getfield 219, 3) := by decide +kernel
theorem dX5_stamped_26 : decode cX5_stamped 26 = .ok (.if_icmp .ge 12, 3) := by decide +kernel
theorem dX5_stamped_29 : decode cX5_stamped 29 = .ok (.iload_n 2, 1) := by decide +kernel
theorem dX5_stamped_30 : decode cX5_stamped 30 = .ok (.ifCond .lt 8, 3) := by decide +kernel
theorem dX5_stamped_33 : decode cX5_stamped 33 = .ok (.iload_n 2, 1) := by decide +kernel
theorem dX5_stamped_34 : decode cX5_stamped 34 = .ok (.iconst 3, 1) := by decide +kernel
theorem dX5_stamped_35 : decode cX5_stamped 35 = .ok (.if_icmp .le 13, 3) := by decide +kernel
theorem dX5_stamped_38 : decode cX5_stamped 38 = .ok (.new 58, 3) := by decide +kernel
theorem dX5_stamped_41 : decode cX5_stamped 41 = .ok (.dup, 1) := by decide +kernel
theorem dX5_stamped_42 : decode cX5_stamped 42 = .ok (.ldc 232, 2) := by decide +kernel
theorem dX5_stamped_44 : decode cX5_stamped 44 = .ok (.invokespecial 62, 3) := by decide +kernel
theorem dX5_stamped_47 : decode cX5_stamped 47 = .ok (.athrow, 1) := by decide +kernel
theorem dX5_stamped_48 : decode cX5_stamped 48 = .ok (.aload_n 0, 1) := by decide +kernel
theorem dX5_stamped_49 : decode cX5_stamped 49 = .ok (.getfield 36, 3) := by decide +kernel
theorem dX5_stamped_52 : decode cX5_stamped 52 = .ok (.getfield 234, 3) := by decide +kernel
theorem dX5_stamped_55 : decode cX5_stamped 55 = .ok (.iload_n 1, 1) := by decide +kernel
theorem dX5_stamped_56 : decode cX5_stamped 56 = .ok (.iaload, 1) := by decide +kernel
theorem dX5_stamped_57 : decode cX5_stamped 57 = .ok (.istore_n 3, 1) := by decide +kernel
theorem dX5_stamped_58 : decode cX5_stamped 58 = .ok (.iload_n 2, 1) := by decide +kernel
theorem dX5_stamped_59 : decode cX5_stamped 59 = .ok (.ifCond .ne 6, 3) := by decide +kernel
theorem dX5_stamped_62 : decode cX5_stamped 62 = .ok (.iload_n 3, 1) := by decide +kernel
theorem dX5_stamped_63 : decode cX5_stamped 63 = .ok (.i2l, 1) := by decide +kernel
theorem dX5_stamped_64 : decode cX5_stamped 64 = .ok (.lreturn, 1) := by decide +kernel
theorem dX5_stamped_65 : decode cX5_stamped 65 = .ok (.iload_n 2, 1) := by decide +kernel
theorem dX5_stamped_66 : decode cX5_stamped 66 = .ok (.iconst 1, 1) := by decide +kernel
theorem dX5_stamped_67 : decode cX5_stamped 67 = .ok (.if_icmp .ne 13, 3) := by decide +kernel
theorem dX5_stamped_70 : decode cX5_stamped 70 = .ok (.aload_n 0, 1) := by decide +kernel
theorem dX5_stamped_71 : decode cX5_stamped 71 = .ok (.getfield 36, 3) := by decide +kernel
theorem dX5_stamped_74 : decode cX5_stamped 74 = .ok (.getfield 237, 3) := by decide +kernel
theorem dX5_stamped_77 : decode cX5_stamped 77 = .ok (.iload_n 3, 1) := by decide +kernel
theorem dX5_stamped_78 : decode cX5_stamped 78 = .ok (.laload, 1) := by decide +kernel
theorem dX5_stamped_79 : decode cX5_stamped 79 = .ok (.lreturn, 1) := by decide +kernel
theorem dX5_stamped_80 : decode cX5_stamped 80 = .ok (.iload_n 2, 1) := by decide +kernel
theorem dX5_stamped_81 : decode cX5_stamped 81 = .ok (.iconst 2, 1) := by decide +kernel
theorem dX5_stamped_82 : decode cX5_stamped 82 = .ok (.if_icmp .ne 14, 3) := by decide +kernel
theorem dX5_stamped_85 : decode cX5_stamped 85 = .ok (.aload_n 0, 1) := by decide +kernel
theorem dX5_stamped_86 : decode cX5_stamped 86 = .ok (.getfield 36, 3) := by decide +kernel
theorem dX5_stamped_89 : decode cX5_stamped 89 = .ok (.getfield 240, 3) := by decide +kernel
theorem dX5_stamped_92 : decode cX5_stamped 92 = .ok (.iload_n 3, 1) := by decide +kernel
theorem dX5_stamped_93 : decode cX5_stamped 93 = .ok (.iaload, 1) := by decide +kernel
theorem dX5_stamped_94 : decode cX5_stamped 94 = .ok (.i2l, 1) := by decide +kernel
theorem dX5_stamped_95 : decode cX5_stamped 95 = .ok (.lreturn, 1) := by decide +kernel
theorem dX5_stamped_96 : decode cX5_stamped 96 = .ok (.aload_n 0, 1) := by decide +kernel
theorem dX5_stamped_97 : decode cX5_stamped 97 = .ok (.aload_n 0, 1) := by decide +kernel
theorem dX5_stamped_98 : decode cX5_stamped 98 = .ok (.getfield 36, 3) := by decide +kernel
theorem dX5_stamped_101 : decode cX5_stamped 101 = .ok (.getfield 240, 3) := by decide +kernel
theorem dX5_stamped_104 : decode cX5_stamped 104 = .ok (.iload_n 3, 1) := by decide +kernel
theorem dX5_stamped_105 : decode cX5_stamped 105 = .ok (.iaload, 1) := by decide +kernel
theorem dX5_stamped_106 : decode cX5_stamped 106 = .ok (.invokevirtual 222, 3) := by decide +kernel
theorem dX5_stamped_109 : decode cX5_stamped 109 = .ok (.aload_n 0, 1) := by decide +kernel
theorem dX5_stamped_110 : decode cX5_stamped 110 = .ok (.getfield 43, 3) := by decide +kernel
theorem dX5_stamped_113 : decode cX5_stamped 113 = .ok (.aload_n 0, 1) := by decide +kernel
theorem dX5_stamped_114 : decode cX5_stamped 114 = .ok (.getfield 36, 3) := by decide +kernel
theorem dX5_stamped_117 : decode cX5_stamped 117 = .ok (.getfield 226, 3) := by decide +kernel
theorem dX5_stamped_120 : decode cX5_stamped 120 = .ok (.iload_n 3, 1) := by decide +kernel
theorem dX5_stamped_121 : decode cX5_stamped 121 = .ok (.aaload, 1) := by decide +kernel
theorem dX5_stamped_122 : decode cX5_stamped 122 = .ok (.invokevirtual 143, 3) := by decide +kernel
theorem dX5_stamped_125 : decode cX5_stamped 125 = .ok (.ifCond .eq 7, 3) := by decide +kernel
theorem dX5_stamped_128 : decode cX5_stamped 128 = .ok (.lconst 1, 1) := by decide +kernel
theorem dX5_stamped_129 : decode cX5_stamped 129 = .ok (.goto 4, 3) := by decide +kernel
theorem dX5_stamped_132 : decode cX5_stamped 132 = .ok (.lconst 0, 1) := by decide +kernel
theorem dX5_stamped_133 : decode cX5_stamped 133 = .ok (.lreturn, 1) := by decide +kernel
theorem dX5_signatureAt_0 : decode cX5_signatureAt 0 = .ok (.iload_n 1, 1) := by decide +kernel
theorem dX5_signatureAt_1 : decode cX5_signatureAt 1 = .ok (.ifCond .lt 20, 3) := by decide +kernel
theorem dX5_signatureAt_4 : decode cX5_signatureAt 4 = .ok (.iload_n 1, 1) := by decide +kernel
theorem dX5_signatureAt_5 : decode cX5_signatureAt 5 = .ok (.aload_n 0, 1) := by decide +kernel
theorem dX5_signatureAt_6 : decode cX5_signatureAt 6 = .ok (.getfield 104, 3) := by decide +kernel
theorem dX5_signatureAt_9 : decode cX5_signatureAt 9 = .ok (.if_icmp .ge 12, 3) := by decide +kernel
theorem dX5_signatureAt_12 : decode cX5_signatureAt 12 = .ok (.aload_n 0, 1) := by decide +kernel
theorem dX5_signatureAt_13 : decode cX5_signatureAt 13 = .ok (.getfield 22, 3) := by decide +kernel
theorem dX5_signatureAt_16 : decode cX5_signatureAt 16 = .ok (.iload_n 1, 1) := by decide +kernel
theorem dX5_signatureAt_17 : decode cX5_signatureAt 17 = .ok (.aaload, 1) := by decide +kernel
theorem dX5_signatureAt_18 : decode cX5_signatureAt 18 = .ok (.goto 4, 3) := by decide +kernel
theorem dX5_signatureAt_21 : decode cX5_signatureAt 21 = .ok (.aconst_null, 1) := by decide +kernel
theorem dX5_signatureAt_22 : decode cX5_signatureAt 22 = .ok (.astore_n 2, 1) := by decide +kernel
theorem dX5_signatureAt_23 : decode cX5_signatureAt 23 = .ok (.aload_n 2, 1) := by decide +kernel
theorem dX5_signatureAt_24 : decode cX5_signatureAt 24 = .ok (.ifnonnull 13, 3) := by decide +kernel
theorem dX5_signatureAt_27 : decode cX5_signatureAt 27 = .ok (.new 243, 3) := by decide +kernel
theorem dX5_signatureAt_30 : decode cX5_signatureAt 30 = .ok (.dup, 1) := by decide +kernel
theorem dX5_signatureAt_31 : decode cX5_signatureAt 31 = .ok (.ldc 245, 2) := by decide +kernel
theorem dX5_signatureAt_33 : decode cX5_signatureAt 33 = .ok (.invokespecial 247, 3) := by decide +kernel
theorem dX5_signatureAt_36 : decode cX5_signatureAt 36 = .ok (.athrow, 1) := by decide +kernel
theorem dX5_signatureAt_37 : decode cX5_signatureAt 37 = .ok (.aload_n 2, 1) := by decide +kernel
theorem dX5_signatureAt_38 : decode cX5_signatureAt 38 = .ok (.areturn, 1) := by decide +kernel
theorem dX5_isField_0 : decode cX5_isField 0 = .ok (.iload_n 0, 1) := by decide +kernel
theorem dX5_isField_1 : decode cX5_isField 1 = .ok (.ifCond .lt 13, 3) := by decide +kernel
theorem dX5_isField_4 : decode cX5_isField 4 = .ok (.iload_n 0, 1) := by decide +kernel
theorem dX5_isField_5 : decode cX5_isField 5 = .ok (.bipush 20, 2) := by decide +kernel
theorem dX5_isField_7 : decode cX5_isField 7 = .ok (.if_icmp .ge 7, 3) := by decide +kernel
theorem dX5_isField_10 : decode cX5_isField 10 = .ok (.iconst 1, 1) := by decide +kernel
theorem dX5_isField_11 : decode cX5_isField 11 = .ok (.goto 4, 3) := by decide +kernel
theorem dX5_isField_14 : decode cX5_isField 14 = .ok (.iconst 0, 1) := by decide +kernel
theorem dX5_isField_15 : decode cX5_isField 15 = .ok (.ireturn, 1) := by decide +kernel
theorem dX5_hasField_0 : decode cX5_hasField 0 = .ok (.iload_n 0, 1) := by decide +kernel
theorem dX5_hasField_1 : decode cX5_hasField 1 = .ok (.iload_n 1, 1) := by decide +kernel
theorem dX5_hasField_2 : decode cX5_hasField 2 = .ok (.ishr, 1) := by decide +kernel
theorem dX5_hasField_3 : decode cX5_hasField 3 = .ok (.iconst 1, 1) := by decide +kernel
theorem dX5_hasField_4 : decode cX5_hasField 4 = .ok (.iand, 1) := by decide +kernel
theorem dX5_hasField_5 : decode cX5_hasField 5 = .ok (.ifCond .eq 7, 3) := by decide +kernel
theorem dX5_hasField_8 : decode cX5_hasField 8 = .ok (.iconst 1, 1) := by decide +kernel
theorem dX5_hasField_9 : decode cX5_hasField 9 = .ok (.goto 4, 3) := by decide +kernel
theorem dX5_hasField_12 : decode cX5_hasField 12 = .ok (.iconst 0, 1) := by decide +kernel
theorem dX5_hasField_13 : decode cX5_hasField 13 = .ok (.ireturn, 1) := by decide +kernel
set_option maxRecDepth 20000 in
theorem ggX5_hashSigned_X2_start : GoodIn wsX5_hashSigned wsX2_start := goodIn_r _ [10, 11, 67, 68, 69, 70] (by decide +kernel) (by decide +kernel)
set_option maxRecDepth 20000 in
theorem gX5_hashSigned_X2_start : GoodIn wsX5_hashSigned (wsV RX5 248 RX2 yX2_start wsX2_start) := goodIn_app (goodIn_of _ (by decide +kernel)) ggX5_hashSigned_X2_start
set_option maxRecDepth 20000 in
theorem ggX5_hashSigned_X2_take : GoodIn wsX5_hashSigned wsX2_take := goodIn_ca (goodIn_r _ [15, 16, 17, 18, 19, 11, 20, 67, 68, 69, 70] (by decide +kernel) (by decide +kernel)) (goodIn_sub (fun _ h => List.mem_cons_of_mem _ (List.mem_append_right _ h)) (by decide +kernel))
set_option maxRecDepth 20000 in
theorem gX5_hashSigned_X2_take : GoodIn wsX5_hashSigned (wsV RX5 254 RX2 yX2_take wsX2_take) := goodIn_app (goodIn_of _ (by decide +kernel)) ggX5_hashSigned_X2_take
set_option maxRecDepth 20000 in
theorem ggX5_hashSigned_X2_finish : GoodIn wsX5_hashSigned wsX2_finish := goodIn_ca (goodIn_r _ [24, 25, 26, 27, 28, 29, 9, 30, 11, 20, 31, 32, 33, 34, 35, 36, 37, 38, 39, 40, 41, 42, 43, 67, 68, 69, 70] (by decide +kernel) (by decide +kernel)) (goodIn_sub (fun _ h => List.mem_cons_of_mem _ (List.mem_append_right _ h)) (by decide +kernel))
set_option maxRecDepth 20000 in
theorem gX5_hashSigned_X2_finish : GoodIn wsX5_hashSigned (wsV RX5 261 RX2 yX2_finish wsX2_finish) := goodIn_app (goodIn_of _ (by decide +kernel)) ggX5_hashSigned_X2_finish
theorem dX5_hashSigned_0 : decode cX5_hashSigned 0 = .ok (.aload_n 0, 1) := by decide +kernel
theorem dX5_hashSigned_1 : decode cX5_hashSigned 1 = .ok (.getfield 43, 3) := by decide +kernel
theorem dX5_hashSigned_4 : decode cX5_hashSigned 4 = .ok (.invokevirtual 248, 3) := by decide +kernel
theorem dX5_hashSigned_7 : decode cX5_hashSigned 7 = .ok (.aload_n 0, 1) := by decide +kernel
theorem dX5_hashSigned_8 : decode cX5_hashSigned 8 = .ok (.getfield 43, 3) := by decide +kernel
theorem dX5_hashSigned_11 : decode cX5_hashSigned 11 = .ok (.aload_n 0, 1) := by decide +kernel
theorem dX5_hashSigned_12 : decode cX5_hashSigned 12 = .ok (.getfield 9, 3) := by decide +kernel
theorem dX5_hashSigned_15 : decode cX5_hashSigned 15 = .ok (.iconst 0, 1) := by decide +kernel
theorem dX5_hashSigned_16 : decode cX5_hashSigned 16 = .ok (.aload_n 1, 1) := by decide +kernel
theorem dX5_hashSigned_17 : decode cX5_hashSigned 17 = .ok (.getfield 251, 3) := by decide +kernel
theorem dX5_hashSigned_20 : decode cX5_hashSigned 20 = .ok (.invokevirtual 254, 3) := by decide +kernel
theorem dX5_hashSigned_23 : decode cX5_hashSigned 23 = .ok (.aload_n 0, 1) := by decide +kernel
theorem dX5_hashSigned_24 : decode cX5_hashSigned 24 = .ok (.getfield 43, 3) := by decide +kernel
theorem dX5_hashSigned_27 : decode cX5_hashSigned 27 = .ok (.aload_n 0, 1) := by decide +kernel
theorem dX5_hashSigned_28 : decode cX5_hashSigned 28 = .ok (.getfield 9, 3) := by decide +kernel
theorem dX5_hashSigned_31 : decode cX5_hashSigned 31 = .ok (.aload_n 1, 1) := by decide +kernel
theorem dX5_hashSigned_32 : decode cX5_hashSigned 32 = .ok (.getfield 258, 3) := by decide +kernel
theorem dX5_hashSigned_35 : decode cX5_hashSigned 35 = .ok (.aload_n 1, 1) := by decide +kernel
theorem dX5_hashSigned_36 : decode cX5_hashSigned 36 = .ok (.getfield 214, 3) := by decide +kernel
theorem dX5_hashSigned_39 : decode cX5_hashSigned 39 = .ok (.invokevirtual 254, 3) := by decide +kernel
theorem dX5_hashSigned_42 : decode cX5_hashSigned 42 = .ok (.aload_n 0, 1) := by decide +kernel
theorem dX5_hashSigned_43 : decode cX5_hashSigned 43 = .ok (.getfield 43, 3) := by decide +kernel
theorem dX5_hashSigned_46 : decode cX5_hashSigned 46 = .ok (.invokevirtual 261, 3) := by decide +kernel
theorem dX5_hashSigned_49 : decode cX5_hashSigned 49 = .ok (.return_, 1) := by decide +kernel
set_option maxRecDepth 20000 in
theorem ggX5_hashFirst_X2_start : GoodIn wsX5_hashFirst wsX2_start := goodIn_r _ [7, 8, 50, 51, 52, 53] (by decide +kernel) (by decide +kernel)
set_option maxRecDepth 20000 in
theorem gX5_hashFirst_X2_start : GoodIn wsX5_hashFirst (wsV RX5 248 RX2 yX2_start wsX2_start) := goodIn_app (goodIn_of _ (by decide +kernel)) ggX5_hashFirst_X2_start
set_option maxRecDepth 20000 in
theorem ggX5_hashFirst_X2_take : GoodIn wsX5_hashFirst wsX2_take := goodIn_ca (goodIn_r _ [12, 13, 14, 15, 16, 8, 17, 50, 51, 52, 53] (by decide +kernel) (by decide +kernel)) (goodIn_sub (fun _ h => List.mem_cons_of_mem _ (List.mem_append_right _ h)) (by decide +kernel))
set_option maxRecDepth 20000 in
theorem gX5_hashFirst_X2_take : GoodIn wsX5_hashFirst (wsV RX5 254 RX2 yX2_take wsX2_take) := goodIn_app (goodIn_of _ (by decide +kernel)) ggX5_hashFirst_X2_take
set_option maxRecDepth 20000 in
theorem ggX5_hashFirst_X2_finish : GoodIn wsX5_hashFirst wsX2_finish := goodIn_ca (goodIn_r _ [21, 22, 23, 24, 25, 26, 6, 27, 8, 17, 28, 29, 30, 31, 32, 33, 34, 35, 36, 37, 38, 39, 40, 50, 51, 52, 53] (by decide +kernel) (by decide +kernel)) (goodIn_sub (fun _ h => List.mem_cons_of_mem _ (List.mem_append_right _ h)) (by decide +kernel))
set_option maxRecDepth 20000 in
theorem gX5_hashFirst_X2_finish : GoodIn wsX5_hashFirst (wsV RX5 261 RX2 yX2_finish wsX2_finish) := goodIn_app (goodIn_of _ (by decide +kernel)) ggX5_hashFirst_X2_finish
theorem dX5_hashFirst_0 : decode cX5_hashFirst 0 = .ok (.aload_n 0, 1) := by decide +kernel
theorem dX5_hashFirst_1 : decode cX5_hashFirst 1 = .ok (.getfield 43, 3) := by decide +kernel
theorem dX5_hashFirst_4 : decode cX5_hashFirst 4 = .ok (.invokevirtual 248, 3) := by decide +kernel
theorem dX5_hashFirst_7 : decode cX5_hashFirst 7 = .ok (.aload_n 0, 1) := by decide +kernel
theorem dX5_hashFirst_8 : decode cX5_hashFirst 8 = .ok (.getfield 43, 3) := by decide +kernel
theorem dX5_hashFirst_11 : decode cX5_hashFirst 11 = .ok (.aload_n 0, 1) := by decide +kernel
theorem dX5_hashFirst_12 : decode cX5_hashFirst 12 = .ok (.getfield 9, 3) := by decide +kernel
theorem dX5_hashFirst_15 : decode cX5_hashFirst 15 = .ok (.iconst 0, 1) := by decide +kernel
theorem dX5_hashFirst_16 : decode cX5_hashFirst 16 = .ok (.iload_n 1, 1) := by decide +kernel
theorem dX5_hashFirst_17 : decode cX5_hashFirst 17 = .ok (.invokevirtual 254, 3) := by decide +kernel
theorem dX5_hashFirst_20 : decode cX5_hashFirst 20 = .ok (.aload_n 0, 1) := by decide +kernel
theorem dX5_hashFirst_21 : decode cX5_hashFirst 21 = .ok (.getfield 43, 3) := by decide +kernel
theorem dX5_hashFirst_24 : decode cX5_hashFirst 24 = .ok (.invokevirtual 261, 3) := by decide +kernel
theorem dX5_hashFirst_27 : decode cX5_hashFirst 27 = .ok (.return_, 1) := by decide +kernel
