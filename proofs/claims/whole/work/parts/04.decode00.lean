theorem dX0_init_0 : decode cX0_init 0 = .ok (.aload_n 0, 1) := by decide +kernel
theorem dX0_init_1 : decode cX0_init 1 = .ok (.invokespecial 3, 3) := by decide +kernel
theorem dX0_init_4 : decode cX0_init 4 = .ok (.aload_n 0, 1) := by decide +kernel
theorem dX0_init_5 : decode cX0_init 5 = .ok (.bipush 40, 2) := by decide +kernel
theorem dX0_init_7 : decode cX0_init 7 = .ok (.newarray .int, 2) := by decide +kernel
theorem dX0_init_9 : decode cX0_init 9 = .ok (.putfield 9, 3) := by decide +kernel
theorem dX0_init_12 : decode cX0_init 12 = .ok (.aload_n 0, 1) := by decide +kernel
theorem dX0_init_13 : decode cX0_init 13 = .ok (.bipush 40, 2) := by decide +kernel
theorem dX0_init_15 : decode cX0_init 15 = .ok (.newarray .int, 2) := by decide +kernel
theorem dX0_init_17 : decode cX0_init 17 = .ok (.putfield 15, 3) := by decide +kernel
theorem dX0_init_20 : decode cX0_init 20 = .ok (.return_, 1) := by decide +kernel
theorem dX0_put_0 : decode cX0_put 0 = .ok (.aload_n 0, 1) := by decide +kernel
theorem dX0_put_1 : decode cX0_put 1 = .ok (.getfield 9, 3) := by decide +kernel
theorem dX0_put_4 : decode cX0_put 4 = .ok (.aload_n 0, 1) := by decide +kernel
theorem dX0_put_5 : decode cX0_put 5 = .ok (.getfield 18, 3) := by decide +kernel
theorem dX0_put_8 : decode cX0_put 8 = .ok (.iload_n 1, 1) := by decide +kernel
theorem dX0_put_9 : decode cX0_put 9 = .ok (.iastore, 1) := by decide +kernel
theorem dX0_put_10 : decode cX0_put 10 = .ok (.aload_n 0, 1) := by decide +kernel
theorem dX0_put_11 : decode cX0_put 11 = .ok (.getfield 15, 3) := by decide +kernel
theorem dX0_put_14 : decode cX0_put 14 = .ok (.aload_n 0, 1) := by decide +kernel
theorem dX0_put_15 : decode cX0_put 15 = .ok (.getfield 18, 3) := by decide +kernel
theorem dX0_put_18 : decode cX0_put 18 = .ok (.iload_n 2, 1) := by decide +kernel
theorem dX0_put_19 : decode cX0_put 19 = .ok (.iastore, 1) := by decide +kernel
theorem dX0_put_20 : decode cX0_put 20 = .ok (.aload_n 0, 1) := by decide +kernel
theorem dX0_put_21 : decode cX0_put 21 = .ok (.dup, 1) := by decide +kernel
theorem dX0_put_22 : decode cX0_put 22 = .ok (.getfield 18, 3) := by decide +kernel
theorem dX0_put_25 : decode cX0_put 25 = .ok (.iconst 1, 1) := by decide +kernel
theorem dX0_put_26 : decode cX0_put 26 = .ok (.iadd, 1) := by decide +kernel
theorem dX0_put_27 : decode cX0_put 27 = .ok (.putfield 18, 3) := by decide +kernel
theorem dX0_put_30 : decode cX0_put 30 = .ok (.aload_n 0, 1) := by decide +kernel
theorem dX0_put_31 : decode cX0_put 31 = .ok (.getfield 18, 3) := by decide +kernel
theorem dX0_put_34 : decode cX0_put 34 = .ok (.ireturn, 1) := by decide +kernel
set_option maxRecDepth 20000 in
theorem ggX0_allAllowedBy_X3_allows : GoodIn wsX0_allAllowedBy wsX3_allows := goodIn_r _ [9, 10, 11, 12, 13, 14, 15, 16, 17, 18, 19, 20, 21, 22, 23, 24, 25, 26, 27, 28, 29] (by decide +kernel) (by decide +kernel)
set_option maxRecDepth 20000 in
theorem gX0_allAllowedBy_X3_allows : GoodIn wsX0_allAllowedBy (wsV RX0 27 RX3 yX3_allows wsX3_allows) := goodIn_app (goodIn_of _ (by decide +kernel)) ggX0_allAllowedBy_X3_allows
theorem dX0_allAllowedBy_0 : decode cX0_allAllowedBy 0 = .ok (.aload_n 1, 1) := by decide +kernel
theorem dX0_allAllowedBy_1 : decode cX0_allAllowedBy 1 = .ok (.getfield 22, 3) := by decide +kernel
theorem dX0_allAllowedBy_4 : decode cX0_allAllowedBy 4 = .ok (.istore_n 2, 1) := by decide +kernel
theorem dX0_allAllowedBy_5 : decode cX0_allAllowedBy 5 = .ok (.iload_n 2, 1) := by decide +kernel
theorem dX0_allAllowedBy_6 : decode cX0_allAllowedBy 6 = .ok (.aload_n 0, 1) := by decide +kernel
theorem dX0_allAllowedBy_7 : decode cX0_allAllowedBy 7 = .ok (.getfield 18, 3) := by decide +kernel
theorem dX0_allAllowedBy_10 : decode cX0_allAllowedBy 10 = .ok (.if_icmp .ge 30, 3) := by decide +kernel
theorem dX0_allAllowedBy_13 : decode cX0_allAllowedBy 13 = .ok (.aload_n 1, 1) := by decide +kernel
theorem dX0_allAllowedBy_14 : decode cX0_allAllowedBy 14 = .ok (.aload_n 0, 1) := by decide +kernel
theorem dX0_allAllowedBy_15 : decode cX0_allAllowedBy 15 = .ok (.getfield 9, 3) := by decide +kernel
theorem dX0_allAllowedBy_18 : decode cX0_allAllowedBy 18 = .ok (.iload_n 2, 1) := by decide +kernel
theorem dX0_allAllowedBy_19 : decode cX0_allAllowedBy 19 = .ok (.iaload, 1) := by decide +kernel
theorem dX0_allAllowedBy_20 : decode cX0_allAllowedBy 20 = .ok (.aload_n 0, 1) := by decide +kernel
theorem dX0_allAllowedBy_21 : decode cX0_allAllowedBy 21 = .ok (.getfield 15, 3) := by decide +kernel
theorem dX0_allAllowedBy_24 : decode cX0_allAllowedBy 24 = .ok (.iload_n 2, 1) := by decide +kernel
theorem dX0_allAllowedBy_25 : decode cX0_allAllowedBy 25 = .ok (.iaload, 1) := by decide +kernel
theorem dX0_allAllowedBy_26 : decode cX0_allAllowedBy 26 = .ok (.invokevirtual 27, 3) := by decide +kernel
theorem dX0_allAllowedBy_29 : decode cX0_allAllowedBy 29 = .ok (.ifCond .ne 5, 3) := by decide +kernel
theorem dX0_allAllowedBy_32 : decode cX0_allAllowedBy 32 = .ok (.iconst 0, 1) := by decide +kernel
theorem dX0_allAllowedBy_33 : decode cX0_allAllowedBy 33 = .ok (.ireturn, 1) := by decide +kernel
theorem dX0_allAllowedBy_34 : decode cX0_allAllowedBy 34 = .ok (.iinc 2 1, 3) := by decide +kernel
theorem dX0_allAllowedBy_37 : decode cX0_allAllowedBy 37 = .ok (.goto (-32), 3) := by decide +kernel
theorem dX0_allAllowedBy_40 : decode cX0_allAllowedBy 40 = .ok (.iconst 1, 1) := by decide +kernel
theorem dX0_allAllowedBy_41 : decode cX0_allAllowedBy 41 = .ok (.ireturn, 1) := by decide +kernel
theorem dX1_init_0 : decode cX1_init 0 = .ok (.aload_n 0, 1) := by decide +kernel
theorem dX1_init_1 : decode cX1_init 1 = .ok (.invokespecial 3, 3) := by decide +kernel
theorem dX1_init_4 : decode cX1_init 4 = .ok (.aload_n 0, 1) := by decide +kernel
theorem dX1_init_5 : decode cX1_init 5 = .ok (.bipush 8, 2) := by decide +kernel
theorem dX1_init_7 : decode cX1_init 7 = .ok (.newarray .int, 2) := by decide +kernel
theorem dX1_init_9 : decode cX1_init 9 = .ok (.putfield 9, 3) := by decide +kernel
theorem dX1_init_12 : decode cX1_init 12 = .ok (.aload_n 0, 1) := by decide +kernel
theorem dX1_init_13 : decode cX1_init 13 = .ok (.bipush 8, 2) := by decide +kernel
theorem dX1_init_15 : decode cX1_init 15 = .ok (.newarray .int, 2) := by decide +kernel
theorem dX1_init_17 : decode cX1_init 17 = .ok (.putfield 15, 3) := by decide +kernel
theorem dX1_init_20 : decode cX1_init 20 = .ok (.aload_n 0, 1) := by decide +kernel
theorem dX1_init_21 : decode cX1_init 21 = .ok (.bipush 8, 2) := by decide +kernel
theorem dX1_init_23 : decode cX1_init 23 = .ok (.newarray .boolean, 2) := by decide +kernel
theorem dX1_init_25 : decode cX1_init 25 = .ok (.putfield 18, 3) := by decide +kernel
theorem dX1_init_28 : decode cX1_init 28 = .ok (.return_, 1) := by decide +kernel
theorem dX1_shareByte_0 : decode cX1_shareByte 0 = .ok (.iconst 0, 1) := by decide +kernel
theorem dX1_shareByte_1 : decode cX1_shareByte 1 = .ok (.istore_n 3, 1) := by decide +kernel
theorem dX1_shareByte_2 : decode cX1_shareByte 2 = .ok (.iload_n 3, 1) := by decide +kernel
theorem dX1_shareByte_3 : decode cX1_shareByte 3 = .ok (.aload_n 0, 1) := by decide +kernel
theorem dX1_shareByte_4 : decode cX1_shareByte 4 = .ok (.getfield 22, 3) := by decide +kernel
theorem dX1_shareByte_7 : decode cX1_shareByte 7 = .ok (.if_icmp .ge 31, 3) := by decide +kernel
theorem dX1_shareByte_10 : decode cX1_shareByte 10 = .ok (.iload_n 1, 1) := by decide +kernel
theorem dX1_shareByte_11 : decode cX1_shareByte 11 = .ok (.aload_n 0, 1) := by decide +kernel
theorem dX1_shareByte_12 : decode cX1_shareByte 12 = .ok (.getfield 15, 3) := by decide +kernel
theorem dX1_shareByte_15 : decode cX1_shareByte 15 = .ok (.iload_n 3, 1) := by decide +kernel
theorem dX1_shareByte_16 : decode cX1_shareByte 16 = .ok (.iaload, 1) := by decide +kernel
theorem dX1_shareByte_17 : decode cX1_shareByte 17 = .ok (.if_icmp .ge 15, 3) := by decide +kernel
theorem dX1_shareByte_20 : decode cX1_shareByte 20 = .ok (.aload_n 0, 1) := by decide +kernel
theorem dX1_shareByte_21 : decode cX1_shareByte 21 = .ok (.getfield 9, 3) := by decide +kernel
theorem dX1_shareByte_24 : decode cX1_shareByte 24 = .ok (.iload_n 3, 1) := by decide +kernel
theorem dX1_shareByte_25 : decode cX1_shareByte 25 = .ok (.iaload, 1) := by decide +kernel
theorem dX1_shareByte_26 : decode cX1_shareByte 26 = .ok (.iload_n 2, 1) := by decide +kernel
theorem dX1_shareByte_27 : decode cX1_shareByte 27 = .ok (.if_icmp .ge 5, 3) := by decide +kernel
theorem dX1_shareByte_30 : decode cX1_shareByte 30 = .ok (.iconst 1, 1) := by decide +kernel
theorem dX1_shareByte_31 : decode cX1_shareByte 31 = .ok (.ireturn, 1) := by decide +kernel
theorem dX1_shareByte_32 : decode cX1_shareByte 32 = .ok (.iinc 3 1, 3) := by decide +kernel
theorem dX1_shareByte_35 : decode cX1_shareByte 35 = .ok (.goto (-33), 3) := by decide +kernel
theorem dX1_shareByte_38 : decode cX1_shareByte 38 = .ok (.iconst 0, 1) := by decide +kernel
theorem dX1_shareByte_39 : decode cX1_shareByte 39 = .ok (.ireturn, 1) := by decide +kernel
theorem dX1_put_0 : decode cX1_put 0 = .ok (.aload_n 0, 1) := by decide +kernel
theorem dX1_put_1 : decode cX1_put 1 = .ok (.getfield 9, 3) := by decide +kernel
theorem dX1_put_4 : decode cX1_put 4 = .ok (.aload_n 0, 1) := by decide +kernel
theorem dX1_put_5 : decode cX1_put 5 = .ok (.getfield 22, 3) := by decide +kernel
theorem dX1_put_8 : decode cX1_put 8 = .ok (.iload_n 1, 1) := by decide +kernel
theorem dX1_put_9 : decode cX1_put 9 = .ok (.iastore, 1) := by decide +kernel
theorem dX1_put_10 : decode cX1_put 10 = .ok (.aload_n 0, 1) := by decide +kernel
theorem dX1_put_11 : decode cX1_put 11 = .ok (.getfield 15, 3) := by decide +kernel
theorem dX1_put_14 : decode cX1_put 14 = .ok (.aload_n 0, 1) := by decide +kernel
theorem dX1_put_15 : decode cX1_put 15 = .ok (.getfield 22, 3) := by decide +kernel
theorem dX1_put_18 : decode cX1_put 18 = .ok (.iload_n 2, 1) := by decide +kernel
theorem dX1_put_19 : decode cX1_put 19 = .ok (.iastore, 1) := by decide +kernel
theorem dX1_put_20 : decode cX1_put 20 = .ok (.aload_n 0, 1) := by decide +kernel
theorem dX1_put_21 : decode cX1_put 21 = .ok (.dup, 1) := by decide +kernel
theorem dX1_put_22 : decode cX1_put 22 = .ok (.getfield 22, 3) := by decide +kernel
theorem dX1_put_25 : decode cX1_put 25 = .ok (.iconst 1, 1) := by decide +kernel
theorem dX1_put_26 : decode cX1_put 26 = .ok (.iadd, 1) := by decide +kernel
theorem dX1_put_27 : decode cX1_put 27 = .ok (.putfield 22, 3) := by decide +kernel
theorem dX1_put_30 : decode cX1_put 30 = .ok (.aload_n 0, 1) := by decide +kernel
theorem dX1_put_31 : decode cX1_put 31 = .ok (.getfield 22, 3) := by decide +kernel
theorem dX1_put_34 : decode cX1_put 34 = .ok (.iconst 1, 1) := by decide +kernel
theorem dX1_put_35 : decode cX1_put 35 = .ok (.isub, 1) := by decide +kernel
theorem dX1_put_36 : decode cX1_put 36 = .ok (.ireturn, 1) := by decide +kernel
theorem dX1_latestFree_0 : decode cX1_latestFree 0 = .ok (.aload_n 0, 1) := by decide +kernel
theorem dX1_latestFree_1 : decode cX1_latestFree 1 = .ok (.getfield 22, 3) := by decide +kernel
theorem dX1_latestFree_4 : decode cX1_latestFree 4 = .ok (.iconst 1, 1) := by decide +kernel
theorem dX1_latestFree_5 : decode cX1_latestFree 5 = .ok (.isub, 1) := by decide +kernel
theorem dX1_latestFree_6 : decode cX1_latestFree 6 = .ok (.istore_n 1, 1) := by decide +kernel
theorem dX1_latestFree_7 : decode cX1_latestFree 7 = .ok (.iload_n 1, 1) := by decide +kernel
theorem dX1_latestFree_8 : decode cX1_latestFree 8 = .ok (.ifCond .lt 20, 3) := by decide +kernel
theorem dX1_latestFree_11 : decode cX1_latestFree 11 = .ok (.aload_n 0, 1) := by decide +kernel
theorem dX1_latestFree_12 : decode cX1_latestFree 12 = .ok (.getfield 18, 3) := by decide +kernel
theorem dX1_latestFree_15 : decode cX1_latestFree 15 = .ok (.iload_n 1, 1) := by decide +kernel
theorem dX1_latestFree_16 : decode cX1_latestFree 16 = .ok (.baload, 1) := by decide +kernel
theorem dX1_latestFree_17 : decode cX1_latestFree 17 = .ok (.ifCond .ne 5, 3) := by decide +kernel
theorem dX1_latestFree_20 : decode cX1_latestFree 20 = .ok (.iload_n 1, 1) := by decide +kernel
theorem dX1_latestFree_21 : decode cX1_latestFree 21 = .ok (.ireturn, 1) := by decide +kernel
theorem dX1_latestFree_22 : decode cX1_latestFree 22 = .ok (.iinc 1 (-1), 3) := by decide +kernel
theorem dX1_latestFree_25 : decode cX1_latestFree 25 = .ok (.goto (-18), 3) := by decide +kernel
theorem dX1_latestFree_28 : decode cX1_latestFree 28 = .ok (.iconst (-1), 1) := by decide +kernel
theorem dX1_latestFree_29 : decode cX1_latestFree 29 = .ok (.ireturn, 1) := by decide +kernel
theorem dX2_init_0 : decode cX2_init 0 = .ok (.aload_n 0, 1) := by decide +kernel
theorem dX2_init_1 : decode cX2_init 1 = .ok (.invokespecial 5, 3) := by decide +kernel
theorem dX2_init_4 : decode cX2_init 4 = .ok (.aload_n 0, 1) := by decide +kernel
theorem dX2_init_5 : decode cX2_init 5 = .ok (.sipush 1536, 3) := by decide +kernel
theorem dX2_init_8 : decode cX2_init 8 = .ok (.newarray .byte, 2) := by decide +kernel
theorem dX2_init_10 : decode cX2_init 10 = .ok (.putfield 11, 3) := by decide +kernel
theorem dX2_init_13 : decode cX2_init 13 = .ok (.aload_n 0, 1) := by decide +kernel
theorem dX2_init_14 : decode cX2_init 14 = .ok (.bipush 8, 2) := by decide +kernel
theorem dX2_init_16 : decode cX2_init 16 = .ok (.newarray .int, 2) := by decide +kernel
theorem dX2_init_18 : decode cX2_init 18 = .ok (.putfield 15, 3) := by decide +kernel
theorem dX2_init_21 : decode cX2_init 21 = .ok (.aload_n 0, 1) := by decide +kernel
theorem dX2_init_22 : decode cX2_init 22 = .ok (.bipush 64, 2) := by decide +kernel
theorem dX2_init_24 : decode cX2_init 24 = .ok (.newarray .int, 2) := by decide +kernel
theorem dX2_init_26 : decode cX2_init 26 = .ok (.putfield 19, 3) := by decide +kernel
theorem dX2_init_29 : decode cX2_init 29 = .ok (.return_, 1) := by decide +kernel
theorem dX2_start_0 : decode cX2_start 0 = .ok (.aload_n 0, 1) := by decide +kernel
theorem dX2_start_1 : decode cX2_start 1 = .ok (.iconst 0, 1) := by decide +kernel
theorem dX2_start_2 : decode cX2_start 2 = .ok (.putfield 22, 3) := by decide +kernel
theorem dX2_start_5 : decode cX2_start 5 = .ok (.return_, 1) := by decide +kernel
theorem dX2_take_0 : decode cX2_take 0 = .ok (.iload_n 2, 1) := by decide +kernel
theorem dX2_take_1 : decode cX2_take 1 = .ok (.iconst 0, 1) := by decide +kernel
theorem dX2_take_2 : decode cX2_take 2 = .ok (.invokestatic 26, 3) := by decide +kernel
theorem dX2_take_5 : decode cX2_take 5 = .ok (.istore 4, 2) := by decide +kernel
theorem dX2_take_7 : decode cX2_take 7 = .ok (.iload 4, 2) := by decide +kernel
theorem dX2_take_9 : decode cX2_take 9 = .ok (.iload_n 3, 1) := by decide +kernel
theorem dX2_take_10 : decode cX2_take 10 = .ok (.if_icmp .ge 49, 3) := by decide +kernel
theorem dX2_take_13 : decode cX2_take 13 = .ok (.iload 4, 2) := by decide +kernel
theorem dX2_take_15 : decode cX2_take 15 = .ok (.aload_n 1, 1) := by decide +kernel
theorem dX2_take_16 : decode cX2_take 16 = .ok (.arraylength, 1) := by decide +kernel
theorem dX2_take_17 : decode cX2_take 17 = .ok (.if_icmp .ge 42, 3) := by decide +kernel
theorem dX2_take_20 : decode cX2_take 20 = .ok (.aload_n 0, 1) := by decide +kernel
theorem dX2_take_21 : decode cX2_take 21 = .ok (.getfield 22, 3) := by decide +kernel
theorem dX2_take_24 : decode cX2_take 24 = .ok (.sipush 1500, 3) := by decide +kernel
theorem dX2_take_27 : decode cX2_take 27 = .ok (.if_icmp .ge 32, 3) := by decide +kernel
theorem dX2_take_30 : decode cX2_take 30 = .ok (.aload_n 0, 1) := by decide +kernel
theorem dX2_take_31 : decode cX2_take 31 = .ok (.getfield 11, 3) := by decide +kernel
theorem dX2_take_34 : decode cX2_take 34 = .ok (.aload_n 0, 1) := by decide +kernel
theorem dX2_take_35 : decode cX2_take 35 = .ok (.getfield 22, 3) := by decide +kernel
theorem dX2_take_38 : decode cX2_take 38 = .ok (.aload_n 1, 1) := by decide +kernel
theorem dX2_take_39 : decode cX2_take 39 = .ok (.iload 4, 2) := by decide +kernel
theorem dX2_take_41 : decode cX2_take 41 = .ok (.baload, 1) := by decide +kernel
theorem dX2_take_42 : decode cX2_take 42 = .ok (.bastore, 1) := by decide +kernel
theorem dX2_take_43 : decode cX2_take 43 = .ok (.aload_n 0, 1) := by decide +kernel
theorem dX2_take_44 : decode cX2_take 44 = .ok (.dup, 1) := by decide +kernel
theorem dX2_take_45 : decode cX2_take 45 = .ok (.getfield 22, 3) := by decide +kernel
theorem dX2_take_48 : decode cX2_take 48 = .ok (.iconst 1, 1) := by decide +kernel
theorem dX2_take_49 : decode cX2_take 49 = .ok (.iadd, 1) := by decide +kernel
theorem dX2_take_50 : decode cX2_take 50 = .ok (.putfield 22, 3) := by decide +kernel
theorem dX2_take_53 : decode cX2_take 53 = .ok (.iinc 4 1, 3) := by decide +kernel
theorem dX2_take_56 : decode cX2_take 56 = .ok (.goto (-49), 3) := by decide +kernel
theorem dX2_take_59 : decode cX2_take 59 = .ok (.return_, 1) := by decide +kernel
set_option maxRecDepth 20000 in
theorem ggX2_finish_X2_pad : GoodIn wsX2_finish wsX2_pad := goodIn_ca (goodIn_r _ [7, 8, 9, 23, 24, 25, 26] (by decide +kernel) (by decide +kernel)) (goodIn_sub (fun _ h => List.mem_cons_of_mem _ (List.mem_append_right _ h)) (by decide +kernel))
set_option maxRecDepth 20000 in
theorem gX2_finish_X2_pad : GoodIn wsX2_finish (wsV RX2 32 RX2 yX2_pad wsX2_pad) := goodIn_app (goodIn_of _ (by decide +kernel)) ggX2_finish_X2_pad
set_option maxRecDepth 20000 in
theorem ggX2_finish_X2_spread : GoodIn wsX2_finish wsX2_spread := goodIn_ca (goodIn_r _ [13, 14, 9, 15, 16, 6, 17, 23, 24, 25, 26] (by decide +kernel) (by decide +kernel)) (goodIn_sub (fun _ h => List.mem_cons_of_mem _ (List.mem_append_right _ h)) (by decide +kernel))
set_option maxRecDepth 20000 in
theorem gX2_finish_X2_spread : GoodIn wsX2_finish (wsV RX2 39 RX2 yX2_spread wsX2_spread) := goodIn_app (goodIn_of _ (by decide +kernel)) ggX2_finish_X2_spread
set_option maxRecDepth 20000 in
theorem ggX2_finish_X2_stir : GoodIn wsX2_finish wsX2_stir := goodIn_ca (goodIn_r _ [21, 1, 22, 14, 15, 16, 6, 17, 23, 24, 25, 26] (by decide +kernel) (by decide +kernel)) (goodIn_sub (fun _ h => List.mem_cons_of_mem _ (List.mem_append_right _ h)) (by decide +kernel))
set_option maxRecDepth 20000 in
theorem gX2_finish_X2_stir : GoodIn wsX2_finish (wsV RX2 43 RX2 yX2_stir wsX2_stir) := goodIn_app (goodIn_of _ (by decide +kernel)) ggX2_finish_X2_stir
theorem dX2_finish_0 : decode cX2_finish 0 = .ok (.aload_n 0, 1) := by decide +kernel
theorem dX2_finish_1 : decode cX2_finish 1 = .ok (.invokevirtual 32, 3) := by decide +kernel
theorem dX2_finish_4 : decode cX2_finish 4 = .ok (.istore_n 1, 1) := by decide +kernel
theorem dX2_finish_5 : decode cX2_finish 5 = .ok (.iconst 0, 1) := by decide +kernel
theorem dX2_finish_6 : decode cX2_finish 6 = .ok (.istore_n 2, 1) := by decide +kernel
theorem dX2_finish_7 : decode cX2_finish 7 = .ok (.iload_n 2, 1) := by decide +kernel
theorem dX2_finish_8 : decode cX2_finish 8 = .ok (.bipush 8, 2) := by decide +kernel
theorem dX2_finish_10 : decode cX2_finish 10 = .ok (.if_icmp .ge 20, 3) := by decide +kernel
theorem dX2_finish_13 : decode cX2_finish 13 = .ok (.aload_n 0, 1) := by decide +kernel
theorem dX2_finish_14 : decode cX2_finish 14 = .ok (.getfield 15, 3) := by decide +kernel
theorem dX2_finish_17 : decode cX2_finish 17 = .ok (.iload_n 2, 1) := by decide +kernel
theorem dX2_finish_18 : decode cX2_finish 18 = .ok (.getstatic 36, 3) := by decide +kernel
theorem dX2_finish_21 : decode cX2_finish 21 = .ok (.iload_n 2, 1) := by decide +kernel
theorem dX2_finish_22 : decode cX2_finish 22 = .ok (.iaload, 1) := by decide +kernel
theorem dX2_finish_23 : decode cX2_finish 23 = .ok (.iastore, 1) := by decide +kernel
theorem dX2_finish_24 : decode cX2_finish 24 = .ok (.iinc 2 1, 3) := by decide +kernel
theorem dX2_finish_27 : decode cX2_finish 27 = .ok (.goto (-20), 3) := by decide +kernel
theorem dX2_finish_30 : decode cX2_finish 30 = .ok (.iconst 0, 1) := by decide +kernel
theorem dX2_finish_31 : decode cX2_finish 31 = .ok (.istore_n 2, 1) := by decide +kernel
theorem dX2_finish_32 : decode cX2_finish 32 = .ok (.iload_n 2, 1) := by decide +kernel
theorem dX2_finish_33 : decode cX2_finish 33 = .ok (.bipush 64, 2) := by decide +kernel
theorem dX2_finish_35 : decode cX2_finish 35 = .ok (.iadd, 1) := by decide +kernel
theorem dX2_finish_36 : decode cX2_finish 36 = .ok (.iload_n 1, 1) := by decide +kernel
theorem dX2_finish_37 : decode cX2_finish 37 = .ok (.if_icmp .gt 18, 3) := by decide +kernel
theorem dX2_finish_40 : decode cX2_finish 40 = .ok (.aload_n 0, 1) := by decide +kernel
theorem dX2_finish_41 : decode cX2_finish 41 = .ok (.iload_n 2, 1) := by decide +kernel
theorem dX2_finish_42 : decode cX2_finish 42 = .ok (.invokevirtual 39, 3) := by decide +kernel
theorem dX2_finish_45 : decode cX2_finish 45 = .ok (.aload_n 0, 1) := by decide +kernel
theorem dX2_finish_46 : decode cX2_finish 46 = .ok (.invokevirtual 43, 3) := by decide +kernel
theorem dX2_finish_49 : decode cX2_finish 49 = .ok (.iinc 2 64, 3) := by decide +kernel
theorem dX2_finish_52 : decode cX2_finish 52 = .ok (.goto (-20), 3) := by decide +kernel
theorem dX2_finish_55 : decode cX2_finish 55 = .ok (.return_, 1) := by decide +kernel
theorem dX2_copyWords_0 : decode cX2_copyWords 0 = .ok (.iconst 0, 1) := by decide +kernel
theorem dX2_copyWords_1 : decode cX2_copyWords 1 = .ok (.istore_n 2, 1) := by decide +kernel
theorem dX2_copyWords_2 : decode cX2_copyWords 2 = .ok (.iload_n 2, 1) := by decide +kernel
theorem dX2_copyWords_3 : decode cX2_copyWords 3 = .ok (.bipush 8, 2) := by decide +kernel
theorem dX2_copyWords_5 : decode cX2_copyWords 5 = .ok (.if_icmp .ge 24, 3) := by decide +kernel
theorem dX2_copyWords_8 : decode cX2_copyWords 8 = .ok (.iload_n 2, 1) := by decide +kernel
theorem dX2_copyWords_9 : decode cX2_copyWords 9 = .ok (.aload_n 1, 1) := by decide +kernel
theorem dX2_copyWords_10 : decode cX2_copyWords 10 = .ok (.arraylength, 1) := by decide +kernel
theorem dX2_copyWords_11 : decode cX2_copyWords 11 = .ok (.if_icmp .ge 18, 3) := by decide +kernel
theorem dX2_copyWords_14 : decode cX2_copyWords 14 = .ok (.aload_n 1, 1) := by decide +kernel
theorem dX2_copyWords_15 : decode cX2_copyWords 15 = .ok (.iload_n 2, 1) := by decide +kernel
theorem dX2_copyWords_16 : decode cX2_copyWords 16 = .ok (.aload_n 0, 1) := by decide +kernel
theorem dX2_copyWords_17 : decode cX2_copyWords 17 = .ok (.getfield 15, 3) := by decide +kernel
theorem dX2_copyWords_20 : decode cX2_copyWords 20 = .ok (.iload_n 2, 1) := by decide +kernel
theorem dX2_copyWords_21 : decode cX2_copyWords 21 = .ok (.iaload, 1) := by decide +kernel
theorem dX2_copyWords_22 : decode cX2_copyWords 22 = .ok (.iastore, 1) := by decide +kernel
theorem dX2_copyWords_23 : decode cX2_copyWords 23 = .ok (.iinc 2 1, 3) := by decide +kernel
theorem dX2_copyWords_26 : decode cX2_copyWords 26 = .ok (.goto (-24), 3) := by decide +kernel
theorem dX2_copyWords_29 : decode cX2_copyWords 29 = .ok (.return_, 1) := by decide +kernel
theorem dX2_hasWords_0 : decode cX2_hasWords 0 = .ok (.aload_n 1, 1) := by decide +kernel
theorem dX2_hasWords_1 : decode cX2_hasWords 1 = .ok (.arraylength, 1) := by decide +kernel
theorem dX2_hasWords_2 : decode cX2_hasWords 2 = .ok (.bipush 8, 2) := by decide +kernel
theorem dX2_hasWords_4 : decode cX2_hasWords 4 = .ok (.if_icmp .eq 5, 3) := by decide +kernel
theorem dX2_hasWords_7 : decode cX2_hasWords 7 = .ok (.iconst 0, 1) := by decide +kernel
theorem dX2_hasWords_8 : decode cX2_hasWords 8 = .ok (.ireturn, 1) := by decide +kernel
theorem dX2_hasWords_9 : decode cX2_hasWords 9 = .ok (.iconst 0, 1) := by decide +kernel
theorem dX2_hasWords_10 : decode cX2_hasWords 10 = .ok (.istore_n 2, 1) := by decide +kernel
theorem dX2_hasWords_11 : decode cX2_hasWords 11 = .ok (.iload_n 2, 1) := by decide +kernel
theorem dX2_hasWords_12 : decode cX2_hasWords 12 = .ok (.bipush 8, 2) := by decide +kernel
theorem dX2_hasWords_14 : decode cX2_hasWords 14 = .ok (.if_icmp .ge 23, 3) := by decide +kernel
theorem dX2_hasWords_17 : decode cX2_hasWords 17 = .ok (.aload_n 0, 1) := by decide +kernel
theorem dX2_hasWords_18 : decode cX2_hasWords 18 = .ok (.getfield 15, 3) := by decide +kernel
theorem dX2_hasWords_21 : decode cX2_hasWords 21 = .ok (.iload_n 2, 1) := by decide +kernel
theorem dX2_hasWords_22 : decode cX2_hasWords 22 = .ok (.iaload, 1) := by decide +kernel
theorem dX2_hasWords_23 : decode cX2_hasWords 23 = .ok (.aload_n 1, 1) := by decide +kernel
theorem dX2_hasWords_24 : decode cX2_hasWords 24 = .ok (.iload_n 2, 1) := by decide +kernel
theorem dX2_hasWords_25 : decode cX2_hasWords 25 = .ok (.iaload, 1) := by decide +kernel
theorem dX2_hasWords_26 : decode cX2_hasWords 26 = .ok (.if_icmp .eq 5, 3) := by decide +kernel
theorem dX2_hasWords_29 : decode cX2_hasWords 29 = .ok (.iconst 0, 1) := by decide +kernel
theorem dX2_hasWords_30 : decode cX2_hasWords 30 = .ok (.ireturn, 1) := by decide +kernel
theorem dX2_hasWords_31 : decode cX2_hasWords 31 = .ok (.iinc 2 1, 3) := by decide +kernel
theorem dX2_hasWords_34 : decode cX2_hasWords 34 = .ok (.goto (-23), 3) := by decide +kernel
theorem dX2_hasWords_37 : decode cX2_hasWords 37 = .ok (.iconst 1, 1) := by decide +kernel
theorem dX2_hasWords_38 : decode cX2_hasWords 38 = .ok (.ireturn, 1) := by decide +kernel
theorem dX2_pad_0 : decode cX2_pad 0 = .ok (.aload_n 0, 1) := by decide +kernel
theorem dX2_pad_1 : decode cX2_pad 1 = .ok (.getfield 22, 3) := by decide +kernel
theorem dX2_pad_4 : decode cX2_pad 4 = .ok (.iconst 1, 1) := by decide +kernel
theorem dX2_pad_5 : decode cX2_pad 5 = .ok (.iadd, 1) := by decide +kernel
theorem dX2_pad_6 : decode cX2_pad 6 = .ok (.bipush 8, 2) := by decide +kernel
theorem dX2_pad_8 : decode cX2_pad 8 = .ok (.iadd, 1) := by decide +kernel
theorem dX2_pad_9 : decode cX2_pad 9 = .ok (.bipush 64, 2) := by decide +kernel
theorem dX2_pad_11 : decode cX2_pad 11 = .ok (.iadd, 1) := by decide +kernel
theorem dX2_pad_12 : decode cX2_pad 12 = .ok (.iconst 1, 1) := by decide +kernel
theorem dX2_pad_13 : decode cX2_pad 13 = .ok (.isub, 1) := by decide +kernel
theorem dX2_pad_14 : decode cX2_pad 14 = .ok (.bipush 64, 2) := by decide +kernel
theorem dX2_pad_16 : decode cX2_pad 16 = .ok (.idiv, 1) := by decide +kernel
theorem dX2_pad_17 : decode cX2_pad 17 = .ok (.bipush 64, 2) := by decide +kernel
theorem dX2_pad_19 : decode cX2_pad 19 = .ok (.imul, 1) := by decide +kernel
theorem dX2_pad_20 : decode cX2_pad 20 = .ok (.istore_n 1, 1) := by decide +kernel
theorem dX2_pad_21 : decode cX2_pad 21 = .ok (.aload_n 0, 1) := by decide +kernel
theorem dX2_pad_22 : decode cX2_pad 22 = .ok (.getfield 11, 3) := by decide +kernel
theorem dX2_pad_25 : decode cX2_pad 25 = .ok (.aload_n 0, 1) := by decide +kernel
theorem dX2_pad_26 : decode cX2_pad 26 = .ok (.getfield 22, 3) := by decide +kernel
theorem dX2_pad_29 : decode cX2_pad 29 = .ok (.bipush (-128), 2) := by decide +kernel
theorem dX2_pad_31 : decode cX2_pad 31 = .ok (.bastore, 1) := by decide +kernel
theorem dX2_pad_32 : decode cX2_pad 32 = .ok (.aload_n 0, 1) := by decide +kernel
theorem dX2_pad_33 : decode cX2_pad 33 = .ok (.getfield 22, 3) := by decide +kernel
theorem dX2_pad_36 : decode cX2_pad 36 = .ok (.iconst 1, 1) := by decide +kernel
theorem dX2_pad_37 : decode cX2_pad 37 = .ok (.iadd, 1) := by decide +kernel
theorem dX2_pad_38 : decode cX2_pad 38 = .ok (.istore_n 2, 1) := by decide +kernel
theorem dX2_pad_39 : decode cX2_pad 39 = .ok (.iload_n 2, 1) := by decide +kernel
theorem dX2_pad_40 : decode cX2_pad 40 = .ok (.iload_n 1, 1) := by decide +kernel
theorem dX2_pad_41 : decode cX2_pad 41 = .ok (.iconst 4, 1) := by decide +kernel
theorem dX2_pad_42 : decode cX2_pad 42 = .ok (.isub, 1) := by decide +kernel
theorem dX2_pad_43 : decode cX2_pad 43 = .ok (.if_icmp .ge 16, 3) := by decide +kernel
theorem dX2_pad_46 : decode cX2_pad 46 = .ok (.aload_n 0, 1) := by decide +kernel
theorem dX2_pad_47 : decode cX2_pad 47 = .ok (.getfield 11, 3) := by decide +kernel
theorem dX2_pad_50 : decode cX2_pad 50 = .ok (.iload_n 2, 1) := by decide +kernel
theorem dX2_pad_51 : decode cX2_pad 51 = .ok (.iconst 0, 1) := by decide +kernel
theorem dX2_pad_52 : decode cX2_pad 52 = .ok (.bastore, 1) := by decide +kernel
theorem dX2_pad_53 : decode cX2_pad 53 = .ok (.iinc 2 1, 3) := by decide +kernel
theorem dX2_pad_56 : decode cX2_pad 56 = .ok (.goto (-17), 3) := by decide +kernel
theorem dX2_pad_59 : decode cX2_pad 59 = .ok (.aload_n 0, 1) := by decide +kernel
theorem dX2_pad_60 : decode cX2_pad 60 = .ok (.getfield 22, 3) := by decide +kernel
theorem dX2_pad_63 : decode cX2_pad 63 = .ok (.bipush 8, 2) := by decide +kernel
theorem dX2_pad_65 : decode cX2_pad 65 = .ok (.imul, 1) := by decide +kernel
theorem dX2_pad_66 : decode cX2_pad 66 = .ok (.istore_n 2, 1) := by decide +kernel
theorem dX2_pad_67 : decode cX2_pad 67 = .ok (.iconst 1, 1) := by decide +kernel
theorem dX2_pad_68 : decode cX2_pad 68 = .ok (.istore_n 3, 1) := by decide +kernel
theorem dX2_pad_69 : decode cX2_pad 69 = .ok (.iload_n 3, 1) := by decide +kernel
theorem dX2_pad_70 : decode cX2_pad 70 = .ok (.iconst 4, 1) := by decide +kernel
theorem dX2_pad_71 : decode cX2_pad 71 = .ok (.if_icmp .gt 26, 3) := by decide +kernel
theorem dX2_pad_74 : decode cX2_pad 74 = .ok (.aload_n 0, 1) := by decide +kernel
theorem dX2_pad_75 : decode cX2_pad 75 = .ok (.getfield 11, 3) := by decide +kernel
theorem dX2_pad_78 : decode cX2_pad 78 = .ok (.iload_n 1, 1) := by decide +kernel
theorem dX2_pad_79 : decode cX2_pad 79 = .ok (.iload_n 3, 1) := by decide +kernel
theorem dX2_pad_80 : decode cX2_pad 80 = .ok (.isub, 1) := by decide +kernel
theorem dX2_pad_81 : decode cX2_pad 81 = .ok (.iload_n 2, 1) := by decide +kernel
theorem dX2_pad_82 : decode cX2_pad 82 = .ok (.bipush 8, 2) := by decide +kernel
theorem dX2_pad_84 : decode cX2_pad 84 = .ok (.iload_n 3, 1) := by decide +kernel
theorem dX2_pad_85 : decode cX2_pad 85 = .ok (.iconst 1, 1) := by decide +kernel
theorem dX2_pad_86 : decode cX2_pad 86 = .ok (.isub, 1) := by decide +kernel
theorem dX2_pad_87 : decode cX2_pad 87 = .ok (.imul, 1) := by decide +kernel
theorem dX2_pad_88 : decode cX2_pad 88 = .ok (.iushr, 1) := by decide +kernel
theorem dX2_pad_89 : decode cX2_pad 89 = .ok (.i2b, 1) := by decide +kernel
theorem dX2_pad_90 : decode cX2_pad 90 = .ok (.bastore, 1) := by decide +kernel
theorem dX2_pad_91 : decode cX2_pad 91 = .ok (.iinc 3 1, 3) := by decide +kernel
theorem dX2_pad_94 : decode cX2_pad 94 = .ok (.goto (-25), 3) := by decide +kernel
theorem dX2_pad_97 : decode cX2_pad 97 = .ok (.iload_n 1, 1) := by decide +kernel
theorem dX2_pad_98 : decode cX2_pad 98 = .ok (.ireturn, 1) := by decide +kernel
set_option maxRecDepth 20000 in
theorem ggX2_spread_X2_turn : GoodIn wsX2_spread wsX2_turn := goodIn_r _ [6] (by decide +kernel) (by decide +kernel)
set_option maxRecDepth 20000 in
theorem gX2_spread_X2_turn : GoodIn wsX2_spread (va_wsS RX2 46 yX2_turn wsX2_turn) := goodIn_app (goodIn_of _ (by decide +kernel)) ggX2_spread_X2_turn
theorem dX2_spread_0 : decode cX2_spread 0 = .ok (.iconst 0, 1) := by decide +kernel
theorem dX2_spread_1 : decode cX2_spread 1 = .ok (.istore_n 2, 1) := by decide +kernel
theorem dX2_spread_2 : decode cX2_spread 2 = .ok (.iload_n 2, 1) := by decide +kernel
theorem dX2_spread_3 : decode cX2_spread 3 = .ok (.bipush 16, 2) := by decide +kernel
theorem dX2_spread_5 : decode cX2_spread 5 = .ok (.if_icmp .ge 79, 3) := by decide +kernel
theorem dX2_spread_8 : decode cX2_spread 8 = .ok (.iload_n 1, 1) := by decide +kernel
theorem dX2_spread_9 : decode cX2_spread 9 = .ok (.iconst 4, 1) := by decide +kernel
theorem dX2_spread_10 : decode cX2_spread 10 = .ok (.iload_n 2, 1) := by decide +kernel
theorem dX2_spread_11 : decode cX2_spread 11 = .ok (.imul, 1) := by decide +kernel
theorem dX2_spread_12 : decode cX2_spread 12 = .ok (.iadd, 1) := by decide +kernel
theorem dX2_spread_13 : decode cX2_spread 13 = .ok (.istore_n 3, 1) := by decide +kernel
theorem dX2_spread_14 : decode cX2_spread 14 = .ok (.aload_n 0, 1) := by decide +kernel
theorem dX2_spread_15 : decode cX2_spread 15 = .ok (.getfield 19, 3) := by decide +kernel
theorem dX2_spread_18 : decode cX2_spread 18 = .ok (.iload_n 2, 1) := by decide +kernel
theorem dX2_spread_19 : decode cX2_spread 19 = .ok (.aload_n 0, 1) := by decide +kernel
theorem dX2_spread_20 : decode cX2_spread 20 = .ok (.getfield 11, 3) := by decide +kernel
theorem dX2_spread_23 : decode cX2_spread 23 = .ok (.iload_n 3, 1) := by decide +kernel
theorem dX2_spread_24 : decode cX2_spread 24 = .ok (.baload, 1) := by decide +kernel
theorem dX2_spread_25 : decode cX2_spread 25 = .ok (.sipush 255, 3) := by decide +kernel
theorem dX2_spread_28 : decode cX2_spread 28 = .ok (.iand, 1) := by decide +kernel
theorem dX2_spread_29 : decode cX2_spread 29 = .ok (.bipush 24, 2) := by decide +kernel
theorem dX2_spread_31 : decode cX2_spread 31 = .ok (.ishl, 1) := by decide +kernel
theorem dX2_spread_32 : decode cX2_spread 32 = .ok (.aload_n 0, 1) := by decide +kernel
theorem dX2_spread_33 : decode cX2_spread 33 = .ok (.getfield 11, 3) := by decide +kernel
theorem dX2_spread_36 : decode cX2_spread 36 = .ok (.iload_n 3, 1) := by decide +kernel
theorem dX2_spread_37 : decode cX2_spread 37 = .ok (.iconst 1, 1) := by decide +kernel
theorem dX2_spread_38 : decode cX2_spread 38 = .ok (.iadd, 1) := by decide +kernel
theorem dX2_spread_39 : decode cX2_spread 39 = .ok (.baload, 1) := by decide +kernel
theorem dX2_spread_40 : decode cX2_spread 40 = .ok (.sipush 255, 3) := by decide +kernel
theorem dX2_spread_43 : decode cX2_spread 43 = .ok (.iand, 1) := by decide +kernel
theorem dX2_spread_44 : decode cX2_spread 44 = .ok (.bipush 16, 2) := by decide +kernel
theorem dX2_spread_46 : decode cX2_spread 46 = .ok (.ishl, 1) := by decide +kernel
theorem dX2_spread_47 : decode cX2_spread 47 = .ok (.ior, 1) := by decide +kernel
theorem dX2_spread_48 : decode cX2_spread 48 = .ok (.aload_n 0, 1) := by decide +kernel
theorem dX2_spread_49 : decode cX2_spread 49 = .ok (.getfield 11, 3) := by decide +kernel
theorem dX2_spread_52 : decode cX2_spread 52 = .ok (.iload_n 3, 1) := by decide +kernel
theorem dX2_spread_53 : decode cX2_spread 53 = .ok (.iconst 2, 1) := by decide +kernel
theorem dX2_spread_54 : decode cX2_spread 54 = .ok (.iadd, 1) := by decide +kernel
theorem dX2_spread_55 : decode cX2_spread 55 = .ok (.baload, 1) := by decide +kernel
theorem dX2_spread_56 : decode cX2_spread 56 = .ok (.sipush 255, 3) := by decide +kernel
theorem dX2_spread_59 : decode cX2_spread 59 = .ok (.iand, 1) := by decide +kernel
theorem dX2_spread_60 : decode cX2_spread 60 = .ok (.bipush 8, 2) := by decide +kernel
theorem dX2_spread_62 : decode cX2_spread 62 = .ok (.ishl, 1) := by decide +kernel
theorem dX2_spread_63 : decode cX2_spread 63 = .ok (.ior, 1) := by decide +kernel
theorem dX2_spread_64 : decode cX2_spread 64 = .ok (.aload_n 0, 1) := by decide +kernel
theorem dX2_spread_65 : decode cX2_spread 65 = .ok (.getfield 11, 3) := by decide +kernel
theorem dX2_spread_68 : decode cX2_spread 68 = .ok (.iload_n 3, 1) := by decide +kernel
theorem dX2_spread_69 : decode cX2_spread 69 = .ok (.iconst 3, 1) := by decide +kernel
theorem dX2_spread_70 : decode cX2_spread 70 = .ok (.iadd, 1) := by decide +kernel
theorem dX2_spread_71 : decode cX2_spread 71 = .ok (.baload, 1) := by decide +kernel
theorem dX2_spread_72 : decode cX2_spread 72 = .ok (.sipush 255, 3) := by decide +kernel
theorem dX2_spread_75 : decode cX2_spread 75 = .ok (.iand, 1) := by decide +kernel
theorem dX2_spread_76 : decode cX2_spread 76 = .ok (.ior, 1) := by decide +kernel
theorem dX2_spread_77 : decode cX2_spread 77 = .ok (.iastore, 1) := by decide +kernel
theorem dX2_spread_78 : decode cX2_spread 78 = .ok (.iinc 2 1, 3) := by decide +kernel
theorem dX2_spread_81 : decode cX2_spread 81 = .ok (.goto (-79), 3) := by decide +kernel
theorem dX2_spread_84 : decode cX2_spread 84 = .ok (.bipush 16, 2) := by decide +kernel
theorem dX2_spread_86 : decode cX2_spread 86 = .ok (.istore_n 2, 1) := by decide +kernel
theorem dX2_spread_87 : decode cX2_spread 87 = .ok (.iload_n 2, 1) := by decide +kernel
theorem dX2_spread_88 : decode cX2_spread 88 = .ok (.bipush 64, 2) := by decide +kernel
theorem dX2_spread_90 : decode cX2_spread 90 = .ok (.if_icmp .ge 102, 3) := by decide +kernel
theorem dX2_spread_93 : decode cX2_spread 93 = .ok (.aload_n 0, 1) := by decide +kernel
theorem dX2_spread_94 : decode cX2_spread 94 = .ok (.getfield 19, 3) := by decide +kernel
theorem dX2_spread_97 : decode cX2_spread 97 = .ok (.iload_n 2, 1) := by decide +kernel
theorem dX2_spread_98 : decode cX2_spread 98 = .ok (.bipush 15, 2) := by decide +kernel
theorem dX2_spread_100 : decode cX2_spread 100 = .ok (.isub, 1) := by decide +kernel
theorem dX2_spread_101 : decode cX2_spread 101 = .ok (.iaload, 1) := by decide +kernel
theorem dX2_spread_102 : decode cX2_spread 102 = .ok (.istore_n 3, 1) := by decide +kernel
theorem dX2_spread_103 : decode cX2_spread 103 = .ok (.aload_n 0, 1) := by decide +kernel
theorem dX2_spread_104 : decode cX2_spread 104 = .ok (.getfield 19, 3) := by decide +kernel
theorem dX2_spread_107 : decode cX2_spread 107 = .ok (.iload_n 2, 1) := by decide +kernel
theorem dX2_spread_108 : decode cX2_spread 108 = .ok (.iconst 2, 1) := by decide +kernel
theorem dX2_spread_109 : decode cX2_spread 109 = .ok (.isub, 1) := by decide +kernel
theorem dX2_spread_110 : decode cX2_spread 110 = .ok (.iaload, 1) := by decide +kernel
theorem dX2_spread_111 : decode cX2_spread 111 = .ok (.istore 4, 2) := by decide +kernel
theorem dX2_spread_113 : decode cX2_spread 113 = .ok (.iload_n 3, 1) := by decide +kernel
theorem dX2_spread_114 : decode cX2_spread 114 = .ok (.bipush 7, 2) := by decide +kernel
theorem dX2_spread_116 : decode cX2_spread 116 = .ok (.invokestatic 46, 3) := by decide +kernel
theorem dX2_spread_119 : decode cX2_spread 119 = .ok (.iload_n 3, 1) := by decide +kernel
theorem dX2_spread_120 : decode cX2_spread 120 = .ok (.bipush 18, 2) := by decide +kernel
theorem dX2_spread_122 : decode cX2_spread 122 = .ok (.invokestatic 46, 3) := by decide +kernel
theorem dX2_spread_125 : decode cX2_spread 125 = .ok (.ixor, 1) := by decide +kernel
theorem dX2_spread_126 : decode cX2_spread 126 = .ok (.iload_n 3, 1) := by decide +kernel
theorem dX2_spread_127 : decode cX2_spread 127 = .ok (.iconst 3, 1) := by decide +kernel
theorem dX2_spread_128 : decode cX2_spread 128 = .ok (.iushr, 1) := by decide +kernel
theorem dX2_spread_129 : decode cX2_spread 129 = .ok (.ixor, 1) := by decide +kernel
theorem dX2_spread_130 : decode cX2_spread 130 = .ok (.istore 5, 2) := by decide +kernel
theorem dX2_spread_132 : decode cX2_spread 132 = .ok (.iload 4, 2) := by decide +kernel
theorem dX2_spread_134 : decode cX2_spread 134 = .ok (.bipush 17, 2) := by decide +kernel
theorem dX2_spread_136 : decode cX2_spread 136 = .ok (.invokestatic 46, 3) := by decide +kernel
theorem dX2_spread_139 : decode cX2_spread 139 = .ok (.iload 4, 2) := by decide +kernel
theorem dX2_spread_141 : decode cX2_spread 141 = .ok (.bipush 19, 2) := by decide +kernel
theorem dX2_spread_143 : decode cX2_spread 143 = .ok (.invokestatic 46, 3) := by decide +kernel
theorem dX2_spread_146 : decode cX2_spread 146 = .ok (.ixor, 1) := by decide +kernel
theorem dX2_spread_147 : decode cX2_spread 147 = .ok (.iload 4, 2) := by decide +kernel
theorem dX2_spread_149 : decode cX2_spread 149 = .ok (.bipush 10, 2) := by decide +kernel
theorem dX2_spread_151 : decode cX2_spread 151 = .ok (.iushr, 1) := by decide +kernel
theorem dX2_spread_152 : decode cX2_spread 152 = .ok (.ixor, 1) := by decide +kernel
theorem dX2_spread_153 : decode cX2_spread 153 = .ok (.istore 6, 2) := by decide +kernel
theorem dX2_spread_155 : decode cX2_spread 155 = .ok (.aload_n 0, 1) := by decide +kernel
theorem dX2_spread_156 : decode cX2_spread 156 = .ok (.getfield 19, 3) := by decide +kernel
theorem dX2_spread_159 : decode cX2_spread 159 = .ok (.iload_n 2, 1) := by decide +kernel
theorem dX2_spread_160 : decode cX2_spread 160 = .ok (.iload 6, 2) := by decide +kernel
theorem dX2_spread_162 : decode cX2_spread 162 = .ok (.aload_n 0, 1) := by decide +kernel
theorem dX2_spread_163 : decode cX2_spread 163 = .ok (.getfield 19, 3) := by decide +kernel
theorem dX2_spread_166 : decode cX2_spread 166 = .ok (.iload_n 2, 1) := by decide +kernel
theorem dX2_spread_167 : decode cX2_spread 167 = .ok (.bipush 7, 2) := by decide +kernel
theorem dX2_spread_169 : decode cX2_spread 169 = .ok (.isub, 1) := by decide +kernel
theorem dX2_spread_170 : decode cX2_spread 170 = .ok (.iaload, 1) := by decide +kernel
theorem dX2_spread_171 : decode cX2_spread 171 = .ok (.iadd, 1) := by decide +kernel
theorem dX2_spread_172 : decode cX2_spread 172 = .ok (.iload 5, 2) := by decide +kernel
theorem dX2_spread_174 : decode cX2_spread 174 = .ok (.iadd, 1) := by decide +kernel
theorem dX2_spread_175 : decode cX2_spread 175 = .ok (.aload_n 0, 1) := by decide +kernel
theorem dX2_spread_176 : decode cX2_spread 176 = .ok (.getfield 19, 3) := by decide +kernel
theorem dX2_spread_179 : decode cX2_spread 179 = .ok (.iload_n 2, 1) := by decide +kernel
theorem dX2_spread_180 : decode cX2_spread 180 = .ok (.bipush 16, 2) := by decide +kernel
theorem dX2_spread_182 : decode cX2_spread 182 = .ok (.isub, 1) := by decide +kernel
theorem dX2_spread_183 : decode cX2_spread 183 = .ok (.iaload, 1) := by decide +kernel
theorem dX2_spread_184 : decode cX2_spread 184 = .ok (.iadd, 1) := by decide +kernel
theorem dX2_spread_185 : decode cX2_spread 185 = .ok (.iastore, 1) := by decide +kernel
theorem dX2_spread_186 : decode cX2_spread 186 = .ok (.iinc 2 1, 3) := by decide +kernel
theorem dX2_spread_189 : decode cX2_spread 189 = .ok (.goto (-102), 3) := by decide +kernel
theorem dX2_spread_192 : decode cX2_spread 192 = .ok (.return_, 1) := by decide +kernel
