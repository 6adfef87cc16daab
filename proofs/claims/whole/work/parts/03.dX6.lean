theorem dX6_init_0 : decode cX6_init 0 = .ok (.aload_n 0, 1) := by decide +kernel
theorem dX6_init_1 : decode cX6_init 1 = .ok (.invokespecial 3, 3) := by decide +kernel
theorem dX6_init_4 : decode cX6_init 4 = .ok (.aload_n 0, 1) := by decide +kernel
theorem dX6_init_5 : decode cX6_init 5 = .ok (.bipush 6, 2) := by decide +kernel
theorem dX6_init_7 : decode cX6_init 7 = .ok (.newarray .int, 2) := by decide +kernel
theorem dX6_init_9 : decode cX6_init 9 = .ok (.putfield 9, 3) := by decide +kernel
theorem dX6_init_12 : decode cX6_init 12 = .ok (.aload_n 0, 1) := by decide +kernel
theorem dX6_init_13 : decode cX6_init 13 = .ok (.sipush 240, 3) := by decide +kernel
theorem dX6_init_16 : decode cX6_init 16 = .ok (.newarray .byte, 2) := by decide +kernel
theorem dX6_init_18 : decode cX6_init 18 = .ok (.putfield 15, 3) := by decide +kernel
theorem dX6_init_21 : decode cX6_init 21 = .ok (.iconst 0, 1) := by decide +kernel
theorem dX6_init_22 : decode cX6_init 22 = .ok (.istore_n 1, 1) := by decide +kernel
theorem dX6_init_23 : decode cX6_init 23 = .ok (.iload_n 1, 1) := by decide +kernel
theorem dX6_init_24 : decode cX6_init 24 = .ok (.bipush 6, 2) := by decide +kernel
theorem dX6_init_26 : decode cX6_init 26 = .ok (.if_icmp .ge 16, 3) := by decide +kernel
theorem dX6_init_29 : decode cX6_init 29 = .ok (.aload_n 0, 1) := by decide +kernel
theorem dX6_init_30 : decode cX6_init 30 = .ok (.getfield 9, 3) := by decide +kernel
theorem dX6_init_33 : decode cX6_init 33 = .ok (.iload_n 1, 1) := by decide +kernel
theorem dX6_init_34 : decode cX6_init 34 = .ok (.iconst (-1), 1) := by decide +kernel
theorem dX6_init_35 : decode cX6_init 35 = .ok (.iastore, 1) := by decide +kernel
theorem dX6_init_36 : decode cX6_init 36 = .ok (.iinc 1 1, 3) := by decide +kernel
theorem dX6_init_39 : decode cX6_init 39 = .ok (.goto (-16), 3) := by decide +kernel
theorem dX6_init_42 : decode cX6_init 42 = .ok (.return_, 1) := by decide +kernel
theorem dX6_isMissing_0 : decode cX6_isMissing 0 = .ok (.aload_n 0, 1) := by decide +kernel
theorem dX6_isMissing_1 : decode cX6_isMissing 1 = .ok (.getfield 9, 3) := by decide +kernel
theorem dX6_isMissing_4 : decode cX6_isMissing 4 = .ok (.iload_n 1, 1) := by decide +kernel
theorem dX6_isMissing_5 : decode cX6_isMissing 5 = .ok (.iaload, 1) := by decide +kernel
theorem dX6_isMissing_6 : decode cX6_isMissing 6 = .ok (.iconst (-1), 1) := by decide +kernel
theorem dX6_isMissing_7 : decode cX6_isMissing 7 = .ok (.if_icmp .ne 7, 3) := by decide +kernel
theorem dX6_isMissing_10 : decode cX6_isMissing 10 = .ok (.iconst 1, 1) := by decide +kernel
theorem dX6_isMissing_11 : decode cX6_isMissing 11 = .ok (.goto 4, 3) := by decide +kernel
theorem dX6_isMissing_14 : decode cX6_isMissing 14 = .ok (.iconst 0, 1) := by decide +kernel
theorem dX6_isMissing_15 : decode cX6_isMissing 15 = .ok (.ireturn, 1) := by decide +kernel
theorem dX6_hasRun_0 : decode cX6_hasRun 0 = .ok (.iload_n 2, 1) := by decide +kernel
theorem dX6_hasRun_1 : decode cX6_hasRun 1 = .ok (.ifCond .lt 33, 3) := by decide +kernel
theorem dX6_hasRun_4 : decode cX6_hasRun 4 = .ok (.iload_n 2, 1) := by decide +kernel
theorem dX6_hasRun_5 : decode cX6_hasRun 5 = .ok (.aload_n 0, 1) := by decide +kernel
theorem dX6_hasRun_6 : decode cX6_hasRun 6 = .ok (.getfield 9, 3) := by decide +kernel
theorem dX6_hasRun_9 : decode cX6_hasRun 9 = .ok (.iload_n 1, 1) := by decide +kernel
theorem dX6_hasRun_10 : decode cX6_hasRun 10 = .ok (.iaload, 1) := by decide +kernel
theorem dX6_hasRun_11 : decode cX6_hasRun 11 = .ok (.if_icmp .gt 23, 3) := by decide +kernel
theorem dX6_hasRun_14 : decode cX6_hasRun 14 = .ok (.iload_n 3, 1) := by decide +kernel
theorem dX6_hasRun_15 : decode cX6_hasRun 15 = .ok (.ifCond .lt 19, 3) := by decide +kernel
theorem dX6_hasRun_18 : decode cX6_hasRun 18 = .ok (.iload_n 3, 1) := by decide +kernel
theorem dX6_hasRun_19 : decode cX6_hasRun 19 = .ok (.aload_n 0, 1) := by decide +kernel
theorem dX6_hasRun_20 : decode cX6_hasRun 20 = .ok (.getfield 9, 3) := by decide +kernel
theorem dX6_hasRun_23 : decode cX6_hasRun 23 = .ok (.iload_n 1, 1) := by decide +kernel
theorem dX6_hasRun_24 : decode cX6_hasRun 24 = .ok (.iaload, 1) := by decide +kernel
theorem dX6_hasRun_25 : decode cX6_hasRun 25 = .ok (.iload_n 2, 1) := by decide +kernel
theorem dX6_hasRun_26 : decode cX6_hasRun 26 = .ok (.isub, 1) := by decide +kernel
theorem dX6_hasRun_27 : decode cX6_hasRun 27 = .ok (.if_icmp .gt 7, 3) := by decide +kernel
theorem dX6_hasRun_30 : decode cX6_hasRun 30 = .ok (.iconst 1, 1) := by decide +kernel
theorem dX6_hasRun_31 : decode cX6_hasRun 31 = .ok (.goto 4, 3) := by decide +kernel
theorem dX6_hasRun_34 : decode cX6_hasRun 34 = .ok (.iconst 0, 1) := by decide +kernel
theorem dX6_hasRun_35 : decode cX6_hasRun 35 = .ok (.ireturn, 1) := by decide +kernel
theorem dX6_make_0 : decode cX6_make 0 = .ok (.aload_n 0, 1) := by decide +kernel
theorem dX6_make_1 : decode cX6_make 1 = .ok (.getfield 9, 3) := by decide +kernel
theorem dX6_make_4 : decode cX6_make 4 = .ok (.iload_n 1, 1) := by decide +kernel
theorem dX6_make_5 : decode cX6_make 5 = .ok (.iload_n 2, 1) := by decide +kernel
theorem dX6_make_6 : decode cX6_make 6 = .ok (.iastore, 1) := by decide +kernel
theorem dX6_make_7 : decode cX6_make 7 = .ok (.iconst 0, 1) := by decide +kernel
theorem dX6_make_8 : decode cX6_make 8 = .ok (.istore_n 3, 1) := by decide +kernel
theorem dX6_make_9 : decode cX6_make 9 = .ok (.iload_n 3, 1) := by decide +kernel
theorem dX6_make_10 : decode cX6_make 10 = .ok (.iload_n 2, 1) := by decide +kernel
theorem dX6_make_11 : decode cX6_make 11 = .ok (.if_icmp .ge 21, 3) := by decide +kernel
theorem dX6_make_14 : decode cX6_make 14 = .ok (.aload_n 0, 1) := by decide +kernel
theorem dX6_make_15 : decode cX6_make 15 = .ok (.getfield 15, 3) := by decide +kernel
theorem dX6_make_18 : decode cX6_make 18 = .ok (.iload_n 1, 1) := by decide +kernel
theorem dX6_make_19 : decode cX6_make 19 = .ok (.bipush 40, 2) := by decide +kernel
theorem dX6_make_21 : decode cX6_make 21 = .ok (.imul, 1) := by decide +kernel
theorem dX6_make_22 : decode cX6_make 22 = .ok (.iload_n 3, 1) := by decide +kernel
theorem dX6_make_23 : decode cX6_make 23 = .ok (.iadd, 1) := by decide +kernel
theorem dX6_make_24 : decode cX6_make 24 = .ok (.iconst 0, 1) := by decide +kernel
theorem dX6_make_25 : decode cX6_make 25 = .ok (.bastore, 1) := by decide +kernel
theorem dX6_make_26 : decode cX6_make 26 = .ok (.iinc 3 1, 3) := by decide +kernel
theorem dX6_make_29 : decode cX6_make 29 = .ok (.goto (-20), 3) := by decide +kernel
theorem dX6_make_32 : decode cX6_make 32 = .ok (.return_, 1) := by decide +kernel
theorem dX6_drop_0 : decode cX6_drop 0 = .ok (.aload_n 0, 1) := by decide +kernel
theorem dX6_drop_1 : decode cX6_drop 1 = .ok (.getfield 9, 3) := by decide +kernel
theorem dX6_drop_4 : decode cX6_drop 4 = .ok (.iload_n 1, 1) := by decide +kernel
theorem dX6_drop_5 : decode cX6_drop 5 = .ok (.iconst (-1), 1) := by decide +kernel
theorem dX6_drop_6 : decode cX6_drop 6 = .ok (.iastore, 1) := by decide +kernel
theorem dX6_drop_7 : decode cX6_drop 7 = .ok (.return_, 1) := by decide +kernel
theorem dX6_swap_0 : decode cX6_swap 0 = .ok (.aload_n 0, 1) := by decide +kernel
theorem dX6_swap_1 : decode cX6_swap 1 = .ok (.getfield 15, 3) := by decide +kernel
theorem dX6_swap_4 : decode cX6_swap 4 = .ok (.iload_n 1, 1) := by decide +kernel
theorem dX6_swap_5 : decode cX6_swap 5 = .ok (.bipush 40, 2) := by decide +kernel
theorem dX6_swap_7 : decode cX6_swap 7 = .ok (.imul, 1) := by decide +kernel
theorem dX6_swap_8 : decode cX6_swap 8 = .ok (.iload_n 2, 1) := by decide +kernel
theorem dX6_swap_9 : decode cX6_swap 9 = .ok (.iadd, 1) := by decide +kernel
theorem dX6_swap_10 : decode cX6_swap 10 = .ok (.baload, 1) := by decide +kernel
theorem dX6_swap_11 : decode cX6_swap 11 = .ok (.istore 4, 2) := by decide +kernel
theorem dX6_swap_13 : decode cX6_swap 13 = .ok (.aload_n 0, 1) := by decide +kernel
theorem dX6_swap_14 : decode cX6_swap 14 = .ok (.getfield 15, 3) := by decide +kernel
theorem dX6_swap_17 : decode cX6_swap 17 = .ok (.iload_n 1, 1) := by decide +kernel
theorem dX6_swap_18 : decode cX6_swap 18 = .ok (.bipush 40, 2) := by decide +kernel
theorem dX6_swap_20 : decode cX6_swap 20 = .ok (.imul, 1) := by decide +kernel
theorem dX6_swap_21 : decode cX6_swap 21 = .ok (.iload_n 2, 1) := by decide +kernel
theorem dX6_swap_22 : decode cX6_swap 22 = .ok (.iadd, 1) := by decide +kernel
theorem dX6_swap_23 : decode cX6_swap 23 = .ok (.iload_n 3, 1) := by decide +kernel
theorem dX6_swap_24 : decode cX6_swap 24 = .ok (.bastore, 1) := by decide +kernel
theorem dX6_swap_25 : decode cX6_swap 25 = .ok (.iload 4, 2) := by decide +kernel
theorem dX6_swap_27 : decode cX6_swap 27 = .ok (.ireturn, 1) := by decide +kernel
theorem dX6_move_0 : decode cX6_move 0 = .ok (.aload_n 0, 1) := by decide +kernel
theorem dX6_move_1 : decode cX6_move 1 = .ok (.getfield 15, 3) := by decide +kernel
theorem dX6_move_4 : decode cX6_move 4 = .ok (.iload_n 1, 1) := by decide +kernel
theorem dX6_move_5 : decode cX6_move 5 = .ok (.bipush 40, 2) := by decide +kernel
theorem dX6_move_7 : decode cX6_move 7 = .ok (.imul, 1) := by decide +kernel
theorem dX6_move_8 : decode cX6_move 8 = .ok (.iload_n 2, 1) := by decide +kernel
theorem dX6_move_9 : decode cX6_move 9 = .ok (.iadd, 1) := by decide +kernel
theorem dX6_move_10 : decode cX6_move 10 = .ok (.aload_n 0, 1) := by decide +kernel
theorem dX6_move_11 : decode cX6_move 11 = .ok (.getfield 15, 3) := by decide +kernel
theorem dX6_move_14 : decode cX6_move 14 = .ok (.iload_n 3, 1) := by decide +kernel
theorem dX6_move_15 : decode cX6_move 15 = .ok (.bipush 40, 2) := by decide +kernel
theorem dX6_move_17 : decode cX6_move 17 = .ok (.imul, 1) := by decide +kernel
theorem dX6_move_18 : decode cX6_move 18 = .ok (.iload 4, 2) := by decide +kernel
theorem dX6_move_20 : decode cX6_move 20 = .ok (.iadd, 1) := by decide +kernel
theorem dX6_move_21 : decode cX6_move 21 = .ok (.iload 5, 2) := by decide +kernel
theorem dX6_move_23 : decode cX6_move 23 = .ok (.invokestatic 19, 3) := by decide +kernel
theorem dX6_move_26 : decode cX6_move 26 = .ok (.return_, 1) := by decide +kernel
theorem dX6_canMatch_0 : decode cX6_canMatch 0 = .ok (.aload_n 0, 1) := by decide +kernel
theorem dX6_canMatch_1 : decode cX6_canMatch 1 = .ok (.getfield 9, 3) := by decide +kernel
theorem dX6_canMatch_4 : decode cX6_canMatch 4 = .ok (.iload_n 1, 1) := by decide +kernel
theorem dX6_canMatch_5 : decode cX6_canMatch 5 = .ok (.iaload, 1) := by decide +kernel
theorem dX6_canMatch_6 : decode cX6_canMatch 6 = .ok (.ifCond .le 22, 3) := by decide +kernel
theorem dX6_canMatch_9 : decode cX6_canMatch 9 = .ok (.aload_n 0, 1) := by decide +kernel
theorem dX6_canMatch_10 : decode cX6_canMatch 10 = .ok (.getfield 9, 3) := by decide +kernel
theorem dX6_canMatch_13 : decode cX6_canMatch 13 = .ok (.iload_n 2, 1) := by decide +kernel
theorem dX6_canMatch_14 : decode cX6_canMatch 14 = .ok (.iaload, 1) := by decide +kernel
theorem dX6_canMatch_15 : decode cX6_canMatch 15 = .ok (.aload_n 0, 1) := by decide +kernel
theorem dX6_canMatch_16 : decode cX6_canMatch 16 = .ok (.getfield 9, 3) := by decide +kernel
theorem dX6_canMatch_19 : decode cX6_canMatch 19 = .ok (.iload_n 1, 1) := by decide +kernel
theorem dX6_canMatch_20 : decode cX6_canMatch 20 = .ok (.iaload, 1) := by decide +kernel
theorem dX6_canMatch_21 : decode cX6_canMatch 21 = .ok (.if_icmp .lt 7, 3) := by decide +kernel
theorem dX6_canMatch_24 : decode cX6_canMatch 24 = .ok (.iconst 1, 1) := by decide +kernel
theorem dX6_canMatch_25 : decode cX6_canMatch 25 = .ok (.goto 4, 3) := by decide +kernel
theorem dX6_canMatch_28 : decode cX6_canMatch 28 = .ok (.iconst 0, 1) := by decide +kernel
theorem dX6_canMatch_29 : decode cX6_canMatch 29 = .ok (.ireturn, 1) := by decide +kernel
set_option maxRecDepth 20000 in
theorem ggX6_bestPlace_X6_offAt : GoodIn wsX6_bestPlace wsX6_offAt := goodIn_r _ [6, 1, 7, 8, 9, 10, 11, 12, 13] (by decide +kernel) (by decide +kernel)
set_option maxRecDepth 20000 in
theorem gX6_bestPlace_X6_offAt : GoodIn wsX6_bestPlace (wsV RX6 25 RX6 yX6_offAt wsX6_offAt) := goodIn_app (goodIn_of _ (by decide +kernel)) ggX6_bestPlace_X6_offAt
theorem dX6_bestPlace_0 : decode cX6_bestPlace 0 = .ok (.iconst 0, 1) := by decide +kernel
theorem dX6_bestPlace_1 : decode cX6_bestPlace 1 = .ok (.istore_n 3, 1) := by decide +kernel
theorem dX6_bestPlace_2 : decode cX6_bestPlace 2 = .ok (.aload_n 0, 1) := by decide +kernel
theorem dX6_bestPlace_3 : decode cX6_bestPlace 3 = .ok (.iload_n 1, 1) := by decide +kernel
theorem dX6_bestPlace_4 : decode cX6_bestPlace 4 = .ok (.iload_n 2, 1) := by decide +kernel
theorem dX6_bestPlace_5 : decode cX6_bestPlace 5 = .ok (.iconst 0, 1) := by decide +kernel
theorem dX6_bestPlace_6 : decode cX6_bestPlace 6 = .ok (.invokevirtual 25, 3) := by decide +kernel
theorem dX6_bestPlace_9 : decode cX6_bestPlace 9 = .ok (.istore 4, 2) := by decide +kernel
theorem dX6_bestPlace_11 : decode cX6_bestPlace 11 = .ok (.iconst 1, 1) := by decide +kernel
theorem dX6_bestPlace_12 : decode cX6_bestPlace 12 = .ok (.istore 5, 2) := by decide +kernel
theorem dX6_bestPlace_14 : decode cX6_bestPlace 14 = .ok (.iload 5, 2) := by decide +kernel
theorem dX6_bestPlace_16 : decode cX6_bestPlace 16 = .ok (.aload_n 0, 1) := by decide +kernel
theorem dX6_bestPlace_17 : decode cX6_bestPlace 17 = .ok (.getfield 9, 3) := by decide +kernel
theorem dX6_bestPlace_20 : decode cX6_bestPlace 20 = .ok (.iload_n 2, 1) := by decide +kernel
theorem dX6_bestPlace_21 : decode cX6_bestPlace 21 = .ok (.iaload, 1) := by decide +kernel
theorem dX6_bestPlace_22 : decode cX6_bestPlace 22 = .ok (.aload_n 0, 1) := by decide +kernel
theorem dX6_bestPlace_23 : decode cX6_bestPlace 23 = .ok (.getfield 9, 3) := by decide +kernel
theorem dX6_bestPlace_26 : decode cX6_bestPlace 26 = .ok (.iload_n 1, 1) := by decide +kernel
theorem dX6_bestPlace_27 : decode cX6_bestPlace 27 = .ok (.iaload, 1) := by decide +kernel
theorem dX6_bestPlace_28 : decode cX6_bestPlace 28 = .ok (.isub, 1) := by decide +kernel
theorem dX6_bestPlace_29 : decode cX6_bestPlace 29 = .ok (.if_icmp .gt 33, 3) := by decide +kernel
theorem dX6_bestPlace_32 : decode cX6_bestPlace 32 = .ok (.aload_n 0, 1) := by decide +kernel
theorem dX6_bestPlace_33 : decode cX6_bestPlace 33 = .ok (.iload_n 1, 1) := by decide +kernel
theorem dX6_bestPlace_34 : decode cX6_bestPlace 34 = .ok (.iload_n 2, 1) := by decide +kernel
theorem dX6_bestPlace_35 : decode cX6_bestPlace 35 = .ok (.iload 5, 2) := by decide +kernel
theorem dX6_bestPlace_37 : decode cX6_bestPlace 37 = .ok (.invokevirtual 25, 3) := by decide +kernel
theorem dX6_bestPlace_40 : decode cX6_bestPlace 40 = .ok (.istore 6, 2) := by decide +kernel
theorem dX6_bestPlace_42 : decode cX6_bestPlace 42 = .ok (.iload 6, 2) := by decide +kernel
theorem dX6_bestPlace_44 : decode cX6_bestPlace 44 = .ok (.iload 4, 2) := by decide +kernel
theorem dX6_bestPlace_46 : decode cX6_bestPlace 46 = .ok (.if_icmp .ge 10, 3) := by decide +kernel
theorem dX6_bestPlace_49 : decode cX6_bestPlace 49 = .ok (.iload 5, 2) := by decide +kernel
theorem dX6_bestPlace_51 : decode cX6_bestPlace 51 = .ok (.istore_n 3, 1) := by decide +kernel
theorem dX6_bestPlace_52 : decode cX6_bestPlace 52 = .ok (.iload 6, 2) := by decide +kernel
theorem dX6_bestPlace_54 : decode cX6_bestPlace 54 = .ok (.istore 4, 2) := by decide +kernel
theorem dX6_bestPlace_56 : decode cX6_bestPlace 56 = .ok (.iinc 5 1, 3) := by decide +kernel
theorem dX6_bestPlace_59 : decode cX6_bestPlace 59 = .ok (.goto (-45), 3) := by decide +kernel
theorem dX6_bestPlace_62 : decode cX6_bestPlace 62 = .ok (.iload_n 3, 1) := by decide +kernel
theorem dX6_bestPlace_63 : decode cX6_bestPlace 63 = .ok (.ireturn, 1) := by decide +kernel
theorem dX6_offAt_0 : decode cX6_offAt 0 = .ok (.iload_n 1, 1) := by decide +kernel
theorem dX6_offAt_1 : decode cX6_offAt 1 = .ok (.bipush 40, 2) := by decide +kernel
theorem dX6_offAt_3 : decode cX6_offAt 3 = .ok (.imul, 1) := by decide +kernel
theorem dX6_offAt_4 : decode cX6_offAt 4 = .ok (.istore 4, 2) := by decide +kernel
theorem dX6_offAt_6 : decode cX6_offAt 6 = .ok (.iload_n 2, 1) := by decide +kernel
theorem dX6_offAt_7 : decode cX6_offAt 7 = .ok (.bipush 40, 2) := by decide +kernel
theorem dX6_offAt_9 : decode cX6_offAt 9 = .ok (.imul, 1) := by decide +kernel
theorem dX6_offAt_10 : decode cX6_offAt 10 = .ok (.iload_n 3, 1) := by decide +kernel
theorem dX6_offAt_11 : decode cX6_offAt 11 = .ok (.iadd, 1) := by decide +kernel
theorem dX6_offAt_12 : decode cX6_offAt 12 = .ok (.istore 5, 2) := by decide +kernel
theorem dX6_offAt_14 : decode cX6_offAt 14 = .ok (.iconst 0, 1) := by decide +kernel
theorem dX6_offAt_15 : decode cX6_offAt 15 = .ok (.istore 6, 2) := by decide +kernel
theorem dX6_offAt_17 : decode cX6_offAt 17 = .ok (.iconst 0, 1) := by decide +kernel
theorem dX6_offAt_18 : decode cX6_offAt 18 = .ok (.istore 7, 2) := by decide +kernel
theorem dX6_offAt_20 : decode cX6_offAt 20 = .ok (.iload 7, 2) := by decide +kernel
theorem dX6_offAt_22 : decode cX6_offAt 22 = .ok (.aload_n 0, 1) := by decide +kernel
theorem dX6_offAt_23 : decode cX6_offAt 23 = .ok (.getfield 9, 3) := by decide +kernel
theorem dX6_offAt_26 : decode cX6_offAt 26 = .ok (.iload_n 1, 1) := by decide +kernel
theorem dX6_offAt_27 : decode cX6_offAt 27 = .ok (.iaload, 1) := by decide +kernel
theorem dX6_offAt_28 : decode cX6_offAt 28 = .ok (.if_icmp .ge 38, 3) := by decide +kernel
theorem dX6_offAt_31 : decode cX6_offAt 31 = .ok (.iload 6, 2) := by decide +kernel
theorem dX6_offAt_33 : decode cX6_offAt 33 = .ok (.aload_n 0, 1) := by decide +kernel
theorem dX6_offAt_34 : decode cX6_offAt 34 = .ok (.getfield 15, 3) := by decide +kernel
theorem dX6_offAt_37 : decode cX6_offAt 37 = .ok (.iload 4, 2) := by decide +kernel
theorem dX6_offAt_39 : decode cX6_offAt 39 = .ok (.iload 7, 2) := by decide +kernel
theorem dX6_offAt_41 : decode cX6_offAt 41 = .ok (.iadd, 1) := by decide +kernel
theorem dX6_offAt_42 : decode cX6_offAt 42 = .ok (.baload, 1) := by decide +kernel
theorem dX6_offAt_43 : decode cX6_offAt 43 = .ok (.aload_n 0, 1) := by decide +kernel
theorem dX6_offAt_44 : decode cX6_offAt 44 = .ok (.getfield 15, 3) := by decide +kernel
theorem dX6_offAt_47 : decode cX6_offAt 47 = .ok (.iload 5, 2) := by decide +kernel
theorem dX6_offAt_49 : decode cX6_offAt 49 = .ok (.iload 7, 2) := by decide +kernel
theorem dX6_offAt_51 : decode cX6_offAt 51 = .ok (.iadd, 1) := by decide +kernel
theorem dX6_offAt_52 : decode cX6_offAt 52 = .ok (.baload, 1) := by decide +kernel
theorem dX6_offAt_53 : decode cX6_offAt 53 = .ok (.isub, 1) := by decide +kernel
theorem dX6_offAt_54 : decode cX6_offAt 54 = .ok (.invokestatic 29, 3) := by decide +kernel
theorem dX6_offAt_57 : decode cX6_offAt 57 = .ok (.iadd, 1) := by decide +kernel
theorem dX6_offAt_58 : decode cX6_offAt 58 = .ok (.istore 6, 2) := by decide +kernel
theorem dX6_offAt_60 : decode cX6_offAt 60 = .ok (.iinc 7 1, 3) := by decide +kernel
theorem dX6_offAt_63 : decode cX6_offAt 63 = .ok (.goto (-43), 3) := by decide +kernel
theorem dX6_offAt_66 : decode cX6_offAt 66 = .ok (.iload 6, 2) := by decide +kernel
theorem dX6_offAt_68 : decode cX6_offAt 68 = .ok (.ireturn, 1) := by decide +kernel
set_option maxRecDepth 20000 in
theorem ggX6_isSure_X6_canMatch : GoodIn wsX6_isSure wsX6_canMatch := goodIn_r _ [5, 6, 20, 21] (by decide +kernel) (by decide +kernel)
set_option maxRecDepth 20000 in
theorem gX6_isSure_X6_canMatch : GoodIn wsX6_isSure (wsV RX6 35 RX6 yX6_canMatch wsX6_canMatch) := goodIn_app (goodIn_of _ (by decide +kernel)) ggX6_isSure_X6_canMatch
set_option maxRecDepth 20000 in
theorem ggX6_isSure_X6_bestPlace : GoodIn wsX6_isSure wsX6_bestPlace := goodIn_r _ [10, 6, 11, 12, 13, 4, 14, 15, 16, 17, 18, 19, 20, 21] (by decide +kernel) (by decide +kernel)
set_option maxRecDepth 20000 in
theorem gX6_isSure_X6_bestPlace : GoodIn wsX6_isSure (wsV RX6 39 RX6 yX6_bestPlace wsX6_bestPlace) := goodIn_app (goodIn_of _ (by decide +kernel)) ggX6_isSure_X6_bestPlace
set_option maxRecDepth 20000 in
theorem ggX6_isSure_X6_offAt : GoodIn wsX6_isSure wsX6_offAt := goodIn_r _ [14, 6, 15, 16, 17, 18, 19, 20, 21] (by decide +kernel) (by decide +kernel)
set_option maxRecDepth 20000 in
theorem gX6_isSure_X6_offAt : GoodIn wsX6_isSure (wsV RX6 25 RX6 yX6_offAt wsX6_offAt) := goodIn_app (goodIn_of _ (by decide +kernel)) ggX6_isSure_X6_offAt
theorem dX6_isSure_0 : decode cX6_isSure 0 = .ok (.aload_n 0, 1) := by decide +kernel
theorem dX6_isSure_1 : decode cX6_isSure 1 = .ok (.iload_n 1, 1) := by decide +kernel
theorem dX6_isSure_2 : decode cX6_isSure 2 = .ok (.iload_n 2, 1) := by decide +kernel
theorem dX6_isSure_3 : decode cX6_isSure 3 = .ok (.invokevirtual 35, 3) := by decide +kernel
theorem dX6_isSure_6 : decode cX6_isSure 6 = .ok (.ifCond .ne 5, 3) := by decide +kernel
theorem dX6_isSure_9 : decode cX6_isSure 9 = .ok (.iconst 0, 1) := by decide +kernel
theorem dX6_isSure_10 : decode cX6_isSure 10 = .ok (.ireturn, 1) := by decide +kernel
theorem dX6_isSure_11 : decode cX6_isSure 11 = .ok (.aload_n 0, 1) := by decide +kernel
theorem dX6_isSure_12 : decode cX6_isSure 12 = .ok (.iload_n 1, 1) := by decide +kernel
theorem dX6_isSure_13 : decode cX6_isSure 13 = .ok (.iload_n 2, 1) := by decide +kernel
theorem dX6_isSure_14 : decode cX6_isSure 14 = .ok (.aload_n 0, 1) := by decide +kernel
theorem dX6_isSure_15 : decode cX6_isSure 15 = .ok (.iload_n 1, 1) := by decide +kernel
theorem dX6_isSure_16 : decode cX6_isSure 16 = .ok (.iload_n 2, 1) := by decide +kernel
theorem dX6_isSure_17 : decode cX6_isSure 17 = .ok (.invokevirtual 39, 3) := by decide +kernel
theorem dX6_isSure_20 : decode cX6_isSure 20 = .ok (.invokevirtual 25, 3) := by decide +kernel
theorem dX6_isSure_23 : decode cX6_isSure 23 = .ok (.istore_n 3, 1) := by decide +kernel
theorem dX6_isSure_24 : decode cX6_isSure 24 = .ok (.iconst 0, 1) := by decide +kernel
theorem dX6_isSure_25 : decode cX6_isSure 25 = .ok (.istore 4, 2) := by decide +kernel
theorem dX6_isSure_27 : decode cX6_isSure 27 = .ok (.iload 4, 2) := by decide +kernel
theorem dX6_isSure_29 : decode cX6_isSure 29 = .ok (.bipush 6, 2) := by decide +kernel
theorem dX6_isSure_31 : decode cX6_isSure 31 = .ok (.if_icmp .ge 63, 3) := by decide +kernel
theorem dX6_isSure_34 : decode cX6_isSure 34 = .ok (.iload 4, 2) := by decide +kernel
theorem dX6_isSure_36 : decode cX6_isSure 36 = .ok (.iload_n 1, 1) := by decide +kernel
theorem dX6_isSure_37 : decode cX6_isSure 37 = .ok (.if_icmp .eq 23, 3) := by decide +kernel
theorem dX6_isSure_40 : decode cX6_isSure 40 = .ok (.iload 4, 2) := by decide +kernel
theorem dX6_isSure_42 : decode cX6_isSure 42 = .ok (.iload_n 2, 1) := by decide +kernel
theorem dX6_isSure_43 : decode cX6_isSure 43 = .ok (.if_icmp .eq 17, 3) := by decide +kernel
theorem dX6_isSure_46 : decode cX6_isSure 46 = .ok (.aload_n 0, 1) := by decide +kernel
theorem dX6_isSure_47 : decode cX6_isSure 47 = .ok (.iload_n 1, 1) := by decide +kernel
theorem dX6_isSure_48 : decode cX6_isSure 48 = .ok (.iload 4, 2) := by decide +kernel
theorem dX6_isSure_50 : decode cX6_isSure 50 = .ok (.invokevirtual 35, 3) := by decide +kernel
theorem dX6_isSure_53 : decode cX6_isSure 53 = .ok (.ifCond .eq 7, 3) := by decide +kernel
theorem dX6_isSure_56 : decode cX6_isSure 56 = .ok (.iconst 1, 1) := by decide +kernel
theorem dX6_isSure_57 : decode cX6_isSure 57 = .ok (.goto 4, 3) := by decide +kernel
theorem dX6_isSure_60 : decode cX6_isSure 60 = .ok (.iconst 0, 1) := by decide +kernel
theorem dX6_isSure_61 : decode cX6_isSure 61 = .ok (.istore 5, 2) := by decide +kernel
theorem dX6_isSure_63 : decode cX6_isSure 63 = .ok (.iload 5, 2) := by decide +kernel
theorem dX6_isSure_65 : decode cX6_isSure 65 = .ok (.ifCond .eq 23, 3) := by decide +kernel
theorem dX6_isSure_68 : decode cX6_isSure 68 = .ok (.aload_n 0, 1) := by decide +kernel
theorem dX6_isSure_69 : decode cX6_isSure 69 = .ok (.iload_n 1, 1) := by decide +kernel
theorem dX6_isSure_70 : decode cX6_isSure 70 = .ok (.iload 4, 2) := by decide +kernel
theorem dX6_isSure_72 : decode cX6_isSure 72 = .ok (.aload_n 0, 1) := by decide +kernel
theorem dX6_isSure_73 : decode cX6_isSure 73 = .ok (.iload_n 1, 1) := by decide +kernel
theorem dX6_isSure_74 : decode cX6_isSure 74 = .ok (.iload 4, 2) := by decide +kernel
theorem dX6_isSure_76 : decode cX6_isSure 76 = .ok (.invokevirtual 39, 3) := by decide +kernel
theorem dX6_isSure_79 : decode cX6_isSure 79 = .ok (.invokevirtual 25, 3) := by decide +kernel
theorem dX6_isSure_82 : decode cX6_isSure 82 = .ok (.iload_n 3, 1) := by decide +kernel
theorem dX6_isSure_83 : decode cX6_isSure 83 = .ok (.if_icmp .gt 5, 3) := by decide +kernel
theorem dX6_isSure_86 : decode cX6_isSure 86 = .ok (.iconst 0, 1) := by decide +kernel
theorem dX6_isSure_87 : decode cX6_isSure 87 = .ok (.ireturn, 1) := by decide +kernel
theorem dX6_isSure_88 : decode cX6_isSure 88 = .ok (.iinc 4 1, 3) := by decide +kernel
theorem dX6_isSure_91 : decode cX6_isSure 91 = .ok (.goto (-64), 3) := by decide +kernel
theorem dX6_isSure_94 : decode cX6_isSure 94 = .ok (.iconst 1, 1) := by decide +kernel
theorem dX6_isSure_95 : decode cX6_isSure 95 = .ok (.ireturn, 1) := by decide +kernel
theorem dX6_mixInto_0 : decode cX6_mixInto 0 = .ok (.iconst 0, 1) := by decide +kernel
theorem dX6_mixInto_1 : decode cX6_mixInto 1 = .ok (.istore_n 3, 1) := by decide +kernel
theorem dX6_mixInto_2 : decode cX6_mixInto 2 = .ok (.iload_n 3, 1) := by decide +kernel
theorem dX6_mixInto_3 : decode cX6_mixInto 3 = .ok (.bipush 6, 2) := by decide +kernel
theorem dX6_mixInto_5 : decode cX6_mixInto 5 = .ok (.if_icmp .ge 63, 3) := by decide +kernel
theorem dX6_mixInto_8 : decode cX6_mixInto 8 = .ok (.ldc2_w 43, 3) := by decide +kernel
theorem dX6_mixInto_11 : decode cX6_mixInto 11 = .ok (.lload_n 1, 1) := by decide +kernel
theorem dX6_mixInto_12 : decode cX6_mixInto 12 = .ok (.lmul, 1) := by decide +kernel
theorem dX6_mixInto_13 : decode cX6_mixInto 13 = .ok (.aload_n 0, 1) := by decide +kernel
theorem dX6_mixInto_14 : decode cX6_mixInto 14 = .ok (.getfield 9, 3) := by decide +kernel
theorem dX6_mixInto_17 : decode cX6_mixInto 17 = .ok (.iload_n 3, 1) := by decide +kernel
theorem dX6_mixInto_18 : decode cX6_mixInto 18 = .ok (.iaload, 1) := by decide +kernel
theorem dX6_mixInto_19 : decode cX6_mixInto 19 = .ok (.i2l, 1) := by decide +kernel
theorem dX6_mixInto_20 : decode cX6_mixInto 20 = .ok (.ladd, 1) := by decide +kernel
theorem dX6_mixInto_21 : decode cX6_mixInto 21 = .ok (.lstore_n 1, 1) := by decide +kernel
theorem dX6_mixInto_22 : decode cX6_mixInto 22 = .ok (.iconst 0, 1) := by decide +kernel
theorem dX6_mixInto_23 : decode cX6_mixInto 23 = .ok (.istore 4, 2) := by decide +kernel
theorem dX6_mixInto_25 : decode cX6_mixInto 25 = .ok (.iload 4, 2) := by decide +kernel
theorem dX6_mixInto_27 : decode cX6_mixInto 27 = .ok (.aload_n 0, 1) := by decide +kernel
theorem dX6_mixInto_28 : decode cX6_mixInto 28 = .ok (.getfield 9, 3) := by decide +kernel
theorem dX6_mixInto_31 : decode cX6_mixInto 31 = .ok (.iload_n 3, 1) := by decide +kernel
theorem dX6_mixInto_32 : decode cX6_mixInto 32 = .ok (.iaload, 1) := by decide +kernel
theorem dX6_mixInto_33 : decode cX6_mixInto 33 = .ok (.if_icmp .ge 29, 3) := by decide +kernel
theorem dX6_mixInto_36 : decode cX6_mixInto 36 = .ok (.ldc2_w 43, 3) := by decide +kernel
theorem dX6_mixInto_39 : decode cX6_mixInto 39 = .ok (.lload_n 1, 1) := by decide +kernel
theorem dX6_mixInto_40 : decode cX6_mixInto 40 = .ok (.lmul, 1) := by decide +kernel
theorem dX6_mixInto_41 : decode cX6_mixInto 41 = .ok (.aload_n 0, 1) := by decide +kernel
theorem dX6_mixInto_42 : decode cX6_mixInto 42 = .ok (.getfield 15, 3) := by decide +kernel
theorem dX6_mixInto_45 : decode cX6_mixInto 45 = .ok (.iload_n 3, 1) := by decide +kernel
theorem dX6_mixInto_46 : decode cX6_mixInto 46 = .ok (.bipush 40, 2) := by decide +kernel
theorem dX6_mixInto_48 : decode cX6_mixInto 48 = .ok (.imul, 1) := by decide +kernel
theorem dX6_mixInto_49 : decode cX6_mixInto 49 = .ok (.iload 4, 2) := by decide +kernel
theorem dX6_mixInto_51 : decode cX6_mixInto 51 = .ok (.iadd, 1) := by decide +kernel
theorem dX6_mixInto_52 : decode cX6_mixInto 52 = .ok (.baload, 1) := by decide +kernel
theorem dX6_mixInto_53 : decode cX6_mixInto 53 = .ok (.i2l, 1) := by decide +kernel
theorem dX6_mixInto_54 : decode cX6_mixInto 54 = .ok (.ladd, 1) := by decide +kernel
theorem dX6_mixInto_55 : decode cX6_mixInto 55 = .ok (.lstore_n 1, 1) := by decide +kernel
theorem dX6_mixInto_56 : decode cX6_mixInto 56 = .ok (.iinc 4 1, 3) := by decide +kernel
theorem dX6_mixInto_59 : decode cX6_mixInto 59 = .ok (.goto (-34), 3) := by decide +kernel
theorem dX6_mixInto_62 : decode cX6_mixInto 62 = .ok (.iinc 3 1, 3) := by decide +kernel
theorem dX6_mixInto_65 : decode cX6_mixInto 65 = .ok (.goto (-63), 3) := by decide +kernel
theorem dX6_mixInto_68 : decode cX6_mixInto 68 = .ok (.lload_n 1, 1) := by decide +kernel
theorem dX6_mixInto_69 : decode cX6_mixInto 69 = .ok (.lreturn, 1) := by decide +kernel
