theorem dX1_init_0 : decode cX1_init 0 = .ok (.aload_n 0, 1) := by decide +kernel
theorem dX1_init_1 : decode cX1_init 1 = .ok (.invokespecial 3, 3) := by decide +kernel
theorem dX1_init_4 : decode cX1_init 4 = .ok (.aload_n 0, 1) := by decide +kernel
theorem dX1_init_5 : decode cX1_init 5 = .ok (.bipush 24, 2) := by decide +kernel
theorem dX1_init_7 : decode cX1_init 7 = .ok (.newarray .int, 2) := by decide +kernel
theorem dX1_init_9 : decode cX1_init 9 = .ok (.putfield 9, 3) := by decide +kernel
theorem dX1_init_12 : decode cX1_init 12 = .ok (.aload_n 0, 1) := by decide +kernel
theorem dX1_init_13 : decode cX1_init 13 = .ok (.bipush 24, 2) := by decide +kernel
theorem dX1_init_15 : decode cX1_init 15 = .ok (.newarray .int, 2) := by decide +kernel
theorem dX1_init_17 : decode cX1_init 17 = .ok (.putfield 15, 3) := by decide +kernel
theorem dX1_init_20 : decode cX1_init 20 = .ok (.aload_n 0, 1) := by decide +kernel
theorem dX1_init_21 : decode cX1_init 21 = .ok (.bipush 24, 2) := by decide +kernel
theorem dX1_init_23 : decode cX1_init 23 = .ok (.newarray .int, 2) := by decide +kernel
theorem dX1_init_25 : decode cX1_init 25 = .ok (.putfield 18, 3) := by decide +kernel
theorem dX1_init_28 : decode cX1_init 28 = .ok (.aload_n 0, 1) := by decide +kernel
theorem dX1_init_29 : decode cX1_init 29 = .ok (.bipush 24, 2) := by decide +kernel
theorem dX1_init_31 : decode cX1_init 31 = .ok (.newarray .int, 2) := by decide +kernel
theorem dX1_init_33 : decode cX1_init 33 = .ok (.putfield 21, 3) := by decide +kernel
theorem dX1_init_36 : decode cX1_init 36 = .ok (.aload_n 0, 1) := by decide +kernel
theorem dX1_init_37 : decode cX1_init 37 = .ok (.iconst 0, 1) := by decide +kernel
theorem dX1_init_38 : decode cX1_init 38 = .ok (.putfield 24, 3) := by decide +kernel
theorem dX1_init_41 : decode cX1_init 41 = .ok (.return_, 1) := by decide +kernel
theorem dX1_add_0 : decode cX1_add 0 = .ok (.aload_n 0, 1) := by decide +kernel
theorem dX1_add_1 : decode cX1_add 1 = .ok (.getfield 9, 3) := by decide +kernel
theorem dX1_add_4 : decode cX1_add 4 = .ok (.aload_n 0, 1) := by decide +kernel
theorem dX1_add_5 : decode cX1_add 5 = .ok (.getfield 24, 3) := by decide +kernel
theorem dX1_add_8 : decode cX1_add 8 = .ok (.iload_n 1, 1) := by decide +kernel
theorem dX1_add_9 : decode cX1_add 9 = .ok (.iastore, 1) := by decide +kernel
theorem dX1_add_10 : decode cX1_add 10 = .ok (.aload_n 0, 1) := by decide +kernel
theorem dX1_add_11 : decode cX1_add 11 = .ok (.getfield 15, 3) := by decide +kernel
theorem dX1_add_14 : decode cX1_add 14 = .ok (.aload_n 0, 1) := by decide +kernel
theorem dX1_add_15 : decode cX1_add 15 = .ok (.getfield 24, 3) := by decide +kernel
theorem dX1_add_18 : decode cX1_add 18 = .ok (.iload_n 2, 1) := by decide +kernel
theorem dX1_add_19 : decode cX1_add 19 = .ok (.iastore, 1) := by decide +kernel
theorem dX1_add_20 : decode cX1_add 20 = .ok (.aload_n 0, 1) := by decide +kernel
theorem dX1_add_21 : decode cX1_add 21 = .ok (.getfield 18, 3) := by decide +kernel
theorem dX1_add_24 : decode cX1_add 24 = .ok (.aload_n 0, 1) := by decide +kernel
theorem dX1_add_25 : decode cX1_add 25 = .ok (.getfield 24, 3) := by decide +kernel
theorem dX1_add_28 : decode cX1_add 28 = .ok (.iload_n 3, 1) := by decide +kernel
theorem dX1_add_29 : decode cX1_add 29 = .ok (.iastore, 1) := by decide +kernel
theorem dX1_add_30 : decode cX1_add 30 = .ok (.aload_n 0, 1) := by decide +kernel
theorem dX1_add_31 : decode cX1_add 31 = .ok (.getfield 21, 3) := by decide +kernel
theorem dX1_add_34 : decode cX1_add 34 = .ok (.aload_n 0, 1) := by decide +kernel
theorem dX1_add_35 : decode cX1_add 35 = .ok (.getfield 24, 3) := by decide +kernel
theorem dX1_add_38 : decode cX1_add 38 = .ok (.iload 4, 2) := by decide +kernel
theorem dX1_add_40 : decode cX1_add 40 = .ok (.iastore, 1) := by decide +kernel
theorem dX1_add_41 : decode cX1_add 41 = .ok (.aload_n 0, 1) := by decide +kernel
theorem dX1_add_42 : decode cX1_add 42 = .ok (.dup, 1) := by decide +kernel
theorem dX1_add_43 : decode cX1_add 43 = .ok (.getfield 24, 3) := by decide +kernel
theorem dX1_add_46 : decode cX1_add 46 = .ok (.iconst 1, 1) := by decide +kernel
theorem dX1_add_47 : decode cX1_add 47 = .ok (.iadd, 1) := by decide +kernel
theorem dX1_add_48 : decode cX1_add 48 = .ok (.putfield 24, 3) := by decide +kernel
theorem dX1_add_51 : decode cX1_add 51 = .ok (.return_, 1) := by decide +kernel
theorem dX1_firstCommonYear_0 : decode cX1_firstCommonYear 0 = .ok (.sipush 1000, 3) := by decide +kernel
theorem dX1_firstCommonYear_3 : decode cX1_firstCommonYear 3 = .ok (.istore_n 1, 1) := by decide +kernel
theorem dX1_firstCommonYear_4 : decode cX1_firstCommonYear 4 = .ok (.iconst 0, 1) := by decide +kernel
theorem dX1_firstCommonYear_5 : decode cX1_firstCommonYear 5 = .ok (.istore_n 2, 1) := by decide +kernel
theorem dX1_firstCommonYear_6 : decode cX1_firstCommonYear 6 = .ok (.iload_n 2, 1) := by decide +kernel
theorem dX1_firstCommonYear_7 : decode cX1_firstCommonYear 7 = .ok (.aload_n 0, 1) := by decide +kernel
theorem dX1_firstCommonYear_8 : decode cX1_firstCommonYear 8 = .ok (.getfield 24, 3) := by decide +kernel
theorem dX1_firstCommonYear_11 : decode cX1_firstCommonYear 11 = .ok (.if_icmp .ge 20, 3) := by decide +kernel
theorem dX1_firstCommonYear_14 : decode cX1_firstCommonYear 14 = .ok (.iload_n 1, 1) := by decide +kernel
theorem dX1_firstCommonYear_15 : decode cX1_firstCommonYear 15 = .ok (.aload_n 0, 1) := by decide +kernel
theorem dX1_firstCommonYear_16 : decode cX1_firstCommonYear 16 = .ok (.getfield 15, 3) := by decide +kernel
theorem dX1_firstCommonYear_19 : decode cX1_firstCommonYear 19 = .ok (.iload_n 2, 1) := by decide +kernel
theorem dX1_firstCommonYear_20 : decode cX1_firstCommonYear 20 = .ok (.iaload, 1) := by decide +kernel
theorem dX1_firstCommonYear_21 : decode cX1_firstCommonYear 21 = .ok (.invokestatic 28, 3) := by decide +kernel
theorem dX1_firstCommonYear_24 : decode cX1_firstCommonYear 24 = .ok (.istore_n 1, 1) := by decide +kernel
theorem dX1_firstCommonYear_25 : decode cX1_firstCommonYear 25 = .ok (.iinc 2 1, 3) := by decide +kernel
theorem dX1_firstCommonYear_28 : decode cX1_firstCommonYear 28 = .ok (.goto (-22), 3) := by decide +kernel
theorem dX1_firstCommonYear_31 : decode cX1_firstCommonYear 31 = .ok (.iload_n 1, 1) := by decide +kernel
theorem dX1_firstCommonYear_32 : decode cX1_firstCommonYear 32 = .ok (.ireturn, 1) := by decide +kernel
theorem dX1_lastCommonYear_0 : decode cX1_lastCommonYear 0 = .ok (.sipush 2100, 3) := by decide +kernel
theorem dX1_lastCommonYear_3 : decode cX1_lastCommonYear 3 = .ok (.istore_n 1, 1) := by decide +kernel
theorem dX1_lastCommonYear_4 : decode cX1_lastCommonYear 4 = .ok (.iconst 0, 1) := by decide +kernel
theorem dX1_lastCommonYear_5 : decode cX1_lastCommonYear 5 = .ok (.istore_n 2, 1) := by decide +kernel
theorem dX1_lastCommonYear_6 : decode cX1_lastCommonYear 6 = .ok (.iload_n 2, 1) := by decide +kernel
theorem dX1_lastCommonYear_7 : decode cX1_lastCommonYear 7 = .ok (.aload_n 0, 1) := by decide +kernel
theorem dX1_lastCommonYear_8 : decode cX1_lastCommonYear 8 = .ok (.getfield 24, 3) := by decide +kernel
theorem dX1_lastCommonYear_11 : decode cX1_lastCommonYear 11 = .ok (.if_icmp .ge 20, 3) := by decide +kernel
theorem dX1_lastCommonYear_14 : decode cX1_lastCommonYear 14 = .ok (.iload_n 1, 1) := by decide +kernel
theorem dX1_lastCommonYear_15 : decode cX1_lastCommonYear 15 = .ok (.aload_n 0, 1) := by decide +kernel
theorem dX1_lastCommonYear_16 : decode cX1_lastCommonYear 16 = .ok (.getfield 18, 3) := by decide +kernel
theorem dX1_lastCommonYear_19 : decode cX1_lastCommonYear 19 = .ok (.iload_n 2, 1) := by decide +kernel
theorem dX1_lastCommonYear_20 : decode cX1_lastCommonYear 20 = .ok (.iaload, 1) := by decide +kernel
theorem dX1_lastCommonYear_21 : decode cX1_lastCommonYear 21 = .ok (.invokestatic 34, 3) := by decide +kernel
theorem dX1_lastCommonYear_24 : decode cX1_lastCommonYear 24 = .ok (.istore_n 1, 1) := by decide +kernel
theorem dX1_lastCommonYear_25 : decode cX1_lastCommonYear 25 = .ok (.iinc 2 1, 3) := by decide +kernel
theorem dX1_lastCommonYear_28 : decode cX1_lastCommonYear 28 = .ok (.goto (-22), 3) := by decide +kernel
theorem dX1_lastCommonYear_31 : decode cX1_lastCommonYear 31 = .ok (.iload_n 1, 1) := by decide +kernel
theorem dX1_lastCommonYear_32 : decode cX1_lastCommonYear 32 = .ok (.ireturn, 1) := by decide +kernel
theorem dX1_opponentAfter_0 : decode cX1_opponentAfter 0 = .ok (.iload_n 1, 1) := by decide +kernel
theorem dX1_opponentAfter_1 : decode cX1_opponentAfter 1 = .ok (.iconst 1, 1) := by decide +kernel
theorem dX1_opponentAfter_2 : decode cX1_opponentAfter 2 = .ok (.iadd, 1) := by decide +kernel
theorem dX1_opponentAfter_3 : decode cX1_opponentAfter 3 = .ok (.istore_n 2, 1) := by decide +kernel
theorem dX1_opponentAfter_4 : decode cX1_opponentAfter 4 = .ok (.iload_n 2, 1) := by decide +kernel
theorem dX1_opponentAfter_5 : decode cX1_opponentAfter 5 = .ok (.aload_n 0, 1) := by decide +kernel
theorem dX1_opponentAfter_6 : decode cX1_opponentAfter 6 = .ok (.getfield 24, 3) := by decide +kernel
theorem dX1_opponentAfter_9 : decode cX1_opponentAfter 9 = .ok (.if_icmp .ge 41, 3) := by decide +kernel
theorem dX1_opponentAfter_12 : decode cX1_opponentAfter 12 = .ok (.aload_n 0, 1) := by decide +kernel
theorem dX1_opponentAfter_13 : decode cX1_opponentAfter 13 = .ok (.getfield 15, 3) := by decide +kernel
theorem dX1_opponentAfter_16 : decode cX1_opponentAfter 16 = .ok (.iload_n 2, 1) := by decide +kernel
theorem dX1_opponentAfter_17 : decode cX1_opponentAfter 17 = .ok (.iaload, 1) := by decide +kernel
theorem dX1_opponentAfter_18 : decode cX1_opponentAfter 18 = .ok (.aload_n 0, 1) := by decide +kernel
theorem dX1_opponentAfter_19 : decode cX1_opponentAfter 19 = .ok (.getfield 18, 3) := by decide +kernel
theorem dX1_opponentAfter_22 : decode cX1_opponentAfter 22 = .ok (.iload_n 1, 1) := by decide +kernel
theorem dX1_opponentAfter_23 : decode cX1_opponentAfter 23 = .ok (.iaload, 1) := by decide +kernel
theorem dX1_opponentAfter_24 : decode cX1_opponentAfter 24 = .ok (.if_icmp .gt 18, 3) := by decide +kernel
theorem dX1_opponentAfter_27 : decode cX1_opponentAfter 27 = .ok (.aload_n 0, 1) := by decide +kernel
theorem dX1_opponentAfter_28 : decode cX1_opponentAfter 28 = .ok (.getfield 15, 3) := by decide +kernel
theorem dX1_opponentAfter_31 : decode cX1_opponentAfter 31 = .ok (.iload_n 1, 1) := by decide +kernel
theorem dX1_opponentAfter_32 : decode cX1_opponentAfter 32 = .ok (.iaload, 1) := by decide +kernel
theorem dX1_opponentAfter_33 : decode cX1_opponentAfter 33 = .ok (.aload_n 0, 1) := by decide +kernel
theorem dX1_opponentAfter_34 : decode cX1_opponentAfter 34 = .ok (.getfield 18, 3) := by decide +kernel
theorem dX1_opponentAfter_37 : decode cX1_opponentAfter 37 = .ok (.iload_n 2, 1) := by decide +kernel
theorem dX1_opponentAfter_38 : decode cX1_opponentAfter 38 = .ok (.iaload, 1) := by decide +kernel
theorem dX1_opponentAfter_39 : decode cX1_opponentAfter 39 = .ok (.if_icmp .le 5, 3) := by decide +kernel
theorem dX1_opponentAfter_42 : decode cX1_opponentAfter 42 = .ok (.iload_n 2, 1) := by decide +kernel
theorem dX1_opponentAfter_43 : decode cX1_opponentAfter 43 = .ok (.ireturn, 1) := by decide +kernel
theorem dX1_opponentAfter_44 : decode cX1_opponentAfter 44 = .ok (.iinc 2 1, 3) := by decide +kernel
theorem dX1_opponentAfter_47 : decode cX1_opponentAfter 47 = .ok (.goto (-43), 3) := by decide +kernel
theorem dX1_opponentAfter_50 : decode cX1_opponentAfter 50 = .ok (.bipush (-9), 2) := by decide +kernel
theorem dX1_opponentAfter_52 : decode cX1_opponentAfter 52 = .ok (.ireturn, 1) := by decide +kernel
set_option maxRecDepth 20000 in
theorem ggX1_heaviestYear_X1_weightOn : GoodIn wsX1_heaviestYear wsX1_weightOn := goodIn_r _ [7, 1, 8, 9, 10, 11, 6, 12, 2, 13, 14, 15, 16, 17, 18] (by decide +kernel) (by decide +kernel)
set_option maxRecDepth 20000 in
theorem gX1_heaviestYear_X1_weightOn : GoodIn wsX1_heaviestYear (wsV RX1 37 RX1 yX1_weightOn wsX1_weightOn) := goodIn_app (goodIn_of _ (by decide +kernel)) ggX1_heaviestYear_X1_weightOn
theorem dX1_heaviestYear_0 : decode cX1_heaviestYear 0 = .ok (.sipush 1000, 3) := by decide +kernel
theorem dX1_heaviestYear_3 : decode cX1_heaviestYear 3 = .ok (.istore_n 1, 1) := by decide +kernel
theorem dX1_heaviestYear_4 : decode cX1_heaviestYear 4 = .ok (.aload_n 0, 1) := by decide +kernel
theorem dX1_heaviestYear_5 : decode cX1_heaviestYear 5 = .ok (.sipush 1000, 3) := by decide +kernel
theorem dX1_heaviestYear_8 : decode cX1_heaviestYear 8 = .ok (.invokevirtual 37, 3) := by decide +kernel
theorem dX1_heaviestYear_11 : decode cX1_heaviestYear 11 = .ok (.istore_n 2, 1) := by decide +kernel
theorem dX1_heaviestYear_12 : decode cX1_heaviestYear 12 = .ok (.iconst 0, 1) := by decide +kernel
theorem dX1_heaviestYear_13 : decode cX1_heaviestYear 13 = .ok (.istore_n 3, 1) := by decide +kernel
theorem dX1_heaviestYear_14 : decode cX1_heaviestYear 14 = .ok (.iload_n 3, 1) := by decide +kernel
theorem dX1_heaviestYear_15 : decode cX1_heaviestYear 15 = .ok (.aload_n 0, 1) := by decide +kernel
theorem dX1_heaviestYear_16 : decode cX1_heaviestYear 16 = .ok (.getfield 24, 3) := by decide +kernel
theorem dX1_heaviestYear_19 : decode cX1_heaviestYear 19 = .ok (.if_icmp .ge 53, 3) := by decide +kernel
theorem dX1_heaviestYear_22 : decode cX1_heaviestYear 22 = .ok (.aload_n 0, 1) := by decide +kernel
theorem dX1_heaviestYear_23 : decode cX1_heaviestYear 23 = .ok (.aload_n 0, 1) := by decide +kernel
theorem dX1_heaviestYear_24 : decode cX1_heaviestYear 24 = .ok (.getfield 15, 3) := by decide +kernel
theorem dX1_heaviestYear_27 : decode cX1_heaviestYear 27 = .ok (.iload_n 3, 1) := by decide +kernel
theorem dX1_heaviestYear_28 : decode cX1_heaviestYear 28 = .ok (.iaload, 1) := by decide +kernel
theorem dX1_heaviestYear_29 : decode cX1_heaviestYear 29 = .ok (.invokevirtual 37, 3) := by decide +kernel
theorem dX1_heaviestYear_32 : decode cX1_heaviestYear 32 = .ok (.istore 4, 2) := by decide +kernel
theorem dX1_heaviestYear_34 : decode cX1_heaviestYear 34 = .ok (.iload 4, 2) := by decide +kernel
theorem dX1_heaviestYear_36 : decode cX1_heaviestYear 36 = .ok (.iload_n 2, 1) := by decide +kernel
theorem dX1_heaviestYear_37 : decode cX1_heaviestYear 37 = .ok (.if_icmp .gt 19, 3) := by decide +kernel
theorem dX1_heaviestYear_40 : decode cX1_heaviestYear 40 = .ok (.iload 4, 2) := by decide +kernel
theorem dX1_heaviestYear_42 : decode cX1_heaviestYear 42 = .ok (.iload_n 2, 1) := by decide +kernel
theorem dX1_heaviestYear_43 : decode cX1_heaviestYear 43 = .ok (.if_icmp .ne 23, 3) := by decide +kernel
theorem dX1_heaviestYear_46 : decode cX1_heaviestYear 46 = .ok (.aload_n 0, 1) := by decide +kernel
theorem dX1_heaviestYear_47 : decode cX1_heaviestYear 47 = .ok (.getfield 15, 3) := by decide +kernel
theorem dX1_heaviestYear_50 : decode cX1_heaviestYear 50 = .ok (.iload_n 3, 1) := by decide +kernel
theorem dX1_heaviestYear_51 : decode cX1_heaviestYear 51 = .ok (.iaload, 1) := by decide +kernel
theorem dX1_heaviestYear_52 : decode cX1_heaviestYear 52 = .ok (.iload_n 1, 1) := by decide +kernel
theorem dX1_heaviestYear_53 : decode cX1_heaviestYear 53 = .ok (.if_icmp .ge 13, 3) := by decide +kernel
theorem dX1_heaviestYear_56 : decode cX1_heaviestYear 56 = .ok (.aload_n 0, 1) := by decide +kernel
theorem dX1_heaviestYear_57 : decode cX1_heaviestYear 57 = .ok (.getfield 15, 3) := by decide +kernel
theorem dX1_heaviestYear_60 : decode cX1_heaviestYear 60 = .ok (.iload_n 3, 1) := by decide +kernel
theorem dX1_heaviestYear_61 : decode cX1_heaviestYear 61 = .ok (.iaload, 1) := by decide +kernel
theorem dX1_heaviestYear_62 : decode cX1_heaviestYear 62 = .ok (.istore_n 1, 1) := by decide +kernel
theorem dX1_heaviestYear_63 : decode cX1_heaviestYear 63 = .ok (.iload 4, 2) := by decide +kernel
theorem dX1_heaviestYear_65 : decode cX1_heaviestYear 65 = .ok (.istore_n 2, 1) := by decide +kernel
theorem dX1_heaviestYear_66 : decode cX1_heaviestYear 66 = .ok (.iinc 3 1, 3) := by decide +kernel
theorem dX1_heaviestYear_69 : decode cX1_heaviestYear 69 = .ok (.goto (-55), 3) := by decide +kernel
theorem dX1_heaviestYear_72 : decode cX1_heaviestYear 72 = .ok (.iload_n 1, 1) := by decide +kernel
theorem dX1_heaviestYear_73 : decode cX1_heaviestYear 73 = .ok (.ireturn, 1) := by decide +kernel
theorem dX1_holds_0 : decode cX1_holds 0 = .ok (.aload_n 0, 1) := by decide +kernel
theorem dX1_holds_1 : decode cX1_holds 1 = .ok (.getfield 15, 3) := by decide +kernel
theorem dX1_holds_4 : decode cX1_holds 4 = .ok (.iload_n 1, 1) := by decide +kernel
theorem dX1_holds_5 : decode cX1_holds 5 = .ok (.iaload, 1) := by decide +kernel
theorem dX1_holds_6 : decode cX1_holds 6 = .ok (.iload_n 2, 1) := by decide +kernel
theorem dX1_holds_7 : decode cX1_holds 7 = .ok (.if_icmp .gt 17, 3) := by decide +kernel
theorem dX1_holds_10 : decode cX1_holds 10 = .ok (.iload_n 2, 1) := by decide +kernel
theorem dX1_holds_11 : decode cX1_holds 11 = .ok (.aload_n 0, 1) := by decide +kernel
theorem dX1_holds_12 : decode cX1_holds 12 = .ok (.getfield 18, 3) := by decide +kernel
theorem dX1_holds_15 : decode cX1_holds 15 = .ok (.iload_n 1, 1) := by decide +kernel
theorem dX1_holds_16 : decode cX1_holds 16 = .ok (.iaload, 1) := by decide +kernel
theorem dX1_holds_17 : decode cX1_holds 17 = .ok (.if_icmp .gt 7, 3) := by decide +kernel
theorem dX1_holds_20 : decode cX1_holds 20 = .ok (.iconst 1, 1) := by decide +kernel
theorem dX1_holds_21 : decode cX1_holds 21 = .ok (.goto 4, 3) := by decide +kernel
theorem dX1_holds_24 : decode cX1_holds 24 = .ok (.iconst 0, 1) := by decide +kernel
theorem dX1_holds_25 : decode cX1_holds 25 = .ok (.ireturn, 1) := by decide +kernel
set_option maxRecDepth 20000 in
theorem ggX1_weightOn_X1_holds : GoodIn wsX1_weightOn wsX1_holds := goodIn_r _ [7, 8, 9, 10, 11, 12, 13, 14] (by decide +kernel) (by decide +kernel)
set_option maxRecDepth 20000 in
theorem gX1_weightOn_X1_holds : GoodIn wsX1_weightOn (wsV RX1 41 RX1 yX1_holds wsX1_holds) := goodIn_app (goodIn_of _ (by decide +kernel)) ggX1_weightOn_X1_holds
theorem dX1_weightOn_0 : decode cX1_weightOn 0 = .ok (.iconst 0, 1) := by decide +kernel
theorem dX1_weightOn_1 : decode cX1_weightOn 1 = .ok (.istore_n 2, 1) := by decide +kernel
theorem dX1_weightOn_2 : decode cX1_weightOn 2 = .ok (.iconst 0, 1) := by decide +kernel
theorem dX1_weightOn_3 : decode cX1_weightOn 3 = .ok (.istore_n 3, 1) := by decide +kernel
theorem dX1_weightOn_4 : decode cX1_weightOn 4 = .ok (.iload_n 3, 1) := by decide +kernel
theorem dX1_weightOn_5 : decode cX1_weightOn 5 = .ok (.aload_n 0, 1) := by decide +kernel
theorem dX1_weightOn_6 : decode cX1_weightOn 6 = .ok (.getfield 24, 3) := by decide +kernel
theorem dX1_weightOn_9 : decode cX1_weightOn 9 = .ok (.if_icmp .ge 27, 3) := by decide +kernel
theorem dX1_weightOn_12 : decode cX1_weightOn 12 = .ok (.aload_n 0, 1) := by decide +kernel
theorem dX1_weightOn_13 : decode cX1_weightOn 13 = .ok (.iload_n 3, 1) := by decide +kernel
theorem dX1_weightOn_14 : decode cX1_weightOn 14 = .ok (.iload_n 1, 1) := by decide +kernel
theorem dX1_weightOn_15 : decode cX1_weightOn 15 = .ok (.invokevirtual 41, 3) := by decide +kernel
theorem dX1_weightOn_18 : decode cX1_weightOn 18 = .ok (.ifCond .eq 12, 3) := by decide +kernel
theorem dX1_weightOn_21 : decode cX1_weightOn 21 = .ok (.iload_n 2, 1) := by decide +kernel
theorem dX1_weightOn_22 : decode cX1_weightOn 22 = .ok (.aload_n 0, 1) := by decide +kernel
theorem dX1_weightOn_23 : decode cX1_weightOn 23 = .ok (.getfield 21, 3) := by decide +kernel
theorem dX1_weightOn_26 : decode cX1_weightOn 26 = .ok (.iload_n 3, 1) := by decide +kernel
theorem dX1_weightOn_27 : decode cX1_weightOn 27 = .ok (.iaload, 1) := by decide +kernel
theorem dX1_weightOn_28 : decode cX1_weightOn 28 = .ok (.iadd, 1) := by decide +kernel
theorem dX1_weightOn_29 : decode cX1_weightOn 29 = .ok (.istore_n 2, 1) := by decide +kernel
theorem dX1_weightOn_30 : decode cX1_weightOn 30 = .ok (.iinc 3 1, 3) := by decide +kernel
theorem dX1_weightOn_33 : decode cX1_weightOn 33 = .ok (.goto (-29), 3) := by decide +kernel
theorem dX1_weightOn_36 : decode cX1_weightOn 36 = .ok (.iload_n 2, 1) := by decide +kernel
theorem dX1_weightOn_37 : decode cX1_weightOn 37 = .ok (.ireturn, 1) := by decide +kernel
theorem dX1_weightOfAll_0 : decode cX1_weightOfAll 0 = .ok (.iconst 0, 1) := by decide +kernel
theorem dX1_weightOfAll_1 : decode cX1_weightOfAll 1 = .ok (.istore_n 1, 1) := by decide +kernel
theorem dX1_weightOfAll_2 : decode cX1_weightOfAll 2 = .ok (.iconst 0, 1) := by decide +kernel
theorem dX1_weightOfAll_3 : decode cX1_weightOfAll 3 = .ok (.istore_n 2, 1) := by decide +kernel
theorem dX1_weightOfAll_4 : decode cX1_weightOfAll 4 = .ok (.iload_n 2, 1) := by decide +kernel
theorem dX1_weightOfAll_5 : decode cX1_weightOfAll 5 = .ok (.aload_n 0, 1) := by decide +kernel
theorem dX1_weightOfAll_6 : decode cX1_weightOfAll 6 = .ok (.getfield 24, 3) := by decide +kernel
theorem dX1_weightOfAll_9 : decode cX1_weightOfAll 9 = .ok (.if_icmp .ge 18, 3) := by decide +kernel
theorem dX1_weightOfAll_12 : decode cX1_weightOfAll 12 = .ok (.iload_n 1, 1) := by decide +kernel
theorem dX1_weightOfAll_13 : decode cX1_weightOfAll 13 = .ok (.aload_n 0, 1) := by decide +kernel
theorem dX1_weightOfAll_14 : decode cX1_weightOfAll 14 = .ok (.getfield 21, 3) := by decide +kernel
theorem dX1_weightOfAll_17 : decode cX1_weightOfAll 17 = .ok (.iload_n 2, 1) := by decide +kernel
theorem dX1_weightOfAll_18 : decode cX1_weightOfAll 18 = .ok (.iaload, 1) := by decide +kernel
theorem dX1_weightOfAll_19 : decode cX1_weightOfAll 19 = .ok (.iadd, 1) := by decide +kernel
theorem dX1_weightOfAll_20 : decode cX1_weightOfAll 20 = .ok (.istore_n 1, 1) := by decide +kernel
theorem dX1_weightOfAll_21 : decode cX1_weightOfAll 21 = .ok (.iinc 2 1, 3) := by decide +kernel
theorem dX1_weightOfAll_24 : decode cX1_weightOfAll 24 = .ok (.goto (-20), 3) := by decide +kernel
theorem dX1_weightOfAll_27 : decode cX1_weightOfAll 27 = .ok (.iload_n 1, 1) := by decide +kernel
theorem dX1_weightOfAll_28 : decode cX1_weightOfAll 28 = .ok (.ireturn, 1) := by decide +kernel
set_option maxRecDepth 20000 in
theorem ggX1_setWithout_X1_holds : GoodIn wsX1_setWithout wsX1_holds := goodIn_r _ [7, 8, 9, 10, 11, 12, 13, 14] (by decide +kernel) (by decide +kernel)
set_option maxRecDepth 20000 in
theorem gX1_setWithout_X1_holds : GoodIn wsX1_setWithout (wsV RX1 41 RX1 yX1_holds wsX1_holds) := goodIn_app (goodIn_of _ (by decide +kernel)) ggX1_setWithout_X1_holds
theorem dX1_setWithout_0 : decode cX1_setWithout 0 = .ok (.iconst 0, 1) := by decide +kernel
theorem dX1_setWithout_1 : decode cX1_setWithout 1 = .ok (.istore_n 2, 1) := by decide +kernel
theorem dX1_setWithout_2 : decode cX1_setWithout 2 = .ok (.iconst 0, 1) := by decide +kernel
theorem dX1_setWithout_3 : decode cX1_setWithout 3 = .ok (.istore_n 3, 1) := by decide +kernel
theorem dX1_setWithout_4 : decode cX1_setWithout 4 = .ok (.iload_n 3, 1) := by decide +kernel
theorem dX1_setWithout_5 : decode cX1_setWithout 5 = .ok (.aload_n 0, 1) := by decide +kernel
theorem dX1_setWithout_6 : decode cX1_setWithout 6 = .ok (.getfield 24, 3) := by decide +kernel
theorem dX1_setWithout_9 : decode cX1_setWithout 9 = .ok (.if_icmp .ge 29, 3) := by decide +kernel
theorem dX1_setWithout_12 : decode cX1_setWithout 12 = .ok (.aload_n 0, 1) := by decide +kernel
theorem dX1_setWithout_13 : decode cX1_setWithout 13 = .ok (.iload_n 3, 1) := by decide +kernel
theorem dX1_setWithout_14 : decode cX1_setWithout 14 = .ok (.iload_n 1, 1) := by decide +kernel
theorem dX1_setWithout_15 : decode cX1_setWithout 15 = .ok (.invokevirtual 41, 3) := by decide +kernel
theorem dX1_setWithout_18 : decode cX1_setWithout 18 = .ok (.ifCond .ne 14, 3) := by decide +kernel
theorem dX1_setWithout_21 : decode cX1_setWithout 21 = .ok (.iload_n 2, 1) := by decide +kernel
theorem dX1_setWithout_22 : decode cX1_setWithout 22 = .ok (.iconst 1, 1) := by decide +kernel
theorem dX1_setWithout_23 : decode cX1_setWithout 23 = .ok (.aload_n 0, 1) := by decide +kernel
theorem dX1_setWithout_24 : decode cX1_setWithout 24 = .ok (.getfield 9, 3) := by decide +kernel
theorem dX1_setWithout_27 : decode cX1_setWithout 27 = .ok (.iload_n 3, 1) := by decide +kernel
theorem dX1_setWithout_28 : decode cX1_setWithout 28 = .ok (.iaload, 1) := by decide +kernel
theorem dX1_setWithout_29 : decode cX1_setWithout 29 = .ok (.ishl, 1) := by decide +kernel
theorem dX1_setWithout_30 : decode cX1_setWithout 30 = .ok (.ior, 1) := by decide +kernel
theorem dX1_setWithout_31 : decode cX1_setWithout 31 = .ok (.istore_n 2, 1) := by decide +kernel
theorem dX1_setWithout_32 : decode cX1_setWithout 32 = .ok (.iinc 3 1, 3) := by decide +kernel
theorem dX1_setWithout_35 : decode cX1_setWithout 35 = .ok (.goto (-31), 3) := by decide +kernel
theorem dX1_setWithout_38 : decode cX1_setWithout 38 = .ok (.iload_n 2, 1) := by decide +kernel
theorem dX1_setWithout_39 : decode cX1_setWithout 39 = .ok (.ireturn, 1) := by decide +kernel
