theorem dX3_init_0 : decode cX3_init 0 = .ok (.aload_n 0, 1) := by decide +kernel
theorem dX3_init_1 : decode cX3_init 1 = .ok (.invokespecial 3, 3) := by decide +kernel
theorem dX3_init_4 : decode cX3_init 4 = .ok (.aload_n 0, 1) := by decide +kernel
theorem dX3_init_5 : decode cX3_init 5 = .ok (.bipush 30, 2) := by decide +kernel
theorem dX3_init_7 : decode cX3_init 7 = .ok (.newarray .int, 2) := by decide +kernel
theorem dX3_init_9 : decode cX3_init 9 = .ok (.putfield 9, 3) := by decide +kernel
theorem dX3_init_12 : decode cX3_init 12 = .ok (.aload_n 0, 1) := by decide +kernel
theorem dX3_init_13 : decode cX3_init 13 = .ok (.bipush 30, 2) := by decide +kernel
theorem dX3_init_15 : decode cX3_init 15 = .ok (.newarray .int, 2) := by decide +kernel
theorem dX3_init_17 : decode cX3_init 17 = .ok (.putfield 15, 3) := by decide +kernel
theorem dX3_init_20 : decode cX3_init 20 = .ok (.aload_n 0, 1) := by decide +kernel
theorem dX3_init_21 : decode cX3_init 21 = .ok (.bipush 30, 2) := by decide +kernel
theorem dX3_init_23 : decode cX3_init 23 = .ok (.newarray .int, 2) := by decide +kernel
theorem dX3_init_25 : decode cX3_init 25 = .ok (.putfield 18, 3) := by decide +kernel
theorem dX3_init_28 : decode cX3_init 28 = .ok (.aload_n 0, 1) := by decide +kernel
theorem dX3_init_29 : decode cX3_init 29 = .ok (.bipush 30, 2) := by decide +kernel
theorem dX3_init_31 : decode cX3_init 31 = .ok (.newarray .boolean, 2) := by decide +kernel
theorem dX3_init_33 : decode cX3_init 33 = .ok (.putfield 21, 3) := by decide +kernel
theorem dX3_init_36 : decode cX3_init 36 = .ok (.aload_n 0, 1) := by decide +kernel
theorem dX3_init_37 : decode cX3_init 37 = .ok (.iconst 0, 1) := by decide +kernel
theorem dX3_init_38 : decode cX3_init 38 = .ok (.putfield 25, 3) := by decide +kernel
theorem dX3_init_41 : decode cX3_init 41 = .ok (.aload_n 0, 1) := by decide +kernel
theorem dX3_init_42 : decode cX3_init 42 = .ok (.bipush (-9), 2) := by decide +kernel
theorem dX3_init_44 : decode cX3_init 44 = .ok (.putfield 29, 3) := by decide +kernel
theorem dX3_init_47 : decode cX3_init 47 = .ok (.aload_n 0, 1) := by decide +kernel
theorem dX3_init_48 : decode cX3_init 48 = .ok (.bipush (-9), 2) := by decide +kernel
theorem dX3_init_50 : decode cX3_init 50 = .ok (.putfield 32, 3) := by decide +kernel
theorem dX3_init_53 : decode cX3_init 53 = .ok (.return_, 1) := by decide +kernel
theorem dX3_isFull_0 : decode cX3_isFull 0 = .ok (.aload_n 0, 1) := by decide +kernel
theorem dX3_isFull_1 : decode cX3_isFull 1 = .ok (.getfield 25, 3) := by decide +kernel
theorem dX3_isFull_4 : decode cX3_isFull 4 = .ok (.bipush 30, 2) := by decide +kernel
theorem dX3_isFull_6 : decode cX3_isFull 6 = .ok (.if_icmp .lt 7, 3) := by decide +kernel
theorem dX3_isFull_9 : decode cX3_isFull 9 = .ok (.iconst 1, 1) := by decide +kernel
theorem dX3_isFull_10 : decode cX3_isFull 10 = .ok (.goto 4, 3) := by decide +kernel
theorem dX3_isFull_13 : decode cX3_isFull 13 = .ok (.iconst 0, 1) := by decide +kernel
theorem dX3_isFull_14 : decode cX3_isFull 14 = .ok (.ireturn, 1) := by decide +kernel
theorem dX3_add_0 : decode cX3_add 0 = .ok (.aload_n 0, 1) := by decide +kernel
theorem dX3_add_1 : decode cX3_add 1 = .ok (.getfield 9, 3) := by decide +kernel
theorem dX3_add_4 : decode cX3_add 4 = .ok (.aload_n 0, 1) := by decide +kernel
theorem dX3_add_5 : decode cX3_add 5 = .ok (.getfield 25, 3) := by decide +kernel
theorem dX3_add_8 : decode cX3_add 8 = .ok (.iload_n 1, 1) := by decide +kernel
theorem dX3_add_9 : decode cX3_add 9 = .ok (.iastore, 1) := by decide +kernel
theorem dX3_add_10 : decode cX3_add 10 = .ok (.aload_n 0, 1) := by decide +kernel
theorem dX3_add_11 : decode cX3_add 11 = .ok (.getfield 15, 3) := by decide +kernel
theorem dX3_add_14 : decode cX3_add 14 = .ok (.aload_n 0, 1) := by decide +kernel
theorem dX3_add_15 : decode cX3_add 15 = .ok (.getfield 25, 3) := by decide +kernel
theorem dX3_add_18 : decode cX3_add 18 = .ok (.iload_n 2, 1) := by decide +kernel
theorem dX3_add_19 : decode cX3_add 19 = .ok (.iastore, 1) := by decide +kernel
theorem dX3_add_20 : decode cX3_add 20 = .ok (.aload_n 0, 1) := by decide +kernel
theorem dX3_add_21 : decode cX3_add 21 = .ok (.getfield 18, 3) := by decide +kernel
theorem dX3_add_24 : decode cX3_add 24 = .ok (.aload_n 0, 1) := by decide +kernel
theorem dX3_add_25 : decode cX3_add 25 = .ok (.getfield 25, 3) := by decide +kernel
theorem dX3_add_28 : decode cX3_add 28 = .ok (.iload_n 3, 1) := by decide +kernel
theorem dX3_add_29 : decode cX3_add 29 = .ok (.iastore, 1) := by decide +kernel
theorem dX3_add_30 : decode cX3_add 30 = .ok (.aload_n 0, 1) := by decide +kernel
theorem dX3_add_31 : decode cX3_add 31 = .ok (.getfield 21, 3) := by decide +kernel
theorem dX3_add_34 : decode cX3_add 34 = .ok (.aload_n 0, 1) := by decide +kernel
theorem dX3_add_35 : decode cX3_add 35 = .ok (.getfield 25, 3) := by decide +kernel
theorem dX3_add_38 : decode cX3_add 38 = .ok (.iload 4, 2) := by decide +kernel
theorem dX3_add_40 : decode cX3_add 40 = .ok (.bastore, 1) := by decide +kernel
theorem dX3_add_41 : decode cX3_add 41 = .ok (.aload_n 0, 1) := by decide +kernel
theorem dX3_add_42 : decode cX3_add 42 = .ok (.dup, 1) := by decide +kernel
theorem dX3_add_43 : decode cX3_add 43 = .ok (.getfield 25, 3) := by decide +kernel
theorem dX3_add_46 : decode cX3_add 46 = .ok (.iconst 1, 1) := by decide +kernel
theorem dX3_add_47 : decode cX3_add 47 = .ok (.iadd, 1) := by decide +kernel
theorem dX3_add_48 : decode cX3_add 48 = .ok (.putfield 25, 3) := by decide +kernel
theorem dX3_add_51 : decode cX3_add 51 = .ok (.aload_n 0, 1) := by decide +kernel
theorem dX3_add_52 : decode cX3_add 52 = .ok (.getfield 25, 3) := by decide +kernel
theorem dX3_add_55 : decode cX3_add 55 = .ok (.ireturn, 1) := by decide +kernel
theorem dX3_howMany_0 : decode cX3_howMany 0 = .ok (.iconst 0, 1) := by decide +kernel
theorem dX3_howMany_1 : decode cX3_howMany 1 = .ok (.istore_n 3, 1) := by decide +kernel
theorem dX3_howMany_2 : decode cX3_howMany 2 = .ok (.iconst 0, 1) := by decide +kernel
theorem dX3_howMany_3 : decode cX3_howMany 3 = .ok (.istore 4, 2) := by decide +kernel
theorem dX3_howMany_5 : decode cX3_howMany 5 = .ok (.iload 4, 2) := by decide +kernel
theorem dX3_howMany_7 : decode cX3_howMany 7 = .ok (.aload_n 0, 1) := by decide +kernel
theorem dX3_howMany_8 : decode cX3_howMany 8 = .ok (.getfield 25, 3) := by decide +kernel
theorem dX3_howMany_11 : decode cX3_howMany 11 = .ok (.if_icmp .ge 34, 3) := by decide +kernel
theorem dX3_howMany_14 : decode cX3_howMany 14 = .ok (.aload_n 0, 1) := by decide +kernel
theorem dX3_howMany_15 : decode cX3_howMany 15 = .ok (.getfield 15, 3) := by decide +kernel
theorem dX3_howMany_18 : decode cX3_howMany 18 = .ok (.iload 4, 2) := by decide +kernel
theorem dX3_howMany_20 : decode cX3_howMany 20 = .ok (.iaload, 1) := by decide +kernel
theorem dX3_howMany_21 : decode cX3_howMany 21 = .ok (.iload_n 1, 1) := by decide +kernel
theorem dX3_howMany_22 : decode cX3_howMany 22 = .ok (.if_icmp .ne 17, 3) := by decide +kernel
theorem dX3_howMany_25 : decode cX3_howMany 25 = .ok (.aload_n 0, 1) := by decide +kernel
theorem dX3_howMany_26 : decode cX3_howMany 26 = .ok (.getfield 21, 3) := by decide +kernel
theorem dX3_howMany_29 : decode cX3_howMany 29 = .ok (.iload 4, 2) := by decide +kernel
theorem dX3_howMany_31 : decode cX3_howMany 31 = .ok (.baload, 1) := by decide +kernel
theorem dX3_howMany_32 : decode cX3_howMany 32 = .ok (.iload_n 2, 1) := by decide +kernel
theorem dX3_howMany_33 : decode cX3_howMany 33 = .ok (.if_icmp .ne 6, 3) := by decide +kernel
theorem dX3_howMany_36 : decode cX3_howMany 36 = .ok (.iinc 3 1, 3) := by decide +kernel
theorem dX3_howMany_39 : decode cX3_howMany 39 = .ok (.iinc 4 1, 3) := by decide +kernel
theorem dX3_howMany_42 : decode cX3_howMany 42 = .ok (.goto (-37), 3) := by decide +kernel
theorem dX3_howMany_45 : decode cX3_howMany 45 = .ok (.iload_n 3, 1) := by decide +kernel
theorem dX3_howMany_46 : decode cX3_howMany 46 = .ok (.ireturn, 1) := by decide +kernel
theorem dX3_sumOf_0 : decode cX3_sumOf 0 = .ok (.iconst 0, 1) := by decide +kernel
theorem dX3_sumOf_1 : decode cX3_sumOf 1 = .ok (.istore_n 3, 1) := by decide +kernel
theorem dX3_sumOf_2 : decode cX3_sumOf 2 = .ok (.iconst 0, 1) := by decide +kernel
theorem dX3_sumOf_3 : decode cX3_sumOf 3 = .ok (.istore 4, 2) := by decide +kernel
theorem dX3_sumOf_5 : decode cX3_sumOf 5 = .ok (.iload 4, 2) := by decide +kernel
theorem dX3_sumOf_7 : decode cX3_sumOf 7 = .ok (.aload_n 0, 1) := by decide +kernel
theorem dX3_sumOf_8 : decode cX3_sumOf 8 = .ok (.getfield 25, 3) := by decide +kernel
theorem dX3_sumOf_11 : decode cX3_sumOf 11 = .ok (.if_icmp .ge 41, 3) := by decide +kernel
theorem dX3_sumOf_14 : decode cX3_sumOf 14 = .ok (.aload_n 0, 1) := by decide +kernel
theorem dX3_sumOf_15 : decode cX3_sumOf 15 = .ok (.getfield 15, 3) := by decide +kernel
theorem dX3_sumOf_18 : decode cX3_sumOf 18 = .ok (.iload 4, 2) := by decide +kernel
theorem dX3_sumOf_20 : decode cX3_sumOf 20 = .ok (.iaload, 1) := by decide +kernel
theorem dX3_sumOf_21 : decode cX3_sumOf 21 = .ok (.iload_n 1, 1) := by decide +kernel
theorem dX3_sumOf_22 : decode cX3_sumOf 22 = .ok (.if_icmp .ne 24, 3) := by decide +kernel
theorem dX3_sumOf_25 : decode cX3_sumOf 25 = .ok (.aload_n 0, 1) := by decide +kernel
theorem dX3_sumOf_26 : decode cX3_sumOf 26 = .ok (.getfield 21, 3) := by decide +kernel
theorem dX3_sumOf_29 : decode cX3_sumOf 29 = .ok (.iload 4, 2) := by decide +kernel
theorem dX3_sumOf_31 : decode cX3_sumOf 31 = .ok (.baload, 1) := by decide +kernel
theorem dX3_sumOf_32 : decode cX3_sumOf 32 = .ok (.iload_n 2, 1) := by decide +kernel
theorem dX3_sumOf_33 : decode cX3_sumOf 33 = .ok (.if_icmp .ne 13, 3) := by decide +kernel
theorem dX3_sumOf_36 : decode cX3_sumOf 36 = .ok (.iload_n 3, 1) := by decide +kernel
theorem dX3_sumOf_37 : decode cX3_sumOf 37 = .ok (.aload_n 0, 1) := by decide +kernel
theorem dX3_sumOf_38 : decode cX3_sumOf 38 = .ok (.getfield 18, 3) := by decide +kernel
theorem dX3_sumOf_41 : decode cX3_sumOf 41 = .ok (.iload 4, 2) := by decide +kernel
theorem dX3_sumOf_43 : decode cX3_sumOf 43 = .ok (.iaload, 1) := by decide +kernel
theorem dX3_sumOf_44 : decode cX3_sumOf 44 = .ok (.iadd, 1) := by decide +kernel
theorem dX3_sumOf_45 : decode cX3_sumOf 45 = .ok (.istore_n 3, 1) := by decide +kernel
theorem dX3_sumOf_46 : decode cX3_sumOf 46 = .ok (.iinc 4 1, 3) := by decide +kernel
theorem dX3_sumOf_49 : decode cX3_sumOf 49 = .ok (.goto (-44), 3) := by decide +kernel
theorem dX3_sumOf_52 : decode cX3_sumOf 52 = .ok (.iload_n 3, 1) := by decide +kernel
theorem dX3_sumOf_53 : decode cX3_sumOf 53 = .ok (.ireturn, 1) := by decide +kernel
set_option maxRecDepth 20000 in
theorem ggX3_findSpread_X3_areComparable : GoodIn wsX3_findSpread wsX3_areComparable := goodIn_r _ [14, 15, 4, 16, 21, 22, 23, 24, 25, 26, 27] (by decide +kernel) (by decide +kernel)
set_option maxRecDepth 20000 in
theorem gX3_findSpread_X3_areComparable : GoodIn wsX3_findSpread (wsV RX3 35 RX3 yX3_areComparable wsX3_areComparable) := goodIn_app (goodIn_of _ (by decide +kernel)) ggX3_findSpread_X3_areComparable
set_option maxRecDepth 20000 in
theorem ggX3_findSpread_X3_weighPair : GoodIn wsX3_findSpread wsX3_weighPair := goodIn_r _ [20, 1, 2, 21, 22, 23, 24, 25, 26, 27] (by decide +kernel) (by decide +kernel)
set_option maxRecDepth 20000 in
theorem gX3_findSpread_X3_weighPair : GoodIn wsX3_findSpread (wsV RX3 45 RX3 yX3_weighPair wsX3_weighPair) := goodIn_app (goodIn_of _ (by decide +kernel)) ggX3_findSpread_X3_weighPair
theorem dX3_findSpread_0 : decode cX3_findSpread 0 = .ok (.aload_n 0, 1) := by decide +kernel
theorem dX3_findSpread_1 : decode cX3_findSpread 1 = .ok (.bipush (-9), 2) := by decide +kernel
theorem dX3_findSpread_3 : decode cX3_findSpread 3 = .ok (.putfield 29, 3) := by decide +kernel
theorem dX3_findSpread_6 : decode cX3_findSpread 6 = .ok (.aload_n 0, 1) := by decide +kernel
theorem dX3_findSpread_7 : decode cX3_findSpread 7 = .ok (.bipush (-9), 2) := by decide +kernel
theorem dX3_findSpread_9 : decode cX3_findSpread 9 = .ok (.putfield 32, 3) := by decide +kernel
theorem dX3_findSpread_12 : decode cX3_findSpread 12 = .ok (.iconst 0, 1) := by decide +kernel
theorem dX3_findSpread_13 : decode cX3_findSpread 13 = .ok (.istore_n 1, 1) := by decide +kernel
theorem dX3_findSpread_14 : decode cX3_findSpread 14 = .ok (.iload_n 1, 1) := by decide +kernel
theorem dX3_findSpread_15 : decode cX3_findSpread 15 = .ok (.aload_n 0, 1) := by decide +kernel
theorem dX3_findSpread_16 : decode cX3_findSpread 16 = .ok (.getfield 25, 3) := by decide +kernel
theorem dX3_findSpread_19 : decode cX3_findSpread 19 = .ok (.if_icmp .ge 62, 3) := by decide +kernel
theorem dX3_findSpread_22 : decode cX3_findSpread 22 = .ok (.iload_n 1, 1) := by decide +kernel
theorem dX3_findSpread_23 : decode cX3_findSpread 23 = .ok (.iconst 1, 1) := by decide +kernel
theorem dX3_findSpread_24 : decode cX3_findSpread 24 = .ok (.iadd, 1) := by decide +kernel
theorem dX3_findSpread_25 : decode cX3_findSpread 25 = .ok (.istore_n 2, 1) := by decide +kernel
theorem dX3_findSpread_26 : decode cX3_findSpread 26 = .ok (.iload_n 2, 1) := by decide +kernel
theorem dX3_findSpread_27 : decode cX3_findSpread 27 = .ok (.aload_n 0, 1) := by decide +kernel
theorem dX3_findSpread_28 : decode cX3_findSpread 28 = .ok (.getfield 25, 3) := by decide +kernel
theorem dX3_findSpread_31 : decode cX3_findSpread 31 = .ok (.if_icmp .ge 44, 3) := by decide +kernel
theorem dX3_findSpread_34 : decode cX3_findSpread 34 = .ok (.aload_n 0, 1) := by decide +kernel
theorem dX3_findSpread_35 : decode cX3_findSpread 35 = .ok (.iload_n 1, 1) := by decide +kernel
theorem dX3_findSpread_36 : decode cX3_findSpread 36 = .ok (.iload_n 2, 1) := by decide +kernel
theorem dX3_findSpread_37 : decode cX3_findSpread 37 = .ok (.invokevirtual 35, 3) := by decide +kernel
theorem dX3_findSpread_40 : decode cX3_findSpread 40 = .ok (.ifCond .eq 29, 3) := by decide +kernel
theorem dX3_findSpread_43 : decode cX3_findSpread 43 = .ok (.aload_n 0, 1) := by decide +kernel
theorem dX3_findSpread_44 : decode cX3_findSpread 44 = .ok (.aload_n 0, 1) := by decide +kernel
theorem dX3_findSpread_45 : decode cX3_findSpread 45 = .ok (.getfield 9, 3) := by decide +kernel
theorem dX3_findSpread_48 : decode cX3_findSpread 48 = .ok (.iload_n 1, 1) := by decide +kernel
theorem dX3_findSpread_49 : decode cX3_findSpread 49 = .ok (.iaload, 1) := by decide +kernel
theorem dX3_findSpread_50 : decode cX3_findSpread 50 = .ok (.aload_n 0, 1) := by decide +kernel
theorem dX3_findSpread_51 : decode cX3_findSpread 51 = .ok (.getfield 18, 3) := by decide +kernel
theorem dX3_findSpread_54 : decode cX3_findSpread 54 = .ok (.iload_n 1, 1) := by decide +kernel
theorem dX3_findSpread_55 : decode cX3_findSpread 55 = .ok (.iaload, 1) := by decide +kernel
theorem dX3_findSpread_56 : decode cX3_findSpread 56 = .ok (.aload_n 0, 1) := by decide +kernel
theorem dX3_findSpread_57 : decode cX3_findSpread 57 = .ok (.getfield 18, 3) := by decide +kernel
theorem dX3_findSpread_60 : decode cX3_findSpread 60 = .ok (.iload_n 2, 1) := by decide +kernel
theorem dX3_findSpread_61 : decode cX3_findSpread 61 = .ok (.iaload, 1) := by decide +kernel
theorem dX3_findSpread_62 : decode cX3_findSpread 62 = .ok (.isub, 1) := by decide +kernel
theorem dX3_findSpread_63 : decode cX3_findSpread 63 = .ok (.invokestatic 39, 3) := by decide +kernel
theorem dX3_findSpread_66 : decode cX3_findSpread 66 = .ok (.invokevirtual 45, 3) := by decide +kernel
theorem dX3_findSpread_69 : decode cX3_findSpread 69 = .ok (.iinc 2 1, 3) := by decide +kernel
theorem dX3_findSpread_72 : decode cX3_findSpread 72 = .ok (.goto (-46), 3) := by decide +kernel
theorem dX3_findSpread_75 : decode cX3_findSpread 75 = .ok (.iinc 1 1, 3) := by decide +kernel
theorem dX3_findSpread_78 : decode cX3_findSpread 78 = .ok (.goto (-64), 3) := by decide +kernel
theorem dX3_findSpread_81 : decode cX3_findSpread 81 = .ok (.return_, 1) := by decide +kernel
theorem dX3_areComparable_0 : decode cX3_areComparable 0 = .ok (.aload_n 0, 1) := by decide +kernel
theorem dX3_areComparable_1 : decode cX3_areComparable 1 = .ok (.getfield 21, 3) := by decide +kernel
theorem dX3_areComparable_4 : decode cX3_areComparable 4 = .ok (.iload_n 1, 1) := by decide +kernel
theorem dX3_areComparable_5 : decode cX3_areComparable 5 = .ok (.baload, 1) := by decide +kernel
theorem dX3_areComparable_6 : decode cX3_areComparable 6 = .ok (.ifCond .ne 46, 3) := by decide +kernel
theorem dX3_areComparable_9 : decode cX3_areComparable 9 = .ok (.aload_n 0, 1) := by decide +kernel
theorem dX3_areComparable_10 : decode cX3_areComparable 10 = .ok (.getfield 21, 3) := by decide +kernel
theorem dX3_areComparable_13 : decode cX3_areComparable 13 = .ok (.iload_n 2, 1) := by decide +kernel
theorem dX3_areComparable_14 : decode cX3_areComparable 14 = .ok (.baload, 1) := by decide +kernel
theorem dX3_areComparable_15 : decode cX3_areComparable 15 = .ok (.ifCond .ne 37, 3) := by decide +kernel
theorem dX3_areComparable_18 : decode cX3_areComparable 18 = .ok (.aload_n 0, 1) := by decide +kernel
theorem dX3_areComparable_19 : decode cX3_areComparable 19 = .ok (.getfield 9, 3) := by decide +kernel
theorem dX3_areComparable_22 : decode cX3_areComparable 22 = .ok (.iload_n 1, 1) := by decide +kernel
theorem dX3_areComparable_23 : decode cX3_areComparable 23 = .ok (.iaload, 1) := by decide +kernel
theorem dX3_areComparable_24 : decode cX3_areComparable 24 = .ok (.aload_n 0, 1) := by decide +kernel
theorem dX3_areComparable_25 : decode cX3_areComparable 25 = .ok (.getfield 9, 3) := by decide +kernel
theorem dX3_areComparable_28 : decode cX3_areComparable 28 = .ok (.iload_n 2, 1) := by decide +kernel
theorem dX3_areComparable_29 : decode cX3_areComparable 29 = .ok (.iaload, 1) := by decide +kernel
theorem dX3_areComparable_30 : decode cX3_areComparable 30 = .ok (.if_icmp .ne 22, 3) := by decide +kernel
theorem dX3_areComparable_33 : decode cX3_areComparable 33 = .ok (.aload_n 0, 1) := by decide +kernel
theorem dX3_areComparable_34 : decode cX3_areComparable 34 = .ok (.getfield 15, 3) := by decide +kernel
theorem dX3_areComparable_37 : decode cX3_areComparable 37 = .ok (.iload_n 1, 1) := by decide +kernel
theorem dX3_areComparable_38 : decode cX3_areComparable 38 = .ok (.iaload, 1) := by decide +kernel
theorem dX3_areComparable_39 : decode cX3_areComparable 39 = .ok (.aload_n 0, 1) := by decide +kernel
theorem dX3_areComparable_40 : decode cX3_areComparable 40 = .ok (.getfield 15, 3) := by decide +kernel
theorem dX3_areComparable_43 : decode cX3_areComparable 43 = .ok (.iload_n 2, 1) := by decide +kernel
theorem dX3_areComparable_44 : decode cX3_areComparable 44 = .ok (.iaload, 1) := by decide +kernel
theorem dX3_areComparable_45 : decode cX3_areComparable 45 = .ok (.if_icmp .ne 7, 3) := by decide +kernel
theorem dX3_areComparable_48 : decode cX3_areComparable 48 = .ok (.iconst 1, 1) := by decide +kernel
theorem dX3_areComparable_49 : decode cX3_areComparable 49 = .ok (.goto 4, 3) := by decide +kernel
theorem dX3_areComparable_52 : decode cX3_areComparable 52 = .ok (.iconst 0, 1) := by decide +kernel
theorem dX3_areComparable_53 : decode cX3_areComparable 53 = .ok (.ireturn, 1) := by decide +kernel
theorem dX3_weighPair_0 : decode cX3_weighPair 0 = .ok (.iload_n 2, 1) := by decide +kernel
theorem dX3_weighPair_1 : decode cX3_weighPair 1 = .ok (.aload_n 0, 1) := by decide +kernel
theorem dX3_weighPair_2 : decode cX3_weighPair 2 = .ok (.getfield 29, 3) := by decide +kernel
theorem dX3_weighPair_5 : decode cX3_weighPair 5 = .ok (.if_icmp .gt 19, 3) := by decide +kernel
theorem dX3_weighPair_8 : decode cX3_weighPair 8 = .ok (.iload_n 2, 1) := by decide +kernel
theorem dX3_weighPair_9 : decode cX3_weighPair 9 = .ok (.aload_n 0, 1) := by decide +kernel
theorem dX3_weighPair_10 : decode cX3_weighPair 10 = .ok (.getfield 29, 3) := by decide +kernel
theorem dX3_weighPair_13 : decode cX3_weighPair 13 = .ok (.if_icmp .ne 21, 3) := by decide +kernel
theorem dX3_weighPair_16 : decode cX3_weighPair 16 = .ok (.iload_n 1, 1) := by decide +kernel
theorem dX3_weighPair_17 : decode cX3_weighPair 17 = .ok (.aload_n 0, 1) := by decide +kernel
theorem dX3_weighPair_18 : decode cX3_weighPair 18 = .ok (.getfield 32, 3) := by decide +kernel
theorem dX3_weighPair_21 : decode cX3_weighPair 21 = .ok (.if_icmp .ge 13, 3) := by decide +kernel
theorem dX3_weighPair_24 : decode cX3_weighPair 24 = .ok (.aload_n 0, 1) := by decide +kernel
theorem dX3_weighPair_25 : decode cX3_weighPair 25 = .ok (.iload_n 2, 1) := by decide +kernel
theorem dX3_weighPair_26 : decode cX3_weighPair 26 = .ok (.putfield 29, 3) := by decide +kernel
theorem dX3_weighPair_29 : decode cX3_weighPair 29 = .ok (.aload_n 0, 1) := by decide +kernel
theorem dX3_weighPair_30 : decode cX3_weighPair 30 = .ok (.iload_n 1, 1) := by decide +kernel
theorem dX3_weighPair_31 : decode cX3_weighPair 31 = .ok (.putfield 32, 3) := by decide +kernel
theorem dX3_weighPair_34 : decode cX3_weighPair 34 = .ok (.return_, 1) := by decide +kernel
