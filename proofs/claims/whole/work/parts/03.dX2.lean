theorem dX2_init_0 : decode cX2_init 0 = .ok (.aload_n 0, 1) := by decide +kernel
theorem dX2_init_1 : decode cX2_init 1 = .ok (.invokespecial 3, 3) := by decide +kernel
theorem dX2_init_4 : decode cX2_init 4 = .ok (.aload_n 0, 1) := by decide +kernel
theorem dX2_init_5 : decode cX2_init 5 = .ok (.iconst 4, 1) := by decide +kernel
theorem dX2_init_6 : decode cX2_init 6 = .ok (.newarray .int, 2) := by decide +kernel
theorem dX2_init_8 : decode cX2_init 8 = .ok (.putfield 9, 3) := by decide +kernel
theorem dX2_init_11 : decode cX2_init 11 = .ok (.aload_n 0, 1) := by decide +kernel
theorem dX2_init_12 : decode cX2_init 12 = .ok (.bipush 10, 2) := by decide +kernel
theorem dX2_init_14 : decode cX2_init 14 = .ok (.newarray .int, 2) := by decide +kernel
theorem dX2_init_16 : decode cX2_init 16 = .ok (.putfield 15, 3) := by decide +kernel
theorem dX2_init_19 : decode cX2_init 19 = .ok (.aload_n 0, 1) := by decide +kernel
theorem dX2_init_20 : decode cX2_init 20 = .ok (.bipush 10, 2) := by decide +kernel
theorem dX2_init_22 : decode cX2_init 22 = .ok (.newarray .int, 2) := by decide +kernel
theorem dX2_init_24 : decode cX2_init 24 = .ok (.putfield 18, 3) := by decide +kernel
theorem dX2_init_27 : decode cX2_init 27 = .ok (.aload_n 0, 1) := by decide +kernel
theorem dX2_init_28 : decode cX2_init 28 = .ok (.bipush 10, 2) := by decide +kernel
theorem dX2_init_30 : decode cX2_init 30 = .ok (.newarray .int, 2) := by decide +kernel
theorem dX2_init_32 : decode cX2_init 32 = .ok (.putfield 21, 3) := by decide +kernel
theorem dX2_init_35 : decode cX2_init 35 = .ok (.aload_n 0, 1) := by decide +kernel
theorem dX2_init_36 : decode cX2_init 36 = .ok (.bipush 40, 2) := by decide +kernel
theorem dX2_init_38 : decode cX2_init 38 = .ok (.newarray .int, 2) := by decide +kernel
theorem dX2_init_40 : decode cX2_init 40 = .ok (.putfield 24, 3) := by decide +kernel
theorem dX2_init_43 : decode cX2_init 43 = .ok (.aload_n 0, 1) := by decide +kernel
theorem dX2_init_44 : decode cX2_init 44 = .ok (.bipush 10, 2) := by decide +kernel
theorem dX2_init_46 : decode cX2_init 46 = .ok (.newarray .int, 2) := by decide +kernel
theorem dX2_init_48 : decode cX2_init 48 = .ok (.putfield 27, 3) := by decide +kernel
theorem dX2_init_51 : decode cX2_init 51 = .ok (.aload_n 0, 1) := by decide +kernel
theorem dX2_init_52 : decode cX2_init 52 = .ok (.bipush 10, 2) := by decide +kernel
theorem dX2_init_54 : decode cX2_init 54 = .ok (.newarray .boolean, 2) := by decide +kernel
theorem dX2_init_56 : decode cX2_init 56 = .ok (.putfield 30, 3) := by decide +kernel
theorem dX2_init_59 : decode cX2_init 59 = .ok (.aload_n 0, 1) := by decide +kernel
theorem dX2_init_60 : decode cX2_init 60 = .ok (.iconst 4, 1) := by decide +kernel
theorem dX2_init_61 : decode cX2_init 61 = .ok (.newarray .boolean, 2) := by decide +kernel
theorem dX2_init_63 : decode cX2_init 63 = .ok (.putfield 34, 3) := by decide +kernel
theorem dX2_init_66 : decode cX2_init 66 = .ok (.aload_n 0, 1) := by decide +kernel
theorem dX2_init_67 : decode cX2_init 67 = .ok (.iconst 0, 1) := by decide +kernel
theorem dX2_init_68 : decode cX2_init 68 = .ok (.putfield 37, 3) := by decide +kernel
theorem dX2_init_71 : decode cX2_init 71 = .ok (.aload_n 0, 1) := by decide +kernel
theorem dX2_init_72 : decode cX2_init 72 = .ok (.iconst 0, 1) := by decide +kernel
theorem dX2_init_73 : decode cX2_init 73 = .ok (.putfield 41, 3) := by decide +kernel
theorem dX2_init_76 : decode cX2_init 76 = .ok (.iconst 0, 1) := by decide +kernel
theorem dX2_init_77 : decode cX2_init 77 = .ok (.istore_n 1, 1) := by decide +kernel
theorem dX2_init_78 : decode cX2_init 78 = .ok (.iload_n 1, 1) := by decide +kernel
theorem dX2_init_79 : decode cX2_init 79 = .ok (.iconst 4, 1) := by decide +kernel
theorem dX2_init_80 : decode cX2_init 80 = .ok (.if_icmp .ge 16, 3) := by decide +kernel
theorem dX2_init_83 : decode cX2_init 83 = .ok (.aload_n 0, 1) := by decide +kernel
theorem dX2_init_84 : decode cX2_init 84 = .ok (.getfield 9, 3) := by decide +kernel
theorem dX2_init_87 : decode cX2_init 87 = .ok (.iload_n 1, 1) := by decide +kernel
theorem dX2_init_88 : decode cX2_init 88 = .ok (.iconst 1, 1) := by decide +kernel
theorem dX2_init_89 : decode cX2_init 89 = .ok (.iastore, 1) := by decide +kernel
theorem dX2_init_90 : decode cX2_init 90 = .ok (.iinc 1 1, 3) := by decide +kernel
theorem dX2_init_93 : decode cX2_init 93 = .ok (.goto (-15), 3) := by decide +kernel
theorem dX2_init_96 : decode cX2_init 96 = .ok (.return_, 1) := by decide +kernel
theorem dX2_isFull_0 : decode cX2_isFull 0 = .ok (.aload_n 0, 1) := by decide +kernel
theorem dX2_isFull_1 : decode cX2_isFull 1 = .ok (.getfield 37, 3) := by decide +kernel
theorem dX2_isFull_4 : decode cX2_isFull 4 = .ok (.bipush 10, 2) := by decide +kernel
theorem dX2_isFull_6 : decode cX2_isFull 6 = .ok (.if_icmp .lt 7, 3) := by decide +kernel
theorem dX2_isFull_9 : decode cX2_isFull 9 = .ok (.iconst 1, 1) := by decide +kernel
theorem dX2_isFull_10 : decode cX2_isFull 10 = .ok (.goto 4, 3) := by decide +kernel
theorem dX2_isFull_13 : decode cX2_isFull 13 = .ok (.iconst 0, 1) := by decide +kernel
theorem dX2_isFull_14 : decode cX2_isFull 14 = .ok (.ireturn, 1) := by decide +kernel
theorem dX2_has_0 : decode cX2_has 0 = .ok (.iload_n 1, 1) := by decide +kernel
theorem dX2_has_1 : decode cX2_has 1 = .ok (.ifCond .lt 15, 3) := by decide +kernel
theorem dX2_has_4 : decode cX2_has 4 = .ok (.iload_n 1, 1) := by decide +kernel
theorem dX2_has_5 : decode cX2_has 5 = .ok (.aload_n 0, 1) := by decide +kernel
theorem dX2_has_6 : decode cX2_has 6 = .ok (.getfield 37, 3) := by decide +kernel
theorem dX2_has_9 : decode cX2_has 9 = .ok (.if_icmp .ge 7, 3) := by decide +kernel
theorem dX2_has_12 : decode cX2_has 12 = .ok (.iconst 1, 1) := by decide +kernel
theorem dX2_has_13 : decode cX2_has 13 = .ok (.goto 4, 3) := by decide +kernel
theorem dX2_has_16 : decode cX2_has 16 = .ok (.iconst 0, 1) := by decide +kernel
theorem dX2_has_17 : decode cX2_has 17 = .ok (.ireturn, 1) := by decide +kernel
theorem dX2_swapWeight_0 : decode cX2_swapWeight 0 = .ok (.aload_n 0, 1) := by decide +kernel
theorem dX2_swapWeight_1 : decode cX2_swapWeight 1 = .ok (.getfield 9, 3) := by decide +kernel
theorem dX2_swapWeight_4 : decode cX2_swapWeight 4 = .ok (.iload_n 1, 1) := by decide +kernel
theorem dX2_swapWeight_5 : decode cX2_swapWeight 5 = .ok (.iaload, 1) := by decide +kernel
theorem dX2_swapWeight_6 : decode cX2_swapWeight 6 = .ok (.istore_n 3, 1) := by decide +kernel
theorem dX2_swapWeight_7 : decode cX2_swapWeight 7 = .ok (.aload_n 0, 1) := by decide +kernel
theorem dX2_swapWeight_8 : decode cX2_swapWeight 8 = .ok (.getfield 9, 3) := by decide +kernel
theorem dX2_swapWeight_11 : decode cX2_swapWeight 11 = .ok (.iload_n 1, 1) := by decide +kernel
theorem dX2_swapWeight_12 : decode cX2_swapWeight 12 = .ok (.iload_n 2, 1) := by decide +kernel
theorem dX2_swapWeight_13 : decode cX2_swapWeight 13 = .ok (.iastore, 1) := by decide +kernel
theorem dX2_swapWeight_14 : decode cX2_swapWeight 14 = .ok (.iload_n 3, 1) := by decide +kernel
theorem dX2_swapWeight_15 : decode cX2_swapWeight 15 = .ok (.ireturn, 1) := by decide +kernel
theorem dX2_add_0 : decode cX2_add 0 = .ok (.aload_n 0, 1) := by decide +kernel
theorem dX2_add_1 : decode cX2_add 1 = .ok (.getfield 15, 3) := by decide +kernel
theorem dX2_add_4 : decode cX2_add 4 = .ok (.aload_n 0, 1) := by decide +kernel
theorem dX2_add_5 : decode cX2_add 5 = .ok (.getfield 37, 3) := by decide +kernel
theorem dX2_add_8 : decode cX2_add 8 = .ok (.iload_n 1, 1) := by decide +kernel
theorem dX2_add_9 : decode cX2_add 9 = .ok (.iastore, 1) := by decide +kernel
theorem dX2_add_10 : decode cX2_add 10 = .ok (.aload_n 0, 1) := by decide +kernel
theorem dX2_add_11 : decode cX2_add 11 = .ok (.getfield 18, 3) := by decide +kernel
theorem dX2_add_14 : decode cX2_add 14 = .ok (.aload_n 0, 1) := by decide +kernel
theorem dX2_add_15 : decode cX2_add 15 = .ok (.getfield 37, 3) := by decide +kernel
theorem dX2_add_18 : decode cX2_add 18 = .ok (.iload_n 2, 1) := by decide +kernel
theorem dX2_add_19 : decode cX2_add 19 = .ok (.iastore, 1) := by decide +kernel
theorem dX2_add_20 : decode cX2_add 20 = .ok (.aload_n 0, 1) := by decide +kernel
theorem dX2_add_21 : decode cX2_add 21 = .ok (.getfield 21, 3) := by decide +kernel
theorem dX2_add_24 : decode cX2_add 24 = .ok (.aload_n 0, 1) := by decide +kernel
theorem dX2_add_25 : decode cX2_add 25 = .ok (.getfield 37, 3) := by decide +kernel
theorem dX2_add_28 : decode cX2_add 28 = .ok (.iload_n 3, 1) := by decide +kernel
theorem dX2_add_29 : decode cX2_add 29 = .ok (.iastore, 1) := by decide +kernel
theorem dX2_add_30 : decode cX2_add 30 = .ok (.aload_n 0, 1) := by decide +kernel
theorem dX2_add_31 : decode cX2_add 31 = .ok (.getfield 27, 3) := by decide +kernel
theorem dX2_add_34 : decode cX2_add 34 = .ok (.aload_n 0, 1) := by decide +kernel
theorem dX2_add_35 : decode cX2_add 35 = .ok (.getfield 37, 3) := by decide +kernel
theorem dX2_add_38 : decode cX2_add 38 = .ok (.bipush (-9), 2) := by decide +kernel
theorem dX2_add_40 : decode cX2_add 40 = .ok (.iastore, 1) := by decide +kernel
theorem dX2_add_41 : decode cX2_add 41 = .ok (.iconst 0, 1) := by decide +kernel
theorem dX2_add_42 : decode cX2_add 42 = .ok (.istore 4, 2) := by decide +kernel
theorem dX2_add_44 : decode cX2_add 44 = .ok (.iload 4, 2) := by decide +kernel
theorem dX2_add_46 : decode cX2_add 46 = .ok (.iconst 4, 1) := by decide +kernel
theorem dX2_add_47 : decode cX2_add 47 = .ok (.if_icmp .ge 25, 3) := by decide +kernel
theorem dX2_add_50 : decode cX2_add 50 = .ok (.aload_n 0, 1) := by decide +kernel
theorem dX2_add_51 : decode cX2_add 51 = .ok (.getfield 24, 3) := by decide +kernel
theorem dX2_add_54 : decode cX2_add 54 = .ok (.aload_n 0, 1) := by decide +kernel
theorem dX2_add_55 : decode cX2_add 55 = .ok (.getfield 37, 3) := by decide +kernel
theorem dX2_add_58 : decode cX2_add 58 = .ok (.iconst 4, 1) := by decide +kernel
theorem dX2_add_59 : decode cX2_add 59 = .ok (.imul, 1) := by decide +kernel
theorem dX2_add_60 : decode cX2_add 60 = .ok (.iload 4, 2) := by decide +kernel
theorem dX2_add_62 : decode cX2_add 62 = .ok (.iadd, 1) := by decide +kernel
theorem dX2_add_63 : decode cX2_add 63 = .ok (.bipush 8, 2) := by decide +kernel
theorem dX2_add_65 : decode cX2_add 65 = .ok (.iastore, 1) := by decide +kernel
theorem dX2_add_66 : decode cX2_add 66 = .ok (.iinc 4 1, 3) := by decide +kernel
theorem dX2_add_69 : decode cX2_add 69 = .ok (.goto (-25), 3) := by decide +kernel
theorem dX2_add_72 : decode cX2_add 72 = .ok (.aload_n 0, 1) := by decide +kernel
theorem dX2_add_73 : decode cX2_add 73 = .ok (.dup, 1) := by decide +kernel
theorem dX2_add_74 : decode cX2_add 74 = .ok (.getfield 37, 3) := by decide +kernel
theorem dX2_add_77 : decode cX2_add 77 = .ok (.iconst 1, 1) := by decide +kernel
theorem dX2_add_78 : decode cX2_add 78 = .ok (.iadd, 1) := by decide +kernel
theorem dX2_add_79 : decode cX2_add 79 = .ok (.putfield 37, 3) := by decide +kernel
theorem dX2_add_82 : decode cX2_add 82 = .ok (.aload_n 0, 1) := by decide +kernel
theorem dX2_add_83 : decode cX2_add 83 = .ok (.getfield 37, 3) := by decide +kernel
theorem dX2_add_86 : decode cX2_add 86 = .ok (.iconst 1, 1) := by decide +kernel
theorem dX2_add_87 : decode cX2_add 87 = .ok (.isub, 1) := by decide +kernel
theorem dX2_add_88 : decode cX2_add 88 = .ok (.ireturn, 1) := by decide +kernel
theorem dX2_swapOften_0 : decode cX2_swapOften 0 = .ok (.aload_n 0, 1) := by decide +kernel
theorem dX2_swapOften_1 : decode cX2_swapOften 1 = .ok (.getfield 24, 3) := by decide +kernel
theorem dX2_swapOften_4 : decode cX2_swapOften 4 = .ok (.iload_n 1, 1) := by decide +kernel
theorem dX2_swapOften_5 : decode cX2_swapOften 5 = .ok (.iconst 4, 1) := by decide +kernel
theorem dX2_swapOften_6 : decode cX2_swapOften 6 = .ok (.imul, 1) := by decide +kernel
theorem dX2_swapOften_7 : decode cX2_swapOften 7 = .ok (.iload_n 2, 1) := by decide +kernel
theorem dX2_swapOften_8 : decode cX2_swapOften 8 = .ok (.iadd, 1) := by decide +kernel
theorem dX2_swapOften_9 : decode cX2_swapOften 9 = .ok (.iaload, 1) := by decide +kernel
theorem dX2_swapOften_10 : decode cX2_swapOften 10 = .ok (.istore 4, 2) := by decide +kernel
theorem dX2_swapOften_12 : decode cX2_swapOften 12 = .ok (.aload_n 0, 1) := by decide +kernel
theorem dX2_swapOften_13 : decode cX2_swapOften 13 = .ok (.getfield 24, 3) := by decide +kernel
theorem dX2_swapOften_16 : decode cX2_swapOften 16 = .ok (.iload_n 1, 1) := by decide +kernel
theorem dX2_swapOften_17 : decode cX2_swapOften 17 = .ok (.iconst 4, 1) := by decide +kernel
theorem dX2_swapOften_18 : decode cX2_swapOften 18 = .ok (.imul, 1) := by decide +kernel
theorem dX2_swapOften_19 : decode cX2_swapOften 19 = .ok (.iload_n 2, 1) := by decide +kernel
theorem dX2_swapOften_20 : decode cX2_swapOften 20 = .ok (.iadd, 1) := by decide +kernel
theorem dX2_swapOften_21 : decode cX2_swapOften 21 = .ok (.iload_n 3, 1) := by decide +kernel
theorem dX2_swapOften_22 : decode cX2_swapOften 22 = .ok (.iastore, 1) := by decide +kernel
theorem dX2_swapOften_23 : decode cX2_swapOften 23 = .ok (.iload 4, 2) := by decide +kernel
theorem dX2_swapOften_25 : decode cX2_swapOften 25 = .ok (.ireturn, 1) := by decide +kernel
theorem dX2_isDone_0 : decode cX2_isDone 0 = .ok (.aload_n 0, 1) := by decide +kernel
theorem dX2_isDone_1 : decode cX2_isDone 1 = .ok (.getfield 27, 3) := by decide +kernel
theorem dX2_isDone_4 : decode cX2_isDone 4 = .ok (.iload_n 1, 1) := by decide +kernel
theorem dX2_isDone_5 : decode cX2_isDone 5 = .ok (.iaload, 1) := by decide +kernel
theorem dX2_isDone_6 : decode cX2_isDone 6 = .ok (.bipush (-9), 2) := by decide +kernel
theorem dX2_isDone_8 : decode cX2_isDone 8 = .ok (.if_icmp .eq 7, 3) := by decide +kernel
theorem dX2_isDone_11 : decode cX2_isDone 11 = .ok (.iconst 1, 1) := by decide +kernel
theorem dX2_isDone_12 : decode cX2_isDone 12 = .ok (.goto 4, 3) := by decide +kernel
theorem dX2_isDone_15 : decode cX2_isDone 15 = .ok (.iconst 0, 1) := by decide +kernel
theorem dX2_isDone_16 : decode cX2_isDone 16 = .ok (.ireturn, 1) := by decide +kernel
theorem dX2_isGroupDone_0 : decode cX2_isGroupDone 0 = .ok (.aload_n 0, 1) := by decide +kernel
theorem dX2_isGroupDone_1 : decode cX2_isGroupDone 1 = .ok (.getfield 21, 3) := by decide +kernel
theorem dX2_isGroupDone_4 : decode cX2_isGroupDone 4 = .ok (.iload_n 1, 1) := by decide +kernel
theorem dX2_isGroupDone_5 : decode cX2_isGroupDone 5 = .ok (.iaload, 1) := by decide +kernel
theorem dX2_isGroupDone_6 : decode cX2_isGroupDone 6 = .ok (.bipush (-9), 2) := by decide +kernel
theorem dX2_isGroupDone_8 : decode cX2_isGroupDone 8 = .ok (.if_icmp .eq 21, 3) := by decide +kernel
theorem dX2_isGroupDone_11 : decode cX2_isGroupDone 11 = .ok (.aload_n 0, 1) := by decide +kernel
theorem dX2_isGroupDone_12 : decode cX2_isGroupDone 12 = .ok (.getfield 34, 3) := by decide +kernel
theorem dX2_isGroupDone_15 : decode cX2_isGroupDone 15 = .ok (.aload_n 0, 1) := by decide +kernel
theorem dX2_isGroupDone_16 : decode cX2_isGroupDone 16 = .ok (.getfield 21, 3) := by decide +kernel
theorem dX2_isGroupDone_19 : decode cX2_isGroupDone 19 = .ok (.iload_n 1, 1) := by decide +kernel
theorem dX2_isGroupDone_20 : decode cX2_isGroupDone 20 = .ok (.iaload, 1) := by decide +kernel
theorem dX2_isGroupDone_21 : decode cX2_isGroupDone 21 = .ok (.baload, 1) := by decide +kernel
theorem dX2_isGroupDone_22 : decode cX2_isGroupDone 22 = .ok (.ifCond .eq 7, 3) := by decide +kernel
theorem dX2_isGroupDone_25 : decode cX2_isGroupDone 25 = .ok (.iconst 1, 1) := by decide +kernel
theorem dX2_isGroupDone_26 : decode cX2_isGroupDone 26 = .ok (.goto 4, 3) := by decide +kernel
theorem dX2_isGroupDone_29 : decode cX2_isGroupDone 29 = .ok (.iconst 0, 1) := by decide +kernel
theorem dX2_isGroupDone_30 : decode cX2_isGroupDone 30 = .ok (.ireturn, 1) := by decide +kernel
set_option maxRecDepth 20000 in
theorem ggX2_isOpen_X2_isDone : GoodIn wsX2_isOpen wsX2_isDone := goodIn_r _ [5, 6, 13, 14, 15, 16, 17, 18, 19, 20, 21, 22] (by decide +kernel) (by decide +kernel)
set_option maxRecDepth 20000 in
theorem gX2_isOpen_X2_isDone : GoodIn wsX2_isOpen (wsV RX2 44 RX2 yX2_isDone wsX2_isDone) := goodIn_app (goodIn_of _ (by decide +kernel)) ggX2_isOpen_X2_isDone
set_option maxRecDepth 20000 in
theorem ggX2_isOpen_X2_isGroupDone : GoodIn wsX2_isOpen wsX2_isGroupDone := goodIn_r _ [10, 11, 12, 13, 14, 15, 16, 17, 18, 19, 20, 21, 22] (by decide +kernel) (by decide +kernel)
set_option maxRecDepth 20000 in
theorem gX2_isOpen_X2_isGroupDone : GoodIn wsX2_isOpen (wsV RX2 48 RX2 yX2_isGroupDone wsX2_isGroupDone) := goodIn_app (goodIn_of _ (by decide +kernel)) ggX2_isOpen_X2_isGroupDone
theorem dX2_isOpen_0 : decode cX2_isOpen 0 = .ok (.aload_n 0, 1) := by decide +kernel
theorem dX2_isOpen_1 : decode cX2_isOpen 1 = .ok (.iload_n 1, 1) := by decide +kernel
theorem dX2_isOpen_2 : decode cX2_isOpen 2 = .ok (.invokevirtual 44, 3) := by decide +kernel
theorem dX2_isOpen_5 : decode cX2_isOpen 5 = .ok (.ifCond .ne 15, 3) := by decide +kernel
theorem dX2_isOpen_8 : decode cX2_isOpen 8 = .ok (.aload_n 0, 1) := by decide +kernel
theorem dX2_isOpen_9 : decode cX2_isOpen 9 = .ok (.iload_n 1, 1) := by decide +kernel
theorem dX2_isOpen_10 : decode cX2_isOpen 10 = .ok (.invokevirtual 48, 3) := by decide +kernel
theorem dX2_isOpen_13 : decode cX2_isOpen 13 = .ok (.ifCond .ne 7, 3) := by decide +kernel
theorem dX2_isOpen_16 : decode cX2_isOpen 16 = .ok (.iconst 1, 1) := by decide +kernel
theorem dX2_isOpen_17 : decode cX2_isOpen 17 = .ok (.goto 4, 3) := by decide +kernel
theorem dX2_isOpen_20 : decode cX2_isOpen 20 = .ok (.iconst 0, 1) := by decide +kernel
theorem dX2_isOpen_21 : decode cX2_isOpen 21 = .ok (.ireturn, 1) := by decide +kernel
set_option maxRecDepth 20000 in
theorem ggX2_finish_X2_isGroupDone : GoodIn wsX2_finish wsX2_isGroupDone := goodIn_r _ [10, 3, 4, 11, 12, 13, 14, 15, 16, 17, 18, 19, 20] (by decide +kernel) (by decide +kernel)
set_option maxRecDepth 20000 in
theorem gX2_finish_X2_isGroupDone : GoodIn wsX2_finish (wsV RX2 48 RX2 yX2_isGroupDone wsX2_isGroupDone) := goodIn_app (goodIn_of _ (by decide +kernel)) ggX2_finish_X2_isGroupDone
theorem dX2_finish_0 : decode cX2_finish 0 = .ok (.aload_n 0, 1) := by decide +kernel
theorem dX2_finish_1 : decode cX2_finish 1 = .ok (.getfield 30, 3) := by decide +kernel
theorem dX2_finish_4 : decode cX2_finish 4 = .ok (.iload_n 1, 1) := by decide +kernel
theorem dX2_finish_5 : decode cX2_finish 5 = .ok (.aload_n 0, 1) := by decide +kernel
theorem dX2_finish_6 : decode cX2_finish 6 = .ok (.iload_n 1, 1) := by decide +kernel
theorem dX2_finish_7 : decode cX2_finish 7 = .ok (.invokevirtual 48, 3) := by decide +kernel
theorem dX2_finish_10 : decode cX2_finish 10 = .ok (.ifCond .ne 7, 3) := by decide +kernel
theorem dX2_finish_13 : decode cX2_finish 13 = .ok (.iconst 1, 1) := by decide +kernel
theorem dX2_finish_14 : decode cX2_finish 14 = .ok (.goto 4, 3) := by decide +kernel
theorem dX2_finish_17 : decode cX2_finish 17 = .ok (.iconst 0, 1) := by decide +kernel
theorem dX2_finish_18 : decode cX2_finish 18 = .ok (.bastore, 1) := by decide +kernel
theorem dX2_finish_19 : decode cX2_finish 19 = .ok (.aload_n 0, 1) := by decide +kernel
theorem dX2_finish_20 : decode cX2_finish 20 = .ok (.getfield 27, 3) := by decide +kernel
theorem dX2_finish_23 : decode cX2_finish 23 = .ok (.iload_n 1, 1) := by decide +kernel
theorem dX2_finish_24 : decode cX2_finish 24 = .ok (.iload_n 2, 1) := by decide +kernel
theorem dX2_finish_25 : decode cX2_finish 25 = .ok (.ifCond .eq 7, 3) := by decide +kernel
theorem dX2_finish_28 : decode cX2_finish 28 = .ok (.iconst 1, 1) := by decide +kernel
theorem dX2_finish_29 : decode cX2_finish 29 = .ok (.goto 4, 3) := by decide +kernel
theorem dX2_finish_32 : decode cX2_finish 32 = .ok (.iconst 0, 1) := by decide +kernel
theorem dX2_finish_33 : decode cX2_finish 33 = .ok (.iastore, 1) := by decide +kernel
theorem dX2_finish_34 : decode cX2_finish 34 = .ok (.aload_n 0, 1) := by decide +kernel
theorem dX2_finish_35 : decode cX2_finish 35 = .ok (.getfield 21, 3) := by decide +kernel
theorem dX2_finish_38 : decode cX2_finish 38 = .ok (.iload_n 1, 1) := by decide +kernel
theorem dX2_finish_39 : decode cX2_finish 39 = .ok (.iaload, 1) := by decide +kernel
theorem dX2_finish_40 : decode cX2_finish 40 = .ok (.bipush (-9), 2) := by decide +kernel
theorem dX2_finish_42 : decode cX2_finish 42 = .ok (.if_icmp .eq 15, 3) := by decide +kernel
theorem dX2_finish_45 : decode cX2_finish 45 = .ok (.aload_n 0, 1) := by decide +kernel
theorem dX2_finish_46 : decode cX2_finish 46 = .ok (.getfield 34, 3) := by decide +kernel
theorem dX2_finish_49 : decode cX2_finish 49 = .ok (.aload_n 0, 1) := by decide +kernel
theorem dX2_finish_50 : decode cX2_finish 50 = .ok (.getfield 21, 3) := by decide +kernel
theorem dX2_finish_53 : decode cX2_finish 53 = .ok (.iload_n 1, 1) := by decide +kernel
theorem dX2_finish_54 : decode cX2_finish 54 = .ok (.iaload, 1) := by decide +kernel
theorem dX2_finish_55 : decode cX2_finish 55 = .ok (.iconst 1, 1) := by decide +kernel
theorem dX2_finish_56 : decode cX2_finish 56 = .ok (.bastore, 1) := by decide +kernel
theorem dX2_finish_57 : decode cX2_finish 57 = .ok (.aload_n 0, 1) := by decide +kernel
theorem dX2_finish_58 : decode cX2_finish 58 = .ok (.dup, 1) := by decide +kernel
theorem dX2_finish_59 : decode cX2_finish 59 = .ok (.getfield 41, 3) := by decide +kernel
theorem dX2_finish_62 : decode cX2_finish 62 = .ok (.iconst 1, 1) := by decide +kernel
theorem dX2_finish_63 : decode cX2_finish 63 = .ok (.iadd, 1) := by decide +kernel
theorem dX2_finish_64 : decode cX2_finish 64 = .ok (.putfield 41, 3) := by decide +kernel
theorem dX2_finish_67 : decode cX2_finish 67 = .ok (.aload_n 0, 1) := by decide +kernel
theorem dX2_finish_68 : decode cX2_finish 68 = .ok (.getfield 30, 3) := by decide +kernel
theorem dX2_finish_71 : decode cX2_finish 71 = .ok (.iload_n 1, 1) := by decide +kernel
theorem dX2_finish_72 : decode cX2_finish 72 = .ok (.baload, 1) := by decide +kernel
theorem dX2_finish_73 : decode cX2_finish 73 = .ok (.ireturn, 1) := by decide +kernel
theorem dX2_score_0 : decode cX2_score 0 = .ok (.aload_n 0, 1) := by decide +kernel
theorem dX2_score_1 : decode cX2_score 1 = .ok (.getfield 9, 3) := by decide +kernel
theorem dX2_score_4 : decode cX2_score 4 = .ok (.iload_n 1, 1) := by decide +kernel
theorem dX2_score_5 : decode cX2_score 5 = .ok (.iaload, 1) := by decide +kernel
theorem dX2_score_6 : decode cX2_score 6 = .ok (.i2l, 1) := by decide +kernel
theorem dX2_score_7 : decode cX2_score 7 = .ok (.lstore_n 2, 1) := by decide +kernel
theorem dX2_score_8 : decode cX2_score 8 = .ok (.iconst 0, 1) := by decide +kernel
theorem dX2_score_9 : decode cX2_score 9 = .ok (.istore 4, 2) := by decide +kernel
theorem dX2_score_11 : decode cX2_score 11 = .ok (.iload 4, 2) := by decide +kernel
theorem dX2_score_13 : decode cX2_score 13 = .ok (.aload_n 0, 1) := by decide +kernel
theorem dX2_score_14 : decode cX2_score 14 = .ok (.getfield 37, 3) := by decide +kernel
theorem dX2_score_17 : decode cX2_score 17 = .ok (.if_icmp .ge 58, 3) := by decide +kernel
theorem dX2_score_20 : decode cX2_score 20 = .ok (.aload_n 0, 1) := by decide +kernel
theorem dX2_score_21 : decode cX2_score 21 = .ok (.getfield 30, 3) := by decide +kernel
theorem dX2_score_24 : decode cX2_score 24 = .ok (.iload 4, 2) := by decide +kernel
theorem dX2_score_26 : decode cX2_score 26 = .ok (.baload, 1) := by decide +kernel
theorem dX2_score_27 : decode cX2_score 27 = .ok (.ifCond .eq 42, 3) := by decide +kernel
theorem dX2_score_30 : decode cX2_score 30 = .ok (.aload_n 0, 1) := by decide +kernel
theorem dX2_score_31 : decode cX2_score 31 = .ok (.getfield 24, 3) := by decide +kernel
theorem dX2_score_34 : decode cX2_score 34 = .ok (.iload 4, 2) := by decide +kernel
theorem dX2_score_36 : decode cX2_score 36 = .ok (.iconst 4, 1) := by decide +kernel
theorem dX2_score_37 : decode cX2_score 37 = .ok (.imul, 1) := by decide +kernel
theorem dX2_score_38 : decode cX2_score 38 = .ok (.iload_n 1, 1) := by decide +kernel
theorem dX2_score_39 : decode cX2_score 39 = .ok (.iadd, 1) := by decide +kernel
theorem dX2_score_40 : decode cX2_score 40 = .ok (.iaload, 1) := by decide +kernel
theorem dX2_score_41 : decode cX2_score 41 = .ok (.istore 5, 2) := by decide +kernel
theorem dX2_score_43 : decode cX2_score 43 = .ok (.lload_n 2, 1) := by decide +kernel
theorem dX2_score_44 : decode cX2_score 44 = .ok (.aload_n 0, 1) := by decide +kernel
theorem dX2_score_45 : decode cX2_score 45 = .ok (.getfield 27, 3) := by decide +kernel
theorem dX2_score_48 : decode cX2_score 48 = .ok (.iload 4, 2) := by decide +kernel
theorem dX2_score_50 : decode cX2_score 50 = .ok (.iaload, 1) := by decide +kernel
theorem dX2_score_51 : decode cX2_score 51 = .ok (.iconst 1, 1) := by decide +kernel
theorem dX2_score_52 : decode cX2_score 52 = .ok (.if_icmp .ne 9, 3) := by decide +kernel
theorem dX2_score_55 : decode cX2_score 55 = .ok (.iload 5, 2) := by decide +kernel
theorem dX2_score_57 : decode cX2_score 57 = .ok (.i2l, 1) := by decide +kernel
theorem dX2_score_58 : decode cX2_score 58 = .ok (.goto 9, 3) := by decide +kernel
theorem dX2_score_61 : decode cX2_score 61 = .ok (.bipush 16, 2) := by decide +kernel
theorem dX2_score_63 : decode cX2_score 63 = .ok (.iload 5, 2) := by decide +kernel
theorem dX2_score_65 : decode cX2_score 65 = .ok (.isub, 1) := by decide +kernel
theorem dX2_score_66 : decode cX2_score 66 = .ok (.i2l, 1) := by decide +kernel
theorem dX2_score_67 : decode cX2_score 67 = .ok (.lmul, 1) := by decide +kernel
theorem dX2_score_68 : decode cX2_score 68 = .ok (.lstore_n 2, 1) := by decide +kernel
theorem dX2_score_69 : decode cX2_score 69 = .ok (.iinc 4 1, 3) := by decide +kernel
theorem dX2_score_72 : decode cX2_score 72 = .ok (.goto (-61), 3) := by decide +kernel
theorem dX2_score_75 : decode cX2_score 75 = .ok (.lload_n 2, 1) := by decide +kernel
theorem dX2_score_76 : decode cX2_score 76 = .ok (.lreturn, 1) := by decide +kernel
set_option maxRecDepth 20000 in
theorem ggX2_scoreOfAll_X2_score : GoodIn wsX2_scoreOfAll wsX2_score := goodIn_r _ [5, 6, 7, 8, 9, 10, 11, 12, 13, 14, 15, 16, 17, 18, 19, 20] (by decide +kernel) (by decide +kernel)
set_option maxRecDepth 20000 in
theorem gX2_scoreOfAll_X2_score : GoodIn wsX2_scoreOfAll (wsV RX2 51 RX2 yX2_score wsX2_score) := goodIn_app (goodIn_of _ (by decide +kernel)) ggX2_scoreOfAll_X2_score
theorem dX2_scoreOfAll_0 : decode cX2_scoreOfAll 0 = .ok (.lconst 0, 1) := by decide +kernel
theorem dX2_scoreOfAll_1 : decode cX2_scoreOfAll 1 = .ok (.lstore_n 1, 1) := by decide +kernel
theorem dX2_scoreOfAll_2 : decode cX2_scoreOfAll 2 = .ok (.iconst 0, 1) := by decide +kernel
theorem dX2_scoreOfAll_3 : decode cX2_scoreOfAll 3 = .ok (.istore_n 3, 1) := by decide +kernel
theorem dX2_scoreOfAll_4 : decode cX2_scoreOfAll 4 = .ok (.iload_n 3, 1) := by decide +kernel
theorem dX2_scoreOfAll_5 : decode cX2_scoreOfAll 5 = .ok (.iconst 4, 1) := by decide +kernel
theorem dX2_scoreOfAll_6 : decode cX2_scoreOfAll 6 = .ok (.if_icmp .ge 17, 3) := by decide +kernel
theorem dX2_scoreOfAll_9 : decode cX2_scoreOfAll 9 = .ok (.lload_n 1, 1) := by decide +kernel
theorem dX2_scoreOfAll_10 : decode cX2_scoreOfAll 10 = .ok (.aload_n 0, 1) := by decide +kernel
theorem dX2_scoreOfAll_11 : decode cX2_scoreOfAll 11 = .ok (.iload_n 3, 1) := by decide +kernel
theorem dX2_scoreOfAll_12 : decode cX2_scoreOfAll 12 = .ok (.invokevirtual 51, 3) := by decide +kernel
theorem dX2_scoreOfAll_15 : decode cX2_scoreOfAll 15 = .ok (.ladd, 1) := by decide +kernel
theorem dX2_scoreOfAll_16 : decode cX2_scoreOfAll 16 = .ok (.lstore_n 1, 1) := by decide +kernel
theorem dX2_scoreOfAll_17 : decode cX2_scoreOfAll 17 = .ok (.iinc 3 1, 3) := by decide +kernel
theorem dX2_scoreOfAll_20 : decode cX2_scoreOfAll 20 = .ok (.goto (-16), 3) := by decide +kernel
theorem dX2_scoreOfAll_23 : decode cX2_scoreOfAll 23 = .ok (.lload_n 1, 1) := by decide +kernel
theorem dX2_scoreOfAll_24 : decode cX2_scoreOfAll 24 = .ok (.lreturn, 1) := by decide +kernel
set_option maxRecDepth 20000 in
theorem ggX2_likeliest_X2_score : GoodIn wsX2_likeliest wsX2_score := goodIn_r _ [5, 6, 7, 8, 9, 10, 11, 12, 13, 14, 15, 16, 17, 18, 19, 20] (by decide +kernel) (by decide +kernel)
set_option maxRecDepth 20000 in
theorem gX2_likeliest_X2_score : GoodIn wsX2_likeliest (wsV RX2 51 RX2 yX2_score wsX2_score) := goodIn_app (goodIn_of _ (by decide +kernel)) ggX2_likeliest_X2_score
theorem dX2_likeliest_0 : decode cX2_likeliest 0 = .ok (.iconst 0, 1) := by decide +kernel
theorem dX2_likeliest_1 : decode cX2_likeliest 1 = .ok (.istore_n 1, 1) := by decide +kernel
theorem dX2_likeliest_2 : decode cX2_likeliest 2 = .ok (.iconst 1, 1) := by decide +kernel
theorem dX2_likeliest_3 : decode cX2_likeliest 3 = .ok (.istore_n 2, 1) := by decide +kernel
theorem dX2_likeliest_4 : decode cX2_likeliest 4 = .ok (.iload_n 2, 1) := by decide +kernel
theorem dX2_likeliest_5 : decode cX2_likeliest 5 = .ok (.iconst 4, 1) := by decide +kernel
theorem dX2_likeliest_6 : decode cX2_likeliest 6 = .ok (.if_icmp .ge 25, 3) := by decide +kernel
theorem dX2_likeliest_9 : decode cX2_likeliest 9 = .ok (.aload_n 0, 1) := by decide +kernel
theorem dX2_likeliest_10 : decode cX2_likeliest 10 = .ok (.iload_n 2, 1) := by decide +kernel
theorem dX2_likeliest_11 : decode cX2_likeliest 11 = .ok (.invokevirtual 51, 3) := by decide +kernel
theorem dX2_likeliest_14 : decode cX2_likeliest 14 = .ok (.aload_n 0, 1) := by decide +kernel
theorem dX2_likeliest_15 : decode cX2_likeliest 15 = .ok (.iload_n 1, 1) := by decide +kernel
theorem dX2_likeliest_16 : decode cX2_likeliest 16 = .ok (.invokevirtual 51, 3) := by decide +kernel
theorem dX2_likeliest_19 : decode cX2_likeliest 19 = .ok (.lcmp, 1) := by decide +kernel
theorem dX2_likeliest_20 : decode cX2_likeliest 20 = .ok (.ifCond .le 5, 3) := by decide +kernel
theorem dX2_likeliest_23 : decode cX2_likeliest 23 = .ok (.iload_n 2, 1) := by decide +kernel
theorem dX2_likeliest_24 : decode cX2_likeliest 24 = .ok (.istore_n 1, 1) := by decide +kernel
theorem dX2_likeliest_25 : decode cX2_likeliest 25 = .ok (.iinc 2 1, 3) := by decide +kernel
theorem dX2_likeliest_28 : decode cX2_likeliest 28 = .ok (.goto (-24), 3) := by decide +kernel
theorem dX2_likeliest_31 : decode cX2_likeliest 31 = .ok (.iload_n 1, 1) := by decide +kernel
theorem dX2_likeliest_32 : decode cX2_likeliest 32 = .ok (.ireturn, 1) := by decide +kernel
set_option maxRecDepth 20000 in
theorem ggX2_gainOf_X2_score : GoodIn wsX2_gainOf wsX2_score := goodIn_r _ [11, 12, 13, 14, 1, 15, 16, 17, 18, 19, 20, 21, 22, 23, 24, 25] (by decide +kernel) (by decide +kernel)
set_option maxRecDepth 20000 in
theorem gX2_gainOf_X2_score : GoodIn wsX2_gainOf (wsV RX2 51 RX2 yX2_score wsX2_score) := goodIn_app (goodIn_of _ (by decide +kernel)) ggX2_gainOf_X2_score
theorem dX2_gainOf_0 : decode cX2_gainOf 0 = .ok (.lconst 0, 1) := by decide +kernel
theorem dX2_gainOf_1 : decode cX2_gainOf 1 = .ok (.lstore_n 2, 1) := by decide +kernel
theorem dX2_gainOf_2 : decode cX2_gainOf 2 = .ok (.lconst 0, 1) := by decide +kernel
theorem dX2_gainOf_3 : decode cX2_gainOf 3 = .ok (.lstore 4, 2) := by decide +kernel
theorem dX2_gainOf_5 : decode cX2_gainOf 5 = .ok (.lconst 0, 1) := by decide +kernel
theorem dX2_gainOf_6 : decode cX2_gainOf 6 = .ok (.lstore 6, 2) := by decide +kernel
theorem dX2_gainOf_8 : decode cX2_gainOf 8 = .ok (.iconst 0, 1) := by decide +kernel
theorem dX2_gainOf_9 : decode cX2_gainOf 9 = .ok (.istore 8, 2) := by decide +kernel
theorem dX2_gainOf_11 : decode cX2_gainOf 11 = .ok (.iload 8, 2) := by decide +kernel
theorem dX2_gainOf_13 : decode cX2_gainOf 13 = .ok (.iconst 4, 1) := by decide +kernel
theorem dX2_gainOf_14 : decode cX2_gainOf 14 = .ok (.if_icmp .ge 70, 3) := by decide +kernel
theorem dX2_gainOf_17 : decode cX2_gainOf 17 = .ok (.aload_n 0, 1) := by decide +kernel
theorem dX2_gainOf_18 : decode cX2_gainOf 18 = .ok (.iload 8, 2) := by decide +kernel
theorem dX2_gainOf_20 : decode cX2_gainOf 20 = .ok (.invokevirtual 51, 3) := by decide +kernel
theorem dX2_gainOf_23 : decode cX2_gainOf 23 = .ok (.lstore 9, 2) := by decide +kernel
theorem dX2_gainOf_25 : decode cX2_gainOf 25 = .ok (.aload_n 0, 1) := by decide +kernel
theorem dX2_gainOf_26 : decode cX2_gainOf 26 = .ok (.getfield 24, 3) := by decide +kernel
theorem dX2_gainOf_29 : decode cX2_gainOf 29 = .ok (.iload_n 1, 1) := by decide +kernel
theorem dX2_gainOf_30 : decode cX2_gainOf 30 = .ok (.iconst 4, 1) := by decide +kernel
theorem dX2_gainOf_31 : decode cX2_gainOf 31 = .ok (.imul, 1) := by decide +kernel
theorem dX2_gainOf_32 : decode cX2_gainOf 32 = .ok (.iload 8, 2) := by decide +kernel
theorem dX2_gainOf_34 : decode cX2_gainOf 34 = .ok (.iadd, 1) := by decide +kernel
theorem dX2_gainOf_35 : decode cX2_gainOf 35 = .ok (.iaload, 1) := by decide +kernel
theorem dX2_gainOf_36 : decode cX2_gainOf 36 = .ok (.istore 11, 2) := by decide +kernel
theorem dX2_gainOf_38 : decode cX2_gainOf 38 = .ok (.lload_n 2, 1) := by decide +kernel
theorem dX2_gainOf_39 : decode cX2_gainOf 39 = .ok (.lload 9, 2) := by decide +kernel
theorem dX2_gainOf_41 : decode cX2_gainOf 41 = .ok (.iload 11, 2) := by decide +kernel
theorem dX2_gainOf_43 : decode cX2_gainOf 43 = .ok (.i2l, 1) := by decide +kernel
theorem dX2_gainOf_44 : decode cX2_gainOf 44 = .ok (.lmul, 1) := by decide +kernel
theorem dX2_gainOf_45 : decode cX2_gainOf 45 = .ok (.invokestatic 55, 3) := by decide +kernel
theorem dX2_gainOf_48 : decode cX2_gainOf 48 = .ok (.lstore_n 2, 1) := by decide +kernel
theorem dX2_gainOf_49 : decode cX2_gainOf 49 = .ok (.lload 4, 2) := by decide +kernel
theorem dX2_gainOf_51 : decode cX2_gainOf 51 = .ok (.lload 9, 2) := by decide +kernel
theorem dX2_gainOf_53 : decode cX2_gainOf 53 = .ok (.bipush 16, 2) := by decide +kernel
theorem dX2_gainOf_55 : decode cX2_gainOf 55 = .ok (.iload 11, 2) := by decide +kernel
theorem dX2_gainOf_57 : decode cX2_gainOf 57 = .ok (.isub, 1) := by decide +kernel
theorem dX2_gainOf_58 : decode cX2_gainOf 58 = .ok (.i2l, 1) := by decide +kernel
theorem dX2_gainOf_59 : decode cX2_gainOf 59 = .ok (.lmul, 1) := by decide +kernel
theorem dX2_gainOf_60 : decode cX2_gainOf 60 = .ok (.invokestatic 55, 3) := by decide +kernel
theorem dX2_gainOf_63 : decode cX2_gainOf 63 = .ok (.lstore 4, 2) := by decide +kernel
theorem dX2_gainOf_65 : decode cX2_gainOf 65 = .ok (.lload 6, 2) := by decide +kernel
theorem dX2_gainOf_67 : decode cX2_gainOf 67 = .ok (.lload 9, 2) := by decide +kernel
theorem dX2_gainOf_69 : decode cX2_gainOf 69 = .ok (.ldc2_w 61, 3) := by decide +kernel
theorem dX2_gainOf_72 : decode cX2_gainOf 72 = .ok (.lmul, 1) := by decide +kernel
theorem dX2_gainOf_73 : decode cX2_gainOf 73 = .ok (.invokestatic 55, 3) := by decide +kernel
theorem dX2_gainOf_76 : decode cX2_gainOf 76 = .ok (.lstore 6, 2) := by decide +kernel
theorem dX2_gainOf_78 : decode cX2_gainOf 78 = .ok (.iinc 8 1, 3) := by decide +kernel
theorem dX2_gainOf_81 : decode cX2_gainOf 81 = .ok (.goto (-70), 3) := by decide +kernel
theorem dX2_gainOf_84 : decode cX2_gainOf 84 = .ok (.lload_n 2, 1) := by decide +kernel
theorem dX2_gainOf_85 : decode cX2_gainOf 85 = .ok (.lload 4, 2) := by decide +kernel
theorem dX2_gainOf_87 : decode cX2_gainOf 87 = .ok (.ladd, 1) := by decide +kernel
theorem dX2_gainOf_88 : decode cX2_gainOf 88 = .ok (.lload 6, 2) := by decide +kernel
theorem dX2_gainOf_90 : decode cX2_gainOf 90 = .ok (.lsub, 1) := by decide +kernel
theorem dX2_gainOf_91 : decode cX2_gainOf 91 = .ok (.lreturn, 1) := by decide +kernel
set_option maxRecDepth 20000 in
theorem ggX2_best_X2_isOpen : GoodIn wsX2_best wsX2_isOpen := goodIn_r _ [8, 9, 10, 11, 7, 12, 13, 14, 15, 16, 17, 18, 19, 36, 37, 38, 39, 40, 41, 42, 43, 44, 45] (by decide +kernel) (by decide +kernel)
set_option maxRecDepth 20000 in
theorem gX2_best_X2_isOpen : GoodIn wsX2_best (wsV RX2 63 RX2 yX2_isOpen wsX2_isOpen) := goodIn_app (goodIn_of _ (by decide +kernel)) ggX2_best_X2_isOpen
set_option maxRecDepth 20000 in
theorem ggX2_best_X2_gainOf : GoodIn wsX2_best wsX2_gainOf := goodIn_r _ [23, 24, 25, 26, 27, 28, 29, 30, 31, 32, 7, 33, 34, 1, 35, 13, 36, 37, 38, 39, 40, 41, 42, 43, 44, 45] (by decide +kernel) (by decide +kernel)
set_option maxRecDepth 20000 in
theorem gX2_best_X2_gainOf : GoodIn wsX2_best (wsV RX2 66 RX2 yX2_gainOf wsX2_gainOf) := goodIn_app (goodIn_of _ (by decide +kernel)) ggX2_best_X2_gainOf
theorem dX2_best_0 : decode cX2_best 0 = .ok (.bipush (-9), 2) := by decide +kernel
theorem dX2_best_2 : decode cX2_best 2 = .ok (.istore_n 3, 1) := by decide +kernel
theorem dX2_best_3 : decode cX2_best 3 = .ok (.lconst 0, 1) := by decide +kernel
theorem dX2_best_4 : decode cX2_best 4 = .ok (.lstore 4, 2) := by decide +kernel
theorem dX2_best_6 : decode cX2_best 6 = .ok (.iconst 0, 1) := by decide +kernel
theorem dX2_best_7 : decode cX2_best 7 = .ok (.istore 6, 2) := by decide +kernel
theorem dX2_best_9 : decode cX2_best 9 = .ok (.iload 6, 2) := by decide +kernel
theorem dX2_best_11 : decode cX2_best 11 = .ok (.aload_n 0, 1) := by decide +kernel
theorem dX2_best_12 : decode cX2_best 12 = .ok (.getfield 37, 3) := by decide +kernel
theorem dX2_best_15 : decode cX2_best 15 = .ok (.if_icmp .ge 93, 3) := by decide +kernel
theorem dX2_best_18 : decode cX2_best 18 = .ok (.aload_n 0, 1) := by decide +kernel
theorem dX2_best_19 : decode cX2_best 19 = .ok (.iload 6, 2) := by decide +kernel
theorem dX2_best_21 : decode cX2_best 21 = .ok (.invokevirtual 63, 3) := by decide +kernel
theorem dX2_best_24 : decode cX2_best 24 = .ok (.ifCond .eq 78, 3) := by decide +kernel
theorem dX2_best_27 : decode cX2_best 27 = .ok (.aload_n 0, 1) := by decide +kernel
theorem dX2_best_28 : decode cX2_best 28 = .ok (.getfield 15, 3) := by decide +kernel
theorem dX2_best_31 : decode cX2_best 31 = .ok (.iload 6, 2) := by decide +kernel
theorem dX2_best_33 : decode cX2_best 33 = .ok (.iaload, 1) := by decide +kernel
theorem dX2_best_34 : decode cX2_best 34 = .ok (.iload_n 1, 1) := by decide +kernel
theorem dX2_best_35 : decode cX2_best 35 = .ok (.if_icmp .gt 67, 3) := by decide +kernel
theorem dX2_best_38 : decode cX2_best 38 = .ok (.aload_n 0, 1) := by decide +kernel
theorem dX2_best_39 : decode cX2_best 39 = .ok (.getfield 18, 3) := by decide +kernel
theorem dX2_best_42 : decode cX2_best 42 = .ok (.iload 6, 2) := by decide +kernel
theorem dX2_best_44 : decode cX2_best 44 = .ok (.iaload, 1) := by decide +kernel
theorem dX2_best_45 : decode cX2_best 45 = .ok (.iload_n 2, 1) := by decide +kernel
theorem dX2_best_46 : decode cX2_best 46 = .ok (.if_icmp .gt 56, 3) := by decide +kernel
theorem dX2_best_49 : decode cX2_best 49 = .ok (.aload_n 0, 1) := by decide +kernel
theorem dX2_best_50 : decode cX2_best 50 = .ok (.iload 6, 2) := by decide +kernel
theorem dX2_best_52 : decode cX2_best 52 = .ok (.invokevirtual 66, 3) := by decide +kernel
theorem dX2_best_55 : decode cX2_best 55 = .ok (.lstore 7, 2) := by decide +kernel
theorem dX2_best_57 : decode cX2_best 57 = .ok (.iload_n 3, 1) := by decide +kernel
theorem dX2_best_58 : decode cX2_best 58 = .ok (.bipush (-9), 2) := by decide +kernel
theorem dX2_best_60 : decode cX2_best 60 = .ok (.if_icmp .eq 35, 3) := by decide +kernel
theorem dX2_best_63 : decode cX2_best 63 = .ok (.lload 7, 2) := by decide +kernel
theorem dX2_best_65 : decode cX2_best 65 = .ok (.lload 4, 2) := by decide +kernel
theorem dX2_best_67 : decode cX2_best 67 = .ok (.lcmp, 1) := by decide +kernel
theorem dX2_best_68 : decode cX2_best 68 = .ok (.ifCond .gt 27, 3) := by decide +kernel
theorem dX2_best_71 : decode cX2_best 71 = .ok (.lload 7, 2) := by decide +kernel
theorem dX2_best_73 : decode cX2_best 73 = .ok (.lload 4, 2) := by decide +kernel
theorem dX2_best_75 : decode cX2_best 75 = .ok (.lcmp, 1) := by decide +kernel
theorem dX2_best_76 : decode cX2_best 76 = .ok (.ifCond .ne 26, 3) := by decide +kernel
theorem dX2_best_79 : decode cX2_best 79 = .ok (.aload_n 0, 1) := by decide +kernel
theorem dX2_best_80 : decode cX2_best 80 = .ok (.getfield 15, 3) := by decide +kernel
theorem dX2_best_83 : decode cX2_best 83 = .ok (.iload 6, 2) := by decide +kernel
theorem dX2_best_85 : decode cX2_best 85 = .ok (.iaload, 1) := by decide +kernel
theorem dX2_best_86 : decode cX2_best 86 = .ok (.aload_n 0, 1) := by decide +kernel
theorem dX2_best_87 : decode cX2_best 87 = .ok (.getfield 15, 3) := by decide +kernel
theorem dX2_best_90 : decode cX2_best 90 = .ok (.iload_n 3, 1) := by decide +kernel
theorem dX2_best_91 : decode cX2_best 91 = .ok (.iaload, 1) := by decide +kernel
theorem dX2_best_92 : decode cX2_best 92 = .ok (.if_icmp .ge 10, 3) := by decide +kernel
theorem dX2_best_95 : decode cX2_best 95 = .ok (.iload 6, 2) := by decide +kernel
theorem dX2_best_97 : decode cX2_best 97 = .ok (.istore_n 3, 1) := by decide +kernel
theorem dX2_best_98 : decode cX2_best 98 = .ok (.lload 7, 2) := by decide +kernel
theorem dX2_best_100 : decode cX2_best 100 = .ok (.lstore 4, 2) := by decide +kernel
theorem dX2_best_102 : decode cX2_best 102 = .ok (.iinc 6 1, 3) := by decide +kernel
theorem dX2_best_105 : decode cX2_best 105 = .ok (.goto (-96), 3) := by decide +kernel
theorem dX2_best_108 : decode cX2_best 108 = .ok (.iload_n 3, 1) := by decide +kernel
theorem dX2_best_109 : decode cX2_best 109 = .ok (.ireturn, 1) := by decide +kernel
theorem dX2_mixInto_0 : decode cX2_mixInto 0 = .ok (.iconst 0, 1) := by decide +kernel
theorem dX2_mixInto_1 : decode cX2_mixInto 1 = .ok (.istore_n 3, 1) := by decide +kernel
theorem dX2_mixInto_2 : decode cX2_mixInto 2 = .ok (.iload_n 3, 1) := by decide +kernel
theorem dX2_mixInto_3 : decode cX2_mixInto 3 = .ok (.iconst 4, 1) := by decide +kernel
theorem dX2_mixInto_4 : decode cX2_mixInto 4 = .ok (.if_icmp .ge 23, 3) := by decide +kernel
theorem dX2_mixInto_7 : decode cX2_mixInto 7 = .ok (.ldc2_w 69, 3) := by decide +kernel
theorem dX2_mixInto_10 : decode cX2_mixInto 10 = .ok (.lload_n 1, 1) := by decide +kernel
theorem dX2_mixInto_11 : decode cX2_mixInto 11 = .ok (.lmul, 1) := by decide +kernel
theorem dX2_mixInto_12 : decode cX2_mixInto 12 = .ok (.aload_n 0, 1) := by decide +kernel
theorem dX2_mixInto_13 : decode cX2_mixInto 13 = .ok (.getfield 9, 3) := by decide +kernel
theorem dX2_mixInto_16 : decode cX2_mixInto 16 = .ok (.iload_n 3, 1) := by decide +kernel
theorem dX2_mixInto_17 : decode cX2_mixInto 17 = .ok (.iaload, 1) := by decide +kernel
theorem dX2_mixInto_18 : decode cX2_mixInto 18 = .ok (.i2l, 1) := by decide +kernel
theorem dX2_mixInto_19 : decode cX2_mixInto 19 = .ok (.ladd, 1) := by decide +kernel
theorem dX2_mixInto_20 : decode cX2_mixInto 20 = .ok (.lstore_n 1, 1) := by decide +kernel
theorem dX2_mixInto_21 : decode cX2_mixInto 21 = .ok (.iinc 3 1, 3) := by decide +kernel
theorem dX2_mixInto_24 : decode cX2_mixInto 24 = .ok (.goto (-22), 3) := by decide +kernel
theorem dX2_mixInto_27 : decode cX2_mixInto 27 = .ok (.iconst 0, 1) := by decide +kernel
theorem dX2_mixInto_28 : decode cX2_mixInto 28 = .ok (.istore_n 3, 1) := by decide +kernel
theorem dX2_mixInto_29 : decode cX2_mixInto 29 = .ok (.iload_n 3, 1) := by decide +kernel
theorem dX2_mixInto_30 : decode cX2_mixInto 30 = .ok (.aload_n 0, 1) := by decide +kernel
theorem dX2_mixInto_31 : decode cX2_mixInto 31 = .ok (.getfield 37, 3) := by decide +kernel
theorem dX2_mixInto_34 : decode cX2_mixInto 34 = .ok (.if_icmp .ge 99, 3) := by decide +kernel
theorem dX2_mixInto_37 : decode cX2_mixInto 37 = .ok (.ldc2_w 69, 3) := by decide +kernel
theorem dX2_mixInto_40 : decode cX2_mixInto 40 = .ok (.lload_n 1, 1) := by decide +kernel
theorem dX2_mixInto_41 : decode cX2_mixInto 41 = .ok (.lmul, 1) := by decide +kernel
theorem dX2_mixInto_42 : decode cX2_mixInto 42 = .ok (.aload_n 0, 1) := by decide +kernel
theorem dX2_mixInto_43 : decode cX2_mixInto 43 = .ok (.getfield 15, 3) := by decide +kernel
theorem dX2_mixInto_46 : decode cX2_mixInto 46 = .ok (.iload_n 3, 1) := by decide +kernel
theorem dX2_mixInto_47 : decode cX2_mixInto 47 = .ok (.iaload, 1) := by decide +kernel
theorem dX2_mixInto_48 : decode cX2_mixInto 48 = .ok (.i2l, 1) := by decide +kernel
theorem dX2_mixInto_49 : decode cX2_mixInto 49 = .ok (.ladd, 1) := by decide +kernel
theorem dX2_mixInto_50 : decode cX2_mixInto 50 = .ok (.lstore_n 1, 1) := by decide +kernel
theorem dX2_mixInto_51 : decode cX2_mixInto 51 = .ok (.ldc2_w 69, 3) := by decide +kernel
theorem dX2_mixInto_54 : decode cX2_mixInto 54 = .ok (.lload_n 1, 1) := by decide +kernel
theorem dX2_mixInto_55 : decode cX2_mixInto 55 = .ok (.lmul, 1) := by decide +kernel
theorem dX2_mixInto_56 : decode cX2_mixInto 56 = .ok (.aload_n 0, 1) := by decide +kernel
theorem dX2_mixInto_57 : decode cX2_mixInto 57 = .ok (.getfield 18, 3) := by decide +kernel
theorem dX2_mixInto_60 : decode cX2_mixInto 60 = .ok (.iload_n 3, 1) := by decide +kernel
theorem dX2_mixInto_61 : decode cX2_mixInto 61 = .ok (.iaload, 1) := by decide +kernel
theorem dX2_mixInto_62 : decode cX2_mixInto 62 = .ok (.i2l, 1) := by decide +kernel
theorem dX2_mixInto_63 : decode cX2_mixInto 63 = .ok (.ladd, 1) := by decide +kernel
theorem dX2_mixInto_64 : decode cX2_mixInto 64 = .ok (.lstore_n 1, 1) := by decide +kernel
theorem dX2_mixInto_65 : decode cX2_mixInto 65 = .ok (.ldc2_w 69, 3) := by decide +kernel
theorem dX2_mixInto_68 : decode cX2_mixInto 68 = .ok (.lload_n 1, 1) := by decide +kernel
theorem dX2_mixInto_69 : decode cX2_mixInto 69 = .ok (.lmul, 1) := by decide +kernel
theorem dX2_mixInto_70 : decode cX2_mixInto 70 = .ok (.aload_n 0, 1) := by decide +kernel
theorem dX2_mixInto_71 : decode cX2_mixInto 71 = .ok (.getfield 21, 3) := by decide +kernel
theorem dX2_mixInto_74 : decode cX2_mixInto 74 = .ok (.iload_n 3, 1) := by decide +kernel
theorem dX2_mixInto_75 : decode cX2_mixInto 75 = .ok (.iaload, 1) := by decide +kernel
theorem dX2_mixInto_76 : decode cX2_mixInto 76 = .ok (.i2l, 1) := by decide +kernel
theorem dX2_mixInto_77 : decode cX2_mixInto 77 = .ok (.ladd, 1) := by decide +kernel
theorem dX2_mixInto_78 : decode cX2_mixInto 78 = .ok (.lstore_n 1, 1) := by decide +kernel
theorem dX2_mixInto_79 : decode cX2_mixInto 79 = .ok (.iconst 0, 1) := by decide +kernel
theorem dX2_mixInto_80 : decode cX2_mixInto 80 = .ok (.istore 4, 2) := by decide +kernel
theorem dX2_mixInto_82 : decode cX2_mixInto 82 = .ok (.iload 4, 2) := by decide +kernel
theorem dX2_mixInto_84 : decode cX2_mixInto 84 = .ok (.iconst 4, 1) := by decide +kernel
theorem dX2_mixInto_85 : decode cX2_mixInto 85 = .ok (.if_icmp .ge 28, 3) := by decide +kernel
theorem dX2_mixInto_88 : decode cX2_mixInto 88 = .ok (.ldc2_w 69, 3) := by decide +kernel
theorem dX2_mixInto_91 : decode cX2_mixInto 91 = .ok (.lload_n 1, 1) := by decide +kernel
theorem dX2_mixInto_92 : decode cX2_mixInto 92 = .ok (.lmul, 1) := by decide +kernel
theorem dX2_mixInto_93 : decode cX2_mixInto 93 = .ok (.aload_n 0, 1) := by decide +kernel
theorem dX2_mixInto_94 : decode cX2_mixInto 94 = .ok (.getfield 24, 3) := by decide +kernel
theorem dX2_mixInto_97 : decode cX2_mixInto 97 = .ok (.iload_n 3, 1) := by decide +kernel
theorem dX2_mixInto_98 : decode cX2_mixInto 98 = .ok (.iconst 4, 1) := by decide +kernel
theorem dX2_mixInto_99 : decode cX2_mixInto 99 = .ok (.imul, 1) := by decide +kernel
theorem dX2_mixInto_100 : decode cX2_mixInto 100 = .ok (.iload 4, 2) := by decide +kernel
theorem dX2_mixInto_102 : decode cX2_mixInto 102 = .ok (.iadd, 1) := by decide +kernel
theorem dX2_mixInto_103 : decode cX2_mixInto 103 = .ok (.iaload, 1) := by decide +kernel
theorem dX2_mixInto_104 : decode cX2_mixInto 104 = .ok (.i2l, 1) := by decide +kernel
theorem dX2_mixInto_105 : decode cX2_mixInto 105 = .ok (.ladd, 1) := by decide +kernel
theorem dX2_mixInto_106 : decode cX2_mixInto 106 = .ok (.lstore_n 1, 1) := by decide +kernel
theorem dX2_mixInto_107 : decode cX2_mixInto 107 = .ok (.iinc 4 1, 3) := by decide +kernel
theorem dX2_mixInto_110 : decode cX2_mixInto 110 = .ok (.goto (-28), 3) := by decide +kernel
theorem dX2_mixInto_113 : decode cX2_mixInto 113 = .ok (.ldc2_w 69, 3) := by decide +kernel
theorem dX2_mixInto_116 : decode cX2_mixInto 116 = .ok (.lload_n 1, 1) := by decide +kernel
theorem dX2_mixInto_117 : decode cX2_mixInto 117 = .ok (.lmul, 1) := by decide +kernel
theorem dX2_mixInto_118 : decode cX2_mixInto 118 = .ok (.aload_n 0, 1) := by decide +kernel
theorem dX2_mixInto_119 : decode cX2_mixInto 119 = .ok (.getfield 27, 3) := by decide +kernel
theorem dX2_mixInto_122 : decode cX2_mixInto 122 = .ok (.iload_n 3, 1) := by decide +kernel
theorem dX2_mixInto_123 : decode cX2_mixInto 123 = .ok (.iaload, 1) := by decide +kernel
theorem dX2_mixInto_124 : decode cX2_mixInto 124 = .ok (.i2l, 1) := by decide +kernel
theorem dX2_mixInto_125 : decode cX2_mixInto 125 = .ok (.ladd, 1) := by decide +kernel
theorem dX2_mixInto_126 : decode cX2_mixInto 126 = .ok (.lstore_n 1, 1) := by decide +kernel
theorem dX2_mixInto_127 : decode cX2_mixInto 127 = .ok (.iinc 3 1, 3) := by decide +kernel
theorem dX2_mixInto_130 : decode cX2_mixInto 130 = .ok (.goto (-101), 3) := by decide +kernel
theorem dX2_mixInto_133 : decode cX2_mixInto 133 = .ok (.lload_n 1, 1) := by decide +kernel
theorem dX2_mixInto_134 : decode cX2_mixInto 134 = .ok (.lreturn, 1) := by decide +kernel
