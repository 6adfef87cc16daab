theorem dX4_init_0 : decode cX4_init 0 = .ok (.aload_n 0, 1) := by decide +kernel
theorem dX4_init_1 : decode cX4_init 1 = .ok (.invokespecial 3, 3) := by decide +kernel
theorem dX4_init_4 : decode cX4_init 4 = .ok (.aload_n 0, 1) := by decide +kernel
theorem dX4_init_5 : decode cX4_init 5 = .ok (.bipush 20, 2) := by decide +kernel
theorem dX4_init_7 : decode cX4_init 7 = .ok (.newarray .int, 2) := by decide +kernel
theorem dX4_init_9 : decode cX4_init 9 = .ok (.putfield 9, 3) := by decide +kernel
theorem dX4_init_12 : decode cX4_init 12 = .ok (.aload_n 0, 1) := by decide +kernel
theorem dX4_init_13 : decode cX4_init 13 = .ok (.bipush 20, 2) := by decide +kernel
theorem dX4_init_15 : decode cX4_init 15 = .ok (.newarray .int, 2) := by decide +kernel
theorem dX4_init_17 : decode cX4_init 17 = .ok (.putfield 15, 3) := by decide +kernel
theorem dX4_init_20 : decode cX4_init 20 = .ok (.aload_n 0, 1) := by decide +kernel
theorem dX4_init_21 : decode cX4_init 21 = .ok (.iconst 0, 1) := by decide +kernel
theorem dX4_init_22 : decode cX4_init 22 = .ok (.putfield 18, 3) := by decide +kernel
theorem dX4_init_25 : decode cX4_init 25 = .ok (.aload_n 0, 1) := by decide +kernel
theorem dX4_init_26 : decode cX4_init 26 = .ok (.iconst 0, 1) := by decide +kernel
theorem dX4_init_27 : decode cX4_init 27 = .ok (.putfield 22, 3) := by decide +kernel
theorem dX4_init_30 : decode cX4_init 30 = .ok (.aload_n 0, 1) := by decide +kernel
theorem dX4_init_31 : decode cX4_init 31 = .ok (.iconst 0, 1) := by decide +kernel
theorem dX4_init_32 : decode cX4_init 32 = .ok (.putfield 25, 3) := by decide +kernel
theorem dX4_init_35 : decode cX4_init 35 = .ok (.return_, 1) := by decide +kernel
theorem dX4_isFull_0 : decode cX4_isFull 0 = .ok (.aload_n 0, 1) := by decide +kernel
theorem dX4_isFull_1 : decode cX4_isFull 1 = .ok (.getfield 18, 3) := by decide +kernel
theorem dX4_isFull_4 : decode cX4_isFull 4 = .ok (.bipush 20, 2) := by decide +kernel
theorem dX4_isFull_6 : decode cX4_isFull 6 = .ok (.if_icmp .lt 7, 3) := by decide +kernel
theorem dX4_isFull_9 : decode cX4_isFull 9 = .ok (.iconst 1, 1) := by decide +kernel
theorem dX4_isFull_10 : decode cX4_isFull 10 = .ok (.goto 4, 3) := by decide +kernel
theorem dX4_isFull_13 : decode cX4_isFull 13 = .ok (.iconst 0, 1) := by decide +kernel
theorem dX4_isFull_14 : decode cX4_isFull 14 = .ok (.ireturn, 1) := by decide +kernel
theorem dX4_add_0 : decode cX4_add 0 = .ok (.aload_n 0, 1) := by decide +kernel
theorem dX4_add_1 : decode cX4_add 1 = .ok (.getfield 18, 3) := by decide +kernel
theorem dX4_add_4 : decode cX4_add 4 = .ok (.istore_n 3, 1) := by decide +kernel
theorem dX4_add_5 : decode cX4_add 5 = .ok (.iload_n 3, 1) := by decide +kernel
theorem dX4_add_6 : decode cX4_add 6 = .ok (.ifCond .le 49, 3) := by decide +kernel
theorem dX4_add_9 : decode cX4_add 9 = .ok (.aload_n 0, 1) := by decide +kernel
theorem dX4_add_10 : decode cX4_add 10 = .ok (.getfield 9, 3) := by decide +kernel
theorem dX4_add_13 : decode cX4_add 13 = .ok (.iload_n 3, 1) := by decide +kernel
theorem dX4_add_14 : decode cX4_add 14 = .ok (.iconst 1, 1) := by decide +kernel
theorem dX4_add_15 : decode cX4_add 15 = .ok (.isub, 1) := by decide +kernel
theorem dX4_add_16 : decode cX4_add 16 = .ok (.iaload, 1) := by decide +kernel
theorem dX4_add_17 : decode cX4_add 17 = .ok (.iload_n 1, 1) := by decide +kernel
theorem dX4_add_18 : decode cX4_add 18 = .ok (.if_icmp .le 37, 3) := by decide +kernel
theorem dX4_add_21 : decode cX4_add 21 = .ok (.aload_n 0, 1) := by decide +kernel
theorem dX4_add_22 : decode cX4_add 22 = .ok (.getfield 9, 3) := by decide +kernel
theorem dX4_add_25 : decode cX4_add 25 = .ok (.iload_n 3, 1) := by decide +kernel
theorem dX4_add_26 : decode cX4_add 26 = .ok (.aload_n 0, 1) := by decide +kernel
theorem dX4_add_27 : decode cX4_add 27 = .ok (.getfield 9, 3) := by decide +kernel
theorem dX4_add_30 : decode cX4_add 30 = .ok (.iload_n 3, 1) := by decide +kernel
theorem dX4_add_31 : decode cX4_add 31 = .ok (.iconst 1, 1) := by decide +kernel
theorem dX4_add_32 : decode cX4_add 32 = .ok (.isub, 1) := by decide +kernel
theorem dX4_add_33 : decode cX4_add 33 = .ok (.iaload, 1) := by decide +kernel
theorem dX4_add_34 : decode cX4_add 34 = .ok (.iastore, 1) := by decide +kernel
theorem dX4_add_35 : decode cX4_add 35 = .ok (.aload_n 0, 1) := by decide +kernel
theorem dX4_add_36 : decode cX4_add 36 = .ok (.getfield 15, 3) := by decide +kernel
theorem dX4_add_39 : decode cX4_add 39 = .ok (.iload_n 3, 1) := by decide +kernel
theorem dX4_add_40 : decode cX4_add 40 = .ok (.aload_n 0, 1) := by decide +kernel
theorem dX4_add_41 : decode cX4_add 41 = .ok (.getfield 15, 3) := by decide +kernel
theorem dX4_add_44 : decode cX4_add 44 = .ok (.iload_n 3, 1) := by decide +kernel
theorem dX4_add_45 : decode cX4_add 45 = .ok (.iconst 1, 1) := by decide +kernel
theorem dX4_add_46 : decode cX4_add 46 = .ok (.isub, 1) := by decide +kernel
theorem dX4_add_47 : decode cX4_add 47 = .ok (.iaload, 1) := by decide +kernel
theorem dX4_add_48 : decode cX4_add 48 = .ok (.iastore, 1) := by decide +kernel
theorem dX4_add_49 : decode cX4_add 49 = .ok (.iinc 3 (-1), 3) := by decide +kernel
theorem dX4_add_52 : decode cX4_add 52 = .ok (.goto (-47), 3) := by decide +kernel
theorem dX4_add_55 : decode cX4_add 55 = .ok (.aload_n 0, 1) := by decide +kernel
theorem dX4_add_56 : decode cX4_add 56 = .ok (.getfield 9, 3) := by decide +kernel
theorem dX4_add_59 : decode cX4_add 59 = .ok (.iload_n 3, 1) := by decide +kernel
theorem dX4_add_60 : decode cX4_add 60 = .ok (.iload_n 1, 1) := by decide +kernel
theorem dX4_add_61 : decode cX4_add 61 = .ok (.iastore, 1) := by decide +kernel
theorem dX4_add_62 : decode cX4_add 62 = .ok (.aload_n 0, 1) := by decide +kernel
theorem dX4_add_63 : decode cX4_add 63 = .ok (.getfield 15, 3) := by decide +kernel
theorem dX4_add_66 : decode cX4_add 66 = .ok (.iload_n 3, 1) := by decide +kernel
theorem dX4_add_67 : decode cX4_add 67 = .ok (.iload_n 2, 1) := by decide +kernel
theorem dX4_add_68 : decode cX4_add 68 = .ok (.iastore, 1) := by decide +kernel
theorem dX4_add_69 : decode cX4_add 69 = .ok (.aload_n 0, 1) := by decide +kernel
theorem dX4_add_70 : decode cX4_add 70 = .ok (.dup, 1) := by decide +kernel
theorem dX4_add_71 : decode cX4_add 71 = .ok (.getfield 18, 3) := by decide +kernel
theorem dX4_add_74 : decode cX4_add 74 = .ok (.iconst 1, 1) := by decide +kernel
theorem dX4_add_75 : decode cX4_add 75 = .ok (.iadd, 1) := by decide +kernel
theorem dX4_add_76 : decode cX4_add 76 = .ok (.putfield 18, 3) := by decide +kernel
theorem dX4_add_79 : decode cX4_add 79 = .ok (.aload_n 0, 1) := by decide +kernel
theorem dX4_add_80 : decode cX4_add 80 = .ok (.getfield 18, 3) := by decide +kernel
theorem dX4_add_83 : decode cX4_add 83 = .ok (.ireturn, 1) := by decide +kernel
set_option maxRecDepth 20000 in
theorem ggX4_findGaps_X4_addGap : GoodIn wsX4_findGaps wsX4_addGap := goodIn_r _ [17, 1, 2, 10, 11, 7, 12, 18, 19, 20, 21, 22] (by decide +kernel) (by decide +kernel)
set_option maxRecDepth 20000 in
theorem gX4_findGaps_X4_addGap : GoodIn wsX4_findGaps (wsV RX4 34 RX4 yX4_addGap wsX4_addGap) := goodIn_app (goodIn_of _ (by decide +kernel)) ggX4_findGaps_X4_addGap
theorem dX4_findGaps_0 : decode cX4_findGaps 0 = .ok (.aload_n 0, 1) := by decide +kernel
theorem dX4_findGaps_1 : decode cX4_findGaps 1 = .ok (.iconst 0, 1) := by decide +kernel
theorem dX4_findGaps_2 : decode cX4_findGaps 2 = .ok (.putfield 22, 3) := by decide +kernel
theorem dX4_findGaps_5 : decode cX4_findGaps 5 = .ok (.aload_n 0, 1) := by decide +kernel
theorem dX4_findGaps_6 : decode cX4_findGaps 6 = .ok (.iconst 0, 1) := by decide +kernel
theorem dX4_findGaps_7 : decode cX4_findGaps 7 = .ok (.putfield 25, 3) := by decide +kernel
theorem dX4_findGaps_10 : decode cX4_findGaps 10 = .ok (.iload_n 1, 1) := by decide +kernel
theorem dX4_findGaps_11 : decode cX4_findGaps 11 = .ok (.istore_n 3, 1) := by decide +kernel
theorem dX4_findGaps_12 : decode cX4_findGaps 12 = .ok (.iconst 0, 1) := by decide +kernel
theorem dX4_findGaps_13 : decode cX4_findGaps 13 = .ok (.istore 4, 2) := by decide +kernel
theorem dX4_findGaps_15 : decode cX4_findGaps 15 = .ok (.iload 4, 2) := by decide +kernel
theorem dX4_findGaps_17 : decode cX4_findGaps 17 = .ok (.aload_n 0, 1) := by decide +kernel
theorem dX4_findGaps_18 : decode cX4_findGaps 18 = .ok (.getfield 18, 3) := by decide +kernel
theorem dX4_findGaps_21 : decode cX4_findGaps 21 = .ok (.if_icmp .ge 42, 3) := by decide +kernel
theorem dX4_findGaps_24 : decode cX4_findGaps 24 = .ok (.aload_n 0, 1) := by decide +kernel
theorem dX4_findGaps_25 : decode cX4_findGaps 25 = .ok (.aload_n 0, 1) := by decide +kernel
theorem dX4_findGaps_26 : decode cX4_findGaps 26 = .ok (.getfield 9, 3) := by decide +kernel
theorem dX4_findGaps_29 : decode cX4_findGaps 29 = .ok (.iload 4, 2) := by decide +kernel
theorem dX4_findGaps_31 : decode cX4_findGaps 31 = .ok (.iaload, 1) := by decide +kernel
theorem dX4_findGaps_32 : decode cX4_findGaps 32 = .ok (.iload_n 2, 1) := by decide +kernel
theorem dX4_findGaps_33 : decode cX4_findGaps 33 = .ok (.iconst 1, 1) := by decide +kernel
theorem dX4_findGaps_34 : decode cX4_findGaps 34 = .ok (.iadd, 1) := by decide +kernel
theorem dX4_findGaps_35 : decode cX4_findGaps 35 = .ok (.invokestatic 28, 3) := by decide +kernel
theorem dX4_findGaps_38 : decode cX4_findGaps 38 = .ok (.iload_n 3, 1) := by decide +kernel
theorem dX4_findGaps_39 : decode cX4_findGaps 39 = .ok (.isub, 1) := by decide +kernel
theorem dX4_findGaps_40 : decode cX4_findGaps 40 = .ok (.invokevirtual 34, 3) := by decide +kernel
theorem dX4_findGaps_43 : decode cX4_findGaps 43 = .ok (.iload_n 3, 1) := by decide +kernel
theorem dX4_findGaps_44 : decode cX4_findGaps 44 = .ok (.aload_n 0, 1) := by decide +kernel
theorem dX4_findGaps_45 : decode cX4_findGaps 45 = .ok (.getfield 15, 3) := by decide +kernel
theorem dX4_findGaps_48 : decode cX4_findGaps 48 = .ok (.iload 4, 2) := by decide +kernel
theorem dX4_findGaps_50 : decode cX4_findGaps 50 = .ok (.iaload, 1) := by decide +kernel
theorem dX4_findGaps_51 : decode cX4_findGaps 51 = .ok (.iconst 1, 1) := by decide +kernel
theorem dX4_findGaps_52 : decode cX4_findGaps 52 = .ok (.iadd, 1) := by decide +kernel
theorem dX4_findGaps_53 : decode cX4_findGaps 53 = .ok (.invokestatic 38, 3) := by decide +kernel
theorem dX4_findGaps_56 : decode cX4_findGaps 56 = .ok (.istore_n 3, 1) := by decide +kernel
theorem dX4_findGaps_57 : decode cX4_findGaps 57 = .ok (.iinc 4 1, 3) := by decide +kernel
theorem dX4_findGaps_60 : decode cX4_findGaps 60 = .ok (.goto (-45), 3) := by decide +kernel
theorem dX4_findGaps_63 : decode cX4_findGaps 63 = .ok (.aload_n 0, 1) := by decide +kernel
theorem dX4_findGaps_64 : decode cX4_findGaps 64 = .ok (.iload_n 2, 1) := by decide +kernel
theorem dX4_findGaps_65 : decode cX4_findGaps 65 = .ok (.iconst 1, 1) := by decide +kernel
theorem dX4_findGaps_66 : decode cX4_findGaps 66 = .ok (.iadd, 1) := by decide +kernel
theorem dX4_findGaps_67 : decode cX4_findGaps 67 = .ok (.iload_n 3, 1) := by decide +kernel
theorem dX4_findGaps_68 : decode cX4_findGaps 68 = .ok (.isub, 1) := by decide +kernel
theorem dX4_findGaps_69 : decode cX4_findGaps 69 = .ok (.invokevirtual 34, 3) := by decide +kernel
theorem dX4_findGaps_72 : decode cX4_findGaps 72 = .ok (.return_, 1) := by decide +kernel
theorem dX4_addGap_0 : decode cX4_addGap 0 = .ok (.iload_n 1, 1) := by decide +kernel
theorem dX4_addGap_1 : decode cX4_addGap 1 = .ok (.ifCond .le 25, 3) := by decide +kernel
theorem dX4_addGap_4 : decode cX4_addGap 4 = .ok (.aload_n 0, 1) := by decide +kernel
theorem dX4_addGap_5 : decode cX4_addGap 5 = .ok (.dup, 1) := by decide +kernel
theorem dX4_addGap_6 : decode cX4_addGap 6 = .ok (.getfield 22, 3) := by decide +kernel
theorem dX4_addGap_9 : decode cX4_addGap 9 = .ok (.iload_n 1, 1) := by decide +kernel
theorem dX4_addGap_10 : decode cX4_addGap 10 = .ok (.iadd, 1) := by decide +kernel
theorem dX4_addGap_11 : decode cX4_addGap 11 = .ok (.putfield 22, 3) := by decide +kernel
theorem dX4_addGap_14 : decode cX4_addGap 14 = .ok (.aload_n 0, 1) := by decide +kernel
theorem dX4_addGap_15 : decode cX4_addGap 15 = .ok (.aload_n 0, 1) := by decide +kernel
theorem dX4_addGap_16 : decode cX4_addGap 16 = .ok (.getfield 25, 3) := by decide +kernel
theorem dX4_addGap_19 : decode cX4_addGap 19 = .ok (.iload_n 1, 1) := by decide +kernel
theorem dX4_addGap_20 : decode cX4_addGap 20 = .ok (.invokestatic 38, 3) := by decide +kernel
theorem dX4_addGap_23 : decode cX4_addGap 23 = .ok (.putfield 25, 3) := by decide +kernel
theorem dX4_addGap_26 : decode cX4_addGap 26 = .ok (.return_, 1) := by decide +kernel
