set_option maxRecDepth 20000 in
theorem ggX5_init_X6_init : GoodIn wsX5_init wsX6_init := goodIn_r _ [25, 26, 2, 3, 8, 27, 28, 29, 30, 31] (by decide +kernel) (by decide +kernel)
set_option maxRecDepth 20000 in
theorem gX5_init_X6_init : GoodIn wsX5_init (wsX6_init) := ggX5_init_X6_init
theorem dX5_init_0 : decode cX5_init 0 = .ok (.aload_n 0, 1) := by decide +kernel
theorem dX5_init_1 : decode cX5_init 1 = .ok (.invokespecial 3, 3) := by decide +kernel
theorem dX5_init_4 : decode cX5_init 4 = .ok (.aload_n 0, 1) := by decide +kernel
theorem dX5_init_5 : decode cX5_init 5 = .ok (.new 9, 3) := by decide +kernel
theorem dX5_init_8 : decode cX5_init 8 = .ok (.dup, 1) := by decide +kernel
theorem dX5_init_9 : decode cX5_init 9 = .ok (.invokespecial 11, 3) := by decide +kernel
theorem dX5_init_12 : decode cX5_init 12 = .ok (.putfield 12, 3) := by decide +kernel
theorem dX5_init_15 : decode cX5_init 15 = .ok (.aload_n 0, 1) := by decide +kernel
theorem dX5_init_16 : decode cX5_init 16 = .ok (.bipush 10, 2) := by decide +kernel
theorem dX5_init_18 : decode cX5_init 18 = .ok (.newarray .int, 2) := by decide +kernel
theorem dX5_init_20 : decode cX5_init 20 = .ok (.putfield 18, 3) := by decide +kernel
theorem dX5_init_23 : decode cX5_init 23 = .ok (.aload_n 0, 1) := by decide +kernel
theorem dX5_init_24 : decode cX5_init 24 = .ok (.bipush 24, 2) := by decide +kernel
theorem dX5_init_26 : decode cX5_init 26 = .ok (.newarray .int, 2) := by decide +kernel
theorem dX5_init_28 : decode cX5_init 28 = .ok (.putfield 22, 3) := by decide +kernel
theorem dX5_init_31 : decode cX5_init 31 = .ok (.aload_n 0, 1) := by decide +kernel
theorem dX5_init_32 : decode cX5_init 32 = .ok (.bipush 24, 2) := by decide +kernel
theorem dX5_init_34 : decode cX5_init 34 = .ok (.newarray .int, 2) := by decide +kernel
theorem dX5_init_36 : decode cX5_init 36 = .ok (.putfield 25, 3) := by decide +kernel
theorem dX5_init_39 : decode cX5_init 39 = .ok (.aload_n 0, 1) := by decide +kernel
theorem dX5_init_40 : decode cX5_init 40 = .ok (.bipush 24, 2) := by decide +kernel
theorem dX5_init_42 : decode cX5_init 42 = .ok (.newarray .int, 2) := by decide +kernel
theorem dX5_init_44 : decode cX5_init 44 = .ok (.putfield 28, 3) := by decide +kernel
theorem dX5_init_47 : decode cX5_init 47 = .ok (.aload_n 0, 1) := by decide +kernel
theorem dX5_init_48 : decode cX5_init 48 = .ok (.bipush 24, 2) := by decide +kernel
theorem dX5_init_50 : decode cX5_init 50 = .ok (.newarray .int, 2) := by decide +kernel
theorem dX5_init_52 : decode cX5_init 52 = .ok (.putfield 31, 3) := by decide +kernel
theorem dX5_init_55 : decode cX5_init 55 = .ok (.aload_n 0, 1) := by decide +kernel
theorem dX5_init_56 : decode cX5_init 56 = .ok (.bipush 24, 2) := by decide +kernel
theorem dX5_init_58 : decode cX5_init 58 = .ok (.newarray .int, 2) := by decide +kernel
theorem dX5_init_60 : decode cX5_init 60 = .ok (.putfield 34, 3) := by decide +kernel
theorem dX5_init_63 : decode cX5_init 63 = .ok (.aload_n 0, 1) := by decide +kernel
theorem dX5_init_64 : decode cX5_init 64 = .ok (.bipush 24, 2) := by decide +kernel
theorem dX5_init_66 : decode cX5_init 66 = .ok (.newarray .int, 2) := by decide +kernel
theorem dX5_init_68 : decode cX5_init 68 = .ok (.putfield 37, 3) := by decide +kernel
theorem dX5_init_71 : decode cX5_init 71 = .ok (.aload_n 0, 1) := by decide +kernel
theorem dX5_init_72 : decode cX5_init 72 = .ok (.bipush 24, 2) := by decide +kernel
theorem dX5_init_74 : decode cX5_init 74 = .ok (.newarray .int, 2) := by decide +kernel
theorem dX5_init_76 : decode cX5_init 76 = .ok (.putfield 40, 3) := by decide +kernel
theorem dX5_init_79 : decode cX5_init 79 = .ok (.aload_n 0, 1) := by decide +kernel
theorem dX5_init_80 : decode cX5_init 80 = .ok (.bipush 24, 2) := by decide +kernel
theorem dX5_init_82 : decode cX5_init 82 = .ok (.newarray .int, 2) := by decide +kernel
theorem dX5_init_84 : decode cX5_init 84 = .ok (.putfield 43, 3) := by decide +kernel
theorem dX5_init_87 : decode cX5_init 87 = .ok (.aload_n 0, 1) := by decide +kernel
theorem dX5_init_88 : decode cX5_init 88 = .ok (.bipush 8, 2) := by decide +kernel
theorem dX5_init_90 : decode cX5_init 90 = .ok (.putfield 46, 3) := by decide +kernel
theorem dX5_init_93 : decode cX5_init 93 = .ok (.aload_n 0, 1) := by decide +kernel
theorem dX5_init_94 : decode cX5_init 94 = .ok (.bipush 24, 2) := by decide +kernel
theorem dX5_init_96 : decode cX5_init 96 = .ok (.putfield 50, 3) := by decide +kernel
theorem dX5_init_99 : decode cX5_init 99 = .ok (.aload_n 0, 1) := by decide +kernel
theorem dX5_init_100 : decode cX5_init 100 = .ok (.bipush 10, 2) := by decide +kernel
theorem dX5_init_102 : decode cX5_init 102 = .ok (.putfield 53, 3) := by decide +kernel
theorem dX5_init_105 : decode cX5_init 105 = .ok (.aload_n 0, 1) := by decide +kernel
theorem dX5_init_106 : decode cX5_init 106 = .ok (.iconst 0, 1) := by decide +kernel
theorem dX5_init_107 : decode cX5_init 107 = .ok (.putfield 56, 3) := by decide +kernel
theorem dX5_init_110 : decode cX5_init 110 = .ok (.aload_n 0, 1) := by decide +kernel
theorem dX5_init_111 : decode cX5_init 111 = .ok (.iconst 0, 1) := by decide +kernel
theorem dX5_init_112 : decode cX5_init 112 = .ok (.putfield 59, 3) := by decide +kernel
theorem dX5_init_115 : decode cX5_init 115 = .ok (.iconst 0, 1) := by decide +kernel
theorem dX5_init_116 : decode cX5_init 116 = .ok (.istore_n 1, 1) := by decide +kernel
theorem dX5_init_117 : decode cX5_init 117 = .ok (.iload_n 1, 1) := by decide +kernel
theorem dX5_init_118 : decode cX5_init 118 = .ok (.bipush 10, 2) := by decide +kernel
theorem dX5_init_120 : decode cX5_init 120 = .ok (.if_icmp .ge 18, 3) := by decide +kernel
theorem dX5_init_123 : decode cX5_init 123 = .ok (.aload_n 0, 1) := by decide +kernel
theorem dX5_init_124 : decode cX5_init 124 = .ok (.getfield 18, 3) := by decide +kernel
theorem dX5_init_127 : decode cX5_init 127 = .ok (.iload_n 1, 1) := by decide +kernel
theorem dX5_init_128 : decode cX5_init 128 = .ok (.sipush 1000, 3) := by decide +kernel
theorem dX5_init_131 : decode cX5_init 131 = .ok (.iastore, 1) := by decide +kernel
theorem dX5_init_132 : decode cX5_init 132 = .ok (.iinc 1 1, 3) := by decide +kernel
theorem dX5_init_135 : decode cX5_init 135 = .ok (.goto (-18), 3) := by decide +kernel
theorem dX5_init_138 : decode cX5_init 138 = .ok (.return_, 1) := by decide +kernel
theorem dX5_isFull_0 : decode cX5_isFull 0 = .ok (.aload_n 0, 1) := by decide +kernel
theorem dX5_isFull_1 : decode cX5_isFull 1 = .ok (.getfield 56, 3) := by decide +kernel
theorem dX5_isFull_4 : decode cX5_isFull 4 = .ok (.bipush 24, 2) := by decide +kernel
theorem dX5_isFull_6 : decode cX5_isFull 6 = .ok (.if_icmp .lt 7, 3) := by decide +kernel
theorem dX5_isFull_9 : decode cX5_isFull 9 = .ok (.iconst 1, 1) := by decide +kernel
theorem dX5_isFull_10 : decode cX5_isFull 10 = .ok (.goto 4, 3) := by decide +kernel
theorem dX5_isFull_13 : decode cX5_isFull 13 = .ok (.iconst 0, 1) := by decide +kernel
theorem dX5_isFull_14 : decode cX5_isFull 14 = .ok (.ireturn, 1) := by decide +kernel
theorem dX5_has_0 : decode cX5_has 0 = .ok (.iload_n 1, 1) := by decide +kernel
theorem dX5_has_1 : decode cX5_has 1 = .ok (.ifCond .lt 15, 3) := by decide +kernel
theorem dX5_has_4 : decode cX5_has 4 = .ok (.iload_n 1, 1) := by decide +kernel
theorem dX5_has_5 : decode cX5_has 5 = .ok (.aload_n 0, 1) := by decide +kernel
theorem dX5_has_6 : decode cX5_has 6 = .ok (.getfield 56, 3) := by decide +kernel
theorem dX5_has_9 : decode cX5_has 9 = .ok (.if_icmp .ge 7, 3) := by decide +kernel
theorem dX5_has_12 : decode cX5_has 12 = .ok (.iconst 1, 1) := by decide +kernel
theorem dX5_has_13 : decode cX5_has 13 = .ok (.goto 4, 3) := by decide +kernel
theorem dX5_has_16 : decode cX5_has 16 = .ok (.iconst 0, 1) := by decide +kernel
theorem dX5_has_17 : decode cX5_has 17 = .ok (.ireturn, 1) := by decide +kernel
theorem dX5_swapPaintYear_0 : decode cX5_swapPaintYear 0 = .ok (.aload_n 0, 1) := by decide +kernel
theorem dX5_swapPaintYear_1 : decode cX5_swapPaintYear 1 = .ok (.getfield 18, 3) := by decide +kernel
theorem dX5_swapPaintYear_4 : decode cX5_swapPaintYear 4 = .ok (.iload_n 1, 1) := by decide +kernel
theorem dX5_swapPaintYear_5 : decode cX5_swapPaintYear 5 = .ok (.iaload, 1) := by decide +kernel
theorem dX5_swapPaintYear_6 : decode cX5_swapPaintYear 6 = .ok (.istore_n 3, 1) := by decide +kernel
theorem dX5_swapPaintYear_7 : decode cX5_swapPaintYear 7 = .ok (.aload_n 0, 1) := by decide +kernel
theorem dX5_swapPaintYear_8 : decode cX5_swapPaintYear 8 = .ok (.getfield 18, 3) := by decide +kernel
theorem dX5_swapPaintYear_11 : decode cX5_swapPaintYear 11 = .ok (.iload_n 1, 1) := by decide +kernel
theorem dX5_swapPaintYear_12 : decode cX5_swapPaintYear 12 = .ok (.iload_n 2, 1) := by decide +kernel
theorem dX5_swapPaintYear_13 : decode cX5_swapPaintYear 13 = .ok (.iastore, 1) := by decide +kernel
theorem dX5_swapPaintYear_14 : decode cX5_swapPaintYear 14 = .ok (.iload_n 3, 1) := by decide +kernel
theorem dX5_swapPaintYear_15 : decode cX5_swapPaintYear 15 = .ok (.ireturn, 1) := by decide +kernel
theorem dX5_setSap_0 : decode cX5_setSap 0 = .ok (.aload_n 0, 1) := by decide +kernel
theorem dX5_setSap_1 : decode cX5_setSap 1 = .ok (.iload_n 1, 1) := by decide +kernel
theorem dX5_setSap_2 : decode cX5_setSap 2 = .ok (.putfield 46, 3) := by decide +kernel
theorem dX5_setSap_5 : decode cX5_setSap 5 = .ok (.aload_n 0, 1) := by decide +kernel
theorem dX5_setSap_6 : decode cX5_setSap 6 = .ok (.iload_n 2, 1) := by decide +kernel
theorem dX5_setSap_7 : decode cX5_setSap 7 = .ok (.putfield 50, 3) := by decide +kernel
theorem dX5_setSap_10 : decode cX5_setSap 10 = .ok (.aload_n 0, 1) := by decide +kernel
theorem dX5_setSap_11 : decode cX5_setSap 11 = .ok (.iload_n 3, 1) := by decide +kernel
theorem dX5_setSap_12 : decode cX5_setSap 12 = .ok (.putfield 53, 3) := by decide +kernel
theorem dX5_setSap_15 : decode cX5_setSap 15 = .ok (.return_, 1) := by decide +kernel
set_option maxRecDepth 20000 in
theorem ggX5_addYears_X5_add : GoodIn wsX5_addYears wsX5_add := goodIn_r _ [8, 9, 2, 10, 11, 12, 13, 14, 15, 16, 17, 18, 19, 20, 21, 22, 23, 24, 25, 26, 27] (by decide +kernel) (by decide +kernel)
set_option maxRecDepth 20000 in
theorem gX5_addYears_X5_add : GoodIn wsX5_addYears (wsV RX5 62 RX5 yX5_add wsX5_add) := goodIn_app (goodIn_of _ (by decide +kernel)) ggX5_addYears_X5_add
theorem dX5_addYears_0 : decode cX5_addYears 0 = .ok (.aload_n 0, 1) := by decide +kernel
theorem dX5_addYears_1 : decode cX5_addYears 1 = .ok (.getfield 40, 3) := by decide +kernel
theorem dX5_addYears_4 : decode cX5_addYears 4 = .ok (.aload_n 0, 1) := by decide +kernel
theorem dX5_addYears_5 : decode cX5_addYears 5 = .ok (.getfield 56, 3) := by decide +kernel
theorem dX5_addYears_8 : decode cX5_addYears 8 = .ok (.iload_n 1, 1) := by decide +kernel
theorem dX5_addYears_9 : decode cX5_addYears 9 = .ok (.iastore, 1) := by decide +kernel
theorem dX5_addYears_10 : decode cX5_addYears 10 = .ok (.aload_n 0, 1) := by decide +kernel
theorem dX5_addYears_11 : decode cX5_addYears 11 = .ok (.getfield 43, 3) := by decide +kernel
theorem dX5_addYears_14 : decode cX5_addYears 14 = .ok (.aload_n 0, 1) := by decide +kernel
theorem dX5_addYears_15 : decode cX5_addYears 15 = .ok (.getfield 56, 3) := by decide +kernel
theorem dX5_addYears_18 : decode cX5_addYears 18 = .ok (.iload_n 2, 1) := by decide +kernel
theorem dX5_addYears_19 : decode cX5_addYears 19 = .ok (.iastore, 1) := by decide +kernel
theorem dX5_addYears_20 : decode cX5_addYears 20 = .ok (.aload_n 0, 1) := by decide +kernel
theorem dX5_addYears_21 : decode cX5_addYears 21 = .ok (.iconst 0, 1) := by decide +kernel
theorem dX5_addYears_22 : decode cX5_addYears 22 = .ok (.iload_n 3, 1) := by decide +kernel
theorem dX5_addYears_23 : decode cX5_addYears 23 = .ok (.iload 4, 2) := by decide +kernel
theorem dX5_addYears_25 : decode cX5_addYears 25 = .ok (.invokevirtual 62, 3) := by decide +kernel
theorem dX5_addYears_28 : decode cX5_addYears 28 = .ok (.ireturn, 1) := by decide +kernel
set_option maxRecDepth 20000 in
theorem ggX5_addPaint_X5_add : GoodIn wsX5_addPaint wsX5_add := goodIn_r _ [7, 8, 2, 9, 10, 11, 12, 13, 14, 15, 16, 17, 18, 19, 20, 21, 22, 23, 24, 25, 26] (by decide +kernel) (by decide +kernel)
set_option maxRecDepth 20000 in
theorem gX5_addPaint_X5_add : GoodIn wsX5_addPaint (wsV RX5 62 RX5 yX5_add wsX5_add) := goodIn_app (goodIn_of _ (by decide +kernel)) ggX5_addPaint_X5_add
theorem dX5_addPaint_0 : decode cX5_addPaint 0 = .ok (.aload_n 0, 1) := by decide +kernel
theorem dX5_addPaint_1 : decode cX5_addPaint 1 = .ok (.getfield 34, 3) := by decide +kernel
theorem dX5_addPaint_4 : decode cX5_addPaint 4 = .ok (.aload_n 0, 1) := by decide +kernel
theorem dX5_addPaint_5 : decode cX5_addPaint 5 = .ok (.getfield 56, 3) := by decide +kernel
theorem dX5_addPaint_8 : decode cX5_addPaint 8 = .ok (.iload_n 1, 1) := by decide +kernel
theorem dX5_addPaint_9 : decode cX5_addPaint 9 = .ok (.iastore, 1) := by decide +kernel
theorem dX5_addPaint_10 : decode cX5_addPaint 10 = .ok (.aload_n 0, 1) := by decide +kernel
theorem dX5_addPaint_11 : decode cX5_addPaint 11 = .ok (.iconst 1, 1) := by decide +kernel
theorem dX5_addPaint_12 : decode cX5_addPaint 12 = .ok (.iload_n 2, 1) := by decide +kernel
theorem dX5_addPaint_13 : decode cX5_addPaint 13 = .ok (.iload_n 3, 1) := by decide +kernel
theorem dX5_addPaint_14 : decode cX5_addPaint 14 = .ok (.invokevirtual 62, 3) := by decide +kernel
theorem dX5_addPaint_17 : decode cX5_addPaint 17 = .ok (.ireturn, 1) := by decide +kernel
set_option maxRecDepth 20000 in
theorem ggX5_addRings_X5_add : GoodIn wsX5_addRings wsX5_add := goodIn_r _ [8, 9, 2, 10, 11, 12, 13, 14, 15, 16, 17, 18, 19, 20, 21, 22, 23, 24, 25, 26, 27] (by decide +kernel) (by decide +kernel)
set_option maxRecDepth 20000 in
theorem gX5_addRings_X5_add : GoodIn wsX5_addRings (wsV RX5 62 RX5 yX5_add wsX5_add) := goodIn_app (goodIn_of _ (by decide +kernel)) ggX5_addRings_X5_add
theorem dX5_addRings_0 : decode cX5_addRings 0 = .ok (.aload_n 0, 1) := by decide +kernel
theorem dX5_addRings_1 : decode cX5_addRings 1 = .ok (.getfield 40, 3) := by decide +kernel
theorem dX5_addRings_4 : decode cX5_addRings 4 = .ok (.aload_n 0, 1) := by decide +kernel
theorem dX5_addRings_5 : decode cX5_addRings 5 = .ok (.getfield 56, 3) := by decide +kernel
theorem dX5_addRings_8 : decode cX5_addRings 8 = .ok (.iload_n 1, 1) := by decide +kernel
theorem dX5_addRings_9 : decode cX5_addRings 9 = .ok (.iastore, 1) := by decide +kernel
theorem dX5_addRings_10 : decode cX5_addRings 10 = .ok (.aload_n 0, 1) := by decide +kernel
theorem dX5_addRings_11 : decode cX5_addRings 11 = .ok (.getfield 34, 3) := by decide +kernel
theorem dX5_addRings_14 : decode cX5_addRings 14 = .ok (.aload_n 0, 1) := by decide +kernel
theorem dX5_addRings_15 : decode cX5_addRings 15 = .ok (.getfield 56, 3) := by decide +kernel
theorem dX5_addRings_18 : decode cX5_addRings 18 = .ok (.iload_n 2, 1) := by decide +kernel
theorem dX5_addRings_19 : decode cX5_addRings 19 = .ok (.iastore, 1) := by decide +kernel
theorem dX5_addRings_20 : decode cX5_addRings 20 = .ok (.aload_n 0, 1) := by decide +kernel
theorem dX5_addRings_21 : decode cX5_addRings 21 = .ok (.iconst 2, 1) := by decide +kernel
theorem dX5_addRings_22 : decode cX5_addRings 22 = .ok (.iload_n 3, 1) := by decide +kernel
theorem dX5_addRings_23 : decode cX5_addRings 23 = .ok (.iload 4, 2) := by decide +kernel
theorem dX5_addRings_25 : decode cX5_addRings 25 = .ok (.invokevirtual 62, 3) := by decide +kernel
theorem dX5_addRings_28 : decode cX5_addRings 28 = .ok (.ireturn, 1) := by decide +kernel
set_option maxRecDepth 20000 in
theorem ggX5_addThreads_X5_add : GoodIn wsX5_addThreads wsX5_add := goodIn_r _ [10, 11, 2, 12, 13, 14, 15, 16, 17, 18, 19, 20, 21, 22, 23, 24, 25, 26, 27, 28, 29] (by decide +kernel) (by decide +kernel)
set_option maxRecDepth 20000 in
theorem gX5_addThreads_X5_add : GoodIn wsX5_addThreads (wsV RX5 62 RX5 yX5_add wsX5_add) := goodIn_app (goodIn_of _ (by decide +kernel)) ggX5_addThreads_X5_add
theorem dX5_addThreads_0 : decode cX5_addThreads 0 = .ok (.aload_n 0, 1) := by decide +kernel
theorem dX5_addThreads_1 : decode cX5_addThreads 1 = .ok (.getfield 34, 3) := by decide +kernel
theorem dX5_addThreads_4 : decode cX5_addThreads 4 = .ok (.aload_n 0, 1) := by decide +kernel
theorem dX5_addThreads_5 : decode cX5_addThreads 5 = .ok (.getfield 56, 3) := by decide +kernel
theorem dX5_addThreads_8 : decode cX5_addThreads 8 = .ok (.iload_n 1, 1) := by decide +kernel
theorem dX5_addThreads_9 : decode cX5_addThreads 9 = .ok (.iastore, 1) := by decide +kernel
theorem dX5_addThreads_10 : decode cX5_addThreads 10 = .ok (.aload_n 0, 1) := by decide +kernel
theorem dX5_addThreads_11 : decode cX5_addThreads 11 = .ok (.getfield 37, 3) := by decide +kernel
theorem dX5_addThreads_14 : decode cX5_addThreads 14 = .ok (.aload_n 0, 1) := by decide +kernel
theorem dX5_addThreads_15 : decode cX5_addThreads 15 = .ok (.getfield 56, 3) := by decide +kernel
theorem dX5_addThreads_18 : decode cX5_addThreads 18 = .ok (.iload_n 2, 1) := by decide +kernel
theorem dX5_addThreads_19 : decode cX5_addThreads 19 = .ok (.iastore, 1) := by decide +kernel
theorem dX5_addThreads_20 : decode cX5_addThreads 20 = .ok (.aload_n 0, 1) := by decide +kernel
theorem dX5_addThreads_21 : decode cX5_addThreads 21 = .ok (.getfield 40, 3) := by decide +kernel
theorem dX5_addThreads_24 : decode cX5_addThreads 24 = .ok (.aload_n 0, 1) := by decide +kernel
theorem dX5_addThreads_25 : decode cX5_addThreads 25 = .ok (.getfield 56, 3) := by decide +kernel
theorem dX5_addThreads_28 : decode cX5_addThreads 28 = .ok (.iload_n 3, 1) := by decide +kernel
theorem dX5_addThreads_29 : decode cX5_addThreads 29 = .ok (.iastore, 1) := by decide +kernel
theorem dX5_addThreads_30 : decode cX5_addThreads 30 = .ok (.aload_n 0, 1) := by decide +kernel
theorem dX5_addThreads_31 : decode cX5_addThreads 31 = .ok (.getfield 43, 3) := by decide +kernel
theorem dX5_addThreads_34 : decode cX5_addThreads 34 = .ok (.aload_n 0, 1) := by decide +kernel
theorem dX5_addThreads_35 : decode cX5_addThreads 35 = .ok (.getfield 56, 3) := by decide +kernel
theorem dX5_addThreads_38 : decode cX5_addThreads 38 = .ok (.iload 4, 2) := by decide +kernel
theorem dX5_addThreads_40 : decode cX5_addThreads 40 = .ok (.iastore, 1) := by decide +kernel
theorem dX5_addThreads_41 : decode cX5_addThreads 41 = .ok (.aload_n 0, 1) := by decide +kernel
theorem dX5_addThreads_42 : decode cX5_addThreads 42 = .ok (.iconst 3, 1) := by decide +kernel
theorem dX5_addThreads_43 : decode cX5_addThreads 43 = .ok (.iload 5, 2) := by decide +kernel
theorem dX5_addThreads_45 : decode cX5_addThreads 45 = .ok (.iload 6, 2) := by decide +kernel
theorem dX5_addThreads_47 : decode cX5_addThreads 47 = .ok (.invokevirtual 62, 3) := by decide +kernel
theorem dX5_addThreads_50 : decode cX5_addThreads 50 = .ok (.ireturn, 1) := by decide +kernel
theorem dX5_add_0 : decode cX5_add 0 = .ok (.aload_n 0, 1) := by decide +kernel
theorem dX5_add_1 : decode cX5_add 1 = .ok (.getfield 22, 3) := by decide +kernel
theorem dX5_add_4 : decode cX5_add 4 = .ok (.aload_n 0, 1) := by decide +kernel
theorem dX5_add_5 : decode cX5_add 5 = .ok (.getfield 56, 3) := by decide +kernel
theorem dX5_add_8 : decode cX5_add 8 = .ok (.iload_n 1, 1) := by decide +kernel
theorem dX5_add_9 : decode cX5_add 9 = .ok (.iastore, 1) := by decide +kernel
theorem dX5_add_10 : decode cX5_add 10 = .ok (.aload_n 0, 1) := by decide +kernel
theorem dX5_add_11 : decode cX5_add 11 = .ok (.getfield 25, 3) := by decide +kernel
theorem dX5_add_14 : decode cX5_add 14 = .ok (.aload_n 0, 1) := by decide +kernel
theorem dX5_add_15 : decode cX5_add 15 = .ok (.getfield 56, 3) := by decide +kernel
theorem dX5_add_18 : decode cX5_add 18 = .ok (.iload_n 2, 1) := by decide +kernel
theorem dX5_add_19 : decode cX5_add 19 = .ok (.iastore, 1) := by decide +kernel
theorem dX5_add_20 : decode cX5_add 20 = .ok (.aload_n 0, 1) := by decide +kernel
theorem dX5_add_21 : decode cX5_add 21 = .ok (.getfield 28, 3) := by decide +kernel
theorem dX5_add_24 : decode cX5_add 24 = .ok (.aload_n 0, 1) := by decide +kernel
theorem dX5_add_25 : decode cX5_add 25 = .ok (.getfield 56, 3) := by decide +kernel
theorem dX5_add_28 : decode cX5_add 28 = .ok (.iload_n 3, 1) := by decide +kernel
theorem dX5_add_29 : decode cX5_add 29 = .ok (.iastore, 1) := by decide +kernel
theorem dX5_add_30 : decode cX5_add 30 = .ok (.aload_n 0, 1) := by decide +kernel
theorem dX5_add_31 : decode cX5_add 31 = .ok (.getfield 31, 3) := by decide +kernel
theorem dX5_add_34 : decode cX5_add 34 = .ok (.aload_n 0, 1) := by decide +kernel
theorem dX5_add_35 : decode cX5_add 35 = .ok (.getfield 56, 3) := by decide +kernel
theorem dX5_add_38 : decode cX5_add 38 = .ok (.bipush (-9), 2) := by decide +kernel
theorem dX5_add_40 : decode cX5_add 40 = .ok (.iastore, 1) := by decide +kernel
theorem dX5_add_41 : decode cX5_add 41 = .ok (.aload_n 0, 1) := by decide +kernel
theorem dX5_add_42 : decode cX5_add 42 = .ok (.dup, 1) := by decide +kernel
theorem dX5_add_43 : decode cX5_add 43 = .ok (.getfield 56, 3) := by decide +kernel
theorem dX5_add_46 : decode cX5_add 46 = .ok (.iconst 1, 1) := by decide +kernel
theorem dX5_add_47 : decode cX5_add 47 = .ok (.iadd, 1) := by decide +kernel
theorem dX5_add_48 : decode cX5_add 48 = .ok (.putfield 56, 3) := by decide +kernel
theorem dX5_add_51 : decode cX5_add 51 = .ok (.aload_n 0, 1) := by decide +kernel
theorem dX5_add_52 : decode cX5_add 52 = .ok (.getfield 56, 3) := by decide +kernel
theorem dX5_add_55 : decode cX5_add 55 = .ok (.iconst 1, 1) := by decide +kernel
theorem dX5_add_56 : decode cX5_add 56 = .ok (.isub, 1) := by decide +kernel
theorem dX5_add_57 : decode cX5_add 57 = .ok (.ireturn, 1) := by decide +kernel
theorem dX5_isStruck_0 : decode cX5_isStruck 0 = .ok (.aload_n 0, 1) := by decide +kernel
theorem dX5_isStruck_1 : decode cX5_isStruck 1 = .ok (.getfield 31, 3) := by decide +kernel
theorem dX5_isStruck_4 : decode cX5_isStruck 4 = .ok (.iload_n 1, 1) := by decide +kernel
theorem dX5_isStruck_5 : decode cX5_isStruck 5 = .ok (.iaload, 1) := by decide +kernel
theorem dX5_isStruck_6 : decode cX5_isStruck 6 = .ok (.bipush (-9), 2) := by decide +kernel
theorem dX5_isStruck_8 : decode cX5_isStruck 8 = .ok (.if_icmp .eq 7, 3) := by decide +kernel
theorem dX5_isStruck_11 : decode cX5_isStruck 11 = .ok (.iconst 1, 1) := by decide +kernel
theorem dX5_isStruck_12 : decode cX5_isStruck 12 = .ok (.goto 4, 3) := by decide +kernel
theorem dX5_isStruck_15 : decode cX5_isStruck 15 = .ok (.iconst 0, 1) := by decide +kernel
theorem dX5_isStruck_16 : decode cX5_isStruck 16 = .ok (.ireturn, 1) := by decide +kernel
theorem dX5_strikeOn_0 : decode cX5_strikeOn 0 = .ok (.aload_n 0, 1) := by decide +kernel
theorem dX5_strikeOn_1 : decode cX5_strikeOn 1 = .ok (.getfield 31, 3) := by decide +kernel
theorem dX5_strikeOn_4 : decode cX5_strikeOn 4 = .ok (.iload_n 1, 1) := by decide +kernel
theorem dX5_strikeOn_5 : decode cX5_strikeOn 5 = .ok (.iload_n 2, 1) := by decide +kernel
theorem dX5_strikeOn_6 : decode cX5_strikeOn 6 = .ok (.iastore, 1) := by decide +kernel
theorem dX5_strikeOn_7 : decode cX5_strikeOn 7 = .ok (.aload_n 0, 1) := by decide +kernel
theorem dX5_strikeOn_8 : decode cX5_strikeOn 8 = .ok (.dup, 1) := by decide +kernel
theorem dX5_strikeOn_9 : decode cX5_strikeOn 9 = .ok (.getfield 59, 3) := by decide +kernel
theorem dX5_strikeOn_12 : decode cX5_strikeOn 12 = .ok (.iconst 1, 1) := by decide +kernel
theorem dX5_strikeOn_13 : decode cX5_strikeOn 13 = .ok (.iadd, 1) := by decide +kernel
theorem dX5_strikeOn_14 : decode cX5_strikeOn 14 = .ok (.putfield 59, 3) := by decide +kernel
theorem dX5_strikeOn_17 : decode cX5_strikeOn 17 = .ok (.return_, 1) := by decide +kernel
set_option maxRecDepth 20000 in
theorem ggX5_detail_X5_firstYear : GoodIn wsX5_detail wsX5_firstYear := goodIn_r _ [9, 1, 10, 11, 12, 13, 14, 15, 16, 17, 18, 8, 19, 20, 21, 22, 23, 24, 25, 26, 27, 28, 29, 30, 31, 32, 33, 34, 35, 36, 37, 38, 39, 40, 41, 42, 43, 44, 45, 56, 57, 58, 59, 60, 61, 62, 63, 64, 65, 66, 67, 68, 69, 70, 71, 72] (by decide +kernel) (by decide +kernel)
set_option maxRecDepth 20000 in
theorem gX5_detail_X5_firstYear : GoodIn wsX5_detail (wsV RX5 66 RX5 yX5_firstYear wsX5_firstYear) := goodIn_app (goodIn_of _ (by decide +kernel)) ggX5_detail_X5_firstYear
set_option maxRecDepth 20000 in
theorem ggX5_detail_X5_lastYear : GoodIn wsX5_detail wsX5_lastYear := goodIn_r _ [49, 1, 12, 50, 51, 52, 53, 22, 54, 14, 11, 15, 55, 16, 17, 18, 8, 19, 20, 21, 23, 24, 25, 26, 27, 28, 29, 30, 31, 32, 33, 34, 35, 36, 37, 38, 39, 40, 41, 42, 43, 44, 45, 56, 57, 58, 59, 60, 61, 62, 63, 64, 65, 66, 67, 68, 69, 70, 71, 72] (by decide +kernel) (by decide +kernel)
set_option maxRecDepth 20000 in
theorem gX5_detail_X5_lastYear : GoodIn wsX5_detail (wsV RX5 70 RX5 yX5_lastYear wsX5_lastYear) := goodIn_app (goodIn_of _ (by decide +kernel)) ggX5_detail_X5_lastYear
theorem dX5_detail_0 : decode cX5_detail 0 = .ok (.iload_n 2, 1) := by decide +kernel
theorem dX5_detail_1 : decode cX5_detail 1 = .ok (.tableswitch 69 0 4 #[35, 42, 49, 56, 63], 35) := by decide +kernel
theorem dX5_detail_36 : decode cX5_detail 36 = .ok (.aload_n 0, 1) := by decide +kernel
theorem dX5_detail_37 : decode cX5_detail 37 = .ok (.getfield 22, 3) := by decide +kernel
theorem dX5_detail_40 : decode cX5_detail 40 = .ok (.iload_n 1, 1) := by decide +kernel
theorem dX5_detail_41 : decode cX5_detail 41 = .ok (.iaload, 1) := by decide +kernel
theorem dX5_detail_42 : decode cX5_detail 42 = .ok (.ireturn, 1) := by decide +kernel
theorem dX5_detail_43 : decode cX5_detail 43 = .ok (.aload_n 0, 1) := by decide +kernel
theorem dX5_detail_44 : decode cX5_detail 44 = .ok (.getfield 25, 3) := by decide +kernel
theorem dX5_detail_47 : decode cX5_detail 47 = .ok (.iload_n 1, 1) := by decide +kernel
theorem dX5_detail_48 : decode cX5_detail 48 = .ok (.iaload, 1) := by decide +kernel
theorem dX5_detail_49 : decode cX5_detail 49 = .ok (.ireturn, 1) := by decide +kernel
theorem dX5_detail_50 : decode cX5_detail 50 = .ok (.aload_n 0, 1) := by decide +kernel
theorem dX5_detail_51 : decode cX5_detail 51 = .ok (.getfield 28, 3) := by decide +kernel
theorem dX5_detail_54 : decode cX5_detail 54 = .ok (.iload_n 1, 1) := by decide +kernel
theorem dX5_detail_55 : decode cX5_detail 55 = .ok (.iaload, 1) := by decide +kernel
theorem dX5_detail_56 : decode cX5_detail 56 = .ok (.ireturn, 1) := by decide +kernel
theorem dX5_detail_57 : decode cX5_detail 57 = .ok (.aload_n 0, 1) := by decide +kernel
theorem dX5_detail_58 : decode cX5_detail 58 = .ok (.getfield 31, 3) := by decide +kernel
theorem dX5_detail_61 : decode cX5_detail 61 = .ok (.iload_n 1, 1) := by decide +kernel
theorem dX5_detail_62 : decode cX5_detail 62 = .ok (.iaload, 1) := by decide +kernel
theorem dX5_detail_63 : decode cX5_detail 63 = .ok (.ireturn, 1) := by decide +kernel
theorem dX5_detail_64 : decode cX5_detail 64 = .ok (.aload_n 0, 1) := by decide +kernel
theorem dX5_detail_65 : decode cX5_detail 65 = .ok (.iload_n 1, 1) := by decide +kernel
theorem dX5_detail_66 : decode cX5_detail 66 = .ok (.invokevirtual 66, 3) := by decide +kernel
theorem dX5_detail_69 : decode cX5_detail 69 = .ok (.ireturn, 1) := by decide +kernel
theorem dX5_detail_70 : decode cX5_detail 70 = .ok (.aload_n 0, 1) := by decide +kernel
theorem dX5_detail_71 : decode cX5_detail 71 = .ok (.iload_n 1, 1) := by decide +kernel
theorem dX5_detail_72 : decode cX5_detail 72 = .ok (.invokevirtual 70, 3) := by decide +kernel
theorem dX5_detail_75 : decode cX5_detail 75 = .ok (.ireturn, 1) := by decide +kernel
theorem dX5_isOfKind_0 : decode cX5_isOfKind 0 = .ok (.iload_n 2, 1) := by decide +kernel
theorem dX5_isOfKind_1 : decode cX5_isOfKind 1 = .ok (.ifCond .eq 13, 3) := by decide +kernel
theorem dX5_isOfKind_4 : decode cX5_isOfKind 4 = .ok (.iload_n 2, 1) := by decide +kernel
theorem dX5_isOfKind_5 : decode cX5_isOfKind 5 = .ok (.aload_n 0, 1) := by decide +kernel
theorem dX5_isOfKind_6 : decode cX5_isOfKind 6 = .ok (.getfield 22, 3) := by decide +kernel
theorem dX5_isOfKind_9 : decode cX5_isOfKind 9 = .ok (.iload_n 1, 1) := by decide +kernel
theorem dX5_isOfKind_10 : decode cX5_isOfKind 10 = .ok (.iaload, 1) := by decide +kernel
theorem dX5_isOfKind_11 : decode cX5_isOfKind 11 = .ok (.if_icmp .ne 7, 3) := by decide +kernel
theorem dX5_isOfKind_14 : decode cX5_isOfKind 14 = .ok (.iconst 1, 1) := by decide +kernel
theorem dX5_isOfKind_15 : decode cX5_isOfKind 15 = .ok (.goto 4, 3) := by decide +kernel
theorem dX5_isOfKind_18 : decode cX5_isOfKind 18 = .ok (.iconst 0, 1) := by decide +kernel
theorem dX5_isOfKind_19 : decode cX5_isOfKind 19 = .ok (.ireturn, 1) := by decide +kernel
set_option maxRecDepth 20000 in
theorem ggX5_markAs_X6_isSure : GoodIn wsX5_markAs wsX6_isSure := goodIn_r _ [8, 9, 10, 11, 7, 12, 13, 14, 15, 16, 17, 18, 19, 20, 21, 22, 23, 24, 25, 26, 68, 69] (by decide +kernel) (by decide +kernel)
set_option maxRecDepth 20000 in
theorem gX5_markAs_X6_isSure : GoodIn wsX5_markAs (wsV RX5 73 RX6 yX6_isSure wsX6_isSure) := goodIn_app (goodIn_of _ (by decide +kernel)) ggX5_markAs_X6_isSure
set_option maxRecDepth 20000 in
theorem ggX5_markAs_X5_lastYear : GoodIn wsX5_markAs wsX5_lastYear := goodIn_r _ [31, 32, 33, 34, 35, 36, 37, 25, 38, 2, 1, 3, 39, 40, 41, 42, 30, 43, 44, 45, 46, 4, 5, 6, 7, 8, 9, 10, 11, 12, 13, 14, 15, 16, 17, 18, 19, 20, 21, 22, 23, 24, 26, 53, 54, 55, 56, 57, 58, 59, 60, 61, 62, 63, 64, 65, 66, 67, 68, 69] (by decide +kernel) (by decide +kernel)
set_option maxRecDepth 20000 in
theorem gX5_markAs_X5_lastYear : GoodIn wsX5_markAs (wsV RX5 70 RX5 yX5_lastYear wsX5_lastYear) := goodIn_app (goodIn_of _ (by decide +kernel)) ggX5_markAs_X5_lastYear
set_option maxRecDepth 20000 in
theorem ggX5_markAs_X5_firstYear : GoodIn wsX5_markAs wsX5_firstYear := goodIn_r _ [50, 32, 51, 1, 33, 52, 2, 3, 40, 41, 42, 30, 43, 44, 45, 25, 46, 4, 5, 6, 7, 8, 9, 10, 11, 12, 13, 14, 15, 16, 17, 18, 19, 20, 21, 22, 23, 24, 26, 53, 54, 55, 56, 57, 58, 59, 60, 61, 62, 63, 64, 65, 66, 67, 68, 69] (by decide +kernel) (by decide +kernel)
set_option maxRecDepth 20000 in
theorem gX5_markAs_X5_firstYear : GoodIn wsX5_markAs (wsV RX5 66 RX5 yX5_firstYear wsX5_firstYear) := goodIn_app (goodIn_of _ (by decide +kernel)) ggX5_markAs_X5_firstYear
theorem dX5_markAs_0 : decode cX5_markAs 0 = .ok (.iload_n 2, 1) := by decide +kernel
theorem dX5_markAs_1 : decode cX5_markAs 1 = .ok (.tableswitch 62 1 3 #[27, 27, 34], 27) := by decide +kernel
theorem dX5_markAs_28 : decode cX5_markAs 28 = .ok (.aload_n 0, 1) := by decide +kernel
theorem dX5_markAs_29 : decode cX5_markAs 29 = .ok (.getfield 34, 3) := by decide +kernel
theorem dX5_markAs_32 : decode cX5_markAs 32 = .ok (.iload_n 1, 1) := by decide +kernel
theorem dX5_markAs_33 : decode cX5_markAs 33 = .ok (.iaload, 1) := by decide +kernel
theorem dX5_markAs_34 : decode cX5_markAs 34 = .ok (.ireturn, 1) := by decide +kernel
theorem dX5_markAs_35 : decode cX5_markAs 35 = .ok (.aload_n 0, 1) := by decide +kernel
theorem dX5_markAs_36 : decode cX5_markAs 36 = .ok (.getfield 12, 3) := by decide +kernel
theorem dX5_markAs_39 : decode cX5_markAs 39 = .ok (.aload_n 0, 1) := by decide +kernel
theorem dX5_markAs_40 : decode cX5_markAs 40 = .ok (.getfield 34, 3) := by decide +kernel
theorem dX5_markAs_43 : decode cX5_markAs 43 = .ok (.iload_n 1, 1) := by decide +kernel
theorem dX5_markAs_44 : decode cX5_markAs 44 = .ok (.iaload, 1) := by decide +kernel
theorem dX5_markAs_45 : decode cX5_markAs 45 = .ok (.aload_n 0, 1) := by decide +kernel
theorem dX5_markAs_46 : decode cX5_markAs 46 = .ok (.getfield 37, 3) := by decide +kernel
theorem dX5_markAs_49 : decode cX5_markAs 49 = .ok (.iload_n 1, 1) := by decide +kernel
theorem dX5_markAs_50 : decode cX5_markAs 50 = .ok (.iaload, 1) := by decide +kernel
theorem dX5_markAs_51 : decode cX5_markAs 51 = .ok (.invokevirtual 73, 3) := by decide +kernel
theorem dX5_markAs_54 : decode cX5_markAs 54 = .ok (.ifCond .eq 7, 3) := by decide +kernel
theorem dX5_markAs_57 : decode cX5_markAs 57 = .ok (.iconst 1, 1) := by decide +kernel
theorem dX5_markAs_58 : decode cX5_markAs 58 = .ok (.goto 4, 3) := by decide +kernel
theorem dX5_markAs_61 : decode cX5_markAs 61 = .ok (.iconst 0, 1) := by decide +kernel
theorem dX5_markAs_62 : decode cX5_markAs 62 = .ok (.ireturn, 1) := by decide +kernel
theorem dX5_markAs_63 : decode cX5_markAs 63 = .ok (.aload_n 0, 1) := by decide +kernel
theorem dX5_markAs_64 : decode cX5_markAs 64 = .ok (.iload_n 1, 1) := by decide +kernel
theorem dX5_markAs_65 : decode cX5_markAs 65 = .ok (.invokevirtual 70, 3) := by decide +kernel
theorem dX5_markAs_68 : decode cX5_markAs 68 = .ok (.aload_n 0, 1) := by decide +kernel
theorem dX5_markAs_69 : decode cX5_markAs 69 = .ok (.iload_n 1, 1) := by decide +kernel
theorem dX5_markAs_70 : decode cX5_markAs 70 = .ok (.invokevirtual 66, 3) := by decide +kernel
theorem dX5_markAs_73 : decode cX5_markAs 73 = .ok (.isub, 1) := by decide +kernel
theorem dX5_markAs_74 : decode cX5_markAs 74 = .ok (.iconst 1, 1) := by decide +kernel
theorem dX5_markAs_75 : decode cX5_markAs 75 = .ok (.iadd, 1) := by decide +kernel
theorem dX5_markAs_76 : decode cX5_markAs 76 = .ok (.ireturn, 1) := by decide +kernel
theorem dX5_lacking_0 : decode cX5_lacking 0 = .ok (.iconst 0, 1) := by decide +kernel
theorem dX5_lacking_1 : decode cX5_lacking 1 = .ok (.iload_n 2, 1) := by decide +kernel
theorem dX5_lacking_2 : decode cX5_lacking 2 = .ok (.aload_n 0, 1) := by decide +kernel
theorem dX5_lacking_3 : decode cX5_lacking 3 = .ok (.getfield 34, 3) := by decide +kernel
theorem dX5_lacking_6 : decode cX5_lacking 6 = .ok (.iload_n 1, 1) := by decide +kernel
theorem dX5_lacking_7 : decode cX5_lacking 7 = .ok (.iaload, 1) := by decide +kernel
theorem dX5_lacking_8 : decode cX5_lacking 8 = .ok (.isub, 1) := by decide +kernel
theorem dX5_lacking_9 : decode cX5_lacking 9 = .ok (.invokestatic 77, 3) := by decide +kernel
theorem dX5_lacking_12 : decode cX5_lacking 12 = .ok (.ireturn, 1) := by decide +kernel
set_option maxRecDepth 20000 in
theorem ggX5_firstYear_X5_lacking : GoodIn wsX5_firstYear wsX5_lacking := goodIn_r _ [12, 3, 13, 14, 15, 16, 39, 40, 41, 42, 43, 44, 45, 46, 47, 48, 49, 50, 51, 52, 53] (by decide +kernel) (by decide +kernel)
set_option maxRecDepth 20000 in
theorem gX5_firstYear_X5_lacking : GoodIn wsX5_firstYear (wsV RX5 83 RX5 yX5_lacking wsX5_lacking) := goodIn_app (goodIn_of _ (by decide +kernel)) ggX5_firstYear_X5_lacking
set_option maxRecDepth 20000 in
theorem ggX5_firstYear_X6_isSure : GoodIn wsX5_firstYear wsX6_isSure := goodIn_r _ [21, 22, 23, 24, 20, 25, 26, 27, 28, 29, 30, 31, 32, 33, 34, 35, 36, 37, 15, 38, 54, 55] (by decide +kernel) (by decide +kernel)
set_option maxRecDepth 20000 in
theorem gX5_firstYear_X6_isSure : GoodIn wsX5_firstYear (wsV RX5 73 RX6 yX6_isSure wsX6_isSure) := goodIn_app (goodIn_of _ (by decide +kernel)) ggX5_firstYear_X6_isSure
theorem dX5_firstYear_0 : decode cX5_firstYear 0 = .ok (.aload_n 0, 1) := by decide +kernel
theorem dX5_firstYear_1 : decode cX5_firstYear 1 = .ok (.getfield 22, 3) := by decide +kernel
theorem dX5_firstYear_4 : decode cX5_firstYear 4 = .ok (.iload_n 1, 1) := by decide +kernel
theorem dX5_firstYear_5 : decode cX5_firstYear 5 = .ok (.iaload, 1) := by decide +kernel
theorem dX5_firstYear_6 : decode cX5_firstYear 6 = .ok (.tableswitch 90 1 3 #[26, 38, 55], 26) := by decide +kernel
theorem dX5_firstYear_32 : decode cX5_firstYear 32 = .ok (.aload_n 0, 1) := by decide +kernel
theorem dX5_firstYear_33 : decode cX5_firstYear 33 = .ok (.getfield 18, 3) := by decide +kernel
theorem dX5_firstYear_36 : decode cX5_firstYear 36 = .ok (.aload_n 0, 1) := by decide +kernel
theorem dX5_firstYear_37 : decode cX5_firstYear 37 = .ok (.getfield 34, 3) := by decide +kernel
theorem dX5_firstYear_40 : decode cX5_firstYear 40 = .ok (.iload_n 1, 1) := by decide +kernel
theorem dX5_firstYear_41 : decode cX5_firstYear 41 = .ok (.iaload, 1) := by decide +kernel
theorem dX5_firstYear_42 : decode cX5_firstYear 42 = .ok (.iaload, 1) := by decide +kernel
theorem dX5_firstYear_43 : decode cX5_firstYear 43 = .ok (.ireturn, 1) := by decide +kernel
theorem dX5_firstYear_44 : decode cX5_firstYear 44 = .ok (.aload_n 0, 1) := by decide +kernel
theorem dX5_firstYear_45 : decode cX5_firstYear 45 = .ok (.getfield 40, 3) := by decide +kernel
theorem dX5_firstYear_48 : decode cX5_firstYear 48 = .ok (.iload_n 1, 1) := by decide +kernel
theorem dX5_firstYear_49 : decode cX5_firstYear 49 = .ok (.iaload, 1) := by decide +kernel
theorem dX5_firstYear_50 : decode cX5_firstYear 50 = .ok (.aload_n 0, 1) := by decide +kernel
theorem dX5_firstYear_51 : decode cX5_firstYear 51 = .ok (.iload_n 1, 1) := by decide +kernel
theorem dX5_firstYear_52 : decode cX5_firstYear 52 = .ok (.aload_n 0, 1) := by decide +kernel
theorem dX5_firstYear_53 : decode cX5_firstYear 53 = .ok (.getfield 46, 3) := by decide +kernel
theorem dX5_firstYear_56 : decode cX5_firstYear 56 = .ok (.invokevirtual 83, 3) := by decide +kernel
theorem dX5_firstYear_59 : decode cX5_firstYear 59 = .ok (.iadd, 1) := by decide +kernel
theorem dX5_firstYear_60 : decode cX5_firstYear 60 = .ok (.ireturn, 1) := by decide +kernel
theorem dX5_firstYear_61 : decode cX5_firstYear 61 = .ok (.aload_n 0, 1) := by decide +kernel
theorem dX5_firstYear_62 : decode cX5_firstYear 62 = .ok (.getfield 12, 3) := by decide +kernel
theorem dX5_firstYear_65 : decode cX5_firstYear 65 = .ok (.aload_n 0, 1) := by decide +kernel
theorem dX5_firstYear_66 : decode cX5_firstYear 66 = .ok (.getfield 34, 3) := by decide +kernel
theorem dX5_firstYear_69 : decode cX5_firstYear 69 = .ok (.iload_n 1, 1) := by decide +kernel
theorem dX5_firstYear_70 : decode cX5_firstYear 70 = .ok (.iaload, 1) := by decide +kernel
theorem dX5_firstYear_71 : decode cX5_firstYear 71 = .ok (.aload_n 0, 1) := by decide +kernel
theorem dX5_firstYear_72 : decode cX5_firstYear 72 = .ok (.getfield 37, 3) := by decide +kernel
theorem dX5_firstYear_75 : decode cX5_firstYear 75 = .ok (.iload_n 1, 1) := by decide +kernel
theorem dX5_firstYear_76 : decode cX5_firstYear 76 = .ok (.iaload, 1) := by decide +kernel
theorem dX5_firstYear_77 : decode cX5_firstYear 77 = .ok (.invokevirtual 73, 3) := by decide +kernel
theorem dX5_firstYear_80 : decode cX5_firstYear 80 = .ok (.ifCond .eq 12, 3) := by decide +kernel
theorem dX5_firstYear_83 : decode cX5_firstYear 83 = .ok (.aload_n 0, 1) := by decide +kernel
theorem dX5_firstYear_84 : decode cX5_firstYear 84 = .ok (.getfield 40, 3) := by decide +kernel
theorem dX5_firstYear_87 : decode cX5_firstYear 87 = .ok (.iload_n 1, 1) := by decide +kernel
theorem dX5_firstYear_88 : decode cX5_firstYear 88 = .ok (.iaload, 1) := by decide +kernel
theorem dX5_firstYear_89 : decode cX5_firstYear 89 = .ok (.goto 6, 3) := by decide +kernel
theorem dX5_firstYear_92 : decode cX5_firstYear 92 = .ok (.sipush 1000, 3) := by decide +kernel
theorem dX5_firstYear_95 : decode cX5_firstYear 95 = .ok (.ireturn, 1) := by decide +kernel
theorem dX5_firstYear_96 : decode cX5_firstYear 96 = .ok (.aload_n 0, 1) := by decide +kernel
theorem dX5_firstYear_97 : decode cX5_firstYear 97 = .ok (.getfield 40, 3) := by decide +kernel
theorem dX5_firstYear_100 : decode cX5_firstYear 100 = .ok (.iload_n 1, 1) := by decide +kernel
theorem dX5_firstYear_101 : decode cX5_firstYear 101 = .ok (.iaload, 1) := by decide +kernel
theorem dX5_firstYear_102 : decode cX5_firstYear 102 = .ok (.ireturn, 1) := by decide +kernel
set_option maxRecDepth 20000 in
theorem ggX5_lastYear_X5_lacking : GoodIn wsX5_lastYear wsX5_lacking := goodIn_r _ [17, 10, 18, 19, 7, 20, 43, 44, 45, 46, 47, 48, 49, 50, 51, 52, 53, 54, 55, 56, 57] (by decide +kernel) (by decide +kernel)
set_option maxRecDepth 20000 in
theorem gX5_lastYear_X5_lacking : GoodIn wsX5_lastYear (wsV RX5 83 RX5 yX5_lacking wsX5_lacking) := goodIn_app (goodIn_of _ (by decide +kernel)) ggX5_lastYear_X5_lacking
set_option maxRecDepth 20000 in
theorem ggX5_lastYear_X6_isSure : GoodIn wsX5_lastYear wsX6_isSure := goodIn_r _ [25, 26, 27, 28, 24, 29, 30, 31, 32, 33, 34, 35, 36, 37, 38, 39, 40, 41, 7, 42, 58, 59] (by decide +kernel) (by decide +kernel)
set_option maxRecDepth 20000 in
theorem gX5_lastYear_X6_isSure : GoodIn wsX5_lastYear (wsV RX5 73 RX6 yX6_isSure wsX6_isSure) := goodIn_app (goodIn_of _ (by decide +kernel)) ggX5_lastYear_X6_isSure
theorem dX5_lastYear_0 : decode cX5_lastYear 0 = .ok (.aload_n 0, 1) := by decide +kernel
theorem dX5_lastYear_1 : decode cX5_lastYear 1 = .ok (.getfield 22, 3) := by decide +kernel
theorem dX5_lastYear_4 : decode cX5_lastYear 4 = .ok (.iload_n 1, 1) := by decide +kernel
theorem dX5_lastYear_5 : decode cX5_lastYear 5 = .ok (.iaload, 1) := by decide +kernel
theorem dX5_lastYear_6 : decode cX5_lastYear 6 = .ok (.tableswitch 93 1 3 #[26, 30, 58], 26) := by decide +kernel
theorem dX5_lastYear_32 : decode cX5_lastYear 32 = .ok (.sipush 2100, 3) := by decide +kernel
theorem dX5_lastYear_35 : decode cX5_lastYear 35 = .ok (.ireturn, 1) := by decide +kernel
theorem dX5_lastYear_36 : decode cX5_lastYear 36 = .ok (.sipush 2100, 3) := by decide +kernel
theorem dX5_lastYear_39 : decode cX5_lastYear 39 = .ok (.aload_n 0, 1) := by decide +kernel
theorem dX5_lastYear_40 : decode cX5_lastYear 40 = .ok (.getfield 40, 3) := by decide +kernel
theorem dX5_lastYear_43 : decode cX5_lastYear 43 = .ok (.iload_n 1, 1) := by decide +kernel
theorem dX5_lastYear_44 : decode cX5_lastYear 44 = .ok (.iaload, 1) := by decide +kernel
theorem dX5_lastYear_45 : decode cX5_lastYear 45 = .ok (.aload_n 0, 1) := by decide +kernel
theorem dX5_lastYear_46 : decode cX5_lastYear 46 = .ok (.iload_n 1, 1) := by decide +kernel
theorem dX5_lastYear_47 : decode cX5_lastYear 47 = .ok (.aload_n 0, 1) := by decide +kernel
theorem dX5_lastYear_48 : decode cX5_lastYear 48 = .ok (.getfield 50, 3) := by decide +kernel
theorem dX5_lastYear_51 : decode cX5_lastYear 51 = .ok (.invokevirtual 83, 3) := by decide +kernel
theorem dX5_lastYear_54 : decode cX5_lastYear 54 = .ok (.iadd, 1) := by decide +kernel
theorem dX5_lastYear_55 : decode cX5_lastYear 55 = .ok (.aload_n 0, 1) := by decide +kernel
theorem dX5_lastYear_56 : decode cX5_lastYear 56 = .ok (.getfield 53, 3) := by decide +kernel
theorem dX5_lastYear_59 : decode cX5_lastYear 59 = .ok (.iadd, 1) := by decide +kernel
theorem dX5_lastYear_60 : decode cX5_lastYear 60 = .ok (.invokestatic 86, 3) := by decide +kernel
theorem dX5_lastYear_63 : decode cX5_lastYear 63 = .ok (.ireturn, 1) := by decide +kernel
theorem dX5_lastYear_64 : decode cX5_lastYear 64 = .ok (.aload_n 0, 1) := by decide +kernel
theorem dX5_lastYear_65 : decode cX5_lastYear 65 = .ok (.getfield 12, 3) := by decide +kernel
theorem dX5_lastYear_68 : decode cX5_lastYear 68 = .ok (.aload_n 0, 1) := by decide +kernel
theorem dX5_lastYear_69 : decode cX5_lastYear 69 = .ok (.getfield 34, 3) := by decide +kernel
theorem dX5_lastYear_72 : decode cX5_lastYear 72 = .ok (.iload_n 1, 1) := by decide +kernel
theorem dX5_lastYear_73 : decode cX5_lastYear 73 = .ok (.iaload, 1) := by decide +kernel
theorem dX5_lastYear_74 : decode cX5_lastYear 74 = .ok (.aload_n 0, 1) := by decide +kernel
theorem dX5_lastYear_75 : decode cX5_lastYear 75 = .ok (.getfield 37, 3) := by decide +kernel
theorem dX5_lastYear_78 : decode cX5_lastYear 78 = .ok (.iload_n 1, 1) := by decide +kernel
theorem dX5_lastYear_79 : decode cX5_lastYear 79 = .ok (.iaload, 1) := by decide +kernel
theorem dX5_lastYear_80 : decode cX5_lastYear 80 = .ok (.invokevirtual 73, 3) := by decide +kernel
theorem dX5_lastYear_83 : decode cX5_lastYear 83 = .ok (.ifCond .eq 12, 3) := by decide +kernel
theorem dX5_lastYear_86 : decode cX5_lastYear 86 = .ok (.aload_n 0, 1) := by decide +kernel
theorem dX5_lastYear_87 : decode cX5_lastYear 87 = .ok (.getfield 43, 3) := by decide +kernel
theorem dX5_lastYear_90 : decode cX5_lastYear 90 = .ok (.iload_n 1, 1) := by decide +kernel
theorem dX5_lastYear_91 : decode cX5_lastYear 91 = .ok (.iaload, 1) := by decide +kernel
theorem dX5_lastYear_92 : decode cX5_lastYear 92 = .ok (.goto 6, 3) := by decide +kernel
theorem dX5_lastYear_95 : decode cX5_lastYear 95 = .ok (.sipush 2100, 3) := by decide +kernel
theorem dX5_lastYear_98 : decode cX5_lastYear 98 = .ok (.ireturn, 1) := by decide +kernel
theorem dX5_lastYear_99 : decode cX5_lastYear 99 = .ok (.aload_n 0, 1) := by decide +kernel
theorem dX5_lastYear_100 : decode cX5_lastYear 100 = .ok (.getfield 43, 3) := by decide +kernel
theorem dX5_lastYear_103 : decode cX5_lastYear 103 = .ok (.iload_n 1, 1) := by decide +kernel
theorem dX5_lastYear_104 : decode cX5_lastYear 104 = .ok (.iaload, 1) := by decide +kernel
theorem dX5_lastYear_105 : decode cX5_lastYear 105 = .ok (.ireturn, 1) := by decide +kernel
set_option maxRecDepth 20000 in
theorem ggX5_isKnown_X5_isStruck : GoodIn wsX5_isKnown wsX5_isStruck := goodIn_r _ [7, 2, 8, 9, 10, 11, 12, 13, 14, 15, 16, 17, 18, 19, 20, 21, 22] (by decide +kernel) (by decide +kernel)
set_option maxRecDepth 20000 in
theorem gX5_isKnown_X5_isStruck : GoodIn wsX5_isKnown (wsV RX5 89 RX5 yX5_isStruck wsX5_isStruck) := goodIn_app (goodIn_of _ (by decide +kernel)) ggX5_isKnown_X5_isStruck
theorem dX5_isKnown_0 : decode cX5_isKnown 0 = .ok (.aload_n 0, 1) := by decide +kernel
theorem dX5_isKnown_1 : decode cX5_isKnown 1 = .ok (.getfield 28, 3) := by decide +kernel
theorem dX5_isKnown_4 : decode cX5_isKnown 4 = .ok (.iload_n 1, 1) := by decide +kernel
theorem dX5_isKnown_5 : decode cX5_isKnown 5 = .ok (.iaload, 1) := by decide +kernel
theorem dX5_isKnown_6 : decode cX5_isKnown 6 = .ok (.iload_n 2, 1) := by decide +kernel
theorem dX5_isKnown_7 : decode cX5_isKnown 7 = .ok (.if_icmp .gt 25, 3) := by decide +kernel
theorem dX5_isKnown_10 : decode cX5_isKnown 10 = .ok (.aload_n 0, 1) := by decide +kernel
theorem dX5_isKnown_11 : decode cX5_isKnown 11 = .ok (.iload_n 1, 1) := by decide +kernel
theorem dX5_isKnown_12 : decode cX5_isKnown 12 = .ok (.invokevirtual 89, 3) := by decide +kernel
theorem dX5_isKnown_15 : decode cX5_isKnown 15 = .ok (.ifCond .eq 13, 3) := by decide +kernel
theorem dX5_isKnown_18 : decode cX5_isKnown 18 = .ok (.iload_n 2, 1) := by decide +kernel
theorem dX5_isKnown_19 : decode cX5_isKnown 19 = .ok (.aload_n 0, 1) := by decide +kernel
theorem dX5_isKnown_20 : decode cX5_isKnown 20 = .ok (.getfield 31, 3) := by decide +kernel
theorem dX5_isKnown_23 : decode cX5_isKnown 23 = .ok (.iload_n 1, 1) := by decide +kernel
theorem dX5_isKnown_24 : decode cX5_isKnown 24 = .ok (.iaload, 1) := by decide +kernel
theorem dX5_isKnown_25 : decode cX5_isKnown 25 = .ok (.if_icmp .ge 7, 3) := by decide +kernel
theorem dX5_isKnown_28 : decode cX5_isKnown 28 = .ok (.iconst 1, 1) := by decide +kernel
theorem dX5_isKnown_29 : decode cX5_isKnown 29 = .ok (.goto 4, 3) := by decide +kernel
theorem dX5_isKnown_32 : decode cX5_isKnown 32 = .ok (.iconst 0, 1) := by decide +kernel
theorem dX5_isKnown_33 : decode cX5_isKnown 33 = .ok (.ireturn, 1) := by decide +kernel
set_option maxRecDepth 20000 in
theorem ggX5_gather_X5_isKnown : GoodIn wsX5_gather wsX5_isKnown := goodIn_r _ [8, 9, 10, 11, 12, 13, 7, 14, 81, 82, 83, 84, 85, 86, 87, 88, 89, 90, 91, 92, 93, 94, 95] (by decide +kernel) (by decide +kernel)
set_option maxRecDepth 20000 in
theorem gX5_gather_X5_isKnown : GoodIn wsX5_gather (wsV RX5 96 RX5 yX5_isKnown wsX5_isKnown) := goodIn_app (goodIn_of _ (by decide +kernel)) ggX5_gather_X5_isKnown
set_option maxRecDepth 20000 in
theorem ggX5_gather_X5_firstYear : GoodIn wsX5_gather wsX5_firstYear := goodIn_r _ [18, 19, 20, 21, 22, 23, 24, 25, 26, 27, 28, 7, 29, 30, 31, 32, 33, 34, 35, 36, 37, 38, 39, 40, 41, 42, 43, 44, 45, 46, 47, 48, 49, 50, 51, 52, 53, 54, 55, 81, 82, 83, 84, 85, 86, 87, 88, 89, 90, 91, 92, 93, 94, 95, 96, 97] (by decide +kernel) (by decide +kernel)
set_option maxRecDepth 20000 in
theorem gX5_gather_X5_firstYear : GoodIn wsX5_gather (wsV RX5 66 RX5 yX5_firstYear wsX5_firstYear) := goodIn_app (goodIn_of _ (by decide +kernel)) ggX5_gather_X5_firstYear
set_option maxRecDepth 20000 in
theorem ggX5_gather_X5_lastYear : GoodIn wsX5_gather wsX5_lastYear := goodIn_r _ [59, 19, 22, 60, 61, 62, 63, 32, 64, 24, 21, 25, 65, 26, 27, 28, 7, 29, 30, 31, 33, 34, 35, 36, 37, 38, 39, 40, 41, 42, 43, 44, 45, 46, 47, 48, 49, 50, 51, 52, 53, 54, 55, 81, 82, 83, 84, 85, 86, 87, 88, 89, 90, 91, 92, 93, 94, 95, 96, 97] (by decide +kernel) (by decide +kernel)
set_option maxRecDepth 20000 in
theorem gX5_gather_X5_lastYear : GoodIn wsX5_gather (wsV RX5 70 RX5 yX5_lastYear wsX5_lastYear) := goodIn_app (goodIn_of _ (by decide +kernel)) ggX5_gather_X5_lastYear
set_option maxRecDepth 20000 in
theorem ggX5_gather_X1_add : GoodIn wsX5_gather wsX1_add := goodIn_r _ [70, 71, 72, 73, 74, 75, 76, 77, 78, 79, 80] (by decide +kernel) (by decide +kernel)
set_option maxRecDepth 20000 in
theorem gX5_gather_X1_add : GoodIn wsX5_gather (wsV RX5 99 RX1 yX1_add wsX1_add) := goodIn_app (goodIn_of _ (by decide +kernel)) ggX5_gather_X1_add
theorem dX5_gather_0 : decode cX5_gather 0 = .ok (.aload_n 2, 1) := by decide +kernel
theorem dX5_gather_1 : decode cX5_gather 1 = .ok (.iconst 0, 1) := by decide +kernel
theorem dX5_gather_2 : decode cX5_gather 2 = .ok (.putfield 93, 3) := by decide +kernel
theorem dX5_gather_5 : decode cX5_gather 5 = .ok (.iconst 0, 1) := by decide +kernel
theorem dX5_gather_6 : decode cX5_gather 6 = .ok (.istore_n 3, 1) := by decide +kernel
theorem dX5_gather_7 : decode cX5_gather 7 = .ok (.iload_n 3, 1) := by decide +kernel
theorem dX5_gather_8 : decode cX5_gather 8 = .ok (.aload_n 0, 1) := by decide +kernel
theorem dX5_gather_9 : decode cX5_gather 9 = .ok (.getfield 56, 3) := by decide +kernel
theorem dX5_gather_12 : decode cX5_gather 12 = .ok (.if_icmp .ge 39, 3) := by decide +kernel
theorem dX5_gather_15 : decode cX5_gather 15 = .ok (.aload_n 0, 1) := by decide +kernel
theorem dX5_gather_16 : decode cX5_gather 16 = .ok (.iload_n 3, 1) := by decide +kernel
theorem dX5_gather_17 : decode cX5_gather 17 = .ok (.iload_n 1, 1) := by decide +kernel
theorem dX5_gather_18 : decode cX5_gather 18 = .ok (.invokevirtual 96, 3) := by decide +kernel
theorem dX5_gather_21 : decode cX5_gather 21 = .ok (.ifCond .eq 24, 3) := by decide +kernel
theorem dX5_gather_24 : decode cX5_gather 24 = .ok (.aload_n 2, 1) := by decide +kernel
theorem dX5_gather_25 : decode cX5_gather 25 = .ok (.iload_n 3, 1) := by decide +kernel
theorem dX5_gather_26 : decode cX5_gather 26 = .ok (.aload_n 0, 1) := by decide +kernel
theorem dX5_gather_27 : decode cX5_gather 27 = .ok (.iload_n 3, 1) := by decide +kernel
theorem dX5_gather_28 : decode cX5_gather 28 = .ok (.invokevirtual 66, 3) := by decide +kernel
theorem dX5_gather_31 : decode cX5_gather 31 = .ok (.aload_n 0, 1) := by decide +kernel
theorem dX5_gather_32 : decode cX5_gather 32 = .ok (.iload_n 3, 1) := by decide +kernel
theorem dX5_gather_33 : decode cX5_gather 33 = .ok (.invokevirtual 70, 3) := by decide +kernel
theorem dX5_gather_36 : decode cX5_gather 36 = .ok (.aload_n 0, 1) := by decide +kernel
theorem dX5_gather_37 : decode cX5_gather 37 = .ok (.getfield 25, 3) := by decide +kernel
theorem dX5_gather_40 : decode cX5_gather 40 = .ok (.iload_n 3, 1) := by decide +kernel
theorem dX5_gather_41 : decode cX5_gather 41 = .ok (.iaload, 1) := by decide +kernel
theorem dX5_gather_42 : decode cX5_gather 42 = .ok (.invokevirtual 99, 3) := by decide +kernel
theorem dX5_gather_45 : decode cX5_gather 45 = .ok (.iinc 3 1, 3) := by decide +kernel
theorem dX5_gather_48 : decode cX5_gather 48 = .ok (.goto (-41), 3) := by decide +kernel
theorem dX5_gather_51 : decode cX5_gather 51 = .ok (.return_, 1) := by decide +kernel
theorem dX5_mixPaintsInto_0 : decode cX5_mixPaintsInto 0 = .ok (.iconst 0, 1) := by decide +kernel
theorem dX5_mixPaintsInto_1 : decode cX5_mixPaintsInto 1 = .ok (.istore_n 3, 1) := by decide +kernel
theorem dX5_mixPaintsInto_2 : decode cX5_mixPaintsInto 2 = .ok (.iload_n 3, 1) := by decide +kernel
theorem dX5_mixPaintsInto_3 : decode cX5_mixPaintsInto 3 = .ok (.bipush 10, 2) := by decide +kernel
theorem dX5_mixPaintsInto_5 : decode cX5_mixPaintsInto 5 = .ok (.if_icmp .ge 23, 3) := by decide +kernel
theorem dX5_mixPaintsInto_8 : decode cX5_mixPaintsInto 8 = .ok (.ldc2_w 102, 3) := by decide +kernel
theorem dX5_mixPaintsInto_11 : decode cX5_mixPaintsInto 11 = .ok (.lload_n 1, 1) := by decide +kernel
theorem dX5_mixPaintsInto_12 : decode cX5_mixPaintsInto 12 = .ok (.lmul, 1) := by decide +kernel
theorem dX5_mixPaintsInto_13 : decode cX5_mixPaintsInto 13 = .ok (.aload_n 0, 1) := by decide +kernel
theorem dX5_mixPaintsInto_14 : decode cX5_mixPaintsInto 14 = .ok (.getfield 18, 3) := by decide +kernel
theorem dX5_mixPaintsInto_17 : decode cX5_mixPaintsInto 17 = .ok (.iload_n 3, 1) := by decide +kernel
theorem dX5_mixPaintsInto_18 : decode cX5_mixPaintsInto 18 = .ok (.iaload, 1) := by decide +kernel
theorem dX5_mixPaintsInto_19 : decode cX5_mixPaintsInto 19 = .ok (.i2l, 1) := by decide +kernel
theorem dX5_mixPaintsInto_20 : decode cX5_mixPaintsInto 20 = .ok (.ladd, 1) := by decide +kernel
theorem dX5_mixPaintsInto_21 : decode cX5_mixPaintsInto 21 = .ok (.lstore_n 1, 1) := by decide +kernel
theorem dX5_mixPaintsInto_22 : decode cX5_mixPaintsInto 22 = .ok (.iinc 3 1, 3) := by decide +kernel
theorem dX5_mixPaintsInto_25 : decode cX5_mixPaintsInto 25 = .ok (.goto (-23), 3) := by decide +kernel
theorem dX5_mixPaintsInto_28 : decode cX5_mixPaintsInto 28 = .ok (.lload_n 1, 1) := by decide +kernel
theorem dX5_mixPaintsInto_29 : decode cX5_mixPaintsInto 29 = .ok (.lreturn, 1) := by decide +kernel
