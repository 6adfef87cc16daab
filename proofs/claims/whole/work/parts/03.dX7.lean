set_option maxRecDepth 20000 in
theorem ggX7_init_X5_init : GoodIn wsX7_init wsX5_init := goodIn_r _ [39, 40, 2, 3, 41, 42, 43, 44, 30, 45, 46, 47, 48, 49, 50, 51, 52, 53, 54, 55, 56, 57, 58, 59, 60, 61, 62, 63, 64, 65, 181, 182, 118, 119, 120, 121, 122, 123, 124, 125, 126, 127, 128, 129, 130, 131, 132] (by decide +kernel) (by decide +kernel)
set_option maxRecDepth 20000 in
theorem gX7_init_X5_init : GoodIn wsX7_init (wsX5_init) := ggX7_init_X5_init
set_option maxRecDepth 20000 in
theorem ggX7_init_X1_init : GoodIn wsX7_init wsX1_init := goodIn_r _ [67, 68, 2, 3, 30, 69, 70, 71, 72, 73, 146, 147, 148, 149, 150] (by decide +kernel) (by decide +kernel)
set_option maxRecDepth 20000 in
theorem gX7_init_X1_init_n23 : GoodIn wsX7_init (wsX1_init) := ggX7_init_X1_init
set_option maxRecDepth 20000 in
theorem ggX7_init_X2_init : GoodIn wsX7_init wsX2_init := goodIn_r _ [76, 77, 2, 3, 30, 78, 79, 80, 81, 82, 83, 84, 85, 86, 87, 88, 151, 152, 153, 154, 155, 156, 157, 158, 159, 160] (by decide +kernel) (by decide +kernel)
set_option maxRecDepth 20000 in
theorem gX7_init_X2_init : GoodIn wsX7_init (wsX2_init) := ggX7_init_X2_init
set_option maxRecDepth 20000 in
theorem ggX7_init_X4_init : GoodIn wsX7_init wsX4_init := goodIn_r _ [90, 91, 2, 3, 30, 92, 93, 94, 95, 96, 161, 162, 163, 164, 165] (by decide +kernel) (by decide +kernel)
set_option maxRecDepth 20000 in
theorem gX7_init_X4_init_n37 : GoodIn wsX7_init (wsX4_init) := ggX7_init_X4_init
set_option maxRecDepth 20000 in
theorem ggX7_init_X3_init : GoodIn wsX7_init wsX3_init := goodIn_r _ [98, 99, 2, 3, 30, 100, 101, 102, 84, 103, 104, 105, 106, 166, 167, 168, 169, 170, 171, 172] (by decide +kernel) (by decide +kernel)
set_option maxRecDepth 20000 in
theorem gX7_init_X3_init_n44 : GoodIn wsX7_init (wsX3_init) := ggX7_init_X3_init
set_option maxRecDepth 20000 in
theorem ggX7_init_X0_init : GoodIn wsX7_init wsX0_init := goodIn_r _ [108, 109, 2, 3, 30, 110, 111, 112, 113, 114, 115, 116, 117, 173, 174, 175, 176, 177, 178, 179, 180] (by decide +kernel) (by decide +kernel)
set_option maxRecDepth 20000 in
theorem gX7_init_X0_init_n51 : GoodIn wsX7_init (wsX0_init) := ggX7_init_X0_init
theorem dX7_init_0 : decode cX7_init 0 = .ok (.aload_n 0, 1) := by decide +kernel
theorem dX7_init_1 : decode cX7_init 1 = .ok (.invokespecial 1, 3) := by decide +kernel
theorem dX7_init_4 : decode cX7_init 4 = .ok (.aload_n 0, 1) := by decide +kernel
theorem dX7_init_5 : decode cX7_init 5 = .ok (.new 7, 3) := by decide +kernel
theorem dX7_init_8 : decode cX7_init 8 = .ok (.dup, 1) := by decide +kernel
theorem dX7_init_9 : decode cX7_init 9 = .ok (.invokespecial 9, 3) := by decide +kernel
theorem dX7_init_12 : decode cX7_init 12 = .ok (.putfield 10, 3) := by decide +kernel
theorem dX7_init_15 : decode cX7_init 15 = .ok (.aload_n 0, 1) := by decide +kernel
theorem dX7_init_16 : decode cX7_init 16 = .ok (.aload_n 0, 1) := by decide +kernel
theorem dX7_init_17 : decode cX7_init 17 = .ok (.getfield 10, 3) := by decide +kernel
theorem dX7_init_20 : decode cX7_init 20 = .ok (.getfield 16, 3) := by decide +kernel
theorem dX7_init_23 : decode cX7_init 23 = .ok (.putfield 20, 3) := by decide +kernel
theorem dX7_init_26 : decode cX7_init 26 = .ok (.aload_n 0, 1) := by decide +kernel
theorem dX7_init_27 : decode cX7_init 27 = .ok (.new 21, 3) := by decide +kernel
theorem dX7_init_30 : decode cX7_init 30 = .ok (.dup, 1) := by decide +kernel
theorem dX7_init_31 : decode cX7_init 31 = .ok (.invokespecial 23, 3) := by decide +kernel
theorem dX7_init_34 : decode cX7_init 34 = .ok (.putfield 24, 3) := by decide +kernel
theorem dX7_init_37 : decode cX7_init 37 = .ok (.aload_n 0, 1) := by decide +kernel
theorem dX7_init_38 : decode cX7_init 38 = .ok (.new 28, 3) := by decide +kernel
theorem dX7_init_41 : decode cX7_init 41 = .ok (.dup, 1) := by decide +kernel
theorem dX7_init_42 : decode cX7_init 42 = .ok (.invokespecial 30, 3) := by decide +kernel
theorem dX7_init_45 : decode cX7_init 45 = .ok (.putfield 31, 3) := by decide +kernel
theorem dX7_init_48 : decode cX7_init 48 = .ok (.aload_n 0, 1) := by decide +kernel
theorem dX7_init_49 : decode cX7_init 49 = .ok (.new 35, 3) := by decide +kernel
theorem dX7_init_52 : decode cX7_init 52 = .ok (.dup, 1) := by decide +kernel
theorem dX7_init_53 : decode cX7_init 53 = .ok (.invokespecial 37, 3) := by decide +kernel
theorem dX7_init_56 : decode cX7_init 56 = .ok (.putfield 38, 3) := by decide +kernel
theorem dX7_init_59 : decode cX7_init 59 = .ok (.aload_n 0, 1) := by decide +kernel
theorem dX7_init_60 : decode cX7_init 60 = .ok (.new 42, 3) := by decide +kernel
theorem dX7_init_63 : decode cX7_init 63 = .ok (.dup, 1) := by decide +kernel
theorem dX7_init_64 : decode cX7_init 64 = .ok (.invokespecial 44, 3) := by decide +kernel
theorem dX7_init_67 : decode cX7_init 67 = .ok (.putfield 45, 3) := by decide +kernel
theorem dX7_init_70 : decode cX7_init 70 = .ok (.aload_n 0, 1) := by decide +kernel
theorem dX7_init_71 : decode cX7_init 71 = .ok (.new 49, 3) := by decide +kernel
theorem dX7_init_74 : decode cX7_init 74 = .ok (.dup, 1) := by decide +kernel
theorem dX7_init_75 : decode cX7_init 75 = .ok (.invokespecial 51, 3) := by decide +kernel
theorem dX7_init_78 : decode cX7_init 78 = .ok (.putfield 52, 3) := by decide +kernel
theorem dX7_init_81 : decode cX7_init 81 = .ok (.aload_n 0, 1) := by decide +kernel
theorem dX7_init_82 : decode cX7_init 82 = .ok (.bipush 6, 2) := by decide +kernel
theorem dX7_init_84 : decode cX7_init 84 = .ok (.newarray .int, 2) := by decide +kernel
theorem dX7_init_86 : decode cX7_init 86 = .ok (.putfield 56, 3) := by decide +kernel
theorem dX7_init_89 : decode cX7_init 89 = .ok (.aload_n 0, 1) := by decide +kernel
theorem dX7_init_90 : decode cX7_init 90 = .ok (.iconst 0, 1) := by decide +kernel
theorem dX7_init_91 : decode cX7_init 91 = .ok (.putfield 60, 3) := by decide +kernel
theorem dX7_init_94 : decode cX7_init 94 = .ok (.aload_n 0, 1) := by decide +kernel
theorem dX7_init_95 : decode cX7_init 95 = .ok (.iconst 0, 1) := by decide +kernel
theorem dX7_init_96 : decode cX7_init 96 = .ok (.putfield 64, 3) := by decide +kernel
theorem dX7_init_99 : decode cX7_init 99 = .ok (.aload_n 0, 1) := by decide +kernel
theorem dX7_init_100 : decode cX7_init 100 = .ok (.iconst 0, 1) := by decide +kernel
theorem dX7_init_101 : decode cX7_init 101 = .ok (.putfield 67, 3) := by decide +kernel
theorem dX7_init_104 : decode cX7_init 104 = .ok (.aload_n 0, 1) := by decide +kernel
theorem dX7_init_105 : decode cX7_init 105 = .ok (.lconst 0, 1) := by decide +kernel
theorem dX7_init_106 : decode cX7_init 106 = .ok (.putfield 70, 3) := by decide +kernel
theorem dX7_init_109 : decode cX7_init 109 = .ok (.aload_n 0, 1) := by decide +kernel
theorem dX7_init_110 : decode cX7_init 110 = .ok (.lconst 1, 1) := by decide +kernel
theorem dX7_init_111 : decode cX7_init 111 = .ok (.putfield 74, 3) := by decide +kernel
theorem dX7_init_114 : decode cX7_init 114 = .ok (.return_, 1) := by decide +kernel
set_option maxRecDepth 20000 in
theorem ggX7_later_X7_isWithin : GoodIn wsX7_later wsX7_isWithin := goodIn_r _ [5] (by decide +kernel) (by decide +kernel)
set_option maxRecDepth 20000 in
theorem gX7_later_X7_isWithin : GoodIn wsX7_later (va_wsS RX7 77 yX7_isWithin wsX7_isWithin) := goodIn_app (goodIn_of _ (by decide +kernel)) ggX7_later_X7_isWithin
theorem dX7_later_0 : decode cX7_later 0 = .ok (.iload_n 1, 1) := by decide +kernel
theorem dX7_later_1 : decode cX7_later 1 = .ok (.iconst 0, 1) := by decide +kernel
theorem dX7_later_2 : decode cX7_later 2 = .ok (.sipush 30000, 3) := by decide +kernel
theorem dX7_later_5 : decode cX7_later 5 = .ok (.aload_n 0, 1) := by decide +kernel
theorem dX7_later_6 : decode cX7_later 6 = .ok (.getfield 60, 3) := by decide +kernel
theorem dX7_later_9 : decode cX7_later 9 = .ok (.isub, 1) := by decide +kernel
theorem dX7_later_10 : decode cX7_later 10 = .ok (.invokestatic 77, 3) := by decide +kernel
theorem dX7_later_13 : decode cX7_later 13 = .ok (.ifCond .ne 5, 3) := by decide +kernel
theorem dX7_later_16 : decode cX7_later 16 = .ok (.iconst (-1), 1) := by decide +kernel
theorem dX7_later_17 : decode cX7_later 17 = .ok (.ireturn, 1) := by decide +kernel
theorem dX7_later_18 : decode cX7_later 18 = .ok (.aload_n 0, 1) := by decide +kernel
theorem dX7_later_19 : decode cX7_later 19 = .ok (.dup, 1) := by decide +kernel
theorem dX7_later_20 : decode cX7_later 20 = .ok (.getfield 60, 3) := by decide +kernel
theorem dX7_later_23 : decode cX7_later 23 = .ok (.iload_n 1, 1) := by decide +kernel
theorem dX7_later_24 : decode cX7_later 24 = .ok (.iadd, 1) := by decide +kernel
theorem dX7_later_25 : decode cX7_later 25 = .ok (.putfield 60, 3) := by decide +kernel
theorem dX7_later_28 : decode cX7_later 28 = .ok (.aload_n 0, 1) := by decide +kernel
theorem dX7_later_29 : decode cX7_later 29 = .ok (.getfield 60, 3) := by decide +kernel
theorem dX7_later_32 : decode cX7_later 32 = .ok (.ireturn, 1) := by decide +kernel
set_option maxRecDepth 20000 in
theorem ggX7_row_X7_isRow : GoodIn wsX7_row wsX7_isRow := goodIn_r _ [5, 6, 7, 4, 8] (by decide +kernel) (by decide +kernel)
set_option maxRecDepth 20000 in
theorem gX7_row_X7_isRow : GoodIn wsX7_row (va_wsS RX7 81 yX7_isRow wsX7_isRow) := goodIn_app (goodIn_of _ (by decide +kernel)) ggX7_row_X7_isRow
set_option maxRecDepth 20000 in
theorem ggX7_row_X7_refuse : GoodIn wsX7_row wsX7_refuse := goodIn_r _ [12, 13, 14, 22, 23, 24, 25, 26, 27, 28, 29, 30, 31, 32, 33, 34] (by decide +kernel) (by decide +kernel)
set_option maxRecDepth 20000 in
theorem gX7_row_X7_refuse : GoodIn wsX7_row (wsV RX7 85 RX7 yX7_refuse wsX7_refuse) := goodIn_app (goodIn_of _ (by decide +kernel)) ggX7_row_X7_refuse
set_option maxRecDepth 20000 in
theorem ggX7_row_X6_make : GoodIn wsX7_row wsX6_make := goodIn_r _ [19, 20, 21, 35, 36] (by decide +kernel) (by decide +kernel)
set_option maxRecDepth 20000 in
theorem gX7_row_X6_make : GoodIn wsX7_row (wsV RX7 89 RX6 yX6_make wsX6_make) := goodIn_app (goodIn_of _ (by decide +kernel)) ggX7_row_X6_make
theorem dX7_row_0 : decode cX7_row 0 = .ok (.iload_n 1, 1) := by decide +kernel
theorem dX7_row_1 : decode cX7_row 1 = .ok (.invokestatic 81, 3) := by decide +kernel
theorem dX7_row_4 : decode cX7_row 4 = .ok (.ifCond .eq 9, 3) := by decide +kernel
theorem dX7_row_7 : decode cX7_row 7 = .ok (.iload_n 2, 1) := by decide +kernel
theorem dX7_row_8 : decode cX7_row 8 = .ok (.bipush 40, 2) := by decide +kernel
theorem dX7_row_10 : decode cX7_row 10 = .ok (.if_icmp .le 5, 3) := by decide +kernel
theorem dX7_row_13 : decode cX7_row 13 = .ok (.iconst (-1), 1) := by decide +kernel
theorem dX7_row_14 : decode cX7_row 14 = .ok (.ireturn, 1) := by decide +kernel
theorem dX7_row_15 : decode cX7_row 15 = .ok (.iload_n 2, 1) := by decide +kernel
theorem dX7_row_16 : decode cX7_row 16 = .ok (.ifCond .ge 9, 3) := by decide +kernel
theorem dX7_row_19 : decode cX7_row 19 = .ok (.aload_n 0, 1) := by decide +kernel
theorem dX7_row_20 : decode cX7_row 20 = .ok (.iconst 5, 1) := by decide +kernel
theorem dX7_row_21 : decode cX7_row 21 = .ok (.invokevirtual 85, 3) := by decide +kernel
theorem dX7_row_24 : decode cX7_row 24 = .ok (.ireturn, 1) := by decide +kernel
theorem dX7_row_25 : decode cX7_row 25 = .ok (.aload_n 0, 1) := by decide +kernel
theorem dX7_row_26 : decode cX7_row 26 = .ok (.getfield 20, 3) := by decide +kernel
theorem dX7_row_29 : decode cX7_row 29 = .ok (.iload_n 1, 1) := by decide +kernel
theorem dX7_row_30 : decode cX7_row 30 = .ok (.iload_n 2, 1) := by decide +kernel
theorem dX7_row_31 : decode cX7_row 31 = .ok (.invokevirtual 89, 3) := by decide +kernel
theorem dX7_row_34 : decode cX7_row 34 = .ok (.iload_n 2, 1) := by decide +kernel
theorem dX7_row_35 : decode cX7_row 35 = .ok (.ireturn, 1) := by decide +kernel
set_option maxRecDepth 20000 in
theorem ggX7_lay_X7_isRow : GoodIn wsX7_lay wsX7_isRow := goodIn_r _ [5, 6, 7, 4, 8] (by decide +kernel) (by decide +kernel)
set_option maxRecDepth 20000 in
theorem gX7_lay_X7_isRow : GoodIn wsX7_lay (va_wsS RX7 81 yX7_isRow wsX7_isRow) := goodIn_app (goodIn_of _ (by decide +kernel)) ggX7_lay_X7_isRow
set_option maxRecDepth 20000 in
theorem ggX7_lay_X6_isMissing : GoodIn wsX7_lay wsX6_isMissing := goodIn_r _ [13, 14, 43, 44] (by decide +kernel) (by decide +kernel)
set_option maxRecDepth 20000 in
theorem gX7_lay_X6_isMissing : GoodIn wsX7_lay (wsV RX7 95 RX6 yX6_isMissing wsX6_isMissing) := goodIn_app (goodIn_of _ (by decide +kernel)) ggX7_lay_X6_isMissing
set_option maxRecDepth 20000 in
theorem ggX7_lay_X7_refuse : GoodIn wsX7_lay wsX7_refuse := goodIn_r _ [18, 19, 20, 30, 31, 32, 33, 34, 35, 36, 37, 38, 39, 40, 41, 42] (by decide +kernel) (by decide +kernel)
set_option maxRecDepth 20000 in
theorem gX7_lay_X7_refuse : GoodIn wsX7_lay (wsV RX7 85 RX7 yX7_refuse wsX7_refuse) := goodIn_app (goodIn_of _ (by decide +kernel)) ggX7_lay_X7_refuse
set_option maxRecDepth 20000 in
theorem ggX7_lay_X6_hasRun : GoodIn wsX7_lay wsX6_hasRun := goodIn_r _ [24, 14, 43, 44] (by decide +kernel) (by decide +kernel)
set_option maxRecDepth 20000 in
theorem gX7_lay_X6_hasRun : GoodIn wsX7_lay (wsV RX7 98 RX6 yX6_hasRun wsX6_hasRun) := goodIn_app (goodIn_of _ (by decide +kernel)) ggX7_lay_X6_hasRun
set_option maxRecDepth 20000 in
theorem ggX7_lay_X6_swap : GoodIn wsX7_lay wsX6_swap := goodIn_r _ [28, 29, 43, 44] (by decide +kernel) (by decide +kernel)
set_option maxRecDepth 20000 in
theorem gX7_lay_X6_swap : GoodIn wsX7_lay (wsV RX7 101 RX6 yX6_swap wsX6_swap) := goodIn_app (goodIn_of _ (by decide +kernel)) ggX7_lay_X6_swap
theorem dX7_lay_0 : decode cX7_lay 0 = .ok (.iload_n 1, 1) := by decide +kernel
theorem dX7_lay_1 : decode cX7_lay 1 = .ok (.invokestatic 81, 3) := by decide +kernel
theorem dX7_lay_4 : decode cX7_lay 4 = .ok (.ifCond .ne 5, 3) := by decide +kernel
theorem dX7_lay_7 : decode cX7_lay 7 = .ok (.iconst (-1), 1) := by decide +kernel
theorem dX7_lay_8 : decode cX7_lay 8 = .ok (.ireturn, 1) := by decide +kernel
theorem dX7_lay_9 : decode cX7_lay 9 = .ok (.aload_n 0, 1) := by decide +kernel
theorem dX7_lay_10 : decode cX7_lay 10 = .ok (.getfield 20, 3) := by decide +kernel
theorem dX7_lay_13 : decode cX7_lay 13 = .ok (.iload_n 1, 1) := by decide +kernel
theorem dX7_lay_14 : decode cX7_lay 14 = .ok (.invokevirtual 95, 3) := by decide +kernel
theorem dX7_lay_17 : decode cX7_lay 17 = .ok (.ifCond .eq 9, 3) := by decide +kernel
theorem dX7_lay_20 : decode cX7_lay 20 = .ok (.aload_n 0, 1) := by decide +kernel
theorem dX7_lay_21 : decode cX7_lay 21 = .ok (.iconst 1, 1) := by decide +kernel
theorem dX7_lay_22 : decode cX7_lay 22 = .ok (.invokevirtual 85, 3) := by decide +kernel
theorem dX7_lay_25 : decode cX7_lay 25 = .ok (.ireturn, 1) := by decide +kernel
theorem dX7_lay_26 : decode cX7_lay 26 = .ok (.aload_n 0, 1) := by decide +kernel
theorem dX7_lay_27 : decode cX7_lay 27 = .ok (.getfield 20, 3) := by decide +kernel
theorem dX7_lay_30 : decode cX7_lay 30 = .ok (.iload_n 1, 1) := by decide +kernel
theorem dX7_lay_31 : decode cX7_lay 31 = .ok (.iload_n 2, 1) := by decide +kernel
theorem dX7_lay_32 : decode cX7_lay 32 = .ok (.iconst 1, 1) := by decide +kernel
theorem dX7_lay_33 : decode cX7_lay 33 = .ok (.invokevirtual 98, 3) := by decide +kernel
theorem dX7_lay_36 : decode cX7_lay 36 = .ok (.ifCond .ne 9, 3) := by decide +kernel
theorem dX7_lay_39 : decode cX7_lay 39 = .ok (.aload_n 0, 1) := by decide +kernel
theorem dX7_lay_40 : decode cX7_lay 40 = .ok (.iconst 2, 1) := by decide +kernel
theorem dX7_lay_41 : decode cX7_lay 41 = .ok (.invokevirtual 85, 3) := by decide +kernel
theorem dX7_lay_44 : decode cX7_lay 44 = .ok (.ireturn, 1) := by decide +kernel
theorem dX7_lay_45 : decode cX7_lay 45 = .ok (.aload_n 0, 1) := by decide +kernel
theorem dX7_lay_46 : decode cX7_lay 46 = .ok (.getfield 20, 3) := by decide +kernel
theorem dX7_lay_49 : decode cX7_lay 49 = .ok (.iload_n 1, 1) := by decide +kernel
theorem dX7_lay_50 : decode cX7_lay 50 = .ok (.iload_n 2, 1) := by decide +kernel
theorem dX7_lay_51 : decode cX7_lay 51 = .ok (.iload_n 3, 1) := by decide +kernel
theorem dX7_lay_52 : decode cX7_lay 52 = .ok (.i2b, 1) := by decide +kernel
theorem dX7_lay_53 : decode cX7_lay 53 = .ok (.invokevirtual 101, 3) := by decide +kernel
theorem dX7_lay_56 : decode cX7_lay 56 = .ok (.sipush 1000, 3) := by decide +kernel
theorem dX7_lay_59 : decode cX7_lay 59 = .ok (.iadd, 1) := by decide +kernel
theorem dX7_lay_60 : decode cX7_lay 60 = .ok (.ireturn, 1) := by decide +kernel
set_option maxRecDepth 20000 in
theorem ggX7_tear_X7_isRow : GoodIn wsX7_tear wsX7_isRow := goodIn_r _ [5, 6, 7, 4, 8] (by decide +kernel) (by decide +kernel)
set_option maxRecDepth 20000 in
theorem gX7_tear_X7_isRow : GoodIn wsX7_tear (va_wsS RX7 81 yX7_isRow wsX7_isRow) := goodIn_app (goodIn_of _ (by decide +kernel)) ggX7_tear_X7_isRow
set_option maxRecDepth 20000 in
theorem ggX7_tear_X6_isMissing : GoodIn wsX7_tear wsX6_isMissing := goodIn_r _ [13, 14, 38, 39] (by decide +kernel) (by decide +kernel)
set_option maxRecDepth 20000 in
theorem gX7_tear_X6_isMissing : GoodIn wsX7_tear (wsV RX7 95 RX6 yX6_isMissing wsX6_isMissing) := goodIn_app (goodIn_of _ (by decide +kernel)) ggX7_tear_X6_isMissing
set_option maxRecDepth 20000 in
theorem ggX7_tear_X7_refuse : GoodIn wsX7_tear wsX7_refuse := goodIn_r _ [18, 19, 20, 25, 26, 27, 28, 29, 30, 31, 32, 33, 34, 35, 36, 37] (by decide +kernel) (by decide +kernel)
set_option maxRecDepth 20000 in
theorem gX7_tear_X7_refuse : GoodIn wsX7_tear (wsV RX7 85 RX7 yX7_refuse wsX7_refuse) := goodIn_app (goodIn_of _ (by decide +kernel)) ggX7_tear_X7_refuse
set_option maxRecDepth 20000 in
theorem ggX7_tear_X6_drop : GoodIn wsX7_tear wsX6_drop := goodIn_r _ [24, 14, 38, 39] (by decide +kernel) (by decide +kernel)
set_option maxRecDepth 20000 in
theorem gX7_tear_X6_drop : GoodIn wsX7_tear (wsV RX7 105 RX6 yX6_drop wsX6_drop) := goodIn_app (goodIn_of _ (by decide +kernel)) ggX7_tear_X6_drop
theorem dX7_tear_0 : decode cX7_tear 0 = .ok (.iload_n 1, 1) := by decide +kernel
theorem dX7_tear_1 : decode cX7_tear 1 = .ok (.invokestatic 81, 3) := by decide +kernel
theorem dX7_tear_4 : decode cX7_tear 4 = .ok (.ifCond .ne 5, 3) := by decide +kernel
theorem dX7_tear_7 : decode cX7_tear 7 = .ok (.iconst (-1), 1) := by decide +kernel
theorem dX7_tear_8 : decode cX7_tear 8 = .ok (.ireturn, 1) := by decide +kernel
theorem dX7_tear_9 : decode cX7_tear 9 = .ok (.aload_n 0, 1) := by decide +kernel
theorem dX7_tear_10 : decode cX7_tear 10 = .ok (.getfield 20, 3) := by decide +kernel
theorem dX7_tear_13 : decode cX7_tear 13 = .ok (.iload_n 1, 1) := by decide +kernel
theorem dX7_tear_14 : decode cX7_tear 14 = .ok (.invokevirtual 95, 3) := by decide +kernel
theorem dX7_tear_17 : decode cX7_tear 17 = .ok (.ifCond .eq 9, 3) := by decide +kernel
theorem dX7_tear_20 : decode cX7_tear 20 = .ok (.aload_n 0, 1) := by decide +kernel
theorem dX7_tear_21 : decode cX7_tear 21 = .ok (.iconst 1, 1) := by decide +kernel
theorem dX7_tear_22 : decode cX7_tear 22 = .ok (.invokevirtual 85, 3) := by decide +kernel
theorem dX7_tear_25 : decode cX7_tear 25 = .ok (.ireturn, 1) := by decide +kernel
theorem dX7_tear_26 : decode cX7_tear 26 = .ok (.aload_n 0, 1) := by decide +kernel
theorem dX7_tear_27 : decode cX7_tear 27 = .ok (.getfield 20, 3) := by decide +kernel
theorem dX7_tear_30 : decode cX7_tear 30 = .ok (.iload_n 1, 1) := by decide +kernel
theorem dX7_tear_31 : decode cX7_tear 31 = .ok (.invokevirtual 105, 3) := by decide +kernel
theorem dX7_tear_34 : decode cX7_tear 34 = .ok (.iconst 1, 1) := by decide +kernel
theorem dX7_tear_35 : decode cX7_tear 35 = .ok (.ireturn, 1) := by decide +kernel
set_option maxRecDepth 20000 in
theorem ggX7_copy_X7_isRow : GoodIn wsX7_copy wsX7_isRow := goodIn_r _ [5, 6, 7, 4, 8] (by decide +kernel) (by decide +kernel)
set_option maxRecDepth 20000 in
theorem gX7_copy_X7_isRow : GoodIn wsX7_copy (va_wsS RX7 81 yX7_isRow wsX7_isRow) := goodIn_app (goodIn_of _ (by decide +kernel)) ggX7_copy_X7_isRow
set_option maxRecDepth 20000 in
theorem ggX7_copy_X6_isMissing : GoodIn wsX7_copy wsX6_isMissing := goodIn_r _ [13, 14, 47, 48] (by decide +kernel) (by decide +kernel)
set_option maxRecDepth 20000 in
theorem gX7_copy_X6_isMissing : GoodIn wsX7_copy (wsV RX7 95 RX6 yX6_isMissing wsX6_isMissing) := goodIn_app (goodIn_of _ (by decide +kernel)) ggX7_copy_X6_isMissing
set_option maxRecDepth 20000 in
theorem ggX7_copy_X7_refuse : GoodIn wsX7_copy wsX7_refuse := goodIn_r _ [18, 19, 20, 34, 35, 36, 37, 38, 39, 40, 41, 42, 43, 44, 45, 46] (by decide +kernel) (by decide +kernel)
set_option maxRecDepth 20000 in
theorem gX7_copy_X7_refuse : GoodIn wsX7_copy (wsV RX7 85 RX7 yX7_refuse wsX7_refuse) := goodIn_app (goodIn_of _ (by decide +kernel)) ggX7_copy_X7_refuse
set_option maxRecDepth 20000 in
theorem ggX7_copy_X6_hasRun : GoodIn wsX7_copy wsX6_hasRun := goodIn_r _ [24, 14, 47, 48] (by decide +kernel) (by decide +kernel)
set_option maxRecDepth 20000 in
theorem gX7_copy_X6_hasRun : GoodIn wsX7_copy (wsV RX7 98 RX6 yX6_hasRun wsX6_hasRun) := goodIn_app (goodIn_of _ (by decide +kernel)) ggX7_copy_X6_hasRun
set_option maxRecDepth 20000 in
theorem ggX7_copy_X6_move : GoodIn wsX7_copy wsX6_move := goodIn_r _ [28, 29, 30, 31, 32, 33, 47, 48] (by decide +kernel) (by decide +kernel)
set_option maxRecDepth 20000 in
theorem gX7_copy_X6_move : GoodIn wsX7_copy (wsV RX7 109 RX6 yX6_move wsX6_move) := goodIn_app (goodIn_of _ (by decide +kernel)) ggX7_copy_X6_move
theorem dX7_copy_0 : decode cX7_copy 0 = .ok (.iload_n 1, 1) := by decide +kernel
theorem dX7_copy_1 : decode cX7_copy 1 = .ok (.invokestatic 81, 3) := by decide +kernel
theorem dX7_copy_4 : decode cX7_copy 4 = .ok (.ifCond .eq 10, 3) := by decide +kernel
theorem dX7_copy_7 : decode cX7_copy 7 = .ok (.iload_n 3, 1) := by decide +kernel
theorem dX7_copy_8 : decode cX7_copy 8 = .ok (.invokestatic 81, 3) := by decide +kernel
theorem dX7_copy_11 : decode cX7_copy 11 = .ok (.ifCond .ne 5, 3) := by decide +kernel
theorem dX7_copy_14 : decode cX7_copy 14 = .ok (.iconst (-1), 1) := by decide +kernel
theorem dX7_copy_15 : decode cX7_copy 15 = .ok (.ireturn, 1) := by decide +kernel
theorem dX7_copy_16 : decode cX7_copy 16 = .ok (.aload_n 0, 1) := by decide +kernel
theorem dX7_copy_17 : decode cX7_copy 17 = .ok (.getfield 20, 3) := by decide +kernel
theorem dX7_copy_20 : decode cX7_copy 20 = .ok (.iload_n 1, 1) := by decide +kernel
theorem dX7_copy_21 : decode cX7_copy 21 = .ok (.invokevirtual 95, 3) := by decide +kernel
theorem dX7_copy_24 : decode cX7_copy 24 = .ok (.ifCond .ne 14, 3) := by decide +kernel
theorem dX7_copy_27 : decode cX7_copy 27 = .ok (.aload_n 0, 1) := by decide +kernel
theorem dX7_copy_28 : decode cX7_copy 28 = .ok (.getfield 20, 3) := by decide +kernel
theorem dX7_copy_31 : decode cX7_copy 31 = .ok (.iload_n 3, 1) := by decide +kernel
theorem dX7_copy_32 : decode cX7_copy 32 = .ok (.invokevirtual 95, 3) := by decide +kernel
theorem dX7_copy_35 : decode cX7_copy 35 = .ok (.ifCond .eq 9, 3) := by decide +kernel
theorem dX7_copy_38 : decode cX7_copy 38 = .ok (.aload_n 0, 1) := by decide +kernel
theorem dX7_copy_39 : decode cX7_copy 39 = .ok (.iconst 1, 1) := by decide +kernel
theorem dX7_copy_40 : decode cX7_copy 40 = .ok (.invokevirtual 85, 3) := by decide +kernel
theorem dX7_copy_43 : decode cX7_copy 43 = .ok (.ireturn, 1) := by decide +kernel
theorem dX7_copy_44 : decode cX7_copy 44 = .ok (.aload_n 0, 1) := by decide +kernel
theorem dX7_copy_45 : decode cX7_copy 45 = .ok (.getfield 20, 3) := by decide +kernel
theorem dX7_copy_48 : decode cX7_copy 48 = .ok (.iload_n 1, 1) := by decide +kernel
theorem dX7_copy_49 : decode cX7_copy 49 = .ok (.iload_n 2, 1) := by decide +kernel
theorem dX7_copy_50 : decode cX7_copy 50 = .ok (.iload 5, 2) := by decide +kernel
theorem dX7_copy_52 : decode cX7_copy 52 = .ok (.invokevirtual 98, 3) := by decide +kernel
theorem dX7_copy_55 : decode cX7_copy 55 = .ok (.ifCond .eq 18, 3) := by decide +kernel
theorem dX7_copy_58 : decode cX7_copy 58 = .ok (.aload_n 0, 1) := by decide +kernel
theorem dX7_copy_59 : decode cX7_copy 59 = .ok (.getfield 20, 3) := by decide +kernel
theorem dX7_copy_62 : decode cX7_copy 62 = .ok (.iload_n 3, 1) := by decide +kernel
theorem dX7_copy_63 : decode cX7_copy 63 = .ok (.iload 4, 2) := by decide +kernel
theorem dX7_copy_65 : decode cX7_copy 65 = .ok (.iload 5, 2) := by decide +kernel
theorem dX7_copy_67 : decode cX7_copy 67 = .ok (.invokevirtual 98, 3) := by decide +kernel
theorem dX7_copy_70 : decode cX7_copy 70 = .ok (.ifCond .ne 9, 3) := by decide +kernel
theorem dX7_copy_73 : decode cX7_copy 73 = .ok (.aload_n 0, 1) := by decide +kernel
theorem dX7_copy_74 : decode cX7_copy 74 = .ok (.iconst 2, 1) := by decide +kernel
theorem dX7_copy_75 : decode cX7_copy 75 = .ok (.invokevirtual 85, 3) := by decide +kernel
theorem dX7_copy_78 : decode cX7_copy 78 = .ok (.ireturn, 1) := by decide +kernel
theorem dX7_copy_79 : decode cX7_copy 79 = .ok (.aload_n 0, 1) := by decide +kernel
theorem dX7_copy_80 : decode cX7_copy 80 = .ok (.getfield 20, 3) := by decide +kernel
theorem dX7_copy_83 : decode cX7_copy 83 = .ok (.iload_n 1, 1) := by decide +kernel
theorem dX7_copy_84 : decode cX7_copy 84 = .ok (.iload_n 2, 1) := by decide +kernel
theorem dX7_copy_85 : decode cX7_copy 85 = .ok (.iload_n 3, 1) := by decide +kernel
theorem dX7_copy_86 : decode cX7_copy 86 = .ok (.iload 4, 2) := by decide +kernel
theorem dX7_copy_88 : decode cX7_copy 88 = .ok (.iload 5, 2) := by decide +kernel
theorem dX7_copy_90 : decode cX7_copy 90 = .ok (.invokevirtual 109, 3) := by decide +kernel
theorem dX7_copy_93 : decode cX7_copy 93 = .ok (.iconst 1, 1) := by decide +kernel
theorem dX7_copy_94 : decode cX7_copy 94 = .ok (.ireturn, 1) := by decide +kernel
set_option maxRecDepth 20000 in
theorem ggX7_match_X7_areTwoRows : GoodIn wsX7_match wsX7_areTwoRows := goodIn_r _ [6, 7, 8, 5, 9, 10, 11, 12] (by decide +kernel) (by decide +kernel)
set_option maxRecDepth 20000 in
theorem gX7_match_X7_areTwoRows : GoodIn wsX7_match (va_wsS RX7 113 yX7_areTwoRows wsX7_areTwoRows) := goodIn_app (goodIn_of _ (by decide +kernel)) ggX7_match_X7_areTwoRows
set_option maxRecDepth 20000 in
theorem ggX7_match_X6_isMissing : GoodIn wsX7_match wsX6_isMissing := goodIn_r _ [17, 18, 56, 57] (by decide +kernel) (by decide +kernel)
set_option maxRecDepth 20000 in
theorem gX7_match_X6_isMissing : GoodIn wsX7_match (wsV RX7 95 RX6 yX6_isMissing wsX6_isMissing) := goodIn_app (goodIn_of _ (by decide +kernel)) ggX7_match_X6_isMissing
set_option maxRecDepth 20000 in
theorem ggX7_match_X7_refuse : GoodIn wsX7_match wsX7_refuse := goodIn_r _ [22, 23, 24, 43, 44, 45, 46, 47, 48, 49, 50, 51, 52, 53, 54, 55] (by decide +kernel) (by decide +kernel)
set_option maxRecDepth 20000 in
theorem gX7_match_X7_refuse : GoodIn wsX7_match (wsV RX7 85 RX7 yX7_refuse wsX7_refuse) := goodIn_app (goodIn_of _ (by decide +kernel)) ggX7_match_X7_refuse
set_option maxRecDepth 20000 in
theorem ggX7_match_X6_canMatch : GoodIn wsX7_match wsX6_canMatch := goodIn_r _ [28, 18, 56, 57] (by decide +kernel) (by decide +kernel)
set_option maxRecDepth 20000 in
theorem gX7_match_X6_canMatch : GoodIn wsX7_match (wsV RX7 117 RX6 yX6_canMatch wsX6_canMatch) := goodIn_app (goodIn_of _ (by decide +kernel)) ggX7_match_X6_canMatch
set_option maxRecDepth 20000 in
theorem ggX7_match_X6_bestPlace : GoodIn wsX7_match wsX6_bestPlace := goodIn_r _ [32, 18, 33, 34, 35, 16, 36, 37, 38, 39, 40, 41, 56, 57] (by decide +kernel) (by decide +kernel)
set_option maxRecDepth 20000 in
theorem gX7_match_X6_bestPlace : GoodIn wsX7_match (wsV RX7 120 RX6 yX6_bestPlace wsX6_bestPlace) := goodIn_app (goodIn_of _ (by decide +kernel)) ggX7_match_X6_bestPlace
set_option maxRecDepth 20000 in
theorem ggX7_match_X6_offAt : GoodIn wsX7_match wsX6_offAt := goodIn_r _ [36, 18, 37, 38, 39, 40, 41, 56, 57] (by decide +kernel) (by decide +kernel)
set_option maxRecDepth 20000 in
theorem gX7_match_X6_offAt : GoodIn wsX7_match (wsV RX7 124 RX6 yX6_offAt wsX6_offAt) := goodIn_app (goodIn_of _ (by decide +kernel)) ggX7_match_X6_offAt
theorem dX7_match_0 : decode cX7_match 0 = .ok (.iload_n 1, 1) := by decide +kernel
theorem dX7_match_1 : decode cX7_match 1 = .ok (.iload_n 2, 1) := by decide +kernel
theorem dX7_match_2 : decode cX7_match 2 = .ok (.invokestatic 113, 3) := by decide +kernel
theorem dX7_match_5 : decode cX7_match 5 = .ok (.ifCond .ne 5, 3) := by decide +kernel
theorem dX7_match_8 : decode cX7_match 8 = .ok (.iconst (-1), 1) := by decide +kernel
theorem dX7_match_9 : decode cX7_match 9 = .ok (.ireturn, 1) := by decide +kernel
theorem dX7_match_10 : decode cX7_match 10 = .ok (.aload_n 0, 1) := by decide +kernel
theorem dX7_match_11 : decode cX7_match 11 = .ok (.getfield 20, 3) := by decide +kernel
theorem dX7_match_14 : decode cX7_match 14 = .ok (.iload_n 1, 1) := by decide +kernel
theorem dX7_match_15 : decode cX7_match 15 = .ok (.invokevirtual 95, 3) := by decide +kernel
theorem dX7_match_18 : decode cX7_match 18 = .ok (.ifCond .ne 14, 3) := by decide +kernel
theorem dX7_match_21 : decode cX7_match 21 = .ok (.aload_n 0, 1) := by decide +kernel
theorem dX7_match_22 : decode cX7_match 22 = .ok (.getfield 20, 3) := by decide +kernel
theorem dX7_match_25 : decode cX7_match 25 = .ok (.iload_n 2, 1) := by decide +kernel
theorem dX7_match_26 : decode cX7_match 26 = .ok (.invokevirtual 95, 3) := by decide +kernel
theorem dX7_match_29 : decode cX7_match 29 = .ok (.ifCond .eq 9, 3) := by decide +kernel
theorem dX7_match_32 : decode cX7_match 32 = .ok (.aload_n 0, 1) := by decide +kernel
theorem dX7_match_33 : decode cX7_match 33 = .ok (.iconst 1, 1) := by decide +kernel
theorem dX7_match_34 : decode cX7_match 34 = .ok (.invokevirtual 85, 3) := by decide +kernel
theorem dX7_match_37 : decode cX7_match 37 = .ok (.ireturn, 1) := by decide +kernel
theorem dX7_match_38 : decode cX7_match 38 = .ok (.aload_n 0, 1) := by decide +kernel
theorem dX7_match_39 : decode cX7_match 39 = .ok (.getfield 20, 3) := by decide +kernel
theorem dX7_match_42 : decode cX7_match 42 = .ok (.iload_n 1, 1) := by decide +kernel
theorem dX7_match_43 : decode cX7_match 43 = .ok (.iload_n 2, 1) := by decide +kernel
theorem dX7_match_44 : decode cX7_match 44 = .ok (.invokevirtual 117, 3) := by decide +kernel
theorem dX7_match_47 : decode cX7_match 47 = .ok (.ifCond .ne 9, 3) := by decide +kernel
theorem dX7_match_50 : decode cX7_match 50 = .ok (.aload_n 0, 1) := by decide +kernel
theorem dX7_match_51 : decode cX7_match 51 = .ok (.iconst 5, 1) := by decide +kernel
theorem dX7_match_52 : decode cX7_match 52 = .ok (.invokevirtual 85, 3) := by decide +kernel
theorem dX7_match_55 : decode cX7_match 55 = .ok (.ireturn, 1) := by decide +kernel
theorem dX7_match_56 : decode cX7_match 56 = .ok (.aload_n 0, 1) := by decide +kernel
theorem dX7_match_57 : decode cX7_match 57 = .ok (.getfield 20, 3) := by decide +kernel
theorem dX7_match_60 : decode cX7_match 60 = .ok (.iload_n 1, 1) := by decide +kernel
theorem dX7_match_61 : decode cX7_match 61 = .ok (.iload_n 2, 1) := by decide +kernel
theorem dX7_match_62 : decode cX7_match 62 = .ok (.invokevirtual 120, 3) := by decide +kernel
theorem dX7_match_65 : decode cX7_match 65 = .ok (.istore_n 3, 1) := by decide +kernel
theorem dX7_match_66 : decode cX7_match 66 = .ok (.aload_n 0, 1) := by decide +kernel
theorem dX7_match_67 : decode cX7_match 67 = .ok (.aload_n 0, 1) := by decide +kernel
theorem dX7_match_68 : decode cX7_match 68 = .ok (.getfield 20, 3) := by decide +kernel
theorem dX7_match_71 : decode cX7_match 71 = .ok (.iload_n 1, 1) := by decide +kernel
theorem dX7_match_72 : decode cX7_match 72 = .ok (.iload_n 2, 1) := by decide +kernel
theorem dX7_match_73 : decode cX7_match 73 = .ok (.iload_n 3, 1) := by decide +kernel
theorem dX7_match_74 : decode cX7_match 74 = .ok (.invokevirtual 124, 3) := by decide +kernel
theorem dX7_match_77 : decode cX7_match 77 = .ok (.putfield 67, 3) := by decide +kernel
theorem dX7_match_80 : decode cX7_match 80 = .ok (.iload_n 3, 1) := by decide +kernel
theorem dX7_match_81 : decode cX7_match 81 = .ok (.ireturn, 1) := by decide +kernel
set_option maxRecDepth 20000 in
theorem ggX7_sure_X7_areTwoRows : GoodIn wsX7_sure wsX7_areTwoRows := goodIn_r _ [5, 6, 7, 4, 8, 9, 10, 11] (by decide +kernel) (by decide +kernel)
set_option maxRecDepth 20000 in
theorem gX7_sure_X7_areTwoRows : GoodIn wsX7_sure (va_wsS RX7 113 yX7_areTwoRows wsX7_areTwoRows) := goodIn_app (goodIn_of _ (by decide +kernel)) ggX7_sure_X7_areTwoRows
set_option maxRecDepth 20000 in
theorem ggX7_sure_X6_isSure : GoodIn wsX7_sure wsX6_isSure := goodIn_r _ [16, 17, 18, 19, 15, 20, 21, 22, 23, 24, 25, 26, 27, 28, 29, 30, 31, 32, 33, 34, 48, 49] (by decide +kernel) (by decide +kernel)
set_option maxRecDepth 20000 in
theorem gX7_sure_X6_isSure : GoodIn wsX7_sure (wsV RX7 128 RX6 yX6_isSure wsX6_isSure) := goodIn_app (goodIn_of _ (by decide +kernel)) ggX7_sure_X6_isSure
theorem dX7_sure_0 : decode cX7_sure 0 = .ok (.iload_n 1, 1) := by decide +kernel
theorem dX7_sure_1 : decode cX7_sure 1 = .ok (.iload_n 2, 1) := by decide +kernel
theorem dX7_sure_2 : decode cX7_sure 2 = .ok (.invokestatic 113, 3) := by decide +kernel
theorem dX7_sure_5 : decode cX7_sure 5 = .ok (.ifCond .ne 5, 3) := by decide +kernel
theorem dX7_sure_8 : decode cX7_sure 8 = .ok (.iconst (-1), 1) := by decide +kernel
theorem dX7_sure_9 : decode cX7_sure 9 = .ok (.ireturn, 1) := by decide +kernel
theorem dX7_sure_10 : decode cX7_sure 10 = .ok (.aload_n 0, 1) := by decide +kernel
theorem dX7_sure_11 : decode cX7_sure 11 = .ok (.getfield 20, 3) := by decide +kernel
theorem dX7_sure_14 : decode cX7_sure 14 = .ok (.iload_n 1, 1) := by decide +kernel
theorem dX7_sure_15 : decode cX7_sure 15 = .ok (.iload_n 2, 1) := by decide +kernel
theorem dX7_sure_16 : decode cX7_sure 16 = .ok (.invokevirtual 128, 3) := by decide +kernel
theorem dX7_sure_19 : decode cX7_sure 19 = .ok (.ifCond .eq 7, 3) := by decide +kernel
theorem dX7_sure_22 : decode cX7_sure 22 = .ok (.iconst 1, 1) := by decide +kernel
theorem dX7_sure_23 : decode cX7_sure 23 = .ok (.goto 4, 3) := by decide +kernel
theorem dX7_sure_26 : decode cX7_sure 26 = .ok (.iconst 0, 1) := by decide +kernel
theorem dX7_sure_27 : decode cX7_sure 27 = .ok (.ireturn, 1) := by decide +kernel
set_option maxRecDepth 20000 in
theorem ggX7_paint_X7_isWithin : GoodIn wsX7_paint wsX7_isWithin := goodIn_r _ [5] (by decide +kernel) (by decide +kernel)
set_option maxRecDepth 20000 in
theorem gX7_paint_X7_isWithin : GoodIn wsX7_paint (va_wsS RX7 77 yX7_isWithin wsX7_isWithin) := goodIn_app (goodIn_of _ (by decide +kernel)) ggX7_paint_X7_isWithin
set_option maxRecDepth 20000 in
theorem ggX7_paint_X7_isYear : GoodIn wsX7_paint wsX7_isYear := goodIn_r _ [8, 2, 3, 4, 5] (by decide +kernel) (by decide +kernel)
set_option maxRecDepth 20000 in
theorem gX7_paint_X7_isYear : GoodIn wsX7_paint (va_wsS RX7 131 yX7_isYear wsX7_isYear) := goodIn_app (goodIn_of _ (by decide +kernel)) ggX7_paint_X7_isYear
set_option maxRecDepth 20000 in
theorem ggX7_paint_X5_swapPaintYear : GoodIn wsX7_paint wsX5_swapPaintYear := goodIn_r _ [13, 14, 28, 29, 30, 31, 32, 33, 34, 35, 36, 37, 38, 39, 40, 41, 42] (by decide +kernel) (by decide +kernel)
set_option maxRecDepth 20000 in
theorem gX7_paint_X5_swapPaintYear : GoodIn wsX7_paint (wsV RX7 134 RX5 yX5_swapPaintYear wsX5_swapPaintYear) := goodIn_app (goodIn_of _ (by decide +kernel)) ggX7_paint_X5_swapPaintYear
theorem dX7_paint_0 : decode cX7_paint 0 = .ok (.iload_n 1, 1) := by decide +kernel
theorem dX7_paint_1 : decode cX7_paint 1 = .ok (.iconst 0, 1) := by decide +kernel
theorem dX7_paint_2 : decode cX7_paint 2 = .ok (.bipush 9, 2) := by decide +kernel
theorem dX7_paint_4 : decode cX7_paint 4 = .ok (.invokestatic 77, 3) := by decide +kernel
theorem dX7_paint_7 : decode cX7_paint 7 = .ok (.ifCond .eq 10, 3) := by decide +kernel
theorem dX7_paint_10 : decode cX7_paint 10 = .ok (.iload_n 2, 1) := by decide +kernel
theorem dX7_paint_11 : decode cX7_paint 11 = .ok (.invokestatic 131, 3) := by decide +kernel
theorem dX7_paint_14 : decode cX7_paint 14 = .ok (.ifCond .ne 5, 3) := by decide +kernel
theorem dX7_paint_17 : decode cX7_paint 17 = .ok (.iconst (-1), 1) := by decide +kernel
theorem dX7_paint_18 : decode cX7_paint 18 = .ok (.ireturn, 1) := by decide +kernel
theorem dX7_paint_19 : decode cX7_paint 19 = .ok (.aload_n 0, 1) := by decide +kernel
theorem dX7_paint_20 : decode cX7_paint 20 = .ok (.getfield 10, 3) := by decide +kernel
theorem dX7_paint_23 : decode cX7_paint 23 = .ok (.iload_n 1, 1) := by decide +kernel
theorem dX7_paint_24 : decode cX7_paint 24 = .ok (.iload_n 2, 1) := by decide +kernel
theorem dX7_paint_25 : decode cX7_paint 25 = .ok (.invokevirtual 134, 3) := by decide +kernel
theorem dX7_paint_28 : decode cX7_paint 28 = .ok (.ireturn, 1) := by decide +kernel
set_option maxRecDepth 20000 in
theorem ggX7_sap_X7_isWithin : GoodIn wsX7_sap wsX7_isWithin := goodIn_r _ [5] (by decide +kernel) (by decide +kernel)
set_option maxRecDepth 20000 in
theorem gX7_sap_X7_isWithin : GoodIn wsX7_sap (va_wsS RX7 77 yX7_isWithin wsX7_isWithin) := goodIn_app (goodIn_of _ (by decide +kernel)) ggX7_sap_X7_isWithin
set_option maxRecDepth 20000 in
theorem ggX7_sap_X5_setSap : GoodIn wsX7_sap wsX5_setSap := goodIn_r _ [10, 11, 12, 13, 27, 28, 29, 30, 31, 32, 33, 34, 35, 36, 37, 38, 39, 40, 41] (by decide +kernel) (by decide +kernel)
set_option maxRecDepth 20000 in
theorem gX7_sap_X5_setSap : GoodIn wsX7_sap (wsV RX7 137 RX5 yX5_setSap wsX5_setSap) := goodIn_app (goodIn_of _ (by decide +kernel)) ggX7_sap_X5_setSap
theorem dX7_sap_0 : decode cX7_sap 0 = .ok (.iload_n 1, 1) := by decide +kernel
theorem dX7_sap_1 : decode cX7_sap 1 = .ok (.iconst 0, 1) := by decide +kernel
theorem dX7_sap_2 : decode cX7_sap 2 = .ok (.bipush 60, 2) := by decide +kernel
theorem dX7_sap_4 : decode cX7_sap 4 = .ok (.invokestatic 77, 3) := by decide +kernel
theorem dX7_sap_7 : decode cX7_sap 7 = .ok (.ifCond .eq 17, 3) := by decide +kernel
theorem dX7_sap_10 : decode cX7_sap 10 = .ok (.iload_n 2, 1) := by decide +kernel
theorem dX7_sap_11 : decode cX7_sap 11 = .ok (.iload_n 1, 1) := by decide +kernel
theorem dX7_sap_12 : decode cX7_sap 12 = .ok (.bipush 60, 2) := by decide +kernel
theorem dX7_sap_14 : decode cX7_sap 14 = .ok (.invokestatic 77, 3) := by decide +kernel
theorem dX7_sap_17 : decode cX7_sap 17 = .ok (.ifCond .eq 7, 3) := by decide +kernel
theorem dX7_sap_20 : decode cX7_sap 20 = .ok (.iconst 1, 1) := by decide +kernel
theorem dX7_sap_21 : decode cX7_sap 21 = .ok (.goto 4, 3) := by decide +kernel
theorem dX7_sap_24 : decode cX7_sap 24 = .ok (.iconst 0, 1) := by decide +kernel
theorem dX7_sap_25 : decode cX7_sap 25 = .ok (.istore 4, 2) := by decide +kernel
theorem dX7_sap_27 : decode cX7_sap 27 = .ok (.iload 4, 2) := by decide +kernel
theorem dX7_sap_29 : decode cX7_sap 29 = .ok (.ifCond .eq 13, 3) := by decide +kernel
theorem dX7_sap_32 : decode cX7_sap 32 = .ok (.iload_n 3, 1) := by decide +kernel
theorem dX7_sap_33 : decode cX7_sap 33 = .ok (.iconst 0, 1) := by decide +kernel
theorem dX7_sap_34 : decode cX7_sap 34 = .ok (.bipush 60, 2) := by decide +kernel
theorem dX7_sap_36 : decode cX7_sap 36 = .ok (.invokestatic 77, 3) := by decide +kernel
theorem dX7_sap_39 : decode cX7_sap 39 = .ok (.ifCond .ne 5, 3) := by decide +kernel
theorem dX7_sap_42 : decode cX7_sap 42 = .ok (.iconst (-1), 1) := by decide +kernel
theorem dX7_sap_43 : decode cX7_sap 43 = .ok (.ireturn, 1) := by decide +kernel
theorem dX7_sap_44 : decode cX7_sap 44 = .ok (.aload_n 0, 1) := by decide +kernel
theorem dX7_sap_45 : decode cX7_sap 45 = .ok (.getfield 10, 3) := by decide +kernel
theorem dX7_sap_48 : decode cX7_sap 48 = .ok (.iload_n 1, 1) := by decide +kernel
theorem dX7_sap_49 : decode cX7_sap 49 = .ok (.iload_n 2, 1) := by decide +kernel
theorem dX7_sap_50 : decode cX7_sap 50 = .ok (.iload_n 3, 1) := by decide +kernel
theorem dX7_sap_51 : decode cX7_sap 51 = .ok (.invokevirtual 137, 3) := by decide +kernel
theorem dX7_sap_54 : decode cX7_sap 54 = .ok (.iconst 1, 1) := by decide +kernel
theorem dX7_sap_55 : decode cX7_sap 55 = .ok (.ireturn, 1) := by decide +kernel
set_option maxRecDepth 20000 in
theorem ggX7_proof_X7_areYears : GoodIn wsX7_proof wsX7_areYears := goodIn_r _ [6, 7, 8, 5, 9, 10, 11, 12] (by decide +kernel) (by decide +kernel)
set_option maxRecDepth 20000 in
theorem gX7_proof_X7_areYears : GoodIn wsX7_proof (va_wsS RX7 141 yX7_areYears wsX7_areYears) := goodIn_app (goodIn_of _ (by decide +kernel)) ggX7_proof_X7_areYears
set_option maxRecDepth 20000 in
theorem ggX7_proof_X7_isProofWeight : GoodIn wsX7_proof wsX7_isProofWeight := goodIn_r _ [15, 10, 11, 5, 12] (by decide +kernel) (by decide +kernel)
set_option maxRecDepth 20000 in
theorem gX7_proof_X7_isProofWeight : GoodIn wsX7_proof (va_wsS RX7 144 yX7_isProofWeight wsX7_isProofWeight) := goodIn_app (goodIn_of _ (by decide +kernel)) ggX7_proof_X7_isProofWeight
set_option maxRecDepth 20000 in
theorem ggX7_proof_X5_isFull : GoodIn wsX7_proof wsX5_isFull := goodIn_r _ [20, 21, 49, 50, 51, 52, 53, 54, 55, 56, 57, 58, 59, 60, 61, 62, 63] (by decide +kernel) (by decide +kernel)
set_option maxRecDepth 20000 in
theorem gX7_proof_X5_isFull : GoodIn wsX7_proof (wsV RX7 147 RX5 yX5_isFull wsX5_isFull) := goodIn_app (goodIn_of _ (by decide +kernel)) ggX7_proof_X5_isFull
set_option maxRecDepth 20000 in
theorem ggX7_proof_X5_addYears : GoodIn wsX7_proof wsX5_addYears := goodIn_r _ [25, 26, 21, 27, 28, 29, 30, 19, 31, 32, 33, 34, 35, 49, 50, 51, 52, 53, 54, 55, 56, 57, 58, 59, 60, 61, 62, 63] (by decide +kernel) (by decide +kernel)
set_option maxRecDepth 20000 in
theorem gX7_proof_X5_addYears : GoodIn wsX7_proof (wsV RX7 151 RX5 yX5_addYears wsX5_addYears) := goodIn_app (goodIn_of _ (by decide +kernel)) ggX7_proof_X5_addYears
theorem dX7_proof_0 : decode cX7_proof 0 = .ok (.iload_n 1, 1) := by decide +kernel
theorem dX7_proof_1 : decode cX7_proof 1 = .ok (.iload_n 2, 1) := by decide +kernel
theorem dX7_proof_2 : decode cX7_proof 2 = .ok (.invokestatic 141, 3) := by decide +kernel
theorem dX7_proof_5 : decode cX7_proof 5 = .ok (.ifCond .eq 10, 3) := by decide +kernel
theorem dX7_proof_8 : decode cX7_proof 8 = .ok (.iload_n 3, 1) := by decide +kernel
theorem dX7_proof_9 : decode cX7_proof 9 = .ok (.invokestatic 144, 3) := by decide +kernel
theorem dX7_proof_12 : decode cX7_proof 12 = .ok (.ifCond .ne 5, 3) := by decide +kernel
theorem dX7_proof_15 : decode cX7_proof 15 = .ok (.iconst (-1), 1) := by decide +kernel
theorem dX7_proof_16 : decode cX7_proof 16 = .ok (.ireturn, 1) := by decide +kernel
theorem dX7_proof_17 : decode cX7_proof 17 = .ok (.aload_n 0, 1) := by decide +kernel
theorem dX7_proof_18 : decode cX7_proof 18 = .ok (.getfield 10, 3) := by decide +kernel
theorem dX7_proof_21 : decode cX7_proof 21 = .ok (.invokevirtual 147, 3) := by decide +kernel
theorem dX7_proof_24 : decode cX7_proof 24 = .ok (.ifCond .eq 6, 3) := by decide +kernel
theorem dX7_proof_27 : decode cX7_proof 27 = .ok (.bipush (-2), 2) := by decide +kernel
theorem dX7_proof_29 : decode cX7_proof 29 = .ok (.ireturn, 1) := by decide +kernel
theorem dX7_proof_30 : decode cX7_proof 30 = .ok (.aload_n 0, 1) := by decide +kernel
theorem dX7_proof_31 : decode cX7_proof 31 = .ok (.getfield 10, 3) := by decide +kernel
theorem dX7_proof_34 : decode cX7_proof 34 = .ok (.iload_n 1, 1) := by decide +kernel
theorem dX7_proof_35 : decode cX7_proof 35 = .ok (.iload_n 2, 1) := by decide +kernel
theorem dX7_proof_36 : decode cX7_proof 36 = .ok (.iload_n 3, 1) := by decide +kernel
theorem dX7_proof_37 : decode cX7_proof 37 = .ok (.aload_n 0, 1) := by decide +kernel
theorem dX7_proof_38 : decode cX7_proof 38 = .ok (.getfield 60, 3) := by decide +kernel
theorem dX7_proof_41 : decode cX7_proof 41 = .ok (.invokevirtual 151, 3) := by decide +kernel
theorem dX7_proof_44 : decode cX7_proof 44 = .ok (.ireturn, 1) := by decide +kernel
set_option maxRecDepth 20000 in
theorem ggX7_found_X7_isWithin : GoodIn wsX7_found wsX7_isWithin := goodIn_r _ [6] (by decide +kernel) (by decide +kernel)
set_option maxRecDepth 20000 in
theorem gX7_found_X7_isWithin : GoodIn wsX7_found (va_wsS RX7 77 yX7_isWithin wsX7_isWithin) := goodIn_app (goodIn_of _ (by decide +kernel)) ggX7_found_X7_isWithin
set_option maxRecDepth 20000 in
theorem ggX7_found_X7_isProofWeight : GoodIn wsX7_found wsX7_isProofWeight := goodIn_r _ [9, 3, 4, 5, 6] (by decide +kernel) (by decide +kernel)
set_option maxRecDepth 20000 in
theorem gX7_found_X7_isProofWeight : GoodIn wsX7_found (va_wsS RX7 144 yX7_isProofWeight wsX7_isProofWeight) := goodIn_app (goodIn_of _ (by decide +kernel)) ggX7_found_X7_isProofWeight
set_option maxRecDepth 20000 in
theorem ggX7_found_X5_isFull : GoodIn wsX7_found wsX5_isFull := goodIn_r _ [14, 15, 42, 43, 44, 45, 46, 47, 48, 49, 50, 51, 52, 53, 54, 55, 56] (by decide +kernel) (by decide +kernel)
set_option maxRecDepth 20000 in
theorem gX7_found_X5_isFull : GoodIn wsX7_found (wsV RX7 147 RX5 yX5_isFull wsX5_isFull) := goodIn_app (goodIn_of _ (by decide +kernel)) ggX7_found_X5_isFull
set_option maxRecDepth 20000 in
theorem ggX7_found_X5_addPaint : GoodIn wsX7_found wsX5_addPaint := goodIn_r _ [19, 20, 15, 21, 22, 23, 13, 24, 25, 26, 27, 28, 42, 43, 44, 45, 46, 47, 48, 49, 50, 51, 52, 53, 54, 55, 56] (by decide +kernel) (by decide +kernel)
set_option maxRecDepth 20000 in
theorem gX7_found_X5_addPaint : GoodIn wsX7_found (wsV RX7 155 RX5 yX5_addPaint wsX5_addPaint) := goodIn_app (goodIn_of _ (by decide +kernel)) ggX7_found_X5_addPaint
theorem dX7_found_0 : decode cX7_found 0 = .ok (.iload_n 1, 1) := by decide +kernel
theorem dX7_found_1 : decode cX7_found 1 = .ok (.iconst 0, 1) := by decide +kernel
theorem dX7_found_2 : decode cX7_found 2 = .ok (.bipush 9, 2) := by decide +kernel
theorem dX7_found_4 : decode cX7_found 4 = .ok (.invokestatic 77, 3) := by decide +kernel
theorem dX7_found_7 : decode cX7_found 7 = .ok (.ifCond .eq 10, 3) := by decide +kernel
theorem dX7_found_10 : decode cX7_found 10 = .ok (.iload_n 2, 1) := by decide +kernel
theorem dX7_found_11 : decode cX7_found 11 = .ok (.invokestatic 144, 3) := by decide +kernel
theorem dX7_found_14 : decode cX7_found 14 = .ok (.ifCond .ne 5, 3) := by decide +kernel
theorem dX7_found_17 : decode cX7_found 17 = .ok (.iconst (-1), 1) := by decide +kernel
theorem dX7_found_18 : decode cX7_found 18 = .ok (.ireturn, 1) := by decide +kernel
theorem dX7_found_19 : decode cX7_found 19 = .ok (.aload_n 0, 1) := by decide +kernel
theorem dX7_found_20 : decode cX7_found 20 = .ok (.getfield 10, 3) := by decide +kernel
theorem dX7_found_23 : decode cX7_found 23 = .ok (.invokevirtual 147, 3) := by decide +kernel
theorem dX7_found_26 : decode cX7_found 26 = .ok (.ifCond .eq 6, 3) := by decide +kernel
theorem dX7_found_29 : decode cX7_found 29 = .ok (.bipush (-2), 2) := by decide +kernel
theorem dX7_found_31 : decode cX7_found 31 = .ok (.ireturn, 1) := by decide +kernel
theorem dX7_found_32 : decode cX7_found 32 = .ok (.aload_n 0, 1) := by decide +kernel
theorem dX7_found_33 : decode cX7_found 33 = .ok (.getfield 10, 3) := by decide +kernel
theorem dX7_found_36 : decode cX7_found 36 = .ok (.iload_n 1, 1) := by decide +kernel
theorem dX7_found_37 : decode cX7_found 37 = .ok (.iload_n 2, 1) := by decide +kernel
theorem dX7_found_38 : decode cX7_found 38 = .ok (.aload_n 0, 1) := by decide +kernel
theorem dX7_found_39 : decode cX7_found 39 = .ok (.getfield 60, 3) := by decide +kernel
theorem dX7_found_42 : decode cX7_found 42 = .ok (.invokevirtual 155, 3) := by decide +kernel
theorem dX7_found_45 : decode cX7_found 45 = .ok (.ireturn, 1) := by decide +kernel
set_option maxRecDepth 20000 in
theorem ggX7_rings_X7_isWithin : GoodIn wsX7_rings wsX7_isWithin := goodIn_r _ [6] (by decide +kernel) (by decide +kernel)
set_option maxRecDepth 20000 in
theorem gX7_rings_X7_isWithin : GoodIn wsX7_rings (va_wsS RX7 77 yX7_isWithin wsX7_isWithin) := goodIn_app (goodIn_of _ (by decide +kernel)) ggX7_rings_X7_isWithin
set_option maxRecDepth 20000 in
theorem ggX7_rings_X7_isProofWeight : GoodIn wsX7_rings wsX7_isProofWeight := goodIn_r _ [9, 3, 4, 5, 6] (by decide +kernel) (by decide +kernel)
set_option maxRecDepth 20000 in
theorem gX7_rings_X7_isProofWeight : GoodIn wsX7_rings (va_wsS RX7 144 yX7_isProofWeight wsX7_isProofWeight) := goodIn_app (goodIn_of _ (by decide +kernel)) ggX7_rings_X7_isProofWeight
set_option maxRecDepth 20000 in
theorem ggX7_rings_X5_isFull : GoodIn wsX7_rings wsX5_isFull := goodIn_r _ [14, 15, 43, 44, 45, 46, 47, 48, 49, 50, 51, 52, 53, 54, 55, 56, 57] (by decide +kernel) (by decide +kernel)
set_option maxRecDepth 20000 in
theorem gX7_rings_X5_isFull : GoodIn wsX7_rings (wsV RX7 147 RX5 yX5_isFull wsX5_isFull) := goodIn_app (goodIn_of _ (by decide +kernel)) ggX7_rings_X5_isFull
set_option maxRecDepth 20000 in
theorem ggX7_rings_X5_addRings : GoodIn wsX7_rings wsX5_addRings := goodIn_r _ [19, 20, 15, 21, 22, 23, 24, 13, 25, 26, 27, 28, 29, 43, 44, 45, 46, 47, 48, 49, 50, 51, 52, 53, 54, 55, 56, 57] (by decide +kernel) (by decide +kernel)
set_option maxRecDepth 20000 in
theorem gX7_rings_X5_addRings : GoodIn wsX7_rings (wsV RX7 158 RX5 yX5_addRings wsX5_addRings) := goodIn_app (goodIn_of _ (by decide +kernel)) ggX7_rings_X5_addRings
theorem dX7_rings_0 : decode cX7_rings 0 = .ok (.iload_n 1, 1) := by decide +kernel
theorem dX7_rings_1 : decode cX7_rings 1 = .ok (.sipush 1000, 3) := by decide +kernel
theorem dX7_rings_4 : decode cX7_rings 4 = .ok (.sipush 2000, 3) := by decide +kernel
theorem dX7_rings_7 : decode cX7_rings 7 = .ok (.invokestatic 77, 3) := by decide +kernel
theorem dX7_rings_10 : decode cX7_rings 10 = .ok (.ifCond .eq 17, 3) := by decide +kernel
theorem dX7_rings_13 : decode cX7_rings 13 = .ok (.iload_n 2, 1) := by decide +kernel
theorem dX7_rings_14 : decode cX7_rings 14 = .ok (.iconst 0, 1) := by decide +kernel
theorem dX7_rings_15 : decode cX7_rings 15 = .ok (.bipush 30, 2) := by decide +kernel
theorem dX7_rings_17 : decode cX7_rings 17 = .ok (.invokestatic 77, 3) := by decide +kernel
theorem dX7_rings_20 : decode cX7_rings 20 = .ok (.ifCond .eq 7, 3) := by decide +kernel
theorem dX7_rings_23 : decode cX7_rings 23 = .ok (.iconst 1, 1) := by decide +kernel
theorem dX7_rings_24 : decode cX7_rings 24 = .ok (.goto 4, 3) := by decide +kernel
theorem dX7_rings_27 : decode cX7_rings 27 = .ok (.iconst 0, 1) := by decide +kernel
theorem dX7_rings_28 : decode cX7_rings 28 = .ok (.istore 4, 2) := by decide +kernel
theorem dX7_rings_30 : decode cX7_rings 30 = .ok (.iload 4, 2) := by decide +kernel
theorem dX7_rings_32 : decode cX7_rings 32 = .ok (.ifCond .eq 10, 3) := by decide +kernel
theorem dX7_rings_35 : decode cX7_rings 35 = .ok (.iload_n 3, 1) := by decide +kernel
theorem dX7_rings_36 : decode cX7_rings 36 = .ok (.invokestatic 144, 3) := by decide +kernel
theorem dX7_rings_39 : decode cX7_rings 39 = .ok (.ifCond .ne 5, 3) := by decide +kernel
theorem dX7_rings_42 : decode cX7_rings 42 = .ok (.iconst (-1), 1) := by decide +kernel
theorem dX7_rings_43 : decode cX7_rings 43 = .ok (.ireturn, 1) := by decide +kernel
theorem dX7_rings_44 : decode cX7_rings 44 = .ok (.aload_n 0, 1) := by decide +kernel
theorem dX7_rings_45 : decode cX7_rings 45 = .ok (.getfield 10, 3) := by decide +kernel
theorem dX7_rings_48 : decode cX7_rings 48 = .ok (.invokevirtual 147, 3) := by decide +kernel
theorem dX7_rings_51 : decode cX7_rings 51 = .ok (.ifCond .eq 6, 3) := by decide +kernel
theorem dX7_rings_54 : decode cX7_rings 54 = .ok (.bipush (-2), 2) := by decide +kernel
theorem dX7_rings_56 : decode cX7_rings 56 = .ok (.ireturn, 1) := by decide +kernel
theorem dX7_rings_57 : decode cX7_rings 57 = .ok (.aload_n 0, 1) := by decide +kernel
theorem dX7_rings_58 : decode cX7_rings 58 = .ok (.getfield 10, 3) := by decide +kernel
theorem dX7_rings_61 : decode cX7_rings 61 = .ok (.iload_n 1, 1) := by decide +kernel
theorem dX7_rings_62 : decode cX7_rings 62 = .ok (.iload_n 2, 1) := by decide +kernel
theorem dX7_rings_63 : decode cX7_rings 63 = .ok (.iload_n 3, 1) := by decide +kernel
theorem dX7_rings_64 : decode cX7_rings 64 = .ok (.aload_n 0, 1) := by decide +kernel
theorem dX7_rings_65 : decode cX7_rings 65 = .ok (.getfield 60, 3) := by decide +kernel
theorem dX7_rings_68 : decode cX7_rings 68 = .ok (.invokevirtual 158, 3) := by decide +kernel
theorem dX7_rings_71 : decode cX7_rings 71 = .ok (.ireturn, 1) := by decide +kernel
set_option maxRecDepth 20000 in
theorem ggX7_threads_X7_areTwoRows : GoodIn wsX7_threads wsX7_areTwoRows := goodIn_r _ [6, 7, 8, 5, 9, 10, 11, 12] (by decide +kernel) (by decide +kernel)
set_option maxRecDepth 20000 in
theorem gX7_threads_X7_areTwoRows : GoodIn wsX7_threads (va_wsS RX7 113 yX7_areTwoRows wsX7_areTwoRows) := goodIn_app (goodIn_of _ (by decide +kernel)) ggX7_threads_X7_areTwoRows
set_option maxRecDepth 20000 in
theorem ggX7_threads_X7_areYears : GoodIn wsX7_threads wsX7_areYears := goodIn_r _ [15, 16, 17, 5, 18, 10, 11, 12] (by decide +kernel) (by decide +kernel)
set_option maxRecDepth 20000 in
theorem gX7_threads_X7_areYears : GoodIn wsX7_threads (va_wsS RX7 141 yX7_areYears wsX7_areYears) := goodIn_app (goodIn_of _ (by decide +kernel)) ggX7_threads_X7_areYears
set_option maxRecDepth 20000 in
theorem ggX7_threads_X7_isProofWeight : GoodIn wsX7_threads wsX7_isProofWeight := goodIn_r _ [21, 10, 11, 5, 12] (by decide +kernel) (by decide +kernel)
set_option maxRecDepth 20000 in
theorem gX7_threads_X7_isProofWeight : GoodIn wsX7_threads (va_wsS RX7 144 yX7_isProofWeight wsX7_isProofWeight) := goodIn_app (goodIn_of _ (by decide +kernel)) ggX7_threads_X7_isProofWeight
set_option maxRecDepth 20000 in
theorem ggX7_threads_X5_isFull : GoodIn wsX7_threads wsX5_isFull := goodIn_r _ [26, 27, 57, 58, 59, 60, 61, 62, 63, 64, 65, 66, 67, 68, 69, 70, 71] (by decide +kernel) (by decide +kernel)
set_option maxRecDepth 20000 in
theorem gX7_threads_X5_isFull : GoodIn wsX7_threads (wsV RX7 147 RX5 yX5_isFull wsX5_isFull) := goodIn_app (goodIn_of _ (by decide +kernel)) ggX7_threads_X5_isFull
set_option maxRecDepth 20000 in
theorem ggX7_threads_X5_addThreads : GoodIn wsX7_threads wsX5_addThreads := goodIn_r _ [31, 32, 27, 33, 34, 35, 36, 37, 38, 25, 39, 40, 41, 42, 43, 57, 58, 59, 60, 61, 62, 63, 64, 65, 66, 67, 68, 69, 70, 71] (by decide +kernel) (by decide +kernel)
set_option maxRecDepth 20000 in
theorem gX7_threads_X5_addThreads : GoodIn wsX7_threads (wsV RX7 161 RX5 yX5_addThreads wsX5_addThreads) := goodIn_app (goodIn_of _ (by decide +kernel)) ggX7_threads_X5_addThreads
theorem dX7_threads_0 : decode cX7_threads 0 = .ok (.iload_n 1, 1) := by decide +kernel
theorem dX7_threads_1 : decode cX7_threads 1 = .ok (.iload_n 2, 1) := by decide +kernel
theorem dX7_threads_2 : decode cX7_threads 2 = .ok (.invokestatic 113, 3) := by decide +kernel
theorem dX7_threads_5 : decode cX7_threads 5 = .ok (.ifCond .eq 20, 3) := by decide +kernel
theorem dX7_threads_8 : decode cX7_threads 8 = .ok (.iload_n 3, 1) := by decide +kernel
theorem dX7_threads_9 : decode cX7_threads 9 = .ok (.iload 4, 2) := by decide +kernel
theorem dX7_threads_11 : decode cX7_threads 11 = .ok (.invokestatic 141, 3) := by decide +kernel
theorem dX7_threads_14 : decode cX7_threads 14 = .ok (.ifCond .eq 11, 3) := by decide +kernel
theorem dX7_threads_17 : decode cX7_threads 17 = .ok (.iload 5, 2) := by decide +kernel
theorem dX7_threads_19 : decode cX7_threads 19 = .ok (.invokestatic 144, 3) := by decide +kernel
theorem dX7_threads_22 : decode cX7_threads 22 = .ok (.ifCond .ne 5, 3) := by decide +kernel
theorem dX7_threads_25 : decode cX7_threads 25 = .ok (.iconst (-1), 1) := by decide +kernel
theorem dX7_threads_26 : decode cX7_threads 26 = .ok (.ireturn, 1) := by decide +kernel
theorem dX7_threads_27 : decode cX7_threads 27 = .ok (.aload_n 0, 1) := by decide +kernel
theorem dX7_threads_28 : decode cX7_threads 28 = .ok (.getfield 10, 3) := by decide +kernel
theorem dX7_threads_31 : decode cX7_threads 31 = .ok (.invokevirtual 147, 3) := by decide +kernel
theorem dX7_threads_34 : decode cX7_threads 34 = .ok (.ifCond .eq 6, 3) := by decide +kernel
theorem dX7_threads_37 : decode cX7_threads 37 = .ok (.bipush (-2), 2) := by decide +kernel
theorem dX7_threads_39 : decode cX7_threads 39 = .ok (.ireturn, 1) := by decide +kernel
theorem dX7_threads_40 : decode cX7_threads 40 = .ok (.aload_n 0, 1) := by decide +kernel
theorem dX7_threads_41 : decode cX7_threads 41 = .ok (.getfield 10, 3) := by decide +kernel
theorem dX7_threads_44 : decode cX7_threads 44 = .ok (.iload_n 1, 1) := by decide +kernel
theorem dX7_threads_45 : decode cX7_threads 45 = .ok (.iload_n 2, 1) := by decide +kernel
theorem dX7_threads_46 : decode cX7_threads 46 = .ok (.iload_n 3, 1) := by decide +kernel
theorem dX7_threads_47 : decode cX7_threads 47 = .ok (.iload 4, 2) := by decide +kernel
theorem dX7_threads_49 : decode cX7_threads 49 = .ok (.iload 5, 2) := by decide +kernel
theorem dX7_threads_51 : decode cX7_threads 51 = .ok (.aload_n 0, 1) := by decide +kernel
theorem dX7_threads_52 : decode cX7_threads 52 = .ok (.getfield 60, 3) := by decide +kernel
theorem dX7_threads_55 : decode cX7_threads 55 = .ok (.invokevirtual 161, 3) := by decide +kernel
theorem dX7_threads_58 : decode cX7_threads 58 = .ok (.ireturn, 1) := by decide +kernel
set_option maxRecDepth 20000 in
theorem ggX7_strike_X5_has : GoodIn wsX7_strike wsX5_has := goodIn_r _ [7, 8, 32, 33, 34, 35, 36, 37, 38, 39, 40, 41, 42, 43, 44, 45, 46] (by decide +kernel) (by decide +kernel)
set_option maxRecDepth 20000 in
theorem gX7_strike_X5_has : GoodIn wsX7_strike (wsV RX7 165 RX5 yX5_has wsX5_has) := goodIn_app (goodIn_of _ (by decide +kernel)) ggX7_strike_X5_has
set_option maxRecDepth 20000 in
theorem ggX7_strike_X5_isStruck : GoodIn wsX7_strike wsX5_isStruck := goodIn_r _ [12, 13, 32, 33, 34, 35, 36, 37, 38, 39, 40, 41, 42, 43, 44, 45, 46] (by decide +kernel) (by decide +kernel)
set_option maxRecDepth 20000 in
theorem gX7_strike_X5_isStruck : GoodIn wsX7_strike (wsV RX7 168 RX5 yX5_isStruck wsX5_isStruck) := goodIn_app (goodIn_of _ (by decide +kernel)) ggX7_strike_X5_isStruck
set_option maxRecDepth 20000 in
theorem ggX7_strike_X5_strikeOn : GoodIn wsX7_strike wsX5_strikeOn := goodIn_r _ [17, 13, 18, 32, 33, 34, 35, 36, 37, 38, 39, 40, 41, 42, 43, 44, 45, 46] (by decide +kernel) (by decide +kernel)
set_option maxRecDepth 20000 in
theorem gX7_strike_X5_strikeOn : GoodIn wsX7_strike (wsV RX7 171 RX5 yX5_strikeOn wsX5_strikeOn) := goodIn_app (goodIn_of _ (by decide +kernel)) ggX7_strike_X5_strikeOn
theorem dX7_strike_0 : decode cX7_strike 0 = .ok (.aload_n 0, 1) := by decide +kernel
theorem dX7_strike_1 : decode cX7_strike 1 = .ok (.getfield 10, 3) := by decide +kernel
theorem dX7_strike_4 : decode cX7_strike 4 = .ok (.iload_n 1, 1) := by decide +kernel
theorem dX7_strike_5 : decode cX7_strike 5 = .ok (.invokevirtual 165, 3) := by decide +kernel
theorem dX7_strike_8 : decode cX7_strike 8 = .ok (.ifCond .ne 5, 3) := by decide +kernel
theorem dX7_strike_11 : decode cX7_strike 11 = .ok (.iconst (-1), 1) := by decide +kernel
theorem dX7_strike_12 : decode cX7_strike 12 = .ok (.ireturn, 1) := by decide +kernel
theorem dX7_strike_13 : decode cX7_strike 13 = .ok (.aload_n 0, 1) := by decide +kernel
theorem dX7_strike_14 : decode cX7_strike 14 = .ok (.getfield 10, 3) := by decide +kernel
theorem dX7_strike_17 : decode cX7_strike 17 = .ok (.iload_n 1, 1) := by decide +kernel
theorem dX7_strike_18 : decode cX7_strike 18 = .ok (.invokevirtual 168, 3) := by decide +kernel
theorem dX7_strike_21 : decode cX7_strike 21 = .ok (.ifCond .eq 6, 3) := by decide +kernel
theorem dX7_strike_24 : decode cX7_strike 24 = .ok (.bipush (-4), 2) := by decide +kernel
theorem dX7_strike_26 : decode cX7_strike 26 = .ok (.ireturn, 1) := by decide +kernel
theorem dX7_strike_27 : decode cX7_strike 27 = .ok (.aload_n 0, 1) := by decide +kernel
theorem dX7_strike_28 : decode cX7_strike 28 = .ok (.getfield 10, 3) := by decide +kernel
theorem dX7_strike_31 : decode cX7_strike 31 = .ok (.iload_n 1, 1) := by decide +kernel
theorem dX7_strike_32 : decode cX7_strike 32 = .ok (.aload_n 0, 1) := by decide +kernel
theorem dX7_strike_33 : decode cX7_strike 33 = .ok (.getfield 60, 3) := by decide +kernel
theorem dX7_strike_36 : decode cX7_strike 36 = .ok (.invokevirtual 171, 3) := by decide +kernel
theorem dX7_strike_39 : decode cX7_strike 39 = .ok (.iconst 1, 1) := by decide +kernel
theorem dX7_strike_40 : decode cX7_strike 40 = .ok (.ireturn, 1) := by decide +kernel
set_option maxRecDepth 20000 in
theorem ggX7_told_X5_has : GoodIn wsX7_told wsX5_has := goodIn_r _ [6, 7, 83, 84, 85, 86, 87, 88, 89, 90, 91, 92, 93, 94, 95, 96, 97] (by decide +kernel) (by decide +kernel)
set_option maxRecDepth 20000 in
theorem gX7_told_X5_has : GoodIn wsX7_told (wsV RX7 165 RX5 yX5_has wsX5_has) := goodIn_app (goodIn_of _ (by decide +kernel)) ggX7_told_X5_has
set_option maxRecDepth 20000 in
theorem ggX7_told_X7_isWithin : GoodIn wsX7_told wsX7_isWithin := goodIn_r _ [11] (by decide +kernel) (by decide +kernel)
set_option maxRecDepth 20000 in
theorem gX7_told_X7_isWithin : GoodIn wsX7_told (va_wsS RX7 77 yX7_isWithin wsX7_isWithin) := goodIn_app (goodIn_of _ (by decide +kernel)) ggX7_told_X7_isWithin
set_option maxRecDepth 20000 in
theorem ggX7_told_X5_detail : GoodIn wsX7_told wsX5_detail := goodIn_r _ [15, 16, 17, 18, 19, 20, 21, 22, 5, 23, 24, 25, 26, 27, 28, 29, 30, 31, 32, 33, 34, 35, 36, 37, 38, 39, 40, 41, 42, 43, 44, 45, 46, 47, 48, 49, 50, 51, 52, 53, 54, 55, 56, 57, 58, 59, 60, 61, 62, 63, 64, 65, 66, 67, 68, 69, 83, 84, 85, 86, 87, 88, 89, 90, 91, 92, 93, 94, 95, 96, 97, 98, 99] (by decide +kernel) (by decide +kernel)
set_option maxRecDepth 20000 in
theorem gX7_told_X5_detail : GoodIn wsX7_told (wsV RX7 174 RX5 yX5_detail wsX5_detail) := goodIn_app (goodIn_of _ (by decide +kernel)) ggX7_told_X5_detail
theorem dX7_told_0 : decode cX7_told 0 = .ok (.aload_n 0, 1) := by decide +kernel
theorem dX7_told_1 : decode cX7_told 1 = .ok (.getfield 10, 3) := by decide +kernel
theorem dX7_told_4 : decode cX7_told 4 = .ok (.iload_n 1, 1) := by decide +kernel
theorem dX7_told_5 : decode cX7_told 5 = .ok (.invokevirtual 165, 3) := by decide +kernel
theorem dX7_told_8 : decode cX7_told 8 = .ok (.ifCond .eq 12, 3) := by decide +kernel
theorem dX7_told_11 : decode cX7_told 11 = .ok (.iload_n 2, 1) := by decide +kernel
theorem dX7_told_12 : decode cX7_told 12 = .ok (.iconst 0, 1) := by decide +kernel
theorem dX7_told_13 : decode cX7_told 13 = .ok (.iconst 5, 1) := by decide +kernel
theorem dX7_told_14 : decode cX7_told 14 = .ok (.invokestatic 77, 3) := by decide +kernel
theorem dX7_told_17 : decode cX7_told 17 = .ok (.ifCond .ne 5, 3) := by decide +kernel
theorem dX7_told_20 : decode cX7_told 20 = .ok (.iconst (-1), 1) := by decide +kernel
theorem dX7_told_21 : decode cX7_told 21 = .ok (.ireturn, 1) := by decide +kernel
theorem dX7_told_22 : decode cX7_told 22 = .ok (.aload_n 0, 1) := by decide +kernel
theorem dX7_told_23 : decode cX7_told 23 = .ok (.getfield 10, 3) := by decide +kernel
theorem dX7_told_26 : decode cX7_told 26 = .ok (.iload_n 1, 1) := by decide +kernel
theorem dX7_told_27 : decode cX7_told 27 = .ok (.iload_n 2, 1) := by decide +kernel
theorem dX7_told_28 : decode cX7_told 28 = .ok (.invokevirtual 174, 3) := by decide +kernel
theorem dX7_told_31 : decode cX7_told 31 = .ok (.ireturn, 1) := by decide +kernel
set_option maxRecDepth 20000 in
theorem ggX7_mark_X5_has : GoodIn wsX7_mark wsX5_has := goodIn_r _ [6, 7, 90, 91, 92, 93, 94, 95, 96, 97, 98, 99, 100, 101, 102, 103, 104] (by decide +kernel) (by decide +kernel)
set_option maxRecDepth 20000 in
theorem gX7_mark_X5_has : GoodIn wsX7_mark (wsV RX7 165 RX5 yX5_has wsX5_has) := goodIn_app (goodIn_of _ (by decide +kernel)) ggX7_mark_X5_has
set_option maxRecDepth 20000 in
theorem ggX7_mark_X7_isWithin : GoodIn wsX7_mark wsX7_isWithin := goodIn_r _ [11] (by decide +kernel) (by decide +kernel)
set_option maxRecDepth 20000 in
theorem gX7_mark_X7_isWithin : GoodIn wsX7_mark (va_wsS RX7 77 yX7_isWithin wsX7_isWithin) := goodIn_app (goodIn_of _ (by decide +kernel)) ggX7_mark_X7_isWithin
set_option maxRecDepth 20000 in
theorem ggX7_mark_X5_isOfKind : GoodIn wsX7_mark wsX5_isOfKind := goodIn_r _ [15, 16, 90, 91, 92, 93, 94, 95, 96, 97, 98, 99, 100, 101, 102, 103, 104] (by decide +kernel) (by decide +kernel)
set_option maxRecDepth 20000 in
theorem gX7_mark_X5_isOfKind : GoodIn wsX7_mark (wsV RX7 177 RX5 yX5_isOfKind wsX5_isOfKind) := goodIn_app (goodIn_of _ (by decide +kernel)) ggX7_mark_X5_isOfKind
set_option maxRecDepth 20000 in
theorem ggX7_mark_X7_refuse : GoodIn wsX7_mark wsX7_refuse := goodIn_r _ [20, 21, 22, 77, 78, 79, 80, 81, 82, 83, 84, 85, 86, 87, 88, 89] (by decide +kernel) (by decide +kernel)
set_option maxRecDepth 20000 in
theorem gX7_mark_X7_refuse : GoodIn wsX7_mark (wsV RX7 85 RX7 yX7_refuse wsX7_refuse) := goodIn_app (goodIn_of _ (by decide +kernel)) ggX7_mark_X7_refuse
set_option maxRecDepth 20000 in
theorem ggX7_mark_X5_markAs : GoodIn wsX7_mark wsX5_markAs := goodIn_r _ [26, 27, 28, 29, 30, 31, 32, 33, 34, 35, 36, 37, 38, 39, 40, 41, 42, 43, 44, 45, 46, 47, 48, 49, 50, 51, 52, 53, 54, 55, 5, 56, 16, 57, 58, 59, 60, 61, 62, 63, 64, 65, 66, 67, 68, 69, 70, 71, 72, 73, 74, 75, 76, 90, 91, 92, 93, 94, 95, 96, 97, 98, 99, 100, 101, 102, 103, 104, 105, 106] (by decide +kernel) (by decide +kernel)
set_option maxRecDepth 20000 in
theorem gX7_mark_X5_markAs : GoodIn wsX7_mark (wsV RX7 180 RX5 yX5_markAs wsX5_markAs) := goodIn_app (goodIn_of _ (by decide +kernel)) ggX7_mark_X5_markAs
theorem dX7_mark_0 : decode cX7_mark 0 = .ok (.aload_n 0, 1) := by decide +kernel
theorem dX7_mark_1 : decode cX7_mark 1 = .ok (.getfield 10, 3) := by decide +kernel
theorem dX7_mark_4 : decode cX7_mark 4 = .ok (.iload_n 1, 1) := by decide +kernel
theorem dX7_mark_5 : decode cX7_mark 5 = .ok (.invokevirtual 165, 3) := by decide +kernel
theorem dX7_mark_8 : decode cX7_mark 8 = .ok (.ifCond .eq 12, 3) := by decide +kernel
theorem dX7_mark_11 : decode cX7_mark 11 = .ok (.iload_n 2, 1) := by decide +kernel
theorem dX7_mark_12 : decode cX7_mark 12 = .ok (.iconst 0, 1) := by decide +kernel
theorem dX7_mark_13 : decode cX7_mark 13 = .ok (.iconst 3, 1) := by decide +kernel
theorem dX7_mark_14 : decode cX7_mark 14 = .ok (.invokestatic 77, 3) := by decide +kernel
theorem dX7_mark_17 : decode cX7_mark 17 = .ok (.ifCond .ne 5, 3) := by decide +kernel
theorem dX7_mark_20 : decode cX7_mark 20 = .ok (.iconst (-1), 1) := by decide +kernel
theorem dX7_mark_21 : decode cX7_mark 21 = .ok (.ireturn, 1) := by decide +kernel
theorem dX7_mark_22 : decode cX7_mark 22 = .ok (.aload_n 0, 1) := by decide +kernel
theorem dX7_mark_23 : decode cX7_mark 23 = .ok (.getfield 10, 3) := by decide +kernel
theorem dX7_mark_26 : decode cX7_mark 26 = .ok (.iload_n 1, 1) := by decide +kernel
theorem dX7_mark_27 : decode cX7_mark 27 = .ok (.iload_n 2, 1) := by decide +kernel
theorem dX7_mark_28 : decode cX7_mark 28 = .ok (.invokevirtual 177, 3) := by decide +kernel
theorem dX7_mark_31 : decode cX7_mark 31 = .ok (.ifCond .ne 9, 3) := by decide +kernel
theorem dX7_mark_34 : decode cX7_mark 34 = .ok (.aload_n 0, 1) := by decide +kernel
theorem dX7_mark_35 : decode cX7_mark 35 = .ok (.iconst 3, 1) := by decide +kernel
theorem dX7_mark_36 : decode cX7_mark 36 = .ok (.invokevirtual 85, 3) := by decide +kernel
theorem dX7_mark_39 : decode cX7_mark 39 = .ok (.ireturn, 1) := by decide +kernel
theorem dX7_mark_40 : decode cX7_mark 40 = .ok (.aload_n 0, 1) := by decide +kernel
theorem dX7_mark_41 : decode cX7_mark 41 = .ok (.getfield 10, 3) := by decide +kernel
theorem dX7_mark_44 : decode cX7_mark 44 = .ok (.iload_n 1, 1) := by decide +kernel
theorem dX7_mark_45 : decode cX7_mark 45 = .ok (.iload_n 2, 1) := by decide +kernel
theorem dX7_mark_46 : decode cX7_mark 46 = .ok (.invokevirtual 180, 3) := by decide +kernel
theorem dX7_mark_49 : decode cX7_mark 49 = .ok (.ireturn, 1) := by decide +kernel
set_option maxRecDepth 20000 in
theorem ggX7_span_X7_isDay : GoodIn wsX7_span wsX7_isDay := goodIn_r _ [6, 7, 8, 5, 9] (by decide +kernel) (by decide +kernel)
set_option maxRecDepth 20000 in
theorem gX7_span_X7_isDay : GoodIn wsX7_span (va_wsS RX7 183 yX7_isDay wsX7_isDay) := goodIn_app (goodIn_of _ (by decide +kernel)) ggX7_span_X7_isDay
set_option maxRecDepth 20000 in
theorem ggX7_span_X5_gather : GoodIn wsX7_span wsX5_gather := goodIn_r _ [14, 15, 16, 17, 18, 19, 20, 13, 21, 22, 23, 24, 25, 26, 27, 28, 29, 30, 31, 32, 33, 34, 35, 36, 37, 38, 39, 40, 41, 42, 43, 44, 45, 46, 47, 48, 49, 50, 51, 52, 53, 54, 55, 56, 57, 58, 59, 60, 61, 62, 63, 64, 65, 66, 67, 68, 69, 70, 71, 72, 73, 74, 75, 76, 77, 78, 79, 80, 81, 82, 83, 84, 85, 86, 87, 88, 112, 113, 114, 115, 116, 117, 118, 119, 120, 121, 122, 123, 124, 125, 126, 127, 128, 129, 130, 131, 132, 133] (by decide +kernel) (by decide +kernel)
set_option maxRecDepth 20000 in
theorem gX7_span_X5_gather : GoodIn wsX7_span (wsV RX7 186 RX5 yX5_gather wsX5_gather) := goodIn_app (goodIn_of _ (by decide +kernel)) ggX7_span_X5_gather
set_option maxRecDepth 20000 in
theorem ggX7_span_X1_firstCommonYear : GoodIn wsX7_span wsX1_firstCommonYear := goodIn_r _ [92, 85, 86, 93, 44, 45, 46, 112, 113, 114, 115, 116] (by decide +kernel) (by decide +kernel)
set_option maxRecDepth 20000 in
theorem gX7_span_X1_firstCommonYear : GoodIn wsX7_span (wsV RX7 190 RX1 yX1_firstCommonYear wsX1_firstCommonYear) := goodIn_app (goodIn_of _ (by decide +kernel)) ggX7_span_X1_firstCommonYear
set_option maxRecDepth 20000 in
theorem ggX7_span_X1_lastCommonYear : GoodIn wsX7_span wsX1_lastCommonYear := goodIn_r _ [97, 85, 87, 98, 76, 45, 77, 112, 113, 114, 115, 116] (by decide +kernel) (by decide +kernel)
set_option maxRecDepth 20000 in
theorem gX7_span_X1_lastCommonYear : GoodIn wsX7_span (wsV RX7 194 RX1 yX1_lastCommonYear wsX1_lastCommonYear) := goodIn_app (goodIn_of _ (by decide +kernel)) ggX7_span_X1_lastCommonYear
theorem dX7_span_0 : decode cX7_span 0 = .ok (.iload_n 1, 1) := by decide +kernel
theorem dX7_span_1 : decode cX7_span 1 = .ok (.invokestatic 183, 3) := by decide +kernel
theorem dX7_span_4 : decode cX7_span 4 = .ok (.ifCond .ne 5, 3) := by decide +kernel
theorem dX7_span_7 : decode cX7_span 7 = .ok (.iconst (-1), 1) := by decide +kernel
theorem dX7_span_8 : decode cX7_span 8 = .ok (.ireturn, 1) := by decide +kernel
theorem dX7_span_9 : decode cX7_span 9 = .ok (.aload_n 0, 1) := by decide +kernel
theorem dX7_span_10 : decode cX7_span 10 = .ok (.getfield 10, 3) := by decide +kernel
theorem dX7_span_13 : decode cX7_span 13 = .ok (.iload_n 1, 1) := by decide +kernel
theorem dX7_span_14 : decode cX7_span 14 = .ok (.aload_n 0, 1) := by decide +kernel
theorem dX7_span_15 : decode cX7_span 15 = .ok (.getfield 24, 3) := by decide +kernel
theorem dX7_span_18 : decode cX7_span 18 = .ok (.invokevirtual 186, 3) := by decide +kernel
theorem dX7_span_21 : decode cX7_span 21 = .ok (.aload_n 0, 1) := by decide +kernel
theorem dX7_span_22 : decode cX7_span 22 = .ok (.getfield 24, 3) := by decide +kernel
theorem dX7_span_25 : decode cX7_span 25 = .ok (.invokevirtual 190, 3) := by decide +kernel
theorem dX7_span_28 : decode cX7_span 28 = .ok (.istore_n 3, 1) := by decide +kernel
theorem dX7_span_29 : decode cX7_span 29 = .ok (.aload_n 0, 1) := by decide +kernel
theorem dX7_span_30 : decode cX7_span 30 = .ok (.getfield 24, 3) := by decide +kernel
theorem dX7_span_33 : decode cX7_span 33 = .ok (.invokevirtual 194, 3) := by decide +kernel
theorem dX7_span_36 : decode cX7_span 36 = .ok (.istore 4, 2) := by decide +kernel
theorem dX7_span_38 : decode cX7_span 38 = .ok (.iload_n 3, 1) := by decide +kernel
theorem dX7_span_39 : decode cX7_span 39 = .ok (.iload 4, 2) := by decide +kernel
theorem dX7_span_41 : decode cX7_span 41 = .ok (.if_icmp .le 6, 3) := by decide +kernel
theorem dX7_span_44 : decode cX7_span 44 = .ok (.bipush (-9), 2) := by decide +kernel
theorem dX7_span_46 : decode cX7_span 46 = .ok (.ireturn, 1) := by decide +kernel
theorem dX7_span_47 : decode cX7_span 47 = .ok (.iload_n 2, 1) := by decide +kernel
theorem dX7_span_48 : decode cX7_span 48 = .ok (.ifCond .eq 8, 3) := by decide +kernel
theorem dX7_span_51 : decode cX7_span 51 = .ok (.iload 4, 2) := by decide +kernel
theorem dX7_span_53 : decode cX7_span 53 = .ok (.goto 4, 3) := by decide +kernel
theorem dX7_span_56 : decode cX7_span 56 = .ok (.iload_n 3, 1) := by decide +kernel
theorem dX7_span_57 : decode cX7_span 57 = .ok (.ireturn, 1) := by decide +kernel
set_option maxRecDepth 20000 in
theorem ggX7_quarrel_X7_isDay : GoodIn wsX7_quarrel wsX7_isDay := goodIn_r _ [9, 10, 11, 8, 12] (by decide +kernel) (by decide +kernel)
set_option maxRecDepth 20000 in
theorem gX7_quarrel_X7_isDay : GoodIn wsX7_quarrel (va_wsS RX7 183 yX7_isDay wsX7_isDay) := goodIn_app (goodIn_of _ (by decide +kernel)) ggX7_quarrel_X7_isDay
set_option maxRecDepth 20000 in
theorem ggX7_quarrel_X5_gather : GoodIn wsX7_quarrel wsX5_gather := goodIn_r _ [17, 18, 19, 20, 21, 22, 23, 16, 24, 25, 26, 27, 28, 29, 30, 31, 32, 33, 34, 35, 36, 37, 38, 39, 40, 41, 42, 43, 44, 45, 46, 47, 48, 49, 50, 51, 52, 53, 54, 55, 56, 57, 58, 59, 60, 61, 62, 63, 64, 65, 66, 67, 68, 69, 70, 71, 72, 73, 74, 75, 76, 77, 78, 79, 80, 81, 82, 83, 84, 85, 86, 87, 88, 89, 90, 91, 109, 110, 111, 112, 113, 114, 115, 116, 117, 118, 119, 120, 121, 122, 123, 124, 125, 126, 127, 128, 129, 130] (by decide +kernel) (by decide +kernel)
set_option maxRecDepth 20000 in
theorem gX7_quarrel_X5_gather : GoodIn wsX7_quarrel (wsV RX7 186 RX5 yX5_gather wsX5_gather) := goodIn_app (goodIn_of _ (by decide +kernel)) ggX7_quarrel_X5_gather
set_option maxRecDepth 20000 in
theorem ggX7_quarrel_X1_opponentAfter : GoodIn wsX7_quarrel wsX1_opponentAfter := goodIn_r _ [95, 88, 89, 90, 109, 110, 111, 112, 113] (by decide +kernel) (by decide +kernel)
set_option maxRecDepth 20000 in
theorem gX7_quarrel_X1_opponentAfter : GoodIn wsX7_quarrel (wsV RX7 200 RX1 yX1_opponentAfter wsX1_opponentAfter) := goodIn_app (goodIn_of _ (by decide +kernel)) ggX7_quarrel_X1_opponentAfter
theorem dX7_quarrel_0 : decode cX7_quarrel 0 = .ok (.iload_n 1, 1) := by decide +kernel
theorem dX7_quarrel_1 : decode cX7_quarrel 1 = .ok (.invokestatic 183, 3) := by decide +kernel
theorem dX7_quarrel_4 : decode cX7_quarrel 4 = .ok (.ifCond .ne 5, 3) := by decide +kernel
theorem dX7_quarrel_7 : decode cX7_quarrel 7 = .ok (.iconst (-1), 1) := by decide +kernel
theorem dX7_quarrel_8 : decode cX7_quarrel 8 = .ok (.ireturn, 1) := by decide +kernel
theorem dX7_quarrel_9 : decode cX7_quarrel 9 = .ok (.aload_n 0, 1) := by decide +kernel
theorem dX7_quarrel_10 : decode cX7_quarrel 10 = .ok (.getfield 10, 3) := by decide +kernel
theorem dX7_quarrel_13 : decode cX7_quarrel 13 = .ok (.iload_n 1, 1) := by decide +kernel
theorem dX7_quarrel_14 : decode cX7_quarrel 14 = .ok (.aload_n 0, 1) := by decide +kernel
theorem dX7_quarrel_15 : decode cX7_quarrel 15 = .ok (.getfield 24, 3) := by decide +kernel
theorem dX7_quarrel_18 : decode cX7_quarrel 18 = .ok (.invokevirtual 186, 3) := by decide +kernel
theorem dX7_quarrel_21 : decode cX7_quarrel 21 = .ok (.iconst 0, 1) := by decide +kernel
theorem dX7_quarrel_22 : decode cX7_quarrel 22 = .ok (.istore_n 2, 1) := by decide +kernel
theorem dX7_quarrel_23 : decode cX7_quarrel 23 = .ok (.iload_n 2, 1) := by decide +kernel
theorem dX7_quarrel_24 : decode cX7_quarrel 24 = .ok (.aload_n 0, 1) := by decide +kernel
theorem dX7_quarrel_25 : decode cX7_quarrel 25 = .ok (.getfield 24, 3) := by decide +kernel
theorem dX7_quarrel_28 : decode cX7_quarrel 28 = .ok (.getfield 197, 3) := by decide +kernel
theorem dX7_quarrel_31 : decode cX7_quarrel 31 = .ok (.if_icmp .ge 47, 3) := by decide +kernel
theorem dX7_quarrel_34 : decode cX7_quarrel 34 = .ok (.aload_n 0, 1) := by decide +kernel
theorem dX7_quarrel_35 : decode cX7_quarrel 35 = .ok (.getfield 24, 3) := by decide +kernel
theorem dX7_quarrel_38 : decode cX7_quarrel 38 = .ok (.iload_n 2, 1) := by decide +kernel
theorem dX7_quarrel_39 : decode cX7_quarrel 39 = .ok (.invokevirtual 200, 3) := by decide +kernel
theorem dX7_quarrel_42 : decode cX7_quarrel 42 = .ok (.istore_n 3, 1) := by decide +kernel
theorem dX7_quarrel_43 : decode cX7_quarrel 43 = .ok (.iload_n 3, 1) := by decide +kernel
theorem dX7_quarrel_44 : decode cX7_quarrel 44 = .ok (.bipush (-9), 2) := by decide +kernel
theorem dX7_quarrel_46 : decode cX7_quarrel 46 = .ok (.if_icmp .eq 26, 3) := by decide +kernel
theorem dX7_quarrel_49 : decode cX7_quarrel 49 = .ok (.aload_n 0, 1) := by decide +kernel
theorem dX7_quarrel_50 : decode cX7_quarrel 50 = .ok (.aload_n 0, 1) := by decide +kernel
theorem dX7_quarrel_51 : decode cX7_quarrel 51 = .ok (.getfield 24, 3) := by decide +kernel
theorem dX7_quarrel_54 : decode cX7_quarrel 54 = .ok (.getfield 203, 3) := by decide +kernel
theorem dX7_quarrel_57 : decode cX7_quarrel 57 = .ok (.iload_n 3, 1) := by decide +kernel
theorem dX7_quarrel_58 : decode cX7_quarrel 58 = .ok (.iaload, 1) := by decide +kernel
theorem dX7_quarrel_59 : decode cX7_quarrel 59 = .ok (.putfield 67, 3) := by decide +kernel
theorem dX7_quarrel_62 : decode cX7_quarrel 62 = .ok (.aload_n 0, 1) := by decide +kernel
theorem dX7_quarrel_63 : decode cX7_quarrel 63 = .ok (.getfield 24, 3) := by decide +kernel
theorem dX7_quarrel_66 : decode cX7_quarrel 66 = .ok (.getfield 203, 3) := by decide +kernel
theorem dX7_quarrel_69 : decode cX7_quarrel 69 = .ok (.iload_n 2, 1) := by decide +kernel
theorem dX7_quarrel_70 : decode cX7_quarrel 70 = .ok (.iaload, 1) := by decide +kernel
theorem dX7_quarrel_71 : decode cX7_quarrel 71 = .ok (.ireturn, 1) := by decide +kernel
theorem dX7_quarrel_72 : decode cX7_quarrel 72 = .ok (.iinc 2 1, 3) := by decide +kernel
theorem dX7_quarrel_75 : decode cX7_quarrel 75 = .ok (.goto (-52), 3) := by decide +kernel
theorem dX7_quarrel_78 : decode cX7_quarrel 78 = .ok (.bipush (-9), 2) := by decide +kernel
theorem dX7_quarrel_80 : decode cX7_quarrel 80 = .ok (.ireturn, 1) := by decide +kernel
set_option maxRecDepth 20000 in
theorem ggX7_leftOut_X7_isDay : GoodIn wsX7_leftOut wsX7_isDay := goodIn_r _ [7, 8, 9, 6, 10] (by decide +kernel) (by decide +kernel)
set_option maxRecDepth 20000 in
theorem gX7_leftOut_X7_isDay : GoodIn wsX7_leftOut (va_wsS RX7 183 yX7_isDay wsX7_isDay) := goodIn_app (goodIn_of _ (by decide +kernel)) ggX7_leftOut_X7_isDay
set_option maxRecDepth 20000 in
theorem ggX7_leftOut_X5_gather : GoodIn wsX7_leftOut wsX5_gather := goodIn_r _ [15, 16, 17, 18, 19, 20, 21, 14, 22, 23, 24, 25, 26, 27, 28, 29, 30, 31, 32, 33, 34, 35, 36, 37, 38, 39, 40, 41, 42, 43, 44, 45, 46, 47, 48, 49, 50, 51, 52, 53, 54, 55, 56, 57, 58, 59, 60, 61, 62, 63, 64, 65, 66, 67, 68, 69, 70, 71, 72, 73, 74, 75, 76, 77, 78, 79, 80, 81, 82, 83, 84, 85, 86, 87, 88, 89, 124, 125, 126, 127, 128, 129, 130, 131, 132, 133, 134, 135, 136, 137, 138, 139, 140, 141, 142, 143, 144, 145] (by decide +kernel) (by decide +kernel)
set_option maxRecDepth 20000 in
theorem gX7_leftOut_X5_gather : GoodIn wsX7_leftOut (wsV RX7 186 RX5 yX5_gather wsX5_gather) := goodIn_app (goodIn_of _ (by decide +kernel)) ggX7_leftOut_X5_gather
set_option maxRecDepth 20000 in
theorem ggX7_leftOut_X1_heaviestYear : GoodIn wsX7_leftOut wsX1_heaviestYear := goodIn_r _ [93, 86, 87, 94, 95, 96, 83, 97, 89, 98, 99, 100, 101, 88, 124, 125, 126, 127, 128] (by decide +kernel) (by decide +kernel)
set_option maxRecDepth 20000 in
theorem gX7_leftOut_X1_heaviestYear : GoodIn wsX7_leftOut (wsV RX7 206 RX1 yX1_heaviestYear wsX1_heaviestYear) := goodIn_app (goodIn_of _ (by decide +kernel)) ggX7_leftOut_X1_heaviestYear
set_option maxRecDepth 20000 in
theorem ggX7_leftOut_X1_setWithout : GoodIn wsX7_leftOut wsX1_setWithout := goodIn_r _ [105, 86, 85, 98, 99, 100, 83, 101, 87, 88, 124, 125, 126, 127, 128] (by decide +kernel) (by decide +kernel)
set_option maxRecDepth 20000 in
theorem gX7_leftOut_X1_setWithout : GoodIn wsX7_leftOut (wsV RX7 209 RX1 yX1_setWithout wsX1_setWithout) := goodIn_app (goodIn_of _ (by decide +kernel)) ggX7_leftOut_X1_setWithout
set_option maxRecDepth 20000 in
theorem ggX7_leftOut_X1_weightOfAll : GoodIn wsX7_leftOut wsX1_weightOfAll := goodIn_r _ [109, 86, 89, 124, 125, 126, 127, 128] (by decide +kernel) (by decide +kernel)
set_option maxRecDepth 20000 in
theorem gX7_leftOut_X1_weightOfAll : GoodIn wsX7_leftOut (wsV RX7 212 RX1 yX1_weightOfAll wsX1_weightOfAll) := goodIn_app (goodIn_of _ (by decide +kernel)) ggX7_leftOut_X1_weightOfAll
set_option maxRecDepth 20000 in
theorem ggX7_leftOut_X1_weightOn : GoodIn wsX7_leftOut wsX1_weightOn := goodIn_r _ [97, 86, 89, 98, 99, 100, 83, 101, 87, 88, 124, 125, 126, 127, 128] (by decide +kernel) (by decide +kernel)
set_option maxRecDepth 20000 in
theorem gX7_leftOut_X1_weightOn : GoodIn wsX7_leftOut (wsV RX7 215 RX1 yX1_weightOn wsX1_weightOn) := goodIn_app (goodIn_of _ (by decide +kernel)) ggX7_leftOut_X1_weightOn
theorem dX7_leftOut_0 : decode cX7_leftOut 0 = .ok (.iload_n 1, 1) := by decide +kernel
theorem dX7_leftOut_1 : decode cX7_leftOut 1 = .ok (.invokestatic 183, 3) := by decide +kernel
theorem dX7_leftOut_4 : decode cX7_leftOut 4 = .ok (.ifCond .ne 5, 3) := by decide +kernel
theorem dX7_leftOut_7 : decode cX7_leftOut 7 = .ok (.iconst (-1), 1) := by decide +kernel
theorem dX7_leftOut_8 : decode cX7_leftOut 8 = .ok (.ireturn, 1) := by decide +kernel
theorem dX7_leftOut_9 : decode cX7_leftOut 9 = .ok (.aload_n 0, 1) := by decide +kernel
theorem dX7_leftOut_10 : decode cX7_leftOut 10 = .ok (.getfield 10, 3) := by decide +kernel
theorem dX7_leftOut_13 : decode cX7_leftOut 13 = .ok (.iload_n 1, 1) := by decide +kernel
theorem dX7_leftOut_14 : decode cX7_leftOut 14 = .ok (.aload_n 0, 1) := by decide +kernel
theorem dX7_leftOut_15 : decode cX7_leftOut 15 = .ok (.getfield 24, 3) := by decide +kernel
theorem dX7_leftOut_18 : decode cX7_leftOut 18 = .ok (.invokevirtual 186, 3) := by decide +kernel
theorem dX7_leftOut_21 : decode cX7_leftOut 21 = .ok (.aload_n 0, 1) := by decide +kernel
theorem dX7_leftOut_22 : decode cX7_leftOut 22 = .ok (.getfield 24, 3) := by decide +kernel
theorem dX7_leftOut_25 : decode cX7_leftOut 25 = .ok (.invokevirtual 206, 3) := by decide +kernel
theorem dX7_leftOut_28 : decode cX7_leftOut 28 = .ok (.istore_n 2, 1) := by decide +kernel
theorem dX7_leftOut_29 : decode cX7_leftOut 29 = .ok (.aload_n 0, 1) := by decide +kernel
theorem dX7_leftOut_30 : decode cX7_leftOut 30 = .ok (.aload_n 0, 1) := by decide +kernel
theorem dX7_leftOut_31 : decode cX7_leftOut 31 = .ok (.getfield 24, 3) := by decide +kernel
theorem dX7_leftOut_34 : decode cX7_leftOut 34 = .ok (.iload_n 2, 1) := by decide +kernel
theorem dX7_leftOut_35 : decode cX7_leftOut 35 = .ok (.invokevirtual 209, 3) := by decide +kernel
theorem dX7_leftOut_38 : decode cX7_leftOut 38 = .ok (.putfield 67, 3) := by decide +kernel
theorem dX7_leftOut_41 : decode cX7_leftOut 41 = .ok (.aload_n 0, 1) := by decide +kernel
theorem dX7_leftOut_42 : decode cX7_leftOut 42 = .ok (.getfield 24, 3) := by decide +kernel
theorem dX7_leftOut_45 : decode cX7_leftOut 45 = .ok (.invokevirtual 212, 3) := by decide +kernel
theorem dX7_leftOut_48 : decode cX7_leftOut 48 = .ok (.aload_n 0, 1) := by decide +kernel
theorem dX7_leftOut_49 : decode cX7_leftOut 49 = .ok (.getfield 24, 3) := by decide +kernel
theorem dX7_leftOut_52 : decode cX7_leftOut 52 = .ok (.iload_n 2, 1) := by decide +kernel
theorem dX7_leftOut_53 : decode cX7_leftOut 53 = .ok (.invokevirtual 215, 3) := by decide +kernel
theorem dX7_leftOut_56 : decode cX7_leftOut 56 = .ok (.isub, 1) := by decide +kernel
theorem dX7_leftOut_57 : decode cX7_leftOut 57 = .ok (.ireturn, 1) := by decide +kernel
set_option maxRecDepth 20000 in
theorem ggX7_heldYear_X7_isDay : GoodIn wsX7_heldYear wsX7_isDay := goodIn_r _ [6, 7, 8, 5, 9] (by decide +kernel) (by decide +kernel)
set_option maxRecDepth 20000 in
theorem gX7_heldYear_X7_isDay : GoodIn wsX7_heldYear (va_wsS RX7 183 yX7_isDay wsX7_isDay) := goodIn_app (goodIn_of _ (by decide +kernel)) ggX7_heldYear_X7_isDay
set_option maxRecDepth 20000 in
theorem ggX7_heldYear_X5_gather : GoodIn wsX7_heldYear wsX5_gather := goodIn_r _ [14, 15, 16, 17, 18, 19, 20, 13, 21, 22, 23, 24, 25, 26, 27, 28, 29, 30, 31, 32, 33, 34, 35, 36, 37, 38, 39, 40, 41, 42, 43, 44, 45, 46, 47, 48, 49, 50, 51, 52, 53, 54, 55, 56, 57, 58, 59, 60, 61, 62, 63, 64, 65, 66, 67, 68, 69, 70, 71, 72, 73, 74, 75, 76, 77, 78, 79, 80, 81, 82, 83, 84, 85, 86, 87, 88, 114, 115, 116, 117, 118, 119, 120, 121, 122, 123, 124, 125, 126, 127, 128, 129, 130, 131, 132, 133, 134, 135] (by decide +kernel) (by decide +kernel)
set_option maxRecDepth 20000 in
theorem gX7_heldYear_X5_gather : GoodIn wsX7_heldYear (wsV RX7 186 RX5 yX5_gather wsX5_gather) := goodIn_app (goodIn_of _ (by decide +kernel)) ggX7_heldYear_X5_gather
set_option maxRecDepth 20000 in
theorem ggX7_heldYear_X1_heaviestYear : GoodIn wsX7_heldYear wsX1_heaviestYear := goodIn_r _ [92, 85, 86, 93, 94, 95, 82, 96, 88, 97, 98, 99, 100, 87, 114, 115, 116, 117, 118] (by decide +kernel) (by decide +kernel)
set_option maxRecDepth 20000 in
theorem gX7_heldYear_X1_heaviestYear : GoodIn wsX7_heldYear (wsV RX7 206 RX1 yX1_heaviestYear wsX1_heaviestYear) := goodIn_app (goodIn_of _ (by decide +kernel)) ggX7_heldYear_X1_heaviestYear
theorem dX7_heldYear_0 : decode cX7_heldYear 0 = .ok (.iload_n 1, 1) := by decide +kernel
theorem dX7_heldYear_1 : decode cX7_heldYear 1 = .ok (.invokestatic 183, 3) := by decide +kernel
theorem dX7_heldYear_4 : decode cX7_heldYear 4 = .ok (.ifCond .ne 5, 3) := by decide +kernel
theorem dX7_heldYear_7 : decode cX7_heldYear 7 = .ok (.iconst (-1), 1) := by decide +kernel
theorem dX7_heldYear_8 : decode cX7_heldYear 8 = .ok (.ireturn, 1) := by decide +kernel
theorem dX7_heldYear_9 : decode cX7_heldYear 9 = .ok (.aload_n 0, 1) := by decide +kernel
theorem dX7_heldYear_10 : decode cX7_heldYear 10 = .ok (.getfield 10, 3) := by decide +kernel
theorem dX7_heldYear_13 : decode cX7_heldYear 13 = .ok (.iload_n 1, 1) := by decide +kernel
theorem dX7_heldYear_14 : decode cX7_heldYear 14 = .ok (.aload_n 0, 1) := by decide +kernel
theorem dX7_heldYear_15 : decode cX7_heldYear 15 = .ok (.getfield 24, 3) := by decide +kernel
theorem dX7_heldYear_18 : decode cX7_heldYear 18 = .ok (.invokevirtual 186, 3) := by decide +kernel
theorem dX7_heldYear_21 : decode cX7_heldYear 21 = .ok (.aload_n 0, 1) := by decide +kernel
theorem dX7_heldYear_22 : decode cX7_heldYear 22 = .ok (.getfield 24, 3) := by decide +kernel
theorem dX7_heldYear_25 : decode cX7_heldYear 25 = .ok (.invokevirtual 206, 3) := by decide +kernel
theorem dX7_heldYear_28 : decode cX7_heldYear 28 = .ok (.ireturn, 1) := by decide +kernel
set_option maxRecDepth 20000 in
theorem ggX7_hand_X7_isHand : GoodIn wsX7_hand wsX7_isHand := goodIn_r _ [5, 6, 7, 4, 8] (by decide +kernel) (by decide +kernel)
set_option maxRecDepth 20000 in
theorem gX7_hand_X7_isHand : GoodIn wsX7_hand (va_wsS RX7 218 yX7_isHand wsX7_isHand) := goodIn_app (goodIn_of _ (by decide +kernel)) ggX7_hand_X7_isHand
set_option maxRecDepth 20000 in
theorem ggX7_hand_X7_isWithin : GoodIn wsX7_hand wsX7_isWithin := goodIn_r _ [8] (by decide +kernel) (by decide +kernel)
set_option maxRecDepth 20000 in
theorem gX7_hand_X7_isWithin : GoodIn wsX7_hand (va_wsS RX7 77 yX7_isWithin wsX7_isWithin) := goodIn_app (goodIn_of _ (by decide +kernel)) ggX7_hand_X7_isWithin
set_option maxRecDepth 20000 in
theorem ggX7_hand_X2_swapWeight : GoodIn wsX7_hand wsX2_swapWeight := goodIn_r _ [13, 14, 28, 29, 30, 31, 32, 33, 34, 35, 36, 37] (by decide +kernel) (by decide +kernel)
set_option maxRecDepth 20000 in
theorem gX7_hand_X2_swapWeight : GoodIn wsX7_hand (wsV RX7 221 RX2 yX2_swapWeight wsX2_swapWeight) := goodIn_app (goodIn_of _ (by decide +kernel)) ggX7_hand_X2_swapWeight
theorem dX7_hand_0 : decode cX7_hand 0 = .ok (.iload_n 1, 1) := by decide +kernel
theorem dX7_hand_1 : decode cX7_hand 1 = .ok (.invokestatic 218, 3) := by decide +kernel
theorem dX7_hand_4 : decode cX7_hand 4 = .ok (.ifCond .eq 13, 3) := by decide +kernel
theorem dX7_hand_7 : decode cX7_hand 7 = .ok (.iload_n 2, 1) := by decide +kernel
theorem dX7_hand_8 : decode cX7_hand 8 = .ok (.iconst 0, 1) := by decide +kernel
theorem dX7_hand_9 : decode cX7_hand 9 = .ok (.bipush 99, 2) := by decide +kernel
theorem dX7_hand_11 : decode cX7_hand 11 = .ok (.invokestatic 77, 3) := by decide +kernel
theorem dX7_hand_14 : decode cX7_hand 14 = .ok (.ifCond .ne 5, 3) := by decide +kernel
theorem dX7_hand_17 : decode cX7_hand 17 = .ok (.iconst (-1), 1) := by decide +kernel
theorem dX7_hand_18 : decode cX7_hand 18 = .ok (.ireturn, 1) := by decide +kernel
theorem dX7_hand_19 : decode cX7_hand 19 = .ok (.aload_n 0, 1) := by decide +kernel
theorem dX7_hand_20 : decode cX7_hand 20 = .ok (.getfield 31, 3) := by decide +kernel
theorem dX7_hand_23 : decode cX7_hand 23 = .ok (.iload_n 1, 1) := by decide +kernel
theorem dX7_hand_24 : decode cX7_hand 24 = .ok (.iload_n 2, 1) := by decide +kernel
theorem dX7_hand_25 : decode cX7_hand 25 = .ok (.invokevirtual 221, 3) := by decide +kernel
theorem dX7_hand_28 : decode cX7_hand 28 = .ok (.ireturn, 1) := by decide +kernel
set_option maxRecDepth 20000 in
theorem ggX7_test_X7_isWithin : GoodIn wsX7_test wsX7_isWithin := goodIn_r _ [5] (by decide +kernel) (by decide +kernel)
set_option maxRecDepth 20000 in
theorem gX7_test_X7_isWithin : GoodIn wsX7_test (va_wsS RX7 77 yX7_isWithin wsX7_isWithin) := goodIn_app (goodIn_of _ (by decide +kernel)) ggX7_test_X7_isWithin
set_option maxRecDepth 20000 in
theorem ggX7_test_X2_isFull : GoodIn wsX7_test wsX2_isFull := goodIn_r _ [10, 11, 34, 35, 36, 37, 38, 39, 40, 41, 42, 43] (by decide +kernel) (by decide +kernel)
set_option maxRecDepth 20000 in
theorem gX7_test_X2_isFull : GoodIn wsX7_test (wsV RX7 224 RX2 yX2_isFull wsX2_isFull) := goodIn_app (goodIn_of _ (by decide +kernel)) ggX7_test_X2_isFull
set_option maxRecDepth 20000 in
theorem ggX7_test_X2_add : GoodIn wsX7_test wsX2_add := goodIn_r _ [15, 16, 11, 17, 18, 19, 20, 34, 35, 36, 37, 38, 39, 40, 41, 42, 43] (by decide +kernel) (by decide +kernel)
set_option maxRecDepth 20000 in
theorem gX7_test_X2_add : GoodIn wsX7_test (wsV RX7 225 RX2 yX2_add wsX2_add) := goodIn_app (goodIn_of _ (by decide +kernel)) ggX7_test_X2_add
theorem dX7_test_0 : decode cX7_test 0 = .ok (.iload_n 3, 1) := by decide +kernel
theorem dX7_test_1 : decode cX7_test 1 = .ok (.bipush (-9), 2) := by decide +kernel
theorem dX7_test_3 : decode cX7_test 3 = .ok (.if_icmp .eq 12, 3) := by decide +kernel
theorem dX7_test_6 : decode cX7_test 6 = .ok (.iload_n 3, 1) := by decide +kernel
theorem dX7_test_7 : decode cX7_test 7 = .ok (.iconst 0, 1) := by decide +kernel
theorem dX7_test_8 : decode cX7_test 8 = .ok (.iconst 3, 1) := by decide +kernel
theorem dX7_test_9 : decode cX7_test 9 = .ok (.invokestatic 77, 3) := by decide +kernel
theorem dX7_test_12 : decode cX7_test 12 = .ok (.ifCond .eq 7, 3) := by decide +kernel
theorem dX7_test_15 : decode cX7_test 15 = .ok (.iconst 1, 1) := by decide +kernel
theorem dX7_test_16 : decode cX7_test 16 = .ok (.goto 4, 3) := by decide +kernel
theorem dX7_test_19 : decode cX7_test 19 = .ok (.iconst 0, 1) := by decide +kernel
theorem dX7_test_20 : decode cX7_test 20 = .ok (.istore 4, 2) := by decide +kernel
theorem dX7_test_22 : decode cX7_test 22 = .ok (.iload_n 1, 1) := by decide +kernel
theorem dX7_test_23 : decode cX7_test 23 = .ok (.iconst 1, 1) := by decide +kernel
theorem dX7_test_24 : decode cX7_test 24 = .ok (.sipush 1000, 3) := by decide +kernel
theorem dX7_test_27 : decode cX7_test 27 = .ok (.invokestatic 77, 3) := by decide +kernel
theorem dX7_test_30 : decode cX7_test 30 = .ok (.ifCond .eq 18, 3) := by decide +kernel
theorem dX7_test_33 : decode cX7_test 33 = .ok (.iload_n 2, 1) := by decide +kernel
theorem dX7_test_34 : decode cX7_test 34 = .ok (.iconst 0, 1) := by decide +kernel
theorem dX7_test_35 : decode cX7_test 35 = .ok (.bipush 9, 2) := by decide +kernel
theorem dX7_test_37 : decode cX7_test 37 = .ok (.invokestatic 77, 3) := by decide +kernel
theorem dX7_test_40 : decode cX7_test 40 = .ok (.ifCond .eq 8, 3) := by decide +kernel
theorem dX7_test_43 : decode cX7_test 43 = .ok (.iload 4, 2) := by decide +kernel
theorem dX7_test_45 : decode cX7_test 45 = .ok (.ifCond .ne 5, 3) := by decide +kernel
theorem dX7_test_48 : decode cX7_test 48 = .ok (.iconst (-1), 1) := by decide +kernel
theorem dX7_test_49 : decode cX7_test 49 = .ok (.ireturn, 1) := by decide +kernel
theorem dX7_test_50 : decode cX7_test 50 = .ok (.aload_n 0, 1) := by decide +kernel
theorem dX7_test_51 : decode cX7_test 51 = .ok (.getfield 31, 3) := by decide +kernel
theorem dX7_test_54 : decode cX7_test 54 = .ok (.invokevirtual 224, 3) := by decide +kernel
theorem dX7_test_57 : decode cX7_test 57 = .ok (.ifCond .eq 6, 3) := by decide +kernel
theorem dX7_test_60 : decode cX7_test 60 = .ok (.bipush (-2), 2) := by decide +kernel
theorem dX7_test_62 : decode cX7_test 62 = .ok (.ireturn, 1) := by decide +kernel
theorem dX7_test_63 : decode cX7_test 63 = .ok (.aload_n 0, 1) := by decide +kernel
theorem dX7_test_64 : decode cX7_test 64 = .ok (.getfield 31, 3) := by decide +kernel
theorem dX7_test_67 : decode cX7_test 67 = .ok (.iload_n 1, 1) := by decide +kernel
theorem dX7_test_68 : decode cX7_test 68 = .ok (.iload_n 2, 1) := by decide +kernel
theorem dX7_test_69 : decode cX7_test 69 = .ok (.iload_n 3, 1) := by decide +kernel
theorem dX7_test_70 : decode cX7_test 70 = .ok (.invokevirtual 225, 3) := by decide +kernel
theorem dX7_test_73 : decode cX7_test 73 = .ok (.ireturn, 1) := by decide +kernel
set_option maxRecDepth 20000 in
theorem ggX7_often_X2_has : GoodIn wsX7_often wsX2_has := goodIn_r _ [6, 7, 38, 39, 40, 41, 42, 43, 44, 45, 46, 47] (by decide +kernel) (by decide +kernel)
set_option maxRecDepth 20000 in
theorem gX7_often_X2_has : GoodIn wsX7_often (wsV RX7 228 RX2 yX2_has wsX2_has) := goodIn_app (goodIn_of _ (by decide +kernel)) ggX7_often_X2_has
set_option maxRecDepth 20000 in
theorem ggX7_often_X7_isHand : GoodIn wsX7_often wsX7_isHand := goodIn_r _ [11, 12, 13, 10, 14] (by decide +kernel) (by decide +kernel)
set_option maxRecDepth 20000 in
theorem gX7_often_X7_isHand : GoodIn wsX7_often (va_wsS RX7 218 yX7_isHand wsX7_isHand) := goodIn_app (goodIn_of _ (by decide +kernel)) ggX7_often_X7_isHand
set_option maxRecDepth 20000 in
theorem ggX7_often_X7_isWithin : GoodIn wsX7_often wsX7_isWithin := goodIn_r _ [14] (by decide +kernel) (by decide +kernel)
set_option maxRecDepth 20000 in
theorem gX7_often_X7_isWithin : GoodIn wsX7_often (va_wsS RX7 77 yX7_isWithin wsX7_isWithin) := goodIn_app (goodIn_of _ (by decide +kernel)) ggX7_often_X7_isWithin
set_option maxRecDepth 20000 in
theorem ggX7_often_X2_isDone : GoodIn wsX7_often wsX2_isDone := goodIn_r _ [18, 19, 38, 39, 40, 41, 42, 43, 44, 45, 46, 47] (by decide +kernel) (by decide +kernel)
set_option maxRecDepth 20000 in
theorem gX7_often_X2_isDone : GoodIn wsX7_often (wsV RX7 229 RX2 yX2_isDone wsX2_isDone) := goodIn_app (goodIn_of _ (by decide +kernel)) ggX7_often_X2_isDone
set_option maxRecDepth 20000 in
theorem ggX7_often_X2_swapOften : GoodIn wsX7_often wsX2_swapOften := goodIn_r _ [23, 24, 38, 39, 40, 41, 42, 43, 44, 45, 46, 47] (by decide +kernel) (by decide +kernel)
set_option maxRecDepth 20000 in
theorem gX7_often_X2_swapOften : GoodIn wsX7_often (wsV RX7 232 RX2 yX2_swapOften wsX2_swapOften) := goodIn_app (goodIn_of _ (by decide +kernel)) ggX7_often_X2_swapOften
theorem dX7_often_0 : decode cX7_often 0 = .ok (.aload_n 0, 1) := by decide +kernel
theorem dX7_often_1 : decode cX7_often 1 = .ok (.getfield 31, 3) := by decide +kernel
theorem dX7_often_4 : decode cX7_often 4 = .ok (.iload_n 1, 1) := by decide +kernel
theorem dX7_often_5 : decode cX7_often 5 = .ok (.invokevirtual 228, 3) := by decide +kernel
theorem dX7_often_8 : decode cX7_often 8 = .ok (.ifCond .eq 20, 3) := by decide +kernel
theorem dX7_often_11 : decode cX7_often 11 = .ok (.iload_n 2, 1) := by decide +kernel
theorem dX7_often_12 : decode cX7_often 12 = .ok (.invokestatic 218, 3) := by decide +kernel
theorem dX7_often_15 : decode cX7_often 15 = .ok (.ifCond .eq 13, 3) := by decide +kernel
theorem dX7_often_18 : decode cX7_often 18 = .ok (.iload_n 3, 1) := by decide +kernel
theorem dX7_often_19 : decode cX7_often 19 = .ok (.iconst 0, 1) := by decide +kernel
theorem dX7_often_20 : decode cX7_often 20 = .ok (.bipush 16, 2) := by decide +kernel
theorem dX7_often_22 : decode cX7_often 22 = .ok (.invokestatic 77, 3) := by decide +kernel
theorem dX7_often_25 : decode cX7_often 25 = .ok (.ifCond .ne 5, 3) := by decide +kernel
theorem dX7_often_28 : decode cX7_often 28 = .ok (.iconst (-1), 1) := by decide +kernel
theorem dX7_often_29 : decode cX7_often 29 = .ok (.ireturn, 1) := by decide +kernel
theorem dX7_often_30 : decode cX7_often 30 = .ok (.aload_n 0, 1) := by decide +kernel
theorem dX7_often_31 : decode cX7_often 31 = .ok (.getfield 31, 3) := by decide +kernel
theorem dX7_often_34 : decode cX7_often 34 = .ok (.iload_n 1, 1) := by decide +kernel
theorem dX7_often_35 : decode cX7_often 35 = .ok (.invokevirtual 229, 3) := by decide +kernel
theorem dX7_often_38 : decode cX7_often 38 = .ok (.ifCond .eq 6, 3) := by decide +kernel
theorem dX7_often_41 : decode cX7_often 41 = .ok (.bipush (-4), 2) := by decide +kernel
theorem dX7_often_43 : decode cX7_often 43 = .ok (.ireturn, 1) := by decide +kernel
theorem dX7_often_44 : decode cX7_often 44 = .ok (.aload_n 0, 1) := by decide +kernel
theorem dX7_often_45 : decode cX7_often 45 = .ok (.getfield 31, 3) := by decide +kernel
theorem dX7_often_48 : decode cX7_often 48 = .ok (.iload_n 1, 1) := by decide +kernel
theorem dX7_often_49 : decode cX7_often 49 = .ok (.iload_n 2, 1) := by decide +kernel
theorem dX7_often_50 : decode cX7_often 50 = .ok (.iload_n 3, 1) := by decide +kernel
theorem dX7_often_51 : decode cX7_often 51 = .ok (.invokevirtual 232, 3) := by decide +kernel
theorem dX7_often_54 : decode cX7_often 54 = .ok (.ireturn, 1) := by decide +kernel
set_option maxRecDepth 20000 in
theorem ggX7_done_X2_has : GoodIn wsX7_done wsX2_has := goodIn_r _ [6, 7, 38, 39, 40, 41, 42, 43, 44, 45, 46, 47] (by decide +kernel) (by decide +kernel)
set_option maxRecDepth 20000 in
theorem gX7_done_X2_has : GoodIn wsX7_done (wsV RX7 228 RX2 yX2_has wsX2_has) := goodIn_app (goodIn_of _ (by decide +kernel)) ggX7_done_X2_has
set_option maxRecDepth 20000 in
theorem ggX7_done_X2_isDone : GoodIn wsX7_done wsX2_isDone := goodIn_r _ [11, 12, 38, 39, 40, 41, 42, 43, 44, 45, 46, 47] (by decide +kernel) (by decide +kernel)
set_option maxRecDepth 20000 in
theorem gX7_done_X2_isDone : GoodIn wsX7_done (wsV RX7 229 RX2 yX2_isDone wsX2_isDone) := goodIn_app (goodIn_of _ (by decide +kernel)) ggX7_done_X2_isDone
set_option maxRecDepth 20000 in
theorem ggX7_done_X2_finish : GoodIn wsX7_done wsX2_finish := goodIn_r _ [16, 17, 12, 18, 19, 20, 21, 22, 23, 5, 24, 38, 39, 40, 41, 42, 43, 44, 45, 46, 47] (by decide +kernel) (by decide +kernel)
set_option maxRecDepth 20000 in
theorem gX7_done_X2_finish : GoodIn wsX7_done (wsV RX7 235 RX2 yX2_finish wsX2_finish) := goodIn_app (goodIn_of _ (by decide +kernel)) ggX7_done_X2_finish
theorem dX7_done_0 : decode cX7_done 0 = .ok (.aload_n 0, 1) := by decide +kernel
theorem dX7_done_1 : decode cX7_done 1 = .ok (.getfield 31, 3) := by decide +kernel
theorem dX7_done_4 : decode cX7_done 4 = .ok (.iload_n 1, 1) := by decide +kernel
theorem dX7_done_5 : decode cX7_done 5 = .ok (.invokevirtual 228, 3) := by decide +kernel
theorem dX7_done_8 : decode cX7_done 8 = .ok (.ifCond .ne 5, 3) := by decide +kernel
theorem dX7_done_11 : decode cX7_done 11 = .ok (.iconst (-1), 1) := by decide +kernel
theorem dX7_done_12 : decode cX7_done 12 = .ok (.ireturn, 1) := by decide +kernel
theorem dX7_done_13 : decode cX7_done 13 = .ok (.aload_n 0, 1) := by decide +kernel
theorem dX7_done_14 : decode cX7_done 14 = .ok (.getfield 31, 3) := by decide +kernel
theorem dX7_done_17 : decode cX7_done 17 = .ok (.iload_n 1, 1) := by decide +kernel
theorem dX7_done_18 : decode cX7_done 18 = .ok (.invokevirtual 229, 3) := by decide +kernel
theorem dX7_done_21 : decode cX7_done 21 = .ok (.ifCond .eq 6, 3) := by decide +kernel
theorem dX7_done_24 : decode cX7_done 24 = .ok (.bipush (-4), 2) := by decide +kernel
theorem dX7_done_26 : decode cX7_done 26 = .ok (.ireturn, 1) := by decide +kernel
theorem dX7_done_27 : decode cX7_done 27 = .ok (.aload_n 0, 1) := by decide +kernel
theorem dX7_done_28 : decode cX7_done 28 = .ok (.getfield 31, 3) := by decide +kernel
theorem dX7_done_31 : decode cX7_done 31 = .ok (.iload_n 1, 1) := by decide +kernel
theorem dX7_done_32 : decode cX7_done 32 = .ok (.iload_n 2, 1) := by decide +kernel
theorem dX7_done_33 : decode cX7_done 33 = .ok (.invokevirtual 235, 3) := by decide +kernel
theorem dX7_done_36 : decode cX7_done 36 = .ok (.ifCond .eq 7, 3) := by decide +kernel
theorem dX7_done_39 : decode cX7_done 39 = .ok (.iconst 1, 1) := by decide +kernel
theorem dX7_done_40 : decode cX7_done 40 = .ok (.goto 4, 3) := by decide +kernel
theorem dX7_done_43 : decode cX7_done 43 = .ok (.iconst 0, 1) := by decide +kernel
theorem dX7_done_44 : decode cX7_done 44 = .ok (.ireturn, 1) := by decide +kernel
set_option maxRecDepth 20000 in
theorem ggX7_chance_X7_isHand : GoodIn wsX7_chance wsX7_isHand := goodIn_r _ [5, 6, 7, 4, 8] (by decide +kernel) (by decide +kernel)
set_option maxRecDepth 20000 in
theorem gX7_chance_X7_isHand : GoodIn wsX7_chance (va_wsS RX7 218 yX7_isHand wsX7_isHand) := goodIn_app (goodIn_of _ (by decide +kernel)) ggX7_chance_X7_isHand
set_option maxRecDepth 20000 in
theorem ggX7_chance_X2_scoreOfAll : GoodIn wsX7_chance wsX2_scoreOfAll := goodIn_r _ [13, 14, 15, 16, 12, 17, 18, 19, 20, 21, 22, 56, 57, 58, 59, 60, 61, 62, 63, 64, 65] (by decide +kernel) (by decide +kernel)
set_option maxRecDepth 20000 in
theorem gX7_chance_X2_scoreOfAll : GoodIn wsX7_chance (wsV RX7 239 RX2 yX2_scoreOfAll wsX2_scoreOfAll) := goodIn_app (goodIn_of _ (by decide +kernel)) ggX7_chance_X2_scoreOfAll
set_option maxRecDepth 20000 in
theorem ggX7_chance_X7_refuse : GoodIn wsX7_chance wsX7_refuse := goodIn_r _ [26, 27, 28, 43, 44, 45, 46, 47, 48, 49, 50, 51, 52, 53, 54, 55] (by decide +kernel) (by decide +kernel)
set_option maxRecDepth 20000 in
theorem gX7_chance_X7_refuse : GoodIn wsX7_chance (wsV RX7 85 RX7 yX7_refuse wsX7_refuse) := goodIn_app (goodIn_of _ (by decide +kernel)) ggX7_chance_X7_refuse
set_option maxRecDepth 20000 in
theorem ggX7_chance_X2_score : GoodIn wsX7_chance wsX2_score := goodIn_r _ [17, 18, 19, 20, 21, 22, 56, 57, 58, 59, 60, 61, 62, 63, 64, 65] (by decide +kernel) (by decide +kernel)
set_option maxRecDepth 20000 in
theorem gX7_chance_X2_score : GoodIn wsX7_chance (wsV RX7 243 RX2 yX2_score wsX2_score) := goodIn_app (goodIn_of _ (by decide +kernel)) ggX7_chance_X2_score
set_option maxRecDepth 20000 in
theorem ggX7_chance_X7_tellFraction : GoodIn wsX7_chance wsX7_tellFraction := goodIn_r _ [33, 34, 35, 36, 37, 38, 39, 40, 41, 4, 42, 43, 44, 45, 46, 47, 48, 49, 50, 51, 52, 53, 54, 55] (by decide +kernel) (by decide +kernel)
set_option maxRecDepth 20000 in
theorem gX7_chance_X7_tellFraction : GoodIn wsX7_chance (wsV RX7 247 RX7 yX7_tellFraction wsX7_tellFraction) := goodIn_app (goodIn_of _ (by decide +kernel)) ggX7_chance_X7_tellFraction
theorem dX7_chance_0 : decode cX7_chance 0 = .ok (.iload_n 1, 1) := by decide +kernel
theorem dX7_chance_1 : decode cX7_chance 1 = .ok (.invokestatic 218, 3) := by decide +kernel
theorem dX7_chance_4 : decode cX7_chance 4 = .ok (.ifCond .ne 5, 3) := by decide +kernel
theorem dX7_chance_7 : decode cX7_chance 7 = .ok (.iconst (-1), 1) := by decide +kernel
theorem dX7_chance_8 : decode cX7_chance 8 = .ok (.ireturn, 1) := by decide +kernel
theorem dX7_chance_9 : decode cX7_chance 9 = .ok (.aload_n 0, 1) := by decide +kernel
theorem dX7_chance_10 : decode cX7_chance 10 = .ok (.getfield 31, 3) := by decide +kernel
theorem dX7_chance_13 : decode cX7_chance 13 = .ok (.invokevirtual 239, 3) := by decide +kernel
theorem dX7_chance_16 : decode cX7_chance 16 = .ok (.lstore_n 2, 1) := by decide +kernel
theorem dX7_chance_17 : decode cX7_chance 17 = .ok (.lload_n 2, 1) := by decide +kernel
theorem dX7_chance_18 : decode cX7_chance 18 = .ok (.lconst 0, 1) := by decide +kernel
theorem dX7_chance_19 : decode cX7_chance 19 = .ok (.lcmp, 1) := by decide +kernel
theorem dX7_chance_20 : decode cX7_chance 20 = .ok (.ifCond .ne 9, 3) := by decide +kernel
theorem dX7_chance_23 : decode cX7_chance 23 = .ok (.aload_n 0, 1) := by decide +kernel
theorem dX7_chance_24 : decode cX7_chance 24 = .ok (.iconst 4, 1) := by decide +kernel
theorem dX7_chance_25 : decode cX7_chance 25 = .ok (.invokevirtual 85, 3) := by decide +kernel
theorem dX7_chance_28 : decode cX7_chance 28 = .ok (.ireturn, 1) := by decide +kernel
theorem dX7_chance_29 : decode cX7_chance 29 = .ok (.aload_n 0, 1) := by decide +kernel
theorem dX7_chance_30 : decode cX7_chance 30 = .ok (.aload_n 0, 1) := by decide +kernel
theorem dX7_chance_31 : decode cX7_chance 31 = .ok (.getfield 31, 3) := by decide +kernel
theorem dX7_chance_34 : decode cX7_chance 34 = .ok (.iload_n 1, 1) := by decide +kernel
theorem dX7_chance_35 : decode cX7_chance 35 = .ok (.invokevirtual 243, 3) := by decide +kernel
theorem dX7_chance_38 : decode cX7_chance 38 = .ok (.lload_n 2, 1) := by decide +kernel
theorem dX7_chance_39 : decode cX7_chance 39 = .ok (.invokevirtual 247, 3) := by decide +kernel
theorem dX7_chance_42 : decode cX7_chance 42 = .ok (.iconst 1, 1) := by decide +kernel
theorem dX7_chance_43 : decode cX7_chance 43 = .ok (.ireturn, 1) := by decide +kernel
set_option maxRecDepth 20000 in
theorem ggX7_likely_X2_scoreOfAll : GoodIn wsX7_likely wsX2_scoreOfAll := goodIn_r _ [6, 7, 8, 9, 5, 10, 11, 12, 13, 14, 15, 40, 41, 42, 43, 44, 45, 46, 47, 48, 49] (by decide +kernel) (by decide +kernel)
set_option maxRecDepth 20000 in
theorem gX7_likely_X2_scoreOfAll : GoodIn wsX7_likely (wsV RX7 239 RX2 yX2_scoreOfAll wsX2_scoreOfAll) := goodIn_app (goodIn_of _ (by decide +kernel)) ggX7_likely_X2_scoreOfAll
set_option maxRecDepth 20000 in
theorem ggX7_likely_X7_refuse : GoodIn wsX7_likely wsX7_refuse := goodIn_r _ [20, 21, 22, 27, 28, 29, 30, 31, 32, 33, 34, 35, 36, 37, 38, 39] (by decide +kernel) (by decide +kernel)
set_option maxRecDepth 20000 in
theorem gX7_likely_X7_refuse : GoodIn wsX7_likely (wsV RX7 85 RX7 yX7_refuse wsX7_refuse) := goodIn_app (goodIn_of _ (by decide +kernel)) ggX7_likely_X7_refuse
set_option maxRecDepth 20000 in
theorem ggX7_likely_X2_likeliest : GoodIn wsX7_likely wsX2_likeliest := goodIn_r _ [26, 7, 8, 9, 5, 10, 11, 12, 13, 14, 15, 40, 41, 42, 43, 44, 45, 46, 47, 48, 49] (by decide +kernel) (by decide +kernel)
set_option maxRecDepth 20000 in
theorem gX7_likely_X2_likeliest : GoodIn wsX7_likely (wsV RX7 251 RX2 yX2_likeliest wsX2_likeliest) := goodIn_app (goodIn_of _ (by decide +kernel)) ggX7_likely_X2_likeliest
theorem dX7_likely_0 : decode cX7_likely 0 = .ok (.aload_n 0, 1) := by decide +kernel
theorem dX7_likely_1 : decode cX7_likely 1 = .ok (.getfield 31, 3) := by decide +kernel
theorem dX7_likely_4 : decode cX7_likely 4 = .ok (.invokevirtual 239, 3) := by decide +kernel
theorem dX7_likely_7 : decode cX7_likely 7 = .ok (.lconst 0, 1) := by decide +kernel
theorem dX7_likely_8 : decode cX7_likely 8 = .ok (.lcmp, 1) := by decide +kernel
theorem dX7_likely_9 : decode cX7_likely 9 = .ok (.ifCond .ne 9, 3) := by decide +kernel
theorem dX7_likely_12 : decode cX7_likely 12 = .ok (.aload_n 0, 1) := by decide +kernel
theorem dX7_likely_13 : decode cX7_likely 13 = .ok (.iconst 4, 1) := by decide +kernel
theorem dX7_likely_14 : decode cX7_likely 14 = .ok (.invokevirtual 85, 3) := by decide +kernel
theorem dX7_likely_17 : decode cX7_likely 17 = .ok (.ireturn, 1) := by decide +kernel
theorem dX7_likely_18 : decode cX7_likely 18 = .ok (.aload_n 0, 1) := by decide +kernel
theorem dX7_likely_19 : decode cX7_likely 19 = .ok (.getfield 31, 3) := by decide +kernel
theorem dX7_likely_22 : decode cX7_likely 22 = .ok (.invokevirtual 251, 3) := by decide +kernel
theorem dX7_likely_25 : decode cX7_likely 25 = .ok (.ireturn, 1) := by decide +kernel
set_option maxRecDepth 20000 in
theorem ggX7_gain_X2_has : GoodIn wsX7_gain wsX2_has := goodIn_r _ [7, 8, 74, 75, 76, 77, 78, 79, 80, 81, 82, 83] (by decide +kernel) (by decide +kernel)
set_option maxRecDepth 20000 in
theorem gX7_gain_X2_has : GoodIn wsX7_gain (wsV RX7 228 RX2 yX2_has wsX2_has) := goodIn_app (goodIn_of _ (by decide +kernel)) ggX7_gain_X2_has
set_option maxRecDepth 20000 in
theorem ggX7_gain_X2_isOpen : GoodIn wsX7_gain wsX2_isOpen := goodIn_r _ [12, 13, 14, 15, 6, 16, 17, 18, 19, 20, 21, 22, 23, 74, 75, 76, 77, 78, 79, 80, 81, 82, 83] (by decide +kernel) (by decide +kernel)
set_option maxRecDepth 20000 in
theorem gX7_gain_X2_isOpen : GoodIn wsX7_gain (wsV RX7 254 RX2 yX2_isOpen wsX2_isOpen) := goodIn_app (goodIn_of _ (by decide +kernel)) ggX7_gain_X2_isOpen
set_option maxRecDepth 20000 in
theorem ggX7_gain_X2_scoreOfAll : GoodIn wsX7_gain wsX2_scoreOfAll := goodIn_r _ [27, 28, 29, 30, 6, 31, 32, 8, 33, 34, 17, 74, 75, 76, 77, 78, 79, 80, 81, 82, 83] (by decide +kernel) (by decide +kernel)
set_option maxRecDepth 20000 in
theorem gX7_gain_X2_scoreOfAll : GoodIn wsX7_gain (wsV RX7 239 RX2 yX2_scoreOfAll wsX2_scoreOfAll) := goodIn_app (goodIn_of _ (by decide +kernel)) ggX7_gain_X2_scoreOfAll
set_option maxRecDepth 20000 in
theorem ggX7_gain_X7_refuse : GoodIn wsX7_gain wsX7_refuse := goodIn_r _ [39, 40, 41, 61, 62, 63, 64, 65, 66, 67, 68, 69, 70, 71, 72, 73] (by decide +kernel) (by decide +kernel)
set_option maxRecDepth 20000 in
theorem gX7_gain_X7_refuse : GoodIn wsX7_gain (wsV RX7 85 RX7 yX7_refuse wsX7_refuse) := goodIn_app (goodIn_of _ (by decide +kernel)) ggX7_gain_X7_refuse
set_option maxRecDepth 20000 in
theorem ggX7_gain_X2_gainOf : GoodIn wsX7_gain wsX2_gainOf := goodIn_r _ [45, 34, 46, 47, 48, 49, 50, 28, 29, 30, 6, 31, 32, 8, 33, 17, 74, 75, 76, 77, 78, 79, 80, 81, 82, 83] (by decide +kernel) (by decide +kernel)
set_option maxRecDepth 20000 in
theorem gX7_gain_X2_gainOf : GoodIn wsX7_gain (wsV RX7 257 RX2 yX2_gainOf wsX2_gainOf) := goodIn_app (goodIn_of _ (by decide +kernel)) ggX7_gain_X2_gainOf
set_option maxRecDepth 20000 in
theorem ggX7_gain_X7_tellFraction : GoodIn wsX7_gain wsX7_tellFraction := goodIn_r _ [54, 55, 47, 48, 49, 56, 57, 58, 59, 38, 60, 61, 62, 63, 64, 65, 66, 67, 68, 69, 70, 71, 72, 73] (by decide +kernel) (by decide +kernel)
set_option maxRecDepth 20000 in
theorem gX7_gain_X7_tellFraction : GoodIn wsX7_gain (wsV RX7 247 RX7 yX7_tellFraction wsX7_tellFraction) := goodIn_app (goodIn_of _ (by decide +kernel)) ggX7_gain_X7_tellFraction
theorem dX7_gain_0 : decode cX7_gain 0 = .ok (.aload_n 0, 1) := by decide +kernel
theorem dX7_gain_1 : decode cX7_gain 1 = .ok (.getfield 31, 3) := by decide +kernel
theorem dX7_gain_4 : decode cX7_gain 4 = .ok (.iload_n 1, 1) := by decide +kernel
theorem dX7_gain_5 : decode cX7_gain 5 = .ok (.invokevirtual 228, 3) := by decide +kernel
theorem dX7_gain_8 : decode cX7_gain 8 = .ok (.ifCond .ne 5, 3) := by decide +kernel
theorem dX7_gain_11 : decode cX7_gain 11 = .ok (.iconst (-1), 1) := by decide +kernel
theorem dX7_gain_12 : decode cX7_gain 12 = .ok (.ireturn, 1) := by decide +kernel
theorem dX7_gain_13 : decode cX7_gain 13 = .ok (.aload_n 0, 1) := by decide +kernel
theorem dX7_gain_14 : decode cX7_gain 14 = .ok (.getfield 31, 3) := by decide +kernel
theorem dX7_gain_17 : decode cX7_gain 17 = .ok (.iload_n 1, 1) := by decide +kernel
theorem dX7_gain_18 : decode cX7_gain 18 = .ok (.invokevirtual 254, 3) := by decide +kernel
theorem dX7_gain_21 : decode cX7_gain 21 = .ok (.ifCond .ne 6, 3) := by decide +kernel
theorem dX7_gain_24 : decode cX7_gain 24 = .ok (.bipush (-4), 2) := by decide +kernel
theorem dX7_gain_26 : decode cX7_gain 26 = .ok (.ireturn, 1) := by decide +kernel
theorem dX7_gain_27 : decode cX7_gain 27 = .ok (.aload_n 0, 1) := by decide +kernel
theorem dX7_gain_28 : decode cX7_gain 28 = .ok (.getfield 31, 3) := by decide +kernel
theorem dX7_gain_31 : decode cX7_gain 31 = .ok (.invokevirtual 239, 3) := by decide +kernel
theorem dX7_gain_34 : decode cX7_gain 34 = .ok (.lstore_n 2, 1) := by decide +kernel
theorem dX7_gain_35 : decode cX7_gain 35 = .ok (.lload_n 2, 1) := by decide +kernel
theorem dX7_gain_36 : decode cX7_gain 36 = .ok (.lconst 0, 1) := by decide +kernel
theorem dX7_gain_37 : decode cX7_gain 37 = .ok (.lcmp, 1) := by decide +kernel
theorem dX7_gain_38 : decode cX7_gain 38 = .ok (.ifCond .ne 9, 3) := by decide +kernel
theorem dX7_gain_41 : decode cX7_gain 41 = .ok (.aload_n 0, 1) := by decide +kernel
theorem dX7_gain_42 : decode cX7_gain 42 = .ok (.iconst 4, 1) := by decide +kernel
theorem dX7_gain_43 : decode cX7_gain 43 = .ok (.invokevirtual 85, 3) := by decide +kernel
theorem dX7_gain_46 : decode cX7_gain 46 = .ok (.ireturn, 1) := by decide +kernel
theorem dX7_gain_47 : decode cX7_gain 47 = .ok (.aload_n 0, 1) := by decide +kernel
theorem dX7_gain_48 : decode cX7_gain 48 = .ok (.aload_n 0, 1) := by decide +kernel
theorem dX7_gain_49 : decode cX7_gain 49 = .ok (.getfield 31, 3) := by decide +kernel
theorem dX7_gain_52 : decode cX7_gain 52 = .ok (.iload_n 1, 1) := by decide +kernel
theorem dX7_gain_53 : decode cX7_gain 53 = .ok (.invokevirtual 257, 3) := by decide +kernel
theorem dX7_gain_56 : decode cX7_gain 56 = .ok (.ldc2_w 260, 3) := by decide +kernel
theorem dX7_gain_59 : decode cX7_gain 59 = .ok (.lload_n 2, 1) := by decide +kernel
theorem dX7_gain_60 : decode cX7_gain 60 = .ok (.lmul, 1) := by decide +kernel
theorem dX7_gain_61 : decode cX7_gain 61 = .ok (.invokevirtual 247, 3) := by decide +kernel
theorem dX7_gain_64 : decode cX7_gain 64 = .ok (.iconst 1, 1) := by decide +kernel
theorem dX7_gain_65 : decode cX7_gain 65 = .ok (.ireturn, 1) := by decide +kernel
set_option maxRecDepth 20000 in
theorem ggX7_next_X2_scoreOfAll : GoodIn wsX7_next wsX2_scoreOfAll := goodIn_r _ [6, 7, 8, 9, 5, 10, 11, 12, 13, 14, 15, 65, 66, 67, 68, 69, 70, 71, 72, 73, 74] (by decide +kernel) (by decide +kernel)
set_option maxRecDepth 20000 in
theorem gX7_next_X2_scoreOfAll : GoodIn wsX7_next (wsV RX7 239 RX2 yX2_scoreOfAll wsX2_scoreOfAll) := goodIn_app (goodIn_of _ (by decide +kernel)) ggX7_next_X2_scoreOfAll
set_option maxRecDepth 20000 in
theorem ggX7_next_X7_refuse : GoodIn wsX7_next wsX7_refuse := goodIn_r _ [20, 21, 22, 52, 53, 54, 55, 56, 57, 58, 59, 60, 61, 62, 63, 64] (by decide +kernel) (by decide +kernel)
set_option maxRecDepth 20000 in
theorem gX7_next_X7_refuse : GoodIn wsX7_next (wsV RX7 85 RX7 yX7_refuse wsX7_refuse) := goodIn_app (goodIn_of _ (by decide +kernel)) ggX7_next_X7_refuse
set_option maxRecDepth 20000 in
theorem ggX7_next_X2_best : GoodIn wsX7_next wsX2_best := goodIn_r _ [26, 12, 27, 28, 29, 30, 31, 5, 32, 33, 34, 35, 36, 15, 37, 38, 39, 40, 41, 42, 43, 44, 45, 46, 14, 47, 48, 49, 50, 51, 7, 8, 9, 10, 11, 13, 65, 66, 67, 68, 69, 70, 71, 72, 73, 74] (by decide +kernel) (by decide +kernel)
set_option maxRecDepth 20000 in
theorem gX7_next_X2_best : GoodIn wsX7_next (wsV RX7 262 RX2 yX2_best wsX2_best) := goodIn_app (goodIn_of _ (by decide +kernel)) ggX7_next_X2_best
theorem dX7_next_0 : decode cX7_next 0 = .ok (.iload_n 1, 1) := by decide +kernel
theorem dX7_next_1 : decode cX7_next 1 = .ok (.ifCond .lt 7, 3) := by decide +kernel
theorem dX7_next_4 : decode cX7_next 4 = .ok (.iload_n 2, 1) := by decide +kernel
theorem dX7_next_5 : decode cX7_next 5 = .ok (.ifCond .ge 5, 3) := by decide +kernel
theorem dX7_next_8 : decode cX7_next 8 = .ok (.iconst (-1), 1) := by decide +kernel
theorem dX7_next_9 : decode cX7_next 9 = .ok (.ireturn, 1) := by decide +kernel
theorem dX7_next_10 : decode cX7_next 10 = .ok (.aload_n 0, 1) := by decide +kernel
theorem dX7_next_11 : decode cX7_next 11 = .ok (.getfield 31, 3) := by decide +kernel
theorem dX7_next_14 : decode cX7_next 14 = .ok (.invokevirtual 239, 3) := by decide +kernel
theorem dX7_next_17 : decode cX7_next 17 = .ok (.lconst 0, 1) := by decide +kernel
theorem dX7_next_18 : decode cX7_next 18 = .ok (.lcmp, 1) := by decide +kernel
theorem dX7_next_19 : decode cX7_next 19 = .ok (.ifCond .ne 9, 3) := by decide +kernel
theorem dX7_next_22 : decode cX7_next 22 = .ok (.aload_n 0, 1) := by decide +kernel
theorem dX7_next_23 : decode cX7_next 23 = .ok (.iconst 4, 1) := by decide +kernel
theorem dX7_next_24 : decode cX7_next 24 = .ok (.invokevirtual 85, 3) := by decide +kernel
theorem dX7_next_27 : decode cX7_next 27 = .ok (.ireturn, 1) := by decide +kernel
theorem dX7_next_28 : decode cX7_next 28 = .ok (.aload_n 0, 1) := by decide +kernel
theorem dX7_next_29 : decode cX7_next 29 = .ok (.getfield 31, 3) := by decide +kernel
theorem dX7_next_32 : decode cX7_next 32 = .ok (.iload_n 1, 1) := by decide +kernel
theorem dX7_next_33 : decode cX7_next 33 = .ok (.iload_n 2, 1) := by decide +kernel
theorem dX7_next_34 : decode cX7_next 34 = .ok (.invokevirtual 262, 3) := by decide +kernel
theorem dX7_next_37 : decode cX7_next 37 = .ok (.ireturn, 1) := by decide +kernel
set_option maxRecDepth 20000 in
theorem ggX7_owner_X7_areYears : GoodIn wsX7_owner wsX7_areYears := goodIn_r _ [5, 6, 7, 4, 8, 9, 10, 11] (by decide +kernel) (by decide +kernel)
set_option maxRecDepth 20000 in
theorem gX7_owner_X7_areYears : GoodIn wsX7_owner (va_wsS RX7 141 yX7_areYears wsX7_areYears) := goodIn_app (goodIn_of _ (by decide +kernel)) ggX7_owner_X7_areYears
set_option maxRecDepth 20000 in
theorem ggX7_owner_X4_isFull : GoodIn wsX7_owner wsX4_isFull := goodIn_r _ [16, 17, 37, 38, 39, 40, 41] (by decide +kernel) (by decide +kernel)
set_option maxRecDepth 20000 in
theorem gX7_owner_X4_isFull : GoodIn wsX7_owner (wsV RX7 265 RX4 yX4_isFull wsX4_isFull) := goodIn_app (goodIn_of _ (by decide +kernel)) ggX7_owner_X4_isFull
set_option maxRecDepth 20000 in
theorem ggX7_owner_X4_add : GoodIn wsX7_owner wsX4_add := goodIn_r _ [21, 17, 22, 23, 37, 38, 39, 40, 41] (by decide +kernel) (by decide +kernel)
set_option maxRecDepth 20000 in
theorem gX7_owner_X4_add : GoodIn wsX7_owner (wsV RX7 266 RX4 yX4_add wsX4_add) := goodIn_app (goodIn_of _ (by decide +kernel)) ggX7_owner_X4_add
theorem dX7_owner_0 : decode cX7_owner 0 = .ok (.iload_n 1, 1) := by decide +kernel
theorem dX7_owner_1 : decode cX7_owner 1 = .ok (.iload_n 2, 1) := by decide +kernel
theorem dX7_owner_2 : decode cX7_owner 2 = .ok (.invokestatic 141, 3) := by decide +kernel
theorem dX7_owner_5 : decode cX7_owner 5 = .ok (.ifCond .ne 5, 3) := by decide +kernel
theorem dX7_owner_8 : decode cX7_owner 8 = .ok (.iconst (-1), 1) := by decide +kernel
theorem dX7_owner_9 : decode cX7_owner 9 = .ok (.ireturn, 1) := by decide +kernel
theorem dX7_owner_10 : decode cX7_owner 10 = .ok (.aload_n 0, 1) := by decide +kernel
theorem dX7_owner_11 : decode cX7_owner 11 = .ok (.getfield 38, 3) := by decide +kernel
theorem dX7_owner_14 : decode cX7_owner 14 = .ok (.invokevirtual 265, 3) := by decide +kernel
theorem dX7_owner_17 : decode cX7_owner 17 = .ok (.ifCond .eq 6, 3) := by decide +kernel
theorem dX7_owner_20 : decode cX7_owner 20 = .ok (.bipush (-2), 2) := by decide +kernel
theorem dX7_owner_22 : decode cX7_owner 22 = .ok (.ireturn, 1) := by decide +kernel
theorem dX7_owner_23 : decode cX7_owner 23 = .ok (.aload_n 0, 1) := by decide +kernel
theorem dX7_owner_24 : decode cX7_owner 24 = .ok (.getfield 38, 3) := by decide +kernel
theorem dX7_owner_27 : decode cX7_owner 27 = .ok (.iload_n 1, 1) := by decide +kernel
theorem dX7_owner_28 : decode cX7_owner 28 = .ok (.iload_n 2, 1) := by decide +kernel
theorem dX7_owner_29 : decode cX7_owner 29 = .ok (.invokevirtual 266, 3) := by decide +kernel
theorem dX7_owner_32 : decode cX7_owner 32 = .ok (.ireturn, 1) := by decide +kernel
set_option maxRecDepth 20000 in
theorem ggX7_gaps_X7_areYears : GoodIn wsX7_gaps wsX7_areYears := goodIn_r _ [8, 9, 10, 7, 11, 12, 13, 14] (by decide +kernel) (by decide +kernel)
set_option maxRecDepth 20000 in
theorem gX7_gaps_X7_areYears : GoodIn wsX7_gaps (va_wsS RX7 141 yX7_areYears wsX7_areYears) := goodIn_app (goodIn_of _ (by decide +kernel)) ggX7_gaps_X7_areYears
set_option maxRecDepth 20000 in
theorem ggX7_gaps_X4_findGaps : GoodIn wsX7_gaps wsX4_findGaps := goodIn_r _ [19, 20, 21, 22, 23, 24, 25, 26, 27, 28, 29, 30, 31, 32, 33, 34, 18, 35, 49, 50, 51, 52, 53] (by decide +kernel) (by decide +kernel)
set_option maxRecDepth 20000 in
theorem gX7_gaps_X4_findGaps : GoodIn wsX7_gaps (wsV RX7 268 RX4 yX4_findGaps wsX4_findGaps) := goodIn_app (goodIn_of _ (by decide +kernel)) ggX7_gaps_X4_findGaps
theorem dX7_gaps_0 : decode cX7_gaps 0 = .ok (.iload_n 1, 1) := by decide +kernel
theorem dX7_gaps_1 : decode cX7_gaps 1 = .ok (.iload_n 2, 1) := by decide +kernel
theorem dX7_gaps_2 : decode cX7_gaps 2 = .ok (.invokestatic 141, 3) := by decide +kernel
theorem dX7_gaps_5 : decode cX7_gaps 5 = .ok (.ifCond .ne 5, 3) := by decide +kernel
theorem dX7_gaps_8 : decode cX7_gaps 8 = .ok (.iconst (-1), 1) := by decide +kernel
theorem dX7_gaps_9 : decode cX7_gaps 9 = .ok (.ireturn, 1) := by decide +kernel
theorem dX7_gaps_10 : decode cX7_gaps 10 = .ok (.aload_n 0, 1) := by decide +kernel
theorem dX7_gaps_11 : decode cX7_gaps 11 = .ok (.getfield 38, 3) := by decide +kernel
theorem dX7_gaps_14 : decode cX7_gaps 14 = .ok (.iload_n 1, 1) := by decide +kernel
theorem dX7_gaps_15 : decode cX7_gaps 15 = .ok (.iload_n 2, 1) := by decide +kernel
theorem dX7_gaps_16 : decode cX7_gaps 16 = .ok (.invokevirtual 268, 3) := by decide +kernel
theorem dX7_gaps_19 : decode cX7_gaps 19 = .ok (.aload_n 0, 1) := by decide +kernel
theorem dX7_gaps_20 : decode cX7_gaps 20 = .ok (.aload_n 0, 1) := by decide +kernel
theorem dX7_gaps_21 : decode cX7_gaps 21 = .ok (.getfield 38, 3) := by decide +kernel
theorem dX7_gaps_24 : decode cX7_gaps 24 = .ok (.getfield 271, 3) := by decide +kernel
theorem dX7_gaps_27 : decode cX7_gaps 27 = .ok (.putfield 67, 3) := by decide +kernel
theorem dX7_gaps_30 : decode cX7_gaps 30 = .ok (.aload_n 0, 1) := by decide +kernel
theorem dX7_gaps_31 : decode cX7_gaps 31 = .ok (.getfield 38, 3) := by decide +kernel
theorem dX7_gaps_34 : decode cX7_gaps 34 = .ok (.getfield 274, 3) := by decide +kernel
theorem dX7_gaps_37 : decode cX7_gaps 37 = .ok (.ireturn, 1) := by decide +kernel
set_option maxRecDepth 20000 in
theorem ggX7_opinion_X7_isWithin : GoodIn wsX7_opinion wsX7_isWithin := goodIn_r _ [5] (by decide +kernel) (by decide +kernel)
set_option maxRecDepth 20000 in
theorem gX7_opinion_X7_isWithin : GoodIn wsX7_opinion (va_wsS RX7 77 yX7_isWithin wsX7_isWithin) := goodIn_app (goodIn_of _ (by decide +kernel)) ggX7_opinion_X7_isWithin
set_option maxRecDepth 20000 in
theorem ggX7_opinion_X7_isHand : GoodIn wsX7_opinion wsX7_isHand := goodIn_r _ [8, 2, 3, 4, 5] (by decide +kernel) (by decide +kernel)
set_option maxRecDepth 20000 in
theorem gX7_opinion_X7_isHand : GoodIn wsX7_opinion (va_wsS RX7 218 yX7_isHand wsX7_isHand) := goodIn_app (goodIn_of _ (by decide +kernel)) ggX7_opinion_X7_isHand
set_option maxRecDepth 20000 in
theorem ggX7_opinion_X3_isFull : GoodIn wsX7_opinion wsX3_isFull := goodIn_r _ [13, 14, 36, 37, 38, 39, 40, 41, 42] (by decide +kernel) (by decide +kernel)
set_option maxRecDepth 20000 in
theorem gX7_opinion_X3_isFull : GoodIn wsX7_opinion (wsV RX7 277 RX3 yX3_isFull wsX3_isFull) := goodIn_app (goodIn_of _ (by decide +kernel)) ggX7_opinion_X3_isFull
set_option maxRecDepth 20000 in
theorem ggX7_opinion_X3_add : GoodIn wsX7_opinion wsX3_add := goodIn_r _ [18, 19, 14, 20, 21, 22, 36, 37, 38, 39, 40, 41, 42] (by decide +kernel) (by decide +kernel)
set_option maxRecDepth 20000 in
theorem gX7_opinion_X3_add : GoodIn wsX7_opinion (wsV RX7 278 RX3 yX3_add wsX3_add) := goodIn_app (goodIn_of _ (by decide +kernel)) ggX7_opinion_X3_add
theorem dX7_opinion_0 : decode cX7_opinion 0 = .ok (.iload_n 1, 1) := by decide +kernel
theorem dX7_opinion_1 : decode cX7_opinion 1 = .ok (.iconst 0, 1) := by decide +kernel
theorem dX7_opinion_2 : decode cX7_opinion 2 = .ok (.bipush 9, 2) := by decide +kernel
theorem dX7_opinion_4 : decode cX7_opinion 4 = .ok (.invokestatic 77, 3) := by decide +kernel
theorem dX7_opinion_7 : decode cX7_opinion 7 = .ok (.ifCond .eq 20, 3) := by decide +kernel
theorem dX7_opinion_10 : decode cX7_opinion 10 = .ok (.iload_n 2, 1) := by decide +kernel
theorem dX7_opinion_11 : decode cX7_opinion 11 = .ok (.invokestatic 218, 3) := by decide +kernel
theorem dX7_opinion_14 : decode cX7_opinion 14 = .ok (.ifCond .eq 13, 3) := by decide +kernel
theorem dX7_opinion_17 : decode cX7_opinion 17 = .ok (.iload_n 3, 1) := by decide +kernel
theorem dX7_opinion_18 : decode cX7_opinion 18 = .ok (.iconst 0, 1) := by decide +kernel
theorem dX7_opinion_19 : decode cX7_opinion 19 = .ok (.bipush 100, 2) := by decide +kernel
theorem dX7_opinion_21 : decode cX7_opinion 21 = .ok (.invokestatic 77, 3) := by decide +kernel
theorem dX7_opinion_24 : decode cX7_opinion 24 = .ok (.ifCond .ne 5, 3) := by decide +kernel
theorem dX7_opinion_27 : decode cX7_opinion 27 = .ok (.iconst (-1), 1) := by decide +kernel
theorem dX7_opinion_28 : decode cX7_opinion 28 = .ok (.ireturn, 1) := by decide +kernel
theorem dX7_opinion_29 : decode cX7_opinion 29 = .ok (.aload_n 0, 1) := by decide +kernel
theorem dX7_opinion_30 : decode cX7_opinion 30 = .ok (.getfield 45, 3) := by decide +kernel
theorem dX7_opinion_33 : decode cX7_opinion 33 = .ok (.invokevirtual 277, 3) := by decide +kernel
theorem dX7_opinion_36 : decode cX7_opinion 36 = .ok (.ifCond .eq 6, 3) := by decide +kernel
theorem dX7_opinion_39 : decode cX7_opinion 39 = .ok (.bipush (-2), 2) := by decide +kernel
theorem dX7_opinion_41 : decode cX7_opinion 41 = .ok (.ireturn, 1) := by decide +kernel
theorem dX7_opinion_42 : decode cX7_opinion 42 = .ok (.aload_n 0, 1) := by decide +kernel
theorem dX7_opinion_43 : decode cX7_opinion 43 = .ok (.getfield 45, 3) := by decide +kernel
theorem dX7_opinion_46 : decode cX7_opinion 46 = .ok (.iload_n 1, 1) := by decide +kernel
theorem dX7_opinion_47 : decode cX7_opinion 47 = .ok (.iload_n 2, 1) := by decide +kernel
theorem dX7_opinion_48 : decode cX7_opinion 48 = .ok (.iload_n 3, 1) := by decide +kernel
theorem dX7_opinion_49 : decode cX7_opinion 49 = .ok (.iload 4, 2) := by decide +kernel
theorem dX7_opinion_51 : decode cX7_opinion 51 = .ok (.invokevirtual 278, 3) := by decide +kernel
theorem dX7_opinion_54 : decode cX7_opinion 54 = .ok (.ireturn, 1) := by decide +kernel
set_option maxRecDepth 20000 in
theorem ggX7_mean_X7_isHand : GoodIn wsX7_mean wsX7_isHand := goodIn_r _ [5, 6, 7, 4, 8] (by decide +kernel) (by decide +kernel)
set_option maxRecDepth 20000 in
theorem gX7_mean_X7_isHand : GoodIn wsX7_mean (va_wsS RX7 218 yX7_isHand wsX7_isHand) := goodIn_app (goodIn_of _ (by decide +kernel)) ggX7_mean_X7_isHand
set_option maxRecDepth 20000 in
theorem ggX7_mean_X3_howMany : GoodIn wsX7_mean wsX3_howMany := goodIn_r _ [13, 14, 15, 16, 41, 42, 43, 44, 45, 46, 47] (by decide +kernel) (by decide +kernel)
set_option maxRecDepth 20000 in
theorem gX7_mean_X3_howMany : GoodIn wsX7_mean (wsV RX7 281 RX3 yX3_howMany wsX3_howMany) := goodIn_app (goodIn_of _ (by decide +kernel)) ggX7_mean_X3_howMany
set_option maxRecDepth 20000 in
theorem ggX7_mean_X7_refuse : GoodIn wsX7_mean wsX7_refuse := goodIn_r _ [20, 21, 22, 28, 29, 30, 31, 32, 33, 34, 35, 36, 37, 38, 39, 40] (by decide +kernel) (by decide +kernel)
set_option maxRecDepth 20000 in
theorem gX7_mean_X7_refuse : GoodIn wsX7_mean (wsV RX7 85 RX7 yX7_refuse wsX7_refuse) := goodIn_app (goodIn_of _ (by decide +kernel)) ggX7_mean_X7_refuse
set_option maxRecDepth 20000 in
theorem ggX7_mean_X3_sumOf : GoodIn wsX7_mean wsX3_sumOf := goodIn_r _ [26, 14, 15, 16, 27, 41, 42, 43, 44, 45, 46, 47] (by decide +kernel) (by decide +kernel)
set_option maxRecDepth 20000 in
theorem gX7_mean_X3_sumOf : GoodIn wsX7_mean (wsV RX7 285 RX3 yX3_sumOf wsX3_sumOf) := goodIn_app (goodIn_of _ (by decide +kernel)) ggX7_mean_X3_sumOf
theorem dX7_mean_0 : decode cX7_mean 0 = .ok (.iload_n 1, 1) := by decide +kernel
theorem dX7_mean_1 : decode cX7_mean 1 = .ok (.invokestatic 218, 3) := by decide +kernel
theorem dX7_mean_4 : decode cX7_mean 4 = .ok (.ifCond .ne 5, 3) := by decide +kernel
theorem dX7_mean_7 : decode cX7_mean 7 = .ok (.iconst (-1), 1) := by decide +kernel
theorem dX7_mean_8 : decode cX7_mean 8 = .ok (.ireturn, 1) := by decide +kernel
theorem dX7_mean_9 : decode cX7_mean 9 = .ok (.aload_n 0, 1) := by decide +kernel
theorem dX7_mean_10 : decode cX7_mean 10 = .ok (.getfield 45, 3) := by decide +kernel
theorem dX7_mean_13 : decode cX7_mean 13 = .ok (.iload_n 1, 1) := by decide +kernel
theorem dX7_mean_14 : decode cX7_mean 14 = .ok (.iload_n 2, 1) := by decide +kernel
theorem dX7_mean_15 : decode cX7_mean 15 = .ok (.invokevirtual 281, 3) := by decide +kernel
theorem dX7_mean_18 : decode cX7_mean 18 = .ok (.istore_n 3, 1) := by decide +kernel
theorem dX7_mean_19 : decode cX7_mean 19 = .ok (.iload_n 3, 1) := by decide +kernel
theorem dX7_mean_20 : decode cX7_mean 20 = .ok (.ifCond .ne 9, 3) := by decide +kernel
theorem dX7_mean_23 : decode cX7_mean 23 = .ok (.aload_n 0, 1) := by decide +kernel
theorem dX7_mean_24 : decode cX7_mean 24 = .ok (.iconst 4, 1) := by decide +kernel
theorem dX7_mean_25 : decode cX7_mean 25 = .ok (.invokevirtual 85, 3) := by decide +kernel
theorem dX7_mean_28 : decode cX7_mean 28 = .ok (.ireturn, 1) := by decide +kernel
theorem dX7_mean_29 : decode cX7_mean 29 = .ok (.aload_n 0, 1) := by decide +kernel
theorem dX7_mean_30 : decode cX7_mean 30 = .ok (.getfield 45, 3) := by decide +kernel
theorem dX7_mean_33 : decode cX7_mean 33 = .ok (.iload_n 1, 1) := by decide +kernel
theorem dX7_mean_34 : decode cX7_mean 34 = .ok (.iload_n 2, 1) := by decide +kernel
theorem dX7_mean_35 : decode cX7_mean 35 = .ok (.invokevirtual 285, 3) := by decide +kernel
theorem dX7_mean_38 : decode cX7_mean 38 = .ok (.iload_n 3, 1) := by decide +kernel
theorem dX7_mean_39 : decode cX7_mean 39 = .ok (.idiv, 1) := by decide +kernel
theorem dX7_mean_40 : decode cX7_mean 40 = .ok (.ireturn, 1) := by decide +kernel
set_option maxRecDepth 20000 in
theorem ggX7_spread_X3_findSpread : GoodIn wsX7_spread wsX3_findSpread := goodIn_r _ [9, 10, 11, 12, 13, 14, 15, 16, 17, 18, 19, 20, 21, 8, 22, 23, 24, 25, 26, 27, 28, 42, 43, 44, 45, 46, 47, 48] (by decide +kernel) (by decide +kernel)
set_option maxRecDepth 20000 in
theorem gX7_spread_X3_findSpread : GoodIn wsX7_spread (wsV RX7 288 RX3 yX3_findSpread wsX3_findSpread) := goodIn_app (goodIn_of _ (by decide +kernel)) ggX7_spread_X3_findSpread
theorem dX7_spread_0 : decode cX7_spread 0 = .ok (.aload_n 0, 1) := by decide +kernel
theorem dX7_spread_1 : decode cX7_spread 1 = .ok (.getfield 45, 3) := by decide +kernel
theorem dX7_spread_4 : decode cX7_spread 4 = .ok (.invokevirtual 288, 3) := by decide +kernel
theorem dX7_spread_7 : decode cX7_spread 7 = .ok (.aload_n 0, 1) := by decide +kernel
theorem dX7_spread_8 : decode cX7_spread 8 = .ok (.getfield 45, 3) := by decide +kernel
theorem dX7_spread_11 : decode cX7_spread 11 = .ok (.getfield 291, 3) := by decide +kernel
theorem dX7_spread_14 : decode cX7_spread 14 = .ok (.bipush (-9), 2) := by decide +kernel
theorem dX7_spread_16 : decode cX7_spread 16 = .ok (.if_icmp .ne 6, 3) := by decide +kernel
theorem dX7_spread_19 : decode cX7_spread 19 = .ok (.bipush (-9), 2) := by decide +kernel
theorem dX7_spread_21 : decode cX7_spread 21 = .ok (.ireturn, 1) := by decide +kernel
theorem dX7_spread_22 : decode cX7_spread 22 = .ok (.aload_n 0, 1) := by decide +kernel
theorem dX7_spread_23 : decode cX7_spread 23 = .ok (.aload_n 0, 1) := by decide +kernel
theorem dX7_spread_24 : decode cX7_spread 24 = .ok (.getfield 45, 3) := by decide +kernel
theorem dX7_spread_27 : decode cX7_spread 27 = .ok (.getfield 294, 3) := by decide +kernel
theorem dX7_spread_30 : decode cX7_spread 30 = .ok (.putfield 67, 3) := by decide +kernel
theorem dX7_spread_33 : decode cX7_spread 33 = .ok (.aload_n 0, 1) := by decide +kernel
theorem dX7_spread_34 : decode cX7_spread 34 = .ok (.getfield 45, 3) := by decide +kernel
theorem dX7_spread_37 : decode cX7_spread 37 = .ok (.getfield 291, 3) := by decide +kernel
theorem dX7_spread_40 : decode cX7_spread 40 = .ok (.ireturn, 1) := by decide +kernel
set_option maxRecDepth 20000 in
theorem ggX7_sold_X7_isWithin : GoodIn wsX7_sold wsX7_isWithin := goodIn_r _ [7] (by decide +kernel) (by decide +kernel)
set_option maxRecDepth 20000 in
theorem gX7_sold_X7_isWithin : GoodIn wsX7_sold (va_wsS RX7 77 yX7_isWithin wsX7_isWithin) := goodIn_app (goodIn_of _ (by decide +kernel)) ggX7_sold_X7_isWithin
set_option maxRecDepth 20000 in
theorem ggX7_sold_X7_isHand : GoodIn wsX7_sold wsX7_isHand := goodIn_r _ [10, 4, 5, 6, 7] (by decide +kernel) (by decide +kernel)
set_option maxRecDepth 20000 in
theorem gX7_sold_X7_isHand : GoodIn wsX7_sold (va_wsS RX7 218 yX7_isHand wsX7_isHand) := goodIn_app (goodIn_of _ (by decide +kernel)) ggX7_sold_X7_isHand
set_option maxRecDepth 20000 in
theorem ggX7_sold_X0_sell : GoodIn wsX7_sold wsX0_sell := goodIn_r _ [15, 16, 17, 18, 32, 33, 34, 35, 36, 37, 38, 39] (by decide +kernel) (by decide +kernel)
set_option maxRecDepth 20000 in
theorem gX7_sold_X0_sell : GoodIn wsX7_sold (wsV RX7 298 RX0 yX0_sell wsX0_sell) := goodIn_app (goodIn_of _ (by decide +kernel)) ggX7_sold_X0_sell
theorem dX7_sold_0 : decode cX7_sold 0 = .ok (.iload_n 1, 1) := by decide +kernel
theorem dX7_sold_1 : decode cX7_sold 1 = .ok (.iconst 0, 1) := by decide +kernel
theorem dX7_sold_2 : decode cX7_sold 2 = .ok (.aload_n 0, 1) := by decide +kernel
theorem dX7_sold_3 : decode cX7_sold 3 = .ok (.getfield 60, 3) := by decide +kernel
theorem dX7_sold_6 : decode cX7_sold 6 = .ok (.invokestatic 77, 3) := by decide +kernel
theorem dX7_sold_9 : decode cX7_sold 9 = .ok (.ifCond .eq 21, 3) := by decide +kernel
theorem dX7_sold_12 : decode cX7_sold 12 = .ok (.iload_n 2, 1) := by decide +kernel
theorem dX7_sold_13 : decode cX7_sold 13 = .ok (.iconst 1, 1) := by decide +kernel
theorem dX7_sold_14 : decode cX7_sold 14 = .ok (.ldc_w 297, 3) := by decide +kernel
theorem dX7_sold_17 : decode cX7_sold 17 = .ok (.invokestatic 77, 3) := by decide +kernel
theorem dX7_sold_20 : decode cX7_sold 20 = .ok (.ifCond .eq 10, 3) := by decide +kernel
theorem dX7_sold_23 : decode cX7_sold 23 = .ok (.iload_n 3, 1) := by decide +kernel
theorem dX7_sold_24 : decode cX7_sold 24 = .ok (.invokestatic 218, 3) := by decide +kernel
theorem dX7_sold_27 : decode cX7_sold 27 = .ok (.ifCond .ne 5, 3) := by decide +kernel
theorem dX7_sold_30 : decode cX7_sold 30 = .ok (.iconst (-1), 1) := by decide +kernel
theorem dX7_sold_31 : decode cX7_sold 31 = .ok (.ireturn, 1) := by decide +kernel
theorem dX7_sold_32 : decode cX7_sold 32 = .ok (.aload_n 0, 1) := by decide +kernel
theorem dX7_sold_33 : decode cX7_sold 33 = .ok (.getfield 52, 3) := by decide +kernel
theorem dX7_sold_36 : decode cX7_sold 36 = .ok (.iload_n 1, 1) := by decide +kernel
theorem dX7_sold_37 : decode cX7_sold 37 = .ok (.iload_n 2, 1) := by decide +kernel
theorem dX7_sold_38 : decode cX7_sold 38 = .ok (.iload_n 3, 1) := by decide +kernel
theorem dX7_sold_39 : decode cX7_sold 39 = .ok (.invokevirtual 298, 3) := by decide +kernel
theorem dX7_sold_42 : decode cX7_sold 42 = .ok (.iconst 1, 1) := by decide +kernel
theorem dX7_sold_43 : decode cX7_sold 43 = .ok (.ireturn, 1) := by decide +kernel
set_option maxRecDepth 20000 in
theorem ggX7_law_X7_isDay : GoodIn wsX7_law wsX7_isDay := goodIn_r _ [5, 6, 7, 4, 8] (by decide +kernel) (by decide +kernel)
set_option maxRecDepth 20000 in
theorem gX7_law_X7_isDay : GoodIn wsX7_law (va_wsS RX7 183 yX7_isDay wsX7_isDay) := goodIn_app (goodIn_of _ (by decide +kernel)) ggX7_law_X7_isDay
set_option maxRecDepth 20000 in
theorem ggX7_law_X7_isWithin : GoodIn wsX7_law wsX7_isWithin := goodIn_r _ [8] (by decide +kernel) (by decide +kernel)
set_option maxRecDepth 20000 in
theorem gX7_law_X7_isWithin : GoodIn wsX7_law (va_wsS RX7 77 yX7_isWithin wsX7_isWithin) := goodIn_app (goodIn_of _ (by decide +kernel)) ggX7_law_X7_isWithin
set_option maxRecDepth 20000 in
theorem ggX7_law_X0_isFull : GoodIn wsX7_law wsX0_isFull := goodIn_r _ [13, 14, 36, 37, 38, 39, 40, 41, 42, 43] (by decide +kernel) (by decide +kernel)
set_option maxRecDepth 20000 in
theorem gX7_law_X0_isFull : GoodIn wsX7_law (wsV RX7 301 RX0 yX0_isFull wsX0_isFull) := goodIn_app (goodIn_of _ (by decide +kernel)) ggX7_law_X0_isFull
set_option maxRecDepth 20000 in
theorem ggX7_law_X0_addLaw : GoodIn wsX7_law wsX0_addLaw := goodIn_r _ [18, 19, 14, 20, 21, 22, 36, 37, 38, 39, 40, 41, 42, 43] (by decide +kernel) (by decide +kernel)
set_option maxRecDepth 20000 in
theorem gX7_law_X0_addLaw : GoodIn wsX7_law (wsV RX7 302 RX0 yX0_addLaw wsX0_addLaw) := goodIn_app (goodIn_of _ (by decide +kernel)) ggX7_law_X0_addLaw
theorem dX7_law_0 : decode cX7_law 0 = .ok (.iload_n 1, 1) := by decide +kernel
theorem dX7_law_1 : decode cX7_law 1 = .ok (.invokestatic 183, 3) := by decide +kernel
theorem dX7_law_4 : decode cX7_law 4 = .ok (.ifCond .eq 18, 3) := by decide +kernel
theorem dX7_law_7 : decode cX7_law 7 = .ok (.iload_n 2, 1) := by decide +kernel
theorem dX7_law_8 : decode cX7_law 8 = .ok (.iconst 0, 1) := by decide +kernel
theorem dX7_law_9 : decode cX7_law 9 = .ok (.sipush 30000, 3) := by decide +kernel
theorem dX7_law_12 : decode cX7_law 12 = .ok (.invokestatic 77, 3) := by decide +kernel
theorem dX7_law_15 : decode cX7_law 15 = .ok (.ifCond .eq 7, 3) := by decide +kernel
theorem dX7_law_18 : decode cX7_law 18 = .ok (.iconst 1, 1) := by decide +kernel
theorem dX7_law_19 : decode cX7_law 19 = .ok (.goto 4, 3) := by decide +kernel
theorem dX7_law_22 : decode cX7_law 22 = .ok (.iconst 0, 1) := by decide +kernel
theorem dX7_law_23 : decode cX7_law 23 = .ok (.istore 5, 2) := by decide +kernel
theorem dX7_law_25 : decode cX7_law 25 = .ok (.iload 5, 2) := by decide +kernel
theorem dX7_law_27 : decode cX7_law 27 = .ok (.ifCond .eq 24, 3) := by decide +kernel
theorem dX7_law_30 : decode cX7_law 30 = .ok (.iload_n 3, 1) := by decide +kernel
theorem dX7_law_31 : decode cX7_law 31 = .ok (.iconst 0, 1) := by decide +kernel
theorem dX7_law_32 : decode cX7_law 32 = .ok (.bipush 100, 2) := by decide +kernel
theorem dX7_law_34 : decode cX7_law 34 = .ok (.invokestatic 77, 3) := by decide +kernel
theorem dX7_law_37 : decode cX7_law 37 = .ok (.ifCond .eq 14, 3) := by decide +kernel
theorem dX7_law_40 : decode cX7_law 40 = .ok (.iload 4, 2) := by decide +kernel
theorem dX7_law_42 : decode cX7_law 42 = .ok (.iconst 0, 1) := by decide +kernel
theorem dX7_law_43 : decode cX7_law 43 = .ok (.bipush 100, 2) := by decide +kernel
theorem dX7_law_45 : decode cX7_law 45 = .ok (.invokestatic 77, 3) := by decide +kernel
theorem dX7_law_48 : decode cX7_law 48 = .ok (.ifCond .ne 5, 3) := by decide +kernel
theorem dX7_law_51 : decode cX7_law 51 = .ok (.iconst (-1), 1) := by decide +kernel
theorem dX7_law_52 : decode cX7_law 52 = .ok (.ireturn, 1) := by decide +kernel
theorem dX7_law_53 : decode cX7_law 53 = .ok (.aload_n 0, 1) := by decide +kernel
theorem dX7_law_54 : decode cX7_law 54 = .ok (.getfield 52, 3) := by decide +kernel
theorem dX7_law_57 : decode cX7_law 57 = .ok (.invokevirtual 301, 3) := by decide +kernel
theorem dX7_law_60 : decode cX7_law 60 = .ok (.ifCond .eq 6, 3) := by decide +kernel
theorem dX7_law_63 : decode cX7_law 63 = .ok (.bipush (-2), 2) := by decide +kernel
theorem dX7_law_65 : decode cX7_law 65 = .ok (.ireturn, 1) := by decide +kernel
theorem dX7_law_66 : decode cX7_law 66 = .ok (.aload_n 0, 1) := by decide +kernel
theorem dX7_law_67 : decode cX7_law 67 = .ok (.getfield 52, 3) := by decide +kernel
theorem dX7_law_70 : decode cX7_law 70 = .ok (.iload_n 1, 1) := by decide +kernel
theorem dX7_law_71 : decode cX7_law 71 = .ok (.iload_n 2, 1) := by decide +kernel
theorem dX7_law_72 : decode cX7_law 72 = .ok (.iload_n 3, 1) := by decide +kernel
theorem dX7_law_73 : decode cX7_law 73 = .ok (.iload 4, 2) := by decide +kernel
theorem dX7_law_75 : decode cX7_law 75 = .ok (.invokevirtual 302, 3) := by decide +kernel
theorem dX7_law_78 : decode cX7_law 78 = .ok (.ireturn, 1) := by decide +kernel
set_option maxRecDepth 20000 in
theorem ggX7_claim_X0_lawInForce : GoodIn wsX7_claim wsX0_lawInForce := goodIn_r _ [10, 11, 12, 13, 67, 68, 69, 70, 71, 72, 73, 74] (by decide +kernel) (by decide +kernel)
set_option maxRecDepth 20000 in
theorem gX7_claim_X0_lawInForce : GoodIn wsX7_claim (wsV RX7 305 RX0 yX0_lawInForce wsX0_lawInForce) := goodIn_app (goodIn_of _ (by decide +kernel)) ggX7_claim_X0_lawInForce
set_option maxRecDepth 20000 in
theorem ggX7_claim_X2_scoreOfAll : GoodIn wsX7_claim wsX2_scoreOfAll := goodIn_r _ [18, 19, 20, 21, 17, 22, 23, 24, 25, 26, 27, 75, 76, 77, 78, 79, 80, 81, 82, 83, 84] (by decide +kernel) (by decide +kernel)
set_option maxRecDepth 20000 in
theorem gX7_claim_X2_scoreOfAll : GoodIn wsX7_claim (wsV RX7 239 RX2 yX2_scoreOfAll wsX2_scoreOfAll) := goodIn_app (goodIn_of _ (by decide +kernel)) ggX7_claim_X2_scoreOfAll
set_option maxRecDepth 20000 in
theorem ggX7_claim_X7_refuse : GoodIn wsX7_claim wsX7_refuse := goodIn_r _ [32, 33, 34, 54, 55, 56, 57, 58, 59, 60, 61, 62, 63, 64, 65, 66] (by decide +kernel) (by decide +kernel)
set_option maxRecDepth 20000 in
theorem gX7_claim_X7_refuse : GoodIn wsX7_claim (wsV RX7 85 RX7 yX7_refuse wsX7_refuse) := goodIn_app (goodIn_of _ (by decide +kernel)) ggX7_claim_X7_refuse
set_option maxRecDepth 20000 in
theorem ggX7_claim_X0_isTooLate : GoodIn wsX7_claim wsX0_isTooLate := goodIn_r _ [38, 13, 39, 67, 68, 69, 70, 71, 72, 73, 74] (by decide +kernel) (by decide +kernel)
set_option maxRecDepth 20000 in
theorem gX7_claim_X0_isTooLate : GoodIn wsX7_claim (wsV RX7 308 RX0 yX0_isTooLate wsX0_isTooLate) := goodIn_app (goodIn_of _ (by decide +kernel)) ggX7_claim_X0_isTooLate
set_option maxRecDepth 20000 in
theorem ggX7_claim_X2_score : GoodIn wsX7_claim wsX2_score := goodIn_r _ [22, 23, 24, 25, 26, 27, 75, 76, 77, 78, 79, 80, 81, 82, 83, 84] (by decide +kernel) (by decide +kernel)
set_option maxRecDepth 20000 in
theorem gX7_claim_X2_score : GoodIn wsX7_claim (wsV RX7 243 RX2 yX2_score wsX2_score) := goodIn_app (goodIn_of _ (by decide +kernel)) ggX7_claim_X2_score
set_option maxRecDepth 20000 in
theorem ggX7_claim_X0_isBelow : GoodIn wsX7_claim wsX0_isBelow := goodIn_r _ [44, 45, 46, 67, 68, 69, 70, 71, 72, 73, 74] (by decide +kernel) (by decide +kernel)
set_option maxRecDepth 20000 in
theorem gX7_claim_X0_isBelow : GoodIn wsX7_claim (wsV RX7 314 RX0 yX0_isBelow wsX0_isBelow) := goodIn_app (goodIn_of _ (by decide +kernel)) ggX7_claim_X0_isBelow
set_option maxRecDepth 20000 in
theorem ggX7_claim_X0_paidBack : GoodIn wsX7_claim wsX0_paidBack := goodIn_r _ [50, 51, 52, 13, 53, 67, 68, 69, 70, 71, 72, 73, 74] (by decide +kernel) (by decide +kernel)
set_option maxRecDepth 20000 in
theorem gX7_claim_X0_paidBack : GoodIn wsX7_claim (wsV RX7 318 RX0 yX0_paidBack wsX0_paidBack) := goodIn_app (goodIn_of _ (by decide +kernel)) ggX7_claim_X0_paidBack
theorem dX7_claim_0 : decode cX7_claim 0 = .ok (.aload_n 0, 1) := by decide +kernel
theorem dX7_claim_1 : decode cX7_claim 1 = .ok (.getfield 52, 3) := by decide +kernel
theorem dX7_claim_4 : decode cX7_claim 4 = .ok (.invokevirtual 305, 3) := by decide +kernel
theorem dX7_claim_7 : decode cX7_claim 7 = .ok (.istore_n 1, 1) := by decide +kernel
theorem dX7_claim_8 : decode cX7_claim 8 = .ok (.iload_n 1, 1) := by decide +kernel
theorem dX7_claim_9 : decode cX7_claim 9 = .ok (.bipush (-9), 2) := by decide +kernel
theorem dX7_claim_11 : decode cX7_claim 11 = .ok (.if_icmp .ne 6, 3) := by decide +kernel
theorem dX7_claim_14 : decode cX7_claim 14 = .ok (.bipush (-4), 2) := by decide +kernel
theorem dX7_claim_16 : decode cX7_claim 16 = .ok (.ireturn, 1) := by decide +kernel
theorem dX7_claim_17 : decode cX7_claim 17 = .ok (.aload_n 0, 1) := by decide +kernel
theorem dX7_claim_18 : decode cX7_claim 18 = .ok (.getfield 31, 3) := by decide +kernel
theorem dX7_claim_21 : decode cX7_claim 21 = .ok (.invokevirtual 239, 3) := by decide +kernel
theorem dX7_claim_24 : decode cX7_claim 24 = .ok (.lstore_n 2, 1) := by decide +kernel
theorem dX7_claim_25 : decode cX7_claim 25 = .ok (.lload_n 2, 1) := by decide +kernel
theorem dX7_claim_26 : decode cX7_claim 26 = .ok (.lconst 0, 1) := by decide +kernel
theorem dX7_claim_27 : decode cX7_claim 27 = .ok (.lcmp, 1) := by decide +kernel
theorem dX7_claim_28 : decode cX7_claim 28 = .ok (.ifCond .ne 9, 3) := by decide +kernel
theorem dX7_claim_31 : decode cX7_claim 31 = .ok (.aload_n 0, 1) := by decide +kernel
theorem dX7_claim_32 : decode cX7_claim 32 = .ok (.iconst 4, 1) := by decide +kernel
theorem dX7_claim_33 : decode cX7_claim 33 = .ok (.invokevirtual 85, 3) := by decide +kernel
theorem dX7_claim_36 : decode cX7_claim 36 = .ok (.ireturn, 1) := by decide +kernel
theorem dX7_claim_37 : decode cX7_claim 37 = .ok (.aload_n 0, 1) := by decide +kernel
theorem dX7_claim_38 : decode cX7_claim 38 = .ok (.getfield 52, 3) := by decide +kernel
theorem dX7_claim_41 : decode cX7_claim 41 = .ok (.iload_n 1, 1) := by decide +kernel
theorem dX7_claim_42 : decode cX7_claim 42 = .ok (.aload_n 0, 1) := by decide +kernel
theorem dX7_claim_43 : decode cX7_claim 43 = .ok (.getfield 60, 3) := by decide +kernel
theorem dX7_claim_46 : decode cX7_claim 46 = .ok (.invokevirtual 308, 3) := by decide +kernel
theorem dX7_claim_49 : decode cX7_claim 49 = .ok (.ifCond .eq 5, 3) := by decide +kernel
theorem dX7_claim_52 : decode cX7_claim 52 = .ok (.iconst 2, 1) := by decide +kernel
theorem dX7_claim_53 : decode cX7_claim 53 = .ok (.ireturn, 1) := by decide +kernel
theorem dX7_claim_54 : decode cX7_claim 54 = .ok (.aload_n 0, 1) := by decide +kernel
theorem dX7_claim_55 : decode cX7_claim 55 = .ok (.getfield 52, 3) := by decide +kernel
theorem dX7_claim_58 : decode cX7_claim 58 = .ok (.iload_n 1, 1) := by decide +kernel
theorem dX7_claim_59 : decode cX7_claim 59 = .ok (.aload_n 0, 1) := by decide +kernel
theorem dX7_claim_60 : decode cX7_claim 60 = .ok (.getfield 31, 3) := by decide +kernel
theorem dX7_claim_63 : decode cX7_claim 63 = .ok (.aload_n 0, 1) := by decide +kernel
theorem dX7_claim_64 : decode cX7_claim 64 = .ok (.getfield 52, 3) := by decide +kernel
theorem dX7_claim_67 : decode cX7_claim 67 = .ok (.getfield 311, 3) := by decide +kernel
theorem dX7_claim_70 : decode cX7_claim 70 = .ok (.invokevirtual 243, 3) := by decide +kernel
theorem dX7_claim_73 : decode cX7_claim 73 = .ok (.lload_n 2, 1) := by decide +kernel
theorem dX7_claim_74 : decode cX7_claim 74 = .ok (.invokevirtual 314, 3) := by decide +kernel
theorem dX7_claim_77 : decode cX7_claim 77 = .ok (.ifCond .ne 5, 3) := by decide +kernel
theorem dX7_claim_80 : decode cX7_claim 80 = .ok (.iconst 3, 1) := by decide +kernel
theorem dX7_claim_81 : decode cX7_claim 81 = .ok (.ireturn, 1) := by decide +kernel
theorem dX7_claim_82 : decode cX7_claim 82 = .ok (.aload_n 0, 1) := by decide +kernel
theorem dX7_claim_83 : decode cX7_claim 83 = .ok (.aload_n 0, 1) := by decide +kernel
theorem dX7_claim_84 : decode cX7_claim 84 = .ok (.getfield 52, 3) := by decide +kernel
theorem dX7_claim_87 : decode cX7_claim 87 = .ok (.iload_n 1, 1) := by decide +kernel
theorem dX7_claim_88 : decode cX7_claim 88 = .ok (.aload_n 0, 1) := by decide +kernel
theorem dX7_claim_89 : decode cX7_claim 89 = .ok (.getfield 60, 3) := by decide +kernel
theorem dX7_claim_92 : decode cX7_claim 92 = .ok (.invokevirtual 318, 3) := by decide +kernel
theorem dX7_claim_95 : decode cX7_claim 95 = .ok (.putfield 67, 3) := by decide +kernel
theorem dX7_claim_98 : decode cX7_claim 98 = .ok (.iconst 1, 1) := by decide +kernel
theorem dX7_claim_99 : decode cX7_claim 99 = .ok (.ireturn, 1) := by decide +kernel
theorem dX7_asked_0 : decode cX7_asked 0 = .ok (.aload_n 0, 1) := by decide +kernel
theorem dX7_asked_1 : decode cX7_asked 1 = .ok (.getfield 67, 3) := by decide +kernel
theorem dX7_asked_4 : decode cX7_asked 4 = .ok (.ireturn, 1) := by decide +kernel
theorem dX7_upper_0 : decode cX7_upper 0 = .ok (.aload_n 0, 1) := by decide +kernel
theorem dX7_upper_1 : decode cX7_upper 1 = .ok (.getfield 70, 3) := by decide +kernel
theorem dX7_upper_4 : decode cX7_upper 4 = .ok (.lreturn, 1) := by decide +kernel
theorem dX7_lower_0 : decode cX7_lower 0 = .ok (.aload_n 0, 1) := by decide +kernel
theorem dX7_lower_1 : decode cX7_lower 1 = .ok (.getfield 74, 3) := by decide +kernel
theorem dX7_lower_4 : decode cX7_lower 4 = .ok (.lreturn, 1) := by decide +kernel
theorem dX7_count_0 : decode cX7_count 0 = .ok (.iload_n 1, 1) := by decide +kernel
theorem dX7_count_1 : decode cX7_count 1 = .ok (.tableswitch 116 0 7 #[47, 52, 60, 76, 84, 92, 100, 108], 47) := by decide +kernel
theorem dX7_count_48 : decode cX7_count 48 = .ok (.aload_n 0, 1) := by decide +kernel
theorem dX7_count_49 : decode cX7_count 49 = .ok (.getfield 60, 3) := by decide +kernel
theorem dX7_count_52 : decode cX7_count 52 = .ok (.ireturn, 1) := by decide +kernel
theorem dX7_count_53 : decode cX7_count 53 = .ok (.aload_n 0, 1) := by decide +kernel
theorem dX7_count_54 : decode cX7_count 54 = .ok (.getfield 10, 3) := by decide +kernel
theorem dX7_count_57 : decode cX7_count 57 = .ok (.getfield 321, 3) := by decide +kernel
theorem dX7_count_60 : decode cX7_count 60 = .ok (.ireturn, 1) := by decide +kernel
theorem dX7_count_61 : decode cX7_count 61 = .ok (.aload_n 0, 1) := by decide +kernel
theorem dX7_count_62 : decode cX7_count 62 = .ok (.getfield 10, 3) := by decide +kernel
theorem dX7_count_65 : decode cX7_count 65 = .ok (.getfield 321, 3) := by decide +kernel
theorem dX7_count_68 : decode cX7_count 68 = .ok (.aload_n 0, 1) := by decide +kernel
theorem dX7_count_69 : decode cX7_count 69 = .ok (.getfield 10, 3) := by decide +kernel
theorem dX7_count_72 : decode cX7_count 72 = .ok (.getfield 322, 3) := by decide +kernel
theorem dX7_count_75 : decode cX7_count 75 = .ok (.isub, 1) := by decide +kernel
theorem dX7_count_76 : decode cX7_count 76 = .ok (.ireturn, 1) := by decide +kernel
theorem dX7_count_77 : decode cX7_count 77 = .ok (.aload_n 0, 1) := by decide +kernel
theorem dX7_count_78 : decode cX7_count 78 = .ok (.getfield 31, 3) := by decide +kernel
theorem dX7_count_81 : decode cX7_count 81 = .ok (.getfield 325, 3) := by decide +kernel
theorem dX7_count_84 : decode cX7_count 84 = .ok (.ireturn, 1) := by decide +kernel
theorem dX7_count_85 : decode cX7_count 85 = .ok (.aload_n 0, 1) := by decide +kernel
theorem dX7_count_86 : decode cX7_count 86 = .ok (.getfield 31, 3) := by decide +kernel
theorem dX7_count_89 : decode cX7_count 89 = .ok (.getfield 326, 3) := by decide +kernel
theorem dX7_count_92 : decode cX7_count 92 = .ok (.ireturn, 1) := by decide +kernel
theorem dX7_count_93 : decode cX7_count 93 = .ok (.aload_n 0, 1) := by decide +kernel
theorem dX7_count_94 : decode cX7_count 94 = .ok (.getfield 38, 3) := by decide +kernel
theorem dX7_count_97 : decode cX7_count 97 = .ok (.getfield 329, 3) := by decide +kernel
theorem dX7_count_100 : decode cX7_count 100 = .ok (.ireturn, 1) := by decide +kernel
theorem dX7_count_101 : decode cX7_count 101 = .ok (.aload_n 0, 1) := by decide +kernel
theorem dX7_count_102 : decode cX7_count 102 = .ok (.getfield 45, 3) := by decide +kernel
theorem dX7_count_105 : decode cX7_count 105 = .ok (.getfield 330, 3) := by decide +kernel
theorem dX7_count_108 : decode cX7_count 108 = .ok (.ireturn, 1) := by decide +kernel
theorem dX7_count_109 : decode cX7_count 109 = .ok (.aload_n 0, 1) := by decide +kernel
theorem dX7_count_110 : decode cX7_count 110 = .ok (.getfield 52, 3) := by decide +kernel
theorem dX7_count_113 : decode cX7_count 113 = .ok (.getfield 331, 3) := by decide +kernel
theorem dX7_count_116 : decode cX7_count 116 = .ok (.ireturn, 1) := by decide +kernel
theorem dX7_count_117 : decode cX7_count 117 = .ok (.iconst (-1), 1) := by decide +kernel
theorem dX7_count_118 : decode cX7_count 118 = .ok (.ireturn, 1) := by decide +kernel
theorem dX7_finding_0 : decode cX7_finding 0 = .ok (.aload_n 0, 1) := by decide +kernel
theorem dX7_finding_1 : decode cX7_finding 1 = .ok (.getfield 64, 3) := by decide +kernel
theorem dX7_finding_4 : decode cX7_finding 4 = .ok (.ireturn, 1) := by decide +kernel
set_option maxRecDepth 20000 in
theorem ggX7_findings_X7_isWithin : GoodIn wsX7_findings wsX7_isWithin := goodIn_r _ [5] (by decide +kernel) (by decide +kernel)
set_option maxRecDepth 20000 in
theorem gX7_findings_X7_isWithin : GoodIn wsX7_findings (va_wsS RX7 77 yX7_isWithin wsX7_isWithin) := goodIn_app (goodIn_of _ (by decide +kernel)) ggX7_findings_X7_isWithin
theorem dX7_findings_0 : decode cX7_findings 0 = .ok (.iload_n 1, 1) := by decide +kernel
theorem dX7_findings_1 : decode cX7_findings 1 = .ok (.iconst 1, 1) := by decide +kernel
theorem dX7_findings_2 : decode cX7_findings 2 = .ok (.iconst 5, 1) := by decide +kernel
theorem dX7_findings_3 : decode cX7_findings 3 = .ok (.invokestatic 77, 3) := by decide +kernel
theorem dX7_findings_6 : decode cX7_findings 6 = .ok (.ifCond .ne 5, 3) := by decide +kernel
theorem dX7_findings_9 : decode cX7_findings 9 = .ok (.iconst (-1), 1) := by decide +kernel
theorem dX7_findings_10 : decode cX7_findings 10 = .ok (.ireturn, 1) := by decide +kernel
theorem dX7_findings_11 : decode cX7_findings 11 = .ok (.aload_n 0, 1) := by decide +kernel
theorem dX7_findings_12 : decode cX7_findings 12 = .ok (.getfield 56, 3) := by decide +kernel
theorem dX7_findings_15 : decode cX7_findings 15 = .ok (.iload_n 1, 1) := by decide +kernel
theorem dX7_findings_16 : decode cX7_findings 16 = .ok (.iaload, 1) := by decide +kernel
theorem dX7_findings_17 : decode cX7_findings 17 = .ok (.ireturn, 1) := by decide +kernel
set_option maxRecDepth 20000 in
theorem ggX7_digest_X7_count : GoodIn wsX7_digest wsX7_count := goodIn_r _ [11, 12, 3, 4, 13, 5, 14, 15, 16, 17, 18, 19, 20, 21, 104, 105, 106, 107, 108, 109, 110, 111, 112, 113, 114, 115, 116, 117, 118, 119, 120, 121, 122, 123, 124, 125, 126, 127, 128, 129, 130, 131, 132, 133, 134, 135, 136, 137, 138, 139, 140, 141, 142, 143, 144, 145, 146, 147, 148, 149, 150, 151, 152, 153, 154, 155, 156, 157, 158, 159, 160, 161] (by decide +kernel) (by decide +kernel)
set_option maxRecDepth 20000 in
theorem gX7_digest_X7_count : GoodIn wsX7_digest (wsV RX7 338 RX7 yX7_count wsX7_count) := goodIn_app (goodIn_of _ (by decide +kernel)) ggX7_digest_X7_count
set_option maxRecDepth 20000 in
theorem ggX7_digest_X5_detail : GoodIn wsX7_digest wsX5_detail := goodIn_r _ [26, 27, 28, 29, 30, 31, 32, 33, 25, 34, 35, 36, 37, 38, 39, 40, 41, 42, 43, 44, 45, 46, 47, 48, 49, 50, 51, 52, 53, 54, 55, 56, 57, 58, 59, 60, 61, 62, 63, 64, 65, 66, 67, 68, 69, 70, 71, 72, 73, 74, 75, 76, 77, 78, 79, 80, 117, 118, 119, 120, 121, 122, 123, 124, 125, 126, 127, 128, 129, 130, 131, 162, 163] (by decide +kernel) (by decide +kernel)
set_option maxRecDepth 20000 in
theorem gX7_digest_X5_detail : GoodIn wsX7_digest (wsV RX7 174 RX5 yX5_detail wsX5_detail) := goodIn_app (goodIn_of _ (by decide +kernel)) ggX7_digest_X5_detail
set_option maxRecDepth 20000 in
theorem ggX7_digest_X2_mixInto : GoodIn wsX7_digest wsX2_mixInto := goodIn_r _ [85, 86, 87, 88, 89, 90, 91, 92, 93, 132, 133, 134, 135, 136, 137, 138, 139, 140, 141] (by decide +kernel) (by decide +kernel)
set_option maxRecDepth 20000 in
theorem gX7_digest_X2_mixInto : GoodIn wsX7_digest (wsV RX7 341 RX2 yX2_mixInto wsX2_mixInto) := goodIn_app (goodIn_of _ (by decide +kernel)) ggX7_digest_X2_mixInto
set_option maxRecDepth 20000 in
theorem ggX7_digest_X5_mixPaintsInto : GoodIn wsX7_digest wsX5_mixPaintsInto := goodIn_r _ [97, 98, 35, 117, 118, 119, 120, 121, 122, 123, 124, 125, 126, 127, 128, 129, 130, 131] (by decide +kernel) (by decide +kernel)
set_option maxRecDepth 20000 in
theorem gX7_digest_X5_mixPaintsInto : GoodIn wsX7_digest (wsV RX7 345 RX5 yX5_mixPaintsInto wsX5_mixPaintsInto) := goodIn_app (goodIn_of _ (by decide +kernel)) ggX7_digest_X5_mixPaintsInto
set_option maxRecDepth 20000 in
theorem ggX7_digest_X6_mixInto : GoodIn wsX7_digest wsX6_mixInto := goodIn_r _ [102, 103, 58, 67, 162, 163] (by decide +kernel) (by decide +kernel)
set_option maxRecDepth 20000 in
theorem gX7_digest_X6_mixInto : GoodIn wsX7_digest (wsV RX7 348 RX6 yX6_mixInto wsX6_mixInto) := goodIn_app (goodIn_of _ (by decide +kernel)) ggX7_digest_X6_mixInto
theorem dX7_digest_0 : decode cX7_digest 0 = .ok (.ldc2_w 334, 3) := by decide +kernel
theorem dX7_digest_3 : decode cX7_digest 3 = .ok (.lstore_n 1, 1) := by decide +kernel
theorem dX7_digest_4 : decode cX7_digest 4 = .ok (.iconst 0, 1) := by decide +kernel
theorem dX7_digest_5 : decode cX7_digest 5 = .ok (.istore_n 3, 1) := by decide +kernel
theorem dX7_digest_6 : decode cX7_digest 6 = .ok (.iload_n 3, 1) := by decide +kernel
theorem dX7_digest_7 : decode cX7_digest 7 = .ok (.bipush 7, 2) := by decide +kernel
theorem dX7_digest_9 : decode cX7_digest 9 = .ok (.if_icmp .gt 22, 3) := by decide +kernel
theorem dX7_digest_12 : decode cX7_digest 12 = .ok (.ldc2_w 336, 3) := by decide +kernel
theorem dX7_digest_15 : decode cX7_digest 15 = .ok (.lload_n 1, 1) := by decide +kernel
theorem dX7_digest_16 : decode cX7_digest 16 = .ok (.lmul, 1) := by decide +kernel
theorem dX7_digest_17 : decode cX7_digest 17 = .ok (.aload_n 0, 1) := by decide +kernel
theorem dX7_digest_18 : decode cX7_digest 18 = .ok (.iload_n 3, 1) := by decide +kernel
theorem dX7_digest_19 : decode cX7_digest 19 = .ok (.invokevirtual 338, 3) := by decide +kernel
theorem dX7_digest_22 : decode cX7_digest 22 = .ok (.i2l, 1) := by decide +kernel
theorem dX7_digest_23 : decode cX7_digest 23 = .ok (.ladd, 1) := by decide +kernel
theorem dX7_digest_24 : decode cX7_digest 24 = .ok (.lstore_n 1, 1) := by decide +kernel
theorem dX7_digest_25 : decode cX7_digest 25 = .ok (.iinc 3 1, 3) := by decide +kernel
theorem dX7_digest_28 : decode cX7_digest 28 = .ok (.goto (-22), 3) := by decide +kernel
theorem dX7_digest_31 : decode cX7_digest 31 = .ok (.iconst 0, 1) := by decide +kernel
theorem dX7_digest_32 : decode cX7_digest 32 = .ok (.istore_n 3, 1) := by decide +kernel
theorem dX7_digest_33 : decode cX7_digest 33 = .ok (.iload_n 3, 1) := by decide +kernel
theorem dX7_digest_34 : decode cX7_digest 34 = .ok (.aload_n 0, 1) := by decide +kernel
theorem dX7_digest_35 : decode cX7_digest 35 = .ok (.getfield 10, 3) := by decide +kernel
theorem dX7_digest_38 : decode cX7_digest 38 = .ok (.getfield 321, 3) := by decide +kernel
theorem dX7_digest_41 : decode cX7_digest 41 = .ok (.if_icmp .ge 42, 3) := by decide +kernel
theorem dX7_digest_44 : decode cX7_digest 44 = .ok (.iconst 0, 1) := by decide +kernel
theorem dX7_digest_45 : decode cX7_digest 45 = .ok (.istore 4, 2) := by decide +kernel
theorem dX7_digest_47 : decode cX7_digest 47 = .ok (.iload 4, 2) := by decide +kernel
theorem dX7_digest_49 : decode cX7_digest 49 = .ok (.iconst 5, 1) := by decide +kernel
theorem dX7_digest_50 : decode cX7_digest 50 = .ok (.if_icmp .gt 27, 3) := by decide +kernel
theorem dX7_digest_53 : decode cX7_digest 53 = .ok (.ldc2_w 336, 3) := by decide +kernel
theorem dX7_digest_56 : decode cX7_digest 56 = .ok (.lload_n 1, 1) := by decide +kernel
theorem dX7_digest_57 : decode cX7_digest 57 = .ok (.lmul, 1) := by decide +kernel
theorem dX7_digest_58 : decode cX7_digest 58 = .ok (.aload_n 0, 1) := by decide +kernel
theorem dX7_digest_59 : decode cX7_digest 59 = .ok (.getfield 10, 3) := by decide +kernel
theorem dX7_digest_62 : decode cX7_digest 62 = .ok (.iload_n 3, 1) := by decide +kernel
theorem dX7_digest_63 : decode cX7_digest 63 = .ok (.iload 4, 2) := by decide +kernel
theorem dX7_digest_65 : decode cX7_digest 65 = .ok (.invokevirtual 174, 3) := by decide +kernel
theorem dX7_digest_68 : decode cX7_digest 68 = .ok (.i2l, 1) := by decide +kernel
theorem dX7_digest_69 : decode cX7_digest 69 = .ok (.ladd, 1) := by decide +kernel
theorem dX7_digest_70 : decode cX7_digest 70 = .ok (.lstore_n 1, 1) := by decide +kernel
theorem dX7_digest_71 : decode cX7_digest 71 = .ok (.iinc 4 1, 3) := by decide +kernel
theorem dX7_digest_74 : decode cX7_digest 74 = .ok (.goto (-27), 3) := by decide +kernel
theorem dX7_digest_77 : decode cX7_digest 77 = .ok (.iinc 3 1, 3) := by decide +kernel
theorem dX7_digest_80 : decode cX7_digest 80 = .ok (.goto (-47), 3) := by decide +kernel
theorem dX7_digest_83 : decode cX7_digest 83 = .ok (.aload_n 0, 1) := by decide +kernel
theorem dX7_digest_84 : decode cX7_digest 84 = .ok (.getfield 31, 3) := by decide +kernel
theorem dX7_digest_87 : decode cX7_digest 87 = .ok (.lload_n 1, 1) := by decide +kernel
theorem dX7_digest_88 : decode cX7_digest 88 = .ok (.invokevirtual 341, 3) := by decide +kernel
theorem dX7_digest_91 : decode cX7_digest 91 = .ok (.lstore_n 1, 1) := by decide +kernel
theorem dX7_digest_92 : decode cX7_digest 92 = .ok (.aload_n 0, 1) := by decide +kernel
theorem dX7_digest_93 : decode cX7_digest 93 = .ok (.getfield 10, 3) := by decide +kernel
theorem dX7_digest_96 : decode cX7_digest 96 = .ok (.lload_n 1, 1) := by decide +kernel
theorem dX7_digest_97 : decode cX7_digest 97 = .ok (.invokevirtual 345, 3) := by decide +kernel
theorem dX7_digest_100 : decode cX7_digest 100 = .ok (.lstore_n 1, 1) := by decide +kernel
theorem dX7_digest_101 : decode cX7_digest 101 = .ok (.aload_n 0, 1) := by decide +kernel
theorem dX7_digest_102 : decode cX7_digest 102 = .ok (.getfield 20, 3) := by decide +kernel
theorem dX7_digest_105 : decode cX7_digest 105 = .ok (.lload_n 1, 1) := by decide +kernel
theorem dX7_digest_106 : decode cX7_digest 106 = .ok (.invokevirtual 348, 3) := by decide +kernel
theorem dX7_digest_109 : decode cX7_digest 109 = .ok (.lreturn, 1) := by decide +kernel
theorem dX7_refuse_0 : decode cX7_refuse 0 = .ok (.aload_n 0, 1) := by decide +kernel
theorem dX7_refuse_1 : decode cX7_refuse 1 = .ok (.iload_n 1, 1) := by decide +kernel
theorem dX7_refuse_2 : decode cX7_refuse 2 = .ok (.putfield 64, 3) := by decide +kernel
theorem dX7_refuse_5 : decode cX7_refuse 5 = .ok (.aload_n 0, 1) := by decide +kernel
theorem dX7_refuse_6 : decode cX7_refuse 6 = .ok (.getfield 56, 3) := by decide +kernel
theorem dX7_refuse_9 : decode cX7_refuse 9 = .ok (.iload_n 1, 1) := by decide +kernel
theorem dX7_refuse_10 : decode cX7_refuse 10 = .ok (.dup2, 1) := by decide +kernel
theorem dX7_refuse_11 : decode cX7_refuse 11 = .ok (.iaload, 1) := by decide +kernel
theorem dX7_refuse_12 : decode cX7_refuse 12 = .ok (.iconst 1, 1) := by decide +kernel
theorem dX7_refuse_13 : decode cX7_refuse 13 = .ok (.iadd, 1) := by decide +kernel
theorem dX7_refuse_14 : decode cX7_refuse 14 = .ok (.iastore, 1) := by decide +kernel
theorem dX7_refuse_15 : decode cX7_refuse 15 = .ok (.bipush (-3), 2) := by decide +kernel
theorem dX7_refuse_17 : decode cX7_refuse 17 = .ok (.ireturn, 1) := by decide +kernel
set_option maxRecDepth 20000 in
theorem ggX7_tellFraction_X7_commonDivisor : GoodIn wsX7_tellFraction wsX7_commonDivisor := goodIn_r _ [10] (by decide +kernel) (by decide +kernel)
set_option maxRecDepth 20000 in
theorem gX7_tellFraction_X7_commonDivisor : GoodIn wsX7_tellFraction (va_wsS RX7 349 yX7_commonDivisor wsX7_commonDivisor) := goodIn_app (goodIn_of _ (by decide +kernel)) ggX7_tellFraction_X7_commonDivisor
theorem dX7_tellFraction_0 : decode cX7_tellFraction 0 = .ok (.lconst 1, 1) := by decide +kernel
theorem dX7_tellFraction_1 : decode cX7_tellFraction 1 = .ok (.lload_n 1, 1) := by decide +kernel
theorem dX7_tellFraction_2 : decode cX7_tellFraction 2 = .ok (.lload_n 3, 1) := by decide +kernel
theorem dX7_tellFraction_3 : decode cX7_tellFraction 3 = .ok (.invokestatic 349, 3) := by decide +kernel
theorem dX7_tellFraction_6 : decode cX7_tellFraction 6 = .ok (.invokestatic 353, 3) := by decide +kernel
theorem dX7_tellFraction_9 : decode cX7_tellFraction 9 = .ok (.lstore 5, 2) := by decide +kernel
theorem dX7_tellFraction_11 : decode cX7_tellFraction 11 = .ok (.aload_n 0, 1) := by decide +kernel
theorem dX7_tellFraction_12 : decode cX7_tellFraction 12 = .ok (.lload_n 1, 1) := by decide +kernel
theorem dX7_tellFraction_13 : decode cX7_tellFraction 13 = .ok (.lload 5, 2) := by decide +kernel
theorem dX7_tellFraction_15 : decode cX7_tellFraction 15 = .ok (.ldiv, 1) := by decide +kernel
theorem dX7_tellFraction_16 : decode cX7_tellFraction 16 = .ok (.putfield 70, 3) := by decide +kernel
theorem dX7_tellFraction_19 : decode cX7_tellFraction 19 = .ok (.aload_n 0, 1) := by decide +kernel
theorem dX7_tellFraction_20 : decode cX7_tellFraction 20 = .ok (.lload_n 3, 1) := by decide +kernel
theorem dX7_tellFraction_21 : decode cX7_tellFraction 21 = .ok (.lload 5, 2) := by decide +kernel
theorem dX7_tellFraction_23 : decode cX7_tellFraction 23 = .ok (.ldiv, 1) := by decide +kernel
theorem dX7_tellFraction_24 : decode cX7_tellFraction 24 = .ok (.putfield 74, 3) := by decide +kernel
theorem dX7_tellFraction_27 : decode cX7_tellFraction 27 = .ok (.return_, 1) := by decide +kernel
theorem dX7_commonDivisor_0 : decode cX7_commonDivisor 0 = .ok (.iconst 0, 1) := by decide +kernel
theorem dX7_commonDivisor_1 : decode cX7_commonDivisor 1 = .ok (.istore 4, 2) := by decide +kernel
theorem dX7_commonDivisor_3 : decode cX7_commonDivisor 3 = .ok (.lload_n 2, 1) := by decide +kernel
theorem dX7_commonDivisor_4 : decode cX7_commonDivisor 4 = .ok (.lconst 0, 1) := by decide +kernel
theorem dX7_commonDivisor_5 : decode cX7_commonDivisor 5 = .ok (.lcmp, 1) := by decide +kernel
theorem dX7_commonDivisor_6 : decode cX7_commonDivisor 6 = .ok (.ifCond .eq 27, 3) := by decide +kernel
theorem dX7_commonDivisor_9 : decode cX7_commonDivisor 9 = .ok (.iload 4, 2) := by decide +kernel
theorem dX7_commonDivisor_11 : decode cX7_commonDivisor 11 = .ok (.sipush 1000, 3) := by decide +kernel
theorem dX7_commonDivisor_14 : decode cX7_commonDivisor 14 = .ok (.if_icmp .ge 19, 3) := by decide +kernel
theorem dX7_commonDivisor_17 : decode cX7_commonDivisor 17 = .ok (.lload_n 0, 1) := by decide +kernel
theorem dX7_commonDivisor_18 : decode cX7_commonDivisor 18 = .ok (.lload_n 2, 1) := by decide +kernel
theorem dX7_commonDivisor_19 : decode cX7_commonDivisor 19 = .ok (.lrem, 1) := by decide +kernel
theorem dX7_commonDivisor_20 : decode cX7_commonDivisor 20 = .ok (.lstore 5, 2) := by decide +kernel
theorem dX7_commonDivisor_22 : decode cX7_commonDivisor 22 = .ok (.lload_n 2, 1) := by decide +kernel
theorem dX7_commonDivisor_23 : decode cX7_commonDivisor 23 = .ok (.lstore_n 0, 1) := by decide +kernel
theorem dX7_commonDivisor_24 : decode cX7_commonDivisor 24 = .ok (.lload 5, 2) := by decide +kernel
theorem dX7_commonDivisor_26 : decode cX7_commonDivisor 26 = .ok (.lstore_n 2, 1) := by decide +kernel
theorem dX7_commonDivisor_27 : decode cX7_commonDivisor 27 = .ok (.iinc 4 1, 3) := by decide +kernel
theorem dX7_commonDivisor_30 : decode cX7_commonDivisor 30 = .ok (.goto (-27), 3) := by decide +kernel
theorem dX7_commonDivisor_33 : decode cX7_commonDivisor 33 = .ok (.lload_n 0, 1) := by decide +kernel
theorem dX7_commonDivisor_34 : decode cX7_commonDivisor 34 = .ok (.lreturn, 1) := by decide +kernel
theorem dX7_isWithin_0 : decode cX7_isWithin 0 = .ok (.iload_n 0, 1) := by decide +kernel
theorem dX7_isWithin_1 : decode cX7_isWithin 1 = .ok (.iload_n 1, 1) := by decide +kernel
theorem dX7_isWithin_2 : decode cX7_isWithin 2 = .ok (.if_icmp .lt 12, 3) := by decide +kernel
theorem dX7_isWithin_5 : decode cX7_isWithin 5 = .ok (.iload_n 0, 1) := by decide +kernel
theorem dX7_isWithin_6 : decode cX7_isWithin 6 = .ok (.iload_n 2, 1) := by decide +kernel
theorem dX7_isWithin_7 : decode cX7_isWithin 7 = .ok (.if_icmp .gt 7, 3) := by decide +kernel
theorem dX7_isWithin_10 : decode cX7_isWithin 10 = .ok (.iconst 1, 1) := by decide +kernel
theorem dX7_isWithin_11 : decode cX7_isWithin 11 = .ok (.goto 4, 3) := by decide +kernel
theorem dX7_isWithin_14 : decode cX7_isWithin 14 = .ok (.iconst 0, 1) := by decide +kernel
theorem dX7_isWithin_15 : decode cX7_isWithin 15 = .ok (.ireturn, 1) := by decide +kernel
set_option maxRecDepth 20000 in
theorem ggX7_isDay_X7_isWithin : GoodIn wsX7_isDay wsX7_isWithin := goodIn_r _ [4] (by decide +kernel) (by decide +kernel)
set_option maxRecDepth 20000 in
theorem gX7_isDay_X7_isWithin : GoodIn wsX7_isDay (va_wsS RX7 77 yX7_isWithin wsX7_isWithin) := goodIn_app (goodIn_of _ (by decide +kernel)) ggX7_isDay_X7_isWithin
theorem dX7_isDay_0 : decode cX7_isDay 0 = .ok (.iload_n 0, 1) := by decide +kernel
theorem dX7_isDay_1 : decode cX7_isDay 1 = .ok (.iconst 0, 1) := by decide +kernel
theorem dX7_isDay_2 : decode cX7_isDay 2 = .ok (.sipush 30000, 3) := by decide +kernel
theorem dX7_isDay_5 : decode cX7_isDay 5 = .ok (.invokestatic 77, 3) := by decide +kernel
theorem dX7_isDay_8 : decode cX7_isDay 8 = .ok (.ireturn, 1) := by decide +kernel
set_option maxRecDepth 20000 in
theorem ggX7_isYear_X7_isWithin : GoodIn wsX7_isYear wsX7_isWithin := goodIn_r _ [4] (by decide +kernel) (by decide +kernel)
set_option maxRecDepth 20000 in
theorem gX7_isYear_X7_isWithin : GoodIn wsX7_isYear (va_wsS RX7 77 yX7_isWithin wsX7_isWithin) := goodIn_app (goodIn_of _ (by decide +kernel)) ggX7_isYear_X7_isWithin
theorem dX7_isYear_0 : decode cX7_isYear 0 = .ok (.iload_n 0, 1) := by decide +kernel
theorem dX7_isYear_1 : decode cX7_isYear 1 = .ok (.sipush 1000, 3) := by decide +kernel
theorem dX7_isYear_4 : decode cX7_isYear 4 = .ok (.sipush 2100, 3) := by decide +kernel
theorem dX7_isYear_7 : decode cX7_isYear 7 = .ok (.invokestatic 77, 3) := by decide +kernel
theorem dX7_isYear_10 : decode cX7_isYear 10 = .ok (.ireturn, 1) := by decide +kernel
set_option maxRecDepth 20000 in
theorem ggX7_areYears_X7_isYear : GoodIn wsX7_areYears wsX7_isYear := goodIn_r _ [4, 5, 6, 3, 7] (by decide +kernel) (by decide +kernel)
set_option maxRecDepth 20000 in
theorem gX7_areYears_X7_isYear : GoodIn wsX7_areYears (va_wsS RX7 131 yX7_isYear wsX7_isYear) := goodIn_app (goodIn_of _ (by decide +kernel)) ggX7_areYears_X7_isYear
theorem dX7_areYears_0 : decode cX7_areYears 0 = .ok (.iload_n 0, 1) := by decide +kernel
theorem dX7_areYears_1 : decode cX7_areYears 1 = .ok (.invokestatic 131, 3) := by decide +kernel
theorem dX7_areYears_4 : decode cX7_areYears 4 = .ok (.ifCond .eq 19, 3) := by decide +kernel
theorem dX7_areYears_7 : decode cX7_areYears 7 = .ok (.iload_n 1, 1) := by decide +kernel
theorem dX7_areYears_8 : decode cX7_areYears 8 = .ok (.invokestatic 131, 3) := by decide +kernel
theorem dX7_areYears_11 : decode cX7_areYears 11 = .ok (.ifCond .eq 12, 3) := by decide +kernel
theorem dX7_areYears_14 : decode cX7_areYears 14 = .ok (.iload_n 0, 1) := by decide +kernel
theorem dX7_areYears_15 : decode cX7_areYears 15 = .ok (.iload_n 1, 1) := by decide +kernel
theorem dX7_areYears_16 : decode cX7_areYears 16 = .ok (.if_icmp .gt 7, 3) := by decide +kernel
theorem dX7_areYears_19 : decode cX7_areYears 19 = .ok (.iconst 1, 1) := by decide +kernel
theorem dX7_areYears_20 : decode cX7_areYears 20 = .ok (.goto 4, 3) := by decide +kernel
theorem dX7_areYears_23 : decode cX7_areYears 23 = .ok (.iconst 0, 1) := by decide +kernel
theorem dX7_areYears_24 : decode cX7_areYears 24 = .ok (.ireturn, 1) := by decide +kernel
set_option maxRecDepth 20000 in
theorem ggX7_isRow_X7_isWithin : GoodIn wsX7_isRow wsX7_isWithin := goodIn_r _ [4] (by decide +kernel) (by decide +kernel)
set_option maxRecDepth 20000 in
theorem gX7_isRow_X7_isWithin : GoodIn wsX7_isRow (va_wsS RX7 77 yX7_isWithin wsX7_isWithin) := goodIn_app (goodIn_of _ (by decide +kernel)) ggX7_isRow_X7_isWithin
theorem dX7_isRow_0 : decode cX7_isRow 0 = .ok (.iload_n 0, 1) := by decide +kernel
theorem dX7_isRow_1 : decode cX7_isRow 1 = .ok (.iconst 0, 1) := by decide +kernel
theorem dX7_isRow_2 : decode cX7_isRow 2 = .ok (.iconst 5, 1) := by decide +kernel
theorem dX7_isRow_3 : decode cX7_isRow 3 = .ok (.invokestatic 77, 3) := by decide +kernel
theorem dX7_isRow_6 : decode cX7_isRow 6 = .ok (.ireturn, 1) := by decide +kernel
set_option maxRecDepth 20000 in
theorem ggX7_areTwoRows_X7_isRow : GoodIn wsX7_areTwoRows wsX7_isRow := goodIn_r _ [4, 5, 6, 3, 7] (by decide +kernel) (by decide +kernel)
set_option maxRecDepth 20000 in
theorem gX7_areTwoRows_X7_isRow : GoodIn wsX7_areTwoRows (va_wsS RX7 81 yX7_isRow wsX7_isRow) := goodIn_app (goodIn_of _ (by decide +kernel)) ggX7_areTwoRows_X7_isRow
theorem dX7_areTwoRows_0 : decode cX7_areTwoRows 0 = .ok (.iload_n 0, 1) := by decide +kernel
theorem dX7_areTwoRows_1 : decode cX7_areTwoRows 1 = .ok (.invokestatic 81, 3) := by decide +kernel
theorem dX7_areTwoRows_4 : decode cX7_areTwoRows 4 = .ok (.ifCond .eq 19, 3) := by decide +kernel
theorem dX7_areTwoRows_7 : decode cX7_areTwoRows 7 = .ok (.iload_n 1, 1) := by decide +kernel
theorem dX7_areTwoRows_8 : decode cX7_areTwoRows 8 = .ok (.invokestatic 81, 3) := by decide +kernel
theorem dX7_areTwoRows_11 : decode cX7_areTwoRows 11 = .ok (.ifCond .eq 12, 3) := by decide +kernel
theorem dX7_areTwoRows_14 : decode cX7_areTwoRows 14 = .ok (.iload_n 0, 1) := by decide +kernel
theorem dX7_areTwoRows_15 : decode cX7_areTwoRows 15 = .ok (.iload_n 1, 1) := by decide +kernel
theorem dX7_areTwoRows_16 : decode cX7_areTwoRows 16 = .ok (.if_icmp .eq 7, 3) := by decide +kernel
theorem dX7_areTwoRows_19 : decode cX7_areTwoRows 19 = .ok (.iconst 1, 1) := by decide +kernel
theorem dX7_areTwoRows_20 : decode cX7_areTwoRows 20 = .ok (.goto 4, 3) := by decide +kernel
theorem dX7_areTwoRows_23 : decode cX7_areTwoRows 23 = .ok (.iconst 0, 1) := by decide +kernel
theorem dX7_areTwoRows_24 : decode cX7_areTwoRows 24 = .ok (.ireturn, 1) := by decide +kernel
set_option maxRecDepth 20000 in
theorem ggX7_isHand_X7_isWithin : GoodIn wsX7_isHand wsX7_isWithin := goodIn_r _ [4] (by decide +kernel) (by decide +kernel)
set_option maxRecDepth 20000 in
theorem gX7_isHand_X7_isWithin : GoodIn wsX7_isHand (va_wsS RX7 77 yX7_isWithin wsX7_isWithin) := goodIn_app (goodIn_of _ (by decide +kernel)) ggX7_isHand_X7_isWithin
theorem dX7_isHand_0 : decode cX7_isHand 0 = .ok (.iload_n 0, 1) := by decide +kernel
theorem dX7_isHand_1 : decode cX7_isHand 1 = .ok (.iconst 0, 1) := by decide +kernel
theorem dX7_isHand_2 : decode cX7_isHand 2 = .ok (.iconst 3, 1) := by decide +kernel
theorem dX7_isHand_3 : decode cX7_isHand 3 = .ok (.invokestatic 77, 3) := by decide +kernel
theorem dX7_isHand_6 : decode cX7_isHand 6 = .ok (.ireturn, 1) := by decide +kernel
set_option maxRecDepth 20000 in
theorem ggX7_isProofWeight_X7_isWithin : GoodIn wsX7_isProofWeight wsX7_isWithin := goodIn_r _ [4] (by decide +kernel) (by decide +kernel)
set_option maxRecDepth 20000 in
theorem gX7_isProofWeight_X7_isWithin : GoodIn wsX7_isProofWeight (va_wsS RX7 77 yX7_isWithin wsX7_isWithin) := goodIn_app (goodIn_of _ (by decide +kernel)) ggX7_isProofWeight_X7_isWithin
theorem dX7_isProofWeight_0 : decode cX7_isProofWeight 0 = .ok (.iload_n 0, 1) := by decide +kernel
theorem dX7_isProofWeight_1 : decode cX7_isProofWeight 1 = .ok (.iconst 1, 1) := by decide +kernel
theorem dX7_isProofWeight_2 : decode cX7_isProofWeight 2 = .ok (.bipush 9, 2) := by decide +kernel
theorem dX7_isProofWeight_4 : decode cX7_isProofWeight 4 = .ok (.invokestatic 77, 3) := by decide +kernel
theorem dX7_isProofWeight_7 : decode cX7_isProofWeight 7 = .ok (.ireturn, 1) := by decide +kernel
