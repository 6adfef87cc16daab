theorem dX8_often_17 : decode cX8_often 17 = .ok (.bipush 16, 2) := by decide +kernel
theorem dX8_often_19 : decode cX8_often 19 = .ok (.invokestatic 125, 3) := by decide +kernel
theorem dX8_often_22 : decode cX8_often 22 = .ok (.ifCond .ne 5, 3) := by decide +kernel
theorem dX8_often_25 : decode cX8_often 25 = .ok (.iconst (-1), 1) := by decide +kernel
theorem dX8_often_26 : decode cX8_often 26 = .ok (.ireturn, 1) := by decide +kernel
theorem dX8_often_27 : decode cX8_often 27 = .ok (.aload_n 0, 1) := by decide +kernel
theorem dX8_often_28 : decode cX8_often 28 = .ok (.getfield 68, 3) := by decide +kernel
theorem dX8_often_31 : decode cX8_often 31 = .ok (.iload_n 1, 1) := by decide +kernel
theorem dX8_often_32 : decode cX8_often 32 = .ok (.iaload, 1) := by decide +kernel
theorem dX8_often_33 : decode cX8_often 33 = .ok (.bipush (-9), 2) := by decide +kernel
theorem dX8_often_35 : decode cX8_often 35 = .ok (.if_icmp .eq 6, 3) := by decide +kernel
theorem dX8_often_38 : decode cX8_often 38 = .ok (.bipush (-4), 2) := by decide +kernel
theorem dX8_often_40 : decode cX8_often 40 = .ok (.ireturn, 1) := by decide +kernel
theorem dX8_often_41 : decode cX8_often 41 = .ok (.aload_n 0, 1) := by decide +kernel
theorem dX8_often_42 : decode cX8_often 42 = .ok (.getfield 65, 3) := by decide +kernel
theorem dX8_often_45 : decode cX8_often 45 = .ok (.iconst 4, 1) := by decide +kernel
theorem dX8_often_46 : decode cX8_often 46 = .ok (.iload_n 1, 1) := by decide +kernel
theorem dX8_often_47 : decode cX8_often 47 = .ok (.imul, 1) := by decide +kernel
theorem dX8_often_48 : decode cX8_often 48 = .ok (.iload_n 2, 1) := by decide +kernel
theorem dX8_often_49 : decode cX8_often 49 = .ok (.iadd, 1) := by decide +kernel
theorem dX8_often_50 : decode cX8_often 50 = .ok (.iaload, 1) := by decide +kernel
theorem dX8_often_51 : decode cX8_often 51 = .ok (.istore 4, 2) := by decide +kernel
theorem dX8_often_53 : decode cX8_often 53 = .ok (.aload_n 0, 1) := by decide +kernel
theorem dX8_often_54 : decode cX8_often 54 = .ok (.getfield 65, 3) := by decide +kernel
theorem dX8_often_57 : decode cX8_often 57 = .ok (.iconst 4, 1) := by decide +kernel
theorem dX8_often_58 : decode cX8_often 58 = .ok (.iload_n 1, 1) := by decide +kernel
theorem dX8_often_59 : decode cX8_often 59 = .ok (.imul, 1) := by decide +kernel
theorem dX8_often_60 : decode cX8_often 60 = .ok (.iload_n 2, 1) := by decide +kernel
theorem dX8_often_61 : decode cX8_often 61 = .ok (.iadd, 1) := by decide +kernel
theorem dX8_often_62 : decode cX8_often 62 = .ok (.iload_n 3, 1) := by decide +kernel
theorem dX8_often_63 : decode cX8_often 63 = .ok (.iastore, 1) := by decide +kernel
theorem dX8_often_64 : decode cX8_often 64 = .ok (.iload 4, 2) := by decide +kernel
theorem dX8_often_66 : decode cX8_often 66 = .ok (.ireturn, 1) := by decide +kernel
theorem dX8_isGroupDone_0 : decode cX8_isGroupDone 0 = .ok (.iconst 0, 1) := by decide +kernel
theorem dX8_isGroupDone_1 : decode cX8_isGroupDone 1 = .ok (.istore_n 2, 1) := by decide +kernel
theorem dX8_isGroupDone_2 : decode cX8_isGroupDone 2 = .ok (.iconst 0, 1) := by decide +kernel
theorem dX8_isGroupDone_3 : decode cX8_isGroupDone 3 = .ok (.istore_n 3, 1) := by decide +kernel
theorem dX8_isGroupDone_4 : decode cX8_isGroupDone 4 = .ok (.iload_n 3, 1) := by decide +kernel
theorem dX8_isGroupDone_5 : decode cX8_isGroupDone 5 = .ok (.aload_n 0, 1) := by decide +kernel
theorem dX8_isGroupDone_6 : decode cX8_isGroupDone 6 = .ok (.getfield 198, 3) := by decide +kernel
theorem dX8_isGroupDone_9 : decode cX8_isGroupDone 9 = .ok (.if_icmp .ge 56, 3) := by decide +kernel
theorem dX8_isGroupDone_12 : decode cX8_isGroupDone 12 = .ok (.iload_n 2, 1) := by decide +kernel
theorem dX8_isGroupDone_13 : decode cX8_isGroupDone 13 = .ok (.ifCond .ne 40, 3) := by decide +kernel
theorem dX8_isGroupDone_16 : decode cX8_isGroupDone 16 = .ok (.aload_n 0, 1) := by decide +kernel
theorem dX8_isGroupDone_17 : decode cX8_isGroupDone 17 = .ok (.getfield 62, 3) := by decide +kernel
theorem dX8_isGroupDone_20 : decode cX8_isGroupDone 20 = .ok (.iload_n 1, 1) := by decide +kernel
theorem dX8_isGroupDone_21 : decode cX8_isGroupDone 21 = .ok (.iaload, 1) := by decide +kernel
theorem dX8_isGroupDone_22 : decode cX8_isGroupDone 22 = .ok (.bipush (-9), 2) := by decide +kernel
theorem dX8_isGroupDone_24 : decode cX8_isGroupDone 24 = .ok (.if_icmp .eq 33, 3) := by decide +kernel
theorem dX8_isGroupDone_27 : decode cX8_isGroupDone 27 = .ok (.aload_n 0, 1) := by decide +kernel
theorem dX8_isGroupDone_28 : decode cX8_isGroupDone 28 = .ok (.getfield 62, 3) := by decide +kernel
theorem dX8_isGroupDone_31 : decode cX8_isGroupDone 31 = .ok (.iload_n 3, 1) := by decide +kernel
theorem dX8_isGroupDone_32 : decode cX8_isGroupDone 32 = .ok (.iaload, 1) := by decide +kernel
theorem dX8_isGroupDone_33 : decode cX8_isGroupDone 33 = .ok (.aload_n 0, 1) := by decide +kernel
theorem dX8_isGroupDone_34 : decode cX8_isGroupDone 34 = .ok (.getfield 62, 3) := by decide +kernel
theorem dX8_isGroupDone_37 : decode cX8_isGroupDone 37 = .ok (.iload_n 1, 1) := by decide +kernel
theorem dX8_isGroupDone_38 : decode cX8_isGroupDone 38 = .ok (.iaload, 1) := by decide +kernel
theorem dX8_isGroupDone_39 : decode cX8_isGroupDone 39 = .ok (.if_icmp .ne 18, 3) := by decide +kernel
theorem dX8_isGroupDone_42 : decode cX8_isGroupDone 42 = .ok (.aload_n 0, 1) := by decide +kernel
theorem dX8_isGroupDone_43 : decode cX8_isGroupDone 43 = .ok (.getfield 68, 3) := by decide +kernel
theorem dX8_isGroupDone_46 : decode cX8_isGroupDone 46 = .ok (.iload_n 3, 1) := by decide +kernel
theorem dX8_isGroupDone_47 : decode cX8_isGroupDone 47 = .ok (.iaload, 1) := by decide +kernel
theorem dX8_isGroupDone_48 : decode cX8_isGroupDone 48 = .ok (.bipush (-9), 2) := by decide +kernel
theorem dX8_isGroupDone_50 : decode cX8_isGroupDone 50 = .ok (.if_icmp .eq 7, 3) := by decide +kernel
theorem dX8_isGroupDone_53 : decode cX8_isGroupDone 53 = .ok (.iconst 1, 1) := by decide +kernel
theorem dX8_isGroupDone_54 : decode cX8_isGroupDone 54 = .ok (.goto 4, 3) := by decide +kernel
theorem dX8_isGroupDone_57 : decode cX8_isGroupDone 57 = .ok (.iconst 0, 1) := by decide +kernel
theorem dX8_isGroupDone_58 : decode cX8_isGroupDone 58 = .ok (.istore_n 2, 1) := by decide +kernel
theorem dX8_isGroupDone_59 : decode cX8_isGroupDone 59 = .ok (.iinc 3 1, 3) := by decide +kernel
theorem dX8_isGroupDone_62 : decode cX8_isGroupDone 62 = .ok (.goto (-58), 3) := by decide +kernel
theorem dX8_isGroupDone_65 : decode cX8_isGroupDone 65 = .ok (.iload_n 2, 1) := by decide +kernel
theorem dX8_isGroupDone_66 : decode cX8_isGroupDone 66 = .ok (.ireturn, 1) := by decide +kernel
set_option maxRecDepth 20000 in
theorem ggX8_done_X8_isTest : GoodIn wsX8_done wsX8_isTest := goodIn_r _ [7, 8, 9, 10, 6, 11, 17, 18, 19, 20, 21, 22, 23, 24, 25, 26, 27, 28, 29, 30, 31, 32, 33, 34, 35, 36, 37, 38, 39, 40, 41, 42, 43, 44, 45, 46, 47, 48, 49, 50, 51, 52, 53, 54, 55, 56, 57, 58, 59, 60, 61, 62, 63] (by decide +kernel) (by decide +kernel)
set_option maxRecDepth 20000 in
theorem gX8_done_X8_isTest : GoodIn wsX8_done (wsV RX8 204 RX8 yX8_isTest wsX8_isTest) := goodIn_app (goodIn_of _ (by decide +kernel)) ggX8_done_X8_isTest
set_option maxRecDepth 20000 in
theorem ggX8_done_X8_isGroupDone : GoodIn wsX8_done wsX8_isGroupDone := goodIn_r _ [15, 8, 16, 1, 17, 18, 19, 20, 21, 22, 23, 24, 25, 26, 27, 28, 29, 30, 31, 32, 33, 34, 35, 36, 37, 38, 39, 40, 41, 42, 43, 44, 45, 46, 47, 48, 49, 50, 51, 52, 53, 54, 55, 56, 57, 58, 59, 60, 61, 62, 63] (by decide +kernel) (by decide +kernel)
set_option maxRecDepth 20000 in
theorem gX8_done_X8_isGroupDone : GoodIn wsX8_done (wsV RX8 207 RX8 yX8_isGroupDone wsX8_isGroupDone) := goodIn_app (goodIn_of _ (by decide +kernel)) ggX8_done_X8_isGroupDone
theorem dX8_done_0 : decode cX8_done 0 = .ok (.aload_n 0, 1) := by decide +kernel
theorem dX8_done_1 : decode cX8_done 1 = .ok (.iload_n 1, 1) := by decide +kernel
theorem dX8_done_2 : decode cX8_done 2 = .ok (.invokevirtual 204, 3) := by decide +kernel
theorem dX8_done_5 : decode cX8_done 5 = .ok (.ifCond .ne 5, 3) := by decide +kernel
theorem dX8_done_8 : decode cX8_done 8 = .ok (.iconst (-1), 1) := by decide +kernel
theorem dX8_done_9 : decode cX8_done 9 = .ok (.ireturn, 1) := by decide +kernel
theorem dX8_done_10 : decode cX8_done 10 = .ok (.aload_n 0, 1) := by decide +kernel
theorem dX8_done_11 : decode cX8_done 11 = .ok (.getfield 68, 3) := by decide +kernel
theorem dX8_done_14 : decode cX8_done 14 = .ok (.iload_n 1, 1) := by decide +kernel
theorem dX8_done_15 : decode cX8_done 15 = .ok (.iaload, 1) := by decide +kernel
theorem dX8_done_16 : decode cX8_done 16 = .ok (.bipush (-9), 2) := by decide +kernel
theorem dX8_done_18 : decode cX8_done 18 = .ok (.if_icmp .eq 6, 3) := by decide +kernel
theorem dX8_done_21 : decode cX8_done 21 = .ok (.bipush (-4), 2) := by decide +kernel
theorem dX8_done_23 : decode cX8_done 23 = .ok (.ireturn, 1) := by decide +kernel
theorem dX8_done_24 : decode cX8_done 24 = .ok (.aload_n 0, 1) := by decide +kernel
theorem dX8_done_25 : decode cX8_done 25 = .ok (.getfield 71, 3) := by decide +kernel
theorem dX8_done_28 : decode cX8_done 28 = .ok (.iload_n 1, 1) := by decide +kernel
theorem dX8_done_29 : decode cX8_done 29 = .ok (.aload_n 0, 1) := by decide +kernel
theorem dX8_done_30 : decode cX8_done 30 = .ok (.iload_n 1, 1) := by decide +kernel
theorem dX8_done_31 : decode cX8_done 31 = .ok (.invokevirtual 207, 3) := by decide +kernel
theorem dX8_done_34 : decode cX8_done 34 = .ok (.ifCond .ne 7, 3) := by decide +kernel
theorem dX8_done_37 : decode cX8_done 37 = .ok (.iconst 1, 1) := by decide +kernel
theorem dX8_done_38 : decode cX8_done 38 = .ok (.goto 4, 3) := by decide +kernel
theorem dX8_done_41 : decode cX8_done 41 = .ok (.iconst 0, 1) := by decide +kernel
theorem dX8_done_42 : decode cX8_done 42 = .ok (.bastore, 1) := by decide +kernel
theorem dX8_done_43 : decode cX8_done 43 = .ok (.aload_n 0, 1) := by decide +kernel
theorem dX8_done_44 : decode cX8_done 44 = .ok (.getfield 68, 3) := by decide +kernel
theorem dX8_done_47 : decode cX8_done 47 = .ok (.iload_n 1, 1) := by decide +kernel
theorem dX8_done_48 : decode cX8_done 48 = .ok (.iload_n 2, 1) := by decide +kernel
theorem dX8_done_49 : decode cX8_done 49 = .ok (.ifCond .eq 7, 3) := by decide +kernel
theorem dX8_done_52 : decode cX8_done 52 = .ok (.iconst 1, 1) := by decide +kernel
theorem dX8_done_53 : decode cX8_done 53 = .ok (.goto 4, 3) := by decide +kernel
theorem dX8_done_56 : decode cX8_done 56 = .ok (.iconst 0, 1) := by decide +kernel
theorem dX8_done_57 : decode cX8_done 57 = .ok (.iastore, 1) := by decide +kernel
theorem dX8_done_58 : decode cX8_done 58 = .ok (.aload_n 0, 1) := by decide +kernel
theorem dX8_done_59 : decode cX8_done 59 = .ok (.getfield 71, 3) := by decide +kernel
theorem dX8_done_62 : decode cX8_done 62 = .ok (.iload_n 1, 1) := by decide +kernel
theorem dX8_done_63 : decode cX8_done 63 = .ok (.baload, 1) := by decide +kernel
theorem dX8_done_64 : decode cX8_done 64 = .ok (.ifCond .eq 7, 3) := by decide +kernel
theorem dX8_done_67 : decode cX8_done 67 = .ok (.iconst 1, 1) := by decide +kernel
theorem dX8_done_68 : decode cX8_done 68 = .ok (.goto 4, 3) := by decide +kernel
theorem dX8_done_71 : decode cX8_done 71 = .ok (.iconst 0, 1) := by decide +kernel
theorem dX8_done_72 : decode cX8_done 72 = .ok (.ireturn, 1) := by decide +kernel
theorem dX8_scoreOf_0 : decode cX8_scoreOf 0 = .ok (.aload_n 0, 1) := by decide +kernel
theorem dX8_scoreOf_1 : decode cX8_scoreOf 1 = .ok (.getfield 53, 3) := by decide +kernel
theorem dX8_scoreOf_4 : decode cX8_scoreOf 4 = .ok (.iload_n 1, 1) := by decide +kernel
theorem dX8_scoreOf_5 : decode cX8_scoreOf 5 = .ok (.iaload, 1) := by decide +kernel
theorem dX8_scoreOf_6 : decode cX8_scoreOf 6 = .ok (.i2l, 1) := by decide +kernel
theorem dX8_scoreOf_7 : decode cX8_scoreOf 7 = .ok (.lstore_n 2, 1) := by decide +kernel
theorem dX8_scoreOf_8 : decode cX8_scoreOf 8 = .ok (.iconst 0, 1) := by decide +kernel
theorem dX8_scoreOf_9 : decode cX8_scoreOf 9 = .ok (.istore 4, 2) := by decide +kernel
theorem dX8_scoreOf_11 : decode cX8_scoreOf 11 = .ok (.iload 4, 2) := by decide +kernel
theorem dX8_scoreOf_13 : decode cX8_scoreOf 13 = .ok (.aload_n 0, 1) := by decide +kernel
theorem dX8_scoreOf_14 : decode cX8_scoreOf 14 = .ok (.getfield 198, 3) := by decide +kernel
theorem dX8_scoreOf_17 : decode cX8_scoreOf 17 = .ok (.if_icmp .ge 62, 3) := by decide +kernel
theorem dX8_scoreOf_20 : decode cX8_scoreOf 20 = .ok (.aload_n 0, 1) := by decide +kernel
theorem dX8_scoreOf_21 : decode cX8_scoreOf 21 = .ok (.getfield 65, 3) := by decide +kernel
theorem dX8_scoreOf_24 : decode cX8_scoreOf 24 = .ok (.iconst 4, 1) := by decide +kernel
theorem dX8_scoreOf_25 : decode cX8_scoreOf 25 = .ok (.iload 4, 2) := by decide +kernel
theorem dX8_scoreOf_27 : decode cX8_scoreOf 27 = .ok (.imul, 1) := by decide +kernel
theorem dX8_scoreOf_28 : decode cX8_scoreOf 28 = .ok (.iload_n 1, 1) := by decide +kernel
theorem dX8_scoreOf_29 : decode cX8_scoreOf 29 = .ok (.iadd, 1) := by decide +kernel
theorem dX8_scoreOf_30 : decode cX8_scoreOf 30 = .ok (.iaload, 1) := by decide +kernel
theorem dX8_scoreOf_31 : decode cX8_scoreOf 31 = .ok (.istore 5, 2) := by decide +kernel
theorem dX8_scoreOf_33 : decode cX8_scoreOf 33 = .ok (.lload_n 2, 1) := by decide +kernel
theorem dX8_scoreOf_34 : decode cX8_scoreOf 34 = .ok (.aload_n 0, 1) := by decide +kernel
theorem dX8_scoreOf_35 : decode cX8_scoreOf 35 = .ok (.getfield 71, 3) := by decide +kernel
theorem dX8_scoreOf_38 : decode cX8_scoreOf 38 = .ok (.iload 4, 2) := by decide +kernel
theorem dX8_scoreOf_40 : decode cX8_scoreOf 40 = .ok (.baload, 1) := by decide +kernel
theorem dX8_scoreOf_41 : decode cX8_scoreOf 41 = .ok (.ifCond .ne 7, 3) := by decide +kernel
theorem dX8_scoreOf_44 : decode cX8_scoreOf 44 = .ok (.lconst 1, 1) := by decide +kernel
theorem dX8_scoreOf_45 : decode cX8_scoreOf 45 = .ok (.goto 26, 3) := by decide +kernel
theorem dX8_scoreOf_48 : decode cX8_scoreOf 48 = .ok (.aload_n 0, 1) := by decide +kernel
theorem dX8_scoreOf_49 : decode cX8_scoreOf 49 = .ok (.getfield 68, 3) := by decide +kernel
theorem dX8_scoreOf_52 : decode cX8_scoreOf 52 = .ok (.iload 4, 2) := by decide +kernel
theorem dX8_scoreOf_54 : decode cX8_scoreOf 54 = .ok (.iaload, 1) := by decide +kernel
theorem dX8_scoreOf_55 : decode cX8_scoreOf 55 = .ok (.iconst 1, 1) := by decide +kernel
theorem dX8_scoreOf_56 : decode cX8_scoreOf 56 = .ok (.if_icmp .ne 9, 3) := by decide +kernel
theorem dX8_scoreOf_59 : decode cX8_scoreOf 59 = .ok (.iload 5, 2) := by decide +kernel
theorem dX8_scoreOf_61 : decode cX8_scoreOf 61 = .ok (.i2l, 1) := by decide +kernel
theorem dX8_scoreOf_62 : decode cX8_scoreOf 62 = .ok (.goto 9, 3) := by decide +kernel
theorem dX8_scoreOf_65 : decode cX8_scoreOf 65 = .ok (.bipush 16, 2) := by decide +kernel
theorem dX8_scoreOf_67 : decode cX8_scoreOf 67 = .ok (.iload 5, 2) := by decide +kernel
theorem dX8_scoreOf_69 : decode cX8_scoreOf 69 = .ok (.isub, 1) := by decide +kernel
theorem dX8_scoreOf_70 : decode cX8_scoreOf 70 = .ok (.i2l, 1) := by decide +kernel
theorem dX8_scoreOf_71 : decode cX8_scoreOf 71 = .ok (.lmul, 1) := by decide +kernel
theorem dX8_scoreOf_72 : decode cX8_scoreOf 72 = .ok (.lstore_n 2, 1) := by decide +kernel
theorem dX8_scoreOf_73 : decode cX8_scoreOf 73 = .ok (.iinc 4 1, 3) := by decide +kernel
theorem dX8_scoreOf_76 : decode cX8_scoreOf 76 = .ok (.goto (-65), 3) := by decide +kernel
theorem dX8_scoreOf_79 : decode cX8_scoreOf 79 = .ok (.lload_n 2, 1) := by decide +kernel
theorem dX8_scoreOf_80 : decode cX8_scoreOf 80 = .ok (.lreturn, 1) := by decide +kernel
set_option maxRecDepth 20000 in
theorem ggX8_allScores_X8_scoreOf : GoodIn wsX8_allScores wsX8_scoreOf := goodIn_r _ [5, 6, 7, 8, 9, 10, 11, 12, 13, 14, 15, 16, 17, 18, 19, 20, 21, 22, 23, 24, 25, 26, 27, 28, 29, 30, 31, 32, 33, 34, 35, 36, 37, 38, 39, 40, 41, 42, 43, 44, 45, 46, 47, 48, 49, 50, 51, 52, 53, 54, 55, 56, 57] (by decide +kernel) (by decide +kernel)
set_option maxRecDepth 20000 in
theorem gX8_allScores_X8_scoreOf : GoodIn wsX8_allScores (wsV RX8 210 RX8 yX8_scoreOf wsX8_scoreOf) := goodIn_app (goodIn_of _ (by decide +kernel)) ggX8_allScores_X8_scoreOf
theorem dX8_allScores_0 : decode cX8_allScores 0 = .ok (.aload_n 0, 1) := by decide +kernel
theorem dX8_allScores_1 : decode cX8_allScores 1 = .ok (.iconst 0, 1) := by decide +kernel
theorem dX8_allScores_2 : decode cX8_allScores 2 = .ok (.invokevirtual 210, 3) := by decide +kernel
theorem dX8_allScores_5 : decode cX8_allScores 5 = .ok (.aload_n 0, 1) := by decide +kernel
theorem dX8_allScores_6 : decode cX8_allScores 6 = .ok (.iconst 1, 1) := by decide +kernel
theorem dX8_allScores_7 : decode cX8_allScores 7 = .ok (.invokevirtual 210, 3) := by decide +kernel
theorem dX8_allScores_10 : decode cX8_allScores 10 = .ok (.ladd, 1) := by decide +kernel
theorem dX8_allScores_11 : decode cX8_allScores 11 = .ok (.aload_n 0, 1) := by decide +kernel
theorem dX8_allScores_12 : decode cX8_allScores 12 = .ok (.iconst 2, 1) := by decide +kernel
theorem dX8_allScores_13 : decode cX8_allScores 13 = .ok (.invokevirtual 210, 3) := by decide +kernel
theorem dX8_allScores_16 : decode cX8_allScores 16 = .ok (.ladd, 1) := by decide +kernel
theorem dX8_allScores_17 : decode cX8_allScores 17 = .ok (.aload_n 0, 1) := by decide +kernel
theorem dX8_allScores_18 : decode cX8_allScores 18 = .ok (.iconst 3, 1) := by decide +kernel
theorem dX8_allScores_19 : decode cX8_allScores 19 = .ok (.invokevirtual 210, 3) := by decide +kernel
theorem dX8_allScores_22 : decode cX8_allScores 22 = .ok (.ladd, 1) := by decide +kernel
theorem dX8_allScores_23 : decode cX8_allScores 23 = .ok (.lreturn, 1) := by decide +kernel
set_option maxRecDepth 20000 in
theorem ggX8_chance_X8_isHand : GoodIn wsX8_chance wsX8_isHand := goodIn_r _ [4, 5, 6, 3, 7] (by decide +kernel) (by decide +kernel)
set_option maxRecDepth 20000 in
theorem gX8_chance_X8_isHand : GoodIn wsX8_chance (va_wsS RX8 201 yX8_isHand wsX8_isHand) := goodIn_app (goodIn_of _ (by decide +kernel)) ggX8_chance_X8_isHand
set_option maxRecDepth 20000 in
theorem ggX8_chance_X8_allScores : GoodIn wsX8_chance wsX8_allScores := goodIn_r _ [11, 12, 13, 14, 3, 15, 16, 17, 18, 19, 20, 33, 34, 35, 36, 37, 38, 39, 40, 41, 42, 43, 44, 45, 46, 47, 48, 49, 50, 51, 52, 53, 54, 55, 56, 57, 58, 59, 60, 61, 62, 63, 64, 65, 66, 67, 68, 69, 70, 71, 72, 73, 74, 75, 76, 77, 78, 79] (by decide +kernel) (by decide +kernel)
set_option maxRecDepth 20000 in
theorem gX8_chance_X8_allScores : GoodIn wsX8_chance (wsV RX8 214 RX8 yX8_allScores wsX8_allScores) := goodIn_app (goodIn_of _ (by decide +kernel)) ggX8_chance_X8_allScores
set_option maxRecDepth 20000 in
theorem ggX8_chance_X8_meets : GoodIn wsX8_chance wsX8_meets := goodIn_r _ [24, 25, 26, 33, 34, 35, 36, 37, 38, 39, 40, 41, 42, 43, 44, 45, 46, 47, 48, 49, 50, 51, 52, 53, 54, 55, 56, 57, 58, 59, 60, 61, 62, 63, 64, 65, 66, 67, 68, 69, 70, 71, 72, 73, 74, 75, 76, 77, 78, 79] (by decide +kernel) (by decide +kernel)
set_option maxRecDepth 20000 in
theorem gX8_chance_X8_meets : GoodIn wsX8_chance (wsV RX8 142 RX8 yX8_meets wsX8_meets) := goodIn_app (goodIn_of _ (by decide +kernel)) ggX8_chance_X8_meets
set_option maxRecDepth 20000 in
theorem ggX8_chance_X8_scoreOf : GoodIn wsX8_chance wsX8_scoreOf := goodIn_r _ [15, 16, 17, 18, 19, 20, 33, 34, 35, 36, 37, 38, 39, 40, 41, 42, 43, 44, 45, 46, 47, 48, 49, 50, 51, 52, 53, 54, 55, 56, 57, 58, 59, 60, 61, 62, 63, 64, 65, 66, 67, 68, 69, 70, 71, 72, 73, 74, 75, 76, 77, 78, 79] (by decide +kernel) (by decide +kernel)
set_option maxRecDepth 20000 in
theorem gX8_chance_X8_scoreOf : GoodIn wsX8_chance (wsV RX8 210 RX8 yX8_scoreOf wsX8_scoreOf) := goodIn_app (goodIn_of _ (by decide +kernel)) ggX8_chance_X8_scoreOf
set_option maxRecDepth 20000 in
theorem ggX8_chance_X8_fraction : GoodIn wsX8_chance wsX8_fraction := goodIn_r _ [30, 31, 32, 33, 34, 35, 36, 37, 38, 39, 40, 41, 42, 43, 44, 45, 46, 47, 48, 49, 50, 51, 52, 53, 54, 55, 56, 57, 58, 59, 60, 61, 62, 63, 64, 65, 66, 67, 68, 69, 70, 71, 72, 73, 74, 75, 76, 77, 78, 79] (by decide +kernel) (by decide +kernel)
set_option maxRecDepth 20000 in
theorem gX8_chance_X8_fraction : GoodIn wsX8_chance (wsV RX8 218 RX8 yX8_fraction wsX8_fraction) := goodIn_app (goodIn_of _ (by decide +kernel)) ggX8_chance_X8_fraction
theorem dX8_chance_0 : decode cX8_chance 0 = .ok (.iload_n 1, 1) := by decide +kernel
theorem dX8_chance_1 : decode cX8_chance 1 = .ok (.invokestatic 201, 3) := by decide +kernel
theorem dX8_chance_4 : decode cX8_chance 4 = .ok (.ifCond .ne 5, 3) := by decide +kernel
theorem dX8_chance_7 : decode cX8_chance 7 = .ok (.iconst (-1), 1) := by decide +kernel
theorem dX8_chance_8 : decode cX8_chance 8 = .ok (.ireturn, 1) := by decide +kernel
theorem dX8_chance_9 : decode cX8_chance 9 = .ok (.aload_n 0, 1) := by decide +kernel
theorem dX8_chance_10 : decode cX8_chance 10 = .ok (.invokevirtual 214, 3) := by decide +kernel
theorem dX8_chance_13 : decode cX8_chance 13 = .ok (.lconst 0, 1) := by decide +kernel
theorem dX8_chance_14 : decode cX8_chance 14 = .ok (.lcmp, 1) := by decide +kernel
theorem dX8_chance_15 : decode cX8_chance 15 = .ok (.ifCond .ne 11, 3) := by decide +kernel
theorem dX8_chance_18 : decode cX8_chance 18 = .ok (.aload_n 0, 1) := by decide +kernel
theorem dX8_chance_19 : decode cX8_chance 19 = .ok (.iconst 4, 1) := by decide +kernel
theorem dX8_chance_20 : decode cX8_chance 20 = .ok (.invokevirtual 142, 3) := by decide +kernel
theorem dX8_chance_23 : decode cX8_chance 23 = .ok (.goto 17, 3) := by decide +kernel
theorem dX8_chance_26 : decode cX8_chance 26 = .ok (.aload_n 0, 1) := by decide +kernel
theorem dX8_chance_27 : decode cX8_chance 27 = .ok (.aload_n 0, 1) := by decide +kernel
theorem dX8_chance_28 : decode cX8_chance 28 = .ok (.iload_n 1, 1) := by decide +kernel
theorem dX8_chance_29 : decode cX8_chance 29 = .ok (.invokevirtual 210, 3) := by decide +kernel
theorem dX8_chance_32 : decode cX8_chance 32 = .ok (.aload_n 0, 1) := by decide +kernel
theorem dX8_chance_33 : decode cX8_chance 33 = .ok (.invokevirtual 214, 3) := by decide +kernel
theorem dX8_chance_36 : decode cX8_chance 36 = .ok (.iconst 1, 1) := by decide +kernel
theorem dX8_chance_37 : decode cX8_chance 37 = .ok (.invokevirtual 218, 3) := by decide +kernel
theorem dX8_chance_40 : decode cX8_chance 40 = .ok (.ireturn, 1) := by decide +kernel
set_option maxRecDepth 20000 in
theorem ggX8_likely_X8_allScores : GoodIn wsX8_likely wsX8_allScores := goodIn_r _ [5, 6, 7, 8, 4, 9, 10, 11, 12, 13, 14, 21, 22, 23, 24, 25, 26, 27, 28, 29, 30, 31, 32, 33, 34, 35, 36, 37, 38, 39, 40, 41, 42, 43, 44, 45, 46, 47, 48, 49, 50, 51, 52, 53, 54, 55, 56, 57, 58, 59, 60, 61, 62, 63, 64, 65, 66, 67] (by decide +kernel) (by decide +kernel)
set_option maxRecDepth 20000 in
theorem gX8_likely_X8_allScores : GoodIn wsX8_likely (wsV RX8 214 RX8 yX8_allScores wsX8_allScores) := goodIn_app (goodIn_of _ (by decide +kernel)) ggX8_likely_X8_allScores
set_option maxRecDepth 20000 in
theorem ggX8_likely_X8_meets : GoodIn wsX8_likely wsX8_meets := goodIn_r _ [18, 19, 20, 21, 22, 23, 24, 25, 26, 27, 28, 29, 30, 31, 32, 33, 34, 35, 36, 37, 38, 39, 40, 41, 42, 43, 44, 45, 46, 47, 48, 49, 50, 51, 52, 53, 54, 55, 56, 57, 58, 59, 60, 61, 62, 63, 64, 65, 66, 67] (by decide +kernel) (by decide +kernel)
set_option maxRecDepth 20000 in
theorem gX8_likely_X8_meets : GoodIn wsX8_likely (wsV RX8 142 RX8 yX8_meets wsX8_meets) := goodIn_app (goodIn_of _ (by decide +kernel)) ggX8_likely_X8_meets
set_option maxRecDepth 20000 in
theorem ggX8_likely_X8_scoreOf : GoodIn wsX8_likely wsX8_scoreOf := goodIn_r _ [9, 10, 11, 12, 13, 14, 21, 22, 23, 24, 25, 26, 27, 28, 29, 30, 31, 32, 33, 34, 35, 36, 37, 38, 39, 40, 41, 42, 43, 44, 45, 46, 47, 48, 49, 50, 51, 52, 53, 54, 55, 56, 57, 58, 59, 60, 61, 62, 63, 64, 65, 66, 67] (by decide +kernel) (by decide +kernel)
set_option maxRecDepth 20000 in
theorem gX8_likely_X8_scoreOf : GoodIn wsX8_likely (wsV RX8 210 RX8 yX8_scoreOf wsX8_scoreOf) := goodIn_app (goodIn_of _ (by decide +kernel)) ggX8_likely_X8_scoreOf
theorem dX8_likely_0 : decode cX8_likely 0 = .ok (.aload_n 0, 1) := by decide +kernel
theorem dX8_likely_1 : decode cX8_likely 1 = .ok (.invokevirtual 214, 3) := by decide +kernel
theorem dX8_likely_4 : decode cX8_likely 4 = .ok (.lconst 0, 1) := by decide +kernel
theorem dX8_likely_5 : decode cX8_likely 5 = .ok (.lcmp, 1) := by decide +kernel
theorem dX8_likely_6 : decode cX8_likely 6 = .ok (.ifCond .ne 9, 3) := by decide +kernel
theorem dX8_likely_9 : decode cX8_likely 9 = .ok (.aload_n 0, 1) := by decide +kernel
theorem dX8_likely_10 : decode cX8_likely 10 = .ok (.iconst 4, 1) := by decide +kernel
theorem dX8_likely_11 : decode cX8_likely 11 = .ok (.invokevirtual 142, 3) := by decide +kernel
theorem dX8_likely_14 : decode cX8_likely 14 = .ok (.ireturn, 1) := by decide +kernel
theorem dX8_likely_15 : decode cX8_likely 15 = .ok (.iconst 0, 1) := by decide +kernel
theorem dX8_likely_16 : decode cX8_likely 16 = .ok (.istore_n 1, 1) := by decide +kernel
theorem dX8_likely_17 : decode cX8_likely 17 = .ok (.iconst 1, 1) := by decide +kernel
theorem dX8_likely_18 : decode cX8_likely 18 = .ok (.istore_n 2, 1) := by decide +kernel
theorem dX8_likely_19 : decode cX8_likely 19 = .ok (.iload_n 2, 1) := by decide +kernel
theorem dX8_likely_20 : decode cX8_likely 20 = .ok (.iconst 4, 1) := by decide +kernel
theorem dX8_likely_21 : decode cX8_likely 21 = .ok (.if_icmp .ge 29, 3) := by decide +kernel
theorem dX8_likely_24 : decode cX8_likely 24 = .ok (.aload_n 0, 1) := by decide +kernel
theorem dX8_likely_25 : decode cX8_likely 25 = .ok (.iload_n 2, 1) := by decide +kernel
theorem dX8_likely_26 : decode cX8_likely 26 = .ok (.invokevirtual 210, 3) := by decide +kernel
theorem dX8_likely_29 : decode cX8_likely 29 = .ok (.aload_n 0, 1) := by decide +kernel
theorem dX8_likely_30 : decode cX8_likely 30 = .ok (.iload_n 1, 1) := by decide +kernel
theorem dX8_likely_31 : decode cX8_likely 31 = .ok (.invokevirtual 210, 3) := by decide +kernel
theorem dX8_likely_34 : decode cX8_likely 34 = .ok (.lcmp, 1) := by decide +kernel
theorem dX8_likely_35 : decode cX8_likely 35 = .ok (.ifCond .le 7, 3) := by decide +kernel
theorem dX8_likely_38 : decode cX8_likely 38 = .ok (.iload_n 2, 1) := by decide +kernel
theorem dX8_likely_39 : decode cX8_likely 39 = .ok (.goto 4, 3) := by decide +kernel
theorem dX8_likely_42 : decode cX8_likely 42 = .ok (.iload_n 1, 1) := by decide +kernel
theorem dX8_likely_43 : decode cX8_likely 43 = .ok (.istore_n 1, 1) := by decide +kernel
theorem dX8_likely_44 : decode cX8_likely 44 = .ok (.iinc 2 1, 3) := by decide +kernel
theorem dX8_likely_47 : decode cX8_likely 47 = .ok (.goto (-28), 3) := by decide +kernel
theorem dX8_likely_50 : decode cX8_likely 50 = .ok (.iload_n 1, 1) := by decide +kernel
theorem dX8_likely_51 : decode cX8_likely 51 = .ok (.ireturn, 1) := by decide +kernel
set_option maxRecDepth 20000 in
theorem ggX8_gainOf_X8_scoreOf : GoodIn wsX8_gainOf wsX8_scoreOf := goodIn_r _ [7, 8, 9, 1, 10, 11, 12, 13, 14, 15, 16, 17, 18, 19, 20, 21, 22, 23, 24, 25, 26, 27, 28, 29, 30, 31, 32, 33, 34, 35, 36, 37, 38, 39, 40, 41, 42, 43, 44, 45, 46, 47, 48, 49, 50, 51, 52, 53, 54, 55, 56, 57, 58] (by decide +kernel) (by decide +kernel)
set_option maxRecDepth 20000 in
theorem gX8_gainOf_X8_scoreOf : GoodIn wsX8_gainOf (wsV RX8 210 RX8 yX8_scoreOf wsX8_scoreOf) := goodIn_app (goodIn_of _ (by decide +kernel)) ggX8_gainOf_X8_scoreOf
theorem dX8_gainOf_0 : decode cX8_gainOf 0 = .ok (.lconst 0, 1) := by decide +kernel
theorem dX8_gainOf_1 : decode cX8_gainOf 1 = .ok (.lstore_n 2, 1) := by decide +kernel
theorem dX8_gainOf_2 : decode cX8_gainOf 2 = .ok (.lconst 0, 1) := by decide +kernel
theorem dX8_gainOf_3 : decode cX8_gainOf 3 = .ok (.lstore 4, 2) := by decide +kernel
theorem dX8_gainOf_5 : decode cX8_gainOf 5 = .ok (.lconst 0, 1) := by decide +kernel
theorem dX8_gainOf_6 : decode cX8_gainOf 6 = .ok (.lstore 6, 2) := by decide +kernel
theorem dX8_gainOf_8 : decode cX8_gainOf 8 = .ok (.iconst 0, 1) := by decide +kernel
theorem dX8_gainOf_9 : decode cX8_gainOf 9 = .ok (.istore 8, 2) := by decide +kernel
theorem dX8_gainOf_11 : decode cX8_gainOf 11 = .ok (.iload 8, 2) := by decide +kernel
theorem dX8_gainOf_13 : decode cX8_gainOf 13 = .ok (.iconst 4, 1) := by decide +kernel
theorem dX8_gainOf_14 : decode cX8_gainOf 14 = .ok (.if_icmp .ge 100, 3) := by decide +kernel
theorem dX8_gainOf_17 : decode cX8_gainOf 17 = .ok (.aload_n 0, 1) := by decide +kernel
theorem dX8_gainOf_18 : decode cX8_gainOf 18 = .ok (.iload 8, 2) := by decide +kernel
theorem dX8_gainOf_20 : decode cX8_gainOf 20 = .ok (.invokevirtual 210, 3) := by decide +kernel
theorem dX8_gainOf_23 : decode cX8_gainOf 23 = .ok (.lstore 9, 2) := by decide +kernel
theorem dX8_gainOf_25 : decode cX8_gainOf 25 = .ok (.aload_n 0, 1) := by decide +kernel
theorem dX8_gainOf_26 : decode cX8_gainOf 26 = .ok (.getfield 65, 3) := by decide +kernel
theorem dX8_gainOf_29 : decode cX8_gainOf 29 = .ok (.iconst 4, 1) := by decide +kernel
theorem dX8_gainOf_30 : decode cX8_gainOf 30 = .ok (.iload_n 1, 1) := by decide +kernel
theorem dX8_gainOf_31 : decode cX8_gainOf 31 = .ok (.imul, 1) := by decide +kernel
theorem dX8_gainOf_32 : decode cX8_gainOf 32 = .ok (.iload 8, 2) := by decide +kernel
theorem dX8_gainOf_34 : decode cX8_gainOf 34 = .ok (.iadd, 1) := by decide +kernel
theorem dX8_gainOf_35 : decode cX8_gainOf 35 = .ok (.iaload, 1) := by decide +kernel
theorem dX8_gainOf_36 : decode cX8_gainOf 36 = .ok (.istore 11, 2) := by decide +kernel
theorem dX8_gainOf_38 : decode cX8_gainOf 38 = .ok (.lload 9, 2) := by decide +kernel
theorem dX8_gainOf_40 : decode cX8_gainOf 40 = .ok (.iload 11, 2) := by decide +kernel
theorem dX8_gainOf_42 : decode cX8_gainOf 42 = .ok (.i2l, 1) := by decide +kernel
theorem dX8_gainOf_43 : decode cX8_gainOf 43 = .ok (.lmul, 1) := by decide +kernel
theorem dX8_gainOf_44 : decode cX8_gainOf 44 = .ok (.lload_n 2, 1) := by decide +kernel
theorem dX8_gainOf_45 : decode cX8_gainOf 45 = .ok (.lcmp, 1) := by decide +kernel
theorem dX8_gainOf_46 : decode cX8_gainOf 46 = .ok (.ifCond .le 12, 3) := by decide +kernel
theorem dX8_gainOf_49 : decode cX8_gainOf 49 = .ok (.lload 9, 2) := by decide +kernel
theorem dX8_gainOf_51 : decode cX8_gainOf 51 = .ok (.iload 11, 2) := by decide +kernel
theorem dX8_gainOf_53 : decode cX8_gainOf 53 = .ok (.i2l, 1) := by decide +kernel
theorem dX8_gainOf_54 : decode cX8_gainOf 54 = .ok (.lmul, 1) := by decide +kernel
theorem dX8_gainOf_55 : decode cX8_gainOf 55 = .ok (.goto 4, 3) := by decide +kernel
theorem dX8_gainOf_58 : decode cX8_gainOf 58 = .ok (.lload_n 2, 1) := by decide +kernel
theorem dX8_gainOf_59 : decode cX8_gainOf 59 = .ok (.lstore_n 2, 1) := by decide +kernel
theorem dX8_gainOf_60 : decode cX8_gainOf 60 = .ok (.lload 9, 2) := by decide +kernel
theorem dX8_gainOf_62 : decode cX8_gainOf 62 = .ok (.bipush 16, 2) := by decide +kernel
theorem dX8_gainOf_64 : decode cX8_gainOf 64 = .ok (.iload 11, 2) := by decide +kernel
theorem dX8_gainOf_66 : decode cX8_gainOf 66 = .ok (.isub, 1) := by decide +kernel
theorem dX8_gainOf_67 : decode cX8_gainOf 67 = .ok (.i2l, 1) := by decide +kernel
theorem dX8_gainOf_68 : decode cX8_gainOf 68 = .ok (.lmul, 1) := by decide +kernel
theorem dX8_gainOf_69 : decode cX8_gainOf 69 = .ok (.lload 4, 2) := by decide +kernel
theorem dX8_gainOf_71 : decode cX8_gainOf 71 = .ok (.lcmp, 1) := by decide +kernel
theorem dX8_gainOf_72 : decode cX8_gainOf 72 = .ok (.ifCond .le 15, 3) := by decide +kernel
theorem dX8_gainOf_75 : decode cX8_gainOf 75 = .ok (.lload 9, 2) := by decide +kernel
theorem dX8_gainOf_77 : decode cX8_gainOf 77 = .ok (.bipush 16, 2) := by decide +kernel
theorem dX8_gainOf_79 : decode cX8_gainOf 79 = .ok (.iload 11, 2) := by decide +kernel
theorem dX8_gainOf_81 : decode cX8_gainOf 81 = .ok (.isub, 1) := by decide +kernel
theorem dX8_gainOf_82 : decode cX8_gainOf 82 = .ok (.i2l, 1) := by decide +kernel
theorem dX8_gainOf_83 : decode cX8_gainOf 83 = .ok (.lmul, 1) := by decide +kernel
theorem dX8_gainOf_84 : decode cX8_gainOf 84 = .ok (.goto 5, 3) := by decide +kernel
theorem dX8_gainOf_87 : decode cX8_gainOf 87 = .ok (.lload 4, 2) := by decide +kernel
theorem dX8_gainOf_89 : decode cX8_gainOf 89 = .ok (.lstore 4, 2) := by decide +kernel
theorem dX8_gainOf_91 : decode cX8_gainOf 91 = .ok (.lload 9, 2) := by decide +kernel
theorem dX8_gainOf_93 : decode cX8_gainOf 93 = .ok (.lload 6, 2) := by decide +kernel
theorem dX8_gainOf_95 : decode cX8_gainOf 95 = .ok (.lcmp, 1) := by decide +kernel
theorem dX8_gainOf_96 : decode cX8_gainOf 96 = .ok (.ifCond .le 8, 3) := by decide +kernel
theorem dX8_gainOf_99 : decode cX8_gainOf 99 = .ok (.lload 9, 2) := by decide +kernel
theorem dX8_gainOf_101 : decode cX8_gainOf 101 = .ok (.goto 5, 3) := by decide +kernel
theorem dX8_gainOf_104 : decode cX8_gainOf 104 = .ok (.lload 6, 2) := by decide +kernel
theorem dX8_gainOf_106 : decode cX8_gainOf 106 = .ok (.lstore 6, 2) := by decide +kernel
theorem dX8_gainOf_108 : decode cX8_gainOf 108 = .ok (.iinc 8 1, 3) := by decide +kernel
theorem dX8_gainOf_111 : decode cX8_gainOf 111 = .ok (.goto (-100), 3) := by decide +kernel
theorem dX8_gainOf_114 : decode cX8_gainOf 114 = .ok (.lload_n 2, 1) := by decide +kernel
theorem dX8_gainOf_115 : decode cX8_gainOf 115 = .ok (.lload 4, 2) := by decide +kernel
theorem dX8_gainOf_117 : decode cX8_gainOf 117 = .ok (.ladd, 1) := by decide +kernel
theorem dX8_gainOf_118 : decode cX8_gainOf 118 = .ok (.ldc2_w 222, 3) := by decide +kernel
theorem dX8_gainOf_121 : decode cX8_gainOf 121 = .ok (.lload 6, 2) := by decide +kernel
theorem dX8_gainOf_123 : decode cX8_gainOf 123 = .ok (.lmul, 1) := by decide +kernel
theorem dX8_gainOf_124 : decode cX8_gainOf 124 = .ok (.lsub, 1) := by decide +kernel
theorem dX8_gainOf_125 : decode cX8_gainOf 125 = .ok (.lreturn, 1) := by decide +kernel
set_option maxRecDepth 20000 in
theorem ggX8_isOpen_X8_isGroupDone : GoodIn wsX8_isOpen wsX8_isGroupDone := goodIn_r _ [6, 7, 8, 1, 9, 10, 11, 12, 13, 14, 15, 16, 17, 18, 19, 20, 21, 22, 23, 24, 25, 26, 27, 28, 29, 30, 31, 32, 33, 34, 35, 36, 37, 38, 39, 40, 41, 42, 43, 44, 45, 46, 47, 48, 49, 50, 51, 52, 53, 54, 55] (by decide +kernel) (by decide +kernel)
set_option maxRecDepth 20000 in
theorem gX8_isOpen_X8_isGroupDone : GoodIn wsX8_isOpen (wsV RX8 207 RX8 yX8_isGroupDone wsX8_isGroupDone) := goodIn_app (goodIn_of _ (by decide +kernel)) ggX8_isOpen_X8_isGroupDone
theorem dX8_isOpen_0 : decode cX8_isOpen 0 = .ok (.aload_n 0, 1) := by decide +kernel
theorem dX8_isOpen_1 : decode cX8_isOpen 1 = .ok (.getfield 68, 3) := by decide +kernel
theorem dX8_isOpen_4 : decode cX8_isOpen 4 = .ok (.iload_n 1, 1) := by decide +kernel
theorem dX8_isOpen_5 : decode cX8_isOpen 5 = .ok (.iaload, 1) := by decide +kernel
theorem dX8_isOpen_6 : decode cX8_isOpen 6 = .ok (.bipush (-9), 2) := by decide +kernel
theorem dX8_isOpen_8 : decode cX8_isOpen 8 = .ok (.if_icmp .ne 15, 3) := by decide +kernel
theorem dX8_isOpen_11 : decode cX8_isOpen 11 = .ok (.aload_n 0, 1) := by decide +kernel
theorem dX8_isOpen_12 : decode cX8_isOpen 12 = .ok (.iload_n 1, 1) := by decide +kernel
theorem dX8_isOpen_13 : decode cX8_isOpen 13 = .ok (.invokevirtual 207, 3) := by decide +kernel
theorem dX8_isOpen_16 : decode cX8_isOpen 16 = .ok (.ifCond .ne 7, 3) := by decide +kernel
theorem dX8_isOpen_19 : decode cX8_isOpen 19 = .ok (.iconst 1, 1) := by decide +kernel
theorem dX8_isOpen_20 : decode cX8_isOpen 20 = .ok (.goto 4, 3) := by decide +kernel
theorem dX8_isOpen_23 : decode cX8_isOpen 23 = .ok (.iconst 0, 1) := by decide +kernel
theorem dX8_isOpen_24 : decode cX8_isOpen 24 = .ok (.ireturn, 1) := by decide +kernel
set_option maxRecDepth 20000 in
theorem ggX8_gain_X8_isTest : GoodIn wsX8_gain wsX8_isTest := goodIn_r _ [6, 7, 8, 9, 5, 10, 48, 49, 50, 51, 52, 53, 54, 55, 56, 57, 58, 59, 60, 61, 62, 63, 64, 65, 66, 67, 68, 69, 70, 71, 72, 73, 74, 75, 76, 77, 78, 79, 80, 81, 82, 83, 84, 85, 86, 87, 88, 89, 90, 91, 92, 93, 94] (by decide +kernel) (by decide +kernel)
set_option maxRecDepth 20000 in
theorem gX8_gain_X8_isTest : GoodIn wsX8_gain (wsV RX8 204 RX8 yX8_isTest wsX8_isTest) := goodIn_app (goodIn_of _ (by decide +kernel)) ggX8_gain_X8_isTest
set_option maxRecDepth 20000 in
theorem ggX8_gain_X8_isOpen : GoodIn wsX8_gain wsX8_isOpen := goodIn_r _ [14, 15, 16, 17, 18, 5, 19, 7, 20, 48, 49, 50, 51, 52, 53, 54, 55, 56, 57, 58, 59, 60, 61, 62, 63, 64, 65, 66, 67, 68, 69, 70, 71, 72, 73, 74, 75, 76, 77, 78, 79, 80, 81, 82, 83, 84, 85, 86, 87, 88, 89, 90, 91, 92, 93, 94] (by decide +kernel) (by decide +kernel)
set_option maxRecDepth 20000 in
theorem gX8_gain_X8_isOpen : GoodIn wsX8_gain (wsV RX8 224 RX8 yX8_isOpen wsX8_isOpen) := goodIn_app (goodIn_of _ (by decide +kernel)) ggX8_gain_X8_isOpen
set_option maxRecDepth 20000 in
theorem ggX8_gain_X8_allScores : GoodIn wsX8_gain wsX8_allScores := goodIn_r _ [24, 25, 26, 27, 5, 28, 29, 7, 30, 31, 15, 48, 49, 50, 51, 52, 53, 54, 55, 56, 57, 58, 59, 60, 61, 62, 63, 64, 65, 66, 67, 68, 69, 70, 71, 72, 73, 74, 75, 76, 77, 78, 79, 80, 81, 82, 83, 84, 85, 86, 87, 88, 89, 90, 91, 92, 93, 94] (by decide +kernel) (by decide +kernel)
set_option maxRecDepth 20000 in
theorem gX8_gain_X8_allScores : GoodIn wsX8_gain (wsV RX8 214 RX8 yX8_allScores wsX8_allScores) := goodIn_app (goodIn_of _ (by decide +kernel)) ggX8_gain_X8_allScores
set_option maxRecDepth 20000 in
theorem ggX8_gain_X8_meets : GoodIn wsX8_gain wsX8_meets := goodIn_r _ [35, 36, 37, 48, 49, 50, 51, 52, 53, 54, 55, 56, 57, 58, 59, 60, 61, 62, 63, 64, 65, 66, 67, 68, 69, 70, 71, 72, 73, 74, 75, 76, 77, 78, 79, 80, 81, 82, 83, 84, 85, 86, 87, 88, 89, 90, 91, 92, 93, 94] (by decide +kernel) (by decide +kernel)
set_option maxRecDepth 20000 in
theorem gX8_gain_X8_meets : GoodIn wsX8_gain (wsV RX8 142 RX8 yX8_meets wsX8_meets) := goodIn_app (goodIn_of _ (by decide +kernel)) ggX8_gain_X8_meets
set_option maxRecDepth 20000 in
theorem ggX8_gain_X8_gainOf : GoodIn wsX8_gain wsX8_gainOf := goodIn_r _ [41, 30, 1, 25, 26, 27, 5, 28, 29, 7, 31, 15, 48, 49, 50, 51, 52, 53, 54, 55, 56, 57, 58, 59, 60, 61, 62, 63, 64, 65, 66, 67, 68, 69, 70, 71, 72, 73, 74, 75, 76, 77, 78, 79, 80, 81, 82, 83, 84, 85, 86, 87, 88, 89, 90, 91, 92, 93, 94] (by decide +kernel) (by decide +kernel)
set_option maxRecDepth 20000 in
theorem gX8_gain_X8_gainOf : GoodIn wsX8_gain (wsV RX8 227 RX8 yX8_gainOf wsX8_gainOf) := goodIn_app (goodIn_of _ (by decide +kernel)) ggX8_gain_X8_gainOf
set_option maxRecDepth 20000 in
theorem ggX8_gain_X8_fraction : GoodIn wsX8_gain wsX8_fraction := goodIn_r _ [45, 46, 47, 48, 49, 50, 51, 52, 53, 54, 55, 56, 57, 58, 59, 60, 61, 62, 63, 64, 65, 66, 67, 68, 69, 70, 71, 72, 73, 74, 75, 76, 77, 78, 79, 80, 81, 82, 83, 84, 85, 86, 87, 88, 89, 90, 91, 92, 93, 94] (by decide +kernel) (by decide +kernel)
set_option maxRecDepth 20000 in
theorem gX8_gain_X8_fraction : GoodIn wsX8_gain (wsV RX8 218 RX8 yX8_fraction wsX8_fraction) := goodIn_app (goodIn_of _ (by decide +kernel)) ggX8_gain_X8_fraction
theorem dX8_gain_0 : decode cX8_gain 0 = .ok (.aload_n 0, 1) := by decide +kernel
theorem dX8_gain_1 : decode cX8_gain 1 = .ok (.iload_n 1, 1) := by decide +kernel
theorem dX8_gain_2 : decode cX8_gain 2 = .ok (.invokevirtual 204, 3) := by decide +kernel
theorem dX8_gain_5 : decode cX8_gain 5 = .ok (.ifCond .ne 5, 3) := by decide +kernel
theorem dX8_gain_8 : decode cX8_gain 8 = .ok (.iconst (-1), 1) := by decide +kernel
theorem dX8_gain_9 : decode cX8_gain 9 = .ok (.ireturn, 1) := by decide +kernel
theorem dX8_gain_10 : decode cX8_gain 10 = .ok (.aload_n 0, 1) := by decide +kernel
theorem dX8_gain_11 : decode cX8_gain 11 = .ok (.iload_n 1, 1) := by decide +kernel
theorem dX8_gain_12 : decode cX8_gain 12 = .ok (.invokevirtual 224, 3) := by decide +kernel
theorem dX8_gain_15 : decode cX8_gain 15 = .ok (.ifCond .ne 6, 3) := by decide +kernel
theorem dX8_gain_18 : decode cX8_gain 18 = .ok (.bipush (-4), 2) := by decide +kernel
theorem dX8_gain_20 : decode cX8_gain 20 = .ok (.ireturn, 1) := by decide +kernel
theorem dX8_gain_21 : decode cX8_gain 21 = .ok (.aload_n 0, 1) := by decide +kernel
theorem dX8_gain_22 : decode cX8_gain 22 = .ok (.invokevirtual 214, 3) := by decide +kernel
theorem dX8_gain_25 : decode cX8_gain 25 = .ok (.lconst 0, 1) := by decide +kernel
theorem dX8_gain_26 : decode cX8_gain 26 = .ok (.lcmp, 1) := by decide +kernel
theorem dX8_gain_27 : decode cX8_gain 27 = .ok (.ifCond .ne 11, 3) := by decide +kernel
theorem dX8_gain_30 : decode cX8_gain 30 = .ok (.aload_n 0, 1) := by decide +kernel
theorem dX8_gain_31 : decode cX8_gain 31 = .ok (.iconst 4, 1) := by decide +kernel
theorem dX8_gain_32 : decode cX8_gain 32 = .ok (.invokevirtual 142, 3) := by decide +kernel
theorem dX8_gain_35 : decode cX8_gain 35 = .ok (.goto 21, 3) := by decide +kernel
theorem dX8_gain_38 : decode cX8_gain 38 = .ok (.aload_n 0, 1) := by decide +kernel
theorem dX8_gain_39 : decode cX8_gain 39 = .ok (.aload_n 0, 1) := by decide +kernel
theorem dX8_gain_40 : decode cX8_gain 40 = .ok (.iload_n 1, 1) := by decide +kernel
theorem dX8_gain_41 : decode cX8_gain 41 = .ok (.invokevirtual 227, 3) := by decide +kernel
theorem dX8_gain_44 : decode cX8_gain 44 = .ok (.ldc2_w 222, 3) := by decide +kernel
theorem dX8_gain_47 : decode cX8_gain 47 = .ok (.aload_n 0, 1) := by decide +kernel
theorem dX8_gain_48 : decode cX8_gain 48 = .ok (.invokevirtual 214, 3) := by decide +kernel
theorem dX8_gain_51 : decode cX8_gain 51 = .ok (.lmul, 1) := by decide +kernel
theorem dX8_gain_52 : decode cX8_gain 52 = .ok (.iconst 1, 1) := by decide +kernel
theorem dX8_gain_53 : decode cX8_gain 53 = .ok (.invokevirtual 218, 3) := by decide +kernel
theorem dX8_gain_56 : decode cX8_gain 56 = .ok (.ireturn, 1) := by decide +kernel
set_option maxRecDepth 20000 in
theorem ggX8_next_X8_allScores : GoodIn wsX8_next wsX8_allScores := goodIn_r _ [8, 9, 10, 11, 7, 12, 13, 1, 14, 15, 16, 37, 38, 39, 40, 41, 42, 43, 44, 45, 46, 47, 48, 49, 50, 51, 52, 53, 54, 55, 56, 57, 58, 59, 60, 61, 62, 63, 64, 65, 66, 67, 68, 69, 70, 71, 72, 73, 74, 75, 76, 77, 78, 79, 80, 81, 82, 83] (by decide +kernel) (by decide +kernel)
set_option maxRecDepth 20000 in
theorem gX8_next_X8_allScores : GoodIn wsX8_next (wsV RX8 214 RX8 yX8_allScores wsX8_allScores) := goodIn_app (goodIn_of _ (by decide +kernel)) ggX8_next_X8_allScores
set_option maxRecDepth 20000 in
theorem ggX8_next_X8_meets : GoodIn wsX8_next wsX8_meets := goodIn_r _ [20, 21, 22, 37, 38, 39, 40, 41, 42, 43, 44, 45, 46, 47, 48, 49, 50, 51, 52, 53, 54, 55, 56, 57, 58, 59, 60, 61, 62, 63, 64, 65, 66, 67, 68, 69, 70, 71, 72, 73, 74, 75, 76, 77, 78, 79, 80, 81, 82, 83] (by decide +kernel) (by decide +kernel)
set_option maxRecDepth 20000 in
theorem gX8_next_X8_meets : GoodIn wsX8_next (wsV RX8 142 RX8 yX8_meets wsX8_meets) := goodIn_app (goodIn_of _ (by decide +kernel)) ggX8_next_X8_meets
set_option maxRecDepth 20000 in
theorem ggX8_next_X8_isOpen : GoodIn wsX8_next wsX8_isOpen := goodIn_r _ [26, 16, 27, 28, 29, 7, 30, 1, 31, 37, 38, 39, 40, 41, 42, 43, 44, 45, 46, 47, 48, 49, 50, 51, 52, 53, 54, 55, 56, 57, 58, 59, 60, 61, 62, 63, 64, 65, 66, 67, 68, 69, 70, 71, 72, 73, 74, 75, 76, 77, 78, 79, 80, 81, 82, 83] (by decide +kernel) (by decide +kernel)
set_option maxRecDepth 20000 in
theorem gX8_next_X8_isOpen : GoodIn wsX8_next (wsV RX8 224 RX8 yX8_isOpen wsX8_isOpen) := goodIn_app (goodIn_of _ (by decide +kernel)) ggX8_next_X8_isOpen
set_option maxRecDepth 20000 in
theorem ggX8_next_X8_gainOf : GoodIn wsX8_next wsX8_gainOf := goodIn_r _ [35, 14, 36, 9, 10, 11, 7, 12, 13, 1, 15, 16, 37, 38, 39, 40, 41, 42, 43, 44, 45, 46, 47, 48, 49, 50, 51, 52, 53, 54, 55, 56, 57, 58, 59, 60, 61, 62, 63, 64, 65, 66, 67, 68, 69, 70, 71, 72, 73, 74, 75, 76, 77, 78, 79, 80, 81, 82, 83] (by decide +kernel) (by decide +kernel)
set_option maxRecDepth 20000 in
theorem gX8_next_X8_gainOf : GoodIn wsX8_next (wsV RX8 227 RX8 yX8_gainOf wsX8_gainOf) := goodIn_app (goodIn_of _ (by decide +kernel)) ggX8_next_X8_gainOf
theorem dX8_next_0 : decode cX8_next 0 = .ok (.iload_n 1, 1) := by decide +kernel
theorem dX8_next_1 : decode cX8_next 1 = .ok (.ifCond .lt 7, 3) := by decide +kernel
theorem dX8_next_4 : decode cX8_next 4 = .ok (.iload_n 2, 1) := by decide +kernel
theorem dX8_next_5 : decode cX8_next 5 = .ok (.ifCond .ge 5, 3) := by decide +kernel
theorem dX8_next_8 : decode cX8_next 8 = .ok (.iconst (-1), 1) := by decide +kernel
theorem dX8_next_9 : decode cX8_next 9 = .ok (.ireturn, 1) := by decide +kernel
theorem dX8_next_10 : decode cX8_next 10 = .ok (.aload_n 0, 1) := by decide +kernel
theorem dX8_next_11 : decode cX8_next 11 = .ok (.invokevirtual 214, 3) := by decide +kernel
theorem dX8_next_14 : decode cX8_next 14 = .ok (.lconst 0, 1) := by decide +kernel
theorem dX8_next_15 : decode cX8_next 15 = .ok (.lcmp, 1) := by decide +kernel
theorem dX8_next_16 : decode cX8_next 16 = .ok (.ifCond .ne 9, 3) := by decide +kernel
theorem dX8_next_19 : decode cX8_next 19 = .ok (.aload_n 0, 1) := by decide +kernel
theorem dX8_next_20 : decode cX8_next 20 = .ok (.iconst 4, 1) := by decide +kernel
theorem dX8_next_21 : decode cX8_next 21 = .ok (.invokevirtual 142, 3) := by decide +kernel
theorem dX8_next_24 : decode cX8_next 24 = .ok (.ireturn, 1) := by decide +kernel
theorem dX8_next_25 : decode cX8_next 25 = .ok (.bipush (-9), 2) := by decide +kernel
theorem dX8_next_27 : decode cX8_next 27 = .ok (.istore_n 3, 1) := by decide +kernel
theorem dX8_next_28 : decode cX8_next 28 = .ok (.iconst 0, 1) := by decide +kernel
theorem dX8_next_29 : decode cX8_next 29 = .ok (.istore 4, 2) := by decide +kernel
theorem dX8_next_31 : decode cX8_next 31 = .ok (.iload 4, 2) := by decide +kernel
theorem dX8_next_33 : decode cX8_next 33 = .ok (.aload_n 0, 1) := by decide +kernel
theorem dX8_next_34 : decode cX8_next 34 = .ok (.getfield 198, 3) := by decide +kernel
theorem dX8_next_37 : decode cX8_next 37 = .ok (.if_icmp .ge 111, 3) := by decide +kernel
theorem dX8_next_40 : decode cX8_next 40 = .ok (.aload_n 0, 1) := by decide +kernel
theorem dX8_next_41 : decode cX8_next 41 = .ok (.iload 4, 2) := by decide +kernel
theorem dX8_next_43 : decode cX8_next 43 = .ok (.invokevirtual 224, 3) := by decide +kernel
theorem dX8_next_46 : decode cX8_next 46 = .ok (.ifCond .eq 96, 3) := by decide +kernel
theorem dX8_next_49 : decode cX8_next 49 = .ok (.aload_n 0, 1) := by decide +kernel
theorem dX8_next_50 : decode cX8_next 50 = .ok (.getfield 56, 3) := by decide +kernel
theorem dX8_next_53 : decode cX8_next 53 = .ok (.iload 4, 2) := by decide +kernel
theorem dX8_next_55 : decode cX8_next 55 = .ok (.iaload, 1) := by decide +kernel
theorem dX8_next_56 : decode cX8_next 56 = .ok (.iload_n 1, 1) := by decide +kernel
theorem dX8_next_57 : decode cX8_next 57 = .ok (.if_icmp .gt 85, 3) := by decide +kernel
theorem dX8_next_60 : decode cX8_next 60 = .ok (.aload_n 0, 1) := by decide +kernel
theorem dX8_next_61 : decode cX8_next 61 = .ok (.getfield 59, 3) := by decide +kernel
theorem dX8_next_64 : decode cX8_next 64 = .ok (.iload 4, 2) := by decide +kernel
theorem dX8_next_66 : decode cX8_next 66 = .ok (.iaload, 1) := by decide +kernel
theorem dX8_next_67 : decode cX8_next 67 = .ok (.iload_n 2, 1) := by decide +kernel
theorem dX8_next_68 : decode cX8_next 68 = .ok (.if_icmp .gt 74, 3) := by decide +kernel
theorem dX8_next_71 : decode cX8_next 71 = .ok (.iload_n 3, 1) := by decide +kernel
theorem dX8_next_72 : decode cX8_next 72 = .ok (.bipush (-9), 2) := by decide +kernel
theorem dX8_next_74 : decode cX8_next 74 = .ok (.if_icmp .eq 49, 3) := by decide +kernel
theorem dX8_next_77 : decode cX8_next 77 = .ok (.aload_n 0, 1) := by decide +kernel
theorem dX8_next_78 : decode cX8_next 78 = .ok (.iload 4, 2) := by decide +kernel
theorem dX8_next_80 : decode cX8_next 80 = .ok (.invokevirtual 227, 3) := by decide +kernel
theorem dX8_next_83 : decode cX8_next 83 = .ok (.aload_n 0, 1) := by decide +kernel
theorem dX8_next_84 : decode cX8_next 84 = .ok (.iload_n 3, 1) := by decide +kernel
theorem dX8_next_85 : decode cX8_next 85 = .ok (.invokevirtual 227, 3) := by decide +kernel
theorem dX8_next_88 : decode cX8_next 88 = .ok (.lcmp, 1) := by decide +kernel
theorem dX8_next_89 : decode cX8_next 89 = .ok (.ifCond .gt 34, 3) := by decide +kernel
theorem dX8_next_92 : decode cX8_next 92 = .ok (.aload_n 0, 1) := by decide +kernel
theorem dX8_next_93 : decode cX8_next 93 = .ok (.iload 4, 2) := by decide +kernel
theorem dX8_next_95 : decode cX8_next 95 = .ok (.invokevirtual 227, 3) := by decide +kernel
theorem dX8_next_98 : decode cX8_next 98 = .ok (.aload_n 0, 1) := by decide +kernel
theorem dX8_next_99 : decode cX8_next 99 = .ok (.iload_n 3, 1) := by decide +kernel
theorem dX8_next_100 : decode cX8_next 100 = .ok (.invokevirtual 227, 3) := by decide +kernel
theorem dX8_next_103 : decode cX8_next 103 = .ok (.lcmp, 1) := by decide +kernel
theorem dX8_next_104 : decode cX8_next 104 = .ok (.ifCond .ne 23, 3) := by decide +kernel
theorem dX8_next_107 : decode cX8_next 107 = .ok (.aload_n 0, 1) := by decide +kernel
theorem dX8_next_108 : decode cX8_next 108 = .ok (.getfield 56, 3) := by decide +kernel
theorem dX8_next_111 : decode cX8_next 111 = .ok (.iload 4, 2) := by decide +kernel
theorem dX8_next_113 : decode cX8_next 113 = .ok (.iaload, 1) := by decide +kernel
theorem dX8_next_114 : decode cX8_next 114 = .ok (.aload_n 0, 1) := by decide +kernel
theorem dX8_next_115 : decode cX8_next 115 = .ok (.getfield 56, 3) := by decide +kernel
theorem dX8_next_118 : decode cX8_next 118 = .ok (.iload_n 3, 1) := by decide +kernel
theorem dX8_next_119 : decode cX8_next 119 = .ok (.iaload, 1) := by decide +kernel
theorem dX8_next_120 : decode cX8_next 120 = .ok (.if_icmp .ge 7, 3) := by decide +kernel
theorem dX8_next_123 : decode cX8_next 123 = .ok (.iconst 1, 1) := by decide +kernel
theorem dX8_next_124 : decode cX8_next 124 = .ok (.goto 4, 3) := by decide +kernel
theorem dX8_next_127 : decode cX8_next 127 = .ok (.iconst 0, 1) := by decide +kernel
theorem dX8_next_128 : decode cX8_next 128 = .ok (.istore 5, 2) := by decide +kernel
theorem dX8_next_130 : decode cX8_next 130 = .ok (.iload 5, 2) := by decide +kernel
theorem dX8_next_132 : decode cX8_next 132 = .ok (.ifCond .eq 8, 3) := by decide +kernel
theorem dX8_next_135 : decode cX8_next 135 = .ok (.iload 4, 2) := by decide +kernel
theorem dX8_next_137 : decode cX8_next 137 = .ok (.goto 4, 3) := by decide +kernel
theorem dX8_next_140 : decode cX8_next 140 = .ok (.iload_n 3, 1) := by decide +kernel
theorem dX8_next_141 : decode cX8_next 141 = .ok (.istore_n 3, 1) := by decide +kernel
theorem dX8_next_142 : decode cX8_next 142 = .ok (.iinc 4 1, 3) := by decide +kernel
theorem dX8_next_145 : decode cX8_next 145 = .ok (.goto (-114), 3) := by decide +kernel
theorem dX8_next_148 : decode cX8_next 148 = .ok (.iload_n 3, 1) := by decide +kernel
theorem dX8_next_149 : decode cX8_next 149 = .ok (.ireturn, 1) := by decide +kernel
set_option maxRecDepth 20000 in
theorem ggX8_owner_X8_isYear : GoodIn wsX8_owner wsX8_isYear := goodIn_r _ [7, 8, 9, 6, 10] (by decide +kernel) (by decide +kernel)
set_option maxRecDepth 20000 in
theorem gX8_owner_X8_isYear : GoodIn wsX8_owner (va_wsS RX8 164 yX8_isYear wsX8_isYear) := goodIn_app (goodIn_of _ (by decide +kernel)) ggX8_owner_X8_isYear
set_option maxRecDepth 20000 in
theorem ggX8_owner_X8_in : GoodIn wsX8_owner wsX8_in := goodIn_r _ [10] (by decide +kernel) (by decide +kernel)
set_option maxRecDepth 20000 in
theorem gX8_owner_X8_in : GoodIn wsX8_owner (va_wsS RX8 125 yX8_in wsX8_in) := goodIn_app (goodIn_of _ (by decide +kernel)) ggX8_owner_X8_in
theorem dX8_owner_0 : decode cX8_owner 0 = .ok (.iload_n 1, 1) := by decide +kernel
theorem dX8_owner_1 : decode cX8_owner 1 = .ok (.invokestatic 164, 3) := by decide +kernel
theorem dX8_owner_4 : decode cX8_owner 4 = .ok (.ifCond .eq 14, 3) := by decide +kernel
theorem dX8_owner_7 : decode cX8_owner 7 = .ok (.iload_n 2, 1) := by decide +kernel
theorem dX8_owner_8 : decode cX8_owner 8 = .ok (.iload_n 1, 1) := by decide +kernel
theorem dX8_owner_9 : decode cX8_owner 9 = .ok (.sipush 2100, 3) := by decide +kernel
theorem dX8_owner_12 : decode cX8_owner 12 = .ok (.invokestatic 125, 3) := by decide +kernel
theorem dX8_owner_15 : decode cX8_owner 15 = .ok (.ifCond .ne 5, 3) := by decide +kernel
theorem dX8_owner_18 : decode cX8_owner 18 = .ok (.iconst (-1), 1) := by decide +kernel
theorem dX8_owner_19 : decode cX8_owner 19 = .ok (.ireturn, 1) := by decide +kernel
theorem dX8_owner_20 : decode cX8_owner 20 = .ok (.aload_n 0, 1) := by decide +kernel
theorem dX8_owner_21 : decode cX8_owner 21 = .ok (.getfield 230, 3) := by decide +kernel
theorem dX8_owner_24 : decode cX8_owner 24 = .ok (.bipush 20, 2) := by decide +kernel
theorem dX8_owner_26 : decode cX8_owner 26 = .ok (.if_icmp .ne 6, 3) := by decide +kernel
theorem dX8_owner_29 : decode cX8_owner 29 = .ok (.bipush (-2), 2) := by decide +kernel
theorem dX8_owner_31 : decode cX8_owner 31 = .ok (.ireturn, 1) := by decide +kernel
theorem dX8_owner_32 : decode cX8_owner 32 = .ok (.aload_n 0, 1) := by decide +kernel
theorem dX8_owner_33 : decode cX8_owner 33 = .ok (.getfield 75, 3) := by decide +kernel
theorem dX8_owner_36 : decode cX8_owner 36 = .ok (.aload_n 0, 1) := by decide +kernel
theorem dX8_owner_37 : decode cX8_owner 37 = .ok (.getfield 230, 3) := by decide +kernel
theorem dX8_owner_40 : decode cX8_owner 40 = .ok (.iload_n 1, 1) := by decide +kernel
theorem dX8_owner_41 : decode cX8_owner 41 = .ok (.iastore, 1) := by decide +kernel
theorem dX8_owner_42 : decode cX8_owner 42 = .ok (.aload_n 0, 1) := by decide +kernel
theorem dX8_owner_43 : decode cX8_owner 43 = .ok (.getfield 78, 3) := by decide +kernel
theorem dX8_owner_46 : decode cX8_owner 46 = .ok (.aload_n 0, 1) := by decide +kernel
theorem dX8_owner_47 : decode cX8_owner 47 = .ok (.getfield 230, 3) := by decide +kernel
theorem dX8_owner_50 : decode cX8_owner 50 = .ok (.iload_n 2, 1) := by decide +kernel
theorem dX8_owner_51 : decode cX8_owner 51 = .ok (.iastore, 1) := by decide +kernel
theorem dX8_owner_52 : decode cX8_owner 52 = .ok (.aload_n 0, 1) := by decide +kernel
theorem dX8_owner_53 : decode cX8_owner 53 = .ok (.dup, 1) := by decide +kernel
theorem dX8_owner_54 : decode cX8_owner 54 = .ok (.getfield 230, 3) := by decide +kernel
theorem dX8_owner_57 : decode cX8_owner 57 = .ok (.iconst 1, 1) := by decide +kernel
theorem dX8_owner_58 : decode cX8_owner 58 = .ok (.iadd, 1) := by decide +kernel
theorem dX8_owner_59 : decode cX8_owner 59 = .ok (.putfield 230, 3) := by decide +kernel
theorem dX8_owner_62 : decode cX8_owner 62 = .ok (.aload_n 0, 1) := by decide +kernel
theorem dX8_owner_63 : decode cX8_owner 63 = .ok (.getfield 230, 3) := by decide +kernel
theorem dX8_owner_66 : decode cX8_owner 66 = .ok (.ireturn, 1) := by decide +kernel
set_option maxRecDepth 20000 in
theorem ggX8_gaps_X8_isYear : GoodIn wsX8_gaps wsX8_isYear := goodIn_r _ [7, 8, 9, 6, 10] (by decide +kernel) (by decide +kernel)
set_option maxRecDepth 20000 in
theorem gX8_gaps_X8_isYear : GoodIn wsX8_gaps (va_wsS RX8 164 yX8_isYear wsX8_isYear) := goodIn_app (goodIn_of _ (by decide +kernel)) ggX8_gaps_X8_isYear
set_option maxRecDepth 20000 in
theorem ggX8_gaps_X8_in : GoodIn wsX8_gaps wsX8_in := goodIn_r _ [10] (by decide +kernel) (by decide +kernel)
set_option maxRecDepth 20000 in
theorem gX8_gaps_X8_in : GoodIn wsX8_gaps (va_wsS RX8 125 yX8_in wsX8_in) := goodIn_app (goodIn_of _ (by decide +kernel)) ggX8_gaps_X8_in
set_option maxRecDepth 20000 in
theorem ggX8_gaps_X8_tells : GoodIn wsX8_gaps wsX8_tells := goodIn_r _ [14, 15, 16, 17, 18, 19, 20, 21, 22, 23, 24, 25, 26, 27, 28, 29, 30, 31, 32, 33, 34, 35, 36, 37, 38, 39, 40, 41, 42, 43, 44, 45, 46, 47, 48, 49, 50, 51, 52, 53, 54, 55, 56, 57, 58, 59, 60, 61, 62] (by decide +kernel) (by decide +kernel)
set_option maxRecDepth 20000 in
theorem gX8_gaps_X8_tells : GoodIn wsX8_gaps (wsV RX8 158 RX8 yX8_tells wsX8_tells) := goodIn_app (goodIn_of _ (by decide +kernel)) ggX8_gaps_X8_tells
theorem dX8_gaps_0 : decode cX8_gaps 0 = .ok (.iload_n 1, 1) := by decide +kernel
theorem dX8_gaps_1 : decode cX8_gaps 1 = .ok (.invokestatic 164, 3) := by decide +kernel
theorem dX8_gaps_4 : decode cX8_gaps 4 = .ok (.ifCond .eq 14, 3) := by decide +kernel
theorem dX8_gaps_7 : decode cX8_gaps 7 = .ok (.iload_n 2, 1) := by decide +kernel
theorem dX8_gaps_8 : decode cX8_gaps 8 = .ok (.iload_n 1, 1) := by decide +kernel
theorem dX8_gaps_9 : decode cX8_gaps 9 = .ok (.sipush 2100, 3) := by decide +kernel
theorem dX8_gaps_12 : decode cX8_gaps 12 = .ok (.invokestatic 125, 3) := by decide +kernel
theorem dX8_gaps_15 : decode cX8_gaps 15 = .ok (.ifCond .ne 5, 3) := by decide +kernel
theorem dX8_gaps_18 : decode cX8_gaps 18 = .ok (.iconst (-1), 1) := by decide +kernel
theorem dX8_gaps_19 : decode cX8_gaps 19 = .ok (.ireturn, 1) := by decide +kernel
theorem dX8_gaps_20 : decode cX8_gaps 20 = .ok (.iconst 0, 1) := by decide +kernel
theorem dX8_gaps_21 : decode cX8_gaps 21 = .ok (.istore_n 3, 1) := by decide +kernel
theorem dX8_gaps_22 : decode cX8_gaps 22 = .ok (.iconst 0, 1) := by decide +kernel
theorem dX8_gaps_23 : decode cX8_gaps 23 = .ok (.istore 4, 2) := by decide +kernel
theorem dX8_gaps_25 : decode cX8_gaps 25 = .ok (.iconst 0, 1) := by decide +kernel
theorem dX8_gaps_26 : decode cX8_gaps 26 = .ok (.istore 5, 2) := by decide +kernel
theorem dX8_gaps_28 : decode cX8_gaps 28 = .ok (.iload_n 1, 1) := by decide +kernel
theorem dX8_gaps_29 : decode cX8_gaps 29 = .ok (.istore 6, 2) := by decide +kernel
theorem dX8_gaps_31 : decode cX8_gaps 31 = .ok (.iload 6, 2) := by decide +kernel
theorem dX8_gaps_33 : decode cX8_gaps 33 = .ok (.iload_n 2, 1) := by decide +kernel
theorem dX8_gaps_34 : decode cX8_gaps 34 = .ok (.if_icmp .gt 108, 3) := by decide +kernel
theorem dX8_gaps_37 : decode cX8_gaps 37 = .ok (.iconst 0, 1) := by decide +kernel
theorem dX8_gaps_38 : decode cX8_gaps 38 = .ok (.istore 7, 2) := by decide +kernel
theorem dX8_gaps_40 : decode cX8_gaps 40 = .ok (.iconst 0, 1) := by decide +kernel
theorem dX8_gaps_41 : decode cX8_gaps 41 = .ok (.istore 8, 2) := by decide +kernel
theorem dX8_gaps_43 : decode cX8_gaps 43 = .ok (.iload 8, 2) := by decide +kernel
theorem dX8_gaps_45 : decode cX8_gaps 45 = .ok (.aload_n 0, 1) := by decide +kernel
theorem dX8_gaps_46 : decode cX8_gaps 46 = .ok (.getfield 230, 3) := by decide +kernel
theorem dX8_gaps_49 : decode cX8_gaps 49 = .ok (.if_icmp .ge 43, 3) := by decide +kernel
theorem dX8_gaps_52 : decode cX8_gaps 52 = .ok (.iload 7, 2) := by decide +kernel
theorem dX8_gaps_54 : decode cX8_gaps 54 = .ok (.ifCond .ne 25, 3) := by decide +kernel
theorem dX8_gaps_57 : decode cX8_gaps 57 = .ok (.iload 6, 2) := by decide +kernel
theorem dX8_gaps_59 : decode cX8_gaps 59 = .ok (.aload_n 0, 1) := by decide +kernel
theorem dX8_gaps_60 : decode cX8_gaps 60 = .ok (.getfield 75, 3) := by decide +kernel
theorem dX8_gaps_63 : decode cX8_gaps 63 = .ok (.iload 8, 2) := by decide +kernel
theorem dX8_gaps_65 : decode cX8_gaps 65 = .ok (.iaload, 1) := by decide +kernel
theorem dX8_gaps_66 : decode cX8_gaps 66 = .ok (.aload_n 0, 1) := by decide +kernel
theorem dX8_gaps_67 : decode cX8_gaps 67 = .ok (.getfield 78, 3) := by decide +kernel
theorem dX8_gaps_70 : decode cX8_gaps 70 = .ok (.iload 8, 2) := by decide +kernel
theorem dX8_gaps_72 : decode cX8_gaps 72 = .ok (.iaload, 1) := by decide +kernel
theorem dX8_gaps_73 : decode cX8_gaps 73 = .ok (.invokestatic 125, 3) := by decide +kernel
theorem dX8_gaps_76 : decode cX8_gaps 76 = .ok (.ifCond .eq 7, 3) := by decide +kernel
theorem dX8_gaps_79 : decode cX8_gaps 79 = .ok (.iconst 1, 1) := by decide +kernel
theorem dX8_gaps_80 : decode cX8_gaps 80 = .ok (.goto 4, 3) := by decide +kernel
theorem dX8_gaps_83 : decode cX8_gaps 83 = .ok (.iconst 0, 1) := by decide +kernel
theorem dX8_gaps_84 : decode cX8_gaps 84 = .ok (.istore 7, 2) := by decide +kernel
theorem dX8_gaps_86 : decode cX8_gaps 86 = .ok (.iinc 8 1, 3) := by decide +kernel
theorem dX8_gaps_89 : decode cX8_gaps 89 = .ok (.goto (-46), 3) := by decide +kernel
theorem dX8_gaps_92 : decode cX8_gaps 92 = .ok (.iload 7, 2) := by decide +kernel
theorem dX8_gaps_94 : decode cX8_gaps 94 = .ok (.ifCond .eq 7, 3) := by decide +kernel
theorem dX8_gaps_97 : decode cX8_gaps 97 = .ok (.iconst 0, 1) := by decide +kernel
theorem dX8_gaps_98 : decode cX8_gaps 98 = .ok (.goto 7, 3) := by decide +kernel
theorem dX8_gaps_101 : decode cX8_gaps 101 = .ok (.iload 4, 2) := by decide +kernel
theorem dX8_gaps_103 : decode cX8_gaps 103 = .ok (.iconst 1, 1) := by decide +kernel
theorem dX8_gaps_104 : decode cX8_gaps 104 = .ok (.iadd, 1) := by decide +kernel
theorem dX8_gaps_105 : decode cX8_gaps 105 = .ok (.istore 4, 2) := by decide +kernel
theorem dX8_gaps_107 : decode cX8_gaps 107 = .ok (.iload_n 3, 1) := by decide +kernel
theorem dX8_gaps_108 : decode cX8_gaps 108 = .ok (.iload 7, 2) := by decide +kernel
theorem dX8_gaps_110 : decode cX8_gaps 110 = .ok (.ifCond .eq 7, 3) := by decide +kernel
theorem dX8_gaps_113 : decode cX8_gaps 113 = .ok (.iconst 0, 1) := by decide +kernel
theorem dX8_gaps_114 : decode cX8_gaps 114 = .ok (.goto 4, 3) := by decide +kernel
theorem dX8_gaps_117 : decode cX8_gaps 117 = .ok (.iconst 1, 1) := by decide +kernel
theorem dX8_gaps_118 : decode cX8_gaps 118 = .ok (.iadd, 1) := by decide +kernel
theorem dX8_gaps_119 : decode cX8_gaps 119 = .ok (.istore_n 3, 1) := by decide +kernel
theorem dX8_gaps_120 : decode cX8_gaps 120 = .ok (.iload 4, 2) := by decide +kernel
theorem dX8_gaps_122 : decode cX8_gaps 122 = .ok (.iload 5, 2) := by decide +kernel
theorem dX8_gaps_124 : decode cX8_gaps 124 = .ok (.if_icmp .le 8, 3) := by decide +kernel
theorem dX8_gaps_127 : decode cX8_gaps 127 = .ok (.iload 4, 2) := by decide +kernel
theorem dX8_gaps_129 : decode cX8_gaps 129 = .ok (.goto 5, 3) := by decide +kernel
theorem dX8_gaps_132 : decode cX8_gaps 132 = .ok (.iload 5, 2) := by decide +kernel
theorem dX8_gaps_134 : decode cX8_gaps 134 = .ok (.istore 5, 2) := by decide +kernel
theorem dX8_gaps_136 : decode cX8_gaps 136 = .ok (.iinc 6 1, 3) := by decide +kernel
theorem dX8_gaps_139 : decode cX8_gaps 139 = .ok (.goto (-108), 3) := by decide +kernel
theorem dX8_gaps_142 : decode cX8_gaps 142 = .ok (.aload_n 0, 1) := by decide +kernel
theorem dX8_gaps_143 : decode cX8_gaps 143 = .ok (.iload 5, 2) := by decide +kernel
theorem dX8_gaps_145 : decode cX8_gaps 145 = .ok (.iload_n 3, 1) := by decide +kernel
theorem dX8_gaps_146 : decode cX8_gaps 146 = .ok (.invokevirtual 158, 3) := by decide +kernel
theorem dX8_gaps_149 : decode cX8_gaps 149 = .ok (.ireturn, 1) := by decide +kernel
set_option maxRecDepth 20000 in
theorem ggX8_opinion_X8_in : GoodIn wsX8_opinion wsX8_in := goodIn_r _ [9] (by decide +kernel) (by decide +kernel)
set_option maxRecDepth 20000 in
theorem gX8_opinion_X8_in : GoodIn wsX8_opinion (va_wsS RX8 125 yX8_in wsX8_in) := goodIn_app (goodIn_of _ (by decide +kernel)) ggX8_opinion_X8_in
set_option maxRecDepth 20000 in
theorem ggX8_opinion_X8_isHand : GoodIn wsX8_opinion wsX8_isHand := goodIn_r _ [12, 6, 7, 8, 9] (by decide +kernel) (by decide +kernel)
set_option maxRecDepth 20000 in
theorem gX8_opinion_X8_isHand : GoodIn wsX8_opinion (va_wsS RX8 201 yX8_isHand wsX8_isHand) := goodIn_app (goodIn_of _ (by decide +kernel)) ggX8_opinion_X8_isHand
theorem dX8_opinion_0 : decode cX8_opinion 0 = .ok (.iload_n 1, 1) := by decide +kernel
theorem dX8_opinion_1 : decode cX8_opinion 1 = .ok (.iconst 0, 1) := by decide +kernel
theorem dX8_opinion_2 : decode cX8_opinion 2 = .ok (.bipush 9, 2) := by decide +kernel
theorem dX8_opinion_4 : decode cX8_opinion 4 = .ok (.invokestatic 125, 3) := by decide +kernel
theorem dX8_opinion_7 : decode cX8_opinion 7 = .ok (.ifCond .eq 20, 3) := by decide +kernel
theorem dX8_opinion_10 : decode cX8_opinion 10 = .ok (.iload_n 2, 1) := by decide +kernel
theorem dX8_opinion_11 : decode cX8_opinion 11 = .ok (.invokestatic 201, 3) := by decide +kernel
theorem dX8_opinion_14 : decode cX8_opinion 14 = .ok (.ifCond .eq 13, 3) := by decide +kernel
theorem dX8_opinion_17 : decode cX8_opinion 17 = .ok (.iload_n 3, 1) := by decide +kernel
theorem dX8_opinion_18 : decode cX8_opinion 18 = .ok (.iconst 0, 1) := by decide +kernel
theorem dX8_opinion_19 : decode cX8_opinion 19 = .ok (.bipush 100, 2) := by decide +kernel
theorem dX8_opinion_21 : decode cX8_opinion 21 = .ok (.invokestatic 125, 3) := by decide +kernel
theorem dX8_opinion_24 : decode cX8_opinion 24 = .ok (.ifCond .ne 5, 3) := by decide +kernel
theorem dX8_opinion_27 : decode cX8_opinion 27 = .ok (.iconst (-1), 1) := by decide +kernel
theorem dX8_opinion_28 : decode cX8_opinion 28 = .ok (.ireturn, 1) := by decide +kernel
theorem dX8_opinion_29 : decode cX8_opinion 29 = .ok (.aload_n 0, 1) := by decide +kernel
theorem dX8_opinion_30 : decode cX8_opinion 30 = .ok (.getfield 233, 3) := by decide +kernel
theorem dX8_opinion_33 : decode cX8_opinion 33 = .ok (.bipush 30, 2) := by decide +kernel
theorem dX8_opinion_35 : decode cX8_opinion 35 = .ok (.if_icmp .ne 6, 3) := by decide +kernel
theorem dX8_opinion_38 : decode cX8_opinion 38 = .ok (.bipush (-2), 2) := by decide +kernel
theorem dX8_opinion_40 : decode cX8_opinion 40 = .ok (.ireturn, 1) := by decide +kernel
theorem dX8_opinion_41 : decode cX8_opinion 41 = .ok (.aload_n 0, 1) := by decide +kernel
theorem dX8_opinion_42 : decode cX8_opinion 42 = .ok (.getfield 81, 3) := by decide +kernel
theorem dX8_opinion_45 : decode cX8_opinion 45 = .ok (.aload_n 0, 1) := by decide +kernel
theorem dX8_opinion_46 : decode cX8_opinion 46 = .ok (.getfield 233, 3) := by decide +kernel
theorem dX8_opinion_49 : decode cX8_opinion 49 = .ok (.iload_n 1, 1) := by decide +kernel
theorem dX8_opinion_50 : decode cX8_opinion 50 = .ok (.iastore, 1) := by decide +kernel
theorem dX8_opinion_51 : decode cX8_opinion 51 = .ok (.aload_n 0, 1) := by decide +kernel
theorem dX8_opinion_52 : decode cX8_opinion 52 = .ok (.getfield 84, 3) := by decide +kernel
theorem dX8_opinion_55 : decode cX8_opinion 55 = .ok (.aload_n 0, 1) := by decide +kernel
theorem dX8_opinion_56 : decode cX8_opinion 56 = .ok (.getfield 233, 3) := by decide +kernel
theorem dX8_opinion_59 : decode cX8_opinion 59 = .ok (.iload_n 2, 1) := by decide +kernel
theorem dX8_opinion_60 : decode cX8_opinion 60 = .ok (.iastore, 1) := by decide +kernel
theorem dX8_opinion_61 : decode cX8_opinion 61 = .ok (.aload_n 0, 1) := by decide +kernel
theorem dX8_opinion_62 : decode cX8_opinion 62 = .ok (.getfield 87, 3) := by decide +kernel
theorem dX8_opinion_65 : decode cX8_opinion 65 = .ok (.aload_n 0, 1) := by decide +kernel
theorem dX8_opinion_66 : decode cX8_opinion 66 = .ok (.getfield 233, 3) := by decide +kernel
theorem dX8_opinion_69 : decode cX8_opinion 69 = .ok (.iload_n 3, 1) := by decide +kernel
theorem dX8_opinion_70 : decode cX8_opinion 70 = .ok (.iastore, 1) := by decide +kernel
theorem dX8_opinion_71 : decode cX8_opinion 71 = .ok (.aload_n 0, 1) := by decide +kernel
theorem dX8_opinion_72 : decode cX8_opinion 72 = .ok (.getfield 90, 3) := by decide +kernel
theorem dX8_opinion_75 : decode cX8_opinion 75 = .ok (.aload_n 0, 1) := by decide +kernel
theorem dX8_opinion_76 : decode cX8_opinion 76 = .ok (.getfield 233, 3) := by decide +kernel
theorem dX8_opinion_79 : decode cX8_opinion 79 = .ok (.iload 4, 2) := by decide +kernel
theorem dX8_opinion_81 : decode cX8_opinion 81 = .ok (.bastore, 1) := by decide +kernel
theorem dX8_opinion_82 : decode cX8_opinion 82 = .ok (.aload_n 0, 1) := by decide +kernel
theorem dX8_opinion_83 : decode cX8_opinion 83 = .ok (.dup, 1) := by decide +kernel
theorem dX8_opinion_84 : decode cX8_opinion 84 = .ok (.getfield 233, 3) := by decide +kernel
theorem dX8_opinion_87 : decode cX8_opinion 87 = .ok (.iconst 1, 1) := by decide +kernel
theorem dX8_opinion_88 : decode cX8_opinion 88 = .ok (.iadd, 1) := by decide +kernel
theorem dX8_opinion_89 : decode cX8_opinion 89 = .ok (.putfield 233, 3) := by decide +kernel
theorem dX8_opinion_92 : decode cX8_opinion 92 = .ok (.aload_n 0, 1) := by decide +kernel
theorem dX8_opinion_93 : decode cX8_opinion 93 = .ok (.getfield 233, 3) := by decide +kernel
theorem dX8_opinion_96 : decode cX8_opinion 96 = .ok (.ireturn, 1) := by decide +kernel
set_option maxRecDepth 20000 in
theorem ggX8_mean_X8_isHand : GoodIn wsX8_mean wsX8_isHand := goodIn_r _ [8, 9, 10, 7, 11] (by decide +kernel) (by decide +kernel)
set_option maxRecDepth 20000 in
theorem gX8_mean_X8_isHand : GoodIn wsX8_mean (va_wsS RX8 201 yX8_isHand wsX8_isHand) := goodIn_app (goodIn_of _ (by decide +kernel)) ggX8_mean_X8_isHand
set_option maxRecDepth 20000 in
theorem ggX8_mean_X8_meets : GoodIn wsX8_mean wsX8_meets := goodIn_r _ [15, 16, 17, 18, 19, 20, 21, 22, 23, 24, 25, 26, 27, 28, 29, 30, 31, 32, 33, 34, 35, 36, 37, 38, 39, 40, 41, 42, 43, 44, 45, 46, 47, 48, 49, 50, 51, 52, 53, 54, 55, 56, 57, 58, 59, 60, 61, 62, 63, 64] (by decide +kernel) (by decide +kernel)
set_option maxRecDepth 20000 in
theorem gX8_mean_X8_meets : GoodIn wsX8_mean (wsV RX8 142 RX8 yX8_meets wsX8_meets) := goodIn_app (goodIn_of _ (by decide +kernel)) ggX8_mean_X8_meets
theorem dX8_mean_0 : decode cX8_mean 0 = .ok (.iload_n 1, 1) := by decide +kernel
theorem dX8_mean_1 : decode cX8_mean 1 = .ok (.invokestatic 201, 3) := by decide +kernel
theorem dX8_mean_4 : decode cX8_mean 4 = .ok (.ifCond .ne 5, 3) := by decide +kernel
theorem dX8_mean_7 : decode cX8_mean 7 = .ok (.iconst (-1), 1) := by decide +kernel
theorem dX8_mean_8 : decode cX8_mean 8 = .ok (.ireturn, 1) := by decide +kernel
theorem dX8_mean_9 : decode cX8_mean 9 = .ok (.iconst 0, 1) := by decide +kernel
theorem dX8_mean_10 : decode cX8_mean 10 = .ok (.istore_n 3, 1) := by decide +kernel
theorem dX8_mean_11 : decode cX8_mean 11 = .ok (.iconst 0, 1) := by decide +kernel
theorem dX8_mean_12 : decode cX8_mean 12 = .ok (.istore 4, 2) := by decide +kernel
theorem dX8_mean_14 : decode cX8_mean 14 = .ok (.iconst 0, 1) := by decide +kernel
theorem dX8_mean_15 : decode cX8_mean 15 = .ok (.istore 5, 2) := by decide +kernel
theorem dX8_mean_17 : decode cX8_mean 17 = .ok (.iload 5, 2) := by decide +kernel
theorem dX8_mean_19 : decode cX8_mean 19 = .ok (.aload_n 0, 1) := by decide +kernel
theorem dX8_mean_20 : decode cX8_mean 20 = .ok (.getfield 233, 3) := by decide +kernel
theorem dX8_mean_23 : decode cX8_mean 23 = .ok (.if_icmp .ge 72, 3) := by decide +kernel
theorem dX8_mean_26 : decode cX8_mean 26 = .ok (.aload_n 0, 1) := by decide +kernel
theorem dX8_mean_27 : decode cX8_mean 27 = .ok (.getfield 84, 3) := by decide +kernel
theorem dX8_mean_30 : decode cX8_mean 30 = .ok (.iload 5, 2) := by decide +kernel
theorem dX8_mean_32 : decode cX8_mean 32 = .ok (.iaload, 1) := by decide +kernel
theorem dX8_mean_33 : decode cX8_mean 33 = .ok (.iload_n 1, 1) := by decide +kernel
theorem dX8_mean_34 : decode cX8_mean 34 = .ok (.if_icmp .ne 18, 3) := by decide +kernel
theorem dX8_mean_37 : decode cX8_mean 37 = .ok (.aload_n 0, 1) := by decide +kernel
theorem dX8_mean_38 : decode cX8_mean 38 = .ok (.getfield 90, 3) := by decide +kernel
theorem dX8_mean_41 : decode cX8_mean 41 = .ok (.iload 5, 2) := by decide +kernel
theorem dX8_mean_43 : decode cX8_mean 43 = .ok (.baload, 1) := by decide +kernel
theorem dX8_mean_44 : decode cX8_mean 44 = .ok (.iload_n 2, 1) := by decide +kernel
theorem dX8_mean_45 : decode cX8_mean 45 = .ok (.if_icmp .ne 7, 3) := by decide +kernel
theorem dX8_mean_48 : decode cX8_mean 48 = .ok (.iconst 1, 1) := by decide +kernel
theorem dX8_mean_49 : decode cX8_mean 49 = .ok (.goto 4, 3) := by decide +kernel
theorem dX8_mean_52 : decode cX8_mean 52 = .ok (.iconst 0, 1) := by decide +kernel
theorem dX8_mean_53 : decode cX8_mean 53 = .ok (.istore 6, 2) := by decide +kernel
theorem dX8_mean_55 : decode cX8_mean 55 = .ok (.iload_n 3, 1) := by decide +kernel
theorem dX8_mean_56 : decode cX8_mean 56 = .ok (.iload 6, 2) := by decide +kernel
theorem dX8_mean_58 : decode cX8_mean 58 = .ok (.ifCond .eq 13, 3) := by decide +kernel
theorem dX8_mean_61 : decode cX8_mean 61 = .ok (.aload_n 0, 1) := by decide +kernel
theorem dX8_mean_62 : decode cX8_mean 62 = .ok (.getfield 87, 3) := by decide +kernel
theorem dX8_mean_65 : decode cX8_mean 65 = .ok (.iload 5, 2) := by decide +kernel
theorem dX8_mean_67 : decode cX8_mean 67 = .ok (.iaload, 1) := by decide +kernel
theorem dX8_mean_68 : decode cX8_mean 68 = .ok (.goto 4, 3) := by decide +kernel
theorem dX8_mean_71 : decode cX8_mean 71 = .ok (.iconst 0, 1) := by decide +kernel
theorem dX8_mean_72 : decode cX8_mean 72 = .ok (.iadd, 1) := by decide +kernel
theorem dX8_mean_73 : decode cX8_mean 73 = .ok (.istore_n 3, 1) := by decide +kernel
theorem dX8_mean_74 : decode cX8_mean 74 = .ok (.iload 4, 2) := by decide +kernel
theorem dX8_mean_76 : decode cX8_mean 76 = .ok (.iload 6, 2) := by decide +kernel
theorem dX8_mean_78 : decode cX8_mean 78 = .ok (.ifCond .eq 7, 3) := by decide +kernel
theorem dX8_mean_81 : decode cX8_mean 81 = .ok (.iconst 1, 1) := by decide +kernel
theorem dX8_mean_82 : decode cX8_mean 82 = .ok (.goto 4, 3) := by decide +kernel
theorem dX8_mean_85 : decode cX8_mean 85 = .ok (.iconst 0, 1) := by decide +kernel
theorem dX8_mean_86 : decode cX8_mean 86 = .ok (.iadd, 1) := by decide +kernel
theorem dX8_mean_87 : decode cX8_mean 87 = .ok (.istore 4, 2) := by decide +kernel
theorem dX8_mean_89 : decode cX8_mean 89 = .ok (.iinc 5 1, 3) := by decide +kernel
theorem dX8_mean_92 : decode cX8_mean 92 = .ok (.goto (-75), 3) := by decide +kernel
theorem dX8_mean_95 : decode cX8_mean 95 = .ok (.iload 4, 2) := by decide +kernel
theorem dX8_mean_97 : decode cX8_mean 97 = .ok (.ifCond .ne 11, 3) := by decide +kernel
theorem dX8_mean_100 : decode cX8_mean 100 = .ok (.aload_n 0, 1) := by decide +kernel
theorem dX8_mean_101 : decode cX8_mean 101 = .ok (.iconst 4, 1) := by decide +kernel
theorem dX8_mean_102 : decode cX8_mean 102 = .ok (.invokevirtual 142, 3) := by decide +kernel
theorem dX8_mean_105 : decode cX8_mean 105 = .ok (.goto 7, 3) := by decide +kernel
theorem dX8_mean_108 : decode cX8_mean 108 = .ok (.iload_n 3, 1) := by decide +kernel
theorem dX8_mean_109 : decode cX8_mean 109 = .ok (.iload 4, 2) := by decide +kernel
theorem dX8_mean_111 : decode cX8_mean 111 = .ok (.idiv, 1) := by decide +kernel
theorem dX8_mean_112 : decode cX8_mean 112 = .ok (.ireturn, 1) := by decide +kernel
set_option maxRecDepth 20000 in
theorem ggX8_spread_X8_tells : GoodIn wsX8_spread wsX8_tells := goodIn_r _ [10, 11, 12, 13, 14, 15, 16, 17, 18, 19, 20, 21, 22, 23, 24, 25, 26, 27, 28, 29, 30, 31, 32, 33, 34, 35, 36, 37, 38, 39, 40, 41, 42, 43, 44, 45, 46, 47, 48, 49, 50, 51, 52, 53, 54, 55, 56, 57, 58] (by decide +kernel) (by decide +kernel)
set_option maxRecDepth 20000 in
theorem gX8_spread_X8_tells : GoodIn wsX8_spread (wsV RX8 158 RX8 yX8_tells wsX8_tells) := goodIn_app (goodIn_of _ (by decide +kernel)) ggX8_spread_X8_tells
theorem dX8_spread_0 : decode cX8_spread 0 = .ok (.bipush (-9), 2) := by decide +kernel
theorem dX8_spread_2 : decode cX8_spread 2 = .ok (.istore_n 1, 1) := by decide +kernel
theorem dX8_spread_3 : decode cX8_spread 3 = .ok (.iconst 0, 1) := by decide +kernel
theorem dX8_spread_4 : decode cX8_spread 4 = .ok (.istore_n 2, 1) := by decide +kernel
theorem dX8_spread_5 : decode cX8_spread 5 = .ok (.iconst 0, 1) := by decide +kernel
theorem dX8_spread_6 : decode cX8_spread 6 = .ok (.istore_n 3, 1) := by decide +kernel
theorem dX8_spread_7 : decode cX8_spread 7 = .ok (.iload_n 3, 1) := by decide +kernel
theorem dX8_spread_8 : decode cX8_spread 8 = .ok (.aload_n 0, 1) := by decide +kernel
theorem dX8_spread_9 : decode cX8_spread 9 = .ok (.getfield 233, 3) := by decide +kernel
theorem dX8_spread_12 : decode cX8_spread 12 = .ok (.if_icmp .ge 155, 3) := by decide +kernel
theorem dX8_spread_15 : decode cX8_spread 15 = .ok (.iload_n 3, 1) := by decide +kernel
theorem dX8_spread_16 : decode cX8_spread 16 = .ok (.iconst 1, 1) := by decide +kernel
theorem dX8_spread_17 : decode cX8_spread 17 = .ok (.iadd, 1) := by decide +kernel
theorem dX8_spread_18 : decode cX8_spread 18 = .ok (.istore 4, 2) := by decide +kernel
theorem dX8_spread_20 : decode cX8_spread 20 = .ok (.iload 4, 2) := by decide +kernel
theorem dX8_spread_22 : decode cX8_spread 22 = .ok (.aload_n 0, 1) := by decide +kernel
theorem dX8_spread_23 : decode cX8_spread 23 = .ok (.getfield 233, 3) := by decide +kernel
theorem dX8_spread_26 : decode cX8_spread 26 = .ok (.if_icmp .ge 135, 3) := by decide +kernel
theorem dX8_spread_29 : decode cX8_spread 29 = .ok (.aload_n 0, 1) := by decide +kernel
theorem dX8_spread_30 : decode cX8_spread 30 = .ok (.getfield 81, 3) := by decide +kernel
theorem dX8_spread_33 : decode cX8_spread 33 = .ok (.iload_n 3, 1) := by decide +kernel
theorem dX8_spread_34 : decode cX8_spread 34 = .ok (.iaload, 1) := by decide +kernel
theorem dX8_spread_35 : decode cX8_spread 35 = .ok (.aload_n 0, 1) := by decide +kernel
theorem dX8_spread_36 : decode cX8_spread 36 = .ok (.getfield 81, 3) := by decide +kernel
theorem dX8_spread_39 : decode cX8_spread 39 = .ok (.iload 4, 2) := by decide +kernel
theorem dX8_spread_41 : decode cX8_spread 41 = .ok (.iaload, 1) := by decide +kernel
theorem dX8_spread_42 : decode cX8_spread 42 = .ok (.if_icmp .ne 42, 3) := by decide +kernel
theorem dX8_spread_45 : decode cX8_spread 45 = .ok (.aload_n 0, 1) := by decide +kernel
theorem dX8_spread_46 : decode cX8_spread 46 = .ok (.getfield 84, 3) := by decide +kernel
theorem dX8_spread_49 : decode cX8_spread 49 = .ok (.iload_n 3, 1) := by decide +kernel
theorem dX8_spread_50 : decode cX8_spread 50 = .ok (.iaload, 1) := by decide +kernel
theorem dX8_spread_51 : decode cX8_spread 51 = .ok (.aload_n 0, 1) := by decide +kernel
theorem dX8_spread_52 : decode cX8_spread 52 = .ok (.getfield 84, 3) := by decide +kernel
theorem dX8_spread_55 : decode cX8_spread 55 = .ok (.iload 4, 2) := by decide +kernel
theorem dX8_spread_57 : decode cX8_spread 57 = .ok (.iaload, 1) := by decide +kernel
theorem dX8_spread_58 : decode cX8_spread 58 = .ok (.if_icmp .ne 26, 3) := by decide +kernel
theorem dX8_spread_61 : decode cX8_spread 61 = .ok (.aload_n 0, 1) := by decide +kernel
theorem dX8_spread_62 : decode cX8_spread 62 = .ok (.getfield 90, 3) := by decide +kernel
theorem dX8_spread_65 : decode cX8_spread 65 = .ok (.iload_n 3, 1) := by decide +kernel
theorem dX8_spread_66 : decode cX8_spread 66 = .ok (.baload, 1) := by decide +kernel
theorem dX8_spread_67 : decode cX8_spread 67 = .ok (.ifCond .ne 17, 3) := by decide +kernel
theorem dX8_spread_70 : decode cX8_spread 70 = .ok (.aload_n 0, 1) := by decide +kernel
theorem dX8_spread_71 : decode cX8_spread 71 = .ok (.getfield 90, 3) := by decide +kernel
theorem dX8_spread_74 : decode cX8_spread 74 = .ok (.iload 4, 2) := by decide +kernel
theorem dX8_spread_76 : decode cX8_spread 76 = .ok (.baload, 1) := by decide +kernel
theorem dX8_spread_77 : decode cX8_spread 77 = .ok (.ifCond .ne 7, 3) := by decide +kernel
theorem dX8_spread_80 : decode cX8_spread 80 = .ok (.iconst 1, 1) := by decide +kernel
theorem dX8_spread_81 : decode cX8_spread 81 = .ok (.goto 4, 3) := by decide +kernel
theorem dX8_spread_84 : decode cX8_spread 84 = .ok (.iconst 0, 1) := by decide +kernel
theorem dX8_spread_85 : decode cX8_spread 85 = .ok (.istore 5, 2) := by decide +kernel
theorem dX8_spread_87 : decode cX8_spread 87 = .ok (.aload_n 0, 1) := by decide +kernel
theorem dX8_spread_88 : decode cX8_spread 88 = .ok (.getfield 87, 3) := by decide +kernel
theorem dX8_spread_91 : decode cX8_spread 91 = .ok (.iload_n 3, 1) := by decide +kernel
theorem dX8_spread_92 : decode cX8_spread 92 = .ok (.iaload, 1) := by decide +kernel
theorem dX8_spread_93 : decode cX8_spread 93 = .ok (.aload_n 0, 1) := by decide +kernel
theorem dX8_spread_94 : decode cX8_spread 94 = .ok (.getfield 87, 3) := by decide +kernel
theorem dX8_spread_97 : decode cX8_spread 97 = .ok (.iload 4, 2) := by decide +kernel
theorem dX8_spread_99 : decode cX8_spread 99 = .ok (.iaload, 1) := by decide +kernel
theorem dX8_spread_100 : decode cX8_spread 100 = .ok (.isub, 1) := by decide +kernel
theorem dX8_spread_101 : decode cX8_spread 101 = .ok (.istore 6, 2) := by decide +kernel
theorem dX8_spread_103 : decode cX8_spread 103 = .ok (.iload 6, 2) := by decide +kernel
theorem dX8_spread_105 : decode cX8_spread 105 = .ok (.ifCond .ge 9, 3) := by decide +kernel
theorem dX8_spread_108 : decode cX8_spread 108 = .ok (.iload 6, 2) := by decide +kernel
theorem dX8_spread_110 : decode cX8_spread 110 = .ok (.ineg, 1) := by decide +kernel
theorem dX8_spread_111 : decode cX8_spread 111 = .ok (.goto 5, 3) := by decide +kernel
theorem dX8_spread_114 : decode cX8_spread 114 = .ok (.iload 6, 2) := by decide +kernel
theorem dX8_spread_116 : decode cX8_spread 116 = .ok (.istore 6, 2) := by decide +kernel
theorem dX8_spread_118 : decode cX8_spread 118 = .ok (.iload 5, 2) := by decide +kernel
theorem dX8_spread_120 : decode cX8_spread 120 = .ok (.ifCond .eq 35, 3) := by decide +kernel
theorem dX8_spread_123 : decode cX8_spread 123 = .ok (.iload 6, 2) := by decide +kernel
theorem dX8_spread_125 : decode cX8_spread 125 = .ok (.iload_n 1, 1) := by decide +kernel
theorem dX8_spread_126 : decode cX8_spread 126 = .ok (.if_icmp .gt 19, 3) := by decide +kernel
theorem dX8_spread_129 : decode cX8_spread 129 = .ok (.iload 6, 2) := by decide +kernel
theorem dX8_spread_131 : decode cX8_spread 131 = .ok (.iload_n 1, 1) := by decide +kernel
theorem dX8_spread_132 : decode cX8_spread 132 = .ok (.if_icmp .ne 23, 3) := by decide +kernel
theorem dX8_spread_135 : decode cX8_spread 135 = .ok (.aload_n 0, 1) := by decide +kernel
theorem dX8_spread_136 : decode cX8_spread 136 = .ok (.getfield 81, 3) := by decide +kernel
theorem dX8_spread_139 : decode cX8_spread 139 = .ok (.iload_n 3, 1) := by decide +kernel
theorem dX8_spread_140 : decode cX8_spread 140 = .ok (.iaload, 1) := by decide +kernel
theorem dX8_spread_141 : decode cX8_spread 141 = .ok (.iload_n 2, 1) := by decide +kernel
theorem dX8_spread_142 : decode cX8_spread 142 = .ok (.if_icmp .ge 13, 3) := by decide +kernel
theorem dX8_spread_145 : decode cX8_spread 145 = .ok (.iload 6, 2) := by decide +kernel
theorem dX8_spread_147 : decode cX8_spread 147 = .ok (.istore_n 1, 1) := by decide +kernel
theorem dX8_spread_148 : decode cX8_spread 148 = .ok (.aload_n 0, 1) := by decide +kernel
theorem dX8_spread_149 : decode cX8_spread 149 = .ok (.getfield 81, 3) := by decide +kernel
theorem dX8_spread_152 : decode cX8_spread 152 = .ok (.iload_n 3, 1) := by decide +kernel
theorem dX8_spread_153 : decode cX8_spread 153 = .ok (.iaload, 1) := by decide +kernel
theorem dX8_spread_154 : decode cX8_spread 154 = .ok (.istore_n 2, 1) := by decide +kernel
theorem dX8_spread_155 : decode cX8_spread 155 = .ok (.iinc 4 1, 3) := by decide +kernel
theorem dX8_spread_158 : decode cX8_spread 158 = .ok (.goto (-138), 3) := by decide +kernel
theorem dX8_spread_161 : decode cX8_spread 161 = .ok (.iinc 3 1, 3) := by decide +kernel
theorem dX8_spread_164 : decode cX8_spread 164 = .ok (.goto (-157), 3) := by decide +kernel
theorem dX8_spread_167 : decode cX8_spread 167 = .ok (.iload_n 1, 1) := by decide +kernel
theorem dX8_spread_168 : decode cX8_spread 168 = .ok (.bipush (-9), 2) := by decide +kernel
theorem dX8_spread_170 : decode cX8_spread 170 = .ok (.if_icmp .ne 8, 3) := by decide +kernel
theorem dX8_spread_173 : decode cX8_spread 173 = .ok (.bipush (-9), 2) := by decide +kernel
theorem dX8_spread_175 : decode cX8_spread 175 = .ok (.goto 9, 3) := by decide +kernel
theorem dX8_spread_178 : decode cX8_spread 178 = .ok (.aload_n 0, 1) := by decide +kernel
theorem dX8_spread_179 : decode cX8_spread 179 = .ok (.iload_n 2, 1) := by decide +kernel
theorem dX8_spread_180 : decode cX8_spread 180 = .ok (.iload_n 1, 1) := by decide +kernel
theorem dX8_spread_181 : decode cX8_spread 181 = .ok (.invokevirtual 158, 3) := by decide +kernel
theorem dX8_spread_184 : decode cX8_spread 184 = .ok (.ireturn, 1) := by decide +kernel
set_option maxRecDepth 20000 in
theorem ggX8_sold_X8_in : GoodIn wsX8_sold wsX8_in := goodIn_r _ [9] (by decide +kernel) (by decide +kernel)
set_option maxRecDepth 20000 in
theorem gX8_sold_X8_in : GoodIn wsX8_sold (va_wsS RX8 125 yX8_in wsX8_in) := goodIn_app (goodIn_of _ (by decide +kernel)) ggX8_sold_X8_in
set_option maxRecDepth 20000 in
theorem ggX8_sold_X8_isHand : GoodIn wsX8_sold wsX8_isHand := goodIn_r _ [12, 6, 7, 8, 9] (by decide +kernel) (by decide +kernel)
set_option maxRecDepth 20000 in
theorem gX8_sold_X8_isHand : GoodIn wsX8_sold (va_wsS RX8 201 yX8_isHand wsX8_isHand) := goodIn_app (goodIn_of _ (by decide +kernel)) ggX8_sold_X8_isHand
theorem dX8_sold_0 : decode cX8_sold 0 = .ok (.iload_n 1, 1) := by decide +kernel
theorem dX8_sold_1 : decode cX8_sold 1 = .ok (.iconst 0, 1) := by decide +kernel
theorem dX8_sold_2 : decode cX8_sold 2 = .ok (.aload_n 0, 1) := by decide +kernel
theorem dX8_sold_3 : decode cX8_sold 3 = .ok (.getfield 135, 3) := by decide +kernel
theorem dX8_sold_6 : decode cX8_sold 6 = .ok (.invokestatic 125, 3) := by decide +kernel
theorem dX8_sold_9 : decode cX8_sold 9 = .ok (.ifCond .eq 20, 3) := by decide +kernel
theorem dX8_sold_12 : decode cX8_sold 12 = .ok (.iload_n 2, 1) := by decide +kernel
theorem dX8_sold_13 : decode cX8_sold 13 = .ok (.iconst 1, 1) := by decide +kernel
theorem dX8_sold_14 : decode cX8_sold 14 = .ok (.ldc 236, 2) := by decide +kernel
theorem dX8_sold_16 : decode cX8_sold 16 = .ok (.invokestatic 125, 3) := by decide +kernel
theorem dX8_sold_19 : decode cX8_sold 19 = .ok (.ifCond .eq 10, 3) := by decide +kernel
theorem dX8_sold_22 : decode cX8_sold 22 = .ok (.iload_n 3, 1) := by decide +kernel
theorem dX8_sold_23 : decode cX8_sold 23 = .ok (.invokestatic 201, 3) := by decide +kernel
theorem dX8_sold_26 : decode cX8_sold 26 = .ok (.ifCond .ne 5, 3) := by decide +kernel
theorem dX8_sold_29 : decode cX8_sold 29 = .ok (.iconst (-1), 1) := by decide +kernel
theorem dX8_sold_30 : decode cX8_sold 30 = .ok (.ireturn, 1) := by decide +kernel
theorem dX8_sold_31 : decode cX8_sold 31 = .ok (.aload_n 0, 1) := by decide +kernel
theorem dX8_sold_32 : decode cX8_sold 32 = .ok (.iload_n 1, 1) := by decide +kernel
theorem dX8_sold_33 : decode cX8_sold 33 = .ok (.putfield 119, 3) := by decide +kernel
theorem dX8_sold_36 : decode cX8_sold 36 = .ok (.aload_n 0, 1) := by decide +kernel
theorem dX8_sold_37 : decode cX8_sold 37 = .ok (.iload_n 2, 1) := by decide +kernel
theorem dX8_sold_38 : decode cX8_sold 38 = .ok (.putfield 237, 3) := by decide +kernel
theorem dX8_sold_41 : decode cX8_sold 41 = .ok (.aload_n 0, 1) := by decide +kernel
theorem dX8_sold_42 : decode cX8_sold 42 = .ok (.iload_n 3, 1) := by decide +kernel
theorem dX8_sold_43 : decode cX8_sold 43 = .ok (.putfield 240, 3) := by decide +kernel
theorem dX8_sold_46 : decode cX8_sold 46 = .ok (.iconst 1, 1) := by decide +kernel
theorem dX8_sold_47 : decode cX8_sold 47 = .ok (.ireturn, 1) := by decide +kernel
set_option maxRecDepth 20000 in
theorem ggX8_law_X8_isDay : GoodIn wsX8_law wsX8_isDay := goodIn_r _ [9, 10, 11, 8, 12] (by decide +kernel) (by decide +kernel)
set_option maxRecDepth 20000 in
theorem gX8_law_X8_isDay : GoodIn wsX8_law (va_wsS RX8 189 yX8_isDay wsX8_isDay) := goodIn_app (goodIn_of _ (by decide +kernel)) ggX8_law_X8_isDay
set_option maxRecDepth 20000 in
theorem ggX8_law_X8_in : GoodIn wsX8_law wsX8_in := goodIn_r _ [12] (by decide +kernel) (by decide +kernel)
set_option maxRecDepth 20000 in
theorem gX8_law_X8_in : GoodIn wsX8_law (va_wsS RX8 125 yX8_in wsX8_in) := goodIn_app (goodIn_of _ (by decide +kernel)) ggX8_law_X8_in
theorem dX8_law_0 : decode cX8_law 0 = .ok (.iload_n 1, 1) := by decide +kernel
theorem dX8_law_1 : decode cX8_law 1 = .ok (.invokestatic 189, 3) := by decide +kernel
theorem dX8_law_4 : decode cX8_law 4 = .ok (.ifCond .eq 31, 3) := by decide +kernel
theorem dX8_law_7 : decode cX8_law 7 = .ok (.iload_n 2, 1) := by decide +kernel
theorem dX8_law_8 : decode cX8_law 8 = .ok (.invokestatic 189, 3) := by decide +kernel
