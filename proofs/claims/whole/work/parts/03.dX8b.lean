theorem dX8_comes_43 : decode cX8_comes 43 = .ok (.getfield 167, 3) := by decide +kernel
theorem dX8_comes_46 : decode cX8_comes 46 = .ok (.iload_n 3, 1) := by decide +kernel
theorem dX8_comes_47 : decode cX8_comes 47 = .ok (.iastore, 1) := by decide +kernel
theorem dX8_comes_48 : decode cX8_comes 48 = .ok (.aload_n 0, 1) := by decide +kernel
theorem dX8_comes_49 : decode cX8_comes 49 = .ok (.getfield 32, 3) := by decide +kernel
theorem dX8_comes_52 : decode cX8_comes 52 = .ok (.aload_n 0, 1) := by decide +kernel
theorem dX8_comes_53 : decode cX8_comes 53 = .ok (.getfield 167, 3) := by decide +kernel
theorem dX8_comes_56 : decode cX8_comes 56 = .ok (.aload_n 0, 1) := by decide +kernel
theorem dX8_comes_57 : decode cX8_comes 57 = .ok (.getfield 135, 3) := by decide +kernel
theorem dX8_comes_60 : decode cX8_comes 60 = .ok (.iastore, 1) := by decide +kernel
theorem dX8_comes_61 : decode cX8_comes 61 = .ok (.aload_n 0, 1) := by decide +kernel
theorem dX8_comes_62 : decode cX8_comes 62 = .ok (.getfield 35, 3) := by decide +kernel
theorem dX8_comes_65 : decode cX8_comes 65 = .ok (.aload_n 0, 1) := by decide +kernel
theorem dX8_comes_66 : decode cX8_comes 66 = .ok (.getfield 167, 3) := by decide +kernel
theorem dX8_comes_69 : decode cX8_comes 69 = .ok (.bipush (-9), 2) := by decide +kernel
theorem dX8_comes_71 : decode cX8_comes 71 = .ok (.iastore, 1) := by decide +kernel
theorem dX8_comes_72 : decode cX8_comes 72 = .ok (.aload_n 0, 1) := by decide +kernel
theorem dX8_comes_73 : decode cX8_comes 73 = .ok (.getfield 38, 3) := by decide +kernel
theorem dX8_comes_76 : decode cX8_comes 76 = .ok (.aload_n 0, 1) := by decide +kernel
theorem dX8_comes_77 : decode cX8_comes 77 = .ok (.getfield 167, 3) := by decide +kernel
theorem dX8_comes_80 : decode cX8_comes 80 = .ok (.iload 4, 2) := by decide +kernel
theorem dX8_comes_82 : decode cX8_comes 82 = .ok (.iastore, 1) := by decide +kernel
theorem dX8_comes_83 : decode cX8_comes 83 = .ok (.aload_n 0, 1) := by decide +kernel
theorem dX8_comes_84 : decode cX8_comes 84 = .ok (.getfield 41, 3) := by decide +kernel
theorem dX8_comes_87 : decode cX8_comes 87 = .ok (.aload_n 0, 1) := by decide +kernel
theorem dX8_comes_88 : decode cX8_comes 88 = .ok (.getfield 167, 3) := by decide +kernel
theorem dX8_comes_91 : decode cX8_comes 91 = .ok (.iload 5, 2) := by decide +kernel
theorem dX8_comes_93 : decode cX8_comes 93 = .ok (.iastore, 1) := by decide +kernel
theorem dX8_comes_94 : decode cX8_comes 94 = .ok (.aload_n 0, 1) := by decide +kernel
theorem dX8_comes_95 : decode cX8_comes 95 = .ok (.getfield 44, 3) := by decide +kernel
theorem dX8_comes_98 : decode cX8_comes 98 = .ok (.aload_n 0, 1) := by decide +kernel
theorem dX8_comes_99 : decode cX8_comes 99 = .ok (.getfield 167, 3) := by decide +kernel
theorem dX8_comes_102 : decode cX8_comes 102 = .ok (.iload 6, 2) := by decide +kernel
theorem dX8_comes_104 : decode cX8_comes 104 = .ok (.iastore, 1) := by decide +kernel
theorem dX8_comes_105 : decode cX8_comes 105 = .ok (.aload_n 0, 1) := by decide +kernel
theorem dX8_comes_106 : decode cX8_comes 106 = .ok (.getfield 47, 3) := by decide +kernel
theorem dX8_comes_109 : decode cX8_comes 109 = .ok (.aload_n 0, 1) := by decide +kernel
theorem dX8_comes_110 : decode cX8_comes 110 = .ok (.getfield 167, 3) := by decide +kernel
theorem dX8_comes_113 : decode cX8_comes 113 = .ok (.iload 7, 2) := by decide +kernel
theorem dX8_comes_115 : decode cX8_comes 115 = .ok (.iastore, 1) := by decide +kernel
theorem dX8_comes_116 : decode cX8_comes 116 = .ok (.aload_n 0, 1) := by decide +kernel
theorem dX8_comes_117 : decode cX8_comes 117 = .ok (.dup, 1) := by decide +kernel
theorem dX8_comes_118 : decode cX8_comes 118 = .ok (.getfield 167, 3) := by decide +kernel
theorem dX8_comes_121 : decode cX8_comes 121 = .ok (.iconst 1, 1) := by decide +kernel
theorem dX8_comes_122 : decode cX8_comes 122 = .ok (.iadd, 1) := by decide +kernel
theorem dX8_comes_123 : decode cX8_comes 123 = .ok (.putfield 167, 3) := by decide +kernel
theorem dX8_comes_126 : decode cX8_comes 126 = .ok (.aload_n 0, 1) := by decide +kernel
theorem dX8_comes_127 : decode cX8_comes 127 = .ok (.getfield 167, 3) := by decide +kernel
theorem dX8_comes_130 : decode cX8_comes 130 = .ok (.iconst 1, 1) := by decide +kernel
theorem dX8_comes_131 : decode cX8_comes 131 = .ok (.isub, 1) := by decide +kernel
theorem dX8_comes_132 : decode cX8_comes 132 = .ok (.ireturn, 1) := by decide +kernel
set_option maxRecDepth 20000 in
theorem ggX8_proof_X8_isYear : GoodIn wsX8_proof wsX8_isYear := goodIn_r _ [4, 5, 6, 3, 7] (by decide +kernel) (by decide +kernel)
set_option maxRecDepth 20000 in
theorem gX8_proof_X8_isYear : GoodIn wsX8_proof (va_wsS RX8 164 yX8_isYear wsX8_isYear) := goodIn_app (goodIn_of _ (by decide +kernel)) ggX8_proof_X8_isYear
set_option maxRecDepth 20000 in
theorem ggX8_proof_X8_in : GoodIn wsX8_proof wsX8_in := goodIn_r _ [7] (by decide +kernel) (by decide +kernel)
set_option maxRecDepth 20000 in
theorem gX8_proof_X8_in : GoodIn wsX8_proof (va_wsS RX8 125 yX8_in wsX8_in) := goodIn_app (goodIn_of _ (by decide +kernel)) ggX8_proof_X8_in
set_option maxRecDepth 20000 in
theorem ggX8_proof_X8_comes : GoodIn wsX8_proof wsX8_comes := goodIn_r _ [11, 12, 13, 14, 15, 16, 17, 18, 19, 20, 21, 5, 6, 3, 7, 22, 23, 24, 25, 26, 27, 28, 29, 30, 31, 32, 33, 34, 35, 36, 37, 38, 39, 40, 41, 42, 43, 44, 45, 46, 47, 48, 49, 50, 51, 52, 53, 54, 55, 56, 57, 58, 59, 60, 61, 62, 63, 64, 65, 66, 67, 68] (by decide +kernel) (by decide +kernel)
set_option maxRecDepth 20000 in
theorem gX8_proof_X8_comes : GoodIn wsX8_proof (wsV RX8 170 RX8 yX8_comes wsX8_comes) := goodIn_app (goodIn_of _ (by decide +kernel)) ggX8_proof_X8_comes
theorem dX8_proof_0 : decode cX8_proof 0 = .ok (.aload_n 0, 1) := by decide +kernel
theorem dX8_proof_1 : decode cX8_proof 1 = .ok (.iload_n 1, 1) := by decide +kernel
theorem dX8_proof_2 : decode cX8_proof 2 = .ok (.invokestatic 164, 3) := by decide +kernel
theorem dX8_proof_5 : decode cX8_proof 5 = .ok (.ifCond .eq 18, 3) := by decide +kernel
theorem dX8_proof_8 : decode cX8_proof 8 = .ok (.iload_n 2, 1) := by decide +kernel
theorem dX8_proof_9 : decode cX8_proof 9 = .ok (.iload_n 1, 1) := by decide +kernel
theorem dX8_proof_10 : decode cX8_proof 10 = .ok (.sipush 2100, 3) := by decide +kernel
theorem dX8_proof_13 : decode cX8_proof 13 = .ok (.invokestatic 125, 3) := by decide +kernel
theorem dX8_proof_16 : decode cX8_proof 16 = .ok (.ifCond .eq 7, 3) := by decide +kernel
theorem dX8_proof_19 : decode cX8_proof 19 = .ok (.iconst 1, 1) := by decide +kernel
theorem dX8_proof_20 : decode cX8_proof 20 = .ok (.goto 4, 3) := by decide +kernel
theorem dX8_proof_23 : decode cX8_proof 23 = .ok (.iconst 0, 1) := by decide +kernel
theorem dX8_proof_24 : decode cX8_proof 24 = .ok (.iconst 0, 1) := by decide +kernel
theorem dX8_proof_25 : decode cX8_proof 25 = .ok (.iload_n 3, 1) := by decide +kernel
theorem dX8_proof_26 : decode cX8_proof 26 = .ok (.iload_n 1, 1) := by decide +kernel
theorem dX8_proof_27 : decode cX8_proof 27 = .ok (.iload_n 2, 1) := by decide +kernel
theorem dX8_proof_28 : decode cX8_proof 28 = .ok (.iconst 0, 1) := by decide +kernel
theorem dX8_proof_29 : decode cX8_proof 29 = .ok (.iconst 0, 1) := by decide +kernel
theorem dX8_proof_30 : decode cX8_proof 30 = .ok (.invokevirtual 170, 3) := by decide +kernel
theorem dX8_proof_33 : decode cX8_proof 33 = .ok (.ireturn, 1) := by decide +kernel
set_option maxRecDepth 20000 in
theorem ggX8_found_X8_in : GoodIn wsX8_found wsX8_in := goodIn_r _ [4] (by decide +kernel) (by decide +kernel)
set_option maxRecDepth 20000 in
theorem gX8_found_X8_in : GoodIn wsX8_found (va_wsS RX8 125 yX8_in wsX8_in) := goodIn_app (goodIn_of _ (by decide +kernel)) ggX8_found_X8_in
set_option maxRecDepth 20000 in
theorem ggX8_found_X8_comes : GoodIn wsX8_found wsX8_comes := goodIn_r _ [8, 9, 10, 11, 12, 13, 14, 15, 16, 17, 18, 1, 2, 3, 4, 19, 20, 21, 22, 23, 24, 25, 26, 27, 28, 29, 30, 31, 32, 33, 34, 35, 36, 37, 38, 39, 40, 41, 42, 43, 44, 45, 46, 47, 48, 49, 50, 51, 52, 53, 54, 55, 56, 57, 58, 59, 60, 61, 62, 63, 64, 65] (by decide +kernel) (by decide +kernel)
set_option maxRecDepth 20000 in
theorem gX8_found_X8_comes : GoodIn wsX8_found (wsV RX8 170 RX8 yX8_comes wsX8_comes) := goodIn_app (goodIn_of _ (by decide +kernel)) ggX8_found_X8_comes
theorem dX8_found_0 : decode cX8_found 0 = .ok (.aload_n 0, 1) := by decide +kernel
theorem dX8_found_1 : decode cX8_found 1 = .ok (.iload_n 1, 1) := by decide +kernel
theorem dX8_found_2 : decode cX8_found 2 = .ok (.iconst 0, 1) := by decide +kernel
theorem dX8_found_3 : decode cX8_found 3 = .ok (.bipush 9, 2) := by decide +kernel
theorem dX8_found_5 : decode cX8_found 5 = .ok (.invokestatic 125, 3) := by decide +kernel
theorem dX8_found_8 : decode cX8_found 8 = .ok (.iconst 1, 1) := by decide +kernel
theorem dX8_found_9 : decode cX8_found 9 = .ok (.iload_n 2, 1) := by decide +kernel
theorem dX8_found_10 : decode cX8_found 10 = .ok (.iload_n 1, 1) := by decide +kernel
theorem dX8_found_11 : decode cX8_found 11 = .ok (.iconst 0, 1) := by decide +kernel
theorem dX8_found_12 : decode cX8_found 12 = .ok (.iconst 0, 1) := by decide +kernel
theorem dX8_found_13 : decode cX8_found 13 = .ok (.iconst 0, 1) := by decide +kernel
theorem dX8_found_14 : decode cX8_found 14 = .ok (.invokevirtual 170, 3) := by decide +kernel
theorem dX8_found_17 : decode cX8_found 17 = .ok (.ireturn, 1) := by decide +kernel
set_option maxRecDepth 20000 in
theorem ggX8_rings_X8_in : GoodIn wsX8_rings wsX8_in := goodIn_r _ [4] (by decide +kernel) (by decide +kernel)
set_option maxRecDepth 20000 in
theorem gX8_rings_X8_in : GoodIn wsX8_rings (va_wsS RX8 125 yX8_in wsX8_in) := goodIn_app (goodIn_of _ (by decide +kernel)) ggX8_rings_X8_in
set_option maxRecDepth 20000 in
theorem ggX8_rings_X8_comes : GoodIn wsX8_rings wsX8_comes := goodIn_r _ [8, 9, 10, 11, 12, 13, 14, 15, 16, 17, 18, 1, 2, 3, 4, 19, 20, 21, 22, 23, 24, 25, 26, 27, 28, 29, 30, 31, 32, 33, 34, 35, 36, 37, 38, 39, 40, 41, 42, 43, 44, 45, 46, 47, 48, 49, 50, 51, 52, 53, 54, 55, 56, 57, 58, 59, 60, 61, 62, 63, 64, 65] (by decide +kernel) (by decide +kernel)
set_option maxRecDepth 20000 in
theorem gX8_rings_X8_comes : GoodIn wsX8_rings (wsV RX8 170 RX8 yX8_comes wsX8_comes) := goodIn_app (goodIn_of _ (by decide +kernel)) ggX8_rings_X8_comes
theorem dX8_rings_0 : decode cX8_rings 0 = .ok (.aload_n 0, 1) := by decide +kernel
theorem dX8_rings_1 : decode cX8_rings 1 = .ok (.iload_n 1, 1) := by decide +kernel
theorem dX8_rings_2 : decode cX8_rings 2 = .ok (.sipush 1000, 3) := by decide +kernel
theorem dX8_rings_5 : decode cX8_rings 5 = .ok (.sipush 2000, 3) := by decide +kernel
theorem dX8_rings_8 : decode cX8_rings 8 = .ok (.invokestatic 125, 3) := by decide +kernel
theorem dX8_rings_11 : decode cX8_rings 11 = .ok (.ifCond .eq 17, 3) := by decide +kernel
theorem dX8_rings_14 : decode cX8_rings 14 = .ok (.iload_n 2, 1) := by decide +kernel
theorem dX8_rings_15 : decode cX8_rings 15 = .ok (.iconst 0, 1) := by decide +kernel
theorem dX8_rings_16 : decode cX8_rings 16 = .ok (.bipush 30, 2) := by decide +kernel
theorem dX8_rings_18 : decode cX8_rings 18 = .ok (.invokestatic 125, 3) := by decide +kernel
theorem dX8_rings_21 : decode cX8_rings 21 = .ok (.ifCond .eq 7, 3) := by decide +kernel
theorem dX8_rings_24 : decode cX8_rings 24 = .ok (.iconst 1, 1) := by decide +kernel
theorem dX8_rings_25 : decode cX8_rings 25 = .ok (.goto 4, 3) := by decide +kernel
theorem dX8_rings_28 : decode cX8_rings 28 = .ok (.iconst 0, 1) := by decide +kernel
theorem dX8_rings_29 : decode cX8_rings 29 = .ok (.iconst 2, 1) := by decide +kernel
theorem dX8_rings_30 : decode cX8_rings 30 = .ok (.iload_n 3, 1) := by decide +kernel
theorem dX8_rings_31 : decode cX8_rings 31 = .ok (.iload_n 1, 1) := by decide +kernel
theorem dX8_rings_32 : decode cX8_rings 32 = .ok (.iload_n 2, 1) := by decide +kernel
theorem dX8_rings_33 : decode cX8_rings 33 = .ok (.iconst 0, 1) := by decide +kernel
theorem dX8_rings_34 : decode cX8_rings 34 = .ok (.iconst 0, 1) := by decide +kernel
theorem dX8_rings_35 : decode cX8_rings 35 = .ok (.invokevirtual 170, 3) := by decide +kernel
theorem dX8_rings_38 : decode cX8_rings 38 = .ok (.ireturn, 1) := by decide +kernel
set_option maxRecDepth 20000 in
theorem ggX8_threads_X8_isRow : GoodIn wsX8_threads wsX8_isRow := goodIn_r _ [4, 5, 6, 3, 7] (by decide +kernel) (by decide +kernel)
set_option maxRecDepth 20000 in
theorem gX8_threads_X8_isRow : GoodIn wsX8_threads (va_wsS RX8 138 yX8_isRow wsX8_isRow) := goodIn_app (goodIn_of _ (by decide +kernel)) ggX8_threads_X8_isRow
set_option maxRecDepth 20000 in
theorem ggX8_threads_X8_isYear : GoodIn wsX8_threads wsX8_isYear := goodIn_r _ [10, 5, 6, 3, 7] (by decide +kernel) (by decide +kernel)
set_option maxRecDepth 20000 in
theorem gX8_threads_X8_isYear : GoodIn wsX8_threads (va_wsS RX8 164 yX8_isYear wsX8_isYear) := goodIn_app (goodIn_of _ (by decide +kernel)) ggX8_threads_X8_isYear
set_option maxRecDepth 20000 in
theorem ggX8_threads_X8_in : GoodIn wsX8_threads wsX8_in := goodIn_r _ [7] (by decide +kernel) (by decide +kernel)
set_option maxRecDepth 20000 in
theorem gX8_threads_X8_in : GoodIn wsX8_threads (va_wsS RX8 125 yX8_in wsX8_in) := goodIn_app (goodIn_of _ (by decide +kernel)) ggX8_threads_X8_in
set_option maxRecDepth 20000 in
theorem ggX8_threads_X8_comes : GoodIn wsX8_threads wsX8_comes := goodIn_r _ [14, 15, 16, 17, 18, 19, 20, 21, 22, 23, 24, 5, 6, 3, 7, 25, 26, 27, 28, 29, 30, 31, 32, 33, 34, 35, 36, 37, 38, 39, 40, 41, 42, 43, 44, 45, 46, 47, 48, 49, 50, 51, 52, 53, 54, 55, 56, 57, 58, 59, 60, 61, 62, 63, 64, 65, 66, 67, 68, 69, 70, 71] (by decide +kernel) (by decide +kernel)
set_option maxRecDepth 20000 in
theorem gX8_threads_X8_comes : GoodIn wsX8_threads (wsV RX8 170 RX8 yX8_comes wsX8_comes) := goodIn_app (goodIn_of _ (by decide +kernel)) ggX8_threads_X8_comes
theorem dX8_threads_0 : decode cX8_threads 0 = .ok (.aload_n 0, 1) := by decide +kernel
theorem dX8_threads_1 : decode cX8_threads 1 = .ok (.iload_n 1, 1) := by decide +kernel
theorem dX8_threads_2 : decode cX8_threads 2 = .ok (.invokestatic 138, 3) := by decide +kernel
theorem dX8_threads_5 : decode cX8_threads 5 = .ok (.ifCond .eq 38, 3) := by decide +kernel
theorem dX8_threads_8 : decode cX8_threads 8 = .ok (.iload_n 2, 1) := by decide +kernel
theorem dX8_threads_9 : decode cX8_threads 9 = .ok (.invokestatic 138, 3) := by decide +kernel
theorem dX8_threads_12 : decode cX8_threads 12 = .ok (.ifCond .eq 31, 3) := by decide +kernel
theorem dX8_threads_15 : decode cX8_threads 15 = .ok (.iload_n 1, 1) := by decide +kernel
theorem dX8_threads_16 : decode cX8_threads 16 = .ok (.iload_n 2, 1) := by decide +kernel
theorem dX8_threads_17 : decode cX8_threads 17 = .ok (.if_icmp .eq 26, 3) := by decide +kernel
theorem dX8_threads_20 : decode cX8_threads 20 = .ok (.iload_n 3, 1) := by decide +kernel
theorem dX8_threads_21 : decode cX8_threads 21 = .ok (.invokestatic 164, 3) := by decide +kernel
theorem dX8_threads_24 : decode cX8_threads 24 = .ok (.ifCond .eq 19, 3) := by decide +kernel
theorem dX8_threads_27 : decode cX8_threads 27 = .ok (.iload 4, 2) := by decide +kernel
theorem dX8_threads_29 : decode cX8_threads 29 = .ok (.iload_n 3, 1) := by decide +kernel
theorem dX8_threads_30 : decode cX8_threads 30 = .ok (.sipush 2100, 3) := by decide +kernel
theorem dX8_threads_33 : decode cX8_threads 33 = .ok (.invokestatic 125, 3) := by decide +kernel
theorem dX8_threads_36 : decode cX8_threads 36 = .ok (.ifCond .eq 7, 3) := by decide +kernel
theorem dX8_threads_39 : decode cX8_threads 39 = .ok (.iconst 1, 1) := by decide +kernel
theorem dX8_threads_40 : decode cX8_threads 40 = .ok (.goto 4, 3) := by decide +kernel
theorem dX8_threads_43 : decode cX8_threads 43 = .ok (.iconst 0, 1) := by decide +kernel
theorem dX8_threads_44 : decode cX8_threads 44 = .ok (.iconst 3, 1) := by decide +kernel
theorem dX8_threads_45 : decode cX8_threads 45 = .ok (.iload 5, 2) := by decide +kernel
theorem dX8_threads_47 : decode cX8_threads 47 = .ok (.iload_n 3, 1) := by decide +kernel
theorem dX8_threads_48 : decode cX8_threads 48 = .ok (.iload 4, 2) := by decide +kernel
theorem dX8_threads_50 : decode cX8_threads 50 = .ok (.iload_n 1, 1) := by decide +kernel
theorem dX8_threads_51 : decode cX8_threads 51 = .ok (.iload_n 2, 1) := by decide +kernel
theorem dX8_threads_52 : decode cX8_threads 52 = .ok (.invokevirtual 170, 3) := by decide +kernel
theorem dX8_threads_55 : decode cX8_threads 55 = .ok (.ireturn, 1) := by decide +kernel
set_option maxRecDepth 20000 in
theorem ggX8_isProof_X8_in : GoodIn wsX8_isProof wsX8_in := goodIn_r _ [5] (by decide +kernel) (by decide +kernel)
set_option maxRecDepth 20000 in
theorem gX8_isProof_X8_in : GoodIn wsX8_isProof (va_wsS RX8 125 yX8_in wsX8_in) := goodIn_app (goodIn_of _ (by decide +kernel)) ggX8_isProof_X8_in
theorem dX8_isProof_0 : decode cX8_isProof 0 = .ok (.iload_n 1, 1) := by decide +kernel
theorem dX8_isProof_1 : decode cX8_isProof 1 = .ok (.iconst 0, 1) := by decide +kernel
theorem dX8_isProof_2 : decode cX8_isProof 2 = .ok (.aload_n 0, 1) := by decide +kernel
theorem dX8_isProof_3 : decode cX8_isProof 3 = .ok (.getfield 167, 3) := by decide +kernel
theorem dX8_isProof_6 : decode cX8_isProof 6 = .ok (.iconst 1, 1) := by decide +kernel
theorem dX8_isProof_7 : decode cX8_isProof 7 = .ok (.isub, 1) := by decide +kernel
theorem dX8_isProof_8 : decode cX8_isProof 8 = .ok (.invokestatic 125, 3) := by decide +kernel
theorem dX8_isProof_11 : decode cX8_isProof 11 = .ok (.ireturn, 1) := by decide +kernel
set_option maxRecDepth 20000 in
theorem ggX8_strike_X8_isProof : GoodIn wsX8_strike wsX8_isProof := goodIn_r _ [7, 8, 9, 10, 6, 11, 12, 13, 14, 15, 16, 17, 18, 19, 20, 21, 22, 23, 24, 25, 26, 27, 28, 29, 30, 31, 32, 33, 34, 35, 36, 37, 38, 39, 40, 41, 42, 43, 44, 45, 46, 47, 48, 49, 50, 51, 52, 53, 54, 55, 56, 57, 58] (by decide +kernel) (by decide +kernel)
set_option maxRecDepth 20000 in
theorem gX8_strike_X8_isProof : GoodIn wsX8_strike (wsV RX8 174 RX8 yX8_isProof wsX8_isProof) := goodIn_app (goodIn_of _ (by decide +kernel)) ggX8_strike_X8_isProof
theorem dX8_strike_0 : decode cX8_strike 0 = .ok (.aload_n 0, 1) := by decide +kernel
theorem dX8_strike_1 : decode cX8_strike 1 = .ok (.iload_n 1, 1) := by decide +kernel
theorem dX8_strike_2 : decode cX8_strike 2 = .ok (.invokevirtual 174, 3) := by decide +kernel
theorem dX8_strike_5 : decode cX8_strike 5 = .ok (.ifCond .ne 5, 3) := by decide +kernel
theorem dX8_strike_8 : decode cX8_strike 8 = .ok (.iconst (-1), 1) := by decide +kernel
theorem dX8_strike_9 : decode cX8_strike 9 = .ok (.ireturn, 1) := by decide +kernel
theorem dX8_strike_10 : decode cX8_strike 10 = .ok (.aload_n 0, 1) := by decide +kernel
theorem dX8_strike_11 : decode cX8_strike 11 = .ok (.getfield 35, 3) := by decide +kernel
theorem dX8_strike_14 : decode cX8_strike 14 = .ok (.iload_n 1, 1) := by decide +kernel
theorem dX8_strike_15 : decode cX8_strike 15 = .ok (.iaload, 1) := by decide +kernel
theorem dX8_strike_16 : decode cX8_strike 16 = .ok (.bipush (-9), 2) := by decide +kernel
theorem dX8_strike_18 : decode cX8_strike 18 = .ok (.if_icmp .eq 6, 3) := by decide +kernel
theorem dX8_strike_21 : decode cX8_strike 21 = .ok (.bipush (-4), 2) := by decide +kernel
theorem dX8_strike_23 : decode cX8_strike 23 = .ok (.ireturn, 1) := by decide +kernel
theorem dX8_strike_24 : decode cX8_strike 24 = .ok (.aload_n 0, 1) := by decide +kernel
theorem dX8_strike_25 : decode cX8_strike 25 = .ok (.getfield 35, 3) := by decide +kernel
theorem dX8_strike_28 : decode cX8_strike 28 = .ok (.iload_n 1, 1) := by decide +kernel
theorem dX8_strike_29 : decode cX8_strike 29 = .ok (.aload_n 0, 1) := by decide +kernel
theorem dX8_strike_30 : decode cX8_strike 30 = .ok (.getfield 135, 3) := by decide +kernel
theorem dX8_strike_33 : decode cX8_strike 33 = .ok (.iastore, 1) := by decide +kernel
theorem dX8_strike_34 : decode cX8_strike 34 = .ok (.iconst 1, 1) := by decide +kernel
theorem dX8_strike_35 : decode cX8_strike 35 = .ok (.ireturn, 1) := by decide +kernel
theorem dX8_lack_0 : decode cX8_lack 0 = .ok (.iload_n 0, 1) := by decide +kernel
theorem dX8_lack_1 : decode cX8_lack 1 = .ok (.iload_n 1, 1) := by decide +kernel
theorem dX8_lack_2 : decode cX8_lack 2 = .ok (.if_icmp .le 9, 3) := by decide +kernel
theorem dX8_lack_5 : decode cX8_lack 5 = .ok (.iload_n 0, 1) := by decide +kernel
theorem dX8_lack_6 : decode cX8_lack 6 = .ok (.iload_n 1, 1) := by decide +kernel
theorem dX8_lack_7 : decode cX8_lack 7 = .ok (.isub, 1) := by decide +kernel
theorem dX8_lack_8 : decode cX8_lack 8 = .ok (.goto 4, 3) := by decide +kernel
theorem dX8_lack_11 : decode cX8_lack 11 = .ok (.iconst 0, 1) := by decide +kernel
theorem dX8_lack_12 : decode cX8_lack 12 = .ok (.ireturn, 1) := by decide +kernel
set_option maxRecDepth 20000 in
theorem ggX8_fromOf_X8_lack : GoodIn wsX8_fromOf wsX8_lack := goodIn_r _ [11] (by decide +kernel) (by decide +kernel)
set_option maxRecDepth 20000 in
theorem gX8_fromOf_X8_lack : GoodIn wsX8_fromOf (va_wsS RX8 177 yX8_lack wsX8_lack) := goodIn_app (goodIn_of _ (by decide +kernel)) ggX8_fromOf_X8_lack
set_option maxRecDepth 20000 in
theorem ggX8_fromOf_X8_isSure : GoodIn wsX8_fromOf wsX8_isSure := goodIn_r _ [15, 16, 17, 18, 10, 19, 20, 21, 22, 23, 24, 25, 26, 27, 28, 29, 30, 31, 32, 33, 34, 35, 36, 37, 38, 39, 40, 41, 42, 43, 44, 45, 46, 47, 48, 49, 50, 51, 52, 53, 54, 55, 56, 57, 58, 59, 60, 61, 62, 63, 64, 65, 66, 67, 68, 69, 70, 71, 72, 73, 74, 75, 76] (by decide +kernel) (by decide +kernel)
set_option maxRecDepth 20000 in
theorem gX8_fromOf_X8_isSure : GoodIn wsX8_fromOf (wsV RX8 161 RX8 yX8_isSure wsX8_isSure) := goodIn_app (goodIn_of _ (by decide +kernel)) ggX8_fromOf_X8_isSure
theorem dX8_fromOf_0 : decode cX8_fromOf 0 = .ok (.aload_n 0, 1) := by decide +kernel
theorem dX8_fromOf_1 : decode cX8_fromOf 1 = .ok (.getfield 26, 3) := by decide +kernel
theorem dX8_fromOf_4 : decode cX8_fromOf 4 = .ok (.iload_n 1, 1) := by decide +kernel
theorem dX8_fromOf_5 : decode cX8_fromOf 5 = .ok (.iaload, 1) := by decide +kernel
theorem dX8_fromOf_6 : decode cX8_fromOf 6 = .ok (.tableswitch 91 1 3 #[26, 38, 59], 26) := by decide +kernel
theorem dX8_fromOf_32 : decode cX8_fromOf 32 = .ok (.aload_n 0, 1) := by decide +kernel
theorem dX8_fromOf_33 : decode cX8_fromOf 33 = .ok (.getfield 23, 3) := by decide +kernel
theorem dX8_fromOf_36 : decode cX8_fromOf 36 = .ok (.aload_n 0, 1) := by decide +kernel
theorem dX8_fromOf_37 : decode cX8_fromOf 37 = .ok (.getfield 38, 3) := by decide +kernel
theorem dX8_fromOf_40 : decode cX8_fromOf 40 = .ok (.iload_n 1, 1) := by decide +kernel
theorem dX8_fromOf_41 : decode cX8_fromOf 41 = .ok (.iaload, 1) := by decide +kernel
theorem dX8_fromOf_42 : decode cX8_fromOf 42 = .ok (.iaload, 1) := by decide +kernel
theorem dX8_fromOf_43 : decode cX8_fromOf 43 = .ok (.ireturn, 1) := by decide +kernel
theorem dX8_fromOf_44 : decode cX8_fromOf 44 = .ok (.aload_n 0, 1) := by decide +kernel
theorem dX8_fromOf_45 : decode cX8_fromOf 45 = .ok (.getfield 38, 3) := by decide +kernel
theorem dX8_fromOf_48 : decode cX8_fromOf 48 = .ok (.iload_n 1, 1) := by decide +kernel
theorem dX8_fromOf_49 : decode cX8_fromOf 49 = .ok (.iaload, 1) := by decide +kernel
theorem dX8_fromOf_50 : decode cX8_fromOf 50 = .ok (.aload_n 0, 1) := by decide +kernel
theorem dX8_fromOf_51 : decode cX8_fromOf 51 = .ok (.getfield 109, 3) := by decide +kernel
theorem dX8_fromOf_54 : decode cX8_fromOf 54 = .ok (.aload_n 0, 1) := by decide +kernel
theorem dX8_fromOf_55 : decode cX8_fromOf 55 = .ok (.getfield 41, 3) := by decide +kernel
theorem dX8_fromOf_58 : decode cX8_fromOf 58 = .ok (.iload_n 1, 1) := by decide +kernel
theorem dX8_fromOf_59 : decode cX8_fromOf 59 = .ok (.iaload, 1) := by decide +kernel
theorem dX8_fromOf_60 : decode cX8_fromOf 60 = .ok (.invokestatic 177, 3) := by decide +kernel
theorem dX8_fromOf_63 : decode cX8_fromOf 63 = .ok (.iadd, 1) := by decide +kernel
theorem dX8_fromOf_64 : decode cX8_fromOf 64 = .ok (.ireturn, 1) := by decide +kernel
theorem dX8_fromOf_65 : decode cX8_fromOf 65 = .ok (.aload_n 0, 1) := by decide +kernel
theorem dX8_fromOf_66 : decode cX8_fromOf 66 = .ok (.aload_n 0, 1) := by decide +kernel
theorem dX8_fromOf_67 : decode cX8_fromOf 67 = .ok (.getfield 44, 3) := by decide +kernel
theorem dX8_fromOf_70 : decode cX8_fromOf 70 = .ok (.iload_n 1, 1) := by decide +kernel
theorem dX8_fromOf_71 : decode cX8_fromOf 71 = .ok (.iaload, 1) := by decide +kernel
theorem dX8_fromOf_72 : decode cX8_fromOf 72 = .ok (.aload_n 0, 1) := by decide +kernel
theorem dX8_fromOf_73 : decode cX8_fromOf 73 = .ok (.getfield 47, 3) := by decide +kernel
theorem dX8_fromOf_76 : decode cX8_fromOf 76 = .ok (.iload_n 1, 1) := by decide +kernel
theorem dX8_fromOf_77 : decode cX8_fromOf 77 = .ok (.iaload, 1) := by decide +kernel
theorem dX8_fromOf_78 : decode cX8_fromOf 78 = .ok (.invokevirtual 161, 3) := by decide +kernel
theorem dX8_fromOf_81 : decode cX8_fromOf 81 = .ok (.ifCond .eq 12, 3) := by decide +kernel
theorem dX8_fromOf_84 : decode cX8_fromOf 84 = .ok (.aload_n 0, 1) := by decide +kernel
theorem dX8_fromOf_85 : decode cX8_fromOf 85 = .ok (.getfield 38, 3) := by decide +kernel
theorem dX8_fromOf_88 : decode cX8_fromOf 88 = .ok (.iload_n 1, 1) := by decide +kernel
theorem dX8_fromOf_89 : decode cX8_fromOf 89 = .ok (.iaload, 1) := by decide +kernel
theorem dX8_fromOf_90 : decode cX8_fromOf 90 = .ok (.goto 6, 3) := by decide +kernel
theorem dX8_fromOf_93 : decode cX8_fromOf 93 = .ok (.sipush 1000, 3) := by decide +kernel
theorem dX8_fromOf_96 : decode cX8_fromOf 96 = .ok (.ireturn, 1) := by decide +kernel
theorem dX8_fromOf_97 : decode cX8_fromOf 97 = .ok (.aload_n 0, 1) := by decide +kernel
theorem dX8_fromOf_98 : decode cX8_fromOf 98 = .ok (.getfield 38, 3) := by decide +kernel
theorem dX8_fromOf_101 : decode cX8_fromOf 101 = .ok (.iload_n 1, 1) := by decide +kernel
theorem dX8_fromOf_102 : decode cX8_fromOf 102 = .ok (.iaload, 1) := by decide +kernel
theorem dX8_fromOf_103 : decode cX8_fromOf 103 = .ok (.ireturn, 1) := by decide +kernel
set_option maxRecDepth 20000 in
theorem ggX8_toOf_X8_lack : GoodIn wsX8_toOf wsX8_lack := goodIn_r _ [11] (by decide +kernel) (by decide +kernel)
set_option maxRecDepth 20000 in
theorem gX8_toOf_X8_lack : GoodIn wsX8_toOf (va_wsS RX8 177 yX8_lack wsX8_lack) := goodIn_app (goodIn_of _ (by decide +kernel)) ggX8_toOf_X8_lack
set_option maxRecDepth 20000 in
theorem ggX8_toOf_X8_isSure : GoodIn wsX8_toOf wsX8_isSure := goodIn_r _ [15, 16, 17, 18, 10, 19, 20, 21, 22, 23, 24, 25, 26, 27, 28, 29, 30, 31, 32, 33, 34, 35, 36, 37, 38, 39, 40, 41, 42, 43, 44, 45, 46, 47, 48, 49, 50, 51, 52, 53, 54, 55, 56, 57, 58, 59, 60, 61, 62, 63, 64, 65, 66, 67, 68, 69, 70, 71, 72, 73, 74, 75, 76] (by decide +kernel) (by decide +kernel)
set_option maxRecDepth 20000 in
theorem gX8_toOf_X8_isSure : GoodIn wsX8_toOf (wsV RX8 161 RX8 yX8_isSure wsX8_isSure) := goodIn_app (goodIn_of _ (by decide +kernel)) ggX8_toOf_X8_isSure
theorem dX8_toOf_0 : decode cX8_toOf 0 = .ok (.sipush 2100, 3) := by decide +kernel
theorem dX8_toOf_3 : decode cX8_toOf 3 = .ok (.istore_n 2, 1) := by decide +kernel
theorem dX8_toOf_4 : decode cX8_toOf 4 = .ok (.aload_n 0, 1) := by decide +kernel
theorem dX8_toOf_5 : decode cX8_toOf 5 = .ok (.getfield 26, 3) := by decide +kernel
theorem dX8_toOf_8 : decode cX8_toOf 8 = .ok (.iload_n 1, 1) := by decide +kernel
theorem dX8_toOf_9 : decode cX8_toOf 9 = .ok (.iaload, 1) := by decide +kernel
theorem dX8_toOf_10 : decode cX8_toOf 10 = .ok (.tableswitch 93 1 3 #[26, 29, 58], 26) := by decide +kernel
theorem dX8_toOf_36 : decode cX8_toOf 36 = .ok (.goto 74, 3) := by decide +kernel
theorem dX8_toOf_39 : decode cX8_toOf 39 = .ok (.aload_n 0, 1) := by decide +kernel
theorem dX8_toOf_40 : decode cX8_toOf 40 = .ok (.getfield 38, 3) := by decide +kernel
theorem dX8_toOf_43 : decode cX8_toOf 43 = .ok (.iload_n 1, 1) := by decide +kernel
theorem dX8_toOf_44 : decode cX8_toOf 44 = .ok (.iaload, 1) := by decide +kernel
theorem dX8_toOf_45 : decode cX8_toOf 45 = .ok (.aload_n 0, 1) := by decide +kernel
theorem dX8_toOf_46 : decode cX8_toOf 46 = .ok (.getfield 113, 3) := by decide +kernel
theorem dX8_toOf_49 : decode cX8_toOf 49 = .ok (.aload_n 0, 1) := by decide +kernel
theorem dX8_toOf_50 : decode cX8_toOf 50 = .ok (.getfield 41, 3) := by decide +kernel
theorem dX8_toOf_53 : decode cX8_toOf 53 = .ok (.iload_n 1, 1) := by decide +kernel
theorem dX8_toOf_54 : decode cX8_toOf 54 = .ok (.iaload, 1) := by decide +kernel
theorem dX8_toOf_55 : decode cX8_toOf 55 = .ok (.invokestatic 177, 3) := by decide +kernel
theorem dX8_toOf_58 : decode cX8_toOf 58 = .ok (.iadd, 1) := by decide +kernel
theorem dX8_toOf_59 : decode cX8_toOf 59 = .ok (.aload_n 0, 1) := by decide +kernel
theorem dX8_toOf_60 : decode cX8_toOf 60 = .ok (.getfield 116, 3) := by decide +kernel
theorem dX8_toOf_63 : decode cX8_toOf 63 = .ok (.iadd, 1) := by decide +kernel
theorem dX8_toOf_64 : decode cX8_toOf 64 = .ok (.istore_n 2, 1) := by decide +kernel
theorem dX8_toOf_65 : decode cX8_toOf 65 = .ok (.goto 45, 3) := by decide +kernel
theorem dX8_toOf_68 : decode cX8_toOf 68 = .ok (.aload_n 0, 1) := by decide +kernel
theorem dX8_toOf_69 : decode cX8_toOf 69 = .ok (.aload_n 0, 1) := by decide +kernel
theorem dX8_toOf_70 : decode cX8_toOf 70 = .ok (.getfield 44, 3) := by decide +kernel
theorem dX8_toOf_73 : decode cX8_toOf 73 = .ok (.iload_n 1, 1) := by decide +kernel
theorem dX8_toOf_74 : decode cX8_toOf 74 = .ok (.iaload, 1) := by decide +kernel
theorem dX8_toOf_75 : decode cX8_toOf 75 = .ok (.aload_n 0, 1) := by decide +kernel
theorem dX8_toOf_76 : decode cX8_toOf 76 = .ok (.getfield 47, 3) := by decide +kernel
theorem dX8_toOf_79 : decode cX8_toOf 79 = .ok (.iload_n 1, 1) := by decide +kernel
theorem dX8_toOf_80 : decode cX8_toOf 80 = .ok (.iaload, 1) := by decide +kernel
theorem dX8_toOf_81 : decode cX8_toOf 81 = .ok (.invokevirtual 161, 3) := by decide +kernel
theorem dX8_toOf_84 : decode cX8_toOf 84 = .ok (.ifCond .eq 12, 3) := by decide +kernel
theorem dX8_toOf_87 : decode cX8_toOf 87 = .ok (.aload_n 0, 1) := by decide +kernel
theorem dX8_toOf_88 : decode cX8_toOf 88 = .ok (.getfield 41, 3) := by decide +kernel
theorem dX8_toOf_91 : decode cX8_toOf 91 = .ok (.iload_n 1, 1) := by decide +kernel
theorem dX8_toOf_92 : decode cX8_toOf 92 = .ok (.iaload, 1) := by decide +kernel
theorem dX8_toOf_93 : decode cX8_toOf 93 = .ok (.goto 6, 3) := by decide +kernel
theorem dX8_toOf_96 : decode cX8_toOf 96 = .ok (.sipush 2100, 3) := by decide +kernel
theorem dX8_toOf_99 : decode cX8_toOf 99 = .ok (.istore_n 2, 1) := by decide +kernel
theorem dX8_toOf_100 : decode cX8_toOf 100 = .ok (.goto 10, 3) := by decide +kernel
theorem dX8_toOf_103 : decode cX8_toOf 103 = .ok (.aload_n 0, 1) := by decide +kernel
theorem dX8_toOf_104 : decode cX8_toOf 104 = .ok (.getfield 41, 3) := by decide +kernel
theorem dX8_toOf_107 : decode cX8_toOf 107 = .ok (.iload_n 1, 1) := by decide +kernel
theorem dX8_toOf_108 : decode cX8_toOf 108 = .ok (.iaload, 1) := by decide +kernel
theorem dX8_toOf_109 : decode cX8_toOf 109 = .ok (.istore_n 2, 1) := by decide +kernel
theorem dX8_toOf_110 : decode cX8_toOf 110 = .ok (.iload_n 2, 1) := by decide +kernel
theorem dX8_toOf_111 : decode cX8_toOf 111 = .ok (.sipush 2100, 3) := by decide +kernel
theorem dX8_toOf_114 : decode cX8_toOf 114 = .ok (.if_icmp .le 9, 3) := by decide +kernel
theorem dX8_toOf_117 : decode cX8_toOf 117 = .ok (.sipush 2100, 3) := by decide +kernel
theorem dX8_toOf_120 : decode cX8_toOf 120 = .ok (.goto 4, 3) := by decide +kernel
theorem dX8_toOf_123 : decode cX8_toOf 123 = .ok (.iload_n 2, 1) := by decide +kernel
theorem dX8_toOf_124 : decode cX8_toOf 124 = .ok (.ireturn, 1) := by decide +kernel
set_option maxRecDepth 20000 in
theorem ggX8_toldOf_X8_fromOf : GoodIn wsX8_toldOf wsX8_fromOf := goodIn_r _ [9, 1, 10, 11, 12, 13, 14, 15, 16, 17, 8, 18, 19, 20, 21, 22, 23, 24, 25, 26, 27, 28, 29, 30, 31, 32, 33, 34, 35, 36, 43, 44, 45, 46, 47, 48, 49, 50, 51, 52, 53, 54, 55, 56, 57, 58, 59, 60, 61, 62, 63, 64, 65, 66, 67, 68, 69, 70, 71, 72, 73, 74, 75, 76, 77, 78, 79, 80, 81, 82, 83, 84, 85, 86, 87, 88, 89] (by decide +kernel) (by decide +kernel)
set_option maxRecDepth 20000 in
theorem gX8_toldOf_X8_fromOf : GoodIn wsX8_toldOf (wsV RX8 180 RX8 yX8_fromOf wsX8_fromOf) := goodIn_app (goodIn_of _ (by decide +kernel)) ggX8_toldOf_X8_fromOf
set_option maxRecDepth 20000 in
theorem ggX8_toldOf_X8_toOf : GoodIn wsX8_toldOf wsX8_toOf := goodIn_r _ [40, 1, 11, 41, 13, 42, 14, 15, 16, 17, 8, 18, 19, 20, 21, 22, 23, 24, 25, 26, 27, 28, 29, 30, 31, 32, 33, 34, 35, 36, 43, 44, 45, 46, 47, 48, 49, 50, 51, 52, 53, 54, 55, 56, 57, 58, 59, 60, 61, 62, 63, 64, 65, 66, 67, 68, 69, 70, 71, 72, 73, 74, 75, 76, 77, 78, 79, 80, 81, 82, 83, 84, 85, 86, 87, 88, 89] (by decide +kernel) (by decide +kernel)
set_option maxRecDepth 20000 in
theorem gX8_toldOf_X8_toOf : GoodIn wsX8_toldOf (wsV RX8 183 RX8 yX8_toOf wsX8_toOf) := goodIn_app (goodIn_of _ (by decide +kernel)) ggX8_toldOf_X8_toOf
theorem dX8_toldOf_0 : decode cX8_toldOf 0 = .ok (.iload_n 2, 1) := by decide +kernel
theorem dX8_toldOf_1 : decode cX8_toldOf 1 = .ok (.tableswitch 69 0 4 #[35, 42, 49, 56, 63], 35) := by decide +kernel
theorem dX8_toldOf_36 : decode cX8_toldOf 36 = .ok (.aload_n 0, 1) := by decide +kernel
theorem dX8_toldOf_37 : decode cX8_toldOf 37 = .ok (.getfield 26, 3) := by decide +kernel
theorem dX8_toldOf_40 : decode cX8_toldOf 40 = .ok (.iload_n 1, 1) := by decide +kernel
theorem dX8_toldOf_41 : decode cX8_toldOf 41 = .ok (.iaload, 1) := by decide +kernel
theorem dX8_toldOf_42 : decode cX8_toldOf 42 = .ok (.ireturn, 1) := by decide +kernel
theorem dX8_toldOf_43 : decode cX8_toldOf 43 = .ok (.aload_n 0, 1) := by decide +kernel
theorem dX8_toldOf_44 : decode cX8_toldOf 44 = .ok (.getfield 29, 3) := by decide +kernel
theorem dX8_toldOf_47 : decode cX8_toldOf 47 = .ok (.iload_n 1, 1) := by decide +kernel
theorem dX8_toldOf_48 : decode cX8_toldOf 48 = .ok (.iaload, 1) := by decide +kernel
theorem dX8_toldOf_49 : decode cX8_toldOf 49 = .ok (.ireturn, 1) := by decide +kernel
theorem dX8_toldOf_50 : decode cX8_toldOf 50 = .ok (.aload_n 0, 1) := by decide +kernel
theorem dX8_toldOf_51 : decode cX8_toldOf 51 = .ok (.getfield 32, 3) := by decide +kernel
theorem dX8_toldOf_54 : decode cX8_toldOf 54 = .ok (.iload_n 1, 1) := by decide +kernel
theorem dX8_toldOf_55 : decode cX8_toldOf 55 = .ok (.iaload, 1) := by decide +kernel
theorem dX8_toldOf_56 : decode cX8_toldOf 56 = .ok (.ireturn, 1) := by decide +kernel
theorem dX8_toldOf_57 : decode cX8_toldOf 57 = .ok (.aload_n 0, 1) := by decide +kernel
theorem dX8_toldOf_58 : decode cX8_toldOf 58 = .ok (.getfield 35, 3) := by decide +kernel
theorem dX8_toldOf_61 : decode cX8_toldOf 61 = .ok (.iload_n 1, 1) := by decide +kernel
theorem dX8_toldOf_62 : decode cX8_toldOf 62 = .ok (.iaload, 1) := by decide +kernel
theorem dX8_toldOf_63 : decode cX8_toldOf 63 = .ok (.ireturn, 1) := by decide +kernel
theorem dX8_toldOf_64 : decode cX8_toldOf 64 = .ok (.aload_n 0, 1) := by decide +kernel
theorem dX8_toldOf_65 : decode cX8_toldOf 65 = .ok (.iload_n 1, 1) := by decide +kernel
theorem dX8_toldOf_66 : decode cX8_toldOf 66 = .ok (.invokevirtual 180, 3) := by decide +kernel
theorem dX8_toldOf_69 : decode cX8_toldOf 69 = .ok (.ireturn, 1) := by decide +kernel
theorem dX8_toldOf_70 : decode cX8_toldOf 70 = .ok (.aload_n 0, 1) := by decide +kernel
theorem dX8_toldOf_71 : decode cX8_toldOf 71 = .ok (.iload_n 1, 1) := by decide +kernel
theorem dX8_toldOf_72 : decode cX8_toldOf 72 = .ok (.invokevirtual 183, 3) := by decide +kernel
theorem dX8_toldOf_75 : decode cX8_toldOf 75 = .ok (.ireturn, 1) := by decide +kernel
set_option maxRecDepth 20000 in
theorem ggX8_told_X8_isProof : GoodIn wsX8_told wsX8_isProof := goodIn_r _ [5, 6, 7, 8, 4, 9, 55, 56, 57, 58, 59, 60, 61, 62, 63, 64, 65, 66, 67, 68, 69, 70, 71, 72, 73, 74, 75, 76, 77, 78, 79, 80, 81, 82, 83, 84, 85, 86, 87, 88, 89, 90, 91, 92, 93, 94, 95, 96, 97, 98, 99, 100, 101] (by decide +kernel) (by decide +kernel)
set_option maxRecDepth 20000 in
theorem gX8_told_X8_isProof : GoodIn wsX8_told (wsV RX8 174 RX8 yX8_isProof wsX8_isProof) := goodIn_app (goodIn_of _ (by decide +kernel)) ggX8_told_X8_isProof
set_option maxRecDepth 20000 in
theorem ggX8_told_X8_in : GoodIn wsX8_told wsX8_in := goodIn_r _ [9] (by decide +kernel) (by decide +kernel)
set_option maxRecDepth 20000 in
theorem gX8_told_X8_in : GoodIn wsX8_told (va_wsS RX8 125 yX8_in wsX8_in) := goodIn_app (goodIn_of _ (by decide +kernel)) ggX8_told_X8_in
set_option maxRecDepth 20000 in
theorem ggX8_told_X8_toldOf : GoodIn wsX8_told wsX8_toldOf := goodIn_r _ [13, 14, 15, 16, 17, 18, 19, 20, 4, 21, 22, 23, 24, 25, 26, 27, 28, 29, 30, 31, 32, 33, 34, 35, 36, 37, 38, 39, 40, 41, 42, 43, 44, 45, 46, 47, 48, 49, 50, 51, 52, 53, 54, 55, 56, 57, 58, 59, 60, 61, 62, 63, 64, 65, 66, 67, 68, 69, 70, 71, 72, 73, 74, 75, 76, 77, 78, 79, 80, 81, 82, 83, 84, 85, 86, 87, 88, 89, 90, 91, 92, 93, 94, 95, 96, 97, 98, 99, 100, 101] (by decide +kernel) (by decide +kernel)
set_option maxRecDepth 20000 in
theorem gX8_told_X8_toldOf : GoodIn wsX8_told (wsV RX8 186 RX8 yX8_toldOf wsX8_toldOf) := goodIn_app (goodIn_of _ (by decide +kernel)) ggX8_told_X8_toldOf
theorem dX8_told_0 : decode cX8_told 0 = .ok (.aload_n 0, 1) := by decide +kernel
theorem dX8_told_1 : decode cX8_told 1 = .ok (.iload_n 1, 1) := by decide +kernel
theorem dX8_told_2 : decode cX8_told 2 = .ok (.invokevirtual 174, 3) := by decide +kernel
theorem dX8_told_5 : decode cX8_told 5 = .ok (.ifCond .eq 21, 3) := by decide +kernel
theorem dX8_told_8 : decode cX8_told 8 = .ok (.iload_n 2, 1) := by decide +kernel
theorem dX8_told_9 : decode cX8_told 9 = .ok (.iconst 0, 1) := by decide +kernel
theorem dX8_told_10 : decode cX8_told 10 = .ok (.iconst 5, 1) := by decide +kernel
theorem dX8_told_11 : decode cX8_told 11 = .ok (.invokestatic 125, 3) := by decide +kernel
theorem dX8_told_14 : decode cX8_told 14 = .ok (.ifCond .eq 12, 3) := by decide +kernel
theorem dX8_told_17 : decode cX8_told 17 = .ok (.aload_n 0, 1) := by decide +kernel
theorem dX8_told_18 : decode cX8_told 18 = .ok (.iload_n 1, 1) := by decide +kernel
theorem dX8_told_19 : decode cX8_told 19 = .ok (.iload_n 2, 1) := by decide +kernel
theorem dX8_told_20 : decode cX8_told 20 = .ok (.invokevirtual 186, 3) := by decide +kernel
theorem dX8_told_23 : decode cX8_told 23 = .ok (.goto 4, 3) := by decide +kernel
theorem dX8_told_26 : decode cX8_told 26 = .ok (.iconst (-1), 1) := by decide +kernel
theorem dX8_told_27 : decode cX8_told 27 = .ok (.ireturn, 1) := by decide +kernel
set_option maxRecDepth 20000 in
theorem ggX8_mark_X8_isProof : GoodIn wsX8_mark wsX8_isProof := goodIn_r _ [10, 11, 12, 13, 9, 14, 54, 55, 56, 57, 58, 59, 60, 61, 62, 63, 64, 65, 66, 67, 68, 69, 70, 71, 72, 73, 74, 75, 76, 77, 78, 79, 80, 81, 82, 83, 84, 85, 86, 87, 88, 89, 90, 91, 92, 93, 94, 95, 96, 97, 98, 99, 100] (by decide +kernel) (by decide +kernel)
set_option maxRecDepth 20000 in
theorem gX8_mark_X8_isProof : GoodIn wsX8_mark (wsV RX8 174 RX8 yX8_isProof wsX8_isProof) := goodIn_app (goodIn_of _ (by decide +kernel)) ggX8_mark_X8_isProof
set_option maxRecDepth 20000 in
theorem ggX8_mark_X8_in : GoodIn wsX8_mark wsX8_in := goodIn_r _ [14] (by decide +kernel) (by decide +kernel)
set_option maxRecDepth 20000 in
theorem gX8_mark_X8_in : GoodIn wsX8_mark (va_wsS RX8 125 yX8_in wsX8_in) := goodIn_app (goodIn_of _ (by decide +kernel)) ggX8_mark_X8_in
set_option maxRecDepth 20000 in
theorem ggX8_mark_X8_toOf : GoodIn wsX8_mark wsX8_toOf := goodIn_r _ [18, 1, 2, 19, 3, 20, 4, 5, 21, 22, 9, 23, 24, 25, 26, 27, 28, 29, 30, 31, 32, 33, 34, 35, 36, 37, 38, 39, 40, 41, 54, 55, 56, 57, 58, 59, 60, 61, 62, 63, 64, 65, 66, 67, 68, 69, 70, 71, 72, 73, 74, 75, 76, 77, 78, 79, 80, 81, 82, 83, 84, 85, 86, 87, 88, 89, 90, 91, 92, 93, 94, 95, 96, 97, 98, 99, 100] (by decide +kernel) (by decide +kernel)
set_option maxRecDepth 20000 in
theorem gX8_mark_X8_toOf : GoodIn wsX8_mark (wsV RX8 183 RX8 yX8_toOf wsX8_toOf) := goodIn_app (goodIn_of _ (by decide +kernel)) ggX8_mark_X8_toOf
set_option maxRecDepth 20000 in
theorem ggX8_mark_X8_fromOf : GoodIn wsX8_mark wsX8_fromOf := goodIn_r _ [45, 1, 46, 2, 47, 3, 4, 5, 21, 22, 9, 23, 24, 25, 26, 27, 28, 29, 30, 31, 32, 33, 34, 35, 36, 37, 38, 39, 40, 41, 54, 55, 56, 57, 58, 59, 60, 61, 62, 63, 64, 65, 66, 67, 68, 69, 70, 71, 72, 73, 74, 75, 76, 77, 78, 79, 80, 81, 82, 83, 84, 85, 86, 87, 88, 89, 90, 91, 92, 93, 94, 95, 96, 97, 98, 99, 100] (by decide +kernel) (by decide +kernel)
set_option maxRecDepth 20000 in
theorem gX8_mark_X8_fromOf : GoodIn wsX8_mark (wsV RX8 180 RX8 yX8_fromOf wsX8_fromOf) := goodIn_app (goodIn_of _ (by decide +kernel)) ggX8_mark_X8_fromOf
set_option maxRecDepth 20000 in
theorem ggX8_mark_X8_meets : GoodIn wsX8_mark wsX8_meets := goodIn_r _ [51, 52, 53, 54, 55, 56, 57, 58, 59, 60, 61, 62, 63, 64, 65, 66, 67, 68, 69, 70, 71, 72, 73, 74, 75, 76, 77, 78, 79, 80, 81, 82, 83, 84, 85, 86, 87, 88, 89, 90, 91, 92, 93, 94, 95, 96, 97, 98, 99, 100] (by decide +kernel) (by decide +kernel)
set_option maxRecDepth 20000 in
theorem gX8_mark_X8_meets : GoodIn wsX8_mark (wsV RX8 142 RX8 yX8_meets wsX8_meets) := goodIn_app (goodIn_of _ (by decide +kernel)) ggX8_mark_X8_meets
set_option maxRecDepth 20000 in
theorem ggX8_mark_X8_isSure : GoodIn wsX8_mark wsX8_isSure := goodIn_r _ [27, 28, 29, 30, 9, 31, 32, 33, 34, 35, 36, 37, 38, 39, 40, 41, 54, 55, 56, 57, 58, 59, 60, 61, 62, 63, 64, 65, 66, 67, 68, 69, 70, 71, 72, 73, 74, 75, 76, 77, 78, 79, 80, 81, 82, 83, 84, 85, 86, 87, 88, 89, 90, 91, 92, 93, 94, 95, 96, 97, 98, 99, 100] (by decide +kernel) (by decide +kernel)
set_option maxRecDepth 20000 in
theorem gX8_mark_X8_isSure : GoodIn wsX8_mark (wsV RX8 161 RX8 yX8_isSure wsX8_isSure) := goodIn_app (goodIn_of _ (by decide +kernel)) ggX8_mark_X8_isSure
theorem dX8_mark_0 : decode cX8_mark 0 = .ok (.aload_n 0, 1) := by decide +kernel
theorem dX8_mark_1 : decode cX8_mark 1 = .ok (.iload_n 1, 1) := by decide +kernel
theorem dX8_mark_2 : decode cX8_mark 2 = .ok (.invokevirtual 174, 3) := by decide +kernel
theorem dX8_mark_5 : decode cX8_mark 5 = .ok (.ifCond .eq 12, 3) := by decide +kernel
theorem dX8_mark_8 : decode cX8_mark 8 = .ok (.iload_n 2, 1) := by decide +kernel
theorem dX8_mark_9 : decode cX8_mark 9 = .ok (.iconst 0, 1) := by decide +kernel
theorem dX8_mark_10 : decode cX8_mark 10 = .ok (.iconst 3, 1) := by decide +kernel
theorem dX8_mark_11 : decode cX8_mark 11 = .ok (.invokestatic 125, 3) := by decide +kernel
theorem dX8_mark_14 : decode cX8_mark 14 = .ok (.ifCond .ne 5, 3) := by decide +kernel
theorem dX8_mark_17 : decode cX8_mark 17 = .ok (.iconst (-1), 1) := by decide +kernel
theorem dX8_mark_18 : decode cX8_mark 18 = .ok (.ireturn, 1) := by decide +kernel
theorem dX8_mark_19 : decode cX8_mark 19 = .ok (.iload_n 2, 1) := by decide +kernel
theorem dX8_mark_20 : decode cX8_mark 20 = .ok (.ifCond .ne 17, 3) := by decide +kernel
theorem dX8_mark_23 : decode cX8_mark 23 = .ok (.aload_n 0, 1) := by decide +kernel
theorem dX8_mark_24 : decode cX8_mark 24 = .ok (.iload_n 1, 1) := by decide +kernel
theorem dX8_mark_25 : decode cX8_mark 25 = .ok (.invokevirtual 183, 3) := by decide +kernel
theorem dX8_mark_28 : decode cX8_mark 28 = .ok (.aload_n 0, 1) := by decide +kernel
theorem dX8_mark_29 : decode cX8_mark 29 = .ok (.iload_n 1, 1) := by decide +kernel
theorem dX8_mark_30 : decode cX8_mark 30 = .ok (.invokevirtual 180, 3) := by decide +kernel
theorem dX8_mark_33 : decode cX8_mark 33 = .ok (.isub, 1) := by decide +kernel
theorem dX8_mark_34 : decode cX8_mark 34 = .ok (.iconst 1, 1) := by decide +kernel
theorem dX8_mark_35 : decode cX8_mark 35 = .ok (.iadd, 1) := by decide +kernel
theorem dX8_mark_36 : decode cX8_mark 36 = .ok (.ireturn, 1) := by decide +kernel
theorem dX8_mark_37 : decode cX8_mark 37 = .ok (.aload_n 0, 1) := by decide +kernel
theorem dX8_mark_38 : decode cX8_mark 38 = .ok (.getfield 26, 3) := by decide +kernel
theorem dX8_mark_41 : decode cX8_mark 41 = .ok (.iload_n 1, 1) := by decide +kernel
theorem dX8_mark_42 : decode cX8_mark 42 = .ok (.iaload, 1) := by decide +kernel
theorem dX8_mark_43 : decode cX8_mark 43 = .ok (.iload_n 2, 1) := by decide +kernel
theorem dX8_mark_44 : decode cX8_mark 44 = .ok (.if_icmp .eq 9, 3) := by decide +kernel
theorem dX8_mark_47 : decode cX8_mark 47 = .ok (.aload_n 0, 1) := by decide +kernel
theorem dX8_mark_48 : decode cX8_mark 48 = .ok (.iconst 3, 1) := by decide +kernel
theorem dX8_mark_49 : decode cX8_mark 49 = .ok (.invokevirtual 142, 3) := by decide +kernel
theorem dX8_mark_52 : decode cX8_mark 52 = .ok (.ireturn, 1) := by decide +kernel
theorem dX8_mark_53 : decode cX8_mark 53 = .ok (.iload_n 2, 1) := by decide +kernel
theorem dX8_mark_54 : decode cX8_mark 54 = .ok (.iconst 1, 1) := by decide +kernel
theorem dX8_mark_55 : decode cX8_mark 55 = .ok (.if_icmp .ne 12, 3) := by decide +kernel
theorem dX8_mark_58 : decode cX8_mark 58 = .ok (.aload_n 0, 1) := by decide +kernel
theorem dX8_mark_59 : decode cX8_mark 59 = .ok (.getfield 38, 3) := by decide +kernel
theorem dX8_mark_62 : decode cX8_mark 62 = .ok (.iload_n 1, 1) := by decide +kernel
theorem dX8_mark_63 : decode cX8_mark 63 = .ok (.iaload, 1) := by decide +kernel
theorem dX8_mark_64 : decode cX8_mark 64 = .ok (.goto 41, 3) := by decide +kernel
theorem dX8_mark_67 : decode cX8_mark 67 = .ok (.iload_n 2, 1) := by decide +kernel
theorem dX8_mark_68 : decode cX8_mark 68 = .ok (.iconst 2, 1) := by decide +kernel
theorem dX8_mark_69 : decode cX8_mark 69 = .ok (.if_icmp .ne 12, 3) := by decide +kernel
theorem dX8_mark_72 : decode cX8_mark 72 = .ok (.aload_n 0, 1) := by decide +kernel
theorem dX8_mark_73 : decode cX8_mark 73 = .ok (.getfield 41, 3) := by decide +kernel
theorem dX8_mark_76 : decode cX8_mark 76 = .ok (.iload_n 1, 1) := by decide +kernel
theorem dX8_mark_77 : decode cX8_mark 77 = .ok (.iaload, 1) := by decide +kernel
theorem dX8_mark_78 : decode cX8_mark 78 = .ok (.goto 27, 3) := by decide +kernel
theorem dX8_mark_81 : decode cX8_mark 81 = .ok (.aload_n 0, 1) := by decide +kernel
theorem dX8_mark_82 : decode cX8_mark 82 = .ok (.aload_n 0, 1) := by decide +kernel
theorem dX8_mark_83 : decode cX8_mark 83 = .ok (.getfield 44, 3) := by decide +kernel
theorem dX8_mark_86 : decode cX8_mark 86 = .ok (.iload_n 1, 1) := by decide +kernel
theorem dX8_mark_87 : decode cX8_mark 87 = .ok (.iaload, 1) := by decide +kernel
theorem dX8_mark_88 : decode cX8_mark 88 = .ok (.aload_n 0, 1) := by decide +kernel
theorem dX8_mark_89 : decode cX8_mark 89 = .ok (.getfield 47, 3) := by decide +kernel
theorem dX8_mark_92 : decode cX8_mark 92 = .ok (.iload_n 1, 1) := by decide +kernel
theorem dX8_mark_93 : decode cX8_mark 93 = .ok (.iaload, 1) := by decide +kernel
theorem dX8_mark_94 : decode cX8_mark 94 = .ok (.invokevirtual 161, 3) := by decide +kernel
theorem dX8_mark_97 : decode cX8_mark 97 = .ok (.ifCond .eq 7, 3) := by decide +kernel
theorem dX8_mark_100 : decode cX8_mark 100 = .ok (.iconst 1, 1) := by decide +kernel
theorem dX8_mark_101 : decode cX8_mark 101 = .ok (.goto 4, 3) := by decide +kernel
theorem dX8_mark_104 : decode cX8_mark 104 = .ok (.iconst 0, 1) := by decide +kernel
theorem dX8_mark_105 : decode cX8_mark 105 = .ok (.ireturn, 1) := by decide +kernel
theorem dX8_isKnown_0 : decode cX8_isKnown 0 = .ok (.aload_n 0, 1) := by decide +kernel
theorem dX8_isKnown_1 : decode cX8_isKnown 1 = .ok (.getfield 32, 3) := by decide +kernel
theorem dX8_isKnown_4 : decode cX8_isKnown 4 = .ok (.iload_n 1, 1) := by decide +kernel
theorem dX8_isKnown_5 : decode cX8_isKnown 5 = .ok (.iaload, 1) := by decide +kernel
theorem dX8_isKnown_6 : decode cX8_isKnown 6 = .ok (.iload_n 2, 1) := by decide +kernel
theorem dX8_isKnown_7 : decode cX8_isKnown 7 = .ok (.if_icmp .gt 28, 3) := by decide +kernel
theorem dX8_isKnown_10 : decode cX8_isKnown 10 = .ok (.aload_n 0, 1) := by decide +kernel
theorem dX8_isKnown_11 : decode cX8_isKnown 11 = .ok (.getfield 35, 3) := by decide +kernel
theorem dX8_isKnown_14 : decode cX8_isKnown 14 = .ok (.iload_n 1, 1) := by decide +kernel
theorem dX8_isKnown_15 : decode cX8_isKnown 15 = .ok (.iaload, 1) := by decide +kernel
theorem dX8_isKnown_16 : decode cX8_isKnown 16 = .ok (.bipush (-9), 2) := by decide +kernel
theorem dX8_isKnown_18 : decode cX8_isKnown 18 = .ok (.if_icmp .eq 13, 3) := by decide +kernel
theorem dX8_isKnown_21 : decode cX8_isKnown 21 = .ok (.iload_n 2, 1) := by decide +kernel
theorem dX8_isKnown_22 : decode cX8_isKnown 22 = .ok (.aload_n 0, 1) := by decide +kernel
theorem dX8_isKnown_23 : decode cX8_isKnown 23 = .ok (.getfield 35, 3) := by decide +kernel
theorem dX8_isKnown_26 : decode cX8_isKnown 26 = .ok (.iload_n 1, 1) := by decide +kernel
theorem dX8_isKnown_27 : decode cX8_isKnown 27 = .ok (.iaload, 1) := by decide +kernel
theorem dX8_isKnown_28 : decode cX8_isKnown 28 = .ok (.if_icmp .ge 7, 3) := by decide +kernel
theorem dX8_isKnown_31 : decode cX8_isKnown 31 = .ok (.iconst 1, 1) := by decide +kernel
theorem dX8_isKnown_32 : decode cX8_isKnown 32 = .ok (.goto 4, 3) := by decide +kernel
theorem dX8_isKnown_35 : decode cX8_isKnown 35 = .ok (.iconst 0, 1) := by decide +kernel
theorem dX8_isKnown_36 : decode cX8_isKnown 36 = .ok (.ireturn, 1) := by decide +kernel
set_option maxRecDepth 20000 in
theorem ggX8_span_X8_isDay : GoodIn wsX8_span wsX8_isDay := goodIn_r _ [5, 6, 7, 4, 8] (by decide +kernel) (by decide +kernel)
set_option maxRecDepth 20000 in
theorem gX8_span_X8_isDay : GoodIn wsX8_span (va_wsS RX8 189 yX8_isDay wsX8_isDay) := goodIn_app (goodIn_of _ (by decide +kernel)) ggX8_span_X8_isDay
set_option maxRecDepth 20000 in
theorem ggX8_span_X8_isKnown : GoodIn wsX8_span wsX8_isKnown := goodIn_r _ [12, 13, 14, 53, 54, 55, 56, 57, 58, 59, 60, 61, 62, 63, 64, 65, 66, 67, 68, 69, 70, 71, 72, 73, 74, 75, 76, 77, 78, 79, 80, 81, 82, 83, 84, 85, 86, 87, 88, 89, 90, 91, 92, 93, 94, 95, 96, 97, 98, 99] (by decide +kernel) (by decide +kernel)
set_option maxRecDepth 20000 in
theorem gX8_span_X8_isKnown : GoodIn wsX8_span (wsV RX8 192 RX8 yX8_isKnown wsX8_isKnown) := goodIn_app (goodIn_of _ (by decide +kernel)) ggX8_span_X8_isKnown
set_option maxRecDepth 20000 in
theorem ggX8_span_X8_fromOf : GoodIn wsX8_span wsX8_fromOf := goodIn_r _ [18, 19, 20, 21, 22, 23, 24, 25, 26, 27, 4, 28, 29, 30, 31, 32, 33, 34, 35, 36, 37, 38, 39, 40, 41, 42, 43, 44, 45, 46, 53, 54, 55, 56, 57, 58, 59, 60, 61, 62, 63, 64, 65, 66, 67, 68, 69, 70, 71, 72, 73, 74, 75, 76, 77, 78, 79, 80, 81, 82, 83, 84, 85, 86, 87, 88, 89, 90, 91, 92, 93, 94, 95, 96, 97, 98, 99] (by decide +kernel) (by decide +kernel)
set_option maxRecDepth 20000 in
theorem gX8_span_X8_fromOf : GoodIn wsX8_span (wsV RX8 180 RX8 yX8_fromOf wsX8_fromOf) := goodIn_app (goodIn_of _ (by decide +kernel)) ggX8_span_X8_fromOf
set_option maxRecDepth 20000 in
theorem ggX8_span_X8_toOf : GoodIn wsX8_span wsX8_toOf := goodIn_r _ [50, 19, 21, 51, 23, 52, 24, 25, 26, 27, 4, 28, 29, 30, 31, 32, 33, 34, 35, 36, 37, 38, 39, 40, 41, 42, 43, 44, 45, 46, 53, 54, 55, 56, 57, 58, 59, 60, 61, 62, 63, 64, 65, 66, 67, 68, 69, 70, 71, 72, 73, 74, 75, 76, 77, 78, 79, 80, 81, 82, 83, 84, 85, 86, 87, 88, 89, 90, 91, 92, 93, 94, 95, 96, 97, 98, 99] (by decide +kernel) (by decide +kernel)
set_option maxRecDepth 20000 in
theorem gX8_span_X8_toOf : GoodIn wsX8_span (wsV RX8 183 RX8 yX8_toOf wsX8_toOf) := goodIn_app (goodIn_of _ (by decide +kernel)) ggX8_span_X8_toOf
theorem dX8_span_0 : decode cX8_span 0 = .ok (.iload_n 1, 1) := by decide +kernel
theorem dX8_span_1 : decode cX8_span 1 = .ok (.invokestatic 189, 3) := by decide +kernel
theorem dX8_span_4 : decode cX8_span 4 = .ok (.ifCond .ne 5, 3) := by decide +kernel
theorem dX8_span_7 : decode cX8_span 7 = .ok (.iconst (-1), 1) := by decide +kernel
theorem dX8_span_8 : decode cX8_span 8 = .ok (.ireturn, 1) := by decide +kernel
theorem dX8_span_9 : decode cX8_span 9 = .ok (.sipush 1000, 3) := by decide +kernel
theorem dX8_span_12 : decode cX8_span 12 = .ok (.istore_n 3, 1) := by decide +kernel
theorem dX8_span_13 : decode cX8_span 13 = .ok (.sipush 2100, 3) := by decide +kernel
theorem dX8_span_16 : decode cX8_span 16 = .ok (.istore 4, 2) := by decide +kernel
theorem dX8_span_18 : decode cX8_span 18 = .ok (.iconst 0, 1) := by decide +kernel
theorem dX8_span_19 : decode cX8_span 19 = .ok (.istore 5, 2) := by decide +kernel
theorem dX8_span_21 : decode cX8_span 21 = .ok (.iload 5, 2) := by decide +kernel
theorem dX8_span_23 : decode cX8_span 23 = .ok (.aload_n 0, 1) := by decide +kernel
theorem dX8_span_24 : decode cX8_span 24 = .ok (.getfield 167, 3) := by decide +kernel
theorem dX8_span_27 : decode cX8_span 27 = .ok (.if_icmp .ge 64, 3) := by decide +kernel
theorem dX8_span_30 : decode cX8_span 30 = .ok (.aload_n 0, 1) := by decide +kernel
theorem dX8_span_31 : decode cX8_span 31 = .ok (.iload 5, 2) := by decide +kernel
theorem dX8_span_33 : decode cX8_span 33 = .ok (.iload_n 1, 1) := by decide +kernel
theorem dX8_span_34 : decode cX8_span 34 = .ok (.invokevirtual 192, 3) := by decide +kernel
theorem dX8_span_37 : decode cX8_span 37 = .ok (.ifCond .eq 48, 3) := by decide +kernel
theorem dX8_span_40 : decode cX8_span 40 = .ok (.aload_n 0, 1) := by decide +kernel
theorem dX8_span_41 : decode cX8_span 41 = .ok (.iload 5, 2) := by decide +kernel
theorem dX8_span_43 : decode cX8_span 43 = .ok (.invokevirtual 180, 3) := by decide +kernel
theorem dX8_span_46 : decode cX8_span 46 = .ok (.iload_n 3, 1) := by decide +kernel
theorem dX8_span_47 : decode cX8_span 47 = .ok (.if_icmp .le 12, 3) := by decide +kernel
theorem dX8_span_50 : decode cX8_span 50 = .ok (.aload_n 0, 1) := by decide +kernel
theorem dX8_span_51 : decode cX8_span 51 = .ok (.iload 5, 2) := by decide +kernel
theorem dX8_span_53 : decode cX8_span 53 = .ok (.invokevirtual 180, 3) := by decide +kernel
theorem dX8_span_56 : decode cX8_span 56 = .ok (.goto 4, 3) := by decide +kernel
theorem dX8_span_59 : decode cX8_span 59 = .ok (.iload_n 3, 1) := by decide +kernel
theorem dX8_span_60 : decode cX8_span 60 = .ok (.istore_n 3, 1) := by decide +kernel
theorem dX8_span_61 : decode cX8_span 61 = .ok (.aload_n 0, 1) := by decide +kernel
theorem dX8_span_62 : decode cX8_span 62 = .ok (.iload 5, 2) := by decide +kernel
theorem dX8_span_64 : decode cX8_span 64 = .ok (.invokevirtual 183, 3) := by decide +kernel
theorem dX8_span_67 : decode cX8_span 67 = .ok (.iload 4, 2) := by decide +kernel
theorem dX8_span_69 : decode cX8_span 69 = .ok (.if_icmp .ge 12, 3) := by decide +kernel
theorem dX8_span_72 : decode cX8_span 72 = .ok (.aload_n 0, 1) := by decide +kernel
theorem dX8_span_73 : decode cX8_span 73 = .ok (.iload 5, 2) := by decide +kernel
theorem dX8_span_75 : decode cX8_span 75 = .ok (.invokevirtual 183, 3) := by decide +kernel
theorem dX8_span_78 : decode cX8_span 78 = .ok (.goto 5, 3) := by decide +kernel
theorem dX8_span_81 : decode cX8_span 81 = .ok (.iload 4, 2) := by decide +kernel
theorem dX8_span_83 : decode cX8_span 83 = .ok (.istore 4, 2) := by decide +kernel
theorem dX8_span_85 : decode cX8_span 85 = .ok (.iinc 5 1, 3) := by decide +kernel
theorem dX8_span_88 : decode cX8_span 88 = .ok (.goto (-67), 3) := by decide +kernel
theorem dX8_span_91 : decode cX8_span 91 = .ok (.iload_n 3, 1) := by decide +kernel
theorem dX8_span_92 : decode cX8_span 92 = .ok (.iload 4, 2) := by decide +kernel
theorem dX8_span_94 : decode cX8_span 94 = .ok (.if_icmp .le 8, 3) := by decide +kernel
theorem dX8_span_97 : decode cX8_span 97 = .ok (.bipush (-9), 2) := by decide +kernel
theorem dX8_span_99 : decode cX8_span 99 = .ok (.goto 13, 3) := by decide +kernel
theorem dX8_span_102 : decode cX8_span 102 = .ok (.iload_n 2, 1) := by decide +kernel
theorem dX8_span_103 : decode cX8_span 103 = .ok (.ifCond .eq 8, 3) := by decide +kernel
theorem dX8_span_106 : decode cX8_span 106 = .ok (.iload 4, 2) := by decide +kernel
theorem dX8_span_108 : decode cX8_span 108 = .ok (.goto 4, 3) := by decide +kernel
theorem dX8_span_111 : decode cX8_span 111 = .ok (.iload_n 3, 1) := by decide +kernel
theorem dX8_span_112 : decode cX8_span 112 = .ok (.ireturn, 1) := by decide +kernel
set_option maxRecDepth 20000 in
theorem ggX8_quarrel_X8_isDay : GoodIn wsX8_quarrel wsX8_isDay := goodIn_r _ [5, 6, 7, 4, 8] (by decide +kernel) (by decide +kernel)
set_option maxRecDepth 20000 in
theorem gX8_quarrel_X8_isDay : GoodIn wsX8_quarrel (va_wsS RX8 189 yX8_isDay wsX8_isDay) := goodIn_app (goodIn_of _ (by decide +kernel)) ggX8_quarrel_X8_isDay
set_option maxRecDepth 20000 in
theorem ggX8_quarrel_X8_isKnown : GoodIn wsX8_quarrel wsX8_isKnown := goodIn_r _ [12, 13, 14, 58, 59, 60, 61, 62, 63, 64, 65, 66, 67, 68, 69, 70, 71, 72, 73, 74, 75, 76, 77, 78, 79, 80, 81, 82, 83, 84, 85, 86, 87, 88, 89, 90, 91, 92, 93, 94, 95, 96, 97, 98, 99, 100, 101, 102, 103, 104] (by decide +kernel) (by decide +kernel)
set_option maxRecDepth 20000 in
theorem gX8_quarrel_X8_isKnown : GoodIn wsX8_quarrel (wsV RX8 192 RX8 yX8_isKnown wsX8_isKnown) := goodIn_app (goodIn_of _ (by decide +kernel)) ggX8_quarrel_X8_isKnown
set_option maxRecDepth 20000 in
theorem ggX8_quarrel_X8_toOf : GoodIn wsX8_quarrel wsX8_toOf := goodIn_r _ [18, 19, 20, 21, 22, 23, 24, 25, 26, 27, 4, 28, 29, 30, 31, 32, 33, 34, 35, 36, 37, 38, 39, 40, 41, 42, 43, 44, 45, 46, 58, 59, 60, 61, 62, 63, 64, 65, 66, 67, 68, 69, 70, 71, 72, 73, 74, 75, 76, 77, 78, 79, 80, 81, 82, 83, 84, 85, 86, 87, 88, 89, 90, 91, 92, 93, 94, 95, 96, 97, 98, 99, 100, 101, 102, 103, 104] (by decide +kernel) (by decide +kernel)
set_option maxRecDepth 20000 in
theorem gX8_quarrel_X8_toOf : GoodIn wsX8_quarrel (wsV RX8 183 RX8 yX8_toOf wsX8_toOf) := goodIn_app (goodIn_of _ (by decide +kernel)) ggX8_quarrel_X8_toOf
set_option maxRecDepth 20000 in
theorem ggX8_quarrel_X8_fromOf : GoodIn wsX8_quarrel wsX8_fromOf := goodIn_r _ [50, 19, 51, 20, 52, 22, 24, 25, 26, 27, 4, 28, 29, 30, 31, 32, 33, 34, 35, 36, 37, 38, 39, 40, 41, 42, 43, 44, 45, 46, 58, 59, 60, 61, 62, 63, 64, 65, 66, 67, 68, 69, 70, 71, 72, 73, 74, 75, 76, 77, 78, 79, 80, 81, 82, 83, 84, 85, 86, 87, 88, 89, 90, 91, 92, 93, 94, 95, 96, 97, 98, 99, 100, 101, 102, 103, 104] (by decide +kernel) (by decide +kernel)
set_option maxRecDepth 20000 in
theorem gX8_quarrel_X8_fromOf : GoodIn wsX8_quarrel (wsV RX8 180 RX8 yX8_fromOf wsX8_fromOf) := goodIn_app (goodIn_of _ (by decide +kernel)) ggX8_quarrel_X8_fromOf
set_option maxRecDepth 20000 in
theorem ggX8_quarrel_X8_tells : GoodIn wsX8_quarrel wsX8_tells := goodIn_r _ [56, 57, 58, 59, 60, 61, 62, 63, 64, 65, 66, 67, 68, 69, 70, 71, 72, 73, 74, 75, 76, 77, 78, 79, 80, 81, 82, 83, 84, 85, 86, 87, 88, 89, 90, 91, 92, 93, 94, 95, 96, 97, 98, 99, 100, 101, 102, 103, 104] (by decide +kernel) (by decide +kernel)
set_option maxRecDepth 20000 in
theorem gX8_quarrel_X8_tells : GoodIn wsX8_quarrel (wsV RX8 158 RX8 yX8_tells wsX8_tells) := goodIn_app (goodIn_of _ (by decide +kernel)) ggX8_quarrel_X8_tells
theorem dX8_quarrel_0 : decode cX8_quarrel 0 = .ok (.iload_n 1, 1) := by decide +kernel
theorem dX8_quarrel_1 : decode cX8_quarrel 1 = .ok (.invokestatic 189, 3) := by decide +kernel
theorem dX8_quarrel_4 : decode cX8_quarrel 4 = .ok (.ifCond .ne 5, 3) := by decide +kernel
theorem dX8_quarrel_7 : decode cX8_quarrel 7 = .ok (.iconst (-1), 1) := by decide +kernel
theorem dX8_quarrel_8 : decode cX8_quarrel 8 = .ok (.ireturn, 1) := by decide +kernel
theorem dX8_quarrel_9 : decode cX8_quarrel 9 = .ok (.iconst 0, 1) := by decide +kernel
theorem dX8_quarrel_10 : decode cX8_quarrel 10 = .ok (.istore_n 2, 1) := by decide +kernel
theorem dX8_quarrel_11 : decode cX8_quarrel 11 = .ok (.iload_n 2, 1) := by decide +kernel
theorem dX8_quarrel_12 : decode cX8_quarrel 12 = .ok (.aload_n 0, 1) := by decide +kernel
theorem dX8_quarrel_13 : decode cX8_quarrel 13 = .ok (.getfield 167, 3) := by decide +kernel
theorem dX8_quarrel_16 : decode cX8_quarrel 16 = .ok (.if_icmp .ge 78, 3) := by decide +kernel
theorem dX8_quarrel_19 : decode cX8_quarrel 19 = .ok (.iload_n 2, 1) := by decide +kernel
theorem dX8_quarrel_20 : decode cX8_quarrel 20 = .ok (.iconst 1, 1) := by decide +kernel
theorem dX8_quarrel_21 : decode cX8_quarrel 21 = .ok (.iadd, 1) := by decide +kernel
theorem dX8_quarrel_22 : decode cX8_quarrel 22 = .ok (.istore_n 3, 1) := by decide +kernel
theorem dX8_quarrel_23 : decode cX8_quarrel 23 = .ok (.iload_n 3, 1) := by decide +kernel
theorem dX8_quarrel_24 : decode cX8_quarrel 24 = .ok (.aload_n 0, 1) := by decide +kernel
theorem dX8_quarrel_25 : decode cX8_quarrel 25 = .ok (.getfield 167, 3) := by decide +kernel
theorem dX8_quarrel_28 : decode cX8_quarrel 28 = .ok (.if_icmp .ge 60, 3) := by decide +kernel
theorem dX8_quarrel_31 : decode cX8_quarrel 31 = .ok (.aload_n 0, 1) := by decide +kernel
theorem dX8_quarrel_32 : decode cX8_quarrel 32 = .ok (.iload_n 2, 1) := by decide +kernel
theorem dX8_quarrel_33 : decode cX8_quarrel 33 = .ok (.iload_n 1, 1) := by decide +kernel
theorem dX8_quarrel_34 : decode cX8_quarrel 34 = .ok (.invokevirtual 192, 3) := by decide +kernel
theorem dX8_quarrel_37 : decode cX8_quarrel 37 = .ok (.ifCond .eq 45, 3) := by decide +kernel
theorem dX8_quarrel_40 : decode cX8_quarrel 40 = .ok (.aload_n 0, 1) := by decide +kernel
theorem dX8_quarrel_41 : decode cX8_quarrel 41 = .ok (.iload_n 3, 1) := by decide +kernel
theorem dX8_quarrel_42 : decode cX8_quarrel 42 = .ok (.iload_n 1, 1) := by decide +kernel
theorem dX8_quarrel_43 : decode cX8_quarrel 43 = .ok (.invokevirtual 192, 3) := by decide +kernel
theorem dX8_quarrel_46 : decode cX8_quarrel 46 = .ok (.ifCond .eq 36, 3) := by decide +kernel
theorem dX8_quarrel_49 : decode cX8_quarrel 49 = .ok (.aload_n 0, 1) := by decide +kernel
theorem dX8_quarrel_50 : decode cX8_quarrel 50 = .ok (.iload_n 2, 1) := by decide +kernel
theorem dX8_quarrel_51 : decode cX8_quarrel 51 = .ok (.invokevirtual 183, 3) := by decide +kernel
theorem dX8_quarrel_54 : decode cX8_quarrel 54 = .ok (.aload_n 0, 1) := by decide +kernel
theorem dX8_quarrel_55 : decode cX8_quarrel 55 = .ok (.iload_n 3, 1) := by decide +kernel
theorem dX8_quarrel_56 : decode cX8_quarrel 56 = .ok (.invokevirtual 180, 3) := by decide +kernel
theorem dX8_quarrel_59 : decode cX8_quarrel 59 = .ok (.if_icmp .lt 16, 3) := by decide +kernel
theorem dX8_quarrel_62 : decode cX8_quarrel 62 = .ok (.aload_n 0, 1) := by decide +kernel
theorem dX8_quarrel_63 : decode cX8_quarrel 63 = .ok (.iload_n 3, 1) := by decide +kernel
theorem dX8_quarrel_64 : decode cX8_quarrel 64 = .ok (.invokevirtual 183, 3) := by decide +kernel
theorem dX8_quarrel_67 : decode cX8_quarrel 67 = .ok (.aload_n 0, 1) := by decide +kernel
theorem dX8_quarrel_68 : decode cX8_quarrel 68 = .ok (.iload_n 2, 1) := by decide +kernel
theorem dX8_quarrel_69 : decode cX8_quarrel 69 = .ok (.invokevirtual 180, 3) := by decide +kernel
theorem dX8_quarrel_72 : decode cX8_quarrel 72 = .ok (.if_icmp .ge 10, 3) := by decide +kernel
theorem dX8_quarrel_75 : decode cX8_quarrel 75 = .ok (.aload_n 0, 1) := by decide +kernel
theorem dX8_quarrel_76 : decode cX8_quarrel 76 = .ok (.iload_n 3, 1) := by decide +kernel
theorem dX8_quarrel_77 : decode cX8_quarrel 77 = .ok (.iload_n 2, 1) := by decide +kernel
theorem dX8_quarrel_78 : decode cX8_quarrel 78 = .ok (.invokevirtual 158, 3) := by decide +kernel
theorem dX8_quarrel_81 : decode cX8_quarrel 81 = .ok (.ireturn, 1) := by decide +kernel
theorem dX8_quarrel_82 : decode cX8_quarrel 82 = .ok (.iinc 3 1, 3) := by decide +kernel
theorem dX8_quarrel_85 : decode cX8_quarrel 85 = .ok (.goto (-62), 3) := by decide +kernel
theorem dX8_quarrel_88 : decode cX8_quarrel 88 = .ok (.iinc 2 1, 3) := by decide +kernel
theorem dX8_quarrel_91 : decode cX8_quarrel 91 = .ok (.goto (-80), 3) := by decide +kernel
theorem dX8_quarrel_94 : decode cX8_quarrel 94 = .ok (.bipush (-9), 2) := by decide +kernel
theorem dX8_quarrel_96 : decode cX8_quarrel 96 = .ok (.ireturn, 1) := by decide +kernel
set_option maxRecDepth 20000 in
theorem ggX8_bestYear_X8_isKnown : GoodIn wsX8_bestYear wsX8_isKnown := goodIn_r _ [8, 9, 10, 49, 50, 51, 52, 53, 54, 55, 56, 57, 58, 59, 60, 61, 62, 63, 64, 65, 66, 67, 68, 69, 70, 71, 72, 73, 74, 75, 76, 77, 78, 79, 80, 81, 82, 83, 84, 85, 86, 87, 88, 89, 90, 91, 92, 93, 94, 95] (by decide +kernel) (by decide +kernel)
set_option maxRecDepth 20000 in
theorem gX8_bestYear_X8_isKnown : GoodIn wsX8_bestYear (wsV RX8 192 RX8 yX8_isKnown wsX8_isKnown) := goodIn_app (goodIn_of _ (by decide +kernel)) ggX8_bestYear_X8_isKnown
set_option maxRecDepth 20000 in
theorem ggX8_bestYear_X8_fromOf : GoodIn wsX8_bestYear wsX8_fromOf := goodIn_r _ [14, 15, 16, 17, 18, 19, 20, 21, 22, 23, 7, 24, 25, 26, 27, 28, 29, 30, 31, 32, 33, 34, 35, 36, 37, 38, 39, 40, 41, 42, 49, 50, 51, 52, 53, 54, 55, 56, 57, 58, 59, 60, 61, 62, 63, 64, 65, 66, 67, 68, 69, 70, 71, 72, 73, 74, 75, 76, 77, 78, 79, 80, 81, 82, 83, 84, 85, 86, 87, 88, 89, 90, 91, 92, 93, 94, 95] (by decide +kernel) (by decide +kernel)
set_option maxRecDepth 20000 in
theorem gX8_bestYear_X8_fromOf : GoodIn wsX8_bestYear (wsV RX8 180 RX8 yX8_fromOf wsX8_fromOf) := goodIn_app (goodIn_of _ (by decide +kernel)) ggX8_bestYear_X8_fromOf
set_option maxRecDepth 20000 in
theorem ggX8_bestYear_X8_toOf : GoodIn wsX8_bestYear wsX8_toOf := goodIn_r _ [46, 15, 17, 47, 19, 48, 20, 21, 22, 23, 7, 24, 25, 26, 27, 28, 29, 30, 31, 32, 33, 34, 35, 36, 37, 38, 39, 40, 41, 42, 49, 50, 51, 52, 53, 54, 55, 56, 57, 58, 59, 60, 61, 62, 63, 64, 65, 66, 67, 68, 69, 70, 71, 72, 73, 74, 75, 76, 77, 78, 79, 80, 81, 82, 83, 84, 85, 86, 87, 88, 89, 90, 91, 92, 93, 94, 95] (by decide +kernel) (by decide +kernel)
set_option maxRecDepth 20000 in
theorem gX8_bestYear_X8_toOf : GoodIn wsX8_bestYear (wsV RX8 183 RX8 yX8_toOf wsX8_toOf) := goodIn_app (goodIn_of _ (by decide +kernel)) ggX8_bestYear_X8_toOf
theorem dX8_bestYear_0 : decode cX8_bestYear 0 = .ok (.sipush 1000, 3) := by decide +kernel
theorem dX8_bestYear_3 : decode cX8_bestYear 3 = .ok (.istore_n 2, 1) := by decide +kernel
theorem dX8_bestYear_4 : decode cX8_bestYear 4 = .ok (.iload_n 2, 1) := by decide +kernel
theorem dX8_bestYear_5 : decode cX8_bestYear 5 = .ok (.sipush 2101, 3) := by decide +kernel
theorem dX8_bestYear_8 : decode cX8_bestYear 8 = .ok (.if_icmp .gt 16, 3) := by decide +kernel
theorem dX8_bestYear_11 : decode cX8_bestYear 11 = .ok (.aload_n 0, 1) := by decide +kernel
theorem dX8_bestYear_12 : decode cX8_bestYear 12 = .ok (.getfield 50, 3) := by decide +kernel
theorem dX8_bestYear_15 : decode cX8_bestYear 15 = .ok (.iload_n 2, 1) := by decide +kernel
theorem dX8_bestYear_16 : decode cX8_bestYear 16 = .ok (.iconst 0, 1) := by decide +kernel
theorem dX8_bestYear_17 : decode cX8_bestYear 17 = .ok (.iastore, 1) := by decide +kernel
theorem dX8_bestYear_18 : decode cX8_bestYear 18 = .ok (.iinc 2 1, 3) := by decide +kernel
theorem dX8_bestYear_21 : decode cX8_bestYear 21 = .ok (.goto (-17), 3) := by decide +kernel
theorem dX8_bestYear_24 : decode cX8_bestYear 24 = .ok (.iconst 0, 1) := by decide +kernel
theorem dX8_bestYear_25 : decode cX8_bestYear 25 = .ok (.istore_n 2, 1) := by decide +kernel
theorem dX8_bestYear_26 : decode cX8_bestYear 26 = .ok (.iload_n 2, 1) := by decide +kernel
theorem dX8_bestYear_27 : decode cX8_bestYear 27 = .ok (.aload_n 0, 1) := by decide +kernel
theorem dX8_bestYear_28 : decode cX8_bestYear 28 = .ok (.getfield 167, 3) := by decide +kernel
theorem dX8_bestYear_31 : decode cX8_bestYear 31 = .ok (.if_icmp .ge 58, 3) := by decide +kernel
theorem dX8_bestYear_34 : decode cX8_bestYear 34 = .ok (.aload_n 0, 1) := by decide +kernel
theorem dX8_bestYear_35 : decode cX8_bestYear 35 = .ok (.iload_n 2, 1) := by decide +kernel
theorem dX8_bestYear_36 : decode cX8_bestYear 36 = .ok (.iload_n 1, 1) := by decide +kernel
theorem dX8_bestYear_37 : decode cX8_bestYear 37 = .ok (.invokevirtual 192, 3) := by decide +kernel
theorem dX8_bestYear_40 : decode cX8_bestYear 40 = .ok (.ifCond .eq 43, 3) := by decide +kernel
theorem dX8_bestYear_43 : decode cX8_bestYear 43 = .ok (.aload_n 0, 1) := by decide +kernel
theorem dX8_bestYear_44 : decode cX8_bestYear 44 = .ok (.getfield 50, 3) := by decide +kernel
theorem dX8_bestYear_47 : decode cX8_bestYear 47 = .ok (.aload_n 0, 1) := by decide +kernel
theorem dX8_bestYear_48 : decode cX8_bestYear 48 = .ok (.iload_n 2, 1) := by decide +kernel
theorem dX8_bestYear_49 : decode cX8_bestYear 49 = .ok (.invokevirtual 180, 3) := by decide +kernel
theorem dX8_bestYear_52 : decode cX8_bestYear 52 = .ok (.dup2, 1) := by decide +kernel
theorem dX8_bestYear_53 : decode cX8_bestYear 53 = .ok (.iaload, 1) := by decide +kernel
theorem dX8_bestYear_54 : decode cX8_bestYear 54 = .ok (.aload_n 0, 1) := by decide +kernel
theorem dX8_bestYear_55 : decode cX8_bestYear 55 = .ok (.getfield 29, 3) := by decide +kernel
theorem dX8_bestYear_58 : decode cX8_bestYear 58 = .ok (.iload_n 2, 1) := by decide +kernel
theorem dX8_bestYear_59 : decode cX8_bestYear 59 = .ok (.iaload, 1) := by decide +kernel
theorem dX8_bestYear_60 : decode cX8_bestYear 60 = .ok (.iadd, 1) := by decide +kernel
theorem dX8_bestYear_61 : decode cX8_bestYear 61 = .ok (.iastore, 1) := by decide +kernel
theorem dX8_bestYear_62 : decode cX8_bestYear 62 = .ok (.aload_n 0, 1) := by decide +kernel
theorem dX8_bestYear_63 : decode cX8_bestYear 63 = .ok (.getfield 50, 3) := by decide +kernel
theorem dX8_bestYear_66 : decode cX8_bestYear 66 = .ok (.aload_n 0, 1) := by decide +kernel
theorem dX8_bestYear_67 : decode cX8_bestYear 67 = .ok (.iload_n 2, 1) := by decide +kernel
theorem dX8_bestYear_68 : decode cX8_bestYear 68 = .ok (.invokevirtual 183, 3) := by decide +kernel
theorem dX8_bestYear_71 : decode cX8_bestYear 71 = .ok (.iconst 1, 1) := by decide +kernel
theorem dX8_bestYear_72 : decode cX8_bestYear 72 = .ok (.iadd, 1) := by decide +kernel
theorem dX8_bestYear_73 : decode cX8_bestYear 73 = .ok (.dup2, 1) := by decide +kernel
theorem dX8_bestYear_74 : decode cX8_bestYear 74 = .ok (.iaload, 1) := by decide +kernel
theorem dX8_bestYear_75 : decode cX8_bestYear 75 = .ok (.aload_n 0, 1) := by decide +kernel
theorem dX8_bestYear_76 : decode cX8_bestYear 76 = .ok (.getfield 29, 3) := by decide +kernel
theorem dX8_bestYear_79 : decode cX8_bestYear 79 = .ok (.iload_n 2, 1) := by decide +kernel
theorem dX8_bestYear_80 : decode cX8_bestYear 80 = .ok (.iaload, 1) := by decide +kernel
theorem dX8_bestYear_81 : decode cX8_bestYear 81 = .ok (.isub, 1) := by decide +kernel
theorem dX8_bestYear_82 : decode cX8_bestYear 82 = .ok (.iastore, 1) := by decide +kernel
theorem dX8_bestYear_83 : decode cX8_bestYear 83 = .ok (.iinc 2 1, 3) := by decide +kernel
theorem dX8_bestYear_86 : decode cX8_bestYear 86 = .ok (.goto (-60), 3) := by decide +kernel
theorem dX8_bestYear_89 : decode cX8_bestYear 89 = .ok (.sipush 1000, 3) := by decide +kernel
theorem dX8_bestYear_92 : decode cX8_bestYear 92 = .ok (.istore_n 2, 1) := by decide +kernel
theorem dX8_bestYear_93 : decode cX8_bestYear 93 = .ok (.sipush 1001, 3) := by decide +kernel
theorem dX8_bestYear_96 : decode cX8_bestYear 96 = .ok (.istore_n 3, 1) := by decide +kernel
theorem dX8_bestYear_97 : decode cX8_bestYear 97 = .ok (.iload_n 3, 1) := by decide +kernel
theorem dX8_bestYear_98 : decode cX8_bestYear 98 = .ok (.sipush 2100, 3) := by decide +kernel
theorem dX8_bestYear_101 : decode cX8_bestYear 101 = .ok (.if_icmp .gt 47, 3) := by decide +kernel
theorem dX8_bestYear_104 : decode cX8_bestYear 104 = .ok (.aload_n 0, 1) := by decide +kernel
theorem dX8_bestYear_105 : decode cX8_bestYear 105 = .ok (.getfield 50, 3) := by decide +kernel
theorem dX8_bestYear_108 : decode cX8_bestYear 108 = .ok (.iload_n 3, 1) := by decide +kernel
theorem dX8_bestYear_109 : decode cX8_bestYear 109 = .ok (.dup2, 1) := by decide +kernel
theorem dX8_bestYear_110 : decode cX8_bestYear 110 = .ok (.iaload, 1) := by decide +kernel
theorem dX8_bestYear_111 : decode cX8_bestYear 111 = .ok (.aload_n 0, 1) := by decide +kernel
theorem dX8_bestYear_112 : decode cX8_bestYear 112 = .ok (.getfield 50, 3) := by decide +kernel
theorem dX8_bestYear_115 : decode cX8_bestYear 115 = .ok (.iload_n 3, 1) := by decide +kernel
theorem dX8_bestYear_116 : decode cX8_bestYear 116 = .ok (.iconst 1, 1) := by decide +kernel
theorem dX8_bestYear_117 : decode cX8_bestYear 117 = .ok (.isub, 1) := by decide +kernel
theorem dX8_bestYear_118 : decode cX8_bestYear 118 = .ok (.iaload, 1) := by decide +kernel
theorem dX8_bestYear_119 : decode cX8_bestYear 119 = .ok (.iadd, 1) := by decide +kernel
theorem dX8_bestYear_120 : decode cX8_bestYear 120 = .ok (.iastore, 1) := by decide +kernel
theorem dX8_bestYear_121 : decode cX8_bestYear 121 = .ok (.aload_n 0, 1) := by decide +kernel
theorem dX8_bestYear_122 : decode cX8_bestYear 122 = .ok (.getfield 50, 3) := by decide +kernel
theorem dX8_bestYear_125 : decode cX8_bestYear 125 = .ok (.iload_n 3, 1) := by decide +kernel
theorem dX8_bestYear_126 : decode cX8_bestYear 126 = .ok (.iaload, 1) := by decide +kernel
theorem dX8_bestYear_127 : decode cX8_bestYear 127 = .ok (.aload_n 0, 1) := by decide +kernel
theorem dX8_bestYear_128 : decode cX8_bestYear 128 = .ok (.getfield 50, 3) := by decide +kernel
theorem dX8_bestYear_131 : decode cX8_bestYear 131 = .ok (.iload_n 2, 1) := by decide +kernel
theorem dX8_bestYear_132 : decode cX8_bestYear 132 = .ok (.iaload, 1) := by decide +kernel
theorem dX8_bestYear_133 : decode cX8_bestYear 133 = .ok (.if_icmp .le 7, 3) := by decide +kernel
theorem dX8_bestYear_136 : decode cX8_bestYear 136 = .ok (.iload_n 3, 1) := by decide +kernel
theorem dX8_bestYear_137 : decode cX8_bestYear 137 = .ok (.goto 4, 3) := by decide +kernel
theorem dX8_bestYear_140 : decode cX8_bestYear 140 = .ok (.iload_n 2, 1) := by decide +kernel
theorem dX8_bestYear_141 : decode cX8_bestYear 141 = .ok (.istore_n 2, 1) := by decide +kernel
theorem dX8_bestYear_142 : decode cX8_bestYear 142 = .ok (.iinc 3 1, 3) := by decide +kernel
theorem dX8_bestYear_145 : decode cX8_bestYear 145 = .ok (.goto (-48), 3) := by decide +kernel
theorem dX8_bestYear_148 : decode cX8_bestYear 148 = .ok (.iload_n 2, 1) := by decide +kernel
theorem dX8_bestYear_149 : decode cX8_bestYear 149 = .ok (.ireturn, 1) := by decide +kernel
set_option maxRecDepth 20000 in
theorem ggX8_leftOut_X8_isDay : GoodIn wsX8_leftOut wsX8_isDay := goodIn_r _ [6, 7, 8, 5, 9] (by decide +kernel) (by decide +kernel)
set_option maxRecDepth 20000 in
theorem gX8_leftOut_X8_isDay : GoodIn wsX8_leftOut (va_wsS RX8 189 yX8_isDay wsX8_isDay) := goodIn_app (goodIn_of _ (by decide +kernel)) ggX8_leftOut_X8_isDay
set_option maxRecDepth 20000 in
theorem ggX8_leftOut_X8_bestYear : GoodIn wsX8_leftOut wsX8_bestYear := goodIn_r _ [13, 14, 1, 2, 15, 16, 17, 5, 18, 19, 20, 21, 22, 23, 24, 25, 26, 27, 28, 29, 30, 31, 32, 33, 34, 35, 36, 37, 38, 39, 40, 41, 42, 43, 44, 45, 46, 47, 48, 49, 50, 51, 52, 53, 54, 55, 56, 57, 58, 64, 65, 66, 67, 68, 69, 70, 71, 72, 73, 74, 75, 76, 77, 78, 79, 80, 81, 82, 83, 84, 85, 86, 87, 88, 89, 90, 91, 92, 93, 94, 95, 96, 97, 98, 99, 100, 101, 102, 103, 104, 105, 106, 107, 108, 109, 110] (by decide +kernel) (by decide +kernel)
set_option maxRecDepth 20000 in
theorem gX8_leftOut_X8_bestYear : GoodIn wsX8_leftOut (wsV RX8 195 RX8 yX8_bestYear wsX8_bestYear) := goodIn_app (goodIn_of _ (by decide +kernel)) ggX8_leftOut_X8_bestYear
set_option maxRecDepth 20000 in
theorem ggX8_leftOut_X8_isKnown : GoodIn wsX8_leftOut wsX8_isKnown := goodIn_r _ [18, 19, 20, 64, 65, 66, 67, 68, 69, 70, 71, 72, 73, 74, 75, 76, 77, 78, 79, 80, 81, 82, 83, 84, 85, 86, 87, 88, 89, 90, 91, 92, 93, 94, 95, 96, 97, 98, 99, 100, 101, 102, 103, 104, 105, 106, 107, 108, 109, 110] (by decide +kernel) (by decide +kernel)
set_option maxRecDepth 20000 in
theorem gX8_leftOut_X8_isKnown : GoodIn wsX8_leftOut (wsV RX8 192 RX8 yX8_isKnown wsX8_isKnown) := goodIn_app (goodIn_of _ (by decide +kernel)) ggX8_leftOut_X8_isKnown
set_option maxRecDepth 20000 in
theorem ggX8_leftOut_X8_fromOf : GoodIn wsX8_leftOut wsX8_fromOf := goodIn_r _ [24, 25, 26, 27, 28, 29, 30, 31, 32, 33, 5, 34, 35, 36, 37, 38, 39, 40, 41, 42, 43, 44, 45, 46, 47, 48, 49, 50, 51, 52, 64, 65, 66, 67, 68, 69, 70, 71, 72, 73, 74, 75, 76, 77, 78, 79, 80, 81, 82, 83, 84, 85, 86, 87, 88, 89, 90, 91, 92, 93, 94, 95, 96, 97, 98, 99, 100, 101, 102, 103, 104, 105, 106, 107, 108, 109, 110] (by decide +kernel) (by decide +kernel)
set_option maxRecDepth 20000 in
theorem gX8_leftOut_X8_fromOf : GoodIn wsX8_leftOut (wsV RX8 180 RX8 yX8_fromOf wsX8_fromOf) := goodIn_app (goodIn_of _ (by decide +kernel)) ggX8_leftOut_X8_fromOf
set_option maxRecDepth 20000 in
theorem ggX8_leftOut_X8_toOf : GoodIn wsX8_leftOut wsX8_toOf := goodIn_r _ [56, 25, 27, 57, 29, 58, 30, 31, 32, 33, 5, 34, 35, 36, 37, 38, 39, 40, 41, 42, 43, 44, 45, 46, 47, 48, 49, 50, 51, 52, 64, 65, 66, 67, 68, 69, 70, 71, 72, 73, 74, 75, 76, 77, 78, 79, 80, 81, 82, 83, 84, 85, 86, 87, 88, 89, 90, 91, 92, 93, 94, 95, 96, 97, 98, 99, 100, 101, 102, 103, 104, 105, 106, 107, 108, 109, 110] (by decide +kernel) (by decide +kernel)
set_option maxRecDepth 20000 in
theorem gX8_leftOut_X8_toOf : GoodIn wsX8_leftOut (wsV RX8 183 RX8 yX8_toOf wsX8_toOf) := goodIn_app (goodIn_of _ (by decide +kernel)) ggX8_leftOut_X8_toOf
set_option maxRecDepth 20000 in
theorem ggX8_leftOut_X8_in : GoodIn wsX8_leftOut wsX8_in := goodIn_r _ [9] (by decide +kernel) (by decide +kernel)
set_option maxRecDepth 20000 in
theorem gX8_leftOut_X8_in : GoodIn wsX8_leftOut (va_wsS RX8 125 yX8_in wsX8_in) := goodIn_app (goodIn_of _ (by decide +kernel)) ggX8_leftOut_X8_in
set_option maxRecDepth 20000 in
theorem ggX8_leftOut_X8_tells : GoodIn wsX8_leftOut wsX8_tells := goodIn_r _ [62, 63, 64, 65, 66, 67, 68, 69, 70, 71, 72, 73, 74, 75, 76, 77, 78, 79, 80, 81, 82, 83, 84, 85, 86, 87, 88, 89, 90, 91, 92, 93, 94, 95, 96, 97, 98, 99, 100, 101, 102, 103, 104, 105, 106, 107, 108, 109, 110] (by decide +kernel) (by decide +kernel)
set_option maxRecDepth 20000 in
theorem gX8_leftOut_X8_tells : GoodIn wsX8_leftOut (wsV RX8 158 RX8 yX8_tells wsX8_tells) := goodIn_app (goodIn_of _ (by decide +kernel)) ggX8_leftOut_X8_tells
theorem dX8_leftOut_0 : decode cX8_leftOut 0 = .ok (.iload_n 1, 1) := by decide +kernel
theorem dX8_leftOut_1 : decode cX8_leftOut 1 = .ok (.invokestatic 189, 3) := by decide +kernel
theorem dX8_leftOut_4 : decode cX8_leftOut 4 = .ok (.ifCond .ne 5, 3) := by decide +kernel
theorem dX8_leftOut_7 : decode cX8_leftOut 7 = .ok (.iconst (-1), 1) := by decide +kernel
theorem dX8_leftOut_8 : decode cX8_leftOut 8 = .ok (.ireturn, 1) := by decide +kernel
theorem dX8_leftOut_9 : decode cX8_leftOut 9 = .ok (.aload_n 0, 1) := by decide +kernel
theorem dX8_leftOut_10 : decode cX8_leftOut 10 = .ok (.iload_n 1, 1) := by decide +kernel
theorem dX8_leftOut_11 : decode cX8_leftOut 11 = .ok (.invokevirtual 195, 3) := by decide +kernel
theorem dX8_leftOut_14 : decode cX8_leftOut 14 = .ok (.istore_n 2, 1) := by decide +kernel
theorem dX8_leftOut_15 : decode cX8_leftOut 15 = .ok (.iconst 0, 1) := by decide +kernel
theorem dX8_leftOut_16 : decode cX8_leftOut 16 = .ok (.istore_n 3, 1) := by decide +kernel
theorem dX8_leftOut_17 : decode cX8_leftOut 17 = .ok (.iconst 0, 1) := by decide +kernel
theorem dX8_leftOut_18 : decode cX8_leftOut 18 = .ok (.istore 4, 2) := by decide +kernel
theorem dX8_leftOut_20 : decode cX8_leftOut 20 = .ok (.iconst 0, 1) := by decide +kernel
theorem dX8_leftOut_21 : decode cX8_leftOut 21 = .ok (.istore 5, 2) := by decide +kernel
theorem dX8_leftOut_23 : decode cX8_leftOut 23 = .ok (.iload 5, 2) := by decide +kernel
theorem dX8_leftOut_25 : decode cX8_leftOut 25 = .ok (.aload_n 0, 1) := by decide +kernel
theorem dX8_leftOut_26 : decode cX8_leftOut 26 = .ok (.getfield 167, 3) := by decide +kernel
theorem dX8_leftOut_29 : decode cX8_leftOut 29 = .ok (.if_icmp .ge 57, 3) := by decide +kernel
theorem dX8_leftOut_32 : decode cX8_leftOut 32 = .ok (.aload_n 0, 1) := by decide +kernel
theorem dX8_leftOut_33 : decode cX8_leftOut 33 = .ok (.iload 5, 2) := by decide +kernel
theorem dX8_leftOut_35 : decode cX8_leftOut 35 = .ok (.iload_n 1, 1) := by decide +kernel
theorem dX8_leftOut_36 : decode cX8_leftOut 36 = .ok (.invokevirtual 192, 3) := by decide +kernel
theorem dX8_leftOut_39 : decode cX8_leftOut 39 = .ok (.ifCond .eq 41, 3) := by decide +kernel
theorem dX8_leftOut_42 : decode cX8_leftOut 42 = .ok (.iload_n 2, 1) := by decide +kernel
theorem dX8_leftOut_43 : decode cX8_leftOut 43 = .ok (.aload_n 0, 1) := by decide +kernel
theorem dX8_leftOut_44 : decode cX8_leftOut 44 = .ok (.iload 5, 2) := by decide +kernel
theorem dX8_leftOut_46 : decode cX8_leftOut 46 = .ok (.invokevirtual 180, 3) := by decide +kernel
theorem dX8_leftOut_49 : decode cX8_leftOut 49 = .ok (.aload_n 0, 1) := by decide +kernel
theorem dX8_leftOut_50 : decode cX8_leftOut 50 = .ok (.iload 5, 2) := by decide +kernel
theorem dX8_leftOut_52 : decode cX8_leftOut 52 = .ok (.invokevirtual 183, 3) := by decide +kernel
theorem dX8_leftOut_55 : decode cX8_leftOut 55 = .ok (.invokestatic 125, 3) := by decide +kernel
theorem dX8_leftOut_58 : decode cX8_leftOut 58 = .ok (.ifCond .ne 22, 3) := by decide +kernel
theorem dX8_leftOut_61 : decode cX8_leftOut 61 = .ok (.iload_n 3, 1) := by decide +kernel
theorem dX8_leftOut_62 : decode cX8_leftOut 62 = .ok (.aload_n 0, 1) := by decide +kernel
theorem dX8_leftOut_63 : decode cX8_leftOut 63 = .ok (.getfield 29, 3) := by decide +kernel
theorem dX8_leftOut_66 : decode cX8_leftOut 66 = .ok (.iload 5, 2) := by decide +kernel
theorem dX8_leftOut_68 : decode cX8_leftOut 68 = .ok (.iaload, 1) := by decide +kernel
theorem dX8_leftOut_69 : decode cX8_leftOut 69 = .ok (.iadd, 1) := by decide +kernel
theorem dX8_leftOut_70 : decode cX8_leftOut 70 = .ok (.istore_n 3, 1) := by decide +kernel
theorem dX8_leftOut_71 : decode cX8_leftOut 71 = .ok (.iload 4, 2) := by decide +kernel
theorem dX8_leftOut_73 : decode cX8_leftOut 73 = .ok (.iconst 1, 1) := by decide +kernel
theorem dX8_leftOut_74 : decode cX8_leftOut 74 = .ok (.iload 5, 2) := by decide +kernel
theorem dX8_leftOut_76 : decode cX8_leftOut 76 = .ok (.ishl, 1) := by decide +kernel
theorem dX8_leftOut_77 : decode cX8_leftOut 77 = .ok (.ior, 1) := by decide +kernel
theorem dX8_leftOut_78 : decode cX8_leftOut 78 = .ok (.istore 4, 2) := by decide +kernel
theorem dX8_leftOut_80 : decode cX8_leftOut 80 = .ok (.iinc 5 1, 3) := by decide +kernel
theorem dX8_leftOut_83 : decode cX8_leftOut 83 = .ok (.goto (-60), 3) := by decide +kernel
theorem dX8_leftOut_86 : decode cX8_leftOut 86 = .ok (.aload_n 0, 1) := by decide +kernel
theorem dX8_leftOut_87 : decode cX8_leftOut 87 = .ok (.iload 4, 2) := by decide +kernel
theorem dX8_leftOut_89 : decode cX8_leftOut 89 = .ok (.iload_n 3, 1) := by decide +kernel
theorem dX8_leftOut_90 : decode cX8_leftOut 90 = .ok (.invokevirtual 158, 3) := by decide +kernel
theorem dX8_leftOut_93 : decode cX8_leftOut 93 = .ok (.ireturn, 1) := by decide +kernel
set_option maxRecDepth 20000 in
theorem ggX8_heldYear_X8_isDay : GoodIn wsX8_heldYear wsX8_isDay := goodIn_r _ [4, 5, 6, 3, 7] (by decide +kernel) (by decide +kernel)
set_option maxRecDepth 20000 in
theorem gX8_heldYear_X8_isDay : GoodIn wsX8_heldYear (va_wsS RX8 189 yX8_isDay wsX8_isDay) := goodIn_app (goodIn_of _ (by decide +kernel)) ggX8_heldYear_X8_isDay
set_option maxRecDepth 20000 in
theorem ggX8_heldYear_X8_bestYear : GoodIn wsX8_heldYear wsX8_bestYear := goodIn_r _ [11, 12, 13, 14, 15, 16, 17, 3, 18, 19, 20, 21, 22, 23, 24, 25, 26, 27, 28, 29, 30, 31, 32, 33, 34, 35, 36, 37, 38, 39, 40, 41, 42, 43, 44, 45, 46, 47, 48, 49, 50, 51, 52, 53, 54, 55, 56, 57, 58, 59, 60, 61, 62, 63, 64, 65, 66, 67, 68, 69, 70, 71, 72, 73, 74, 75, 76, 77, 78, 79, 80, 81, 82, 83, 84, 85, 86, 87, 88, 89, 90, 91, 92, 93, 94, 95, 96, 97, 98, 99, 100, 101, 102, 103, 104, 105] (by decide +kernel) (by decide +kernel)
set_option maxRecDepth 20000 in
theorem gX8_heldYear_X8_bestYear : GoodIn wsX8_heldYear (wsV RX8 195 RX8 yX8_bestYear wsX8_bestYear) := goodIn_app (goodIn_of _ (by decide +kernel)) ggX8_heldYear_X8_bestYear
theorem dX8_heldYear_0 : decode cX8_heldYear 0 = .ok (.iload_n 1, 1) := by decide +kernel
theorem dX8_heldYear_1 : decode cX8_heldYear 1 = .ok (.invokestatic 189, 3) := by decide +kernel
theorem dX8_heldYear_4 : decode cX8_heldYear 4 = .ok (.ifCond .eq 11, 3) := by decide +kernel
theorem dX8_heldYear_7 : decode cX8_heldYear 7 = .ok (.aload_n 0, 1) := by decide +kernel
theorem dX8_heldYear_8 : decode cX8_heldYear 8 = .ok (.iload_n 1, 1) := by decide +kernel
theorem dX8_heldYear_9 : decode cX8_heldYear 9 = .ok (.invokevirtual 195, 3) := by decide +kernel
theorem dX8_heldYear_12 : decode cX8_heldYear 12 = .ok (.goto 4, 3) := by decide +kernel
theorem dX8_heldYear_15 : decode cX8_heldYear 15 = .ok (.iconst (-1), 1) := by decide +kernel
theorem dX8_heldYear_16 : decode cX8_heldYear 16 = .ok (.ireturn, 1) := by decide +kernel
set_option maxRecDepth 20000 in
theorem ggX8_isHand_X8_in : GoodIn wsX8_isHand wsX8_in := goodIn_r _ [4] (by decide +kernel) (by decide +kernel)
set_option maxRecDepth 20000 in
theorem gX8_isHand_X8_in : GoodIn wsX8_isHand (va_wsS RX8 125 yX8_in wsX8_in) := goodIn_app (goodIn_of _ (by decide +kernel)) ggX8_isHand_X8_in
theorem dX8_isHand_0 : decode cX8_isHand 0 = .ok (.iload_n 0, 1) := by decide +kernel
theorem dX8_isHand_1 : decode cX8_isHand 1 = .ok (.iconst 0, 1) := by decide +kernel
theorem dX8_isHand_2 : decode cX8_isHand 2 = .ok (.iconst 3, 1) := by decide +kernel
theorem dX8_isHand_3 : decode cX8_isHand 3 = .ok (.invokestatic 125, 3) := by decide +kernel
theorem dX8_isHand_6 : decode cX8_isHand 6 = .ok (.ireturn, 1) := by decide +kernel
set_option maxRecDepth 20000 in
theorem ggX8_isTest_X8_in : GoodIn wsX8_isTest wsX8_in := goodIn_r _ [5] (by decide +kernel) (by decide +kernel)
set_option maxRecDepth 20000 in
theorem gX8_isTest_X8_in : GoodIn wsX8_isTest (va_wsS RX8 125 yX8_in wsX8_in) := goodIn_app (goodIn_of _ (by decide +kernel)) ggX8_isTest_X8_in
theorem dX8_isTest_0 : decode cX8_isTest 0 = .ok (.iload_n 1, 1) := by decide +kernel
theorem dX8_isTest_1 : decode cX8_isTest 1 = .ok (.iconst 0, 1) := by decide +kernel
theorem dX8_isTest_2 : decode cX8_isTest 2 = .ok (.aload_n 0, 1) := by decide +kernel
theorem dX8_isTest_3 : decode cX8_isTest 3 = .ok (.getfield 198, 3) := by decide +kernel
theorem dX8_isTest_6 : decode cX8_isTest 6 = .ok (.iconst 1, 1) := by decide +kernel
theorem dX8_isTest_7 : decode cX8_isTest 7 = .ok (.isub, 1) := by decide +kernel
theorem dX8_isTest_8 : decode cX8_isTest 8 = .ok (.invokestatic 125, 3) := by decide +kernel
theorem dX8_isTest_11 : decode cX8_isTest 11 = .ok (.ireturn, 1) := by decide +kernel
set_option maxRecDepth 20000 in
theorem ggX8_hand_X8_isHand : GoodIn wsX8_hand wsX8_isHand := goodIn_r _ [5, 6, 7, 4, 8] (by decide +kernel) (by decide +kernel)
set_option maxRecDepth 20000 in
theorem gX8_hand_X8_isHand : GoodIn wsX8_hand (va_wsS RX8 201 yX8_isHand wsX8_isHand) := goodIn_app (goodIn_of _ (by decide +kernel)) ggX8_hand_X8_isHand
set_option maxRecDepth 20000 in
theorem ggX8_hand_X8_in : GoodIn wsX8_hand wsX8_in := goodIn_r _ [8] (by decide +kernel) (by decide +kernel)
set_option maxRecDepth 20000 in
theorem gX8_hand_X8_in : GoodIn wsX8_hand (va_wsS RX8 125 yX8_in wsX8_in) := goodIn_app (goodIn_of _ (by decide +kernel)) ggX8_hand_X8_in
theorem dX8_hand_0 : decode cX8_hand 0 = .ok (.iload_n 1, 1) := by decide +kernel
theorem dX8_hand_1 : decode cX8_hand 1 = .ok (.invokestatic 201, 3) := by decide +kernel
theorem dX8_hand_4 : decode cX8_hand 4 = .ok (.ifCond .eq 13, 3) := by decide +kernel
theorem dX8_hand_7 : decode cX8_hand 7 = .ok (.iload_n 2, 1) := by decide +kernel
theorem dX8_hand_8 : decode cX8_hand 8 = .ok (.iconst 0, 1) := by decide +kernel
theorem dX8_hand_9 : decode cX8_hand 9 = .ok (.bipush 99, 2) := by decide +kernel
theorem dX8_hand_11 : decode cX8_hand 11 = .ok (.invokestatic 125, 3) := by decide +kernel
theorem dX8_hand_14 : decode cX8_hand 14 = .ok (.ifCond .ne 5, 3) := by decide +kernel
theorem dX8_hand_17 : decode cX8_hand 17 = .ok (.iconst (-1), 1) := by decide +kernel
theorem dX8_hand_18 : decode cX8_hand 18 = .ok (.ireturn, 1) := by decide +kernel
theorem dX8_hand_19 : decode cX8_hand 19 = .ok (.aload_n 0, 1) := by decide +kernel
theorem dX8_hand_20 : decode cX8_hand 20 = .ok (.getfield 53, 3) := by decide +kernel
theorem dX8_hand_23 : decode cX8_hand 23 = .ok (.iload_n 1, 1) := by decide +kernel
theorem dX8_hand_24 : decode cX8_hand 24 = .ok (.iaload, 1) := by decide +kernel
theorem dX8_hand_25 : decode cX8_hand 25 = .ok (.istore_n 3, 1) := by decide +kernel
theorem dX8_hand_26 : decode cX8_hand 26 = .ok (.aload_n 0, 1) := by decide +kernel
theorem dX8_hand_27 : decode cX8_hand 27 = .ok (.getfield 53, 3) := by decide +kernel
theorem dX8_hand_30 : decode cX8_hand 30 = .ok (.iload_n 1, 1) := by decide +kernel
theorem dX8_hand_31 : decode cX8_hand 31 = .ok (.iload_n 2, 1) := by decide +kernel
theorem dX8_hand_32 : decode cX8_hand 32 = .ok (.iastore, 1) := by decide +kernel
theorem dX8_hand_33 : decode cX8_hand 33 = .ok (.iload_n 3, 1) := by decide +kernel
theorem dX8_hand_34 : decode cX8_hand 34 = .ok (.ireturn, 1) := by decide +kernel
set_option maxRecDepth 20000 in
theorem ggX8_test_X8_in : GoodIn wsX8_test wsX8_in := goodIn_r _ [11] (by decide +kernel) (by decide +kernel)
set_option maxRecDepth 20000 in
theorem gX8_test_X8_in : GoodIn wsX8_test (va_wsS RX8 125 yX8_in wsX8_in) := goodIn_app (goodIn_of _ (by decide +kernel)) ggX8_test_X8_in
theorem dX8_test_0 : decode cX8_test 0 = .ok (.iload_n 1, 1) := by decide +kernel
theorem dX8_test_1 : decode cX8_test 1 = .ok (.iconst 1, 1) := by decide +kernel
theorem dX8_test_2 : decode cX8_test 2 = .ok (.sipush 1000, 3) := by decide +kernel
theorem dX8_test_5 : decode cX8_test 5 = .ok (.invokestatic 125, 3) := by decide +kernel
theorem dX8_test_8 : decode cX8_test 8 = .ok (.ifCond .eq 28, 3) := by decide +kernel
theorem dX8_test_11 : decode cX8_test 11 = .ok (.iload_n 2, 1) := by decide +kernel
theorem dX8_test_12 : decode cX8_test 12 = .ok (.iconst 0, 1) := by decide +kernel
theorem dX8_test_13 : decode cX8_test 13 = .ok (.bipush 9, 2) := by decide +kernel
theorem dX8_test_15 : decode cX8_test 15 = .ok (.invokestatic 125, 3) := by decide +kernel
theorem dX8_test_18 : decode cX8_test 18 = .ok (.ifCond .eq 18, 3) := by decide +kernel
theorem dX8_test_21 : decode cX8_test 21 = .ok (.iload_n 3, 1) := by decide +kernel
theorem dX8_test_22 : decode cX8_test 22 = .ok (.bipush (-9), 2) := by decide +kernel
theorem dX8_test_24 : decode cX8_test 24 = .ok (.if_icmp .eq 14, 3) := by decide +kernel
theorem dX8_test_27 : decode cX8_test 27 = .ok (.iload_n 3, 1) := by decide +kernel
theorem dX8_test_28 : decode cX8_test 28 = .ok (.iconst 0, 1) := by decide +kernel
theorem dX8_test_29 : decode cX8_test 29 = .ok (.iconst 3, 1) := by decide +kernel
theorem dX8_test_30 : decode cX8_test 30 = .ok (.invokestatic 125, 3) := by decide +kernel
theorem dX8_test_33 : decode cX8_test 33 = .ok (.ifCond .ne 5, 3) := by decide +kernel
theorem dX8_test_36 : decode cX8_test 36 = .ok (.iconst (-1), 1) := by decide +kernel
theorem dX8_test_37 : decode cX8_test 37 = .ok (.ireturn, 1) := by decide +kernel
theorem dX8_test_38 : decode cX8_test 38 = .ok (.aload_n 0, 1) := by decide +kernel
theorem dX8_test_39 : decode cX8_test 39 = .ok (.getfield 198, 3) := by decide +kernel
theorem dX8_test_42 : decode cX8_test 42 = .ok (.bipush 10, 2) := by decide +kernel
theorem dX8_test_44 : decode cX8_test 44 = .ok (.if_icmp .ne 6, 3) := by decide +kernel
theorem dX8_test_47 : decode cX8_test 47 = .ok (.bipush (-2), 2) := by decide +kernel
theorem dX8_test_49 : decode cX8_test 49 = .ok (.ireturn, 1) := by decide +kernel
theorem dX8_test_50 : decode cX8_test 50 = .ok (.aload_n 0, 1) := by decide +kernel
theorem dX8_test_51 : decode cX8_test 51 = .ok (.getfield 56, 3) := by decide +kernel
theorem dX8_test_54 : decode cX8_test 54 = .ok (.aload_n 0, 1) := by decide +kernel
theorem dX8_test_55 : decode cX8_test 55 = .ok (.getfield 198, 3) := by decide +kernel
theorem dX8_test_58 : decode cX8_test 58 = .ok (.iload_n 1, 1) := by decide +kernel
theorem dX8_test_59 : decode cX8_test 59 = .ok (.iastore, 1) := by decide +kernel
theorem dX8_test_60 : decode cX8_test 60 = .ok (.aload_n 0, 1) := by decide +kernel
theorem dX8_test_61 : decode cX8_test 61 = .ok (.getfield 59, 3) := by decide +kernel
theorem dX8_test_64 : decode cX8_test 64 = .ok (.aload_n 0, 1) := by decide +kernel
theorem dX8_test_65 : decode cX8_test 65 = .ok (.getfield 198, 3) := by decide +kernel
theorem dX8_test_68 : decode cX8_test 68 = .ok (.iload_n 2, 1) := by decide +kernel
theorem dX8_test_69 : decode cX8_test 69 = .ok (.iastore, 1) := by decide +kernel
theorem dX8_test_70 : decode cX8_test 70 = .ok (.aload_n 0, 1) := by decide +kernel
theorem dX8_test_71 : decode cX8_test 71 = .ok (.getfield 62, 3) := by decide +kernel
theorem dX8_test_74 : decode cX8_test 74 = .ok (.aload_n 0, 1) := by decide +kernel
theorem dX8_test_75 : decode cX8_test 75 = .ok (.getfield 198, 3) := by decide +kernel
theorem dX8_test_78 : decode cX8_test 78 = .ok (.iload_n 3, 1) := by decide +kernel
theorem dX8_test_79 : decode cX8_test 79 = .ok (.iastore, 1) := by decide +kernel
theorem dX8_test_80 : decode cX8_test 80 = .ok (.aload_n 0, 1) := by decide +kernel
theorem dX8_test_81 : decode cX8_test 81 = .ok (.getfield 68, 3) := by decide +kernel
theorem dX8_test_84 : decode cX8_test 84 = .ok (.aload_n 0, 1) := by decide +kernel
theorem dX8_test_85 : decode cX8_test 85 = .ok (.getfield 198, 3) := by decide +kernel
theorem dX8_test_88 : decode cX8_test 88 = .ok (.bipush (-9), 2) := by decide +kernel
theorem dX8_test_90 : decode cX8_test 90 = .ok (.iastore, 1) := by decide +kernel
theorem dX8_test_91 : decode cX8_test 91 = .ok (.aload_n 0, 1) := by decide +kernel
theorem dX8_test_92 : decode cX8_test 92 = .ok (.getfield 71, 3) := by decide +kernel
theorem dX8_test_95 : decode cX8_test 95 = .ok (.aload_n 0, 1) := by decide +kernel
theorem dX8_test_96 : decode cX8_test 96 = .ok (.getfield 198, 3) := by decide +kernel
theorem dX8_test_99 : decode cX8_test 99 = .ok (.iconst 0, 1) := by decide +kernel
theorem dX8_test_100 : decode cX8_test 100 = .ok (.bastore, 1) := by decide +kernel
theorem dX8_test_101 : decode cX8_test 101 = .ok (.iconst 0, 1) := by decide +kernel
theorem dX8_test_102 : decode cX8_test 102 = .ok (.istore 4, 2) := by decide +kernel
theorem dX8_test_104 : decode cX8_test 104 = .ok (.iload 4, 2) := by decide +kernel
theorem dX8_test_106 : decode cX8_test 106 = .ok (.iconst 4, 1) := by decide +kernel
theorem dX8_test_107 : decode cX8_test 107 = .ok (.if_icmp .ge 25, 3) := by decide +kernel
theorem dX8_test_110 : decode cX8_test 110 = .ok (.aload_n 0, 1) := by decide +kernel
theorem dX8_test_111 : decode cX8_test 111 = .ok (.getfield 65, 3) := by decide +kernel
theorem dX8_test_114 : decode cX8_test 114 = .ok (.iconst 4, 1) := by decide +kernel
theorem dX8_test_115 : decode cX8_test 115 = .ok (.aload_n 0, 1) := by decide +kernel
theorem dX8_test_116 : decode cX8_test 116 = .ok (.getfield 198, 3) := by decide +kernel
theorem dX8_test_119 : decode cX8_test 119 = .ok (.imul, 1) := by decide +kernel
theorem dX8_test_120 : decode cX8_test 120 = .ok (.iload 4, 2) := by decide +kernel
theorem dX8_test_122 : decode cX8_test 122 = .ok (.iadd, 1) := by decide +kernel
theorem dX8_test_123 : decode cX8_test 123 = .ok (.bipush 8, 2) := by decide +kernel
theorem dX8_test_125 : decode cX8_test 125 = .ok (.iastore, 1) := by decide +kernel
theorem dX8_test_126 : decode cX8_test 126 = .ok (.iinc 4 1, 3) := by decide +kernel
theorem dX8_test_129 : decode cX8_test 129 = .ok (.goto (-25), 3) := by decide +kernel
theorem dX8_test_132 : decode cX8_test 132 = .ok (.aload_n 0, 1) := by decide +kernel
theorem dX8_test_133 : decode cX8_test 133 = .ok (.dup, 1) := by decide +kernel
theorem dX8_test_134 : decode cX8_test 134 = .ok (.getfield 198, 3) := by decide +kernel
theorem dX8_test_137 : decode cX8_test 137 = .ok (.iconst 1, 1) := by decide +kernel
theorem dX8_test_138 : decode cX8_test 138 = .ok (.iadd, 1) := by decide +kernel
theorem dX8_test_139 : decode cX8_test 139 = .ok (.putfield 198, 3) := by decide +kernel
theorem dX8_test_142 : decode cX8_test 142 = .ok (.aload_n 0, 1) := by decide +kernel
theorem dX8_test_143 : decode cX8_test 143 = .ok (.getfield 198, 3) := by decide +kernel
theorem dX8_test_146 : decode cX8_test 146 = .ok (.iconst 1, 1) := by decide +kernel
theorem dX8_test_147 : decode cX8_test 147 = .ok (.isub, 1) := by decide +kernel
theorem dX8_test_148 : decode cX8_test 148 = .ok (.ireturn, 1) := by decide +kernel
set_option maxRecDepth 20000 in
theorem ggX8_often_X8_isTest : GoodIn wsX8_often wsX8_isTest := goodIn_r _ [7, 8, 9, 10, 6, 11, 15, 16, 17, 18, 19, 20, 21, 22, 23, 24, 25, 26, 27, 28, 29, 30, 31, 32, 33, 34, 35, 36, 37, 38, 39, 40, 41, 42, 43, 44, 45, 46, 47, 48, 49, 50, 51, 52, 53, 54, 55, 56, 57, 58, 59, 60, 61] (by decide +kernel) (by decide +kernel)
set_option maxRecDepth 20000 in
theorem gX8_often_X8_isTest : GoodIn wsX8_often (wsV RX8 204 RX8 yX8_isTest wsX8_isTest) := goodIn_app (goodIn_of _ (by decide +kernel)) ggX8_often_X8_isTest
set_option maxRecDepth 20000 in
theorem ggX8_often_X8_isHand : GoodIn wsX8_often wsX8_isHand := goodIn_r _ [14, 9, 10, 6, 11] (by decide +kernel) (by decide +kernel)
set_option maxRecDepth 20000 in
theorem gX8_often_X8_isHand : GoodIn wsX8_often (va_wsS RX8 201 yX8_isHand wsX8_isHand) := goodIn_app (goodIn_of _ (by decide +kernel)) ggX8_often_X8_isHand
set_option maxRecDepth 20000 in
theorem ggX8_often_X8_in : GoodIn wsX8_often wsX8_in := goodIn_r _ [11] (by decide +kernel) (by decide +kernel)
set_option maxRecDepth 20000 in
theorem gX8_often_X8_in : GoodIn wsX8_often (va_wsS RX8 125 yX8_in wsX8_in) := goodIn_app (goodIn_of _ (by decide +kernel)) ggX8_often_X8_in
theorem dX8_often_0 : decode cX8_often 0 = .ok (.aload_n 0, 1) := by decide +kernel
theorem dX8_often_1 : decode cX8_often 1 = .ok (.iload_n 1, 1) := by decide +kernel
theorem dX8_often_2 : decode cX8_often 2 = .ok (.invokevirtual 204, 3) := by decide +kernel
theorem dX8_often_5 : decode cX8_often 5 = .ok (.ifCond .eq 20, 3) := by decide +kernel
theorem dX8_often_8 : decode cX8_often 8 = .ok (.iload_n 2, 1) := by decide +kernel
theorem dX8_often_9 : decode cX8_often 9 = .ok (.invokestatic 201, 3) := by decide +kernel
theorem dX8_often_12 : decode cX8_often 12 = .ok (.ifCond .eq 13, 3) := by decide +kernel
theorem dX8_often_15 : decode cX8_often 15 = .ok (.iload_n 3, 1) := by decide +kernel
theorem dX8_often_16 : decode cX8_often 16 = .ok (.iconst 0, 1) := by decide +kernel
