theorem dX8_law_11 : decode cX8_law 11 = .ok (.ifCond .eq 24, 3) := by decide +kernel
theorem dX8_law_14 : decode cX8_law 14 = .ok (.iload_n 3, 1) := by decide +kernel
theorem dX8_law_15 : decode cX8_law 15 = .ok (.iconst 0, 1) := by decide +kernel
theorem dX8_law_16 : decode cX8_law 16 = .ok (.bipush 100, 2) := by decide +kernel
theorem dX8_law_18 : decode cX8_law 18 = .ok (.invokestatic 125, 3) := by decide +kernel
theorem dX8_law_21 : decode cX8_law 21 = .ok (.ifCond .eq 14, 3) := by decide +kernel
theorem dX8_law_24 : decode cX8_law 24 = .ok (.iload 4, 2) := by decide +kernel
theorem dX8_law_26 : decode cX8_law 26 = .ok (.iconst 0, 1) := by decide +kernel
theorem dX8_law_27 : decode cX8_law 27 = .ok (.bipush 100, 2) := by decide +kernel
theorem dX8_law_29 : decode cX8_law 29 = .ok (.invokestatic 125, 3) := by decide +kernel
theorem dX8_law_32 : decode cX8_law 32 = .ok (.ifCond .ne 5, 3) := by decide +kernel
theorem dX8_law_35 : decode cX8_law 35 = .ok (.iconst (-1), 1) := by decide +kernel
theorem dX8_law_36 : decode cX8_law 36 = .ok (.ireturn, 1) := by decide +kernel
theorem dX8_law_37 : decode cX8_law 37 = .ok (.aload_n 0, 1) := by decide +kernel
theorem dX8_law_38 : decode cX8_law 38 = .ok (.getfield 243, 3) := by decide +kernel
theorem dX8_law_41 : decode cX8_law 41 = .ok (.bipush 8, 2) := by decide +kernel
theorem dX8_law_43 : decode cX8_law 43 = .ok (.if_icmp .ne 6, 3) := by decide +kernel
theorem dX8_law_46 : decode cX8_law 46 = .ok (.bipush (-2), 2) := by decide +kernel
theorem dX8_law_48 : decode cX8_law 48 = .ok (.ireturn, 1) := by decide +kernel
theorem dX8_law_49 : decode cX8_law 49 = .ok (.aload_n 0, 1) := by decide +kernel
theorem dX8_law_50 : decode cX8_law 50 = .ok (.getfield 93, 3) := by decide +kernel
theorem dX8_law_53 : decode cX8_law 53 = .ok (.aload_n 0, 1) := by decide +kernel
theorem dX8_law_54 : decode cX8_law 54 = .ok (.getfield 243, 3) := by decide +kernel
theorem dX8_law_57 : decode cX8_law 57 = .ok (.iload_n 1, 1) := by decide +kernel
theorem dX8_law_58 : decode cX8_law 58 = .ok (.iastore, 1) := by decide +kernel
theorem dX8_law_59 : decode cX8_law 59 = .ok (.aload_n 0, 1) := by decide +kernel
theorem dX8_law_60 : decode cX8_law 60 = .ok (.getfield 96, 3) := by decide +kernel
theorem dX8_law_63 : decode cX8_law 63 = .ok (.aload_n 0, 1) := by decide +kernel
theorem dX8_law_64 : decode cX8_law 64 = .ok (.getfield 243, 3) := by decide +kernel
theorem dX8_law_67 : decode cX8_law 67 = .ok (.iload_n 2, 1) := by decide +kernel
theorem dX8_law_68 : decode cX8_law 68 = .ok (.iastore, 1) := by decide +kernel
theorem dX8_law_69 : decode cX8_law 69 = .ok (.aload_n 0, 1) := by decide +kernel
theorem dX8_law_70 : decode cX8_law 70 = .ok (.getfield 99, 3) := by decide +kernel
theorem dX8_law_73 : decode cX8_law 73 = .ok (.aload_n 0, 1) := by decide +kernel
theorem dX8_law_74 : decode cX8_law 74 = .ok (.getfield 243, 3) := by decide +kernel
theorem dX8_law_77 : decode cX8_law 77 = .ok (.iload_n 3, 1) := by decide +kernel
theorem dX8_law_78 : decode cX8_law 78 = .ok (.iastore, 1) := by decide +kernel
theorem dX8_law_79 : decode cX8_law 79 = .ok (.aload_n 0, 1) := by decide +kernel
theorem dX8_law_80 : decode cX8_law 80 = .ok (.getfield 102, 3) := by decide +kernel
theorem dX8_law_83 : decode cX8_law 83 = .ok (.aload_n 0, 1) := by decide +kernel
theorem dX8_law_84 : decode cX8_law 84 = .ok (.getfield 243, 3) := by decide +kernel
theorem dX8_law_87 : decode cX8_law 87 = .ok (.iload 4, 2) := by decide +kernel
theorem dX8_law_89 : decode cX8_law 89 = .ok (.iastore, 1) := by decide +kernel
theorem dX8_law_90 : decode cX8_law 90 = .ok (.aload_n 0, 1) := by decide +kernel
theorem dX8_law_91 : decode cX8_law 91 = .ok (.dup, 1) := by decide +kernel
theorem dX8_law_92 : decode cX8_law 92 = .ok (.getfield 243, 3) := by decide +kernel
theorem dX8_law_95 : decode cX8_law 95 = .ok (.iconst 1, 1) := by decide +kernel
theorem dX8_law_96 : decode cX8_law 96 = .ok (.iadd, 1) := by decide +kernel
theorem dX8_law_97 : decode cX8_law 97 = .ok (.putfield 243, 3) := by decide +kernel
theorem dX8_law_100 : decode cX8_law 100 = .ok (.aload_n 0, 1) := by decide +kernel
theorem dX8_law_101 : decode cX8_law 101 = .ok (.getfield 243, 3) := by decide +kernel
theorem dX8_law_104 : decode cX8_law 104 = .ok (.iconst 1, 1) := by decide +kernel
theorem dX8_law_105 : decode cX8_law 105 = .ok (.isub, 1) := by decide +kernel
theorem dX8_law_106 : decode cX8_law 106 = .ok (.ireturn, 1) := by decide +kernel
set_option maxRecDepth 20000 in
theorem ggX8_claim_X8_allScores : GoodIn wsX8_claim wsX8_allScores := goodIn_r _ [16, 17, 18, 19, 15, 20, 21, 22, 23, 24, 25, 37, 38, 39, 40, 41, 42, 43, 44, 45, 46, 47, 48, 49, 50, 51, 52, 53, 54, 55, 56, 57, 58, 59, 60, 61, 62, 63, 64, 65, 66, 67, 68, 69, 70, 71, 72, 73, 74, 75, 76, 77, 78, 79, 80, 81, 82, 83] (by decide +kernel) (by decide +kernel)
set_option maxRecDepth 20000 in
theorem gX8_claim_X8_allScores : GoodIn wsX8_claim (wsV RX8 214 RX8 yX8_allScores wsX8_allScores) := goodIn_app (goodIn_of _ (by decide +kernel)) ggX8_claim_X8_allScores
set_option maxRecDepth 20000 in
theorem ggX8_claim_X8_meets : GoodIn wsX8_claim wsX8_meets := goodIn_r _ [29, 30, 31, 37, 38, 39, 40, 41, 42, 43, 44, 45, 46, 47, 48, 49, 50, 51, 52, 53, 54, 55, 56, 57, 58, 59, 60, 61, 62, 63, 64, 65, 66, 67, 68, 69, 70, 71, 72, 73, 74, 75, 76, 77, 78, 79, 80, 81, 82, 83] (by decide +kernel) (by decide +kernel)
set_option maxRecDepth 20000 in
theorem gX8_claim_X8_meets : GoodIn wsX8_claim (wsV RX8 142 RX8 yX8_meets wsX8_meets) := goodIn_app (goodIn_of _ (by decide +kernel)) ggX8_claim_X8_meets
set_option maxRecDepth 20000 in
theorem ggX8_claim_X8_scoreOf : GoodIn wsX8_claim wsX8_scoreOf := goodIn_r _ [20, 21, 22, 23, 24, 25, 37, 38, 39, 40, 41, 42, 43, 44, 45, 46, 47, 48, 49, 50, 51, 52, 53, 54, 55, 56, 57, 58, 59, 60, 61, 62, 63, 64, 65, 66, 67, 68, 69, 70, 71, 72, 73, 74, 75, 76, 77, 78, 79, 80, 81, 82, 83] (by decide +kernel) (by decide +kernel)
set_option maxRecDepth 20000 in
theorem gX8_claim_X8_scoreOf : GoodIn wsX8_claim (wsV RX8 210 RX8 yX8_scoreOf wsX8_scoreOf) := goodIn_app (goodIn_of _ (by decide +kernel)) ggX8_claim_X8_scoreOf
set_option maxRecDepth 20000 in
theorem ggX8_claim_X8_tells : GoodIn wsX8_claim wsX8_tells := goodIn_r _ [35, 36, 37, 38, 39, 40, 41, 42, 43, 44, 45, 46, 47, 48, 49, 50, 51, 52, 53, 54, 55, 56, 57, 58, 59, 60, 61, 62, 63, 64, 65, 66, 67, 68, 69, 70, 71, 72, 73, 74, 75, 76, 77, 78, 79, 80, 81, 82, 83] (by decide +kernel) (by decide +kernel)
set_option maxRecDepth 20000 in
theorem gX8_claim_X8_tells : GoodIn wsX8_claim (wsV RX8 158 RX8 yX8_tells wsX8_tells) := goodIn_app (goodIn_of _ (by decide +kernel)) ggX8_claim_X8_tells
theorem dX8_claim_0 : decode cX8_claim 0 = .ok (.bipush (-9), 2) := by decide +kernel
theorem dX8_claim_2 : decode cX8_claim 2 = .ok (.istore_n 1, 1) := by decide +kernel
theorem dX8_claim_3 : decode cX8_claim 3 = .ok (.iconst 0, 1) := by decide +kernel
theorem dX8_claim_4 : decode cX8_claim 4 = .ok (.istore_n 2, 1) := by decide +kernel
theorem dX8_claim_5 : decode cX8_claim 5 = .ok (.iload_n 2, 1) := by decide +kernel
theorem dX8_claim_6 : decode cX8_claim 6 = .ok (.aload_n 0, 1) := by decide +kernel
theorem dX8_claim_7 : decode cX8_claim 7 = .ok (.getfield 243, 3) := by decide +kernel
theorem dX8_claim_10 : decode cX8_claim 10 = .ok (.if_icmp .ge 58, 3) := by decide +kernel
theorem dX8_claim_13 : decode cX8_claim 13 = .ok (.aload_n 0, 1) := by decide +kernel
theorem dX8_claim_14 : decode cX8_claim 14 = .ok (.getfield 119, 3) := by decide +kernel
theorem dX8_claim_17 : decode cX8_claim 17 = .ok (.bipush (-9), 2) := by decide +kernel
theorem dX8_claim_19 : decode cX8_claim 19 = .ok (.if_icmp .eq 49, 3) := by decide +kernel
theorem dX8_claim_22 : decode cX8_claim 22 = .ok (.aload_n 0, 1) := by decide +kernel
theorem dX8_claim_23 : decode cX8_claim 23 = .ok (.getfield 93, 3) := by decide +kernel
theorem dX8_claim_26 : decode cX8_claim 26 = .ok (.iload_n 2, 1) := by decide +kernel
theorem dX8_claim_27 : decode cX8_claim 27 = .ok (.iaload, 1) := by decide +kernel
theorem dX8_claim_28 : decode cX8_claim 28 = .ok (.aload_n 0, 1) := by decide +kernel
theorem dX8_claim_29 : decode cX8_claim 29 = .ok (.getfield 119, 3) := by decide +kernel
theorem dX8_claim_32 : decode cX8_claim 32 = .ok (.if_icmp .gt 28, 3) := by decide +kernel
theorem dX8_claim_35 : decode cX8_claim 35 = .ok (.iload_n 1, 1) := by decide +kernel
theorem dX8_claim_36 : decode cX8_claim 36 = .ok (.bipush (-9), 2) := by decide +kernel
theorem dX8_claim_38 : decode cX8_claim 38 = .ok (.if_icmp .eq 18, 3) := by decide +kernel
theorem dX8_claim_41 : decode cX8_claim 41 = .ok (.aload_n 0, 1) := by decide +kernel
theorem dX8_claim_42 : decode cX8_claim 42 = .ok (.getfield 93, 3) := by decide +kernel
theorem dX8_claim_45 : decode cX8_claim 45 = .ok (.iload_n 2, 1) := by decide +kernel
theorem dX8_claim_46 : decode cX8_claim 46 = .ok (.iaload, 1) := by decide +kernel
theorem dX8_claim_47 : decode cX8_claim 47 = .ok (.aload_n 0, 1) := by decide +kernel
theorem dX8_claim_48 : decode cX8_claim 48 = .ok (.getfield 93, 3) := by decide +kernel
theorem dX8_claim_51 : decode cX8_claim 51 = .ok (.iload_n 1, 1) := by decide +kernel
theorem dX8_claim_52 : decode cX8_claim 52 = .ok (.iaload, 1) := by decide +kernel
theorem dX8_claim_53 : decode cX8_claim 53 = .ok (.if_icmp .lt 7, 3) := by decide +kernel
theorem dX8_claim_56 : decode cX8_claim 56 = .ok (.iload_n 2, 1) := by decide +kernel
theorem dX8_claim_57 : decode cX8_claim 57 = .ok (.goto 4, 3) := by decide +kernel
theorem dX8_claim_60 : decode cX8_claim 60 = .ok (.iload_n 1, 1) := by decide +kernel
theorem dX8_claim_61 : decode cX8_claim 61 = .ok (.istore_n 1, 1) := by decide +kernel
theorem dX8_claim_62 : decode cX8_claim 62 = .ok (.iinc 2 1, 3) := by decide +kernel
theorem dX8_claim_65 : decode cX8_claim 65 = .ok (.goto (-60), 3) := by decide +kernel
theorem dX8_claim_68 : decode cX8_claim 68 = .ok (.iload_n 1, 1) := by decide +kernel
theorem dX8_claim_69 : decode cX8_claim 69 = .ok (.bipush (-9), 2) := by decide +kernel
theorem dX8_claim_71 : decode cX8_claim 71 = .ok (.if_icmp .ne 6, 3) := by decide +kernel
theorem dX8_claim_74 : decode cX8_claim 74 = .ok (.bipush (-4), 2) := by decide +kernel
theorem dX8_claim_76 : decode cX8_claim 76 = .ok (.ireturn, 1) := by decide +kernel
theorem dX8_claim_77 : decode cX8_claim 77 = .ok (.aload_n 0, 1) := by decide +kernel
theorem dX8_claim_78 : decode cX8_claim 78 = .ok (.invokevirtual 214, 3) := by decide +kernel
theorem dX8_claim_81 : decode cX8_claim 81 = .ok (.lconst 0, 1) := by decide +kernel
theorem dX8_claim_82 : decode cX8_claim 82 = .ok (.lcmp, 1) := by decide +kernel
theorem dX8_claim_83 : decode cX8_claim 83 = .ok (.ifCond .ne 9, 3) := by decide +kernel
theorem dX8_claim_86 : decode cX8_claim 86 = .ok (.aload_n 0, 1) := by decide +kernel
theorem dX8_claim_87 : decode cX8_claim 87 = .ok (.iconst 4, 1) := by decide +kernel
theorem dX8_claim_88 : decode cX8_claim 88 = .ok (.invokevirtual 142, 3) := by decide +kernel
theorem dX8_claim_91 : decode cX8_claim 91 = .ok (.ireturn, 1) := by decide +kernel
theorem dX8_claim_92 : decode cX8_claim 92 = .ok (.aload_n 0, 1) := by decide +kernel
theorem dX8_claim_93 : decode cX8_claim 93 = .ok (.getfield 135, 3) := by decide +kernel
theorem dX8_claim_96 : decode cX8_claim 96 = .ok (.aload_n 0, 1) := by decide +kernel
theorem dX8_claim_97 : decode cX8_claim 97 = .ok (.getfield 119, 3) := by decide +kernel
theorem dX8_claim_100 : decode cX8_claim 100 = .ok (.isub, 1) := by decide +kernel
theorem dX8_claim_101 : decode cX8_claim 101 = .ok (.istore_n 2, 1) := by decide +kernel
theorem dX8_claim_102 : decode cX8_claim 102 = .ok (.iload_n 2, 1) := by decide +kernel
theorem dX8_claim_103 : decode cX8_claim 103 = .ok (.aload_n 0, 1) := by decide +kernel
theorem dX8_claim_104 : decode cX8_claim 104 = .ok (.getfield 96, 3) := by decide +kernel
theorem dX8_claim_107 : decode cX8_claim 107 = .ok (.iload_n 1, 1) := by decide +kernel
theorem dX8_claim_108 : decode cX8_claim 108 = .ok (.iaload, 1) := by decide +kernel
theorem dX8_claim_109 : decode cX8_claim 109 = .ok (.if_icmp .le 5, 3) := by decide +kernel
theorem dX8_claim_112 : decode cX8_claim 112 = .ok (.iconst 2, 1) := by decide +kernel
theorem dX8_claim_113 : decode cX8_claim 113 = .ok (.ireturn, 1) := by decide +kernel
theorem dX8_claim_114 : decode cX8_claim 114 = .ok (.aload_n 0, 1) := by decide +kernel
theorem dX8_claim_115 : decode cX8_claim 115 = .ok (.aload_n 0, 1) := by decide +kernel
theorem dX8_claim_116 : decode cX8_claim 116 = .ok (.getfield 240, 3) := by decide +kernel
theorem dX8_claim_119 : decode cX8_claim 119 = .ok (.invokevirtual 210, 3) := by decide +kernel
theorem dX8_claim_122 : decode cX8_claim 122 = .ok (.ldc2_w 246, 3) := by decide +kernel
theorem dX8_claim_125 : decode cX8_claim 125 = .ok (.lmul, 1) := by decide +kernel
theorem dX8_claim_126 : decode cX8_claim 126 = .ok (.aload_n 0, 1) := by decide +kernel
theorem dX8_claim_127 : decode cX8_claim 127 = .ok (.getfield 99, 3) := by decide +kernel
theorem dX8_claim_130 : decode cX8_claim 130 = .ok (.iload_n 1, 1) := by decide +kernel
theorem dX8_claim_131 : decode cX8_claim 131 = .ok (.iaload, 1) := by decide +kernel
theorem dX8_claim_132 : decode cX8_claim 132 = .ok (.i2l, 1) := by decide +kernel
theorem dX8_claim_133 : decode cX8_claim 133 = .ok (.aload_n 0, 1) := by decide +kernel
theorem dX8_claim_134 : decode cX8_claim 134 = .ok (.invokevirtual 214, 3) := by decide +kernel
theorem dX8_claim_137 : decode cX8_claim 137 = .ok (.lmul, 1) := by decide +kernel
theorem dX8_claim_138 : decode cX8_claim 138 = .ok (.lcmp, 1) := by decide +kernel
theorem dX8_claim_139 : decode cX8_claim 139 = .ok (.ifCond .lt 5, 3) := by decide +kernel
theorem dX8_claim_142 : decode cX8_claim 142 = .ok (.iconst 3, 1) := by decide +kernel
theorem dX8_claim_143 : decode cX8_claim 143 = .ok (.ireturn, 1) := by decide +kernel
theorem dX8_claim_144 : decode cX8_claim 144 = .ok (.aload_n 0, 1) := by decide +kernel
theorem dX8_claim_145 : decode cX8_claim 145 = .ok (.getfield 237, 3) := by decide +kernel
theorem dX8_claim_148 : decode cX8_claim 148 = .ok (.i2l, 1) := by decide +kernel
theorem dX8_claim_149 : decode cX8_claim 149 = .ok (.aload_n 0, 1) := by decide +kernel
theorem dX8_claim_150 : decode cX8_claim 150 = .ok (.getfield 102, 3) := by decide +kernel
theorem dX8_claim_153 : decode cX8_claim 153 = .ok (.iload_n 1, 1) := by decide +kernel
theorem dX8_claim_154 : decode cX8_claim 154 = .ok (.iaload, 1) := by decide +kernel
theorem dX8_claim_155 : decode cX8_claim 155 = .ok (.i2l, 1) := by decide +kernel
theorem dX8_claim_156 : decode cX8_claim 156 = .ok (.lmul, 1) := by decide +kernel
theorem dX8_claim_157 : decode cX8_claim 157 = .ok (.iload_n 2, 1) := by decide +kernel
theorem dX8_claim_158 : decode cX8_claim 158 = .ok (.i2l, 1) := by decide +kernel
theorem dX8_claim_159 : decode cX8_claim 159 = .ok (.lmul, 1) := by decide +kernel
theorem dX8_claim_160 : decode cX8_claim 160 = .ok (.ldc2_w 248, 3) := by decide +kernel
theorem dX8_claim_163 : decode cX8_claim 163 = .ok (.ldiv, 1) := by decide +kernel
theorem dX8_claim_164 : decode cX8_claim 164 = .ok (.lstore_n 3, 1) := by decide +kernel
theorem dX8_claim_165 : decode cX8_claim 165 = .ok (.aload_n 0, 1) := by decide +kernel
theorem dX8_claim_166 : decode cX8_claim 166 = .ok (.aload_n 0, 1) := by decide +kernel
theorem dX8_claim_167 : decode cX8_claim 167 = .ok (.getfield 237, 3) := by decide +kernel
theorem dX8_claim_170 : decode cX8_claim 170 = .ok (.i2l, 1) := by decide +kernel
theorem dX8_claim_171 : decode cX8_claim 171 = .ok (.lload_n 3, 1) := by decide +kernel
theorem dX8_claim_172 : decode cX8_claim 172 = .ok (.ladd, 1) := by decide +kernel
theorem dX8_claim_173 : decode cX8_claim 173 = .ok (.l2i, 1) := by decide +kernel
theorem dX8_claim_174 : decode cX8_claim 174 = .ok (.iconst 1, 1) := by decide +kernel
theorem dX8_claim_175 : decode cX8_claim 175 = .ok (.invokevirtual 158, 3) := by decide +kernel
theorem dX8_claim_178 : decode cX8_claim 178 = .ok (.ireturn, 1) := by decide +kernel
theorem dX8_tellsCount_0 : decode cX8_tellsCount 0 = .ok (.iconst 0, 1) := by decide +kernel
theorem dX8_tellsCount_1 : decode cX8_tellsCount 1 = .ok (.istore_n 2, 1) := by decide +kernel
theorem dX8_tellsCount_2 : decode cX8_tellsCount 2 = .ok (.iload_n 1, 1) := by decide +kernel
theorem dX8_tellsCount_3 : decode cX8_tellsCount 3 = .ok (.tableswitch 140 0 6 #[41, 46, 51, 88, 93, 130, 135], 41) := by decide +kernel
theorem dX8_tellsCount_44 : decode cX8_tellsCount 44 = .ok (.aload_n 0, 1) := by decide +kernel
theorem dX8_tellsCount_45 : decode cX8_tellsCount 45 = .ok (.getfield 135, 3) := by decide +kernel
theorem dX8_tellsCount_48 : decode cX8_tellsCount 48 = .ok (.ireturn, 1) := by decide +kernel
theorem dX8_tellsCount_49 : decode cX8_tellsCount 49 = .ok (.aload_n 0, 1) := by decide +kernel
theorem dX8_tellsCount_50 : decode cX8_tellsCount 50 = .ok (.getfield 167, 3) := by decide +kernel
theorem dX8_tellsCount_53 : decode cX8_tellsCount 53 = .ok (.ireturn, 1) := by decide +kernel
theorem dX8_tellsCount_54 : decode cX8_tellsCount 54 = .ok (.iconst 0, 1) := by decide +kernel
theorem dX8_tellsCount_55 : decode cX8_tellsCount 55 = .ok (.istore_n 3, 1) := by decide +kernel
theorem dX8_tellsCount_56 : decode cX8_tellsCount 56 = .ok (.iload_n 3, 1) := by decide +kernel
theorem dX8_tellsCount_57 : decode cX8_tellsCount 57 = .ok (.aload_n 0, 1) := by decide +kernel
theorem dX8_tellsCount_58 : decode cX8_tellsCount 58 = .ok (.getfield 167, 3) := by decide +kernel
theorem dX8_tellsCount_61 : decode cX8_tellsCount 61 = .ok (.if_icmp .ge 28, 3) := by decide +kernel
theorem dX8_tellsCount_64 : decode cX8_tellsCount 64 = .ok (.iload_n 2, 1) := by decide +kernel
theorem dX8_tellsCount_65 : decode cX8_tellsCount 65 = .ok (.aload_n 0, 1) := by decide +kernel
theorem dX8_tellsCount_66 : decode cX8_tellsCount 66 = .ok (.getfield 35, 3) := by decide +kernel
theorem dX8_tellsCount_69 : decode cX8_tellsCount 69 = .ok (.iload_n 3, 1) := by decide +kernel
theorem dX8_tellsCount_70 : decode cX8_tellsCount 70 = .ok (.iaload, 1) := by decide +kernel
theorem dX8_tellsCount_71 : decode cX8_tellsCount 71 = .ok (.bipush (-9), 2) := by decide +kernel
theorem dX8_tellsCount_73 : decode cX8_tellsCount 73 = .ok (.if_icmp .ne 7, 3) := by decide +kernel
theorem dX8_tellsCount_76 : decode cX8_tellsCount 76 = .ok (.iconst 1, 1) := by decide +kernel
theorem dX8_tellsCount_77 : decode cX8_tellsCount 77 = .ok (.goto 4, 3) := by decide +kernel
theorem dX8_tellsCount_80 : decode cX8_tellsCount 80 = .ok (.iconst 0, 1) := by decide +kernel
theorem dX8_tellsCount_81 : decode cX8_tellsCount 81 = .ok (.iadd, 1) := by decide +kernel
theorem dX8_tellsCount_82 : decode cX8_tellsCount 82 = .ok (.istore_n 2, 1) := by decide +kernel
theorem dX8_tellsCount_83 : decode cX8_tellsCount 83 = .ok (.iinc 3 1, 3) := by decide +kernel
theorem dX8_tellsCount_86 : decode cX8_tellsCount 86 = .ok (.goto (-30), 3) := by decide +kernel
theorem dX8_tellsCount_89 : decode cX8_tellsCount 89 = .ok (.iload_n 2, 1) := by decide +kernel
theorem dX8_tellsCount_90 : decode cX8_tellsCount 90 = .ok (.ireturn, 1) := by decide +kernel
theorem dX8_tellsCount_91 : decode cX8_tellsCount 91 = .ok (.aload_n 0, 1) := by decide +kernel
theorem dX8_tellsCount_92 : decode cX8_tellsCount 92 = .ok (.getfield 198, 3) := by decide +kernel
theorem dX8_tellsCount_95 : decode cX8_tellsCount 95 = .ok (.ireturn, 1) := by decide +kernel
theorem dX8_tellsCount_96 : decode cX8_tellsCount 96 = .ok (.iconst 0, 1) := by decide +kernel
theorem dX8_tellsCount_97 : decode cX8_tellsCount 97 = .ok (.istore_n 3, 1) := by decide +kernel
theorem dX8_tellsCount_98 : decode cX8_tellsCount 98 = .ok (.iload_n 3, 1) := by decide +kernel
theorem dX8_tellsCount_99 : decode cX8_tellsCount 99 = .ok (.aload_n 0, 1) := by decide +kernel
theorem dX8_tellsCount_100 : decode cX8_tellsCount 100 = .ok (.getfield 198, 3) := by decide +kernel
theorem dX8_tellsCount_103 : decode cX8_tellsCount 103 = .ok (.if_icmp .ge 28, 3) := by decide +kernel
theorem dX8_tellsCount_106 : decode cX8_tellsCount 106 = .ok (.iload_n 2, 1) := by decide +kernel
theorem dX8_tellsCount_107 : decode cX8_tellsCount 107 = .ok (.aload_n 0, 1) := by decide +kernel
theorem dX8_tellsCount_108 : decode cX8_tellsCount 108 = .ok (.getfield 68, 3) := by decide +kernel
theorem dX8_tellsCount_111 : decode cX8_tellsCount 111 = .ok (.iload_n 3, 1) := by decide +kernel
theorem dX8_tellsCount_112 : decode cX8_tellsCount 112 = .ok (.iaload, 1) := by decide +kernel
theorem dX8_tellsCount_113 : decode cX8_tellsCount 113 = .ok (.bipush (-9), 2) := by decide +kernel
theorem dX8_tellsCount_115 : decode cX8_tellsCount 115 = .ok (.if_icmp .ne 7, 3) := by decide +kernel
theorem dX8_tellsCount_118 : decode cX8_tellsCount 118 = .ok (.iconst 0, 1) := by decide +kernel
theorem dX8_tellsCount_119 : decode cX8_tellsCount 119 = .ok (.goto 4, 3) := by decide +kernel
theorem dX8_tellsCount_122 : decode cX8_tellsCount 122 = .ok (.iconst 1, 1) := by decide +kernel
theorem dX8_tellsCount_123 : decode cX8_tellsCount 123 = .ok (.iadd, 1) := by decide +kernel
theorem dX8_tellsCount_124 : decode cX8_tellsCount 124 = .ok (.istore_n 2, 1) := by decide +kernel
theorem dX8_tellsCount_125 : decode cX8_tellsCount 125 = .ok (.iinc 3 1, 3) := by decide +kernel
theorem dX8_tellsCount_128 : decode cX8_tellsCount 128 = .ok (.goto (-30), 3) := by decide +kernel
theorem dX8_tellsCount_131 : decode cX8_tellsCount 131 = .ok (.iload_n 2, 1) := by decide +kernel
theorem dX8_tellsCount_132 : decode cX8_tellsCount 132 = .ok (.ireturn, 1) := by decide +kernel
theorem dX8_tellsCount_133 : decode cX8_tellsCount 133 = .ok (.aload_n 0, 1) := by decide +kernel
theorem dX8_tellsCount_134 : decode cX8_tellsCount 134 = .ok (.getfield 230, 3) := by decide +kernel
theorem dX8_tellsCount_137 : decode cX8_tellsCount 137 = .ok (.ireturn, 1) := by decide +kernel
theorem dX8_tellsCount_138 : decode cX8_tellsCount 138 = .ok (.aload_n 0, 1) := by decide +kernel
theorem dX8_tellsCount_139 : decode cX8_tellsCount 139 = .ok (.getfield 233, 3) := by decide +kernel
theorem dX8_tellsCount_142 : decode cX8_tellsCount 142 = .ok (.ireturn, 1) := by decide +kernel
theorem dX8_tellsCount_143 : decode cX8_tellsCount 143 = .ok (.aload_n 0, 1) := by decide +kernel
theorem dX8_tellsCount_144 : decode cX8_tellsCount 144 = .ok (.getfield 243, 3) := by decide +kernel
theorem dX8_tellsCount_147 : decode cX8_tellsCount 147 = .ok (.ireturn, 1) := by decide +kernel
set_option maxRecDepth 20000 in
theorem ggX8_count_X8_in : GoodIn wsX8_count wsX8_in := goodIn_r _ [4] (by decide +kernel) (by decide +kernel)
set_option maxRecDepth 20000 in
theorem gX8_count_X8_in : GoodIn wsX8_count (va_wsS RX8 125 yX8_in wsX8_in) := goodIn_app (goodIn_of _ (by decide +kernel)) ggX8_count_X8_in
set_option maxRecDepth 20000 in
theorem ggX8_count_X8_tellsCount : GoodIn wsX8_count wsX8_tellsCount := goodIn_r _ [8, 9, 10, 11, 12, 13, 14, 15, 16, 17, 18, 19, 20, 21, 22, 23, 24, 25, 26, 27, 28, 29, 30, 31, 32, 33, 34, 35, 36, 37, 38, 39, 40, 41, 42, 43, 44, 45, 46, 47, 48, 49, 50, 51, 52, 53, 54, 55, 56, 57, 58, 59, 60, 61, 62, 63] (by decide +kernel) (by decide +kernel)
set_option maxRecDepth 20000 in
theorem gX8_count_X8_tellsCount : GoodIn wsX8_count (wsV RX8 250 RX8 yX8_tellsCount wsX8_tellsCount) := goodIn_app (goodIn_of _ (by decide +kernel)) ggX8_count_X8_tellsCount
theorem dX8_count_0 : decode cX8_count 0 = .ok (.iload_n 1, 1) := by decide +kernel
theorem dX8_count_1 : decode cX8_count 1 = .ok (.iconst 0, 1) := by decide +kernel
theorem dX8_count_2 : decode cX8_count 2 = .ok (.bipush 7, 2) := by decide +kernel
theorem dX8_count_4 : decode cX8_count 4 = .ok (.invokestatic 125, 3) := by decide +kernel
theorem dX8_count_7 : decode cX8_count 7 = .ok (.ifCond .eq 11, 3) := by decide +kernel
theorem dX8_count_10 : decode cX8_count 10 = .ok (.aload_n 0, 1) := by decide +kernel
theorem dX8_count_11 : decode cX8_count 11 = .ok (.iload_n 1, 1) := by decide +kernel
theorem dX8_count_12 : decode cX8_count 12 = .ok (.invokevirtual 250, 3) := by decide +kernel
theorem dX8_count_15 : decode cX8_count 15 = .ok (.goto 4, 3) := by decide +kernel
theorem dX8_count_18 : decode cX8_count 18 = .ok (.iconst (-1), 1) := by decide +kernel
theorem dX8_count_19 : decode cX8_count 19 = .ok (.ireturn, 1) := by decide +kernel
set_option maxRecDepth 20000 in
theorem ggX8_digest_X8_tellsCount : GoodIn wsX8_digest wsX8_tellsCount := goodIn_r _ [18, 19, 3, 20, 5, 10, 21, 22, 23, 65, 66, 67, 68, 69, 70, 71, 72, 73, 74, 75, 76, 77, 78, 79, 80, 81, 82, 83, 84, 85, 86, 87, 88, 89, 90, 91, 92, 93, 94, 95, 96, 97, 98, 99, 100, 101, 102, 103, 104, 105, 106, 107, 108, 109, 110, 111] (by decide +kernel) (by decide +kernel)
set_option maxRecDepth 20000 in
theorem gX8_digest_X8_tellsCount : GoodIn wsX8_digest (wsV RX8 250 RX8 yX8_tellsCount wsX8_tellsCount) := goodIn_app (goodIn_of _ (by decide +kernel)) ggX8_digest_X8_tellsCount
set_option maxRecDepth 20000 in
theorem ggX8_digest_X8_toldOf : GoodIn wsX8_digest wsX8_toldOf := goodIn_r _ [27, 28, 29, 30, 20, 31, 32, 33, 17, 34, 11, 35, 36, 37, 38, 39, 40, 41, 42, 43, 44, 45, 46, 47, 48, 49, 50, 12, 51, 52, 53, 54, 55, 56, 57, 58, 13, 59, 60, 61, 62, 63, 64, 65, 66, 67, 68, 69, 70, 71, 72, 73, 74, 75, 76, 77, 78, 79, 80, 81, 82, 83, 84, 85, 86, 87, 88, 89, 90, 91, 92, 93, 94, 95, 96, 97, 98, 99, 100, 101, 102, 103, 104, 105, 106, 107, 108, 109, 110, 111] (by decide +kernel) (by decide +kernel)
set_option maxRecDepth 20000 in
theorem gX8_digest_X8_toldOf : GoodIn wsX8_digest (wsV RX8 186 RX8 yX8_toldOf wsX8_toldOf) := goodIn_app (goodIn_of _ (by decide +kernel)) ggX8_digest_X8_toldOf
theorem dX8_digest_0 : decode cX8_digest 0 = .ok (.ldc2_w 253, 3) := by decide +kernel
theorem dX8_digest_3 : decode cX8_digest 3 = .ok (.lstore_n 1, 1) := by decide +kernel
theorem dX8_digest_4 : decode cX8_digest 4 = .ok (.iconst 0, 1) := by decide +kernel
theorem dX8_digest_5 : decode cX8_digest 5 = .ok (.istore_n 3, 1) := by decide +kernel
theorem dX8_digest_6 : decode cX8_digest 6 = .ok (.iload_n 3, 1) := by decide +kernel
theorem dX8_digest_7 : decode cX8_digest 7 = .ok (.bipush 8, 2) := by decide +kernel
theorem dX8_digest_9 : decode cX8_digest 9 = .ok (.if_icmp .ge 22, 3) := by decide +kernel
theorem dX8_digest_12 : decode cX8_digest 12 = .ok (.ldc2_w 255, 3) := by decide +kernel
theorem dX8_digest_15 : decode cX8_digest 15 = .ok (.lload_n 1, 1) := by decide +kernel
theorem dX8_digest_16 : decode cX8_digest 16 = .ok (.lmul, 1) := by decide +kernel
theorem dX8_digest_17 : decode cX8_digest 17 = .ok (.aload_n 0, 1) := by decide +kernel
theorem dX8_digest_18 : decode cX8_digest 18 = .ok (.iload_n 3, 1) := by decide +kernel
theorem dX8_digest_19 : decode cX8_digest 19 = .ok (.invokevirtual 250, 3) := by decide +kernel
theorem dX8_digest_22 : decode cX8_digest 22 = .ok (.i2l, 1) := by decide +kernel
theorem dX8_digest_23 : decode cX8_digest 23 = .ok (.ladd, 1) := by decide +kernel
theorem dX8_digest_24 : decode cX8_digest 24 = .ok (.lstore_n 1, 1) := by decide +kernel
theorem dX8_digest_25 : decode cX8_digest 25 = .ok (.iinc 3 1, 3) := by decide +kernel
theorem dX8_digest_28 : decode cX8_digest 28 = .ok (.goto (-22), 3) := by decide +kernel
theorem dX8_digest_31 : decode cX8_digest 31 = .ok (.iconst 0, 1) := by decide +kernel
theorem dX8_digest_32 : decode cX8_digest 32 = .ok (.istore_n 3, 1) := by decide +kernel
theorem dX8_digest_33 : decode cX8_digest 33 = .ok (.iload_n 3, 1) := by decide +kernel
theorem dX8_digest_34 : decode cX8_digest 34 = .ok (.aload_n 0, 1) := by decide +kernel
theorem dX8_digest_35 : decode cX8_digest 35 = .ok (.getfield 167, 3) := by decide +kernel
theorem dX8_digest_38 : decode cX8_digest 38 = .ok (.if_icmp .ge 40, 3) := by decide +kernel
theorem dX8_digest_41 : decode cX8_digest 41 = .ok (.iconst 0, 1) := by decide +kernel
theorem dX8_digest_42 : decode cX8_digest 42 = .ok (.istore 4, 2) := by decide +kernel
theorem dX8_digest_44 : decode cX8_digest 44 = .ok (.iload 4, 2) := by decide +kernel
theorem dX8_digest_46 : decode cX8_digest 46 = .ok (.bipush 6, 2) := by decide +kernel
theorem dX8_digest_48 : decode cX8_digest 48 = .ok (.if_icmp .ge 24, 3) := by decide +kernel
theorem dX8_digest_51 : decode cX8_digest 51 = .ok (.ldc2_w 255, 3) := by decide +kernel
theorem dX8_digest_54 : decode cX8_digest 54 = .ok (.lload_n 1, 1) := by decide +kernel
theorem dX8_digest_55 : decode cX8_digest 55 = .ok (.lmul, 1) := by decide +kernel
theorem dX8_digest_56 : decode cX8_digest 56 = .ok (.aload_n 0, 1) := by decide +kernel
theorem dX8_digest_57 : decode cX8_digest 57 = .ok (.iload_n 3, 1) := by decide +kernel
theorem dX8_digest_58 : decode cX8_digest 58 = .ok (.iload 4, 2) := by decide +kernel
theorem dX8_digest_60 : decode cX8_digest 60 = .ok (.invokevirtual 186, 3) := by decide +kernel
theorem dX8_digest_63 : decode cX8_digest 63 = .ok (.i2l, 1) := by decide +kernel
theorem dX8_digest_64 : decode cX8_digest 64 = .ok (.ladd, 1) := by decide +kernel
theorem dX8_digest_65 : decode cX8_digest 65 = .ok (.lstore_n 1, 1) := by decide +kernel
theorem dX8_digest_66 : decode cX8_digest 66 = .ok (.iinc 4 1, 3) := by decide +kernel
theorem dX8_digest_69 : decode cX8_digest 69 = .ok (.goto (-25), 3) := by decide +kernel
theorem dX8_digest_72 : decode cX8_digest 72 = .ok (.iinc 3 1, 3) := by decide +kernel
theorem dX8_digest_75 : decode cX8_digest 75 = .ok (.goto (-42), 3) := by decide +kernel
theorem dX8_digest_78 : decode cX8_digest 78 = .ok (.iconst 0, 1) := by decide +kernel
theorem dX8_digest_79 : decode cX8_digest 79 = .ok (.istore_n 3, 1) := by decide +kernel
theorem dX8_digest_80 : decode cX8_digest 80 = .ok (.iload_n 3, 1) := by decide +kernel
theorem dX8_digest_81 : decode cX8_digest 81 = .ok (.iconst 4, 1) := by decide +kernel
theorem dX8_digest_82 : decode cX8_digest 82 = .ok (.if_icmp .ge 23, 3) := by decide +kernel
theorem dX8_digest_85 : decode cX8_digest 85 = .ok (.ldc2_w 255, 3) := by decide +kernel
theorem dX8_digest_88 : decode cX8_digest 88 = .ok (.lload_n 1, 1) := by decide +kernel
theorem dX8_digest_89 : decode cX8_digest 89 = .ok (.lmul, 1) := by decide +kernel
theorem dX8_digest_90 : decode cX8_digest 90 = .ok (.aload_n 0, 1) := by decide +kernel
theorem dX8_digest_91 : decode cX8_digest 91 = .ok (.getfield 53, 3) := by decide +kernel
theorem dX8_digest_94 : decode cX8_digest 94 = .ok (.iload_n 3, 1) := by decide +kernel
theorem dX8_digest_95 : decode cX8_digest 95 = .ok (.iaload, 1) := by decide +kernel
theorem dX8_digest_96 : decode cX8_digest 96 = .ok (.i2l, 1) := by decide +kernel
theorem dX8_digest_97 : decode cX8_digest 97 = .ok (.ladd, 1) := by decide +kernel
theorem dX8_digest_98 : decode cX8_digest 98 = .ok (.lstore_n 1, 1) := by decide +kernel
theorem dX8_digest_99 : decode cX8_digest 99 = .ok (.iinc 3 1, 3) := by decide +kernel
theorem dX8_digest_102 : decode cX8_digest 102 = .ok (.goto (-22), 3) := by decide +kernel
theorem dX8_digest_105 : decode cX8_digest 105 = .ok (.iconst 0, 1) := by decide +kernel
theorem dX8_digest_106 : decode cX8_digest 106 = .ok (.istore_n 3, 1) := by decide +kernel
theorem dX8_digest_107 : decode cX8_digest 107 = .ok (.iload_n 3, 1) := by decide +kernel
theorem dX8_digest_108 : decode cX8_digest 108 = .ok (.aload_n 0, 1) := by decide +kernel
theorem dX8_digest_109 : decode cX8_digest 109 = .ok (.getfield 198, 3) := by decide +kernel
theorem dX8_digest_112 : decode cX8_digest 112 = .ok (.if_icmp .ge 95, 3) := by decide +kernel
theorem dX8_digest_115 : decode cX8_digest 115 = .ok (.ldc2_w 255, 3) := by decide +kernel
theorem dX8_digest_118 : decode cX8_digest 118 = .ok (.ldc2_w 255, 3) := by decide +kernel
theorem dX8_digest_121 : decode cX8_digest 121 = .ok (.ldc2_w 255, 3) := by decide +kernel
theorem dX8_digest_124 : decode cX8_digest 124 = .ok (.lload_n 1, 1) := by decide +kernel
theorem dX8_digest_125 : decode cX8_digest 125 = .ok (.lmul, 1) := by decide +kernel
theorem dX8_digest_126 : decode cX8_digest 126 = .ok (.aload_n 0, 1) := by decide +kernel
theorem dX8_digest_127 : decode cX8_digest 127 = .ok (.getfield 56, 3) := by decide +kernel
theorem dX8_digest_130 : decode cX8_digest 130 = .ok (.iload_n 3, 1) := by decide +kernel
theorem dX8_digest_131 : decode cX8_digest 131 = .ok (.iaload, 1) := by decide +kernel
theorem dX8_digest_132 : decode cX8_digest 132 = .ok (.i2l, 1) := by decide +kernel
theorem dX8_digest_133 : decode cX8_digest 133 = .ok (.ladd, 1) := by decide +kernel
theorem dX8_digest_134 : decode cX8_digest 134 = .ok (.lmul, 1) := by decide +kernel
theorem dX8_digest_135 : decode cX8_digest 135 = .ok (.aload_n 0, 1) := by decide +kernel
theorem dX8_digest_136 : decode cX8_digest 136 = .ok (.getfield 59, 3) := by decide +kernel
theorem dX8_digest_139 : decode cX8_digest 139 = .ok (.iload_n 3, 1) := by decide +kernel
theorem dX8_digest_140 : decode cX8_digest 140 = .ok (.iaload, 1) := by decide +kernel
theorem dX8_digest_141 : decode cX8_digest 141 = .ok (.i2l, 1) := by decide +kernel
theorem dX8_digest_142 : decode cX8_digest 142 = .ok (.ladd, 1) := by decide +kernel
theorem dX8_digest_143 : decode cX8_digest 143 = .ok (.lmul, 1) := by decide +kernel
theorem dX8_digest_144 : decode cX8_digest 144 = .ok (.aload_n 0, 1) := by decide +kernel
theorem dX8_digest_145 : decode cX8_digest 145 = .ok (.getfield 62, 3) := by decide +kernel
theorem dX8_digest_148 : decode cX8_digest 148 = .ok (.iload_n 3, 1) := by decide +kernel
theorem dX8_digest_149 : decode cX8_digest 149 = .ok (.iaload, 1) := by decide +kernel
theorem dX8_digest_150 : decode cX8_digest 150 = .ok (.i2l, 1) := by decide +kernel
theorem dX8_digest_151 : decode cX8_digest 151 = .ok (.ladd, 1) := by decide +kernel
theorem dX8_digest_152 : decode cX8_digest 152 = .ok (.lstore_n 1, 1) := by decide +kernel
theorem dX8_digest_153 : decode cX8_digest 153 = .ok (.iconst 0, 1) := by decide +kernel
theorem dX8_digest_154 : decode cX8_digest 154 = .ok (.istore 4, 2) := by decide +kernel
theorem dX8_digest_156 : decode cX8_digest 156 = .ok (.iload 4, 2) := by decide +kernel
theorem dX8_digest_158 : decode cX8_digest 158 = .ok (.iconst 4, 1) := by decide +kernel
theorem dX8_digest_159 : decode cX8_digest 159 = .ok (.if_icmp .ge 28, 3) := by decide +kernel
theorem dX8_digest_162 : decode cX8_digest 162 = .ok (.ldc2_w 255, 3) := by decide +kernel
theorem dX8_digest_165 : decode cX8_digest 165 = .ok (.lload_n 1, 1) := by decide +kernel
theorem dX8_digest_166 : decode cX8_digest 166 = .ok (.lmul, 1) := by decide +kernel
theorem dX8_digest_167 : decode cX8_digest 167 = .ok (.aload_n 0, 1) := by decide +kernel
theorem dX8_digest_168 : decode cX8_digest 168 = .ok (.getfield 65, 3) := by decide +kernel
theorem dX8_digest_171 : decode cX8_digest 171 = .ok (.iconst 4, 1) := by decide +kernel
theorem dX8_digest_172 : decode cX8_digest 172 = .ok (.iload_n 3, 1) := by decide +kernel
theorem dX8_digest_173 : decode cX8_digest 173 = .ok (.imul, 1) := by decide +kernel
theorem dX8_digest_174 : decode cX8_digest 174 = .ok (.iload 4, 2) := by decide +kernel
theorem dX8_digest_176 : decode cX8_digest 176 = .ok (.iadd, 1) := by decide +kernel
theorem dX8_digest_177 : decode cX8_digest 177 = .ok (.iaload, 1) := by decide +kernel
theorem dX8_digest_178 : decode cX8_digest 178 = .ok (.i2l, 1) := by decide +kernel
theorem dX8_digest_179 : decode cX8_digest 179 = .ok (.ladd, 1) := by decide +kernel
theorem dX8_digest_180 : decode cX8_digest 180 = .ok (.lstore_n 1, 1) := by decide +kernel
theorem dX8_digest_181 : decode cX8_digest 181 = .ok (.iinc 4 1, 3) := by decide +kernel
theorem dX8_digest_184 : decode cX8_digest 184 = .ok (.goto (-28), 3) := by decide +kernel
theorem dX8_digest_187 : decode cX8_digest 187 = .ok (.ldc2_w 255, 3) := by decide +kernel
theorem dX8_digest_190 : decode cX8_digest 190 = .ok (.lload_n 1, 1) := by decide +kernel
theorem dX8_digest_191 : decode cX8_digest 191 = .ok (.lmul, 1) := by decide +kernel
theorem dX8_digest_192 : decode cX8_digest 192 = .ok (.aload_n 0, 1) := by decide +kernel
theorem dX8_digest_193 : decode cX8_digest 193 = .ok (.getfield 68, 3) := by decide +kernel
theorem dX8_digest_196 : decode cX8_digest 196 = .ok (.iload_n 3, 1) := by decide +kernel
theorem dX8_digest_197 : decode cX8_digest 197 = .ok (.iaload, 1) := by decide +kernel
theorem dX8_digest_198 : decode cX8_digest 198 = .ok (.i2l, 1) := by decide +kernel
theorem dX8_digest_199 : decode cX8_digest 199 = .ok (.ladd, 1) := by decide +kernel
theorem dX8_digest_200 : decode cX8_digest 200 = .ok (.lstore_n 1, 1) := by decide +kernel
theorem dX8_digest_201 : decode cX8_digest 201 = .ok (.iinc 3 1, 3) := by decide +kernel
theorem dX8_digest_204 : decode cX8_digest 204 = .ok (.goto (-97), 3) := by decide +kernel
theorem dX8_digest_207 : decode cX8_digest 207 = .ok (.iconst 0, 1) := by decide +kernel
theorem dX8_digest_208 : decode cX8_digest 208 = .ok (.istore_n 3, 1) := by decide +kernel
theorem dX8_digest_209 : decode cX8_digest 209 = .ok (.iload_n 3, 1) := by decide +kernel
theorem dX8_digest_210 : decode cX8_digest 210 = .ok (.bipush 10, 2) := by decide +kernel
theorem dX8_digest_212 : decode cX8_digest 212 = .ok (.if_icmp .ge 23, 3) := by decide +kernel
theorem dX8_digest_215 : decode cX8_digest 215 = .ok (.ldc2_w 255, 3) := by decide +kernel
theorem dX8_digest_218 : decode cX8_digest 218 = .ok (.lload_n 1, 1) := by decide +kernel
theorem dX8_digest_219 : decode cX8_digest 219 = .ok (.lmul, 1) := by decide +kernel
theorem dX8_digest_220 : decode cX8_digest 220 = .ok (.aload_n 0, 1) := by decide +kernel
theorem dX8_digest_221 : decode cX8_digest 221 = .ok (.getfield 23, 3) := by decide +kernel
theorem dX8_digest_224 : decode cX8_digest 224 = .ok (.iload_n 3, 1) := by decide +kernel
theorem dX8_digest_225 : decode cX8_digest 225 = .ok (.iaload, 1) := by decide +kernel
theorem dX8_digest_226 : decode cX8_digest 226 = .ok (.i2l, 1) := by decide +kernel
theorem dX8_digest_227 : decode cX8_digest 227 = .ok (.ladd, 1) := by decide +kernel
theorem dX8_digest_228 : decode cX8_digest 228 = .ok (.lstore_n 1, 1) := by decide +kernel
theorem dX8_digest_229 : decode cX8_digest 229 = .ok (.iinc 3 1, 3) := by decide +kernel
theorem dX8_digest_232 : decode cX8_digest 232 = .ok (.goto (-23), 3) := by decide +kernel
theorem dX8_digest_235 : decode cX8_digest 235 = .ok (.iconst 0, 1) := by decide +kernel
theorem dX8_digest_236 : decode cX8_digest 236 = .ok (.istore_n 3, 1) := by decide +kernel
theorem dX8_digest_237 : decode cX8_digest 237 = .ok (.iload_n 3, 1) := by decide +kernel
theorem dX8_digest_238 : decode cX8_digest 238 = .ok (.bipush 6, 2) := by decide +kernel
theorem dX8_digest_240 : decode cX8_digest 240 = .ok (.if_icmp .ge 63, 3) := by decide +kernel
theorem dX8_digest_243 : decode cX8_digest 243 = .ok (.ldc2_w 255, 3) := by decide +kernel
theorem dX8_digest_246 : decode cX8_digest 246 = .ok (.lload_n 1, 1) := by decide +kernel
theorem dX8_digest_247 : decode cX8_digest 247 = .ok (.lmul, 1) := by decide +kernel
theorem dX8_digest_248 : decode cX8_digest 248 = .ok (.aload_n 0, 1) := by decide +kernel
theorem dX8_digest_249 : decode cX8_digest 249 = .ok (.getfield 13, 3) := by decide +kernel
theorem dX8_digest_252 : decode cX8_digest 252 = .ok (.iload_n 3, 1) := by decide +kernel
theorem dX8_digest_253 : decode cX8_digest 253 = .ok (.iaload, 1) := by decide +kernel
theorem dX8_digest_254 : decode cX8_digest 254 = .ok (.i2l, 1) := by decide +kernel
theorem dX8_digest_255 : decode cX8_digest 255 = .ok (.ladd, 1) := by decide +kernel
theorem dX8_digest_256 : decode cX8_digest 256 = .ok (.lstore_n 1, 1) := by decide +kernel
theorem dX8_digest_257 : decode cX8_digest 257 = .ok (.iconst 0, 1) := by decide +kernel
theorem dX8_digest_258 : decode cX8_digest 258 = .ok (.istore 4, 2) := by decide +kernel
theorem dX8_digest_260 : decode cX8_digest 260 = .ok (.iload 4, 2) := by decide +kernel
theorem dX8_digest_262 : decode cX8_digest 262 = .ok (.aload_n 0, 1) := by decide +kernel
theorem dX8_digest_263 : decode cX8_digest 263 = .ok (.getfield 13, 3) := by decide +kernel
theorem dX8_digest_266 : decode cX8_digest 266 = .ok (.iload_n 3, 1) := by decide +kernel
theorem dX8_digest_267 : decode cX8_digest 267 = .ok (.iaload, 1) := by decide +kernel
theorem dX8_digest_268 : decode cX8_digest 268 = .ok (.if_icmp .ge 29, 3) := by decide +kernel
theorem dX8_digest_271 : decode cX8_digest 271 = .ok (.ldc2_w 255, 3) := by decide +kernel
theorem dX8_digest_274 : decode cX8_digest 274 = .ok (.lload_n 1, 1) := by decide +kernel
theorem dX8_digest_275 : decode cX8_digest 275 = .ok (.lmul, 1) := by decide +kernel
theorem dX8_digest_276 : decode cX8_digest 276 = .ok (.aload_n 0, 1) := by decide +kernel
theorem dX8_digest_277 : decode cX8_digest 277 = .ok (.getfield 16, 3) := by decide +kernel
theorem dX8_digest_280 : decode cX8_digest 280 = .ok (.bipush 40, 2) := by decide +kernel
theorem dX8_digest_282 : decode cX8_digest 282 = .ok (.iload_n 3, 1) := by decide +kernel
theorem dX8_digest_283 : decode cX8_digest 283 = .ok (.imul, 1) := by decide +kernel
theorem dX8_digest_284 : decode cX8_digest 284 = .ok (.iload 4, 2) := by decide +kernel
theorem dX8_digest_286 : decode cX8_digest 286 = .ok (.iadd, 1) := by decide +kernel
theorem dX8_digest_287 : decode cX8_digest 287 = .ok (.baload, 1) := by decide +kernel
theorem dX8_digest_288 : decode cX8_digest 288 = .ok (.i2l, 1) := by decide +kernel
theorem dX8_digest_289 : decode cX8_digest 289 = .ok (.ladd, 1) := by decide +kernel
theorem dX8_digest_290 : decode cX8_digest 290 = .ok (.lstore_n 1, 1) := by decide +kernel
theorem dX8_digest_291 : decode cX8_digest 291 = .ok (.iinc 4 1, 3) := by decide +kernel
theorem dX8_digest_294 : decode cX8_digest 294 = .ok (.goto (-34), 3) := by decide +kernel
theorem dX8_digest_297 : decode cX8_digest 297 = .ok (.iinc 3 1, 3) := by decide +kernel
theorem dX8_digest_300 : decode cX8_digest 300 = .ok (.goto (-63), 3) := by decide +kernel
theorem dX8_digest_303 : decode cX8_digest 303 = .ok (.lload_n 1, 1) := by decide +kernel
theorem dX8_digest_304 : decode cX8_digest 304 = .ok (.lreturn, 1) := by decide +kernel
