theorem dX8_init_0 : decode cX8_init 0 = .ok (.aload_n 0, 1) := by decide +kernel
theorem dX8_init_1 : decode cX8_init 1 = .ok (.invokespecial 1, 3) := by decide +kernel
theorem dX8_init_4 : decode cX8_init 4 = .ok (.aload_n 0, 1) := by decide +kernel
theorem dX8_init_5 : decode cX8_init 5 = .ok (.bipush 6, 2) := by decide +kernel
theorem dX8_init_7 : decode cX8_init 7 = .ok (.newarray .int, 2) := by decide +kernel
theorem dX8_init_9 : decode cX8_init 9 = .ok (.putfield 7, 3) := by decide +kernel
theorem dX8_init_12 : decode cX8_init 12 = .ok (.aload_n 0, 1) := by decide +kernel
theorem dX8_init_13 : decode cX8_init 13 = .ok (.bipush 6, 2) := by decide +kernel
theorem dX8_init_15 : decode cX8_init 15 = .ok (.newarray .int, 2) := by decide +kernel
theorem dX8_init_17 : decode cX8_init 17 = .ok (.putfield 13, 3) := by decide +kernel
theorem dX8_init_20 : decode cX8_init 20 = .ok (.aload_n 0, 1) := by decide +kernel
theorem dX8_init_21 : decode cX8_init 21 = .ok (.sipush 240, 3) := by decide +kernel
theorem dX8_init_24 : decode cX8_init 24 = .ok (.newarray .byte, 2) := by decide +kernel
theorem dX8_init_26 : decode cX8_init 26 = .ok (.putfield 16, 3) := by decide +kernel
theorem dX8_init_29 : decode cX8_init 29 = .ok (.aload_n 0, 1) := by decide +kernel
theorem dX8_init_30 : decode cX8_init 30 = .ok (.bipush 40, 2) := by decide +kernel
theorem dX8_init_32 : decode cX8_init 32 = .ok (.newarray .byte, 2) := by decide +kernel
theorem dX8_init_34 : decode cX8_init 34 = .ok (.putfield 20, 3) := by decide +kernel
theorem dX8_init_37 : decode cX8_init 37 = .ok (.aload_n 0, 1) := by decide +kernel
theorem dX8_init_38 : decode cX8_init 38 = .ok (.bipush 10, 2) := by decide +kernel
theorem dX8_init_40 : decode cX8_init 40 = .ok (.newarray .int, 2) := by decide +kernel
theorem dX8_init_42 : decode cX8_init 42 = .ok (.putfield 23, 3) := by decide +kernel
theorem dX8_init_45 : decode cX8_init 45 = .ok (.aload_n 0, 1) := by decide +kernel
theorem dX8_init_46 : decode cX8_init 46 = .ok (.bipush 24, 2) := by decide +kernel
theorem dX8_init_48 : decode cX8_init 48 = .ok (.newarray .int, 2) := by decide +kernel
theorem dX8_init_50 : decode cX8_init 50 = .ok (.putfield 26, 3) := by decide +kernel
theorem dX8_init_53 : decode cX8_init 53 = .ok (.aload_n 0, 1) := by decide +kernel
theorem dX8_init_54 : decode cX8_init 54 = .ok (.bipush 24, 2) := by decide +kernel
theorem dX8_init_56 : decode cX8_init 56 = .ok (.newarray .int, 2) := by decide +kernel
theorem dX8_init_58 : decode cX8_init 58 = .ok (.putfield 29, 3) := by decide +kernel
theorem dX8_init_61 : decode cX8_init 61 = .ok (.aload_n 0, 1) := by decide +kernel
theorem dX8_init_62 : decode cX8_init 62 = .ok (.bipush 24, 2) := by decide +kernel
theorem dX8_init_64 : decode cX8_init 64 = .ok (.newarray .int, 2) := by decide +kernel
theorem dX8_init_66 : decode cX8_init 66 = .ok (.putfield 32, 3) := by decide +kernel
theorem dX8_init_69 : decode cX8_init 69 = .ok (.aload_n 0, 1) := by decide +kernel
theorem dX8_init_70 : decode cX8_init 70 = .ok (.bipush 24, 2) := by decide +kernel
theorem dX8_init_72 : decode cX8_init 72 = .ok (.newarray .int, 2) := by decide +kernel
theorem dX8_init_74 : decode cX8_init 74 = .ok (.putfield 35, 3) := by decide +kernel
theorem dX8_init_77 : decode cX8_init 77 = .ok (.aload_n 0, 1) := by decide +kernel
theorem dX8_init_78 : decode cX8_init 78 = .ok (.bipush 24, 2) := by decide +kernel
theorem dX8_init_80 : decode cX8_init 80 = .ok (.newarray .int, 2) := by decide +kernel
theorem dX8_init_82 : decode cX8_init 82 = .ok (.putfield 38, 3) := by decide +kernel
theorem dX8_init_85 : decode cX8_init 85 = .ok (.aload_n 0, 1) := by decide +kernel
theorem dX8_init_86 : decode cX8_init 86 = .ok (.bipush 24, 2) := by decide +kernel
theorem dX8_init_88 : decode cX8_init 88 = .ok (.newarray .int, 2) := by decide +kernel
theorem dX8_init_90 : decode cX8_init 90 = .ok (.putfield 41, 3) := by decide +kernel
theorem dX8_init_93 : decode cX8_init 93 = .ok (.aload_n 0, 1) := by decide +kernel
theorem dX8_init_94 : decode cX8_init 94 = .ok (.bipush 24, 2) := by decide +kernel
theorem dX8_init_96 : decode cX8_init 96 = .ok (.newarray .int, 2) := by decide +kernel
theorem dX8_init_98 : decode cX8_init 98 = .ok (.putfield 44, 3) := by decide +kernel
theorem dX8_init_101 : decode cX8_init 101 = .ok (.aload_n 0, 1) := by decide +kernel
theorem dX8_init_102 : decode cX8_init 102 = .ok (.bipush 24, 2) := by decide +kernel
theorem dX8_init_104 : decode cX8_init 104 = .ok (.newarray .int, 2) := by decide +kernel
theorem dX8_init_106 : decode cX8_init 106 = .ok (.putfield 47, 3) := by decide +kernel
theorem dX8_init_109 : decode cX8_init 109 = .ok (.aload_n 0, 1) := by decide +kernel
theorem dX8_init_110 : decode cX8_init 110 = .ok (.sipush 2102, 3) := by decide +kernel
theorem dX8_init_113 : decode cX8_init 113 = .ok (.newarray .int, 2) := by decide +kernel
theorem dX8_init_115 : decode cX8_init 115 = .ok (.putfield 50, 3) := by decide +kernel
theorem dX8_init_118 : decode cX8_init 118 = .ok (.aload_n 0, 1) := by decide +kernel
theorem dX8_init_119 : decode cX8_init 119 = .ok (.iconst 4, 1) := by decide +kernel
theorem dX8_init_120 : decode cX8_init 120 = .ok (.newarray .int, 2) := by decide +kernel
theorem dX8_init_122 : decode cX8_init 122 = .ok (.putfield 53, 3) := by decide +kernel
theorem dX8_init_125 : decode cX8_init 125 = .ok (.aload_n 0, 1) := by decide +kernel
theorem dX8_init_126 : decode cX8_init 126 = .ok (.bipush 10, 2) := by decide +kernel
theorem dX8_init_128 : decode cX8_init 128 = .ok (.newarray .int, 2) := by decide +kernel
theorem dX8_init_130 : decode cX8_init 130 = .ok (.putfield 56, 3) := by decide +kernel
theorem dX8_init_133 : decode cX8_init 133 = .ok (.aload_n 0, 1) := by decide +kernel
theorem dX8_init_134 : decode cX8_init 134 = .ok (.bipush 10, 2) := by decide +kernel
theorem dX8_init_136 : decode cX8_init 136 = .ok (.newarray .int, 2) := by decide +kernel
theorem dX8_init_138 : decode cX8_init 138 = .ok (.putfield 59, 3) := by decide +kernel
theorem dX8_init_141 : decode cX8_init 141 = .ok (.aload_n 0, 1) := by decide +kernel
theorem dX8_init_142 : decode cX8_init 142 = .ok (.bipush 10, 2) := by decide +kernel
theorem dX8_init_144 : decode cX8_init 144 = .ok (.newarray .int, 2) := by decide +kernel
theorem dX8_init_146 : decode cX8_init 146 = .ok (.putfield 62, 3) := by decide +kernel
theorem dX8_init_149 : decode cX8_init 149 = .ok (.aload_n 0, 1) := by decide +kernel
theorem dX8_init_150 : decode cX8_init 150 = .ok (.bipush 40, 2) := by decide +kernel
theorem dX8_init_152 : decode cX8_init 152 = .ok (.newarray .int, 2) := by decide +kernel
theorem dX8_init_154 : decode cX8_init 154 = .ok (.putfield 65, 3) := by decide +kernel
theorem dX8_init_157 : decode cX8_init 157 = .ok (.aload_n 0, 1) := by decide +kernel
theorem dX8_init_158 : decode cX8_init 158 = .ok (.bipush 10, 2) := by decide +kernel
theorem dX8_init_160 : decode cX8_init 160 = .ok (.newarray .int, 2) := by decide +kernel
theorem dX8_init_162 : decode cX8_init 162 = .ok (.putfield 68, 3) := by decide +kernel
theorem dX8_init_165 : decode cX8_init 165 = .ok (.aload_n 0, 1) := by decide +kernel
theorem dX8_init_166 : decode cX8_init 166 = .ok (.bipush 10, 2) := by decide +kernel
theorem dX8_init_168 : decode cX8_init 168 = .ok (.newarray .boolean, 2) := by decide +kernel
theorem dX8_init_170 : decode cX8_init 170 = .ok (.putfield 71, 3) := by decide +kernel
theorem dX8_init_173 : decode cX8_init 173 = .ok (.aload_n 0, 1) := by decide +kernel
theorem dX8_init_174 : decode cX8_init 174 = .ok (.bipush 20, 2) := by decide +kernel
theorem dX8_init_176 : decode cX8_init 176 = .ok (.newarray .int, 2) := by decide +kernel
theorem dX8_init_178 : decode cX8_init 178 = .ok (.putfield 75, 3) := by decide +kernel
theorem dX8_init_181 : decode cX8_init 181 = .ok (.aload_n 0, 1) := by decide +kernel
theorem dX8_init_182 : decode cX8_init 182 = .ok (.bipush 20, 2) := by decide +kernel
theorem dX8_init_184 : decode cX8_init 184 = .ok (.newarray .int, 2) := by decide +kernel
theorem dX8_init_186 : decode cX8_init 186 = .ok (.putfield 78, 3) := by decide +kernel
theorem dX8_init_189 : decode cX8_init 189 = .ok (.aload_n 0, 1) := by decide +kernel
theorem dX8_init_190 : decode cX8_init 190 = .ok (.bipush 30, 2) := by decide +kernel
theorem dX8_init_192 : decode cX8_init 192 = .ok (.newarray .int, 2) := by decide +kernel
theorem dX8_init_194 : decode cX8_init 194 = .ok (.putfield 81, 3) := by decide +kernel
theorem dX8_init_197 : decode cX8_init 197 = .ok (.aload_n 0, 1) := by decide +kernel
theorem dX8_init_198 : decode cX8_init 198 = .ok (.bipush 30, 2) := by decide +kernel
theorem dX8_init_200 : decode cX8_init 200 = .ok (.newarray .int, 2) := by decide +kernel
theorem dX8_init_202 : decode cX8_init 202 = .ok (.putfield 84, 3) := by decide +kernel
theorem dX8_init_205 : decode cX8_init 205 = .ok (.aload_n 0, 1) := by decide +kernel
theorem dX8_init_206 : decode cX8_init 206 = .ok (.bipush 30, 2) := by decide +kernel
theorem dX8_init_208 : decode cX8_init 208 = .ok (.newarray .int, 2) := by decide +kernel
theorem dX8_init_210 : decode cX8_init 210 = .ok (.putfield 87, 3) := by decide +kernel
theorem dX8_init_213 : decode cX8_init 213 = .ok (.aload_n 0, 1) := by decide +kernel
theorem dX8_init_214 : decode cX8_init 214 = .ok (.bipush 30, 2) := by decide +kernel
theorem dX8_init_216 : decode cX8_init 216 = .ok (.newarray .boolean, 2) := by decide +kernel
theorem dX8_init_218 : decode cX8_init 218 = .ok (.putfield 90, 3) := by decide +kernel
theorem dX8_init_221 : decode cX8_init 221 = .ok (.aload_n 0, 1) := by decide +kernel
theorem dX8_init_222 : decode cX8_init 222 = .ok (.bipush 8, 2) := by decide +kernel
theorem dX8_init_224 : decode cX8_init 224 = .ok (.newarray .int, 2) := by decide +kernel
theorem dX8_init_226 : decode cX8_init 226 = .ok (.putfield 93, 3) := by decide +kernel
theorem dX8_init_229 : decode cX8_init 229 = .ok (.aload_n 0, 1) := by decide +kernel
theorem dX8_init_230 : decode cX8_init 230 = .ok (.bipush 8, 2) := by decide +kernel
theorem dX8_init_232 : decode cX8_init 232 = .ok (.newarray .int, 2) := by decide +kernel
theorem dX8_init_234 : decode cX8_init 234 = .ok (.putfield 96, 3) := by decide +kernel
theorem dX8_init_237 : decode cX8_init 237 = .ok (.aload_n 0, 1) := by decide +kernel
theorem dX8_init_238 : decode cX8_init 238 = .ok (.bipush 8, 2) := by decide +kernel
theorem dX8_init_240 : decode cX8_init 240 = .ok (.newarray .int, 2) := by decide +kernel
theorem dX8_init_242 : decode cX8_init 242 = .ok (.putfield 99, 3) := by decide +kernel
theorem dX8_init_245 : decode cX8_init 245 = .ok (.aload_n 0, 1) := by decide +kernel
theorem dX8_init_246 : decode cX8_init 246 = .ok (.bipush 8, 2) := by decide +kernel
theorem dX8_init_248 : decode cX8_init 248 = .ok (.newarray .int, 2) := by decide +kernel
theorem dX8_init_250 : decode cX8_init 250 = .ok (.putfield 102, 3) := by decide +kernel
theorem dX8_init_253 : decode cX8_init 253 = .ok (.aload_n 0, 1) := by decide +kernel
theorem dX8_init_254 : decode cX8_init 254 = .ok (.lconst 1, 1) := by decide +kernel
theorem dX8_init_255 : decode cX8_init 255 = .ok (.putfield 105, 3) := by decide +kernel
theorem dX8_init_258 : decode cX8_init 258 = .ok (.iconst 0, 1) := by decide +kernel
theorem dX8_init_259 : decode cX8_init 259 = .ok (.istore_n 1, 1) := by decide +kernel
theorem dX8_init_260 : decode cX8_init 260 = .ok (.iload_n 1, 1) := by decide +kernel
theorem dX8_init_261 : decode cX8_init 261 = .ok (.bipush 6, 2) := by decide +kernel
theorem dX8_init_263 : decode cX8_init 263 = .ok (.if_icmp .ge 16, 3) := by decide +kernel
theorem dX8_init_266 : decode cX8_init 266 = .ok (.aload_n 0, 1) := by decide +kernel
theorem dX8_init_267 : decode cX8_init 267 = .ok (.getfield 13, 3) := by decide +kernel
theorem dX8_init_270 : decode cX8_init 270 = .ok (.iload_n 1, 1) := by decide +kernel
theorem dX8_init_271 : decode cX8_init 271 = .ok (.iconst (-1), 1) := by decide +kernel
theorem dX8_init_272 : decode cX8_init 272 = .ok (.iastore, 1) := by decide +kernel
theorem dX8_init_273 : decode cX8_init 273 = .ok (.iinc 1 1, 3) := by decide +kernel
theorem dX8_init_276 : decode cX8_init 276 = .ok (.goto (-16), 3) := by decide +kernel
theorem dX8_init_279 : decode cX8_init 279 = .ok (.iconst 0, 1) := by decide +kernel
theorem dX8_init_280 : decode cX8_init 280 = .ok (.istore_n 1, 1) := by decide +kernel
theorem dX8_init_281 : decode cX8_init 281 = .ok (.iload_n 1, 1) := by decide +kernel
theorem dX8_init_282 : decode cX8_init 282 = .ok (.bipush 10, 2) := by decide +kernel
theorem dX8_init_284 : decode cX8_init 284 = .ok (.if_icmp .ge 18, 3) := by decide +kernel
theorem dX8_init_287 : decode cX8_init 287 = .ok (.aload_n 0, 1) := by decide +kernel
theorem dX8_init_288 : decode cX8_init 288 = .ok (.getfield 23, 3) := by decide +kernel
theorem dX8_init_291 : decode cX8_init 291 = .ok (.iload_n 1, 1) := by decide +kernel
theorem dX8_init_292 : decode cX8_init 292 = .ok (.sipush 1000, 3) := by decide +kernel
theorem dX8_init_295 : decode cX8_init 295 = .ok (.iastore, 1) := by decide +kernel
theorem dX8_init_296 : decode cX8_init 296 = .ok (.iinc 1 1, 3) := by decide +kernel
theorem dX8_init_299 : decode cX8_init 299 = .ok (.goto (-18), 3) := by decide +kernel
theorem dX8_init_302 : decode cX8_init 302 = .ok (.aload_n 0, 1) := by decide +kernel
theorem dX8_init_303 : decode cX8_init 303 = .ok (.bipush 8, 2) := by decide +kernel
theorem dX8_init_305 : decode cX8_init 305 = .ok (.putfield 109, 3) := by decide +kernel
theorem dX8_init_308 : decode cX8_init 308 = .ok (.aload_n 0, 1) := by decide +kernel
theorem dX8_init_309 : decode cX8_init 309 = .ok (.bipush 24, 2) := by decide +kernel
theorem dX8_init_311 : decode cX8_init 311 = .ok (.putfield 113, 3) := by decide +kernel
theorem dX8_init_314 : decode cX8_init 314 = .ok (.aload_n 0, 1) := by decide +kernel
theorem dX8_init_315 : decode cX8_init 315 = .ok (.bipush 10, 2) := by decide +kernel
theorem dX8_init_317 : decode cX8_init 317 = .ok (.putfield 116, 3) := by decide +kernel
theorem dX8_init_320 : decode cX8_init 320 = .ok (.iconst 0, 1) := by decide +kernel
theorem dX8_init_321 : decode cX8_init 321 = .ok (.istore_n 1, 1) := by decide +kernel
theorem dX8_init_322 : decode cX8_init 322 = .ok (.iload_n 1, 1) := by decide +kernel
theorem dX8_init_323 : decode cX8_init 323 = .ok (.iconst 4, 1) := by decide +kernel
theorem dX8_init_324 : decode cX8_init 324 = .ok (.if_icmp .ge 16, 3) := by decide +kernel
theorem dX8_init_327 : decode cX8_init 327 = .ok (.aload_n 0, 1) := by decide +kernel
theorem dX8_init_328 : decode cX8_init 328 = .ok (.getfield 53, 3) := by decide +kernel
theorem dX8_init_331 : decode cX8_init 331 = .ok (.iload_n 1, 1) := by decide +kernel
theorem dX8_init_332 : decode cX8_init 332 = .ok (.iconst 1, 1) := by decide +kernel
theorem dX8_init_333 : decode cX8_init 333 = .ok (.iastore, 1) := by decide +kernel
theorem dX8_init_334 : decode cX8_init 334 = .ok (.iinc 1 1, 3) := by decide +kernel
theorem dX8_init_337 : decode cX8_init 337 = .ok (.goto (-15), 3) := by decide +kernel
theorem dX8_init_340 : decode cX8_init 340 = .ok (.aload_n 0, 1) := by decide +kernel
theorem dX8_init_341 : decode cX8_init 341 = .ok (.bipush (-9), 2) := by decide +kernel
theorem dX8_init_343 : decode cX8_init 343 = .ok (.putfield 119, 3) := by decide +kernel
theorem dX8_init_346 : decode cX8_init 346 = .ok (.return_, 1) := by decide +kernel
theorem dX8_in_0 : decode cX8_in 0 = .ok (.iload_n 0, 1) := by decide +kernel
theorem dX8_in_1 : decode cX8_in 1 = .ok (.iload_n 1, 1) := by decide +kernel
theorem dX8_in_2 : decode cX8_in 2 = .ok (.if_icmp .lt 12, 3) := by decide +kernel
theorem dX8_in_5 : decode cX8_in 5 = .ok (.iload_n 0, 1) := by decide +kernel
theorem dX8_in_6 : decode cX8_in 6 = .ok (.iload_n 2, 1) := by decide +kernel
theorem dX8_in_7 : decode cX8_in 7 = .ok (.if_icmp .gt 7, 3) := by decide +kernel
theorem dX8_in_10 : decode cX8_in 10 = .ok (.iconst 1, 1) := by decide +kernel
theorem dX8_in_11 : decode cX8_in 11 = .ok (.goto 4, 3) := by decide +kernel
theorem dX8_in_14 : decode cX8_in 14 = .ok (.iconst 0, 1) := by decide +kernel
theorem dX8_in_15 : decode cX8_in 15 = .ok (.ireturn, 1) := by decide +kernel
theorem dX8_meets_0 : decode cX8_meets 0 = .ok (.aload_n 0, 1) := by decide +kernel
theorem dX8_meets_1 : decode cX8_meets 1 = .ok (.iload_n 1, 1) := by decide +kernel
theorem dX8_meets_2 : decode cX8_meets 2 = .ok (.putfield 122, 3) := by decide +kernel
theorem dX8_meets_5 : decode cX8_meets 5 = .ok (.aload_n 0, 1) := by decide +kernel
theorem dX8_meets_6 : decode cX8_meets 6 = .ok (.getfield 7, 3) := by decide +kernel
theorem dX8_meets_9 : decode cX8_meets 9 = .ok (.iload_n 1, 1) := by decide +kernel
theorem dX8_meets_10 : decode cX8_meets 10 = .ok (.dup2, 1) := by decide +kernel
theorem dX8_meets_11 : decode cX8_meets 11 = .ok (.iaload, 1) := by decide +kernel
theorem dX8_meets_12 : decode cX8_meets 12 = .ok (.iconst 1, 1) := by decide +kernel
theorem dX8_meets_13 : decode cX8_meets 13 = .ok (.iadd, 1) := by decide +kernel
theorem dX8_meets_14 : decode cX8_meets 14 = .ok (.iastore, 1) := by decide +kernel
theorem dX8_meets_15 : decode cX8_meets 15 = .ok (.bipush (-3), 2) := by decide +kernel
theorem dX8_meets_17 : decode cX8_meets 17 = .ok (.ireturn, 1) := by decide +kernel
theorem dX8_finding_0 : decode cX8_finding 0 = .ok (.aload_n 0, 1) := by decide +kernel
theorem dX8_finding_1 : decode cX8_finding 1 = .ok (.getfield 122, 3) := by decide +kernel
theorem dX8_finding_4 : decode cX8_finding 4 = .ok (.ireturn, 1) := by decide +kernel
set_option maxRecDepth 20000 in
theorem ggX8_findings_X8_in : GoodIn wsX8_findings wsX8_in := goodIn_r _ [5] (by decide +kernel) (by decide +kernel)
set_option maxRecDepth 20000 in
theorem gX8_findings_X8_in : GoodIn wsX8_findings (va_wsS RX8 125 yX8_in wsX8_in) := goodIn_app (goodIn_of _ (by decide +kernel)) ggX8_findings_X8_in
theorem dX8_findings_0 : decode cX8_findings 0 = .ok (.iload_n 1, 1) := by decide +kernel
theorem dX8_findings_1 : decode cX8_findings 1 = .ok (.iconst 1, 1) := by decide +kernel
theorem dX8_findings_2 : decode cX8_findings 2 = .ok (.iconst 5, 1) := by decide +kernel
theorem dX8_findings_3 : decode cX8_findings 3 = .ok (.invokestatic 125, 3) := by decide +kernel
theorem dX8_findings_6 : decode cX8_findings 6 = .ok (.ifCond .eq 12, 3) := by decide +kernel
theorem dX8_findings_9 : decode cX8_findings 9 = .ok (.aload_n 0, 1) := by decide +kernel
theorem dX8_findings_10 : decode cX8_findings 10 = .ok (.getfield 7, 3) := by decide +kernel
theorem dX8_findings_13 : decode cX8_findings 13 = .ok (.iload_n 1, 1) := by decide +kernel
theorem dX8_findings_14 : decode cX8_findings 14 = .ok (.iaload, 1) := by decide +kernel
theorem dX8_findings_15 : decode cX8_findings 15 = .ok (.goto 4, 3) := by decide +kernel
theorem dX8_findings_18 : decode cX8_findings 18 = .ok (.iconst (-1), 1) := by decide +kernel
theorem dX8_findings_19 : decode cX8_findings 19 = .ok (.ireturn, 1) := by decide +kernel
theorem dX8_tells_0 : decode cX8_tells 0 = .ok (.aload_n 0, 1) := by decide +kernel
theorem dX8_tells_1 : decode cX8_tells 1 = .ok (.iload_n 1, 1) := by decide +kernel
theorem dX8_tells_2 : decode cX8_tells 2 = .ok (.putfield 129, 3) := by decide +kernel
theorem dX8_tells_5 : decode cX8_tells 5 = .ok (.iload_n 2, 1) := by decide +kernel
theorem dX8_tells_6 : decode cX8_tells 6 = .ok (.ireturn, 1) := by decide +kernel
theorem dX8_asked_0 : decode cX8_asked 0 = .ok (.aload_n 0, 1) := by decide +kernel
theorem dX8_asked_1 : decode cX8_asked 1 = .ok (.getfield 129, 3) := by decide +kernel
theorem dX8_asked_4 : decode cX8_asked 4 = .ok (.ireturn, 1) := by decide +kernel
theorem dX8_fraction_0 : decode cX8_fraction 0 = .ok (.lload_n 1, 1) := by decide +kernel
theorem dX8_fraction_1 : decode cX8_fraction 1 = .ok (.lconst 0, 1) := by decide +kernel
theorem dX8_fraction_2 : decode cX8_fraction 2 = .ok (.lcmp, 1) := by decide +kernel
theorem dX8_fraction_3 : decode cX8_fraction 3 = .ok (.ifCond .ge 8, 3) := by decide +kernel
theorem dX8_fraction_6 : decode cX8_fraction 6 = .ok (.lload_n 1, 1) := by decide +kernel
theorem dX8_fraction_7 : decode cX8_fraction 7 = .ok (.lneg, 1) := by decide +kernel
theorem dX8_fraction_8 : decode cX8_fraction 8 = .ok (.goto 4, 3) := by decide +kernel
theorem dX8_fraction_11 : decode cX8_fraction 11 = .ok (.lload_n 1, 1) := by decide +kernel
theorem dX8_fraction_12 : decode cX8_fraction 12 = .ok (.lstore 6, 2) := by decide +kernel
theorem dX8_fraction_14 : decode cX8_fraction 14 = .ok (.lload_n 3, 1) := by decide +kernel
theorem dX8_fraction_15 : decode cX8_fraction 15 = .ok (.lstore 8, 2) := by decide +kernel
theorem dX8_fraction_17 : decode cX8_fraction 17 = .ok (.lload 8, 2) := by decide +kernel
theorem dX8_fraction_19 : decode cX8_fraction 19 = .ok (.lconst 0, 1) := by decide +kernel
theorem dX8_fraction_20 : decode cX8_fraction 20 = .ok (.lcmp, 1) := by decide +kernel
theorem dX8_fraction_21 : decode cX8_fraction 21 = .ok (.ifCond .eq 21, 3) := by decide +kernel
theorem dX8_fraction_24 : decode cX8_fraction 24 = .ok (.lload 6, 2) := by decide +kernel
theorem dX8_fraction_26 : decode cX8_fraction 26 = .ok (.lload 8, 2) := by decide +kernel
theorem dX8_fraction_28 : decode cX8_fraction 28 = .ok (.lrem, 1) := by decide +kernel
theorem dX8_fraction_29 : decode cX8_fraction 29 = .ok (.lstore 10, 2) := by decide +kernel
theorem dX8_fraction_31 : decode cX8_fraction 31 = .ok (.lload 8, 2) := by decide +kernel
theorem dX8_fraction_33 : decode cX8_fraction 33 = .ok (.lstore 6, 2) := by decide +kernel
theorem dX8_fraction_35 : decode cX8_fraction 35 = .ok (.lload 10, 2) := by decide +kernel
theorem dX8_fraction_37 : decode cX8_fraction 37 = .ok (.lstore 8, 2) := by decide +kernel
theorem dX8_fraction_39 : decode cX8_fraction 39 = .ok (.goto (-22), 3) := by decide +kernel
theorem dX8_fraction_42 : decode cX8_fraction 42 = .ok (.aload_n 0, 1) := by decide +kernel
theorem dX8_fraction_43 : decode cX8_fraction 43 = .ok (.lload_n 1, 1) := by decide +kernel
theorem dX8_fraction_44 : decode cX8_fraction 44 = .ok (.lload 6, 2) := by decide +kernel
theorem dX8_fraction_46 : decode cX8_fraction 46 = .ok (.ldiv, 1) := by decide +kernel
theorem dX8_fraction_47 : decode cX8_fraction 47 = .ok (.putfield 132, 3) := by decide +kernel
theorem dX8_fraction_50 : decode cX8_fraction 50 = .ok (.aload_n 0, 1) := by decide +kernel
theorem dX8_fraction_51 : decode cX8_fraction 51 = .ok (.lload_n 3, 1) := by decide +kernel
theorem dX8_fraction_52 : decode cX8_fraction 52 = .ok (.lload 6, 2) := by decide +kernel
theorem dX8_fraction_54 : decode cX8_fraction 54 = .ok (.ldiv, 1) := by decide +kernel
theorem dX8_fraction_55 : decode cX8_fraction 55 = .ok (.putfield 105, 3) := by decide +kernel
theorem dX8_fraction_58 : decode cX8_fraction 58 = .ok (.iload 5, 2) := by decide +kernel
theorem dX8_fraction_60 : decode cX8_fraction 60 = .ok (.ireturn, 1) := by decide +kernel
theorem dX8_upper_0 : decode cX8_upper 0 = .ok (.aload_n 0, 1) := by decide +kernel
theorem dX8_upper_1 : decode cX8_upper 1 = .ok (.getfield 132, 3) := by decide +kernel
theorem dX8_upper_4 : decode cX8_upper 4 = .ok (.lreturn, 1) := by decide +kernel
theorem dX8_lower_0 : decode cX8_lower 0 = .ok (.aload_n 0, 1) := by decide +kernel
theorem dX8_lower_1 : decode cX8_lower 1 = .ok (.getfield 105, 3) := by decide +kernel
theorem dX8_lower_4 : decode cX8_lower 4 = .ok (.lreturn, 1) := by decide +kernel
theorem dX8_later_0 : decode cX8_later 0 = .ok (.iload_n 1, 1) := by decide +kernel
theorem dX8_later_1 : decode cX8_later 1 = .ok (.ifCond .lt 15, 3) := by decide +kernel
theorem dX8_later_4 : decode cX8_later 4 = .ok (.iload_n 1, 1) := by decide +kernel
theorem dX8_later_5 : decode cX8_later 5 = .ok (.sipush 30000, 3) := by decide +kernel
theorem dX8_later_8 : decode cX8_later 8 = .ok (.aload_n 0, 1) := by decide +kernel
theorem dX8_later_9 : decode cX8_later 9 = .ok (.getfield 135, 3) := by decide +kernel
theorem dX8_later_12 : decode cX8_later 12 = .ok (.isub, 1) := by decide +kernel
theorem dX8_later_13 : decode cX8_later 13 = .ok (.if_icmp .le 5, 3) := by decide +kernel
theorem dX8_later_16 : decode cX8_later 16 = .ok (.iconst (-1), 1) := by decide +kernel
theorem dX8_later_17 : decode cX8_later 17 = .ok (.ireturn, 1) := by decide +kernel
theorem dX8_later_18 : decode cX8_later 18 = .ok (.aload_n 0, 1) := by decide +kernel
theorem dX8_later_19 : decode cX8_later 19 = .ok (.dup, 1) := by decide +kernel
theorem dX8_later_20 : decode cX8_later 20 = .ok (.getfield 135, 3) := by decide +kernel
theorem dX8_later_23 : decode cX8_later 23 = .ok (.iload_n 1, 1) := by decide +kernel
theorem dX8_later_24 : decode cX8_later 24 = .ok (.iadd, 1) := by decide +kernel
theorem dX8_later_25 : decode cX8_later 25 = .ok (.putfield 135, 3) := by decide +kernel
theorem dX8_later_28 : decode cX8_later 28 = .ok (.aload_n 0, 1) := by decide +kernel
theorem dX8_later_29 : decode cX8_later 29 = .ok (.getfield 135, 3) := by decide +kernel
theorem dX8_later_32 : decode cX8_later 32 = .ok (.ireturn, 1) := by decide +kernel
set_option maxRecDepth 20000 in
theorem ggX8_isDay_X8_in : GoodIn wsX8_isDay wsX8_in := goodIn_r _ [4] (by decide +kernel) (by decide +kernel)
set_option maxRecDepth 20000 in
theorem gX8_isDay_X8_in : GoodIn wsX8_isDay (va_wsS RX8 125 yX8_in wsX8_in) := goodIn_app (goodIn_of _ (by decide +kernel)) ggX8_isDay_X8_in
theorem dX8_isDay_0 : decode cX8_isDay 0 = .ok (.iload_n 0, 1) := by decide +kernel
theorem dX8_isDay_1 : decode cX8_isDay 1 = .ok (.iconst 0, 1) := by decide +kernel
theorem dX8_isDay_2 : decode cX8_isDay 2 = .ok (.sipush 30000, 3) := by decide +kernel
theorem dX8_isDay_5 : decode cX8_isDay 5 = .ok (.invokestatic 125, 3) := by decide +kernel
theorem dX8_isDay_8 : decode cX8_isDay 8 = .ok (.ireturn, 1) := by decide +kernel
set_option maxRecDepth 20000 in
theorem ggX8_isYear_X8_in : GoodIn wsX8_isYear wsX8_in := goodIn_r _ [4] (by decide +kernel) (by decide +kernel)
set_option maxRecDepth 20000 in
theorem gX8_isYear_X8_in : GoodIn wsX8_isYear (va_wsS RX8 125 yX8_in wsX8_in) := goodIn_app (goodIn_of _ (by decide +kernel)) ggX8_isYear_X8_in
theorem dX8_isYear_0 : decode cX8_isYear 0 = .ok (.iload_n 0, 1) := by decide +kernel
theorem dX8_isYear_1 : decode cX8_isYear 1 = .ok (.sipush 1000, 3) := by decide +kernel
theorem dX8_isYear_4 : decode cX8_isYear 4 = .ok (.sipush 2100, 3) := by decide +kernel
theorem dX8_isYear_7 : decode cX8_isYear 7 = .ok (.invokestatic 125, 3) := by decide +kernel
theorem dX8_isYear_10 : decode cX8_isYear 10 = .ok (.ireturn, 1) := by decide +kernel
set_option maxRecDepth 20000 in
theorem ggX8_isRow_X8_in : GoodIn wsX8_isRow wsX8_in := goodIn_r _ [4] (by decide +kernel) (by decide +kernel)
set_option maxRecDepth 20000 in
theorem gX8_isRow_X8_in : GoodIn wsX8_isRow (va_wsS RX8 125 yX8_in wsX8_in) := goodIn_app (goodIn_of _ (by decide +kernel)) ggX8_isRow_X8_in
theorem dX8_isRow_0 : decode cX8_isRow 0 = .ok (.iload_n 0, 1) := by decide +kernel
theorem dX8_isRow_1 : decode cX8_isRow 1 = .ok (.iconst 0, 1) := by decide +kernel
theorem dX8_isRow_2 : decode cX8_isRow 2 = .ok (.iconst 5, 1) := by decide +kernel
theorem dX8_isRow_3 : decode cX8_isRow 3 = .ok (.invokestatic 125, 3) := by decide +kernel
theorem dX8_isRow_6 : decode cX8_isRow 6 = .ok (.ireturn, 1) := by decide +kernel
set_option maxRecDepth 20000 in
theorem ggX8_row_X8_isRow : GoodIn wsX8_row wsX8_isRow := goodIn_r _ [6, 7, 8, 5, 9] (by decide +kernel) (by decide +kernel)
set_option maxRecDepth 20000 in
theorem gX8_row_X8_isRow : GoodIn wsX8_row (va_wsS RX8 138 yX8_isRow wsX8_isRow) := goodIn_app (goodIn_of _ (by decide +kernel)) ggX8_row_X8_isRow
set_option maxRecDepth 20000 in
theorem ggX8_row_X8_meets : GoodIn wsX8_row wsX8_meets := goodIn_r _ [13, 14, 15, 16, 17, 18, 19, 20, 21, 22, 23, 24, 25, 26, 27, 28, 29, 30, 31, 32, 33, 34, 35, 36, 37, 38, 39, 40, 41, 42, 43, 44, 45, 46, 47, 48, 49, 50, 51, 52, 53, 54, 55, 56, 57, 58, 59, 60, 61, 62] (by decide +kernel) (by decide +kernel)
set_option maxRecDepth 20000 in
theorem gX8_row_X8_meets : GoodIn wsX8_row (wsV RX8 142 RX8 yX8_meets wsX8_meets) := goodIn_app (goodIn_of _ (by decide +kernel)) ggX8_row_X8_meets
theorem dX8_row_0 : decode cX8_row 0 = .ok (.iload_n 1, 1) := by decide +kernel
theorem dX8_row_1 : decode cX8_row 1 = .ok (.invokestatic 138, 3) := by decide +kernel
theorem dX8_row_4 : decode cX8_row 4 = .ok (.ifCond .eq 9, 3) := by decide +kernel
theorem dX8_row_7 : decode cX8_row 7 = .ok (.iload_n 2, 1) := by decide +kernel
theorem dX8_row_8 : decode cX8_row 8 = .ok (.bipush 40, 2) := by decide +kernel
theorem dX8_row_10 : decode cX8_row 10 = .ok (.if_icmp .le 5, 3) := by decide +kernel
theorem dX8_row_13 : decode cX8_row 13 = .ok (.iconst (-1), 1) := by decide +kernel
theorem dX8_row_14 : decode cX8_row 14 = .ok (.ireturn, 1) := by decide +kernel
theorem dX8_row_15 : decode cX8_row 15 = .ok (.iload_n 2, 1) := by decide +kernel
theorem dX8_row_16 : decode cX8_row 16 = .ok (.ifCond .ge 9, 3) := by decide +kernel
theorem dX8_row_19 : decode cX8_row 19 = .ok (.aload_n 0, 1) := by decide +kernel
theorem dX8_row_20 : decode cX8_row 20 = .ok (.iconst 5, 1) := by decide +kernel
theorem dX8_row_21 : decode cX8_row 21 = .ok (.invokevirtual 142, 3) := by decide +kernel
theorem dX8_row_24 : decode cX8_row 24 = .ok (.ireturn, 1) := by decide +kernel
theorem dX8_row_25 : decode cX8_row 25 = .ok (.aload_n 0, 1) := by decide +kernel
theorem dX8_row_26 : decode cX8_row 26 = .ok (.getfield 13, 3) := by decide +kernel
theorem dX8_row_29 : decode cX8_row 29 = .ok (.iload_n 1, 1) := by decide +kernel
theorem dX8_row_30 : decode cX8_row 30 = .ok (.iload_n 2, 1) := by decide +kernel
theorem dX8_row_31 : decode cX8_row 31 = .ok (.iastore, 1) := by decide +kernel
theorem dX8_row_32 : decode cX8_row 32 = .ok (.iconst 0, 1) := by decide +kernel
theorem dX8_row_33 : decode cX8_row 33 = .ok (.istore_n 3, 1) := by decide +kernel
theorem dX8_row_34 : decode cX8_row 34 = .ok (.iload_n 3, 1) := by decide +kernel
theorem dX8_row_35 : decode cX8_row 35 = .ok (.bipush 40, 2) := by decide +kernel
theorem dX8_row_37 : decode cX8_row 37 = .ok (.if_icmp .ge 21, 3) := by decide +kernel
theorem dX8_row_40 : decode cX8_row 40 = .ok (.aload_n 0, 1) := by decide +kernel
theorem dX8_row_41 : decode cX8_row 41 = .ok (.getfield 16, 3) := by decide +kernel
theorem dX8_row_44 : decode cX8_row 44 = .ok (.bipush 40, 2) := by decide +kernel
theorem dX8_row_46 : decode cX8_row 46 = .ok (.iload_n 1, 1) := by decide +kernel
theorem dX8_row_47 : decode cX8_row 47 = .ok (.imul, 1) := by decide +kernel
theorem dX8_row_48 : decode cX8_row 48 = .ok (.iload_n 3, 1) := by decide +kernel
theorem dX8_row_49 : decode cX8_row 49 = .ok (.iadd, 1) := by decide +kernel
theorem dX8_row_50 : decode cX8_row 50 = .ok (.iconst 0, 1) := by decide +kernel
theorem dX8_row_51 : decode cX8_row 51 = .ok (.bastore, 1) := by decide +kernel
theorem dX8_row_52 : decode cX8_row 52 = .ok (.iinc 3 1, 3) := by decide +kernel
theorem dX8_row_55 : decode cX8_row 55 = .ok (.goto (-21), 3) := by decide +kernel
theorem dX8_row_58 : decode cX8_row 58 = .ok (.iload_n 2, 1) := by decide +kernel
theorem dX8_row_59 : decode cX8_row 59 = .ok (.ireturn, 1) := by decide +kernel
set_option maxRecDepth 20000 in
theorem ggX8_lay_X8_isRow : GoodIn wsX8_lay wsX8_isRow := goodIn_r _ [6, 7, 8, 5, 9] (by decide +kernel) (by decide +kernel)
set_option maxRecDepth 20000 in
theorem gX8_lay_X8_isRow : GoodIn wsX8_lay (va_wsS RX8 138 yX8_isRow wsX8_isRow) := goodIn_app (goodIn_of _ (by decide +kernel)) ggX8_lay_X8_isRow
set_option maxRecDepth 20000 in
theorem ggX8_lay_X8_meets : GoodIn wsX8_lay wsX8_meets := goodIn_r _ [13, 14, 15, 16, 17, 18, 19, 20, 21, 22, 23, 24, 25, 26, 27, 28, 29, 30, 31, 32, 33, 34, 35, 36, 37, 38, 39, 40, 41, 42, 43, 44, 45, 46, 47, 48, 49, 50, 51, 52, 53, 54, 55, 56, 57, 58, 59, 60, 61, 62] (by decide +kernel) (by decide +kernel)
set_option maxRecDepth 20000 in
theorem gX8_lay_X8_meets : GoodIn wsX8_lay (wsV RX8 142 RX8 yX8_meets wsX8_meets) := goodIn_app (goodIn_of _ (by decide +kernel)) ggX8_lay_X8_meets
set_option maxRecDepth 20000 in
theorem ggX8_lay_X8_in : GoodIn wsX8_lay wsX8_in := goodIn_r _ [9] (by decide +kernel) (by decide +kernel)
set_option maxRecDepth 20000 in
theorem gX8_lay_X8_in : GoodIn wsX8_lay (va_wsS RX8 125 yX8_in wsX8_in) := goodIn_app (goodIn_of _ (by decide +kernel)) ggX8_lay_X8_in
theorem dX8_lay_0 : decode cX8_lay 0 = .ok (.iload_n 1, 1) := by decide +kernel
theorem dX8_lay_1 : decode cX8_lay 1 = .ok (.invokestatic 138, 3) := by decide +kernel
theorem dX8_lay_4 : decode cX8_lay 4 = .ok (.ifCond .ne 5, 3) := by decide +kernel
theorem dX8_lay_7 : decode cX8_lay 7 = .ok (.iconst (-1), 1) := by decide +kernel
theorem dX8_lay_8 : decode cX8_lay 8 = .ok (.ireturn, 1) := by decide +kernel
theorem dX8_lay_9 : decode cX8_lay 9 = .ok (.aload_n 0, 1) := by decide +kernel
theorem dX8_lay_10 : decode cX8_lay 10 = .ok (.getfield 13, 3) := by decide +kernel
theorem dX8_lay_13 : decode cX8_lay 13 = .ok (.iload_n 1, 1) := by decide +kernel
theorem dX8_lay_14 : decode cX8_lay 14 = .ok (.iaload, 1) := by decide +kernel
theorem dX8_lay_15 : decode cX8_lay 15 = .ok (.ifCond .ge 9, 3) := by decide +kernel
theorem dX8_lay_18 : decode cX8_lay 18 = .ok (.aload_n 0, 1) := by decide +kernel
theorem dX8_lay_19 : decode cX8_lay 19 = .ok (.iconst 1, 1) := by decide +kernel
theorem dX8_lay_20 : decode cX8_lay 20 = .ok (.invokevirtual 142, 3) := by decide +kernel
theorem dX8_lay_23 : decode cX8_lay 23 = .ok (.ireturn, 1) := by decide +kernel
theorem dX8_lay_24 : decode cX8_lay 24 = .ok (.iload_n 2, 1) := by decide +kernel
theorem dX8_lay_25 : decode cX8_lay 25 = .ok (.iconst 0, 1) := by decide +kernel
theorem dX8_lay_26 : decode cX8_lay 26 = .ok (.aload_n 0, 1) := by decide +kernel
theorem dX8_lay_27 : decode cX8_lay 27 = .ok (.getfield 13, 3) := by decide +kernel
theorem dX8_lay_30 : decode cX8_lay 30 = .ok (.iload_n 1, 1) := by decide +kernel
theorem dX8_lay_31 : decode cX8_lay 31 = .ok (.iaload, 1) := by decide +kernel
theorem dX8_lay_32 : decode cX8_lay 32 = .ok (.iconst 1, 1) := by decide +kernel
theorem dX8_lay_33 : decode cX8_lay 33 = .ok (.isub, 1) := by decide +kernel
theorem dX8_lay_34 : decode cX8_lay 34 = .ok (.invokestatic 125, 3) := by decide +kernel
theorem dX8_lay_37 : decode cX8_lay 37 = .ok (.ifCond .ne 9, 3) := by decide +kernel
theorem dX8_lay_40 : decode cX8_lay 40 = .ok (.aload_n 0, 1) := by decide +kernel
theorem dX8_lay_41 : decode cX8_lay 41 = .ok (.iconst 2, 1) := by decide +kernel
theorem dX8_lay_42 : decode cX8_lay 42 = .ok (.invokevirtual 142, 3) := by decide +kernel
theorem dX8_lay_45 : decode cX8_lay 45 = .ok (.ireturn, 1) := by decide +kernel
theorem dX8_lay_46 : decode cX8_lay 46 = .ok (.aload_n 0, 1) := by decide +kernel
theorem dX8_lay_47 : decode cX8_lay 47 = .ok (.getfield 16, 3) := by decide +kernel
theorem dX8_lay_50 : decode cX8_lay 50 = .ok (.bipush 40, 2) := by decide +kernel
theorem dX8_lay_52 : decode cX8_lay 52 = .ok (.iload_n 1, 1) := by decide +kernel
theorem dX8_lay_53 : decode cX8_lay 53 = .ok (.imul, 1) := by decide +kernel
theorem dX8_lay_54 : decode cX8_lay 54 = .ok (.iload_n 2, 1) := by decide +kernel
theorem dX8_lay_55 : decode cX8_lay 55 = .ok (.iadd, 1) := by decide +kernel
theorem dX8_lay_56 : decode cX8_lay 56 = .ok (.baload, 1) := by decide +kernel
theorem dX8_lay_57 : decode cX8_lay 57 = .ok (.istore 4, 2) := by decide +kernel
theorem dX8_lay_59 : decode cX8_lay 59 = .ok (.aload_n 0, 1) := by decide +kernel
theorem dX8_lay_60 : decode cX8_lay 60 = .ok (.getfield 16, 3) := by decide +kernel
theorem dX8_lay_63 : decode cX8_lay 63 = .ok (.bipush 40, 2) := by decide +kernel
theorem dX8_lay_65 : decode cX8_lay 65 = .ok (.iload_n 1, 1) := by decide +kernel
theorem dX8_lay_66 : decode cX8_lay 66 = .ok (.imul, 1) := by decide +kernel
theorem dX8_lay_67 : decode cX8_lay 67 = .ok (.iload_n 2, 1) := by decide +kernel
theorem dX8_lay_68 : decode cX8_lay 68 = .ok (.iadd, 1) := by decide +kernel
theorem dX8_lay_69 : decode cX8_lay 69 = .ok (.iload_n 3, 1) := by decide +kernel
theorem dX8_lay_70 : decode cX8_lay 70 = .ok (.i2b, 1) := by decide +kernel
theorem dX8_lay_71 : decode cX8_lay 71 = .ok (.bastore, 1) := by decide +kernel
theorem dX8_lay_72 : decode cX8_lay 72 = .ok (.sipush 1000, 3) := by decide +kernel
theorem dX8_lay_75 : decode cX8_lay 75 = .ok (.iload 4, 2) := by decide +kernel
theorem dX8_lay_77 : decode cX8_lay 77 = .ok (.iadd, 1) := by decide +kernel
theorem dX8_lay_78 : decode cX8_lay 78 = .ok (.ireturn, 1) := by decide +kernel
set_option maxRecDepth 20000 in
theorem ggX8_tear_X8_isRow : GoodIn wsX8_tear wsX8_isRow := goodIn_r _ [5, 6, 7, 4, 8] (by decide +kernel) (by decide +kernel)
set_option maxRecDepth 20000 in
theorem gX8_tear_X8_isRow : GoodIn wsX8_tear (va_wsS RX8 138 yX8_isRow wsX8_isRow) := goodIn_app (goodIn_of _ (by decide +kernel)) ggX8_tear_X8_isRow
set_option maxRecDepth 20000 in
theorem ggX8_tear_X8_meets : GoodIn wsX8_tear wsX8_meets := goodIn_r _ [12, 13, 14, 15, 16, 17, 18, 19, 20, 21, 22, 23, 24, 25, 26, 27, 28, 29, 30, 31, 32, 33, 34, 35, 36, 37, 38, 39, 40, 41, 42, 43, 44, 45, 46, 47, 48, 49, 50, 51, 52, 53, 54, 55, 56, 57, 58, 59, 60, 61] (by decide +kernel) (by decide +kernel)
set_option maxRecDepth 20000 in
theorem gX8_tear_X8_meets : GoodIn wsX8_tear (wsV RX8 142 RX8 yX8_meets wsX8_meets) := goodIn_app (goodIn_of _ (by decide +kernel)) ggX8_tear_X8_meets
theorem dX8_tear_0 : decode cX8_tear 0 = .ok (.iload_n 1, 1) := by decide +kernel
theorem dX8_tear_1 : decode cX8_tear 1 = .ok (.invokestatic 138, 3) := by decide +kernel
theorem dX8_tear_4 : decode cX8_tear 4 = .ok (.ifCond .ne 5, 3) := by decide +kernel
theorem dX8_tear_7 : decode cX8_tear 7 = .ok (.iconst (-1), 1) := by decide +kernel
theorem dX8_tear_8 : decode cX8_tear 8 = .ok (.ireturn, 1) := by decide +kernel
theorem dX8_tear_9 : decode cX8_tear 9 = .ok (.aload_n 0, 1) := by decide +kernel
theorem dX8_tear_10 : decode cX8_tear 10 = .ok (.getfield 13, 3) := by decide +kernel
theorem dX8_tear_13 : decode cX8_tear 13 = .ok (.iload_n 1, 1) := by decide +kernel
theorem dX8_tear_14 : decode cX8_tear 14 = .ok (.iaload, 1) := by decide +kernel
theorem dX8_tear_15 : decode cX8_tear 15 = .ok (.ifCond .ge 9, 3) := by decide +kernel
theorem dX8_tear_18 : decode cX8_tear 18 = .ok (.aload_n 0, 1) := by decide +kernel
theorem dX8_tear_19 : decode cX8_tear 19 = .ok (.iconst 1, 1) := by decide +kernel
theorem dX8_tear_20 : decode cX8_tear 20 = .ok (.invokevirtual 142, 3) := by decide +kernel
theorem dX8_tear_23 : decode cX8_tear 23 = .ok (.ireturn, 1) := by decide +kernel
theorem dX8_tear_24 : decode cX8_tear 24 = .ok (.aload_n 0, 1) := by decide +kernel
theorem dX8_tear_25 : decode cX8_tear 25 = .ok (.getfield 13, 3) := by decide +kernel
theorem dX8_tear_28 : decode cX8_tear 28 = .ok (.iload_n 1, 1) := by decide +kernel
theorem dX8_tear_29 : decode cX8_tear 29 = .ok (.iconst (-1), 1) := by decide +kernel
theorem dX8_tear_30 : decode cX8_tear 30 = .ok (.iastore, 1) := by decide +kernel
theorem dX8_tear_31 : decode cX8_tear 31 = .ok (.iconst 1, 1) := by decide +kernel
theorem dX8_tear_32 : decode cX8_tear 32 = .ok (.ireturn, 1) := by decide +kernel
set_option maxRecDepth 20000 in
theorem ggX8_copy_X8_isRow : GoodIn wsX8_copy wsX8_isRow := goodIn_r _ [7, 8, 9, 6, 10] (by decide +kernel) (by decide +kernel)
set_option maxRecDepth 20000 in
theorem gX8_copy_X8_isRow : GoodIn wsX8_copy (va_wsS RX8 138 yX8_isRow wsX8_isRow) := goodIn_app (goodIn_of _ (by decide +kernel)) ggX8_copy_X8_isRow
set_option maxRecDepth 20000 in
theorem ggX8_copy_X8_meets : GoodIn wsX8_copy wsX8_meets := goodIn_r _ [14, 15, 16, 17, 18, 19, 20, 21, 22, 23, 24, 25, 26, 27, 28, 29, 30, 31, 32, 33, 34, 35, 36, 37, 38, 39, 40, 41, 42, 43, 44, 45, 46, 47, 48, 49, 50, 51, 52, 53, 54, 55, 56, 57, 58, 59, 60, 61, 62, 63] (by decide +kernel) (by decide +kernel)
set_option maxRecDepth 20000 in
theorem gX8_copy_X8_meets : GoodIn wsX8_copy (wsV RX8 142 RX8 yX8_meets wsX8_meets) := goodIn_app (goodIn_of _ (by decide +kernel)) ggX8_copy_X8_meets
theorem dX8_copy_0 : decode cX8_copy 0 = .ok (.iload_n 1, 1) := by decide +kernel
theorem dX8_copy_1 : decode cX8_copy 1 = .ok (.invokestatic 138, 3) := by decide +kernel
theorem dX8_copy_4 : decode cX8_copy 4 = .ok (.ifCond .eq 10, 3) := by decide +kernel
theorem dX8_copy_7 : decode cX8_copy 7 = .ok (.iload_n 3, 1) := by decide +kernel
theorem dX8_copy_8 : decode cX8_copy 8 = .ok (.invokestatic 138, 3) := by decide +kernel
theorem dX8_copy_11 : decode cX8_copy 11 = .ok (.ifCond .ne 5, 3) := by decide +kernel
theorem dX8_copy_14 : decode cX8_copy 14 = .ok (.iconst (-1), 1) := by decide +kernel
theorem dX8_copy_15 : decode cX8_copy 15 = .ok (.ireturn, 1) := by decide +kernel
theorem dX8_copy_16 : decode cX8_copy 16 = .ok (.aload_n 0, 1) := by decide +kernel
theorem dX8_copy_17 : decode cX8_copy 17 = .ok (.getfield 13, 3) := by decide +kernel
theorem dX8_copy_20 : decode cX8_copy 20 = .ok (.iload_n 1, 1) := by decide +kernel
theorem dX8_copy_21 : decode cX8_copy 21 = .ok (.iaload, 1) := by decide +kernel
theorem dX8_copy_22 : decode cX8_copy 22 = .ok (.ifCond .lt 12, 3) := by decide +kernel
theorem dX8_copy_25 : decode cX8_copy 25 = .ok (.aload_n 0, 1) := by decide +kernel
theorem dX8_copy_26 : decode cX8_copy 26 = .ok (.getfield 13, 3) := by decide +kernel
theorem dX8_copy_29 : decode cX8_copy 29 = .ok (.iload_n 3, 1) := by decide +kernel
theorem dX8_copy_30 : decode cX8_copy 30 = .ok (.iaload, 1) := by decide +kernel
theorem dX8_copy_31 : decode cX8_copy 31 = .ok (.ifCond .ge 9, 3) := by decide +kernel
theorem dX8_copy_34 : decode cX8_copy 34 = .ok (.aload_n 0, 1) := by decide +kernel
theorem dX8_copy_35 : decode cX8_copy 35 = .ok (.iconst 1, 1) := by decide +kernel
theorem dX8_copy_36 : decode cX8_copy 36 = .ok (.invokevirtual 142, 3) := by decide +kernel
theorem dX8_copy_39 : decode cX8_copy 39 = .ok (.ireturn, 1) := by decide +kernel
theorem dX8_copy_40 : decode cX8_copy 40 = .ok (.iload_n 2, 1) := by decide +kernel
theorem dX8_copy_41 : decode cX8_copy 41 = .ok (.ifCond .lt 48, 3) := by decide +kernel
theorem dX8_copy_44 : decode cX8_copy 44 = .ok (.iload 4, 2) := by decide +kernel
theorem dX8_copy_46 : decode cX8_copy 46 = .ok (.ifCond .lt 43, 3) := by decide +kernel
theorem dX8_copy_49 : decode cX8_copy 49 = .ok (.iload 5, 2) := by decide +kernel
theorem dX8_copy_51 : decode cX8_copy 51 = .ok (.ifCond .lt 38, 3) := by decide +kernel
theorem dX8_copy_54 : decode cX8_copy 54 = .ok (.iload_n 2, 1) := by decide +kernel
theorem dX8_copy_55 : decode cX8_copy 55 = .ok (.i2l, 1) := by decide +kernel
theorem dX8_copy_56 : decode cX8_copy 56 = .ok (.iload 5, 2) := by decide +kernel
theorem dX8_copy_58 : decode cX8_copy 58 = .ok (.i2l, 1) := by decide +kernel
theorem dX8_copy_59 : decode cX8_copy 59 = .ok (.ladd, 1) := by decide +kernel
theorem dX8_copy_60 : decode cX8_copy 60 = .ok (.aload_n 0, 1) := by decide +kernel
theorem dX8_copy_61 : decode cX8_copy 61 = .ok (.getfield 13, 3) := by decide +kernel
theorem dX8_copy_64 : decode cX8_copy 64 = .ok (.iload_n 1, 1) := by decide +kernel
theorem dX8_copy_65 : decode cX8_copy 65 = .ok (.iaload, 1) := by decide +kernel
theorem dX8_copy_66 : decode cX8_copy 66 = .ok (.i2l, 1) := by decide +kernel
theorem dX8_copy_67 : decode cX8_copy 67 = .ok (.lcmp, 1) := by decide +kernel
theorem dX8_copy_68 : decode cX8_copy 68 = .ok (.ifCond .gt 21, 3) := by decide +kernel
theorem dX8_copy_71 : decode cX8_copy 71 = .ok (.iload 4, 2) := by decide +kernel
theorem dX8_copy_73 : decode cX8_copy 73 = .ok (.i2l, 1) := by decide +kernel
theorem dX8_copy_74 : decode cX8_copy 74 = .ok (.iload 5, 2) := by decide +kernel
theorem dX8_copy_76 : decode cX8_copy 76 = .ok (.i2l, 1) := by decide +kernel
theorem dX8_copy_77 : decode cX8_copy 77 = .ok (.ladd, 1) := by decide +kernel
theorem dX8_copy_78 : decode cX8_copy 78 = .ok (.aload_n 0, 1) := by decide +kernel
theorem dX8_copy_79 : decode cX8_copy 79 = .ok (.getfield 13, 3) := by decide +kernel
theorem dX8_copy_82 : decode cX8_copy 82 = .ok (.iload_n 3, 1) := by decide +kernel
theorem dX8_copy_83 : decode cX8_copy 83 = .ok (.iaload, 1) := by decide +kernel
theorem dX8_copy_84 : decode cX8_copy 84 = .ok (.i2l, 1) := by decide +kernel
theorem dX8_copy_85 : decode cX8_copy 85 = .ok (.lcmp, 1) := by decide +kernel
theorem dX8_copy_86 : decode cX8_copy 86 = .ok (.ifCond .le 9, 3) := by decide +kernel
theorem dX8_copy_89 : decode cX8_copy 89 = .ok (.aload_n 0, 1) := by decide +kernel
theorem dX8_copy_90 : decode cX8_copy 90 = .ok (.iconst 2, 1) := by decide +kernel
theorem dX8_copy_91 : decode cX8_copy 91 = .ok (.invokevirtual 142, 3) := by decide +kernel
theorem dX8_copy_94 : decode cX8_copy 94 = .ok (.ireturn, 1) := by decide +kernel
theorem dX8_copy_95 : decode cX8_copy 95 = .ok (.iconst 0, 1) := by decide +kernel
theorem dX8_copy_96 : decode cX8_copy 96 = .ok (.istore 6, 2) := by decide +kernel
theorem dX8_copy_98 : decode cX8_copy 98 = .ok (.iload 6, 2) := by decide +kernel
theorem dX8_copy_100 : decode cX8_copy 100 = .ok (.iload 5, 2) := by decide +kernel
theorem dX8_copy_102 : decode cX8_copy 102 = .ok (.if_icmp .ge 30, 3) := by decide +kernel
theorem dX8_copy_105 : decode cX8_copy 105 = .ok (.aload_n 0, 1) := by decide +kernel
theorem dX8_copy_106 : decode cX8_copy 106 = .ok (.getfield 20, 3) := by decide +kernel
theorem dX8_copy_109 : decode cX8_copy 109 = .ok (.iload 6, 2) := by decide +kernel
theorem dX8_copy_111 : decode cX8_copy 111 = .ok (.aload_n 0, 1) := by decide +kernel
theorem dX8_copy_112 : decode cX8_copy 112 = .ok (.getfield 16, 3) := by decide +kernel
theorem dX8_copy_115 : decode cX8_copy 115 = .ok (.bipush 40, 2) := by decide +kernel
theorem dX8_copy_117 : decode cX8_copy 117 = .ok (.iload_n 1, 1) := by decide +kernel
theorem dX8_copy_118 : decode cX8_copy 118 = .ok (.imul, 1) := by decide +kernel
theorem dX8_copy_119 : decode cX8_copy 119 = .ok (.iload_n 2, 1) := by decide +kernel
theorem dX8_copy_120 : decode cX8_copy 120 = .ok (.iadd, 1) := by decide +kernel
theorem dX8_copy_121 : decode cX8_copy 121 = .ok (.iload 6, 2) := by decide +kernel
theorem dX8_copy_123 : decode cX8_copy 123 = .ok (.iadd, 1) := by decide +kernel
theorem dX8_copy_124 : decode cX8_copy 124 = .ok (.baload, 1) := by decide +kernel
theorem dX8_copy_125 : decode cX8_copy 125 = .ok (.bastore, 1) := by decide +kernel
theorem dX8_copy_126 : decode cX8_copy 126 = .ok (.iinc 6 1, 3) := by decide +kernel
theorem dX8_copy_129 : decode cX8_copy 129 = .ok (.goto (-31), 3) := by decide +kernel
theorem dX8_copy_132 : decode cX8_copy 132 = .ok (.iconst 0, 1) := by decide +kernel
theorem dX8_copy_133 : decode cX8_copy 133 = .ok (.istore 6, 2) := by decide +kernel
theorem dX8_copy_135 : decode cX8_copy 135 = .ok (.iload 6, 2) := by decide +kernel
theorem dX8_copy_137 : decode cX8_copy 137 = .ok (.iload 5, 2) := by decide +kernel
theorem dX8_copy_139 : decode cX8_copy 139 = .ok (.if_icmp .ge 31, 3) := by decide +kernel
theorem dX8_copy_142 : decode cX8_copy 142 = .ok (.aload_n 0, 1) := by decide +kernel
theorem dX8_copy_143 : decode cX8_copy 143 = .ok (.getfield 16, 3) := by decide +kernel
theorem dX8_copy_146 : decode cX8_copy 146 = .ok (.bipush 40, 2) := by decide +kernel
theorem dX8_copy_148 : decode cX8_copy 148 = .ok (.iload_n 3, 1) := by decide +kernel
theorem dX8_copy_149 : decode cX8_copy 149 = .ok (.imul, 1) := by decide +kernel
theorem dX8_copy_150 : decode cX8_copy 150 = .ok (.iload 4, 2) := by decide +kernel
theorem dX8_copy_152 : decode cX8_copy 152 = .ok (.iadd, 1) := by decide +kernel
theorem dX8_copy_153 : decode cX8_copy 153 = .ok (.iload 6, 2) := by decide +kernel
theorem dX8_copy_155 : decode cX8_copy 155 = .ok (.iadd, 1) := by decide +kernel
theorem dX8_copy_156 : decode cX8_copy 156 = .ok (.aload_n 0, 1) := by decide +kernel
theorem dX8_copy_157 : decode cX8_copy 157 = .ok (.getfield 20, 3) := by decide +kernel
theorem dX8_copy_160 : decode cX8_copy 160 = .ok (.iload 6, 2) := by decide +kernel
theorem dX8_copy_162 : decode cX8_copy 162 = .ok (.baload, 1) := by decide +kernel
theorem dX8_copy_163 : decode cX8_copy 163 = .ok (.bastore, 1) := by decide +kernel
theorem dX8_copy_164 : decode cX8_copy 164 = .ok (.iinc 6 1, 3) := by decide +kernel
theorem dX8_copy_167 : decode cX8_copy 167 = .ok (.goto (-32), 3) := by decide +kernel
theorem dX8_copy_170 : decode cX8_copy 170 = .ok (.iconst 1, 1) := by decide +kernel
theorem dX8_copy_171 : decode cX8_copy 171 = .ok (.ireturn, 1) := by decide +kernel
theorem dX8_offAt_0 : decode cX8_offAt 0 = .ok (.iconst 0, 1) := by decide +kernel
theorem dX8_offAt_1 : decode cX8_offAt 1 = .ok (.istore 4, 2) := by decide +kernel
theorem dX8_offAt_3 : decode cX8_offAt 3 = .ok (.iconst 0, 1) := by decide +kernel
theorem dX8_offAt_4 : decode cX8_offAt 4 = .ok (.istore 5, 2) := by decide +kernel
theorem dX8_offAt_6 : decode cX8_offAt 6 = .ok (.iload 5, 2) := by decide +kernel
theorem dX8_offAt_8 : decode cX8_offAt 8 = .ok (.aload_n 0, 1) := by decide +kernel
theorem dX8_offAt_9 : decode cX8_offAt 9 = .ok (.getfield 13, 3) := by decide +kernel
theorem dX8_offAt_12 : decode cX8_offAt 12 = .ok (.iload_n 1, 1) := by decide +kernel
theorem dX8_offAt_13 : decode cX8_offAt 13 = .ok (.iaload, 1) := by decide +kernel
theorem dX8_offAt_14 : decode cX8_offAt 14 = .ok (.if_icmp .ge 56, 3) := by decide +kernel
theorem dX8_offAt_17 : decode cX8_offAt 17 = .ok (.aload_n 0, 1) := by decide +kernel
theorem dX8_offAt_18 : decode cX8_offAt 18 = .ok (.getfield 16, 3) := by decide +kernel
theorem dX8_offAt_21 : decode cX8_offAt 21 = .ok (.bipush 40, 2) := by decide +kernel
theorem dX8_offAt_23 : decode cX8_offAt 23 = .ok (.iload_n 1, 1) := by decide +kernel
theorem dX8_offAt_24 : decode cX8_offAt 24 = .ok (.imul, 1) := by decide +kernel
theorem dX8_offAt_25 : decode cX8_offAt 25 = .ok (.iload 5, 2) := by decide +kernel
theorem dX8_offAt_27 : decode cX8_offAt 27 = .ok (.iadd, 1) := by decide +kernel
theorem dX8_offAt_28 : decode cX8_offAt 28 = .ok (.baload, 1) := by decide +kernel
theorem dX8_offAt_29 : decode cX8_offAt 29 = .ok (.aload_n 0, 1) := by decide +kernel
theorem dX8_offAt_30 : decode cX8_offAt 30 = .ok (.getfield 16, 3) := by decide +kernel
theorem dX8_offAt_33 : decode cX8_offAt 33 = .ok (.bipush 40, 2) := by decide +kernel
theorem dX8_offAt_35 : decode cX8_offAt 35 = .ok (.iload_n 2, 1) := by decide +kernel
theorem dX8_offAt_36 : decode cX8_offAt 36 = .ok (.imul, 1) := by decide +kernel
theorem dX8_offAt_37 : decode cX8_offAt 37 = .ok (.iload_n 3, 1) := by decide +kernel
theorem dX8_offAt_38 : decode cX8_offAt 38 = .ok (.iadd, 1) := by decide +kernel
theorem dX8_offAt_39 : decode cX8_offAt 39 = .ok (.iload 5, 2) := by decide +kernel
theorem dX8_offAt_41 : decode cX8_offAt 41 = .ok (.iadd, 1) := by decide +kernel
theorem dX8_offAt_42 : decode cX8_offAt 42 = .ok (.baload, 1) := by decide +kernel
theorem dX8_offAt_43 : decode cX8_offAt 43 = .ok (.isub, 1) := by decide +kernel
theorem dX8_offAt_44 : decode cX8_offAt 44 = .ok (.istore 6, 2) := by decide +kernel
theorem dX8_offAt_46 : decode cX8_offAt 46 = .ok (.iload 4, 2) := by decide +kernel
theorem dX8_offAt_48 : decode cX8_offAt 48 = .ok (.iload 6, 2) := by decide +kernel
theorem dX8_offAt_50 : decode cX8_offAt 50 = .ok (.ifCond .ge 9, 3) := by decide +kernel
theorem dX8_offAt_53 : decode cX8_offAt 53 = .ok (.iload 6, 2) := by decide +kernel
theorem dX8_offAt_55 : decode cX8_offAt 55 = .ok (.ineg, 1) := by decide +kernel
theorem dX8_offAt_56 : decode cX8_offAt 56 = .ok (.goto 5, 3) := by decide +kernel
theorem dX8_offAt_59 : decode cX8_offAt 59 = .ok (.iload 6, 2) := by decide +kernel
theorem dX8_offAt_61 : decode cX8_offAt 61 = .ok (.iadd, 1) := by decide +kernel
theorem dX8_offAt_62 : decode cX8_offAt 62 = .ok (.istore 4, 2) := by decide +kernel
theorem dX8_offAt_64 : decode cX8_offAt 64 = .ok (.iinc 5 1, 3) := by decide +kernel
theorem dX8_offAt_67 : decode cX8_offAt 67 = .ok (.goto (-61), 3) := by decide +kernel
theorem dX8_offAt_70 : decode cX8_offAt 70 = .ok (.iload 4, 2) := by decide +kernel
theorem dX8_offAt_72 : decode cX8_offAt 72 = .ok (.ireturn, 1) := by decide +kernel
set_option maxRecDepth 20000 in
theorem ggX8_placeOf_X8_offAt : GoodIn wsX8_placeOf wsX8_offAt := goodIn_r _ [6, 1, 7, 8, 9, 10, 11, 12, 13, 14, 15, 16, 17, 18, 19, 20, 21, 22, 23, 24, 25, 26, 27, 28, 29, 30, 31, 32, 33, 34, 35, 36, 37, 38, 39, 40, 41, 42, 43, 44, 45, 46, 47, 48, 49, 50, 51, 52, 53, 54] (by decide +kernel) (by decide +kernel)
set_option maxRecDepth 20000 in
theorem gX8_placeOf_X8_offAt : GoodIn wsX8_placeOf (wsV RX8 146 RX8 yX8_offAt wsX8_offAt) := goodIn_app (goodIn_of _ (by decide +kernel)) ggX8_placeOf_X8_offAt
theorem dX8_placeOf_0 : decode cX8_placeOf 0 = .ok (.iconst 0, 1) := by decide +kernel
theorem dX8_placeOf_1 : decode cX8_placeOf 1 = .ok (.istore_n 3, 1) := by decide +kernel
theorem dX8_placeOf_2 : decode cX8_placeOf 2 = .ok (.iconst 1, 1) := by decide +kernel
theorem dX8_placeOf_3 : decode cX8_placeOf 3 = .ok (.istore 4, 2) := by decide +kernel
theorem dX8_placeOf_5 : decode cX8_placeOf 5 = .ok (.iload 4, 2) := by decide +kernel
theorem dX8_placeOf_7 : decode cX8_placeOf 7 = .ok (.aload_n 0, 1) := by decide +kernel
theorem dX8_placeOf_8 : decode cX8_placeOf 8 = .ok (.getfield 13, 3) := by decide +kernel
theorem dX8_placeOf_11 : decode cX8_placeOf 11 = .ok (.iload_n 1, 1) := by decide +kernel
theorem dX8_placeOf_12 : decode cX8_placeOf 12 = .ok (.iaload, 1) := by decide +kernel
theorem dX8_placeOf_13 : decode cX8_placeOf 13 = .ok (.iadd, 1) := by decide +kernel
theorem dX8_placeOf_14 : decode cX8_placeOf 14 = .ok (.aload_n 0, 1) := by decide +kernel
theorem dX8_placeOf_15 : decode cX8_placeOf 15 = .ok (.getfield 13, 3) := by decide +kernel
theorem dX8_placeOf_18 : decode cX8_placeOf 18 = .ok (.iload_n 2, 1) := by decide +kernel
theorem dX8_placeOf_19 : decode cX8_placeOf 19 = .ok (.iaload, 1) := by decide +kernel
theorem dX8_placeOf_20 : decode cX8_placeOf 20 = .ok (.if_icmp .gt 34, 3) := by decide +kernel
theorem dX8_placeOf_23 : decode cX8_placeOf 23 = .ok (.aload_n 0, 1) := by decide +kernel
theorem dX8_placeOf_24 : decode cX8_placeOf 24 = .ok (.iload_n 1, 1) := by decide +kernel
theorem dX8_placeOf_25 : decode cX8_placeOf 25 = .ok (.iload_n 2, 1) := by decide +kernel
theorem dX8_placeOf_26 : decode cX8_placeOf 26 = .ok (.iload 4, 2) := by decide +kernel
theorem dX8_placeOf_28 : decode cX8_placeOf 28 = .ok (.invokevirtual 146, 3) := by decide +kernel
theorem dX8_placeOf_31 : decode cX8_placeOf 31 = .ok (.aload_n 0, 1) := by decide +kernel
theorem dX8_placeOf_32 : decode cX8_placeOf 32 = .ok (.iload_n 1, 1) := by decide +kernel
theorem dX8_placeOf_33 : decode cX8_placeOf 33 = .ok (.iload_n 2, 1) := by decide +kernel
theorem dX8_placeOf_34 : decode cX8_placeOf 34 = .ok (.iload_n 3, 1) := by decide +kernel
theorem dX8_placeOf_35 : decode cX8_placeOf 35 = .ok (.invokevirtual 146, 3) := by decide +kernel
theorem dX8_placeOf_38 : decode cX8_placeOf 38 = .ok (.if_icmp .ge 8, 3) := by decide +kernel
theorem dX8_placeOf_41 : decode cX8_placeOf 41 = .ok (.iload 4, 2) := by decide +kernel
theorem dX8_placeOf_43 : decode cX8_placeOf 43 = .ok (.goto 4, 3) := by decide +kernel
theorem dX8_placeOf_46 : decode cX8_placeOf 46 = .ok (.iload_n 3, 1) := by decide +kernel
theorem dX8_placeOf_47 : decode cX8_placeOf 47 = .ok (.istore_n 3, 1) := by decide +kernel
theorem dX8_placeOf_48 : decode cX8_placeOf 48 = .ok (.iinc 4 1, 3) := by decide +kernel
theorem dX8_placeOf_51 : decode cX8_placeOf 51 = .ok (.goto (-46), 3) := by decide +kernel
theorem dX8_placeOf_54 : decode cX8_placeOf 54 = .ok (.iload_n 3, 1) := by decide +kernel
theorem dX8_placeOf_55 : decode cX8_placeOf 55 = .ok (.ireturn, 1) := by decide +kernel
theorem dX8_mayMatch_0 : decode cX8_mayMatch 0 = .ok (.aload_n 0, 1) := by decide +kernel
theorem dX8_mayMatch_1 : decode cX8_mayMatch 1 = .ok (.getfield 13, 3) := by decide +kernel
theorem dX8_mayMatch_4 : decode cX8_mayMatch 4 = .ok (.iload_n 1, 1) := by decide +kernel
theorem dX8_mayMatch_5 : decode cX8_mayMatch 5 = .ok (.iaload, 1) := by decide +kernel
theorem dX8_mayMatch_6 : decode cX8_mayMatch 6 = .ok (.ifCond .le 22, 3) := by decide +kernel
theorem dX8_mayMatch_9 : decode cX8_mayMatch 9 = .ok (.aload_n 0, 1) := by decide +kernel
theorem dX8_mayMatch_10 : decode cX8_mayMatch 10 = .ok (.getfield 13, 3) := by decide +kernel
theorem dX8_mayMatch_13 : decode cX8_mayMatch 13 = .ok (.iload_n 2, 1) := by decide +kernel
theorem dX8_mayMatch_14 : decode cX8_mayMatch 14 = .ok (.iaload, 1) := by decide +kernel
theorem dX8_mayMatch_15 : decode cX8_mayMatch 15 = .ok (.aload_n 0, 1) := by decide +kernel
theorem dX8_mayMatch_16 : decode cX8_mayMatch 16 = .ok (.getfield 13, 3) := by decide +kernel
theorem dX8_mayMatch_19 : decode cX8_mayMatch 19 = .ok (.iload_n 1, 1) := by decide +kernel
theorem dX8_mayMatch_20 : decode cX8_mayMatch 20 = .ok (.iaload, 1) := by decide +kernel
theorem dX8_mayMatch_21 : decode cX8_mayMatch 21 = .ok (.if_icmp .lt 7, 3) := by decide +kernel
theorem dX8_mayMatch_24 : decode cX8_mayMatch 24 = .ok (.iconst 1, 1) := by decide +kernel
theorem dX8_mayMatch_25 : decode cX8_mayMatch 25 = .ok (.goto 4, 3) := by decide +kernel
theorem dX8_mayMatch_28 : decode cX8_mayMatch 28 = .ok (.iconst 0, 1) := by decide +kernel
theorem dX8_mayMatch_29 : decode cX8_mayMatch 29 = .ok (.ireturn, 1) := by decide +kernel
set_option maxRecDepth 20000 in
theorem ggX8_match_X8_isRow : GoodIn wsX8_match wsX8_isRow := goodIn_r _ [5, 6, 7, 4, 8] (by decide +kernel) (by decide +kernel)
set_option maxRecDepth 20000 in
theorem gX8_match_X8_isRow : GoodIn wsX8_match (va_wsS RX8 138 yX8_isRow wsX8_isRow) := goodIn_app (goodIn_of _ (by decide +kernel)) ggX8_match_X8_isRow
set_option maxRecDepth 20000 in
theorem ggX8_match_X8_meets : GoodIn wsX8_match wsX8_meets := goodIn_r _ [12, 13, 14, 33, 34, 35, 36, 37, 38, 39, 40, 41, 42, 43, 44, 45, 46, 47, 48, 49, 50, 51, 52, 53, 54, 55, 56, 57, 58, 59, 60, 61, 62, 63, 64, 65, 66, 67, 68, 69, 70, 71, 72, 73, 74, 75, 76, 77, 78, 79] (by decide +kernel) (by decide +kernel)
set_option maxRecDepth 20000 in
theorem gX8_match_X8_meets : GoodIn wsX8_match (wsV RX8 142 RX8 yX8_meets wsX8_meets) := goodIn_app (goodIn_of _ (by decide +kernel)) ggX8_match_X8_meets
set_option maxRecDepth 20000 in
theorem ggX8_match_X8_mayMatch : GoodIn wsX8_match wsX8_mayMatch := goodIn_r _ [18, 1, 33, 34, 35, 36, 37, 38, 39, 40, 41, 42, 43, 44, 45, 46, 47, 48, 49, 50, 51, 52, 53, 54, 55, 56, 57, 58, 59, 60, 61, 62, 63, 64, 65, 66, 67, 68, 69, 70, 71, 72, 73, 74, 75, 76, 77, 78, 79] (by decide +kernel) (by decide +kernel)
set_option maxRecDepth 20000 in
theorem gX8_match_X8_mayMatch : GoodIn wsX8_match (wsV RX8 150 RX8 yX8_mayMatch wsX8_mayMatch) := goodIn_app (goodIn_of _ (by decide +kernel)) ggX8_match_X8_mayMatch
set_option maxRecDepth 20000 in
theorem ggX8_match_X8_placeOf : GoodIn wsX8_match wsX8_placeOf := goodIn_r _ [22, 1, 23, 24, 25, 4, 26, 27, 33, 34, 35, 36, 37, 38, 39, 40, 41, 42, 43, 44, 45, 46, 47, 48, 49, 50, 51, 52, 53, 54, 55, 56, 57, 58, 59, 60, 61, 62, 63, 64, 65, 66, 67, 68, 69, 70, 71, 72, 73, 74, 75, 76, 77, 78, 79] (by decide +kernel) (by decide +kernel)
set_option maxRecDepth 20000 in
theorem gX8_match_X8_placeOf : GoodIn wsX8_match (wsV RX8 154 RX8 yX8_placeOf wsX8_placeOf) := goodIn_app (goodIn_of _ (by decide +kernel)) ggX8_match_X8_placeOf
set_option maxRecDepth 20000 in
theorem ggX8_match_X8_offAt : GoodIn wsX8_match wsX8_offAt := goodIn_r _ [26, 1, 27, 33, 34, 35, 36, 37, 38, 39, 40, 41, 42, 43, 44, 45, 46, 47, 48, 49, 50, 51, 52, 53, 54, 55, 56, 57, 58, 59, 60, 61, 62, 63, 64, 65, 66, 67, 68, 69, 70, 71, 72, 73, 74, 75, 76, 77, 78, 79] (by decide +kernel) (by decide +kernel)
set_option maxRecDepth 20000 in
theorem gX8_match_X8_offAt : GoodIn wsX8_match (wsV RX8 146 RX8 yX8_offAt wsX8_offAt) := goodIn_app (goodIn_of _ (by decide +kernel)) ggX8_match_X8_offAt
set_option maxRecDepth 20000 in
theorem ggX8_match_X8_tells : GoodIn wsX8_match wsX8_tells := goodIn_r _ [31, 32, 33, 34, 35, 36, 37, 38, 39, 40, 41, 42, 43, 44, 45, 46, 47, 48, 49, 50, 51, 52, 53, 54, 55, 56, 57, 58, 59, 60, 61, 62, 63, 64, 65, 66, 67, 68, 69, 70, 71, 72, 73, 74, 75, 76, 77, 78, 79] (by decide +kernel) (by decide +kernel)
set_option maxRecDepth 20000 in
theorem gX8_match_X8_tells : GoodIn wsX8_match (wsV RX8 158 RX8 yX8_tells wsX8_tells) := goodIn_app (goodIn_of _ (by decide +kernel)) ggX8_match_X8_tells
theorem dX8_match_0 : decode cX8_match 0 = .ok (.iload_n 1, 1) := by decide +kernel
theorem dX8_match_1 : decode cX8_match 1 = .ok (.invokestatic 138, 3) := by decide +kernel
theorem dX8_match_4 : decode cX8_match 4 = .ok (.ifCond .eq 15, 3) := by decide +kernel
theorem dX8_match_7 : decode cX8_match 7 = .ok (.iload_n 2, 1) := by decide +kernel
theorem dX8_match_8 : decode cX8_match 8 = .ok (.invokestatic 138, 3) := by decide +kernel
theorem dX8_match_11 : decode cX8_match 11 = .ok (.ifCond .eq 8, 3) := by decide +kernel
theorem dX8_match_14 : decode cX8_match 14 = .ok (.iload_n 1, 1) := by decide +kernel
theorem dX8_match_15 : decode cX8_match 15 = .ok (.iload_n 2, 1) := by decide +kernel
theorem dX8_match_16 : decode cX8_match 16 = .ok (.if_icmp .ne 5, 3) := by decide +kernel
theorem dX8_match_19 : decode cX8_match 19 = .ok (.iconst (-1), 1) := by decide +kernel
theorem dX8_match_20 : decode cX8_match 20 = .ok (.ireturn, 1) := by decide +kernel
theorem dX8_match_21 : decode cX8_match 21 = .ok (.aload_n 0, 1) := by decide +kernel
theorem dX8_match_22 : decode cX8_match 22 = .ok (.getfield 13, 3) := by decide +kernel
theorem dX8_match_25 : decode cX8_match 25 = .ok (.iload_n 1, 1) := by decide +kernel
theorem dX8_match_26 : decode cX8_match 26 = .ok (.iaload, 1) := by decide +kernel
theorem dX8_match_27 : decode cX8_match 27 = .ok (.ifCond .lt 12, 3) := by decide +kernel
theorem dX8_match_30 : decode cX8_match 30 = .ok (.aload_n 0, 1) := by decide +kernel
theorem dX8_match_31 : decode cX8_match 31 = .ok (.getfield 13, 3) := by decide +kernel
theorem dX8_match_34 : decode cX8_match 34 = .ok (.iload_n 2, 1) := by decide +kernel
theorem dX8_match_35 : decode cX8_match 35 = .ok (.iaload, 1) := by decide +kernel
theorem dX8_match_36 : decode cX8_match 36 = .ok (.ifCond .ge 9, 3) := by decide +kernel
theorem dX8_match_39 : decode cX8_match 39 = .ok (.aload_n 0, 1) := by decide +kernel
theorem dX8_match_40 : decode cX8_match 40 = .ok (.iconst 1, 1) := by decide +kernel
theorem dX8_match_41 : decode cX8_match 41 = .ok (.invokevirtual 142, 3) := by decide +kernel
theorem dX8_match_44 : decode cX8_match 44 = .ok (.ireturn, 1) := by decide +kernel
theorem dX8_match_45 : decode cX8_match 45 = .ok (.aload_n 0, 1) := by decide +kernel
theorem dX8_match_46 : decode cX8_match 46 = .ok (.iload_n 1, 1) := by decide +kernel
theorem dX8_match_47 : decode cX8_match 47 = .ok (.iload_n 2, 1) := by decide +kernel
theorem dX8_match_48 : decode cX8_match 48 = .ok (.invokevirtual 150, 3) := by decide +kernel
theorem dX8_match_51 : decode cX8_match 51 = .ok (.ifCond .ne 9, 3) := by decide +kernel
theorem dX8_match_54 : decode cX8_match 54 = .ok (.aload_n 0, 1) := by decide +kernel
theorem dX8_match_55 : decode cX8_match 55 = .ok (.iconst 5, 1) := by decide +kernel
theorem dX8_match_56 : decode cX8_match 56 = .ok (.invokevirtual 142, 3) := by decide +kernel
theorem dX8_match_59 : decode cX8_match 59 = .ok (.ireturn, 1) := by decide +kernel
theorem dX8_match_60 : decode cX8_match 60 = .ok (.aload_n 0, 1) := by decide +kernel
theorem dX8_match_61 : decode cX8_match 61 = .ok (.iload_n 1, 1) := by decide +kernel
theorem dX8_match_62 : decode cX8_match 62 = .ok (.iload_n 2, 1) := by decide +kernel
theorem dX8_match_63 : decode cX8_match 63 = .ok (.invokevirtual 154, 3) := by decide +kernel
theorem dX8_match_66 : decode cX8_match 66 = .ok (.istore_n 3, 1) := by decide +kernel
theorem dX8_match_67 : decode cX8_match 67 = .ok (.aload_n 0, 1) := by decide +kernel
theorem dX8_match_68 : decode cX8_match 68 = .ok (.aload_n 0, 1) := by decide +kernel
theorem dX8_match_69 : decode cX8_match 69 = .ok (.iload_n 1, 1) := by decide +kernel
theorem dX8_match_70 : decode cX8_match 70 = .ok (.iload_n 2, 1) := by decide +kernel
theorem dX8_match_71 : decode cX8_match 71 = .ok (.iload_n 3, 1) := by decide +kernel
theorem dX8_match_72 : decode cX8_match 72 = .ok (.invokevirtual 146, 3) := by decide +kernel
theorem dX8_match_75 : decode cX8_match 75 = .ok (.iload_n 3, 1) := by decide +kernel
theorem dX8_match_76 : decode cX8_match 76 = .ok (.invokevirtual 158, 3) := by decide +kernel
theorem dX8_match_79 : decode cX8_match 79 = .ok (.ireturn, 1) := by decide +kernel
set_option maxRecDepth 20000 in
theorem ggX8_isSure_X8_mayMatch : GoodIn wsX8_isSure wsX8_mayMatch := goodIn_r _ [5, 6, 16, 17, 18, 19, 20, 21, 22, 23, 24, 25, 26, 27, 28, 29, 30, 31, 32, 33, 34, 35, 36, 37, 38, 39, 40, 41, 42, 43, 44, 45, 46, 47, 48, 49, 50, 51, 52, 53, 54, 55, 56, 57, 58, 59, 60, 61, 62] (by decide +kernel) (by decide +kernel)
set_option maxRecDepth 20000 in
theorem gX8_isSure_X8_mayMatch : GoodIn wsX8_isSure (wsV RX8 150 RX8 yX8_mayMatch wsX8_mayMatch) := goodIn_app (goodIn_of _ (by decide +kernel)) ggX8_isSure_X8_mayMatch
set_option maxRecDepth 20000 in
theorem ggX8_isSure_X8_placeOf : GoodIn wsX8_isSure wsX8_placeOf := goodIn_r _ [10, 6, 11, 12, 13, 4, 14, 15, 16, 17, 18, 19, 20, 21, 22, 23, 24, 25, 26, 27, 28, 29, 30, 31, 32, 33, 34, 35, 36, 37, 38, 39, 40, 41, 42, 43, 44, 45, 46, 47, 48, 49, 50, 51, 52, 53, 54, 55, 56, 57, 58, 59, 60, 61, 62] (by decide +kernel) (by decide +kernel)
set_option maxRecDepth 20000 in
theorem gX8_isSure_X8_placeOf : GoodIn wsX8_isSure (wsV RX8 154 RX8 yX8_placeOf wsX8_placeOf) := goodIn_app (goodIn_of _ (by decide +kernel)) ggX8_isSure_X8_placeOf
set_option maxRecDepth 20000 in
theorem ggX8_isSure_X8_offAt : GoodIn wsX8_isSure wsX8_offAt := goodIn_r _ [14, 6, 15, 16, 17, 18, 19, 20, 21, 22, 23, 24, 25, 26, 27, 28, 29, 30, 31, 32, 33, 34, 35, 36, 37, 38, 39, 40, 41, 42, 43, 44, 45, 46, 47, 48, 49, 50, 51, 52, 53, 54, 55, 56, 57, 58, 59, 60, 61, 62] (by decide +kernel) (by decide +kernel)
set_option maxRecDepth 20000 in
theorem gX8_isSure_X8_offAt : GoodIn wsX8_isSure (wsV RX8 146 RX8 yX8_offAt wsX8_offAt) := goodIn_app (goodIn_of _ (by decide +kernel)) ggX8_isSure_X8_offAt
theorem dX8_isSure_0 : decode cX8_isSure 0 = .ok (.aload_n 0, 1) := by decide +kernel
theorem dX8_isSure_1 : decode cX8_isSure 1 = .ok (.iload_n 1, 1) := by decide +kernel
theorem dX8_isSure_2 : decode cX8_isSure 2 = .ok (.iload_n 2, 1) := by decide +kernel
theorem dX8_isSure_3 : decode cX8_isSure 3 = .ok (.invokevirtual 150, 3) := by decide +kernel
theorem dX8_isSure_6 : decode cX8_isSure 6 = .ok (.ifCond .ne 5, 3) := by decide +kernel
theorem dX8_isSure_9 : decode cX8_isSure 9 = .ok (.iconst 0, 1) := by decide +kernel
theorem dX8_isSure_10 : decode cX8_isSure 10 = .ok (.ireturn, 1) := by decide +kernel
theorem dX8_isSure_11 : decode cX8_isSure 11 = .ok (.aload_n 0, 1) := by decide +kernel
theorem dX8_isSure_12 : decode cX8_isSure 12 = .ok (.iload_n 1, 1) := by decide +kernel
theorem dX8_isSure_13 : decode cX8_isSure 13 = .ok (.iload_n 2, 1) := by decide +kernel
theorem dX8_isSure_14 : decode cX8_isSure 14 = .ok (.aload_n 0, 1) := by decide +kernel
theorem dX8_isSure_15 : decode cX8_isSure 15 = .ok (.iload_n 1, 1) := by decide +kernel
theorem dX8_isSure_16 : decode cX8_isSure 16 = .ok (.iload_n 2, 1) := by decide +kernel
theorem dX8_isSure_17 : decode cX8_isSure 17 = .ok (.invokevirtual 154, 3) := by decide +kernel
theorem dX8_isSure_20 : decode cX8_isSure 20 = .ok (.invokevirtual 146, 3) := by decide +kernel
theorem dX8_isSure_23 : decode cX8_isSure 23 = .ok (.istore_n 3, 1) := by decide +kernel
theorem dX8_isSure_24 : decode cX8_isSure 24 = .ok (.iconst 1, 1) := by decide +kernel
theorem dX8_isSure_25 : decode cX8_isSure 25 = .ok (.istore 4, 2) := by decide +kernel
theorem dX8_isSure_27 : decode cX8_isSure 27 = .ok (.iconst 0, 1) := by decide +kernel
theorem dX8_isSure_28 : decode cX8_isSure 28 = .ok (.istore 5, 2) := by decide +kernel
theorem dX8_isSure_30 : decode cX8_isSure 30 = .ok (.iload 5, 2) := by decide +kernel
theorem dX8_isSure_32 : decode cX8_isSure 32 = .ok (.bipush 6, 2) := by decide +kernel
theorem dX8_isSure_34 : decode cX8_isSure 34 = .ok (.if_icmp .ge 61, 3) := by decide +kernel
theorem dX8_isSure_37 : decode cX8_isSure 37 = .ok (.iload 5, 2) := by decide +kernel
theorem dX8_isSure_39 : decode cX8_isSure 39 = .ok (.iload_n 1, 1) := by decide +kernel
theorem dX8_isSure_40 : decode cX8_isSure 40 = .ok (.if_icmp .eq 49, 3) := by decide +kernel
theorem dX8_isSure_43 : decode cX8_isSure 43 = .ok (.iload 5, 2) := by decide +kernel
theorem dX8_isSure_45 : decode cX8_isSure 45 = .ok (.iload_n 2, 1) := by decide +kernel
theorem dX8_isSure_46 : decode cX8_isSure 46 = .ok (.if_icmp .eq 43, 3) := by decide +kernel
theorem dX8_isSure_49 : decode cX8_isSure 49 = .ok (.aload_n 0, 1) := by decide +kernel
theorem dX8_isSure_50 : decode cX8_isSure 50 = .ok (.iload_n 1, 1) := by decide +kernel
theorem dX8_isSure_51 : decode cX8_isSure 51 = .ok (.iload 5, 2) := by decide +kernel
theorem dX8_isSure_53 : decode cX8_isSure 53 = .ok (.invokevirtual 150, 3) := by decide +kernel
theorem dX8_isSure_56 : decode cX8_isSure 56 = .ok (.ifCond .eq 33, 3) := by decide +kernel
theorem dX8_isSure_59 : decode cX8_isSure 59 = .ok (.iload 4, 2) := by decide +kernel
theorem dX8_isSure_61 : decode cX8_isSure 61 = .ok (.ifCond .eq 25, 3) := by decide +kernel
theorem dX8_isSure_64 : decode cX8_isSure 64 = .ok (.aload_n 0, 1) := by decide +kernel
theorem dX8_isSure_65 : decode cX8_isSure 65 = .ok (.iload_n 1, 1) := by decide +kernel
theorem dX8_isSure_66 : decode cX8_isSure 66 = .ok (.iload 5, 2) := by decide +kernel
theorem dX8_isSure_68 : decode cX8_isSure 68 = .ok (.aload_n 0, 1) := by decide +kernel
theorem dX8_isSure_69 : decode cX8_isSure 69 = .ok (.iload_n 1, 1) := by decide +kernel
theorem dX8_isSure_70 : decode cX8_isSure 70 = .ok (.iload 5, 2) := by decide +kernel
theorem dX8_isSure_72 : decode cX8_isSure 72 = .ok (.invokevirtual 154, 3) := by decide +kernel
theorem dX8_isSure_75 : decode cX8_isSure 75 = .ok (.invokevirtual 146, 3) := by decide +kernel
theorem dX8_isSure_78 : decode cX8_isSure 78 = .ok (.iload_n 3, 1) := by decide +kernel
theorem dX8_isSure_79 : decode cX8_isSure 79 = .ok (.if_icmp .le 7, 3) := by decide +kernel
theorem dX8_isSure_82 : decode cX8_isSure 82 = .ok (.iconst 1, 1) := by decide +kernel
theorem dX8_isSure_83 : decode cX8_isSure 83 = .ok (.goto 4, 3) := by decide +kernel
theorem dX8_isSure_86 : decode cX8_isSure 86 = .ok (.iconst 0, 1) := by decide +kernel
theorem dX8_isSure_87 : decode cX8_isSure 87 = .ok (.istore 4, 2) := by decide +kernel
theorem dX8_isSure_89 : decode cX8_isSure 89 = .ok (.iinc 5 1, 3) := by decide +kernel
theorem dX8_isSure_92 : decode cX8_isSure 92 = .ok (.goto (-62), 3) := by decide +kernel
theorem dX8_isSure_95 : decode cX8_isSure 95 = .ok (.iload 4, 2) := by decide +kernel
theorem dX8_isSure_97 : decode cX8_isSure 97 = .ok (.ireturn, 1) := by decide +kernel
set_option maxRecDepth 20000 in
theorem ggX8_sure_X8_isRow : GoodIn wsX8_sure wsX8_isRow := goodIn_r _ [4, 5, 6, 3, 7] (by decide +kernel) (by decide +kernel)
set_option maxRecDepth 20000 in
theorem gX8_sure_X8_isRow : GoodIn wsX8_sure (va_wsS RX8 138 yX8_isRow wsX8_isRow) := goodIn_app (goodIn_of _ (by decide +kernel)) ggX8_sure_X8_isRow
set_option maxRecDepth 20000 in
theorem ggX8_sure_X8_isSure : GoodIn wsX8_sure wsX8_isSure := goodIn_r _ [11, 12, 13, 14, 3, 15, 16, 17, 18, 19, 20, 21, 22, 23, 24, 25, 26, 27, 28, 29, 30, 31, 32, 33, 34, 35, 36, 37, 38, 39, 40, 41, 42, 43, 44, 45, 46, 47, 48, 49, 50, 51, 52, 53, 54, 55, 56, 57, 58, 59, 60, 61, 62, 63, 64, 65, 66, 67, 68, 69, 70, 71, 72] (by decide +kernel) (by decide +kernel)
set_option maxRecDepth 20000 in
theorem gX8_sure_X8_isSure : GoodIn wsX8_sure (wsV RX8 161 RX8 yX8_isSure wsX8_isSure) := goodIn_app (goodIn_of _ (by decide +kernel)) ggX8_sure_X8_isSure
theorem dX8_sure_0 : decode cX8_sure 0 = .ok (.iload_n 1, 1) := by decide +kernel
theorem dX8_sure_1 : decode cX8_sure 1 = .ok (.invokestatic 138, 3) := by decide +kernel
theorem dX8_sure_4 : decode cX8_sure 4 = .ok (.ifCond .eq 15, 3) := by decide +kernel
theorem dX8_sure_7 : decode cX8_sure 7 = .ok (.iload_n 2, 1) := by decide +kernel
theorem dX8_sure_8 : decode cX8_sure 8 = .ok (.invokestatic 138, 3) := by decide +kernel
theorem dX8_sure_11 : decode cX8_sure 11 = .ok (.ifCond .eq 8, 3) := by decide +kernel
theorem dX8_sure_14 : decode cX8_sure 14 = .ok (.iload_n 1, 1) := by decide +kernel
theorem dX8_sure_15 : decode cX8_sure 15 = .ok (.iload_n 2, 1) := by decide +kernel
theorem dX8_sure_16 : decode cX8_sure 16 = .ok (.if_icmp .ne 7, 3) := by decide +kernel
theorem dX8_sure_19 : decode cX8_sure 19 = .ok (.iconst (-1), 1) := by decide +kernel
theorem dX8_sure_20 : decode cX8_sure 20 = .ok (.goto 17, 3) := by decide +kernel
theorem dX8_sure_23 : decode cX8_sure 23 = .ok (.aload_n 0, 1) := by decide +kernel
theorem dX8_sure_24 : decode cX8_sure 24 = .ok (.iload_n 1, 1) := by decide +kernel
theorem dX8_sure_25 : decode cX8_sure 25 = .ok (.iload_n 2, 1) := by decide +kernel
theorem dX8_sure_26 : decode cX8_sure 26 = .ok (.invokevirtual 161, 3) := by decide +kernel
theorem dX8_sure_29 : decode cX8_sure 29 = .ok (.ifCond .eq 7, 3) := by decide +kernel
theorem dX8_sure_32 : decode cX8_sure 32 = .ok (.iconst 1, 1) := by decide +kernel
theorem dX8_sure_33 : decode cX8_sure 33 = .ok (.goto 4, 3) := by decide +kernel
theorem dX8_sure_36 : decode cX8_sure 36 = .ok (.iconst 0, 1) := by decide +kernel
theorem dX8_sure_37 : decode cX8_sure 37 = .ok (.ireturn, 1) := by decide +kernel
set_option maxRecDepth 20000 in
theorem ggX8_paint_X8_in : GoodIn wsX8_paint wsX8_in := goodIn_r _ [5] (by decide +kernel) (by decide +kernel)
set_option maxRecDepth 20000 in
theorem gX8_paint_X8_in : GoodIn wsX8_paint (va_wsS RX8 125 yX8_in wsX8_in) := goodIn_app (goodIn_of _ (by decide +kernel)) ggX8_paint_X8_in
set_option maxRecDepth 20000 in
theorem ggX8_paint_X8_isYear : GoodIn wsX8_paint wsX8_isYear := goodIn_r _ [8, 2, 3, 4, 5] (by decide +kernel) (by decide +kernel)
set_option maxRecDepth 20000 in
theorem gX8_paint_X8_isYear : GoodIn wsX8_paint (va_wsS RX8 164 yX8_isYear wsX8_isYear) := goodIn_app (goodIn_of _ (by decide +kernel)) ggX8_paint_X8_isYear
theorem dX8_paint_0 : decode cX8_paint 0 = .ok (.iload_n 1, 1) := by decide +kernel
theorem dX8_paint_1 : decode cX8_paint 1 = .ok (.iconst 0, 1) := by decide +kernel
theorem dX8_paint_2 : decode cX8_paint 2 = .ok (.bipush 9, 2) := by decide +kernel
theorem dX8_paint_4 : decode cX8_paint 4 = .ok (.invokestatic 125, 3) := by decide +kernel
theorem dX8_paint_7 : decode cX8_paint 7 = .ok (.ifCond .eq 10, 3) := by decide +kernel
theorem dX8_paint_10 : decode cX8_paint 10 = .ok (.iload_n 2, 1) := by decide +kernel
theorem dX8_paint_11 : decode cX8_paint 11 = .ok (.invokestatic 164, 3) := by decide +kernel
theorem dX8_paint_14 : decode cX8_paint 14 = .ok (.ifCond .ne 5, 3) := by decide +kernel
theorem dX8_paint_17 : decode cX8_paint 17 = .ok (.iconst (-1), 1) := by decide +kernel
theorem dX8_paint_18 : decode cX8_paint 18 = .ok (.ireturn, 1) := by decide +kernel
theorem dX8_paint_19 : decode cX8_paint 19 = .ok (.aload_n 0, 1) := by decide +kernel
theorem dX8_paint_20 : decode cX8_paint 20 = .ok (.getfield 23, 3) := by decide +kernel
theorem dX8_paint_23 : decode cX8_paint 23 = .ok (.iload_n 1, 1) := by decide +kernel
theorem dX8_paint_24 : decode cX8_paint 24 = .ok (.iaload, 1) := by decide +kernel
theorem dX8_paint_25 : decode cX8_paint 25 = .ok (.istore_n 3, 1) := by decide +kernel
theorem dX8_paint_26 : decode cX8_paint 26 = .ok (.aload_n 0, 1) := by decide +kernel
theorem dX8_paint_27 : decode cX8_paint 27 = .ok (.getfield 23, 3) := by decide +kernel
theorem dX8_paint_30 : decode cX8_paint 30 = .ok (.iload_n 1, 1) := by decide +kernel
theorem dX8_paint_31 : decode cX8_paint 31 = .ok (.iload_n 2, 1) := by decide +kernel
theorem dX8_paint_32 : decode cX8_paint 32 = .ok (.iastore, 1) := by decide +kernel
theorem dX8_paint_33 : decode cX8_paint 33 = .ok (.iload_n 3, 1) := by decide +kernel
theorem dX8_paint_34 : decode cX8_paint 34 = .ok (.ireturn, 1) := by decide +kernel
set_option maxRecDepth 20000 in
theorem ggX8_sap_X8_in : GoodIn wsX8_sap wsX8_in := goodIn_r _ [7] (by decide +kernel) (by decide +kernel)
set_option maxRecDepth 20000 in
theorem gX8_sap_X8_in : GoodIn wsX8_sap (va_wsS RX8 125 yX8_in wsX8_in) := goodIn_app (goodIn_of _ (by decide +kernel)) ggX8_sap_X8_in
theorem dX8_sap_0 : decode cX8_sap 0 = .ok (.iload_n 1, 1) := by decide +kernel
theorem dX8_sap_1 : decode cX8_sap 1 = .ok (.iconst 0, 1) := by decide +kernel
theorem dX8_sap_2 : decode cX8_sap 2 = .ok (.bipush 60, 2) := by decide +kernel
theorem dX8_sap_4 : decode cX8_sap 4 = .ok (.invokestatic 125, 3) := by decide +kernel
theorem dX8_sap_7 : decode cX8_sap 7 = .ok (.ifCond .eq 23, 3) := by decide +kernel
theorem dX8_sap_10 : decode cX8_sap 10 = .ok (.iload_n 2, 1) := by decide +kernel
theorem dX8_sap_11 : decode cX8_sap 11 = .ok (.iload_n 1, 1) := by decide +kernel
theorem dX8_sap_12 : decode cX8_sap 12 = .ok (.bipush 60, 2) := by decide +kernel
theorem dX8_sap_14 : decode cX8_sap 14 = .ok (.invokestatic 125, 3) := by decide +kernel
theorem dX8_sap_17 : decode cX8_sap 17 = .ok (.ifCond .eq 13, 3) := by decide +kernel
theorem dX8_sap_20 : decode cX8_sap 20 = .ok (.iload_n 3, 1) := by decide +kernel
theorem dX8_sap_21 : decode cX8_sap 21 = .ok (.iconst 0, 1) := by decide +kernel
theorem dX8_sap_22 : decode cX8_sap 22 = .ok (.bipush 60, 2) := by decide +kernel
theorem dX8_sap_24 : decode cX8_sap 24 = .ok (.invokestatic 125, 3) := by decide +kernel
theorem dX8_sap_27 : decode cX8_sap 27 = .ok (.ifCond .ne 5, 3) := by decide +kernel
theorem dX8_sap_30 : decode cX8_sap 30 = .ok (.iconst (-1), 1) := by decide +kernel
theorem dX8_sap_31 : decode cX8_sap 31 = .ok (.ireturn, 1) := by decide +kernel
theorem dX8_sap_32 : decode cX8_sap 32 = .ok (.aload_n 0, 1) := by decide +kernel
theorem dX8_sap_33 : decode cX8_sap 33 = .ok (.iload_n 1, 1) := by decide +kernel
theorem dX8_sap_34 : decode cX8_sap 34 = .ok (.putfield 109, 3) := by decide +kernel
theorem dX8_sap_37 : decode cX8_sap 37 = .ok (.aload_n 0, 1) := by decide +kernel
theorem dX8_sap_38 : decode cX8_sap 38 = .ok (.iload_n 2, 1) := by decide +kernel
theorem dX8_sap_39 : decode cX8_sap 39 = .ok (.putfield 113, 3) := by decide +kernel
theorem dX8_sap_42 : decode cX8_sap 42 = .ok (.aload_n 0, 1) := by decide +kernel
theorem dX8_sap_43 : decode cX8_sap 43 = .ok (.iload_n 3, 1) := by decide +kernel
theorem dX8_sap_44 : decode cX8_sap 44 = .ok (.putfield 116, 3) := by decide +kernel
theorem dX8_sap_47 : decode cX8_sap 47 = .ok (.iconst 1, 1) := by decide +kernel
theorem dX8_sap_48 : decode cX8_sap 48 = .ok (.ireturn, 1) := by decide +kernel
set_option maxRecDepth 20000 in
theorem ggX8_comes_X8_in : GoodIn wsX8_comes wsX8_in := goodIn_r _ [14] (by decide +kernel) (by decide +kernel)
set_option maxRecDepth 20000 in
theorem gX8_comes_X8_in : GoodIn wsX8_comes (va_wsS RX8 125 yX8_in wsX8_in) := goodIn_app (goodIn_of _ (by decide +kernel)) ggX8_comes_X8_in
theorem dX8_comes_0 : decode cX8_comes 0 = .ok (.iload_n 1, 1) := by decide +kernel
theorem dX8_comes_1 : decode cX8_comes 1 = .ok (.ifCond .eq 13, 3) := by decide +kernel
theorem dX8_comes_4 : decode cX8_comes 4 = .ok (.iload_n 3, 1) := by decide +kernel
theorem dX8_comes_5 : decode cX8_comes 5 = .ok (.iconst 1, 1) := by decide +kernel
theorem dX8_comes_6 : decode cX8_comes 6 = .ok (.bipush 9, 2) := by decide +kernel
theorem dX8_comes_8 : decode cX8_comes 8 = .ok (.invokestatic 125, 3) := by decide +kernel
theorem dX8_comes_11 : decode cX8_comes 11 = .ok (.ifCond .ne 5, 3) := by decide +kernel
theorem dX8_comes_14 : decode cX8_comes 14 = .ok (.iconst (-1), 1) := by decide +kernel
theorem dX8_comes_15 : decode cX8_comes 15 = .ok (.ireturn, 1) := by decide +kernel
theorem dX8_comes_16 : decode cX8_comes 16 = .ok (.aload_n 0, 1) := by decide +kernel
theorem dX8_comes_17 : decode cX8_comes 17 = .ok (.getfield 167, 3) := by decide +kernel
theorem dX8_comes_20 : decode cX8_comes 20 = .ok (.bipush 24, 2) := by decide +kernel
theorem dX8_comes_22 : decode cX8_comes 22 = .ok (.if_icmp .ne 6, 3) := by decide +kernel
theorem dX8_comes_25 : decode cX8_comes 25 = .ok (.bipush (-2), 2) := by decide +kernel
theorem dX8_comes_27 : decode cX8_comes 27 = .ok (.ireturn, 1) := by decide +kernel
theorem dX8_comes_28 : decode cX8_comes 28 = .ok (.aload_n 0, 1) := by decide +kernel
theorem dX8_comes_29 : decode cX8_comes 29 = .ok (.getfield 26, 3) := by decide +kernel
theorem dX8_comes_32 : decode cX8_comes 32 = .ok (.aload_n 0, 1) := by decide +kernel
theorem dX8_comes_33 : decode cX8_comes 33 = .ok (.getfield 167, 3) := by decide +kernel
theorem dX8_comes_36 : decode cX8_comes 36 = .ok (.iload_n 2, 1) := by decide +kernel
theorem dX8_comes_37 : decode cX8_comes 37 = .ok (.iastore, 1) := by decide +kernel
theorem dX8_comes_38 : decode cX8_comes 38 = .ok (.aload_n 0, 1) := by decide +kernel
theorem dX8_comes_39 : decode cX8_comes 39 = .ok (.getfield 29, 3) := by decide +kernel
theorem dX8_comes_42 : decode cX8_comes 42 = .ok (.aload_n 0, 1) := by decide +kernel
