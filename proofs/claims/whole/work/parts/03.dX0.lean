theorem dX0_init_0 : decode cX0_init 0 = .ok (.aload_n 0, 1) := by decide +kernel
theorem dX0_init_1 : decode cX0_init 1 = .ok (.invokespecial 3, 3) := by decide +kernel
theorem dX0_init_4 : decode cX0_init 4 = .ok (.aload_n 0, 1) := by decide +kernel
theorem dX0_init_5 : decode cX0_init 5 = .ok (.bipush 8, 2) := by decide +kernel
theorem dX0_init_7 : decode cX0_init 7 = .ok (.newarray .int, 2) := by decide +kernel
theorem dX0_init_9 : decode cX0_init 9 = .ok (.putfield 9, 3) := by decide +kernel
theorem dX0_init_12 : decode cX0_init 12 = .ok (.aload_n 0, 1) := by decide +kernel
theorem dX0_init_13 : decode cX0_init 13 = .ok (.bipush 8, 2) := by decide +kernel
theorem dX0_init_15 : decode cX0_init 15 = .ok (.newarray .int, 2) := by decide +kernel
theorem dX0_init_17 : decode cX0_init 17 = .ok (.putfield 15, 3) := by decide +kernel
theorem dX0_init_20 : decode cX0_init 20 = .ok (.aload_n 0, 1) := by decide +kernel
theorem dX0_init_21 : decode cX0_init 21 = .ok (.bipush 8, 2) := by decide +kernel
theorem dX0_init_23 : decode cX0_init 23 = .ok (.newarray .int, 2) := by decide +kernel
theorem dX0_init_25 : decode cX0_init 25 = .ok (.putfield 18, 3) := by decide +kernel
theorem dX0_init_28 : decode cX0_init 28 = .ok (.aload_n 0, 1) := by decide +kernel
theorem dX0_init_29 : decode cX0_init 29 = .ok (.bipush 8, 2) := by decide +kernel
theorem dX0_init_31 : decode cX0_init 31 = .ok (.newarray .int, 2) := by decide +kernel
theorem dX0_init_33 : decode cX0_init 33 = .ok (.putfield 21, 3) := by decide +kernel
theorem dX0_init_36 : decode cX0_init 36 = .ok (.aload_n 0, 1) := by decide +kernel
theorem dX0_init_37 : decode cX0_init 37 = .ok (.bipush (-9), 2) := by decide +kernel
theorem dX0_init_39 : decode cX0_init 39 = .ok (.putfield 24, 3) := by decide +kernel
theorem dX0_init_42 : decode cX0_init 42 = .ok (.aload_n 0, 1) := by decide +kernel
theorem dX0_init_43 : decode cX0_init 43 = .ok (.iconst 0, 1) := by decide +kernel
theorem dX0_init_44 : decode cX0_init 44 = .ok (.putfield 28, 3) := by decide +kernel
theorem dX0_init_47 : decode cX0_init 47 = .ok (.aload_n 0, 1) := by decide +kernel
theorem dX0_init_48 : decode cX0_init 48 = .ok (.iconst 0, 1) := by decide +kernel
theorem dX0_init_49 : decode cX0_init 49 = .ok (.putfield 31, 3) := by decide +kernel
theorem dX0_init_52 : decode cX0_init 52 = .ok (.aload_n 0, 1) := by decide +kernel
theorem dX0_init_53 : decode cX0_init 53 = .ok (.iconst 0, 1) := by decide +kernel
theorem dX0_init_54 : decode cX0_init 54 = .ok (.putfield 34, 3) := by decide +kernel
theorem dX0_init_57 : decode cX0_init 57 = .ok (.return_, 1) := by decide +kernel
theorem dX0_isFull_0 : decode cX0_isFull 0 = .ok (.aload_n 0, 1) := by decide +kernel
theorem dX0_isFull_1 : decode cX0_isFull 1 = .ok (.getfield 34, 3) := by decide +kernel
theorem dX0_isFull_4 : decode cX0_isFull 4 = .ok (.bipush 8, 2) := by decide +kernel
theorem dX0_isFull_6 : decode cX0_isFull 6 = .ok (.if_icmp .lt 7, 3) := by decide +kernel
theorem dX0_isFull_9 : decode cX0_isFull 9 = .ok (.iconst 1, 1) := by decide +kernel
theorem dX0_isFull_10 : decode cX0_isFull 10 = .ok (.goto 4, 3) := by decide +kernel
theorem dX0_isFull_13 : decode cX0_isFull 13 = .ok (.iconst 0, 1) := by decide +kernel
theorem dX0_isFull_14 : decode cX0_isFull 14 = .ok (.ireturn, 1) := by decide +kernel
theorem dX0_addLaw_0 : decode cX0_addLaw 0 = .ok (.aload_n 0, 1) := by decide +kernel
theorem dX0_addLaw_1 : decode cX0_addLaw 1 = .ok (.getfield 9, 3) := by decide +kernel
theorem dX0_addLaw_4 : decode cX0_addLaw 4 = .ok (.aload_n 0, 1) := by decide +kernel
theorem dX0_addLaw_5 : decode cX0_addLaw 5 = .ok (.getfield 34, 3) := by decide +kernel
theorem dX0_addLaw_8 : decode cX0_addLaw 8 = .ok (.iload_n 1, 1) := by decide +kernel
theorem dX0_addLaw_9 : decode cX0_addLaw 9 = .ok (.iastore, 1) := by decide +kernel
theorem dX0_addLaw_10 : decode cX0_addLaw 10 = .ok (.aload_n 0, 1) := by decide +kernel
theorem dX0_addLaw_11 : decode cX0_addLaw 11 = .ok (.getfield 15, 3) := by decide +kernel
theorem dX0_addLaw_14 : decode cX0_addLaw 14 = .ok (.aload_n 0, 1) := by decide +kernel
theorem dX0_addLaw_15 : decode cX0_addLaw 15 = .ok (.getfield 34, 3) := by decide +kernel
theorem dX0_addLaw_18 : decode cX0_addLaw 18 = .ok (.iload_n 2, 1) := by decide +kernel
theorem dX0_addLaw_19 : decode cX0_addLaw 19 = .ok (.iastore, 1) := by decide +kernel
theorem dX0_addLaw_20 : decode cX0_addLaw 20 = .ok (.aload_n 0, 1) := by decide +kernel
theorem dX0_addLaw_21 : decode cX0_addLaw 21 = .ok (.getfield 18, 3) := by decide +kernel
theorem dX0_addLaw_24 : decode cX0_addLaw 24 = .ok (.aload_n 0, 1) := by decide +kernel
theorem dX0_addLaw_25 : decode cX0_addLaw 25 = .ok (.getfield 34, 3) := by decide +kernel
theorem dX0_addLaw_28 : decode cX0_addLaw 28 = .ok (.iload_n 3, 1) := by decide +kernel
theorem dX0_addLaw_29 : decode cX0_addLaw 29 = .ok (.iastore, 1) := by decide +kernel
theorem dX0_addLaw_30 : decode cX0_addLaw 30 = .ok (.aload_n 0, 1) := by decide +kernel
theorem dX0_addLaw_31 : decode cX0_addLaw 31 = .ok (.getfield 21, 3) := by decide +kernel
theorem dX0_addLaw_34 : decode cX0_addLaw 34 = .ok (.aload_n 0, 1) := by decide +kernel
theorem dX0_addLaw_35 : decode cX0_addLaw 35 = .ok (.getfield 34, 3) := by decide +kernel
theorem dX0_addLaw_38 : decode cX0_addLaw 38 = .ok (.iload 4, 2) := by decide +kernel
theorem dX0_addLaw_40 : decode cX0_addLaw 40 = .ok (.iastore, 1) := by decide +kernel
theorem dX0_addLaw_41 : decode cX0_addLaw 41 = .ok (.aload_n 0, 1) := by decide +kernel
theorem dX0_addLaw_42 : decode cX0_addLaw 42 = .ok (.dup, 1) := by decide +kernel
theorem dX0_addLaw_43 : decode cX0_addLaw 43 = .ok (.getfield 34, 3) := by decide +kernel
theorem dX0_addLaw_46 : decode cX0_addLaw 46 = .ok (.iconst 1, 1) := by decide +kernel
theorem dX0_addLaw_47 : decode cX0_addLaw 47 = .ok (.iadd, 1) := by decide +kernel
theorem dX0_addLaw_48 : decode cX0_addLaw 48 = .ok (.putfield 34, 3) := by decide +kernel
theorem dX0_addLaw_51 : decode cX0_addLaw 51 = .ok (.aload_n 0, 1) := by decide +kernel
theorem dX0_addLaw_52 : decode cX0_addLaw 52 = .ok (.getfield 34, 3) := by decide +kernel
theorem dX0_addLaw_55 : decode cX0_addLaw 55 = .ok (.iconst 1, 1) := by decide +kernel
theorem dX0_addLaw_56 : decode cX0_addLaw 56 = .ok (.isub, 1) := by decide +kernel
theorem dX0_addLaw_57 : decode cX0_addLaw 57 = .ok (.ireturn, 1) := by decide +kernel
theorem dX0_sell_0 : decode cX0_sell 0 = .ok (.aload_n 0, 1) := by decide +kernel
theorem dX0_sell_1 : decode cX0_sell 1 = .ok (.iload_n 1, 1) := by decide +kernel
theorem dX0_sell_2 : decode cX0_sell 2 = .ok (.putfield 24, 3) := by decide +kernel
theorem dX0_sell_5 : decode cX0_sell 5 = .ok (.aload_n 0, 1) := by decide +kernel
theorem dX0_sell_6 : decode cX0_sell 6 = .ok (.iload_n 2, 1) := by decide +kernel
theorem dX0_sell_7 : decode cX0_sell 7 = .ok (.putfield 28, 3) := by decide +kernel
theorem dX0_sell_10 : decode cX0_sell 10 = .ok (.aload_n 0, 1) := by decide +kernel
theorem dX0_sell_11 : decode cX0_sell 11 = .ok (.iload_n 3, 1) := by decide +kernel
theorem dX0_sell_12 : decode cX0_sell 12 = .ok (.putfield 31, 3) := by decide +kernel
theorem dX0_sell_15 : decode cX0_sell 15 = .ok (.return_, 1) := by decide +kernel
theorem dX0_lawInForce_0 : decode cX0_lawInForce 0 = .ok (.bipush (-9), 2) := by decide +kernel
theorem dX0_lawInForce_2 : decode cX0_lawInForce 2 = .ok (.istore_n 1, 1) := by decide +kernel
theorem dX0_lawInForce_3 : decode cX0_lawInForce 3 = .ok (.iconst 0, 1) := by decide +kernel
theorem dX0_lawInForce_4 : decode cX0_lawInForce 4 = .ok (.istore_n 2, 1) := by decide +kernel
theorem dX0_lawInForce_5 : decode cX0_lawInForce 5 = .ok (.iload_n 2, 1) := by decide +kernel
theorem dX0_lawInForce_6 : decode cX0_lawInForce 6 = .ok (.aload_n 0, 1) := by decide +kernel
theorem dX0_lawInForce_7 : decode cX0_lawInForce 7 = .ok (.getfield 34, 3) := by decide +kernel
theorem dX0_lawInForce_10 : decode cX0_lawInForce 10 = .ok (.if_icmp .ge 55, 3) := by decide +kernel
theorem dX0_lawInForce_13 : decode cX0_lawInForce 13 = .ok (.iload_n 1, 1) := by decide +kernel
theorem dX0_lawInForce_14 : decode cX0_lawInForce 14 = .ok (.bipush (-9), 2) := by decide +kernel
theorem dX0_lawInForce_16 : decode cX0_lawInForce 16 = .ok (.if_icmp .eq 18, 3) := by decide +kernel
theorem dX0_lawInForce_19 : decode cX0_lawInForce 19 = .ok (.aload_n 0, 1) := by decide +kernel
theorem dX0_lawInForce_20 : decode cX0_lawInForce 20 = .ok (.getfield 9, 3) := by decide +kernel
theorem dX0_lawInForce_23 : decode cX0_lawInForce 23 = .ok (.iload_n 2, 1) := by decide +kernel
theorem dX0_lawInForce_24 : decode cX0_lawInForce 24 = .ok (.iaload, 1) := by decide +kernel
theorem dX0_lawInForce_25 : decode cX0_lawInForce 25 = .ok (.aload_n 0, 1) := by decide +kernel
theorem dX0_lawInForce_26 : decode cX0_lawInForce 26 = .ok (.getfield 9, 3) := by decide +kernel
theorem dX0_lawInForce_29 : decode cX0_lawInForce 29 = .ok (.iload_n 1, 1) := by decide +kernel
theorem dX0_lawInForce_30 : decode cX0_lawInForce 30 = .ok (.iaload, 1) := by decide +kernel
theorem dX0_lawInForce_31 : decode cX0_lawInForce 31 = .ok (.if_icmp .lt 7, 3) := by decide +kernel
theorem dX0_lawInForce_34 : decode cX0_lawInForce 34 = .ok (.iconst 1, 1) := by decide +kernel
theorem dX0_lawInForce_35 : decode cX0_lawInForce 35 = .ok (.goto 4, 3) := by decide +kernel
theorem dX0_lawInForce_38 : decode cX0_lawInForce 38 = .ok (.iconst 0, 1) := by decide +kernel
theorem dX0_lawInForce_39 : decode cX0_lawInForce 39 = .ok (.istore_n 3, 1) := by decide +kernel
theorem dX0_lawInForce_40 : decode cX0_lawInForce 40 = .ok (.aload_n 0, 1) := by decide +kernel
theorem dX0_lawInForce_41 : decode cX0_lawInForce 41 = .ok (.getfield 9, 3) := by decide +kernel
theorem dX0_lawInForce_44 : decode cX0_lawInForce 44 = .ok (.iload_n 2, 1) := by decide +kernel
theorem dX0_lawInForce_45 : decode cX0_lawInForce 45 = .ok (.iaload, 1) := by decide +kernel
theorem dX0_lawInForce_46 : decode cX0_lawInForce 46 = .ok (.aload_n 0, 1) := by decide +kernel
theorem dX0_lawInForce_47 : decode cX0_lawInForce 47 = .ok (.getfield 24, 3) := by decide +kernel
theorem dX0_lawInForce_50 : decode cX0_lawInForce 50 = .ok (.if_icmp .gt 9, 3) := by decide +kernel
theorem dX0_lawInForce_53 : decode cX0_lawInForce 53 = .ok (.iload_n 3, 1) := by decide +kernel
theorem dX0_lawInForce_54 : decode cX0_lawInForce 54 = .ok (.ifCond .eq 5, 3) := by decide +kernel
theorem dX0_lawInForce_57 : decode cX0_lawInForce 57 = .ok (.iload_n 2, 1) := by decide +kernel
theorem dX0_lawInForce_58 : decode cX0_lawInForce 58 = .ok (.istore_n 1, 1) := by decide +kernel
theorem dX0_lawInForce_59 : decode cX0_lawInForce 59 = .ok (.iinc 2 1, 3) := by decide +kernel
theorem dX0_lawInForce_62 : decode cX0_lawInForce 62 = .ok (.goto (-57), 3) := by decide +kernel
theorem dX0_lawInForce_65 : decode cX0_lawInForce 65 = .ok (.iload_n 1, 1) := by decide +kernel
theorem dX0_lawInForce_66 : decode cX0_lawInForce 66 = .ok (.ireturn, 1) := by decide +kernel
theorem dX0_isTooLate_0 : decode cX0_isTooLate 0 = .ok (.iload_n 2, 1) := by decide +kernel
theorem dX0_isTooLate_1 : decode cX0_isTooLate 1 = .ok (.aload_n 0, 1) := by decide +kernel
theorem dX0_isTooLate_2 : decode cX0_isTooLate 2 = .ok (.getfield 24, 3) := by decide +kernel
theorem dX0_isTooLate_5 : decode cX0_isTooLate 5 = .ok (.isub, 1) := by decide +kernel
theorem dX0_isTooLate_6 : decode cX0_isTooLate 6 = .ok (.aload_n 0, 1) := by decide +kernel
theorem dX0_isTooLate_7 : decode cX0_isTooLate 7 = .ok (.getfield 15, 3) := by decide +kernel
theorem dX0_isTooLate_10 : decode cX0_isTooLate 10 = .ok (.iload_n 1, 1) := by decide +kernel
theorem dX0_isTooLate_11 : decode cX0_isTooLate 11 = .ok (.iaload, 1) := by decide +kernel
theorem dX0_isTooLate_12 : decode cX0_isTooLate 12 = .ok (.if_icmp .le 7, 3) := by decide +kernel
theorem dX0_isTooLate_15 : decode cX0_isTooLate 15 = .ok (.iconst 1, 1) := by decide +kernel
theorem dX0_isTooLate_16 : decode cX0_isTooLate 16 = .ok (.goto 4, 3) := by decide +kernel
theorem dX0_isTooLate_19 : decode cX0_isTooLate 19 = .ok (.iconst 0, 1) := by decide +kernel
theorem dX0_isTooLate_20 : decode cX0_isTooLate 20 = .ok (.ireturn, 1) := by decide +kernel
theorem dX0_isBelow_0 : decode cX0_isBelow 0 = .ok (.ldc2_w 37, 3) := by decide +kernel
theorem dX0_isBelow_3 : decode cX0_isBelow 3 = .ok (.lload_n 2, 1) := by decide +kernel
theorem dX0_isBelow_4 : decode cX0_isBelow 4 = .ok (.lmul, 1) := by decide +kernel
theorem dX0_isBelow_5 : decode cX0_isBelow 5 = .ok (.aload_n 0, 1) := by decide +kernel
theorem dX0_isBelow_6 : decode cX0_isBelow 6 = .ok (.getfield 18, 3) := by decide +kernel
theorem dX0_isBelow_9 : decode cX0_isBelow 9 = .ok (.iload_n 1, 1) := by decide +kernel
theorem dX0_isBelow_10 : decode cX0_isBelow 10 = .ok (.iaload, 1) := by decide +kernel
theorem dX0_isBelow_11 : decode cX0_isBelow 11 = .ok (.i2l, 1) := by decide +kernel
theorem dX0_isBelow_12 : decode cX0_isBelow 12 = .ok (.lload 4, 2) := by decide +kernel
theorem dX0_isBelow_14 : decode cX0_isBelow 14 = .ok (.lmul, 1) := by decide +kernel
theorem dX0_isBelow_15 : decode cX0_isBelow 15 = .ok (.lcmp, 1) := by decide +kernel
theorem dX0_isBelow_16 : decode cX0_isBelow 16 = .ok (.ifCond .ge 7, 3) := by decide +kernel
theorem dX0_isBelow_19 : decode cX0_isBelow 19 = .ok (.iconst 1, 1) := by decide +kernel
theorem dX0_isBelow_20 : decode cX0_isBelow 20 = .ok (.goto 4, 3) := by decide +kernel
theorem dX0_isBelow_23 : decode cX0_isBelow 23 = .ok (.iconst 0, 1) := by decide +kernel
theorem dX0_isBelow_24 : decode cX0_isBelow 24 = .ok (.ireturn, 1) := by decide +kernel
theorem dX0_paidBack_0 : decode cX0_paidBack 0 = .ok (.aload_n 0, 1) := by decide +kernel
theorem dX0_paidBack_1 : decode cX0_paidBack 1 = .ok (.getfield 28, 3) := by decide +kernel
theorem dX0_paidBack_4 : decode cX0_paidBack 4 = .ok (.i2l, 1) := by decide +kernel
theorem dX0_paidBack_5 : decode cX0_paidBack 5 = .ok (.aload_n 0, 1) := by decide +kernel
theorem dX0_paidBack_6 : decode cX0_paidBack 6 = .ok (.getfield 21, 3) := by decide +kernel
theorem dX0_paidBack_9 : decode cX0_paidBack 9 = .ok (.iload_n 1, 1) := by decide +kernel
theorem dX0_paidBack_10 : decode cX0_paidBack 10 = .ok (.iaload, 1) := by decide +kernel
theorem dX0_paidBack_11 : decode cX0_paidBack 11 = .ok (.i2l, 1) := by decide +kernel
theorem dX0_paidBack_12 : decode cX0_paidBack 12 = .ok (.lmul, 1) := by decide +kernel
theorem dX0_paidBack_13 : decode cX0_paidBack 13 = .ok (.iload_n 2, 1) := by decide +kernel
theorem dX0_paidBack_14 : decode cX0_paidBack 14 = .ok (.aload_n 0, 1) := by decide +kernel
theorem dX0_paidBack_15 : decode cX0_paidBack 15 = .ok (.getfield 24, 3) := by decide +kernel
theorem dX0_paidBack_18 : decode cX0_paidBack 18 = .ok (.isub, 1) := by decide +kernel
theorem dX0_paidBack_19 : decode cX0_paidBack 19 = .ok (.i2l, 1) := by decide +kernel
theorem dX0_paidBack_20 : decode cX0_paidBack 20 = .ok (.lmul, 1) := by decide +kernel
theorem dX0_paidBack_21 : decode cX0_paidBack 21 = .ok (.ldc2_w 39, 3) := by decide +kernel
theorem dX0_paidBack_24 : decode cX0_paidBack 24 = .ok (.ldiv, 1) := by decide +kernel
theorem dX0_paidBack_25 : decode cX0_paidBack 25 = .ok (.lstore_n 3, 1) := by decide +kernel
theorem dX0_paidBack_26 : decode cX0_paidBack 26 = .ok (.aload_n 0, 1) := by decide +kernel
theorem dX0_paidBack_27 : decode cX0_paidBack 27 = .ok (.getfield 28, 3) := by decide +kernel
theorem dX0_paidBack_30 : decode cX0_paidBack 30 = .ok (.i2l, 1) := by decide +kernel
theorem dX0_paidBack_31 : decode cX0_paidBack 31 = .ok (.lload_n 3, 1) := by decide +kernel
theorem dX0_paidBack_32 : decode cX0_paidBack 32 = .ok (.ladd, 1) := by decide +kernel
theorem dX0_paidBack_33 : decode cX0_paidBack 33 = .ok (.l2i, 1) := by decide +kernel
theorem dX0_paidBack_34 : decode cX0_paidBack 34 = .ok (.ireturn, 1) := by decide +kernel
