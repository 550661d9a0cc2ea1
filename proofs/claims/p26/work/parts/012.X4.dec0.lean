theorem dX4_init_0 : decode cX4_init 0 = .ok (.aload_n 0, 1) := by decide +kernel
theorem dX4_init_1 : decode cX4_init 1 = .ok (.invokespecial 3, 3) := by decide +kernel
theorem dX4_init_4 : decode cX4_init 4 = .ok (.aload_n 0, 1) := by decide +kernel
theorem dX4_init_5 : decode cX4_init 5 = .ok (.iconst (-1), 1) := by decide +kernel
theorem dX4_init_6 : decode cX4_init 6 = .ok (.putfield 9, 3) := by decide +kernel
theorem dX4_init_9 : decode cX4_init 9 = .ok (.aload_n 0, 1) := by decide +kernel
theorem dX4_init_10 : decode cX4_init 10 = .ok (.bipush 60, 2) := by decide +kernel
theorem dX4_init_12 : decode cX4_init 12 = .ok (.newarray .int, 2) := by decide +kernel
theorem dX4_init_14 : decode cX4_init 14 = .ok (.putfield 15, 3) := by decide +kernel
theorem dX4_init_17 : decode cX4_init 17 = .ok (.return_, 1) := by decide +kernel
theorem dX4_renew_0 : decode cX4_renew 0 = .ok (.aload_n 0, 1) := by decide +kernel
theorem dX4_renew_1 : decode cX4_renew 1 = .ok (.iload_n 1, 1) := by decide +kernel
theorem dX4_renew_2 : decode cX4_renew 2 = .ok (.putfield 9, 3) := by decide +kernel
theorem dX4_renew_5 : decode cX4_renew 5 = .ok (.aload_n 0, 1) := by decide +kernel
theorem dX4_renew_6 : decode cX4_renew 6 = .ok (.iload_n 2, 1) := by decide +kernel
theorem dX4_renew_7 : decode cX4_renew 7 = .ok (.putfield 19, 3) := by decide +kernel
theorem dX4_renew_10 : decode cX4_renew 10 = .ok (.iconst 0, 1) := by decide +kernel
theorem dX4_renew_11 : decode cX4_renew 11 = .ok (.istore_n 3, 1) := by decide +kernel
theorem dX4_renew_12 : decode cX4_renew 12 = .ok (.iload_n 3, 1) := by decide +kernel
theorem dX4_renew_13 : decode cX4_renew 13 = .ok (.bipush 60, 2) := by decide +kernel
theorem dX4_renew_15 : decode cX4_renew 15 = .ok (.if_icmp .ge 16, 3) := by decide +kernel
theorem dX4_renew_18 : decode cX4_renew 18 = .ok (.aload_n 0, 1) := by decide +kernel
theorem dX4_renew_19 : decode cX4_renew 19 = .ok (.getfield 15, 3) := by decide +kernel
theorem dX4_renew_22 : decode cX4_renew 22 = .ok (.iload_n 3, 1) := by decide +kernel
theorem dX4_renew_23 : decode cX4_renew 23 = .ok (.iconst 0, 1) := by decide +kernel
theorem dX4_renew_24 : decode cX4_renew 24 = .ok (.iastore, 1) := by decide +kernel
theorem dX4_renew_25 : decode cX4_renew 25 = .ok (.iinc 3 1, 3) := by decide +kernel
theorem dX4_renew_28 : decode cX4_renew 28 = .ok (.goto (-16), 3) := by decide +kernel
theorem dX4_renew_31 : decode cX4_renew 31 = .ok (.return_, 1) := by decide +kernel
theorem dX4_hasCell_0 : decode cX4_hasCell 0 = .ok (.iload_n 1, 1) := by decide +kernel
theorem dX4_hasCell_1 : decode cX4_hasCell 1 = .ok (.ifCond .lt 15, 3) := by decide +kernel
theorem dX4_hasCell_4 : decode cX4_hasCell 4 = .ok (.iload_n 1, 1) := by decide +kernel
theorem dX4_hasCell_5 : decode cX4_hasCell 5 = .ok (.aload_n 0, 1) := by decide +kernel
theorem dX4_hasCell_6 : decode cX4_hasCell 6 = .ok (.getfield 19, 3) := by decide +kernel
theorem dX4_hasCell_9 : decode cX4_hasCell 9 = .ok (.if_icmp .ge 7, 3) := by decide +kernel
theorem dX4_hasCell_12 : decode cX4_hasCell 12 = .ok (.iconst 1, 1) := by decide +kernel
theorem dX4_hasCell_13 : decode cX4_hasCell 13 = .ok (.goto 4, 3) := by decide +kernel
theorem dX4_hasCell_16 : decode cX4_hasCell 16 = .ok (.iconst 0, 1) := by decide +kernel
theorem dX4_hasCell_17 : decode cX4_hasCell 17 = .ok (.ireturn, 1) := by decide +kernel
theorem dX4_put_0 : decode cX4_put 0 = .ok (.aload_n 0, 1) := by decide +kernel
theorem dX4_put_1 : decode cX4_put 1 = .ok (.getfield 15, 3) := by decide +kernel
theorem dX4_put_4 : decode cX4_put 4 = .ok (.iload_n 1, 1) := by decide +kernel
theorem dX4_put_5 : decode cX4_put 5 = .ok (.aload_n 0, 1) := by decide +kernel
theorem dX4_put_6 : decode cX4_put 6 = .ok (.getfield 9, 3) := by decide +kernel
theorem dX4_put_9 : decode cX4_put 9 = .ok (.ifCond .ne 8, 3) := by decide +kernel
theorem dX4_put_12 : decode cX4_put 12 = .ok (.iload_n 2, 1) := by decide +kernel
theorem dX4_put_13 : decode cX4_put 13 = .ok (.i2b, 1) := by decide +kernel
theorem dX4_put_14 : decode cX4_put 14 = .ok (.goto 17, 3) := by decide +kernel
theorem dX4_put_17 : decode cX4_put 17 = .ok (.aload_n 0, 1) := by decide +kernel
theorem dX4_put_18 : decode cX4_put 18 = .ok (.getfield 9, 3) := by decide +kernel
theorem dX4_put_21 : decode cX4_put 21 = .ok (.iconst 1, 1) := by decide +kernel
theorem dX4_put_22 : decode cX4_put 22 = .ok (.if_icmp .ne 8, 3) := by decide +kernel
theorem dX4_put_25 : decode cX4_put 25 = .ok (.iload_n 2, 1) := by decide +kernel
theorem dX4_put_26 : decode cX4_put 26 = .ok (.i2s, 1) := by decide +kernel
theorem dX4_put_27 : decode cX4_put 27 = .ok (.goto 4, 3) := by decide +kernel
theorem dX4_put_30 : decode cX4_put 30 = .ok (.iload_n 2, 1) := by decide +kernel
theorem dX4_put_31 : decode cX4_put 31 = .ok (.iastore, 1) := by decide +kernel
theorem dX4_put_32 : decode cX4_put 32 = .ok (.return_, 1) := by decide +kernel
theorem dX4_refusal_0 : decode cX4_refusal 0 = .ok (.aload_n 0, 1) := by decide +kernel
theorem dX4_refusal_1 : decode cX4_refusal 1 = .ok (.getfield 9, 3) := by decide +kernel
theorem dX4_refusal_4 : decode cX4_refusal 4 = .ok (.iconst (-1), 1) := by decide +kernel
theorem dX4_refusal_5 : decode cX4_refusal 5 = .ok (.if_icmp .ne 6, 3) := by decide +kernel
theorem dX4_refusal_8 : decode cX4_refusal 8 = .ok (.bipush (-11), 2) := by decide +kernel
theorem dX4_refusal_10 : decode cX4_refusal 10 = .ok (.ireturn, 1) := by decide +kernel
theorem dX4_refusal_11 : decode cX4_refusal 11 = .ok (.aload_n 0, 1) := by decide +kernel
theorem dX4_refusal_12 : decode cX4_refusal 12 = .ok (.getfield 9, 3) := by decide +kernel
theorem dX4_refusal_15 : decode cX4_refusal 15 = .ok (.iload_n 1, 1) := by decide +kernel
theorem dX4_refusal_16 : decode cX4_refusal 16 = .ok (.if_icmp .eq 6, 3) := by decide +kernel
theorem dX4_refusal_19 : decode cX4_refusal 19 = .ok (.bipush (-13), 2) := by decide +kernel
theorem dX4_refusal_21 : decode cX4_refusal 21 = .ok (.ireturn, 1) := by decide +kernel
theorem dX4_refusal_22 : decode cX4_refusal 22 = .ok (.iconst 0, 1) := by decide +kernel
theorem dX4_refusal_23 : decode cX4_refusal 23 = .ok (.istore 4, 2) := by decide +kernel
theorem dX4_refusal_25 : decode cX4_refusal 25 = .ok (.iload 4, 2) := by decide +kernel
theorem dX4_refusal_27 : decode cX4_refusal 27 = .ok (.iload_n 3, 1) := by decide +kernel
theorem dX4_refusal_28 : decode cX4_refusal 28 = .ok (.if_icmp .ge 47, 3) := by decide +kernel
theorem dX4_refusal_31 : decode cX4_refusal 31 = .ok (.aload_n 0, 1) := by decide +kernel
theorem dX4_refusal_32 : decode cX4_refusal 32 = .ok (.iload_n 2, 1) := by decide +kernel
theorem dX4_refusal_33 : decode cX4_refusal 33 = .ok (.iload 4, 2) := by decide +kernel
theorem dX4_refusal_35 : decode cX4_refusal 35 = .ok (.iadd, 1) := by decide +kernel
theorem dX4_refusal_36 : decode cX4_refusal 36 = .ok (.invokevirtual 22, 3) := by decide +kernel
theorem dX4_refusal_39 : decode cX4_refusal 39 = .ok (.ifCond .ne 6, 3) := by decide +kernel
theorem dX4_refusal_42 : decode cX4_refusal 42 = .ok (.bipush (-12), 2) := by decide +kernel
theorem dX4_refusal_44 : decode cX4_refusal 44 = .ok (.ireturn, 1) := by decide +kernel
theorem dX4_refusal_45 : decode cX4_refusal 45 = .ok (.aload_n 0, 1) := by decide +kernel
theorem dX4_refusal_46 : decode cX4_refusal 46 = .ok (.getfield 15, 3) := by decide +kernel
theorem dX4_refusal_49 : decode cX4_refusal 49 = .ok (.iload_n 2, 1) := by decide +kernel
theorem dX4_refusal_50 : decode cX4_refusal 50 = .ok (.iload 4, 2) := by decide +kernel
theorem dX4_refusal_52 : decode cX4_refusal 52 = .ok (.iadd, 1) := by decide +kernel
theorem dX4_refusal_53 : decode cX4_refusal 53 = .ok (.iaload, 1) := by decide +kernel
theorem dX4_refusal_54 : decode cX4_refusal 54 = .ok (.iconst 0, 1) := by decide +kernel
theorem dX4_refusal_55 : decode cX4_refusal 55 = .ok (.bipush 100, 2) := by decide +kernel
theorem dX4_refusal_57 : decode cX4_refusal 57 = .ok (.invokestatic 26, 3) := by decide +kernel
theorem dX4_refusal_60 : decode cX4_refusal 60 = .ok (.ifCond .ne 9, 3) := by decide +kernel
theorem dX4_refusal_63 : decode cX4_refusal 63 = .ok (.bipush (-20), 2) := by decide +kernel
theorem dX4_refusal_65 : decode cX4_refusal 65 = .ok (.iload 4, 2) := by decide +kernel
theorem dX4_refusal_67 : decode cX4_refusal 67 = .ok (.isub, 1) := by decide +kernel
theorem dX4_refusal_68 : decode cX4_refusal 68 = .ok (.ireturn, 1) := by decide +kernel
theorem dX4_refusal_69 : decode cX4_refusal 69 = .ok (.iinc 4 1, 3) := by decide +kernel
theorem dX4_refusal_72 : decode cX4_refusal 72 = .ok (.goto (-47), 3) := by decide +kernel
theorem dX4_refusal_75 : decode cX4_refusal 75 = .ok (.iconst 0, 1) := by decide +kernel
theorem dX4_refusal_76 : decode cX4_refusal 76 = .ok (.ireturn, 1) := by decide +kernel
