theorem dX3_init_0 : decode cX3_init 0 = .ok (.aload_n 0, 1) := by decide +kernel
theorem dX3_init_1 : decode cX3_init 1 = .ok (.invokespecial 3, 3) := by decide +kernel
theorem dX3_init_4 : decode cX3_init 4 = .ok (.aload_n 0, 1) := by decide +kernel
theorem dX3_init_5 : decode cX3_init 5 = .ok (.bipush 10, 2) := by decide +kernel
theorem dX3_init_7 : decode cX3_init 7 = .ok (.newarray .int, 2) := by decide +kernel
theorem dX3_init_9 : decode cX3_init 9 = .ok (.putfield 9, 3) := by decide +kernel
theorem dX3_init_12 : decode cX3_init 12 = .ok (.aload_n 0, 1) := by decide +kernel
theorem dX3_init_13 : decode cX3_init 13 = .ok (.bipush 10, 2) := by decide +kernel
theorem dX3_init_15 : decode cX3_init 15 = .ok (.newarray .int, 2) := by decide +kernel
theorem dX3_init_17 : decode cX3_init 17 = .ok (.putfield 15, 3) := by decide +kernel
theorem dX3_init_20 : decode cX3_init 20 = .ok (.aload_n 0, 1) := by decide +kernel
theorem dX3_init_21 : decode cX3_init 21 = .ok (.aload_n 1, 1) := by decide +kernel
theorem dX3_init_22 : decode cX3_init 22 = .ok (.putfield 18, 3) := by decide +kernel
theorem dX3_init_25 : decode cX3_init 25 = .ok (.return_, 1) := by decide +kernel
theorem dX3_gather_0 : decode cX3_gather 0 = .ok (.aload_n 0, 1) := by decide +kernel
theorem dX3_gather_1 : decode cX3_gather 1 = .ok (.iconst 0, 1) := by decide +kernel
theorem dX3_gather_2 : decode cX3_gather 2 = .ok (.putfield 22, 3) := by decide +kernel
theorem dX3_gather_5 : decode cX3_gather 5 = .ok (.iconst 0, 1) := by decide +kernel
theorem dX3_gather_6 : decode cX3_gather 6 = .ok (.istore_n 1, 1) := by decide +kernel
theorem dX3_gather_7 : decode cX3_gather 7 = .ok (.iload_n 1, 1) := by decide +kernel
theorem dX3_gather_8 : decode cX3_gather 8 = .ok (.aload_n 0, 1) := by decide +kernel
theorem dX3_gather_9 : decode cX3_gather 9 = .ok (.getfield 18, 3) := by decide +kernel
theorem dX3_gather_12 : decode cX3_gather 12 = .ok (.getfield 26, 3) := by decide +kernel
theorem dX3_gather_15 : decode cX3_gather 15 = .ok (.if_icmp .ge 40, 3) := by decide +kernel
theorem dX3_gather_18 : decode cX3_gather 18 = .ok (.aload_n 0, 1) := by decide +kernel
theorem dX3_gather_19 : decode cX3_gather 19 = .ok (.getfield 18, 3) := by decide +kernel
theorem dX3_gather_22 : decode cX3_gather 22 = .ok (.iload_n 1, 1) := by decide +kernel
theorem dX3_gather_23 : decode cX3_gather 23 = .ok (.invokevirtual 31, 3) := by decide +kernel
theorem dX3_gather_26 : decode cX3_gather 26 = .ok (.ifCond .ne 23, 3) := by decide +kernel
theorem dX3_gather_29 : decode cX3_gather 29 = .ok (.aload_n 0, 1) := by decide +kernel
theorem dX3_gather_30 : decode cX3_gather 30 = .ok (.getfield 9, 3) := by decide +kernel
theorem dX3_gather_33 : decode cX3_gather 33 = .ok (.aload_n 0, 1) := by decide +kernel
theorem dX3_gather_34 : decode cX3_gather 34 = .ok (.getfield 22, 3) := by decide +kernel
theorem dX3_gather_37 : decode cX3_gather 37 = .ok (.iload_n 1, 1) := by decide +kernel
theorem dX3_gather_38 : decode cX3_gather 38 = .ok (.iastore, 1) := by decide +kernel
theorem dX3_gather_39 : decode cX3_gather 39 = .ok (.aload_n 0, 1) := by decide +kernel
theorem dX3_gather_40 : decode cX3_gather 40 = .ok (.dup, 1) := by decide +kernel
theorem dX3_gather_41 : decode cX3_gather 41 = .ok (.getfield 22, 3) := by decide +kernel
theorem dX3_gather_44 : decode cX3_gather 44 = .ok (.iconst 1, 1) := by decide +kernel
theorem dX3_gather_45 : decode cX3_gather 45 = .ok (.iadd, 1) := by decide +kernel
theorem dX3_gather_46 : decode cX3_gather 46 = .ok (.putfield 22, 3) := by decide +kernel
theorem dX3_gather_49 : decode cX3_gather 49 = .ok (.iinc 1 1, 3) := by decide +kernel
theorem dX3_gather_52 : decode cX3_gather 52 = .ok (.goto (-45), 3) := by decide +kernel
theorem dX3_gather_55 : decode cX3_gather 55 = .ok (.return_, 1) := by decide +kernel
theorem dX3_number_0 : decode cX3_number 0 = .ok (.iconst 0, 1) := by decide +kernel
theorem dX3_number_1 : decode cX3_number 1 = .ok (.istore_n 1, 1) := by decide +kernel
theorem dX3_number_2 : decode cX3_number 2 = .ok (.aload_n 0, 1) := by decide +kernel
theorem dX3_number_3 : decode cX3_number 3 = .ok (.getfield 22, 3) := by decide +kernel
theorem dX3_number_6 : decode cX3_number 6 = .ok (.iconst 1, 1) := by decide +kernel
theorem dX3_number_7 : decode cX3_number 7 = .ok (.isub, 1) := by decide +kernel
theorem dX3_number_8 : decode cX3_number 8 = .ok (.istore_n 2, 1) := by decide +kernel
theorem dX3_number_9 : decode cX3_number 9 = .ok (.iload_n 2, 1) := by decide +kernel
theorem dX3_number_10 : decode cX3_number 10 = .ok (.ifCond .lt 26, 3) := by decide +kernel
theorem dX3_number_13 : decode cX3_number 13 = .ok (.iload_n 1, 1) := by decide +kernel
theorem dX3_number_14 : decode cX3_number 14 = .ok (.aload_n 0, 1) := by decide +kernel
theorem dX3_number_15 : decode cX3_number 15 = .ok (.getfield 18, 3) := by decide +kernel
theorem dX3_number_18 : decode cX3_number 18 = .ok (.getfield 35, 3) := by decide +kernel
theorem dX3_number_21 : decode cX3_number 21 = .ok (.imul, 1) := by decide +kernel
theorem dX3_number_22 : decode cX3_number 22 = .ok (.aload_n 0, 1) := by decide +kernel
theorem dX3_number_23 : decode cX3_number 23 = .ok (.getfield 15, 3) := by decide +kernel
theorem dX3_number_26 : decode cX3_number 26 = .ok (.iload_n 2, 1) := by decide +kernel
theorem dX3_number_27 : decode cX3_number 27 = .ok (.iaload, 1) := by decide +kernel
theorem dX3_number_28 : decode cX3_number 28 = .ok (.iadd, 1) := by decide +kernel
theorem dX3_number_29 : decode cX3_number 29 = .ok (.istore_n 1, 1) := by decide +kernel
theorem dX3_number_30 : decode cX3_number 30 = .ok (.iinc 2 (-1), 3) := by decide +kernel
theorem dX3_number_33 : decode cX3_number 33 = .ok (.goto (-24), 3) := by decide +kernel
theorem dX3_number_36 : decode cX3_number 36 = .ok (.iload_n 1, 1) := by decide +kernel
theorem dX3_number_37 : decode cX3_number 37 = .ok (.ireturn, 1) := by decide +kernel
theorem dX3_readNumber_0 : decode cX3_readNumber 0 = .ok (.aload_n 0, 1) := by decide +kernel
theorem dX3_readNumber_1 : decode cX3_readNumber 1 = .ok (.invokevirtual 38, 3) := by decide +kernel
theorem dX3_readNumber_4 : decode cX3_readNumber 4 = .ok (.iload_n 1, 1) := by decide +kernel
theorem dX3_readNumber_5 : decode cX3_readNumber 5 = .ok (.ifCond .ge 5, 3) := by decide +kernel
theorem dX3_readNumber_8 : decode cX3_readNumber 8 = .ok (.iconst 0, 1) := by decide +kernel
theorem dX3_readNumber_9 : decode cX3_readNumber 9 = .ok (.ireturn, 1) := by decide +kernel
theorem dX3_readNumber_10 : decode cX3_readNumber 10 = .ok (.iload_n 1, 1) := by decide +kernel
theorem dX3_readNumber_11 : decode cX3_readNumber 11 = .ok (.istore_n 2, 1) := by decide +kernel
theorem dX3_readNumber_12 : decode cX3_readNumber 12 = .ok (.iconst 0, 1) := by decide +kernel
theorem dX3_readNumber_13 : decode cX3_readNumber 13 = .ok (.istore_n 3, 1) := by decide +kernel
theorem dX3_readNumber_14 : decode cX3_readNumber 14 = .ok (.iload_n 3, 1) := by decide +kernel
theorem dX3_readNumber_15 : decode cX3_readNumber 15 = .ok (.aload_n 0, 1) := by decide +kernel
theorem dX3_readNumber_16 : decode cX3_readNumber 16 = .ok (.getfield 22, 3) := by decide +kernel
theorem dX3_readNumber_19 : decode cX3_readNumber 19 = .ok (.if_icmp .ge 46, 3) := by decide +kernel
theorem dX3_readNumber_22 : decode cX3_readNumber 22 = .ok (.aload_n 0, 1) := by decide +kernel
theorem dX3_readNumber_23 : decode cX3_readNumber 23 = .ok (.getfield 18, 3) := by decide +kernel
theorem dX3_readNumber_26 : decode cX3_readNumber 26 = .ok (.getfield 35, 3) := by decide +kernel
theorem dX3_readNumber_29 : decode cX3_readNumber 29 = .ok (.ifCond .gt 5, 3) := by decide +kernel
theorem dX3_readNumber_32 : decode cX3_readNumber 32 = .ok (.iconst 0, 1) := by decide +kernel
theorem dX3_readNumber_33 : decode cX3_readNumber 33 = .ok (.ireturn, 1) := by decide +kernel
theorem dX3_readNumber_34 : decode cX3_readNumber 34 = .ok (.aload_n 0, 1) := by decide +kernel
theorem dX3_readNumber_35 : decode cX3_readNumber 35 = .ok (.getfield 15, 3) := by decide +kernel
theorem dX3_readNumber_38 : decode cX3_readNumber 38 = .ok (.iload_n 3, 1) := by decide +kernel
theorem dX3_readNumber_39 : decode cX3_readNumber 39 = .ok (.iload_n 2, 1) := by decide +kernel
theorem dX3_readNumber_40 : decode cX3_readNumber 40 = .ok (.aload_n 0, 1) := by decide +kernel
theorem dX3_readNumber_41 : decode cX3_readNumber 41 = .ok (.getfield 18, 3) := by decide +kernel
theorem dX3_readNumber_44 : decode cX3_readNumber 44 = .ok (.getfield 35, 3) := by decide +kernel
theorem dX3_readNumber_47 : decode cX3_readNumber 47 = .ok (.irem, 1) := by decide +kernel
theorem dX3_readNumber_48 : decode cX3_readNumber 48 = .ok (.iastore, 1) := by decide +kernel
theorem dX3_readNumber_49 : decode cX3_readNumber 49 = .ok (.iload_n 2, 1) := by decide +kernel
theorem dX3_readNumber_50 : decode cX3_readNumber 50 = .ok (.aload_n 0, 1) := by decide +kernel
theorem dX3_readNumber_51 : decode cX3_readNumber 51 = .ok (.getfield 18, 3) := by decide +kernel
theorem dX3_readNumber_54 : decode cX3_readNumber 54 = .ok (.getfield 35, 3) := by decide +kernel
theorem dX3_readNumber_57 : decode cX3_readNumber 57 = .ok (.idiv, 1) := by decide +kernel
theorem dX3_readNumber_58 : decode cX3_readNumber 58 = .ok (.istore_n 2, 1) := by decide +kernel
theorem dX3_readNumber_59 : decode cX3_readNumber 59 = .ok (.iinc 3 1, 3) := by decide +kernel
theorem dX3_readNumber_62 : decode cX3_readNumber 62 = .ok (.goto (-48), 3) := by decide +kernel
theorem dX3_readNumber_65 : decode cX3_readNumber 65 = .ok (.iload_n 2, 1) := by decide +kernel
theorem dX3_readNumber_66 : decode cX3_readNumber 66 = .ok (.ifCond .ne 7, 3) := by decide +kernel
theorem dX3_readNumber_69 : decode cX3_readNumber 69 = .ok (.iconst 1, 1) := by decide +kernel
theorem dX3_readNumber_70 : decode cX3_readNumber 70 = .ok (.goto 4, 3) := by decide +kernel
theorem dX3_readNumber_73 : decode cX3_readNumber 73 = .ok (.iconst 0, 1) := by decide +kernel
theorem dX3_readNumber_74 : decode cX3_readNumber 74 = .ok (.ireturn, 1) := by decide +kernel
theorem dX3_takeTurns_0 : decode cX3_takeTurns 0 = .ok (.aload_n 0, 1) := by decide +kernel
theorem dX3_takeTurns_1 : decode cX3_takeTurns 1 = .ok (.iload_n 1, 1) := by decide +kernel
theorem dX3_takeTurns_2 : decode cX3_takeTurns 2 = .ok (.iconst (-1), 1) := by decide +kernel
theorem dX3_takeTurns_3 : decode cX3_takeTurns 3 = .ok (.iconst 0, 1) := by decide +kernel
theorem dX3_takeTurns_4 : decode cX3_takeTurns 4 = .ok (.iconst 0, 1) := by decide +kernel
theorem dX3_takeTurns_5 : decode cX3_takeTurns 5 = .ok (.invokevirtual 41, 3) := by decide +kernel
theorem dX3_takeTurns_8 : decode cX3_takeTurns 8 = .ok (.return_, 1) := by decide +kernel
theorem dX3_takeTurnsWithLie_0 : decode cX3_takeTurnsWithLie 0 = .ok (.iconst 0, 1) := by decide +kernel
theorem dX3_takeTurnsWithLie_1 : decode cX3_takeTurnsWithLie 1 = .ok (.istore 5, 2) := by decide +kernel
theorem dX3_takeTurnsWithLie_3 : decode cX3_takeTurnsWithLie 3 = .ok (.iload 5, 2) := by decide +kernel
theorem dX3_takeTurnsWithLie_5 : decode cX3_takeTurnsWithLie 5 = .ok (.aload_n 0, 1) := by decide +kernel
theorem dX3_takeTurnsWithLie_6 : decode cX3_takeTurnsWithLie 6 = .ok (.getfield 22, 3) := by decide +kernel
theorem dX3_takeTurnsWithLie_9 : decode cX3_takeTurnsWithLie 9 = .ok (.if_icmp .ge 17, 3) := by decide +kernel
theorem dX3_takeTurnsWithLie_12 : decode cX3_takeTurnsWithLie 12 = .ok (.aload_n 0, 1) := by decide +kernel
theorem dX3_takeTurnsWithLie_13 : decode cX3_takeTurnsWithLie 13 = .ok (.getfield 15, 3) := by decide +kernel
theorem dX3_takeTurnsWithLie_16 : decode cX3_takeTurnsWithLie 16 = .ok (.iload 5, 2) := by decide +kernel
theorem dX3_takeTurnsWithLie_18 : decode cX3_takeTurnsWithLie 18 = .ok (.iconst (-1), 1) := by decide +kernel
theorem dX3_takeTurnsWithLie_19 : decode cX3_takeTurnsWithLie 19 = .ok (.iastore, 1) := by decide +kernel
theorem dX3_takeTurnsWithLie_20 : decode cX3_takeTurnsWithLie 20 = .ok (.iinc 5 1, 3) := by decide +kernel
theorem dX3_takeTurnsWithLie_23 : decode cX3_takeTurnsWithLie 23 = .ok (.goto (-20), 3) := by decide +kernel
theorem dX3_takeTurnsWithLie_26 : decode cX3_takeTurnsWithLie 26 = .ok (.iconst 0, 1) := by decide +kernel
theorem dX3_takeTurnsWithLie_27 : decode cX3_takeTurnsWithLie 27 = .ok (.istore 5, 2) := by decide +kernel
theorem dX3_takeTurnsWithLie_29 : decode cX3_takeTurnsWithLie 29 = .ok (.iload 5, 2) := by decide +kernel
theorem dX3_takeTurnsWithLie_31 : decode cX3_takeTurnsWithLie 31 = .ok (.aload_n 0, 1) := by decide +kernel
theorem dX3_takeTurnsWithLie_32 : decode cX3_takeTurnsWithLie 32 = .ok (.getfield 22, 3) := by decide +kernel
theorem dX3_takeTurnsWithLie_35 : decode cX3_takeTurnsWithLie 35 = .ok (.if_icmp .ge 128, 3) := by decide +kernel
theorem dX3_takeTurnsWithLie_38 : decode cX3_takeTurnsWithLie 38 = .ok (.aload_n 0, 1) := by decide +kernel
theorem dX3_takeTurnsWithLie_39 : decode cX3_takeTurnsWithLie 39 = .ok (.iload_n 1, 1) := by decide +kernel
theorem dX3_takeTurnsWithLie_40 : decode cX3_takeTurnsWithLie 40 = .ok (.iload 5, 2) := by decide +kernel
theorem dX3_takeTurnsWithLie_42 : decode cX3_takeTurnsWithLie 42 = .ok (.invokevirtual 45, 3) := by decide +kernel
theorem dX3_takeTurnsWithLie_45 : decode cX3_takeTurnsWithLie 45 = .ok (.istore 6, 2) := by decide +kernel
theorem dX3_takeTurnsWithLie_47 : decode cX3_takeTurnsWithLie 47 = .ok (.iconst (-1), 1) := by decide +kernel
theorem dX3_takeTurnsWithLie_48 : decode cX3_takeTurnsWithLie 48 = .ok (.istore 7, 2) := by decide +kernel
theorem dX3_takeTurnsWithLie_50 : decode cX3_takeTurnsWithLie 50 = .ok (.iconst (-1), 1) := by decide +kernel
theorem dX3_takeTurnsWithLie_51 : decode cX3_takeTurnsWithLie 51 = .ok (.istore 8, 2) := by decide +kernel
theorem dX3_takeTurnsWithLie_53 : decode cX3_takeTurnsWithLie 53 = .ok (.iconst 0, 1) := by decide +kernel
theorem dX3_takeTurnsWithLie_54 : decode cX3_takeTurnsWithLie 54 = .ok (.istore 9, 2) := by decide +kernel
theorem dX3_takeTurnsWithLie_56 : decode cX3_takeTurnsWithLie 56 = .ok (.iload 9, 2) := by decide +kernel
theorem dX3_takeTurnsWithLie_58 : decode cX3_takeTurnsWithLie 58 = .ok (.aload_n 0, 1) := by decide +kernel
theorem dX3_takeTurnsWithLie_59 : decode cX3_takeTurnsWithLie 59 = .ok (.getfield 22, 3) := by decide +kernel
theorem dX3_takeTurnsWithLie_62 : decode cX3_takeTurnsWithLie 62 = .ok (.if_icmp .ge 80, 3) := by decide +kernel
theorem dX3_takeTurnsWithLie_65 : decode cX3_takeTurnsWithLie 65 = .ok (.aload_n 0, 1) := by decide +kernel
theorem dX3_takeTurnsWithLie_66 : decode cX3_takeTurnsWithLie 66 = .ok (.getfield 15, 3) := by decide +kernel
theorem dX3_takeTurnsWithLie_69 : decode cX3_takeTurnsWithLie 69 = .ok (.iload 9, 2) := by decide +kernel
theorem dX3_takeTurnsWithLie_71 : decode cX3_takeTurnsWithLie 71 = .ok (.iaload, 1) := by decide +kernel
theorem dX3_takeTurnsWithLie_72 : decode cX3_takeTurnsWithLie 72 = .ok (.iconst (-1), 1) := by decide +kernel
theorem dX3_takeTurnsWithLie_73 : decode cX3_takeTurnsWithLie 73 = .ok (.if_icmp .eq 6, 3) := by decide +kernel
theorem dX3_takeTurnsWithLie_76 : decode cX3_takeTurnsWithLie 76 = .ok (.goto 60, 3) := by decide +kernel
theorem dX3_takeTurnsWithLie_79 : decode cX3_takeTurnsWithLie 79 = .ok (.iload 6, 2) := by decide +kernel
theorem dX3_takeTurnsWithLie_81 : decode cX3_takeTurnsWithLie 81 = .ok (.iload_n 2, 1) := by decide +kernel
theorem dX3_takeTurnsWithLie_82 : decode cX3_takeTurnsWithLie 82 = .ok (.if_icmp .ne 19, 3) := by decide +kernel
theorem dX3_takeTurnsWithLie_85 : decode cX3_takeTurnsWithLie 85 = .ok (.aload_n 0, 1) := by decide +kernel
theorem dX3_takeTurnsWithLie_86 : decode cX3_takeTurnsWithLie 86 = .ok (.getfield 9, 3) := by decide +kernel
theorem dX3_takeTurnsWithLie_89 : decode cX3_takeTurnsWithLie 89 = .ok (.iload 9, 2) := by decide +kernel
theorem dX3_takeTurnsWithLie_91 : decode cX3_takeTurnsWithLie 91 = .ok (.iaload, 1) := by decide +kernel
theorem dX3_takeTurnsWithLie_92 : decode cX3_takeTurnsWithLie 92 = .ok (.iload_n 3, 1) := by decide +kernel
theorem dX3_takeTurnsWithLie_93 : decode cX3_takeTurnsWithLie 93 = .ok (.if_icmp .ne 8, 3) := by decide +kernel
theorem dX3_takeTurnsWithLie_96 : decode cX3_takeTurnsWithLie 96 = .ok (.iload 4, 2) := by decide +kernel
theorem dX3_takeTurnsWithLie_98 : decode cX3_takeTurnsWithLie 98 = .ok (.goto 21, 3) := by decide +kernel
theorem dX3_takeTurnsWithLie_101 : decode cX3_takeTurnsWithLie 101 = .ok (.aload_n 0, 1) := by decide +kernel
theorem dX3_takeTurnsWithLie_102 : decode cX3_takeTurnsWithLie 102 = .ok (.getfield 18, 3) := by decide +kernel
theorem dX3_takeTurnsWithLie_105 : decode cX3_takeTurnsWithLie 105 = .ok (.getfield 49, 3) := by decide +kernel
theorem dX3_takeTurnsWithLie_108 : decode cX3_takeTurnsWithLie 108 = .ok (.iload 6, 2) := by decide +kernel
theorem dX3_takeTurnsWithLie_110 : decode cX3_takeTurnsWithLie 110 = .ok (.aaload, 1) := by decide +kernel
theorem dX3_takeTurnsWithLie_111 : decode cX3_takeTurnsWithLie 111 = .ok (.aload_n 0, 1) := by decide +kernel
theorem dX3_takeTurnsWithLie_112 : decode cX3_takeTurnsWithLie 112 = .ok (.getfield 9, 3) := by decide +kernel
theorem dX3_takeTurnsWithLie_115 : decode cX3_takeTurnsWithLie 115 = .ok (.iload 9, 2) := by decide +kernel
theorem dX3_takeTurnsWithLie_117 : decode cX3_takeTurnsWithLie 117 = .ok (.iaload, 1) := by decide +kernel
theorem dX3_takeTurnsWithLie_118 : decode cX3_takeTurnsWithLie 118 = .ok (.iaload, 1) := by decide +kernel
theorem dX3_takeTurnsWithLie_119 : decode cX3_takeTurnsWithLie 119 = .ok (.istore 10, 2) := by decide +kernel
theorem dX3_takeTurnsWithLie_121 : decode cX3_takeTurnsWithLie 121 = .ok (.iload 10, 2) := by decide +kernel
theorem dX3_takeTurnsWithLie_123 : decode cX3_takeTurnsWithLie 123 = .ok (.iload 8, 2) := by decide +kernel
theorem dX3_takeTurnsWithLie_125 : decode cX3_takeTurnsWithLie 125 = .ok (.if_icmp .le 11, 3) := by decide +kernel
theorem dX3_takeTurnsWithLie_128 : decode cX3_takeTurnsWithLie 128 = .ok (.iload 10, 2) := by decide +kernel
theorem dX3_takeTurnsWithLie_130 : decode cX3_takeTurnsWithLie 130 = .ok (.istore 8, 2) := by decide +kernel
theorem dX3_takeTurnsWithLie_132 : decode cX3_takeTurnsWithLie 132 = .ok (.iload 9, 2) := by decide +kernel
theorem dX3_takeTurnsWithLie_134 : decode cX3_takeTurnsWithLie 134 = .ok (.istore 7, 2) := by decide +kernel
theorem dX3_takeTurnsWithLie_136 : decode cX3_takeTurnsWithLie 136 = .ok (.iinc 9 1, 3) := by decide +kernel
theorem dX3_takeTurnsWithLie_139 : decode cX3_takeTurnsWithLie 139 = .ok (.goto (-83), 3) := by decide +kernel
theorem dX3_takeTurnsWithLie_142 : decode cX3_takeTurnsWithLie 142 = .ok (.iload 7, 2) := by decide +kernel
theorem dX3_takeTurnsWithLie_144 : decode cX3_takeTurnsWithLie 144 = .ok (.iconst (-1), 1) := by decide +kernel
theorem dX3_takeTurnsWithLie_145 : decode cX3_takeTurnsWithLie 145 = .ok (.if_icmp .eq 12, 3) := by decide +kernel
theorem dX3_takeTurnsWithLie_148 : decode cX3_takeTurnsWithLie 148 = .ok (.aload_n 0, 1) := by decide +kernel
theorem dX3_takeTurnsWithLie_149 : decode cX3_takeTurnsWithLie 149 = .ok (.getfield 15, 3) := by decide +kernel
theorem dX3_takeTurnsWithLie_152 : decode cX3_takeTurnsWithLie 152 = .ok (.iload 7, 2) := by decide +kernel
theorem dX3_takeTurnsWithLie_154 : decode cX3_takeTurnsWithLie 154 = .ok (.iload 6, 2) := by decide +kernel
theorem dX3_takeTurnsWithLie_156 : decode cX3_takeTurnsWithLie 156 = .ok (.iastore, 1) := by decide +kernel
theorem dX3_takeTurnsWithLie_157 : decode cX3_takeTurnsWithLie 157 = .ok (.iinc 5 1, 3) := by decide +kernel
theorem dX3_takeTurnsWithLie_160 : decode cX3_takeTurnsWithLie 160 = .ok (.goto (-131), 3) := by decide +kernel
theorem dX3_takeTurnsWithLie_163 : decode cX3_takeTurnsWithLie 163 = .ok (.return_, 1) := by decide +kernel
theorem dX3_heirAtTurn_0 : decode cX3_heirAtTurn 0 = .ok (.iconst 1, 1) := by decide +kernel
theorem dX3_heirAtTurn_1 : decode cX3_heirAtTurn 1 = .ok (.aload_n 0, 1) := by decide +kernel
theorem dX3_heirAtTurn_2 : decode cX3_heirAtTurn 2 = .ok (.getfield 18, 3) := by decide +kernel
theorem dX3_heirAtTurn_5 : decode cX3_heirAtTurn 5 = .ok (.getfield 35, 3) := by decide +kernel
theorem dX3_heirAtTurn_8 : decode cX3_heirAtTurn 8 = .ok (.invokestatic 53, 3) := by decide +kernel
theorem dX3_heirAtTurn_11 : decode cX3_heirAtTurn 11 = .ok (.istore_n 3, 1) := by decide +kernel
theorem dX3_heirAtTurn_12 : decode cX3_heirAtTurn 12 = .ok (.iload_n 2, 1) := by decide +kernel
theorem dX3_heirAtTurn_13 : decode cX3_heirAtTurn 13 = .ok (.iload_n 3, 1) := by decide +kernel
theorem dX3_heirAtTurn_14 : decode cX3_heirAtTurn 14 = .ok (.irem, 1) := by decide +kernel
theorem dX3_heirAtTurn_15 : decode cX3_heirAtTurn 15 = .ok (.istore 4, 2) := by decide +kernel
theorem dX3_heirAtTurn_17 : decode cX3_heirAtTurn 17 = .ok (.iload_n 1, 1) := by decide +kernel
theorem dX3_heirAtTurn_18 : decode cX3_heirAtTurn 18 = .ok (.iconst 1, 1) := by decide +kernel
theorem dX3_heirAtTurn_19 : decode cX3_heirAtTurn 19 = .ok (.if_icmp .ne 16, 3) := by decide +kernel
theorem dX3_heirAtTurn_22 : decode cX3_heirAtTurn 22 = .ok (.iload_n 2, 1) := by decide +kernel
theorem dX3_heirAtTurn_23 : decode cX3_heirAtTurn 23 = .ok (.iload_n 3, 1) := by decide +kernel
theorem dX3_heirAtTurn_24 : decode cX3_heirAtTurn 24 = .ok (.idiv, 1) := by decide +kernel
theorem dX3_heirAtTurn_25 : decode cX3_heirAtTurn 25 = .ok (.iconst 2, 1) := by decide +kernel
theorem dX3_heirAtTurn_26 : decode cX3_heirAtTurn 26 = .ok (.irem, 1) := by decide +kernel
theorem dX3_heirAtTurn_27 : decode cX3_heirAtTurn 27 = .ok (.iconst 1, 1) := by decide +kernel
theorem dX3_heirAtTurn_28 : decode cX3_heirAtTurn 28 = .ok (.if_icmp .ne 7, 3) := by decide +kernel
theorem dX3_heirAtTurn_31 : decode cX3_heirAtTurn 31 = .ok (.iconst 1, 1) := by decide +kernel
theorem dX3_heirAtTurn_32 : decode cX3_heirAtTurn 32 = .ok (.goto 4, 3) := by decide +kernel
theorem dX3_heirAtTurn_35 : decode cX3_heirAtTurn 35 = .ok (.iconst 0, 1) := by decide +kernel
theorem dX3_heirAtTurn_36 : decode cX3_heirAtTurn 36 = .ok (.istore 5, 2) := by decide +kernel
theorem dX3_heirAtTurn_38 : decode cX3_heirAtTurn 38 = .ok (.iload 5, 2) := by decide +kernel
theorem dX3_heirAtTurn_40 : decode cX3_heirAtTurn 40 = .ok (.ifCond .eq 12, 3) := by decide +kernel
theorem dX3_heirAtTurn_43 : decode cX3_heirAtTurn 43 = .ok (.iload_n 3, 1) := by decide +kernel
theorem dX3_heirAtTurn_44 : decode cX3_heirAtTurn 44 = .ok (.iconst 1, 1) := by decide +kernel
theorem dX3_heirAtTurn_45 : decode cX3_heirAtTurn 45 = .ok (.isub, 1) := by decide +kernel
theorem dX3_heirAtTurn_46 : decode cX3_heirAtTurn 46 = .ok (.iload 4, 2) := by decide +kernel
theorem dX3_heirAtTurn_48 : decode cX3_heirAtTurn 48 = .ok (.isub, 1) := by decide +kernel
theorem dX3_heirAtTurn_49 : decode cX3_heirAtTurn 49 = .ok (.goto 5, 3) := by decide +kernel
theorem dX3_heirAtTurn_52 : decode cX3_heirAtTurn 52 = .ok (.iload 4, 2) := by decide +kernel
theorem dX3_heirAtTurn_54 : decode cX3_heirAtTurn 54 = .ok (.ireturn, 1) := by decide +kernel
theorem dX3_mostByLying_0 : decode cX3_mostByLying 0 = .ok (.aload_n 0, 1) := by decide +kernel
theorem dX3_mostByLying_1 : decode cX3_mostByLying 1 = .ok (.iload_n 1, 1) := by decide +kernel
theorem dX3_mostByLying_2 : decode cX3_mostByLying 2 = .ok (.invokevirtual 58, 3) := by decide +kernel
theorem dX3_mostByLying_5 : decode cX3_mostByLying 5 = .ok (.aload_n 0, 1) := by decide +kernel
theorem dX3_mostByLying_6 : decode cX3_mostByLying 6 = .ok (.iload_n 2, 1) := by decide +kernel
theorem dX3_mostByLying_7 : decode cX3_mostByLying 7 = .ok (.iload_n 2, 1) := by decide +kernel
theorem dX3_mostByLying_8 : decode cX3_mostByLying 8 = .ok (.invokevirtual 62, 3) := by decide +kernel
theorem dX3_mostByLying_11 : decode cX3_mostByLying 11 = .ok (.istore_n 3, 1) := by decide +kernel
theorem dX3_mostByLying_12 : decode cX3_mostByLying 12 = .ok (.iload_n 3, 1) := by decide +kernel
theorem dX3_mostByLying_13 : decode cX3_mostByLying 13 = .ok (.istore 4, 2) := by decide +kernel
theorem dX3_mostByLying_15 : decode cX3_mostByLying 15 = .ok (.iconst 0, 1) := by decide +kernel
theorem dX3_mostByLying_16 : decode cX3_mostByLying 16 = .ok (.istore 5, 2) := by decide +kernel
theorem dX3_mostByLying_18 : decode cX3_mostByLying 18 = .ok (.iload 5, 2) := by decide +kernel
theorem dX3_mostByLying_20 : decode cX3_mostByLying 20 = .ok (.aload_n 0, 1) := by decide +kernel
theorem dX3_mostByLying_21 : decode cX3_mostByLying 21 = .ok (.getfield 22, 3) := by decide +kernel
theorem dX3_mostByLying_24 : decode cX3_mostByLying 24 = .ok (.if_icmp .ge 65, 3) := by decide +kernel
theorem dX3_mostByLying_27 : decode cX3_mostByLying 27 = .ok (.iconst 0, 1) := by decide +kernel
theorem dX3_mostByLying_28 : decode cX3_mostByLying 28 = .ok (.istore 6, 2) := by decide +kernel
theorem dX3_mostByLying_30 : decode cX3_mostByLying 30 = .ok (.iload 6, 2) := by decide +kernel
theorem dX3_mostByLying_32 : decode cX3_mostByLying 32 = .ok (.bipush 100, 2) := by decide +kernel
theorem dX3_mostByLying_34 : decode cX3_mostByLying 34 = .ok (.if_icmp .gt 49, 3) := by decide +kernel
theorem dX3_mostByLying_37 : decode cX3_mostByLying 37 = .ok (.aload_n 0, 1) := by decide +kernel
theorem dX3_mostByLying_38 : decode cX3_mostByLying 38 = .ok (.iload_n 2, 1) := by decide +kernel
theorem dX3_mostByLying_39 : decode cX3_mostByLying 39 = .ok (.iload 5, 2) := by decide +kernel
theorem dX3_mostByLying_41 : decode cX3_mostByLying 41 = .ok (.iload 6, 2) := by decide +kernel
theorem dX3_mostByLying_43 : decode cX3_mostByLying 43 = .ok (.invokevirtual 65, 3) := by decide +kernel
theorem dX3_mostByLying_46 : decode cX3_mostByLying 46 = .ok (.ifCond .eq 31, 3) := by decide +kernel
theorem dX3_mostByLying_49 : decode cX3_mostByLying 49 = .ok (.aload_n 0, 1) := by decide +kernel
theorem dX3_mostByLying_50 : decode cX3_mostByLying 50 = .ok (.iload_n 1, 1) := by decide +kernel
theorem dX3_mostByLying_51 : decode cX3_mostByLying 51 = .ok (.iload_n 2, 1) := by decide +kernel
theorem dX3_mostByLying_52 : decode cX3_mostByLying 52 = .ok (.aload_n 0, 1) := by decide +kernel
theorem dX3_mostByLying_53 : decode cX3_mostByLying 53 = .ok (.getfield 9, 3) := by decide +kernel
theorem dX3_mostByLying_56 : decode cX3_mostByLying 56 = .ok (.iload 5, 2) := by decide +kernel
theorem dX3_mostByLying_58 : decode cX3_mostByLying 58 = .ok (.iaload, 1) := by decide +kernel
theorem dX3_mostByLying_59 : decode cX3_mostByLying 59 = .ok (.iload 6, 2) := by decide +kernel
theorem dX3_mostByLying_61 : decode cX3_mostByLying 61 = .ok (.invokevirtual 41, 3) := by decide +kernel
theorem dX3_mostByLying_64 : decode cX3_mostByLying 64 = .ok (.iload 4, 2) := by decide +kernel
theorem dX3_mostByLying_66 : decode cX3_mostByLying 66 = .ok (.aload_n 0, 1) := by decide +kernel
theorem dX3_mostByLying_67 : decode cX3_mostByLying 67 = .ok (.iload_n 2, 1) := by decide +kernel
theorem dX3_mostByLying_68 : decode cX3_mostByLying 68 = .ok (.iload_n 2, 1) := by decide +kernel
theorem dX3_mostByLying_69 : decode cX3_mostByLying 69 = .ok (.invokevirtual 62, 3) := by decide +kernel
theorem dX3_mostByLying_72 : decode cX3_mostByLying 72 = .ok (.invokestatic 53, 3) := by decide +kernel
theorem dX3_mostByLying_75 : decode cX3_mostByLying 75 = .ok (.istore 4, 2) := by decide +kernel
theorem dX3_mostByLying_77 : decode cX3_mostByLying 77 = .ok (.iinc 6 1, 3) := by decide +kernel
theorem dX3_mostByLying_80 : decode cX3_mostByLying 80 = .ok (.goto (-50), 3) := by decide +kernel
theorem dX3_mostByLying_83 : decode cX3_mostByLying 83 = .ok (.iinc 5 1, 3) := by decide +kernel
theorem dX3_mostByLying_86 : decode cX3_mostByLying 86 = .ok (.goto (-68), 3) := by decide +kernel
theorem dX3_mostByLying_89 : decode cX3_mostByLying 89 = .ok (.iload 4, 2) := by decide +kernel
theorem dX3_mostByLying_91 : decode cX3_mostByLying 91 = .ok (.iload_n 3, 1) := by decide +kernel
theorem dX3_mostByLying_92 : decode cX3_mostByLying 92 = .ok (.isub, 1) := by decide +kernel
theorem dX3_mostByLying_93 : decode cX3_mostByLying 93 = .ok (.ireturn, 1) := by decide +kernel
theorem dX3_changesOrder_0 : decode cX3_changesOrder 0 = .ok (.iload_n 3, 1) := by decide +kernel
theorem dX3_changesOrder_1 : decode cX3_changesOrder 1 = .ok (.ifCond .ne 5, 3) := by decide +kernel
theorem dX3_changesOrder_4 : decode cX3_changesOrder 4 = .ok (.iconst 1, 1) := by decide +kernel
theorem dX3_changesOrder_5 : decode cX3_changesOrder 5 = .ok (.ireturn, 1) := by decide +kernel
theorem dX3_changesOrder_6 : decode cX3_changesOrder 6 = .ok (.iconst 0, 1) := by decide +kernel
theorem dX3_changesOrder_7 : decode cX3_changesOrder 7 = .ok (.istore 4, 2) := by decide +kernel
theorem dX3_changesOrder_9 : decode cX3_changesOrder 9 = .ok (.iload 4, 2) := by decide +kernel
theorem dX3_changesOrder_11 : decode cX3_changesOrder 11 = .ok (.aload_n 0, 1) := by decide +kernel
theorem dX3_changesOrder_12 : decode cX3_changesOrder 12 = .ok (.getfield 22, 3) := by decide +kernel
theorem dX3_changesOrder_15 : decode cX3_changesOrder 15 = .ok (.if_icmp .ge 50, 3) := by decide +kernel
theorem dX3_changesOrder_18 : decode cX3_changesOrder 18 = .ok (.aload_n 0, 1) := by decide +kernel
theorem dX3_changesOrder_19 : decode cX3_changesOrder 19 = .ok (.getfield 18, 3) := by decide +kernel
theorem dX3_changesOrder_22 : decode cX3_changesOrder 22 = .ok (.getfield 49, 3) := by decide +kernel
theorem dX3_changesOrder_25 : decode cX3_changesOrder 25 = .ok (.iload_n 1, 1) := by decide +kernel
theorem dX3_changesOrder_26 : decode cX3_changesOrder 26 = .ok (.aaload, 1) := by decide +kernel
theorem dX3_changesOrder_27 : decode cX3_changesOrder 27 = .ok (.aload_n 0, 1) := by decide +kernel
theorem dX3_changesOrder_28 : decode cX3_changesOrder 28 = .ok (.getfield 9, 3) := by decide +kernel
theorem dX3_changesOrder_31 : decode cX3_changesOrder 31 = .ok (.iload 4, 2) := by decide +kernel
theorem dX3_changesOrder_33 : decode cX3_changesOrder 33 = .ok (.iaload, 1) := by decide +kernel
theorem dX3_changesOrder_34 : decode cX3_changesOrder 34 = .ok (.iaload, 1) := by decide +kernel
theorem dX3_changesOrder_35 : decode cX3_changesOrder 35 = .ok (.istore 5, 2) := by decide +kernel
theorem dX3_changesOrder_37 : decode cX3_changesOrder 37 = .ok (.iload 4, 2) := by decide +kernel
theorem dX3_changesOrder_39 : decode cX3_changesOrder 39 = .ok (.iload_n 2, 1) := by decide +kernel
theorem dX3_changesOrder_40 : decode cX3_changesOrder 40 = .ok (.if_icmp .eq 19, 3) := by decide +kernel
theorem dX3_changesOrder_43 : decode cX3_changesOrder 43 = .ok (.iload 5, 2) := by decide +kernel
theorem dX3_changesOrder_45 : decode cX3_changesOrder 45 = .ok (.iload_n 3, 1) := by decide +kernel
theorem dX3_changesOrder_46 : decode cX3_changesOrder 46 = .ok (.if_icmp .eq 11, 3) := by decide +kernel
theorem dX3_changesOrder_49 : decode cX3_changesOrder 49 = .ok (.iload 5, 2) := by decide +kernel
theorem dX3_changesOrder_51 : decode cX3_changesOrder 51 = .ok (.iload_n 3, 1) := by decide +kernel
theorem dX3_changesOrder_52 : decode cX3_changesOrder 52 = .ok (.iconst 1, 1) := by decide +kernel
theorem dX3_changesOrder_53 : decode cX3_changesOrder 53 = .ok (.isub, 1) := by decide +kernel
theorem dX3_changesOrder_54 : decode cX3_changesOrder 54 = .ok (.if_icmp .ne 5, 3) := by decide +kernel
theorem dX3_changesOrder_57 : decode cX3_changesOrder 57 = .ok (.iconst 1, 1) := by decide +kernel
theorem dX3_changesOrder_58 : decode cX3_changesOrder 58 = .ok (.ireturn, 1) := by decide +kernel
theorem dX3_changesOrder_59 : decode cX3_changesOrder 59 = .ok (.iinc 4 1, 3) := by decide +kernel
theorem dX3_changesOrder_62 : decode cX3_changesOrder 62 = .ok (.goto (-53), 3) := by decide +kernel
theorem dX3_changesOrder_65 : decode cX3_changesOrder 65 = .ok (.iconst 0, 1) := by decide +kernel
theorem dX3_changesOrder_66 : decode cX3_changesOrder 66 = .ok (.ireturn, 1) := by decide +kernel
theorem dX3_sumOf_0 : decode cX3_sumOf 0 = .ok (.iconst 0, 1) := by decide +kernel
theorem dX3_sumOf_1 : decode cX3_sumOf 1 = .ok (.istore_n 3, 1) := by decide +kernel
theorem dX3_sumOf_2 : decode cX3_sumOf 2 = .ok (.iconst 0, 1) := by decide +kernel
theorem dX3_sumOf_3 : decode cX3_sumOf 3 = .ok (.istore 4, 2) := by decide +kernel
theorem dX3_sumOf_5 : decode cX3_sumOf 5 = .ok (.iload 4, 2) := by decide +kernel
theorem dX3_sumOf_7 : decode cX3_sumOf 7 = .ok (.aload_n 0, 1) := by decide +kernel
theorem dX3_sumOf_8 : decode cX3_sumOf 8 = .ok (.getfield 22, 3) := by decide +kernel
theorem dX3_sumOf_11 : decode cX3_sumOf 11 = .ok (.if_icmp .ge 40, 3) := by decide +kernel
theorem dX3_sumOf_14 : decode cX3_sumOf 14 = .ok (.aload_n 0, 1) := by decide +kernel
theorem dX3_sumOf_15 : decode cX3_sumOf 15 = .ok (.getfield 15, 3) := by decide +kernel
theorem dX3_sumOf_18 : decode cX3_sumOf 18 = .ok (.iload 4, 2) := by decide +kernel
theorem dX3_sumOf_20 : decode cX3_sumOf 20 = .ok (.iaload, 1) := by decide +kernel
theorem dX3_sumOf_21 : decode cX3_sumOf 21 = .ok (.iload_n 2, 1) := by decide +kernel
theorem dX3_sumOf_22 : decode cX3_sumOf 22 = .ok (.if_icmp .ne 23, 3) := by decide +kernel
theorem dX3_sumOf_25 : decode cX3_sumOf 25 = .ok (.iload_n 3, 1) := by decide +kernel
theorem dX3_sumOf_26 : decode cX3_sumOf 26 = .ok (.aload_n 0, 1) := by decide +kernel
theorem dX3_sumOf_27 : decode cX3_sumOf 27 = .ok (.getfield 18, 3) := by decide +kernel
theorem dX3_sumOf_30 : decode cX3_sumOf 30 = .ok (.getfield 49, 3) := by decide +kernel
theorem dX3_sumOf_33 : decode cX3_sumOf 33 = .ok (.iload_n 1, 1) := by decide +kernel
theorem dX3_sumOf_34 : decode cX3_sumOf 34 = .ok (.aaload, 1) := by decide +kernel
theorem dX3_sumOf_35 : decode cX3_sumOf 35 = .ok (.aload_n 0, 1) := by decide +kernel
theorem dX3_sumOf_36 : decode cX3_sumOf 36 = .ok (.getfield 9, 3) := by decide +kernel
theorem dX3_sumOf_39 : decode cX3_sumOf 39 = .ok (.iload 4, 2) := by decide +kernel
theorem dX3_sumOf_41 : decode cX3_sumOf 41 = .ok (.iaload, 1) := by decide +kernel
theorem dX3_sumOf_42 : decode cX3_sumOf 42 = .ok (.iaload, 1) := by decide +kernel
theorem dX3_sumOf_43 : decode cX3_sumOf 43 = .ok (.iadd, 1) := by decide +kernel
theorem dX3_sumOf_44 : decode cX3_sumOf 44 = .ok (.istore_n 3, 1) := by decide +kernel
theorem dX3_sumOf_45 : decode cX3_sumOf 45 = .ok (.iinc 4 1, 3) := by decide +kernel
theorem dX3_sumOf_48 : decode cX3_sumOf 48 = .ok (.goto (-43), 3) := by decide +kernel
theorem dX3_sumOf_51 : decode cX3_sumOf 51 = .ok (.iload_n 3, 1) := by decide +kernel
theorem dX3_sumOf_52 : decode cX3_sumOf 52 = .ok (.ireturn, 1) := by decide +kernel
theorem dX3_greatestOf_0 : decode cX3_greatestOf 0 = .ok (.iconst 0, 1) := by decide +kernel
theorem dX3_greatestOf_1 : decode cX3_greatestOf 1 = .ok (.istore_n 3, 1) := by decide +kernel
theorem dX3_greatestOf_2 : decode cX3_greatestOf 2 = .ok (.iconst 0, 1) := by decide +kernel
theorem dX3_greatestOf_3 : decode cX3_greatestOf 3 = .ok (.istore 4, 2) := by decide +kernel
theorem dX3_greatestOf_5 : decode cX3_greatestOf 5 = .ok (.iload 4, 2) := by decide +kernel
theorem dX3_greatestOf_7 : decode cX3_greatestOf 7 = .ok (.aload_n 0, 1) := by decide +kernel
theorem dX3_greatestOf_8 : decode cX3_greatestOf 8 = .ok (.getfield 22, 3) := by decide +kernel
theorem dX3_greatestOf_11 : decode cX3_greatestOf 11 = .ok (.if_icmp .ge 42, 3) := by decide +kernel
theorem dX3_greatestOf_14 : decode cX3_greatestOf 14 = .ok (.aload_n 0, 1) := by decide +kernel
theorem dX3_greatestOf_15 : decode cX3_greatestOf 15 = .ok (.getfield 15, 3) := by decide +kernel
theorem dX3_greatestOf_18 : decode cX3_greatestOf 18 = .ok (.iload 4, 2) := by decide +kernel
theorem dX3_greatestOf_20 : decode cX3_greatestOf 20 = .ok (.iaload, 1) := by decide +kernel
theorem dX3_greatestOf_21 : decode cX3_greatestOf 21 = .ok (.iload_n 2, 1) := by decide +kernel
theorem dX3_greatestOf_22 : decode cX3_greatestOf 22 = .ok (.if_icmp .ne 25, 3) := by decide +kernel
theorem dX3_greatestOf_25 : decode cX3_greatestOf 25 = .ok (.iload_n 3, 1) := by decide +kernel
theorem dX3_greatestOf_26 : decode cX3_greatestOf 26 = .ok (.aload_n 0, 1) := by decide +kernel
theorem dX3_greatestOf_27 : decode cX3_greatestOf 27 = .ok (.getfield 18, 3) := by decide +kernel
theorem dX3_greatestOf_30 : decode cX3_greatestOf 30 = .ok (.getfield 49, 3) := by decide +kernel
theorem dX3_greatestOf_33 : decode cX3_greatestOf 33 = .ok (.iload_n 1, 1) := by decide +kernel
theorem dX3_greatestOf_34 : decode cX3_greatestOf 34 = .ok (.aaload, 1) := by decide +kernel
theorem dX3_greatestOf_35 : decode cX3_greatestOf 35 = .ok (.aload_n 0, 1) := by decide +kernel
theorem dX3_greatestOf_36 : decode cX3_greatestOf 36 = .ok (.getfield 9, 3) := by decide +kernel
theorem dX3_greatestOf_39 : decode cX3_greatestOf 39 = .ok (.iload 4, 2) := by decide +kernel
theorem dX3_greatestOf_41 : decode cX3_greatestOf 41 = .ok (.iaload, 1) := by decide +kernel
theorem dX3_greatestOf_42 : decode cX3_greatestOf 42 = .ok (.iaload, 1) := by decide +kernel
theorem dX3_greatestOf_43 : decode cX3_greatestOf 43 = .ok (.invokestatic 53, 3) := by decide +kernel
theorem dX3_greatestOf_46 : decode cX3_greatestOf 46 = .ok (.istore_n 3, 1) := by decide +kernel
theorem dX3_greatestOf_47 : decode cX3_greatestOf 47 = .ok (.iinc 4 1, 3) := by decide +kernel
theorem dX3_greatestOf_50 : decode cX3_greatestOf 50 = .ok (.goto (-45), 3) := by decide +kernel
theorem dX3_greatestOf_53 : decode cX3_greatestOf 53 = .ok (.iload_n 3, 1) := by decide +kernel
theorem dX3_greatestOf_54 : decode cX3_greatestOf 54 = .ok (.ireturn, 1) := by decide +kernel
theorem dX3_envyOf_0 : decode cX3_envyOf 0 = .ok (.aload_n 0, 1) := by decide +kernel
theorem dX3_envyOf_1 : decode cX3_envyOf 1 = .ok (.iload_n 1, 1) := by decide +kernel
theorem dX3_envyOf_2 : decode cX3_envyOf 2 = .ok (.iload_n 2, 1) := by decide +kernel
theorem dX3_envyOf_3 : decode cX3_envyOf 3 = .ok (.invokevirtual 62, 3) := by decide +kernel
theorem dX3_envyOf_6 : decode cX3_envyOf 6 = .ok (.aload_n 0, 1) := by decide +kernel
theorem dX3_envyOf_7 : decode cX3_envyOf 7 = .ok (.iload_n 1, 1) := by decide +kernel
theorem dX3_envyOf_8 : decode cX3_envyOf 8 = .ok (.iload_n 1, 1) := by decide +kernel
theorem dX3_envyOf_9 : decode cX3_envyOf 9 = .ok (.invokevirtual 62, 3) := by decide +kernel
theorem dX3_envyOf_12 : decode cX3_envyOf 12 = .ok (.isub, 1) := by decide +kernel
theorem dX3_envyOf_13 : decode cX3_envyOf 13 = .ok (.istore_n 3, 1) := by decide +kernel
theorem dX3_envyOf_14 : decode cX3_envyOf 14 = .ok (.iload_n 3, 1) := by decide +kernel
theorem dX3_envyOf_15 : decode cX3_envyOf 15 = .ok (.ifCond .gt 5, 3) := by decide +kernel
theorem dX3_envyOf_18 : decode cX3_envyOf 18 = .ok (.iconst 0, 1) := by decide +kernel
theorem dX3_envyOf_19 : decode cX3_envyOf 19 = .ok (.ireturn, 1) := by decide +kernel
theorem dX3_envyOf_20 : decode cX3_envyOf 20 = .ok (.iload_n 3, 1) := by decide +kernel
theorem dX3_envyOf_21 : decode cX3_envyOf 21 = .ok (.aload_n 0, 1) := by decide +kernel
theorem dX3_envyOf_22 : decode cX3_envyOf 22 = .ok (.iload_n 1, 1) := by decide +kernel
theorem dX3_envyOf_23 : decode cX3_envyOf 23 = .ok (.iload_n 2, 1) := by decide +kernel
theorem dX3_envyOf_24 : decode cX3_envyOf 24 = .ok (.invokevirtual 69, 3) := by decide +kernel
theorem dX3_envyOf_27 : decode cX3_envyOf 27 = .ok (.if_icmp .gt 7, 3) := by decide +kernel
theorem dX3_envyOf_30 : decode cX3_envyOf 30 = .ok (.iconst 1, 1) := by decide +kernel
theorem dX3_envyOf_31 : decode cX3_envyOf 31 = .ok (.goto 4, 3) := by decide +kernel
theorem dX3_envyOf_34 : decode cX3_envyOf 34 = .ok (.iconst 2, 1) := by decide +kernel
theorem dX3_envyOf_35 : decode cX3_envyOf 35 = .ok (.ireturn, 1) := by decide +kernel
theorem dX3_envyPairs_0 : decode cX3_envyPairs 0 = .ok (.iconst 0, 1) := by decide +kernel
theorem dX3_envyPairs_1 : decode cX3_envyPairs 1 = .ok (.istore_n 1, 1) := by decide +kernel
theorem dX3_envyPairs_2 : decode cX3_envyPairs 2 = .ok (.iconst 0, 1) := by decide +kernel
theorem dX3_envyPairs_3 : decode cX3_envyPairs 3 = .ok (.istore_n 2, 1) := by decide +kernel
theorem dX3_envyPairs_4 : decode cX3_envyPairs 4 = .ok (.iload_n 2, 1) := by decide +kernel
theorem dX3_envyPairs_5 : decode cX3_envyPairs 5 = .ok (.aload_n 0, 1) := by decide +kernel
theorem dX3_envyPairs_6 : decode cX3_envyPairs 6 = .ok (.getfield 18, 3) := by decide +kernel
theorem dX3_envyPairs_9 : decode cX3_envyPairs 9 = .ok (.getfield 35, 3) := by decide +kernel
theorem dX3_envyPairs_12 : decode cX3_envyPairs 12 = .ok (.if_icmp .ge 45, 3) := by decide +kernel
theorem dX3_envyPairs_15 : decode cX3_envyPairs 15 = .ok (.iconst 0, 1) := by decide +kernel
theorem dX3_envyPairs_16 : decode cX3_envyPairs 16 = .ok (.istore_n 3, 1) := by decide +kernel
theorem dX3_envyPairs_17 : decode cX3_envyPairs 17 = .ok (.iload_n 3, 1) := by decide +kernel
theorem dX3_envyPairs_18 : decode cX3_envyPairs 18 = .ok (.aload_n 0, 1) := by decide +kernel
theorem dX3_envyPairs_19 : decode cX3_envyPairs 19 = .ok (.getfield 18, 3) := by decide +kernel
theorem dX3_envyPairs_22 : decode cX3_envyPairs 22 = .ok (.getfield 35, 3) := by decide +kernel
theorem dX3_envyPairs_25 : decode cX3_envyPairs 25 = .ok (.if_icmp .ge 26, 3) := by decide +kernel
theorem dX3_envyPairs_28 : decode cX3_envyPairs 28 = .ok (.iload_n 2, 1) := by decide +kernel
theorem dX3_envyPairs_29 : decode cX3_envyPairs 29 = .ok (.iload_n 3, 1) := by decide +kernel
theorem dX3_envyPairs_30 : decode cX3_envyPairs 30 = .ok (.if_icmp .eq 15, 3) := by decide +kernel
theorem dX3_envyPairs_33 : decode cX3_envyPairs 33 = .ok (.aload_n 0, 1) := by decide +kernel
theorem dX3_envyPairs_34 : decode cX3_envyPairs 34 = .ok (.iload_n 2, 1) := by decide +kernel
theorem dX3_envyPairs_35 : decode cX3_envyPairs 35 = .ok (.iload_n 3, 1) := by decide +kernel
theorem dX3_envyPairs_36 : decode cX3_envyPairs 36 = .ok (.invokevirtual 72, 3) := by decide +kernel
theorem dX3_envyPairs_39 : decode cX3_envyPairs 39 = .ok (.ifCond .le 6, 3) := by decide +kernel
theorem dX3_envyPairs_42 : decode cX3_envyPairs 42 = .ok (.iinc 1 1, 3) := by decide +kernel
theorem dX3_envyPairs_45 : decode cX3_envyPairs 45 = .ok (.iinc 3 1, 3) := by decide +kernel
theorem dX3_envyPairs_48 : decode cX3_envyPairs 48 = .ok (.goto (-31), 3) := by decide +kernel
theorem dX3_envyPairs_51 : decode cX3_envyPairs 51 = .ok (.iinc 2 1, 3) := by decide +kernel
theorem dX3_envyPairs_54 : decode cX3_envyPairs 54 = .ok (.goto (-50), 3) := by decide +kernel
theorem dX3_envyPairs_57 : decode cX3_envyPairs 57 = .ok (.iload_n 1, 1) := by decide +kernel
theorem dX3_envyPairs_58 : decode cX3_envyPairs 58 = .ok (.ireturn, 1) := by decide +kernel
theorem dX3_giveToKeenest_0 : decode cX3_giveToKeenest 0 = .ok (.iconst 0, 1) := by decide +kernel
theorem dX3_giveToKeenest_1 : decode cX3_giveToKeenest 1 = .ok (.istore_n 1, 1) := by decide +kernel
theorem dX3_giveToKeenest_2 : decode cX3_giveToKeenest 2 = .ok (.iload_n 1, 1) := by decide +kernel
theorem dX3_giveToKeenest_3 : decode cX3_giveToKeenest 3 = .ok (.aload_n 0, 1) := by decide +kernel
theorem dX3_giveToKeenest_4 : decode cX3_giveToKeenest 4 = .ok (.getfield 22, 3) := by decide +kernel
theorem dX3_giveToKeenest_7 : decode cX3_giveToKeenest 7 = .ok (.if_icmp .ge 28, 3) := by decide +kernel
theorem dX3_giveToKeenest_10 : decode cX3_giveToKeenest 10 = .ok (.aload_n 0, 1) := by decide +kernel
theorem dX3_giveToKeenest_11 : decode cX3_giveToKeenest 11 = .ok (.getfield 15, 3) := by decide +kernel
theorem dX3_giveToKeenest_14 : decode cX3_giveToKeenest 14 = .ok (.iload_n 1, 1) := by decide +kernel
theorem dX3_giveToKeenest_15 : decode cX3_giveToKeenest 15 = .ok (.aload_n 0, 1) := by decide +kernel
theorem dX3_giveToKeenest_16 : decode cX3_giveToKeenest 16 = .ok (.getfield 18, 3) := by decide +kernel
theorem dX3_giveToKeenest_19 : decode cX3_giveToKeenest 19 = .ok (.aload_n 0, 1) := by decide +kernel
theorem dX3_giveToKeenest_20 : decode cX3_giveToKeenest 20 = .ok (.getfield 9, 3) := by decide +kernel
theorem dX3_giveToKeenest_23 : decode cX3_giveToKeenest 23 = .ok (.iload_n 1, 1) := by decide +kernel
theorem dX3_giveToKeenest_24 : decode cX3_giveToKeenest 24 = .ok (.iaload, 1) := by decide +kernel
theorem dX3_giveToKeenest_25 : decode cX3_giveToKeenest 25 = .ok (.invokevirtual 75, 3) := by decide +kernel
theorem dX3_giveToKeenest_28 : decode cX3_giveToKeenest 28 = .ok (.iastore, 1) := by decide +kernel
theorem dX3_giveToKeenest_29 : decode cX3_giveToKeenest 29 = .ok (.iinc 1 1, 3) := by decide +kernel
theorem dX3_giveToKeenest_32 : decode cX3_giveToKeenest 32 = .ok (.goto (-30), 3) := by decide +kernel
theorem dX3_giveToKeenest_35 : decode cX3_giveToKeenest 35 = .ok (.return_, 1) := by decide +kernel
theorem dX3_claimOf_0 : decode cX3_claimOf 0 = .ok (.iconst 0, 1) := by decide +kernel
theorem dX3_claimOf_1 : decode cX3_claimOf 1 = .ok (.istore_n 2, 1) := by decide +kernel
theorem dX3_claimOf_2 : decode cX3_claimOf 2 = .ok (.iconst 0, 1) := by decide +kernel
theorem dX3_claimOf_3 : decode cX3_claimOf 3 = .ok (.istore_n 3, 1) := by decide +kernel
theorem dX3_claimOf_4 : decode cX3_claimOf 4 = .ok (.iload_n 3, 1) := by decide +kernel
theorem dX3_claimOf_5 : decode cX3_claimOf 5 = .ok (.aload_n 0, 1) := by decide +kernel
theorem dX3_claimOf_6 : decode cX3_claimOf 6 = .ok (.getfield 22, 3) := by decide +kernel
theorem dX3_claimOf_9 : decode cX3_claimOf 9 = .ok (.if_icmp .ge 28, 3) := by decide +kernel
theorem dX3_claimOf_12 : decode cX3_claimOf 12 = .ok (.iload_n 2, 1) := by decide +kernel
theorem dX3_claimOf_13 : decode cX3_claimOf 13 = .ok (.aload_n 0, 1) := by decide +kernel
theorem dX3_claimOf_14 : decode cX3_claimOf 14 = .ok (.getfield 18, 3) := by decide +kernel
theorem dX3_claimOf_17 : decode cX3_claimOf 17 = .ok (.getfield 49, 3) := by decide +kernel
theorem dX3_claimOf_20 : decode cX3_claimOf 20 = .ok (.iload_n 1, 1) := by decide +kernel
theorem dX3_claimOf_21 : decode cX3_claimOf 21 = .ok (.aaload, 1) := by decide +kernel
theorem dX3_claimOf_22 : decode cX3_claimOf 22 = .ok (.aload_n 0, 1) := by decide +kernel
theorem dX3_claimOf_23 : decode cX3_claimOf 23 = .ok (.getfield 9, 3) := by decide +kernel
theorem dX3_claimOf_26 : decode cX3_claimOf 26 = .ok (.iload_n 3, 1) := by decide +kernel
theorem dX3_claimOf_27 : decode cX3_claimOf 27 = .ok (.iaload, 1) := by decide +kernel
theorem dX3_claimOf_28 : decode cX3_claimOf 28 = .ok (.iaload, 1) := by decide +kernel
theorem dX3_claimOf_29 : decode cX3_claimOf 29 = .ok (.iadd, 1) := by decide +kernel
theorem dX3_claimOf_30 : decode cX3_claimOf 30 = .ok (.istore_n 2, 1) := by decide +kernel
theorem dX3_claimOf_31 : decode cX3_claimOf 31 = .ok (.iinc 3 1, 3) := by decide +kernel
theorem dX3_claimOf_34 : decode cX3_claimOf 34 = .ok (.goto (-30), 3) := by decide +kernel
theorem dX3_claimOf_37 : decode cX3_claimOf 37 = .ok (.iload_n 2, 1) := by decide +kernel
theorem dX3_claimOf_38 : decode cX3_claimOf 38 = .ok (.iconst 1, 1) := by decide +kernel
theorem dX3_claimOf_39 : decode cX3_claimOf 39 = .ok (.aload_n 0, 1) := by decide +kernel
theorem dX3_claimOf_40 : decode cX3_claimOf 40 = .ok (.getfield 18, 3) := by decide +kernel
theorem dX3_claimOf_43 : decode cX3_claimOf 43 = .ok (.getfield 35, 3) := by decide +kernel
theorem dX3_claimOf_46 : decode cX3_claimOf 46 = .ok (.invokestatic 53, 3) := by decide +kernel
theorem dX3_claimOf_49 : decode cX3_claimOf 49 = .ok (.idiv, 1) := by decide +kernel
theorem dX3_claimOf_50 : decode cX3_claimOf 50 = .ok (.ireturn, 1) := by decide +kernel
theorem dX3_paymentOf_0 : decode cX3_paymentOf 0 = .ok (.aload_n 0, 1) := by decide +kernel
theorem dX3_paymentOf_1 : decode cX3_paymentOf 1 = .ok (.iload_n 1, 1) := by decide +kernel
theorem dX3_paymentOf_2 : decode cX3_paymentOf 2 = .ok (.iload_n 1, 1) := by decide +kernel
theorem dX3_paymentOf_3 : decode cX3_paymentOf 3 = .ok (.invokevirtual 62, 3) := by decide +kernel
theorem dX3_paymentOf_6 : decode cX3_paymentOf 6 = .ok (.aload_n 0, 1) := by decide +kernel
theorem dX3_paymentOf_7 : decode cX3_paymentOf 7 = .ok (.iload_n 1, 1) := by decide +kernel
theorem dX3_paymentOf_8 : decode cX3_paymentOf 8 = .ok (.invokevirtual 78, 3) := by decide +kernel
theorem dX3_paymentOf_11 : decode cX3_paymentOf 11 = .ok (.isub, 1) := by decide +kernel
theorem dX3_paymentOf_12 : decode cX3_paymentOf 12 = .ok (.ireturn, 1) := by decide +kernel
theorem dX3_partOfRest_0 : decode cX3_partOfRest 0 = .ok (.iconst 0, 1) := by decide +kernel
theorem dX3_partOfRest_1 : decode cX3_partOfRest 1 = .ok (.istore_n 1, 1) := by decide +kernel
theorem dX3_partOfRest_2 : decode cX3_partOfRest 2 = .ok (.iconst 0, 1) := by decide +kernel
theorem dX3_partOfRest_3 : decode cX3_partOfRest 3 = .ok (.istore_n 2, 1) := by decide +kernel
theorem dX3_partOfRest_4 : decode cX3_partOfRest 4 = .ok (.iload_n 2, 1) := by decide +kernel
theorem dX3_partOfRest_5 : decode cX3_partOfRest 5 = .ok (.aload_n 0, 1) := by decide +kernel
theorem dX3_partOfRest_6 : decode cX3_partOfRest 6 = .ok (.getfield 18, 3) := by decide +kernel
theorem dX3_partOfRest_9 : decode cX3_partOfRest 9 = .ok (.getfield 35, 3) := by decide +kernel
theorem dX3_partOfRest_12 : decode cX3_partOfRest 12 = .ok (.if_icmp .ge 17, 3) := by decide +kernel
theorem dX3_partOfRest_15 : decode cX3_partOfRest 15 = .ok (.iload_n 1, 1) := by decide +kernel
theorem dX3_partOfRest_16 : decode cX3_partOfRest 16 = .ok (.aload_n 0, 1) := by decide +kernel
theorem dX3_partOfRest_17 : decode cX3_partOfRest 17 = .ok (.iload_n 2, 1) := by decide +kernel
theorem dX3_partOfRest_18 : decode cX3_partOfRest 18 = .ok (.invokevirtual 81, 3) := by decide +kernel
theorem dX3_partOfRest_21 : decode cX3_partOfRest 21 = .ok (.iadd, 1) := by decide +kernel
theorem dX3_partOfRest_22 : decode cX3_partOfRest 22 = .ok (.istore_n 1, 1) := by decide +kernel
theorem dX3_partOfRest_23 : decode cX3_partOfRest 23 = .ok (.iinc 2 1, 3) := by decide +kernel
theorem dX3_partOfRest_26 : decode cX3_partOfRest 26 = .ok (.goto (-22), 3) := by decide +kernel
theorem dX3_partOfRest_29 : decode cX3_partOfRest 29 = .ok (.iload_n 1, 1) := by decide +kernel
theorem dX3_partOfRest_30 : decode cX3_partOfRest 30 = .ok (.iconst 1, 1) := by decide +kernel
theorem dX3_partOfRest_31 : decode cX3_partOfRest 31 = .ok (.aload_n 0, 1) := by decide +kernel
theorem dX3_partOfRest_32 : decode cX3_partOfRest 32 = .ok (.getfield 18, 3) := by decide +kernel
theorem dX3_partOfRest_35 : decode cX3_partOfRest 35 = .ok (.getfield 35, 3) := by decide +kernel
theorem dX3_partOfRest_38 : decode cX3_partOfRest 38 = .ok (.invokestatic 53, 3) := by decide +kernel
theorem dX3_partOfRest_41 : decode cX3_partOfRest 41 = .ok (.idiv, 1) := by decide +kernel
theorem dX3_partOfRest_42 : decode cX3_partOfRest 42 = .ok (.ireturn, 1) := by decide +kernel
