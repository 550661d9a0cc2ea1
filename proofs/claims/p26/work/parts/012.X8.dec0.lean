theorem dX8_init_0 : decode cX8_init 0 = .ok (.aload_n 0, 1) := by decide +kernel
theorem dX8_init_1 : decode cX8_init 1 = .ok (.invokespecial 1, 3) := by decide +kernel
theorem dX8_init_4 : decode cX8_init 4 = .ok (.aload_n 0, 1) := by decide +kernel
theorem dX8_init_5 : decode cX8_init 5 = .ok (.new 7, 3) := by decide +kernel
theorem dX8_init_8 : decode cX8_init 8 = .ok (.dup, 1) := by decide +kernel
theorem dX8_init_9 : decode cX8_init 9 = .ok (.invokespecial 9, 3) := by decide +kernel
theorem dX8_init_12 : decode cX8_init 12 = .ok (.putfield 10, 3) := by decide +kernel
theorem dX8_init_15 : decode cX8_init 15 = .ok (.aload_n 0, 1) := by decide +kernel
theorem dX8_init_16 : decode cX8_init 16 = .ok (.new 16, 3) := by decide +kernel
theorem dX8_init_19 : decode cX8_init 19 = .ok (.dup, 1) := by decide +kernel
theorem dX8_init_20 : decode cX8_init 20 = .ok (.aload_n 0, 1) := by decide +kernel
theorem dX8_init_21 : decode cX8_init 21 = .ok (.getfield 10, 3) := by decide +kernel
theorem dX8_init_24 : decode cX8_init 24 = .ok (.invokespecial 18, 3) := by decide +kernel
theorem dX8_init_27 : decode cX8_init 27 = .ok (.putfield 21, 3) := by decide +kernel
theorem dX8_init_30 : decode cX8_init 30 = .ok (.aload_n 0, 1) := by decide +kernel
theorem dX8_init_31 : decode cX8_init 31 = .ok (.new 25, 3) := by decide +kernel
theorem dX8_init_34 : decode cX8_init 34 = .ok (.dup, 1) := by decide +kernel
theorem dX8_init_35 : decode cX8_init 35 = .ok (.aload_n 0, 1) := by decide +kernel
theorem dX8_init_36 : decode cX8_init 36 = .ok (.getfield 21, 3) := by decide +kernel
theorem dX8_init_39 : decode cX8_init 39 = .ok (.invokespecial 27, 3) := by decide +kernel
theorem dX8_init_42 : decode cX8_init 42 = .ok (.putfield 30, 3) := by decide +kernel
theorem dX8_init_45 : decode cX8_init 45 = .ok (.aload_n 0, 1) := by decide +kernel
theorem dX8_init_46 : decode cX8_init 46 = .ok (.new 34, 3) := by decide +kernel
theorem dX8_init_49 : decode cX8_init 49 = .ok (.dup, 1) := by decide +kernel
theorem dX8_init_50 : decode cX8_init 50 = .ok (.aload_n 0, 1) := by decide +kernel
theorem dX8_init_51 : decode cX8_init 51 = .ok (.getfield 30, 3) := by decide +kernel
theorem dX8_init_54 : decode cX8_init 54 = .ok (.invokespecial 36, 3) := by decide +kernel
theorem dX8_init_57 : decode cX8_init 57 = .ok (.putfield 39, 3) := by decide +kernel
theorem dX8_init_60 : decode cX8_init 60 = .ok (.aload_n 0, 1) := by decide +kernel
theorem dX8_init_61 : decode cX8_init 61 = .ok (.new 43, 3) := by decide +kernel
theorem dX8_init_64 : decode cX8_init 64 = .ok (.dup, 1) := by decide +kernel
theorem dX8_init_65 : decode cX8_init 65 = .ok (.aload_n 0, 1) := by decide +kernel
theorem dX8_init_66 : decode cX8_init 66 = .ok (.getfield 30, 3) := by decide +kernel
theorem dX8_init_69 : decode cX8_init 69 = .ok (.aload_n 0, 1) := by decide +kernel
theorem dX8_init_70 : decode cX8_init 70 = .ok (.getfield 39, 3) := by decide +kernel
theorem dX8_init_73 : decode cX8_init 73 = .ok (.invokespecial 45, 3) := by decide +kernel
theorem dX8_init_76 : decode cX8_init 76 = .ok (.putfield 48, 3) := by decide +kernel
theorem dX8_init_79 : decode cX8_init 79 = .ok (.aload_n 0, 1) := by decide +kernel
theorem dX8_init_80 : decode cX8_init 80 = .ok (.new 52, 3) := by decide +kernel
theorem dX8_init_83 : decode cX8_init 83 = .ok (.dup, 1) := by decide +kernel
theorem dX8_init_84 : decode cX8_init 84 = .ok (.aload_n 0, 1) := by decide +kernel
theorem dX8_init_85 : decode cX8_init 85 = .ok (.getfield 30, 3) := by decide +kernel
theorem dX8_init_88 : decode cX8_init 88 = .ok (.aload_n 0, 1) := by decide +kernel
theorem dX8_init_89 : decode cX8_init 89 = .ok (.getfield 21, 3) := by decide +kernel
theorem dX8_init_92 : decode cX8_init 92 = .ok (.invokespecial 54, 3) := by decide +kernel
theorem dX8_init_95 : decode cX8_init 95 = .ok (.putfield 57, 3) := by decide +kernel
theorem dX8_init_98 : decode cX8_init 98 = .ok (.aload_n 0, 1) := by decide +kernel
theorem dX8_init_99 : decode cX8_init 99 = .ok (.iconst 4, 1) := by decide +kernel
theorem dX8_init_100 : decode cX8_init 100 = .ok (.anewarray 61, 3) := by decide +kernel
theorem dX8_init_103 : decode cX8_init 103 = .ok (.putfield 63, 3) := by decide +kernel
theorem dX8_init_106 : decode cX8_init 106 = .ok (.iconst 0, 1) := by decide +kernel
theorem dX8_init_107 : decode cX8_init 107 = .ok (.istore_n 1, 1) := by decide +kernel
theorem dX8_init_108 : decode cX8_init 108 = .ok (.iload_n 1, 1) := by decide +kernel
theorem dX8_init_109 : decode cX8_init 109 = .ok (.iconst 4, 1) := by decide +kernel
theorem dX8_init_110 : decode cX8_init 110 = .ok (.if_icmp .ge 22, 3) := by decide +kernel
theorem dX8_init_113 : decode cX8_init 113 = .ok (.aload_n 0, 1) := by decide +kernel
theorem dX8_init_114 : decode cX8_init 114 = .ok (.getfield 63, 3) := by decide +kernel
theorem dX8_init_117 : decode cX8_init 117 = .ok (.iload_n 1, 1) := by decide +kernel
theorem dX8_init_118 : decode cX8_init 118 = .ok (.new 61, 3) := by decide +kernel
theorem dX8_init_121 : decode cX8_init 121 = .ok (.dup, 1) := by decide +kernel
theorem dX8_init_122 : decode cX8_init 122 = .ok (.invokespecial 67, 3) := by decide +kernel
theorem dX8_init_125 : decode cX8_init 125 = .ok (.aastore, 1) := by decide +kernel
theorem dX8_init_126 : decode cX8_init 126 = .ok (.iinc 1 1, 3) := by decide +kernel
theorem dX8_init_129 : decode cX8_init 129 = .ok (.goto (-21), 3) := by decide +kernel
theorem dX8_init_132 : decode cX8_init 132 = .ok (.return_, 1) := by decide +kernel
theorem dX8_feed_0 : decode cX8_feed 0 = .ok (.aload_n 0, 1) := by decide +kernel
theorem dX8_feed_1 : decode cX8_feed 1 = .ok (.getfield 10, 3) := by decide +kernel
theorem dX8_feed_4 : decode cX8_feed 4 = .ok (.getfield 68, 3) := by decide +kernel
theorem dX8_feed_7 : decode cX8_feed 7 = .ok (.sipush 152, 3) := by decide +kernel
theorem dX8_feed_10 : decode cX8_feed 10 = .ok (.if_icmp .le 6, 3) := by decide +kernel
theorem dX8_feed_13 : decode cX8_feed 13 = .ok (.bipush (-3), 2) := by decide +kernel
theorem dX8_feed_15 : decode cX8_feed 15 = .ok (.ireturn, 1) := by decide +kernel
theorem dX8_feed_16 : decode cX8_feed 16 = .ok (.aload_n 0, 1) := by decide +kernel
theorem dX8_feed_17 : decode cX8_feed 17 = .ok (.getfield 10, 3) := by decide +kernel
theorem dX8_feed_20 : decode cX8_feed 20 = .ok (.lload_n 1, 1) := by decide +kernel
theorem dX8_feed_21 : decode cX8_feed 21 = .ok (.invokevirtual 72, 3) := by decide +kernel
theorem dX8_feed_24 : decode cX8_feed 24 = .ok (.aload_n 0, 1) := by decide +kernel
theorem dX8_feed_25 : decode cX8_feed 25 = .ok (.getfield 10, 3) := by decide +kernel
theorem dX8_feed_28 : decode cX8_feed 28 = .ok (.getfield 68, 3) := by decide +kernel
theorem dX8_feed_31 : decode cX8_feed 31 = .ok (.ireturn, 1) := by decide +kernel
theorem dX8_end_0 : decode cX8_end 0 = .ok (.iload_n 1, 1) := by decide +kernel
theorem dX8_end_1 : decode cX8_end 1 = .ok (.ifCond .lt 14, 3) := by decide +kernel
theorem dX8_end_4 : decode cX8_end 4 = .ok (.iload_n 1, 1) := by decide +kernel
theorem dX8_end_5 : decode cX8_end 5 = .ok (.aload_n 0, 1) := by decide +kernel
theorem dX8_end_6 : decode cX8_end 6 = .ok (.getfield 10, 3) := by decide +kernel
theorem dX8_end_9 : decode cX8_end 9 = .ok (.getfield 68, 3) := by decide +kernel
theorem dX8_end_12 : decode cX8_end 12 = .ok (.if_icmp .le 5, 3) := by decide +kernel
theorem dX8_end_15 : decode cX8_end 15 = .ok (.iconst (-1), 1) := by decide +kernel
theorem dX8_end_16 : decode cX8_end 16 = .ok (.ireturn, 1) := by decide +kernel
theorem dX8_end_17 : decode cX8_end 17 = .ok (.aload_n 0, 1) := by decide +kernel
theorem dX8_end_18 : decode cX8_end 18 = .ok (.getfield 10, 3) := by decide +kernel
theorem dX8_end_21 : decode cX8_end 21 = .ok (.getfield 68, 3) := by decide +kernel
theorem dX8_end_24 : decode cX8_end 24 = .ok (.istore_n 2, 1) := by decide +kernel
theorem dX8_end_25 : decode cX8_end 25 = .ok (.aload_n 0, 1) := by decide +kernel
theorem dX8_end_26 : decode cX8_end 26 = .ok (.getfield 10, 3) := by decide +kernel
theorem dX8_end_29 : decode cX8_end 29 = .ok (.iload_n 1, 1) := by decide +kernel
theorem dX8_end_30 : decode cX8_end 30 = .ok (.putfield 68, 3) := by decide +kernel
theorem dX8_end_33 : decode cX8_end 33 = .ok (.iload_n 2, 1) := by decide +kernel
theorem dX8_end_34 : decode cX8_end 34 = .ok (.ireturn, 1) := by decide +kernel
theorem dX8_laws_0 : decode cX8_laws 0 = .ok (.aload_n 0, 1) := by decide +kernel
theorem dX8_laws_1 : decode cX8_laws 1 = .ok (.getfield 21, 3) := by decide +kernel
theorem dX8_laws_4 : decode cX8_laws 4 = .ok (.invokevirtual 76, 3) := by decide +kernel
theorem dX8_laws_7 : decode cX8_laws 7 = .ok (.istore_n 1, 1) := by decide +kernel
theorem dX8_laws_8 : decode cX8_laws 8 = .ok (.aload_n 0, 1) := by decide +kernel
theorem dX8_laws_9 : decode cX8_laws 9 = .ok (.getfield 10, 3) := by decide +kernel
theorem dX8_laws_12 : decode cX8_laws 12 = .ok (.iconst 0, 1) := by decide +kernel
theorem dX8_laws_13 : decode cX8_laws 13 = .ok (.putfield 68, 3) := by decide +kernel
theorem dX8_laws_16 : decode cX8_laws 16 = .ok (.iload_n 1, 1) := by decide +kernel
theorem dX8_laws_17 : decode cX8_laws 17 = .ok (.ireturn, 1) := by decide +kernel
theorem dX8_fault_0 : decode cX8_fault 0 = .ok (.aload_n 0, 1) := by decide +kernel
theorem dX8_fault_1 : decode cX8_fault 1 = .ok (.getfield 21, 3) := by decide +kernel
theorem dX8_fault_4 : decode cX8_fault 4 = .ok (.getfield 80, 3) := by decide +kernel
theorem dX8_fault_7 : decode cX8_fault 7 = .ok (.ireturn, 1) := by decide +kernel
theorem dX8_law_0 : decode cX8_law 0 = .ok (.iload_n 1, 1) := by decide +kernel
theorem dX8_law_1 : decode cX8_law 1 = .ok (.iconst 0, 1) := by decide +kernel
theorem dX8_law_2 : decode cX8_law 2 = .ok (.bipush 6, 2) := by decide +kernel
theorem dX8_law_4 : decode cX8_law 4 = .ok (.invokestatic 83, 3) := by decide +kernel
theorem dX8_law_7 : decode cX8_law 7 = .ok (.ifCond .eq 15, 3) := by decide +kernel
theorem dX8_law_10 : decode cX8_law 10 = .ok (.aload_n 0, 1) := by decide +kernel
theorem dX8_law_11 : decode cX8_law 11 = .ok (.getfield 21, 3) := by decide +kernel
theorem dX8_law_14 : decode cX8_law 14 = .ok (.getfield 87, 3) := by decide +kernel
theorem dX8_law_17 : decode cX8_law 17 = .ok (.iload_n 1, 1) := by decide +kernel
theorem dX8_law_18 : decode cX8_law 18 = .ok (.iaload, 1) := by decide +kernel
theorem dX8_law_19 : decode cX8_law 19 = .ok (.goto 4, 3) := by decide +kernel
theorem dX8_law_22 : decode cX8_law 22 = .ok (.iconst (-1), 1) := by decide +kernel
theorem dX8_law_23 : decode cX8_law 23 = .ok (.ireturn, 1) := by decide +kernel
theorem dX8_heir_0 : decode cX8_heir 0 = .ok (.aload_n 0, 1) := by decide +kernel
theorem dX8_heir_1 : decode cX8_heir 1 = .ok (.getfield 30, 3) := by decide +kernel
theorem dX8_heir_4 : decode cX8_heir 4 = .ok (.getfield 91, 3) := by decide +kernel
theorem dX8_heir_7 : decode cX8_heir 7 = .ok (.iconst 4, 1) := by decide +kernel
theorem dX8_heir_8 : decode cX8_heir 8 = .ok (.if_icmp .lt 6, 3) := by decide +kernel
theorem dX8_heir_11 : decode cX8_heir 11 = .ok (.bipush (-3), 2) := by decide +kernel
theorem dX8_heir_13 : decode cX8_heir 13 = .ok (.ireturn, 1) := by decide +kernel
theorem dX8_heir_14 : decode cX8_heir 14 = .ok (.aload_n 0, 1) := by decide +kernel
theorem dX8_heir_15 : decode cX8_heir 15 = .ok (.getfield 30, 3) := by decide +kernel
theorem dX8_heir_18 : decode cX8_heir 18 = .ok (.dup, 1) := by decide +kernel
theorem dX8_heir_19 : decode cX8_heir 19 = .ok (.getfield 91, 3) := by decide +kernel
theorem dX8_heir_22 : decode cX8_heir 22 = .ok (.iconst 1, 1) := by decide +kernel
theorem dX8_heir_23 : decode cX8_heir 23 = .ok (.iadd, 1) := by decide +kernel
theorem dX8_heir_24 : decode cX8_heir 24 = .ok (.putfield 91, 3) := by decide +kernel
theorem dX8_heir_27 : decode cX8_heir 27 = .ok (.aload_n 0, 1) := by decide +kernel
theorem dX8_heir_28 : decode cX8_heir 28 = .ok (.getfield 30, 3) := by decide +kernel
theorem dX8_heir_31 : decode cX8_heir 31 = .ok (.getfield 91, 3) := by decide +kernel
theorem dX8_heir_34 : decode cX8_heir 34 = .ok (.iconst 1, 1) := by decide +kernel
theorem dX8_heir_35 : decode cX8_heir 35 = .ok (.isub, 1) := by decide +kernel
theorem dX8_heir_36 : decode cX8_heir 36 = .ok (.ireturn, 1) := by decide +kernel
theorem dX8_thing_0 : decode cX8_thing 0 = .ok (.iload_n 1, 1) := by decide +kernel
theorem dX8_thing_1 : decode cX8_thing 1 = .ok (.iconst 1, 1) := by decide +kernel
theorem dX8_thing_2 : decode cX8_thing 2 = .ok (.bipush 50, 2) := by decide +kernel
theorem dX8_thing_4 : decode cX8_thing 4 = .ok (.invokestatic 83, 3) := by decide +kernel
theorem dX8_thing_7 : decode cX8_thing 7 = .ok (.ifCond .eq 47, 3) := by decide +kernel
theorem dX8_thing_10 : decode cX8_thing 10 = .ok (.iload_n 2, 1) := by decide +kernel
theorem dX8_thing_11 : decode cX8_thing 11 = .ok (.iconst 0, 1) := by decide +kernel
theorem dX8_thing_12 : decode cX8_thing 12 = .ok (.sipush 1000, 3) := by decide +kernel
theorem dX8_thing_15 : decode cX8_thing 15 = .ok (.invokestatic 83, 3) := by decide +kernel
theorem dX8_thing_18 : decode cX8_thing 18 = .ok (.ifCond .eq 36, 3) := by decide +kernel
theorem dX8_thing_21 : decode cX8_thing 21 = .ok (.iload_n 3, 1) := by decide +kernel
theorem dX8_thing_22 : decode cX8_thing 22 = .ok (.iload_n 2, 1) := by decide +kernel
theorem dX8_thing_23 : decode cX8_thing 23 = .ok (.sipush 1000, 3) := by decide +kernel
theorem dX8_thing_26 : decode cX8_thing 26 = .ok (.invokestatic 83, 3) := by decide +kernel
theorem dX8_thing_29 : decode cX8_thing 29 = .ok (.ifCond .eq 25, 3) := by decide +kernel
theorem dX8_thing_32 : decode cX8_thing 32 = .ok (.iload 4, 2) := by decide +kernel
theorem dX8_thing_34 : decode cX8_thing 34 = .ok (.iconst 0, 1) := by decide +kernel
theorem dX8_thing_35 : decode cX8_thing 35 = .ok (.bipush 99, 2) := by decide +kernel
theorem dX8_thing_37 : decode cX8_thing 37 = .ok (.invokestatic 83, 3) := by decide +kernel
theorem dX8_thing_40 : decode cX8_thing 40 = .ok (.ifCond .eq 14, 3) := by decide +kernel
theorem dX8_thing_43 : decode cX8_thing 43 = .ok (.iload 5, 2) := by decide +kernel
theorem dX8_thing_45 : decode cX8_thing 45 = .ok (.iconst 0, 1) := by decide +kernel
theorem dX8_thing_46 : decode cX8_thing 46 = .ok (.bipush 15, 2) := by decide +kernel
theorem dX8_thing_48 : decode cX8_thing 48 = .ok (.invokestatic 83, 3) := by decide +kernel
theorem dX8_thing_51 : decode cX8_thing 51 = .ok (.ifCond .ne 5, 3) := by decide +kernel
theorem dX8_thing_54 : decode cX8_thing 54 = .ok (.iconst (-1), 1) := by decide +kernel
theorem dX8_thing_55 : decode cX8_thing 55 = .ok (.ireturn, 1) := by decide +kernel
theorem dX8_thing_56 : decode cX8_thing 56 = .ok (.aload_n 0, 1) := by decide +kernel
theorem dX8_thing_57 : decode cX8_thing 57 = .ok (.getfield 30, 3) := by decide +kernel
theorem dX8_thing_60 : decode cX8_thing 60 = .ok (.getfield 94, 3) := by decide +kernel
theorem dX8_thing_63 : decode cX8_thing 63 = .ok (.bipush 10, 2) := by decide +kernel
theorem dX8_thing_65 : decode cX8_thing 65 = .ok (.if_icmp .lt 6, 3) := by decide +kernel
theorem dX8_thing_68 : decode cX8_thing 68 = .ok (.bipush (-3), 2) := by decide +kernel
theorem dX8_thing_70 : decode cX8_thing 70 = .ok (.ireturn, 1) := by decide +kernel
theorem dX8_thing_71 : decode cX8_thing 71 = .ok (.aload_n 0, 1) := by decide +kernel
theorem dX8_thing_72 : decode cX8_thing 72 = .ok (.getfield 30, 3) := by decide +kernel
theorem dX8_thing_75 : decode cX8_thing 75 = .ok (.iload_n 1, 1) := by decide +kernel
theorem dX8_thing_76 : decode cX8_thing 76 = .ok (.iload_n 2, 1) := by decide +kernel
theorem dX8_thing_77 : decode cX8_thing 77 = .ok (.iload_n 3, 1) := by decide +kernel
theorem dX8_thing_78 : decode cX8_thing 78 = .ok (.iload 4, 2) := by decide +kernel
theorem dX8_thing_80 : decode cX8_thing 80 = .ok (.iload 5, 2) := by decide +kernel
theorem dX8_thing_82 : decode cX8_thing 82 = .ok (.invokevirtual 97, 3) := by decide +kernel
theorem dX8_thing_85 : decode cX8_thing 85 = .ok (.ireturn, 1) := by decide +kernel
theorem dX8_worth_0 : decode cX8_worth 0 = .ok (.aload_n 0, 1) := by decide +kernel
theorem dX8_worth_1 : decode cX8_worth 1 = .ok (.getfield 30, 3) := by decide +kernel
theorem dX8_worth_4 : decode cX8_worth 4 = .ok (.iload_n 1, 1) := by decide +kernel
theorem dX8_worth_5 : decode cX8_worth 5 = .ok (.invokevirtual 101, 3) := by decide +kernel
theorem dX8_worth_8 : decode cX8_worth 8 = .ok (.ifCond .eq 24, 3) := by decide +kernel
theorem dX8_worth_11 : decode cX8_worth 11 = .ok (.aload_n 0, 1) := by decide +kernel
theorem dX8_worth_12 : decode cX8_worth 12 = .ok (.getfield 30, 3) := by decide +kernel
theorem dX8_worth_15 : decode cX8_worth 15 = .ok (.iload_n 2, 1) := by decide +kernel
theorem dX8_worth_16 : decode cX8_worth 16 = .ok (.invokevirtual 105, 3) := by decide +kernel
theorem dX8_worth_19 : decode cX8_worth 19 = .ok (.ifCond .eq 13, 3) := by decide +kernel
theorem dX8_worth_22 : decode cX8_worth 22 = .ok (.iload_n 3, 1) := by decide +kernel
theorem dX8_worth_23 : decode cX8_worth 23 = .ok (.iconst 0, 1) := by decide +kernel
theorem dX8_worth_24 : decode cX8_worth 24 = .ok (.bipush 100, 2) := by decide +kernel
theorem dX8_worth_26 : decode cX8_worth 26 = .ok (.invokestatic 83, 3) := by decide +kernel
theorem dX8_worth_29 : decode cX8_worth 29 = .ok (.ifCond .ne 5, 3) := by decide +kernel
theorem dX8_worth_32 : decode cX8_worth 32 = .ok (.iconst (-1), 1) := by decide +kernel
theorem dX8_worth_33 : decode cX8_worth 33 = .ok (.ireturn, 1) := by decide +kernel
theorem dX8_worth_34 : decode cX8_worth 34 = .ok (.aload_n 0, 1) := by decide +kernel
theorem dX8_worth_35 : decode cX8_worth 35 = .ok (.getfield 30, 3) := by decide +kernel
theorem dX8_worth_38 : decode cX8_worth 38 = .ok (.getfield 108, 3) := by decide +kernel
theorem dX8_worth_41 : decode cX8_worth 41 = .ok (.iload_n 1, 1) := by decide +kernel
theorem dX8_worth_42 : decode cX8_worth 42 = .ok (.aaload, 1) := by decide +kernel
theorem dX8_worth_43 : decode cX8_worth 43 = .ok (.iload_n 2, 1) := by decide +kernel
theorem dX8_worth_44 : decode cX8_worth 44 = .ok (.iaload, 1) := by decide +kernel
theorem dX8_worth_45 : decode cX8_worth 45 = .ok (.istore 4, 2) := by decide +kernel
theorem dX8_worth_47 : decode cX8_worth 47 = .ok (.aload_n 0, 1) := by decide +kernel
theorem dX8_worth_48 : decode cX8_worth 48 = .ok (.getfield 30, 3) := by decide +kernel
theorem dX8_worth_51 : decode cX8_worth 51 = .ok (.getfield 108, 3) := by decide +kernel
theorem dX8_worth_54 : decode cX8_worth 54 = .ok (.iload_n 1, 1) := by decide +kernel
theorem dX8_worth_55 : decode cX8_worth 55 = .ok (.aaload, 1) := by decide +kernel
theorem dX8_worth_56 : decode cX8_worth 56 = .ok (.iload_n 2, 1) := by decide +kernel
theorem dX8_worth_57 : decode cX8_worth 57 = .ok (.iload_n 3, 1) := by decide +kernel
theorem dX8_worth_58 : decode cX8_worth 58 = .ok (.iastore, 1) := by decide +kernel
theorem dX8_worth_59 : decode cX8_worth 59 = .ok (.iload 4, 2) := by decide +kernel
theorem dX8_worth_61 : decode cX8_worth 61 = .ok (.ireturn, 1) := by decide +kernel
theorem dX8_gone_0 : decode cX8_gone 0 = .ok (.aload_n 0, 1) := by decide +kernel
theorem dX8_gone_1 : decode cX8_gone 1 = .ok (.getfield 30, 3) := by decide +kernel
theorem dX8_gone_4 : decode cX8_gone 4 = .ok (.getfield 94, 3) := by decide +kernel
theorem dX8_gone_7 : decode cX8_gone 7 = .ok (.ifCond .gt 6, 3) := by decide +kernel
theorem dX8_gone_10 : decode cX8_gone 10 = .ok (.bipush (-4), 2) := by decide +kernel
theorem dX8_gone_12 : decode cX8_gone 12 = .ok (.ireturn, 1) := by decide +kernel
theorem dX8_gone_13 : decode cX8_gone 13 = .ok (.aload_n 0, 1) := by decide +kernel
theorem dX8_gone_14 : decode cX8_gone 14 = .ok (.getfield 30, 3) := by decide +kernel
theorem dX8_gone_17 : decode cX8_gone 17 = .ok (.dup, 1) := by decide +kernel
theorem dX8_gone_18 : decode cX8_gone 18 = .ok (.getfield 94, 3) := by decide +kernel
theorem dX8_gone_21 : decode cX8_gone 21 = .ok (.iconst 1, 1) := by decide +kernel
theorem dX8_gone_22 : decode cX8_gone 22 = .ok (.isub, 1) := by decide +kernel
theorem dX8_gone_23 : decode cX8_gone 23 = .ok (.putfield 94, 3) := by decide +kernel
theorem dX8_gone_26 : decode cX8_gone 26 = .ok (.aload_n 0, 1) := by decide +kernel
theorem dX8_gone_27 : decode cX8_gone 27 = .ok (.getfield 30, 3) := by decide +kernel
theorem dX8_gone_30 : decode cX8_gone 30 = .ok (.getfield 94, 3) := by decide +kernel
theorem dX8_gone_33 : decode cX8_gone 33 = .ok (.ireturn, 1) := by decide +kernel
theorem dX8_look_0 : decode cX8_look 0 = .ok (.aload_n 0, 1) := by decide +kernel
theorem dX8_look_1 : decode cX8_look 1 = .ok (.getfield 30, 3) := by decide +kernel
theorem dX8_look_4 : decode cX8_look 4 = .ok (.iload_n 1, 1) := by decide +kernel
theorem dX8_look_5 : decode cX8_look 5 = .ok (.invokevirtual 105, 3) := by decide +kernel
theorem dX8_look_8 : decode cX8_look 8 = .ok (.ifCond .eq 34, 3) := by decide +kernel
theorem dX8_look_11 : decode cX8_look 11 = .ok (.iload_n 2, 1) := by decide +kernel
theorem dX8_look_12 : decode cX8_look 12 = .ok (.iload_n 3, 1) := by decide +kernel
theorem dX8_look_13 : decode cX8_look 13 = .ok (.if_icmp .gt 29, 3) := by decide +kernel
theorem dX8_look_16 : decode cX8_look 16 = .ok (.iload_n 2, 1) := by decide +kernel
theorem dX8_look_17 : decode cX8_look 17 = .ok (.aload_n 0, 1) := by decide +kernel
theorem dX8_look_18 : decode cX8_look 18 = .ok (.getfield 30, 3) := by decide +kernel
theorem dX8_look_21 : decode cX8_look 21 = .ok (.getfield 112, 3) := by decide +kernel
theorem dX8_look_24 : decode cX8_look 24 = .ok (.iload_n 1, 1) := by decide +kernel
theorem dX8_look_25 : decode cX8_look 25 = .ok (.iaload, 1) := by decide +kernel
theorem dX8_look_26 : decode cX8_look 26 = .ok (.if_icmp .lt 16, 3) := by decide +kernel
theorem dX8_look_29 : decode cX8_look 29 = .ok (.iload_n 3, 1) := by decide +kernel
theorem dX8_look_30 : decode cX8_look 30 = .ok (.aload_n 0, 1) := by decide +kernel
theorem dX8_look_31 : decode cX8_look 31 = .ok (.getfield 30, 3) := by decide +kernel
theorem dX8_look_34 : decode cX8_look 34 = .ok (.getfield 115, 3) := by decide +kernel
theorem dX8_look_37 : decode cX8_look 37 = .ok (.iload_n 1, 1) := by decide +kernel
theorem dX8_look_38 : decode cX8_look 38 = .ok (.iaload, 1) := by decide +kernel
theorem dX8_look_39 : decode cX8_look 39 = .ok (.if_icmp .le 5, 3) := by decide +kernel
theorem dX8_look_42 : decode cX8_look 42 = .ok (.iconst (-1), 1) := by decide +kernel
theorem dX8_look_43 : decode cX8_look 43 = .ok (.ireturn, 1) := by decide +kernel
theorem dX8_look_44 : decode cX8_look 44 = .ok (.aload_n 0, 1) := by decide +kernel
theorem dX8_look_45 : decode cX8_look 45 = .ok (.getfield 30, 3) := by decide +kernel
theorem dX8_look_48 : decode cX8_look 48 = .ok (.getfield 112, 3) := by decide +kernel
theorem dX8_look_51 : decode cX8_look 51 = .ok (.iload_n 1, 1) := by decide +kernel
theorem dX8_look_52 : decode cX8_look 52 = .ok (.iload_n 2, 1) := by decide +kernel
theorem dX8_look_53 : decode cX8_look 53 = .ok (.iastore, 1) := by decide +kernel
theorem dX8_look_54 : decode cX8_look 54 = .ok (.aload_n 0, 1) := by decide +kernel
theorem dX8_look_55 : decode cX8_look 55 = .ok (.getfield 30, 3) := by decide +kernel
theorem dX8_look_58 : decode cX8_look 58 = .ok (.getfield 115, 3) := by decide +kernel
theorem dX8_look_61 : decode cX8_look 61 = .ok (.iload_n 1, 1) := by decide +kernel
theorem dX8_look_62 : decode cX8_look 62 = .ok (.iload_n 3, 1) := by decide +kernel
theorem dX8_look_63 : decode cX8_look 63 = .ok (.iastore, 1) := by decide +kernel
theorem dX8_look_64 : decode cX8_look 64 = .ok (.iconst 1, 1) := by decide +kernel
theorem dX8_look_65 : decode cX8_look 65 = .ok (.ireturn, 1) := by decide +kernel
theorem dX8_told_0 : decode cX8_told 0 = .ok (.aload_n 0, 1) := by decide +kernel
theorem dX8_told_1 : decode cX8_told 1 = .ok (.getfield 30, 3) := by decide +kernel
theorem dX8_told_4 : decode cX8_told 4 = .ok (.iload_n 1, 1) := by decide +kernel
theorem dX8_told_5 : decode cX8_told 5 = .ok (.invokevirtual 105, 3) := by decide +kernel
theorem dX8_told_8 : decode cX8_told 8 = .ok (.ifCond .ne 5, 3) := by decide +kernel
theorem dX8_told_11 : decode cX8_told 11 = .ok (.iconst (-1), 1) := by decide +kernel
theorem dX8_told_12 : decode cX8_told 12 = .ok (.ireturn, 1) := by decide +kernel
theorem dX8_told_13 : decode cX8_told 13 = .ok (.iload_n 2, 1) := by decide +kernel
theorem dX8_told_14 : decode cX8_told 14 = .ok (.tableswitch 97 0 5 #[38, 48, 58, 68, 78, 88], 38) := by decide +kernel
theorem dX8_told_52 : decode cX8_told 52 = .ok (.aload_n 0, 1) := by decide +kernel
theorem dX8_told_53 : decode cX8_told 53 = .ok (.getfield 30, 3) := by decide +kernel
theorem dX8_told_56 : decode cX8_told 56 = .ok (.getfield 118, 3) := by decide +kernel
theorem dX8_told_59 : decode cX8_told 59 = .ok (.iload_n 1, 1) := by decide +kernel
theorem dX8_told_60 : decode cX8_told 60 = .ok (.iaload, 1) := by decide +kernel
theorem dX8_told_61 : decode cX8_told 61 = .ok (.ireturn, 1) := by decide +kernel
theorem dX8_told_62 : decode cX8_told 62 = .ok (.aload_n 0, 1) := by decide +kernel
theorem dX8_told_63 : decode cX8_told 63 = .ok (.getfield 30, 3) := by decide +kernel
theorem dX8_told_66 : decode cX8_told 66 = .ok (.getfield 112, 3) := by decide +kernel
theorem dX8_told_69 : decode cX8_told 69 = .ok (.iload_n 1, 1) := by decide +kernel
theorem dX8_told_70 : decode cX8_told 70 = .ok (.iaload, 1) := by decide +kernel
theorem dX8_told_71 : decode cX8_told 71 = .ok (.ireturn, 1) := by decide +kernel
theorem dX8_told_72 : decode cX8_told 72 = .ok (.aload_n 0, 1) := by decide +kernel
theorem dX8_told_73 : decode cX8_told 73 = .ok (.getfield 30, 3) := by decide +kernel
theorem dX8_told_76 : decode cX8_told 76 = .ok (.getfield 115, 3) := by decide +kernel
theorem dX8_told_79 : decode cX8_told 79 = .ok (.iload_n 1, 1) := by decide +kernel
theorem dX8_told_80 : decode cX8_told 80 = .ok (.iaload, 1) := by decide +kernel
theorem dX8_told_81 : decode cX8_told 81 = .ok (.ireturn, 1) := by decide +kernel
theorem dX8_told_82 : decode cX8_told 82 = .ok (.aload_n 0, 1) := by decide +kernel
theorem dX8_told_83 : decode cX8_told 83 = .ok (.getfield 30, 3) := by decide +kernel
theorem dX8_told_86 : decode cX8_told 86 = .ok (.getfield 121, 3) := by decide +kernel
theorem dX8_told_89 : decode cX8_told 89 = .ok (.iload_n 1, 1) := by decide +kernel
theorem dX8_told_90 : decode cX8_told 90 = .ok (.iaload, 1) := by decide +kernel
theorem dX8_told_91 : decode cX8_told 91 = .ok (.ireturn, 1) := by decide +kernel
theorem dX8_told_92 : decode cX8_told 92 = .ok (.aload_n 0, 1) := by decide +kernel
theorem dX8_told_93 : decode cX8_told 93 = .ok (.getfield 30, 3) := by decide +kernel
theorem dX8_told_96 : decode cX8_told 96 = .ok (.getfield 124, 3) := by decide +kernel
theorem dX8_told_99 : decode cX8_told 99 = .ok (.iload_n 1, 1) := by decide +kernel
theorem dX8_told_100 : decode cX8_told 100 = .ok (.iaload, 1) := by decide +kernel
theorem dX8_told_101 : decode cX8_told 101 = .ok (.ireturn, 1) := by decide +kernel
theorem dX8_told_102 : decode cX8_told 102 = .ok (.aload_n 0, 1) := by decide +kernel
theorem dX8_told_103 : decode cX8_told 103 = .ok (.getfield 30, 3) := by decide +kernel
theorem dX8_told_106 : decode cX8_told 106 = .ok (.iload_n 1, 1) := by decide +kernel
theorem dX8_told_107 : decode cX8_told 107 = .ok (.invokevirtual 127, 3) := by decide +kernel
theorem dX8_told_110 : decode cX8_told 110 = .ok (.ireturn, 1) := by decide +kernel
theorem dX8_told_111 : decode cX8_told 111 = .ok (.iconst (-1), 1) := by decide +kernel
theorem dX8_told_112 : decode cX8_told 112 = .ok (.ireturn, 1) := by decide +kernel
theorem dX8_way_0 : decode cX8_way 0 = .ok (.iload_n 1, 1) := by decide +kernel
theorem dX8_way_1 : decode cX8_way 1 = .ok (.iconst 0, 1) := by decide +kernel
theorem dX8_way_2 : decode cX8_way 2 = .ok (.iconst 4, 1) := by decide +kernel
theorem dX8_way_3 : decode cX8_way 3 = .ok (.invokestatic 83, 3) := by decide +kernel
theorem dX8_way_6 : decode cX8_way 6 = .ok (.ifCond .ne 5, 3) := by decide +kernel
theorem dX8_way_9 : decode cX8_way 9 = .ok (.iconst (-1), 1) := by decide +kernel
theorem dX8_way_10 : decode cX8_way 10 = .ok (.ireturn, 1) := by decide +kernel
theorem dX8_way_11 : decode cX8_way 11 = .ok (.iload_n 2, 1) := by decide +kernel
theorem dX8_way_12 : decode cX8_way 12 = .ok (.tableswitch 89 0 3 #[32, 41, 57, 73], 32) := by decide +kernel
theorem dX8_way_44 : decode cX8_way 44 = .ok (.aload_n 0, 1) := by decide +kernel
theorem dX8_way_45 : decode cX8_way 45 = .ok (.getfield 30, 3) := by decide +kernel
theorem dX8_way_48 : decode cX8_way 48 = .ok (.iload_n 1, 1) := by decide +kernel
theorem dX8_way_49 : decode cX8_way 49 = .ok (.invokevirtual 131, 3) := by decide +kernel
theorem dX8_way_52 : decode cX8_way 52 = .ok (.ireturn, 1) := by decide +kernel
theorem dX8_way_53 : decode cX8_way 53 = .ok (.aload_n 0, 1) := by decide +kernel
theorem dX8_way_54 : decode cX8_way 54 = .ok (.getfield 30, 3) := by decide +kernel
theorem dX8_way_57 : decode cX8_way 57 = .ok (.iload_n 1, 1) := by decide +kernel
theorem dX8_way_58 : decode cX8_way 58 = .ok (.aload_n 0, 1) := by decide +kernel
theorem dX8_way_59 : decode cX8_way 59 = .ok (.getfield 30, 3) := by decide +kernel
theorem dX8_way_62 : decode cX8_way 62 = .ok (.getfield 118, 3) := by decide +kernel
theorem dX8_way_65 : decode cX8_way 65 = .ok (.invokevirtual 134, 3) := by decide +kernel
theorem dX8_way_68 : decode cX8_way 68 = .ok (.ireturn, 1) := by decide +kernel
theorem dX8_way_69 : decode cX8_way 69 = .ok (.aload_n 0, 1) := by decide +kernel
theorem dX8_way_70 : decode cX8_way 70 = .ok (.getfield 30, 3) := by decide +kernel
theorem dX8_way_73 : decode cX8_way 73 = .ok (.iload_n 1, 1) := by decide +kernel
theorem dX8_way_74 : decode cX8_way 74 = .ok (.aload_n 0, 1) := by decide +kernel
theorem dX8_way_75 : decode cX8_way 75 = .ok (.getfield 30, 3) := by decide +kernel
theorem dX8_way_78 : decode cX8_way 78 = .ok (.getfield 112, 3) := by decide +kernel
theorem dX8_way_81 : decode cX8_way 81 = .ok (.invokevirtual 134, 3) := by decide +kernel
theorem dX8_way_84 : decode cX8_way 84 = .ok (.ireturn, 1) := by decide +kernel
theorem dX8_way_85 : decode cX8_way 85 = .ok (.aload_n 0, 1) := by decide +kernel
theorem dX8_way_86 : decode cX8_way 86 = .ok (.getfield 30, 3) := by decide +kernel
theorem dX8_way_89 : decode cX8_way 89 = .ok (.iload_n 1, 1) := by decide +kernel
theorem dX8_way_90 : decode cX8_way 90 = .ok (.aload_n 0, 1) := by decide +kernel
theorem dX8_way_91 : decode cX8_way 91 = .ok (.getfield 30, 3) := by decide +kernel
theorem dX8_way_94 : decode cX8_way 94 = .ok (.getfield 115, 3) := by decide +kernel
theorem dX8_way_97 : decode cX8_way 97 = .ok (.invokevirtual 134, 3) := by decide +kernel
theorem dX8_way_100 : decode cX8_way 100 = .ok (.ireturn, 1) := by decide +kernel
theorem dX8_way_101 : decode cX8_way 101 = .ok (.iconst (-1), 1) := by decide +kernel
theorem dX8_way_102 : decode cX8_way 102 = .ok (.ireturn, 1) := by decide +kernel
theorem dX8_asks_0 : decode cX8_asks 0 = .ok (.aload_n 0, 1) := by decide +kernel
theorem dX8_asks_1 : decode cX8_asks 1 = .ok (.getfield 30, 3) := by decide +kernel
theorem dX8_asks_4 : decode cX8_asks 4 = .ok (.iload_n 1, 1) := by decide +kernel
theorem dX8_asks_5 : decode cX8_asks 5 = .ok (.invokevirtual 105, 3) := by decide +kernel
theorem dX8_asks_8 : decode cX8_asks 8 = .ok (.ifCond .eq 14, 3) := by decide +kernel
theorem dX8_asks_11 : decode cX8_asks 11 = .ok (.aload_n 0, 1) := by decide +kernel
theorem dX8_asks_12 : decode cX8_asks 12 = .ok (.getfield 30, 3) := by decide +kernel
theorem dX8_asks_15 : decode cX8_asks 15 = .ok (.iload_n 1, 1) := by decide +kernel
theorem dX8_asks_16 : decode cX8_asks 16 = .ok (.invokevirtual 138, 3) := by decide +kernel
theorem dX8_asks_19 : decode cX8_asks 19 = .ok (.goto 4, 3) := by decide +kernel
theorem dX8_asks_22 : decode cX8_asks 22 = .ok (.iconst (-1), 1) := by decide +kernel
theorem dX8_asks_23 : decode cX8_asks 23 = .ok (.ireturn, 1) := by decide +kernel
theorem dX8_turns_0 : decode cX8_turns 0 = .ok (.iload_n 1, 1) := by decide +kernel
theorem dX8_turns_1 : decode cX8_turns 1 = .ok (.invokestatic 141, 3) := by decide +kernel
theorem dX8_turns_4 : decode cX8_turns 4 = .ok (.ifCond .ne 5, 3) := by decide +kernel
theorem dX8_turns_7 : decode cX8_turns 7 = .ok (.iconst (-1), 1) := by decide +kernel
theorem dX8_turns_8 : decode cX8_turns 8 = .ok (.ireturn, 1) := by decide +kernel
theorem dX8_turns_9 : decode cX8_turns 9 = .ok (.aload_n 0, 1) := by decide +kernel
theorem dX8_turns_10 : decode cX8_turns 10 = .ok (.getfield 30, 3) := by decide +kernel
theorem dX8_turns_13 : decode cX8_turns 13 = .ok (.getfield 91, 3) := by decide +kernel
theorem dX8_turns_16 : decode cX8_turns 16 = .ok (.ifCond .ne 6, 3) := by decide +kernel
theorem dX8_turns_19 : decode cX8_turns 19 = .ok (.bipush (-2), 2) := by decide +kernel
theorem dX8_turns_21 : decode cX8_turns 21 = .ok (.ireturn, 1) := by decide +kernel
theorem dX8_turns_22 : decode cX8_turns 22 = .ok (.aload_n 0, 1) := by decide +kernel
theorem dX8_turns_23 : decode cX8_turns 23 = .ok (.getfield 39, 3) := by decide +kernel
theorem dX8_turns_26 : decode cX8_turns 26 = .ok (.invokevirtual 144, 3) := by decide +kernel
theorem dX8_turns_29 : decode cX8_turns 29 = .ok (.aload_n 0, 1) := by decide +kernel
theorem dX8_turns_30 : decode cX8_turns 30 = .ok (.getfield 39, 3) := by decide +kernel
theorem dX8_turns_33 : decode cX8_turns 33 = .ok (.iload_n 1, 1) := by decide +kernel
theorem dX8_turns_34 : decode cX8_turns 34 = .ok (.invokevirtual 147, 3) := by decide +kernel
theorem dX8_turns_37 : decode cX8_turns 37 = .ok (.aload_n 0, 1) := by decide +kernel
theorem dX8_turns_38 : decode cX8_turns 38 = .ok (.getfield 39, 3) := by decide +kernel
theorem dX8_turns_41 : decode cX8_turns 41 = .ok (.invokevirtual 151, 3) := by decide +kernel
theorem dX8_turns_44 : decode cX8_turns 44 = .ok (.ireturn, 1) := by decide +kernel
theorem dX8_lie_0 : decode cX8_lie 0 = .ok (.iload_n 1, 1) := by decide +kernel
theorem dX8_lie_1 : decode cX8_lie 1 = .ok (.invokestatic 141, 3) := by decide +kernel
theorem dX8_lie_4 : decode cX8_lie 4 = .ok (.ifCond .eq 36, 3) := by decide +kernel
theorem dX8_lie_7 : decode cX8_lie 7 = .ok (.aload_n 0, 1) := by decide +kernel
theorem dX8_lie_8 : decode cX8_lie 8 = .ok (.getfield 30, 3) := by decide +kernel
theorem dX8_lie_11 : decode cX8_lie 11 = .ok (.iload_n 2, 1) := by decide +kernel
theorem dX8_lie_12 : decode cX8_lie 12 = .ok (.invokevirtual 101, 3) := by decide +kernel
theorem dX8_lie_15 : decode cX8_lie 15 = .ok (.ifCond .eq 25, 3) := by decide +kernel
theorem dX8_lie_18 : decode cX8_lie 18 = .ok (.aload_n 0, 1) := by decide +kernel
theorem dX8_lie_19 : decode cX8_lie 19 = .ok (.getfield 30, 3) := by decide +kernel
theorem dX8_lie_22 : decode cX8_lie 22 = .ok (.iload_n 3, 1) := by decide +kernel
theorem dX8_lie_23 : decode cX8_lie 23 = .ok (.invokevirtual 105, 3) := by decide +kernel
theorem dX8_lie_26 : decode cX8_lie 26 = .ok (.ifCond .eq 14, 3) := by decide +kernel
theorem dX8_lie_29 : decode cX8_lie 29 = .ok (.iload 4, 2) := by decide +kernel
theorem dX8_lie_31 : decode cX8_lie 31 = .ok (.iconst 0, 1) := by decide +kernel
theorem dX8_lie_32 : decode cX8_lie 32 = .ok (.bipush 100, 2) := by decide +kernel
theorem dX8_lie_34 : decode cX8_lie 34 = .ok (.invokestatic 83, 3) := by decide +kernel
theorem dX8_lie_37 : decode cX8_lie 37 = .ok (.ifCond .ne 5, 3) := by decide +kernel
theorem dX8_lie_40 : decode cX8_lie 40 = .ok (.iconst (-1), 1) := by decide +kernel
theorem dX8_lie_41 : decode cX8_lie 41 = .ok (.ireturn, 1) := by decide +kernel
theorem dX8_lie_42 : decode cX8_lie 42 = .ok (.aload_n 0, 1) := by decide +kernel
theorem dX8_lie_43 : decode cX8_lie 43 = .ok (.getfield 39, 3) := by decide +kernel
theorem dX8_lie_46 : decode cX8_lie 46 = .ok (.invokevirtual 144, 3) := by decide +kernel
theorem dX8_lie_49 : decode cX8_lie 49 = .ok (.aload_n 0, 1) := by decide +kernel
theorem dX8_lie_50 : decode cX8_lie 50 = .ok (.getfield 39, 3) := by decide +kernel
theorem dX8_lie_53 : decode cX8_lie 53 = .ok (.iload_n 1, 1) := by decide +kernel
theorem dX8_lie_54 : decode cX8_lie 54 = .ok (.iload_n 2, 1) := by decide +kernel
theorem dX8_lie_55 : decode cX8_lie 55 = .ok (.iload_n 3, 1) := by decide +kernel
theorem dX8_lie_56 : decode cX8_lie 56 = .ok (.iload 4, 2) := by decide +kernel
theorem dX8_lie_58 : decode cX8_lie 58 = .ok (.invokevirtual 154, 3) := by decide +kernel
theorem dX8_lie_61 : decode cX8_lie 61 = .ok (.aload_n 0, 1) := by decide +kernel
theorem dX8_lie_62 : decode cX8_lie 62 = .ok (.getfield 39, 3) := by decide +kernel
theorem dX8_lie_65 : decode cX8_lie 65 = .ok (.invokevirtual 151, 3) := by decide +kernel
theorem dX8_lie_68 : decode cX8_lie 68 = .ok (.ireturn, 1) := by decide +kernel
theorem dX8_gain_0 : decode cX8_gain 0 = .ok (.iload_n 1, 1) := by decide +kernel
theorem dX8_gain_1 : decode cX8_gain 1 = .ok (.invokestatic 141, 3) := by decide +kernel
theorem dX8_gain_4 : decode cX8_gain 4 = .ok (.ifCond .eq 14, 3) := by decide +kernel
theorem dX8_gain_7 : decode cX8_gain 7 = .ok (.aload_n 0, 1) := by decide +kernel
theorem dX8_gain_8 : decode cX8_gain 8 = .ok (.getfield 30, 3) := by decide +kernel
theorem dX8_gain_11 : decode cX8_gain 11 = .ok (.iload_n 2, 1) := by decide +kernel
theorem dX8_gain_12 : decode cX8_gain 12 = .ok (.invokevirtual 101, 3) := by decide +kernel
theorem dX8_gain_15 : decode cX8_gain 15 = .ok (.ifCond .ne 5, 3) := by decide +kernel
theorem dX8_gain_18 : decode cX8_gain 18 = .ok (.iconst (-1), 1) := by decide +kernel
theorem dX8_gain_19 : decode cX8_gain 19 = .ok (.ireturn, 1) := by decide +kernel
theorem dX8_gain_20 : decode cX8_gain 20 = .ok (.aload_n 0, 1) := by decide +kernel
theorem dX8_gain_21 : decode cX8_gain 21 = .ok (.getfield 39, 3) := by decide +kernel
theorem dX8_gain_24 : decode cX8_gain 24 = .ok (.invokevirtual 144, 3) := by decide +kernel
theorem dX8_gain_27 : decode cX8_gain 27 = .ok (.aload_n 0, 1) := by decide +kernel
theorem dX8_gain_28 : decode cX8_gain 28 = .ok (.getfield 39, 3) := by decide +kernel
theorem dX8_gain_31 : decode cX8_gain 31 = .ok (.iload_n 1, 1) := by decide +kernel
theorem dX8_gain_32 : decode cX8_gain 32 = .ok (.iload_n 2, 1) := by decide +kernel
theorem dX8_gain_33 : decode cX8_gain 33 = .ok (.invokevirtual 158, 3) := by decide +kernel
theorem dX8_gain_36 : decode cX8_gain 36 = .ok (.ireturn, 1) := by decide +kernel
theorem dX8_sum_0 : decode cX8_sum 0 = .ok (.aload_n 0, 1) := by decide +kernel
theorem dX8_sum_1 : decode cX8_sum 1 = .ok (.getfield 30, 3) := by decide +kernel
theorem dX8_sum_4 : decode cX8_sum 4 = .ok (.iload_n 2, 1) := by decide +kernel
theorem dX8_sum_5 : decode cX8_sum 5 = .ok (.invokevirtual 101, 3) := by decide +kernel
theorem dX8_sum_8 : decode cX8_sum 8 = .ok (.ifCond .eq 25, 3) := by decide +kernel
theorem dX8_sum_11 : decode cX8_sum 11 = .ok (.aload_n 0, 1) := by decide +kernel
theorem dX8_sum_12 : decode cX8_sum 12 = .ok (.getfield 30, 3) := by decide +kernel
theorem dX8_sum_15 : decode cX8_sum 15 = .ok (.iload_n 3, 1) := by decide +kernel
theorem dX8_sum_16 : decode cX8_sum 16 = .ok (.invokevirtual 101, 3) := by decide +kernel
theorem dX8_sum_19 : decode cX8_sum 19 = .ok (.ifCond .eq 14, 3) := by decide +kernel
theorem dX8_sum_22 : decode cX8_sum 22 = .ok (.aload_n 0, 1) := by decide +kernel
theorem dX8_sum_23 : decode cX8_sum 23 = .ok (.getfield 39, 3) := by decide +kernel
theorem dX8_sum_26 : decode cX8_sum 26 = .ok (.iload_n 1, 1) := by decide +kernel
theorem dX8_sum_27 : decode cX8_sum 27 = .ok (.invokevirtual 162, 3) := by decide +kernel
theorem dX8_sum_30 : decode cX8_sum 30 = .ok (.ifCond .ne 5, 3) := by decide +kernel
theorem dX8_sum_33 : decode cX8_sum 33 = .ok (.iconst (-1), 1) := by decide +kernel
theorem dX8_sum_34 : decode cX8_sum 34 = .ok (.ireturn, 1) := by decide +kernel
theorem dX8_sum_35 : decode cX8_sum 35 = .ok (.aload_n 0, 1) := by decide +kernel
theorem dX8_sum_36 : decode cX8_sum 36 = .ok (.getfield 39, 3) := by decide +kernel
theorem dX8_sum_39 : decode cX8_sum 39 = .ok (.iload_n 2, 1) := by decide +kernel
theorem dX8_sum_40 : decode cX8_sum 40 = .ok (.iload_n 3, 1) := by decide +kernel
theorem dX8_sum_41 : decode cX8_sum 41 = .ok (.invokevirtual 165, 3) := by decide +kernel
theorem dX8_sum_44 : decode cX8_sum 44 = .ok (.ireturn, 1) := by decide +kernel
theorem dX8_envies_0 : decode cX8_envies 0 = .ok (.aload_n 0, 1) := by decide +kernel
theorem dX8_envies_1 : decode cX8_envies 1 = .ok (.getfield 30, 3) := by decide +kernel
theorem dX8_envies_4 : decode cX8_envies 4 = .ok (.iload_n 2, 1) := by decide +kernel
theorem dX8_envies_5 : decode cX8_envies 5 = .ok (.invokevirtual 101, 3) := by decide +kernel
theorem dX8_envies_8 : decode cX8_envies 8 = .ok (.ifCond .eq 30, 3) := by decide +kernel
theorem dX8_envies_11 : decode cX8_envies 11 = .ok (.aload_n 0, 1) := by decide +kernel
theorem dX8_envies_12 : decode cX8_envies 12 = .ok (.getfield 30, 3) := by decide +kernel
theorem dX8_envies_15 : decode cX8_envies 15 = .ok (.iload_n 3, 1) := by decide +kernel
theorem dX8_envies_16 : decode cX8_envies 16 = .ok (.invokevirtual 101, 3) := by decide +kernel
theorem dX8_envies_19 : decode cX8_envies 19 = .ok (.ifCond .eq 19, 3) := by decide +kernel
theorem dX8_envies_22 : decode cX8_envies 22 = .ok (.iload_n 2, 1) := by decide +kernel
theorem dX8_envies_23 : decode cX8_envies 23 = .ok (.iload_n 3, 1) := by decide +kernel
theorem dX8_envies_24 : decode cX8_envies 24 = .ok (.if_icmp .eq 14, 3) := by decide +kernel
theorem dX8_envies_27 : decode cX8_envies 27 = .ok (.aload_n 0, 1) := by decide +kernel
theorem dX8_envies_28 : decode cX8_envies 28 = .ok (.getfield 39, 3) := by decide +kernel
theorem dX8_envies_31 : decode cX8_envies 31 = .ok (.iload_n 1, 1) := by decide +kernel
theorem dX8_envies_32 : decode cX8_envies 32 = .ok (.invokevirtual 162, 3) := by decide +kernel
theorem dX8_envies_35 : decode cX8_envies 35 = .ok (.ifCond .ne 5, 3) := by decide +kernel
theorem dX8_envies_38 : decode cX8_envies 38 = .ok (.iconst (-1), 1) := by decide +kernel
theorem dX8_envies_39 : decode cX8_envies 39 = .ok (.ireturn, 1) := by decide +kernel
theorem dX8_envies_40 : decode cX8_envies 40 = .ok (.aload_n 0, 1) := by decide +kernel
theorem dX8_envies_41 : decode cX8_envies 41 = .ok (.getfield 39, 3) := by decide +kernel
theorem dX8_envies_44 : decode cX8_envies 44 = .ok (.iload_n 2, 1) := by decide +kernel
theorem dX8_envies_45 : decode cX8_envies 45 = .ok (.iload_n 3, 1) := by decide +kernel
theorem dX8_envies_46 : decode cX8_envies 46 = .ok (.invokevirtual 168, 3) := by decide +kernel
theorem dX8_envies_49 : decode cX8_envies 49 = .ok (.ireturn, 1) := by decide +kernel
theorem dX8_envy_0 : decode cX8_envy 0 = .ok (.aload_n 0, 1) := by decide +kernel
theorem dX8_envy_1 : decode cX8_envy 1 = .ok (.getfield 39, 3) := by decide +kernel
theorem dX8_envy_4 : decode cX8_envy 4 = .ok (.iload_n 1, 1) := by decide +kernel
theorem dX8_envy_5 : decode cX8_envy 5 = .ok (.invokevirtual 162, 3) := by decide +kernel
theorem dX8_envy_8 : decode cX8_envy 8 = .ok (.ifCond .eq 13, 3) := by decide +kernel
theorem dX8_envy_11 : decode cX8_envy 11 = .ok (.aload_n 0, 1) := by decide +kernel
theorem dX8_envy_12 : decode cX8_envy 12 = .ok (.getfield 39, 3) := by decide +kernel
theorem dX8_envy_15 : decode cX8_envy 15 = .ok (.invokevirtual 171, 3) := by decide +kernel
theorem dX8_envy_18 : decode cX8_envy 18 = .ok (.goto 4, 3) := by decide +kernel
theorem dX8_envy_21 : decode cX8_envy 21 = .ok (.iconst (-1), 1) := by decide +kernel
theorem dX8_envy_22 : decode cX8_envy 22 = .ok (.ireturn, 1) := by decide +kernel
theorem dX8_fairest_0 : decode cX8_fairest 0 = .ok (.aload_n 0, 1) := by decide +kernel
theorem dX8_fairest_1 : decode cX8_fairest 1 = .ok (.getfield 30, 3) := by decide +kernel
theorem dX8_fairest_4 : decode cX8_fairest 4 = .ok (.getfield 91, 3) := by decide +kernel
theorem dX8_fairest_7 : decode cX8_fairest 7 = .ok (.ifCond .ne 6, 3) := by decide +kernel
theorem dX8_fairest_10 : decode cX8_fairest 10 = .ok (.bipush (-2), 2) := by decide +kernel
theorem dX8_fairest_12 : decode cX8_fairest 12 = .ok (.ireturn, 1) := by decide +kernel
theorem dX8_fairest_13 : decode cX8_fairest 13 = .ok (.aload_n 0, 1) := by decide +kernel
theorem dX8_fairest_14 : decode cX8_fairest 14 = .ok (.getfield 39, 3) := by decide +kernel
theorem dX8_fairest_17 : decode cX8_fairest 17 = .ok (.invokevirtual 144, 3) := by decide +kernel
theorem dX8_fairest_20 : decode cX8_fairest 20 = .ok (.aload_n 0, 1) := by decide +kernel
theorem dX8_fairest_21 : decode cX8_fairest 21 = .ok (.getfield 39, 3) := by decide +kernel
theorem dX8_fairest_24 : decode cX8_fairest 24 = .ok (.getfield 174, 3) := by decide +kernel
theorem dX8_fairest_27 : decode cX8_fairest 27 = .ok (.bipush 8, 2) := by decide +kernel
theorem dX8_fairest_29 : decode cX8_fairest 29 = .ok (.if_icmp .le 8, 3) := by decide +kernel
theorem dX8_fairest_32 : decode cX8_fairest 32 = .ok (.bipush (-2), 2) := by decide +kernel
theorem dX8_fairest_34 : decode cX8_fairest 34 = .ok (.goto 10, 3) := by decide +kernel
theorem dX8_fairest_37 : decode cX8_fairest 37 = .ok (.aload_n 0, 1) := by decide +kernel
theorem dX8_fairest_38 : decode cX8_fairest 38 = .ok (.getfield 48, 3) := by decide +kernel
theorem dX8_fairest_41 : decode cX8_fairest 41 = .ok (.invokevirtual 177, 3) := by decide +kernel
theorem dX8_fairest_44 : decode cX8_fairest 44 = .ok (.ireturn, 1) := by decide +kernel
theorem dX8_bid_0 : decode cX8_bid 0 = .ok (.aload_n 0, 1) := by decide +kernel
theorem dX8_bid_1 : decode cX8_bid 1 = .ok (.getfield 30, 3) := by decide +kernel
theorem dX8_bid_4 : decode cX8_bid 4 = .ok (.iload_n 1, 1) := by decide +kernel
theorem dX8_bid_5 : decode cX8_bid 5 = .ok (.invokevirtual 105, 3) := by decide +kernel
theorem dX8_bid_8 : decode cX8_bid 8 = .ok (.ifCond .ne 5, 3) := by decide +kernel
theorem dX8_bid_11 : decode cX8_bid 11 = .ok (.iconst (-1), 1) := by decide +kernel
theorem dX8_bid_12 : decode cX8_bid 12 = .ok (.ireturn, 1) := by decide +kernel
theorem dX8_bid_13 : decode cX8_bid 13 = .ok (.aload_n 0, 1) := by decide +kernel
theorem dX8_bid_14 : decode cX8_bid 14 = .ok (.getfield 30, 3) := by decide +kernel
theorem dX8_bid_17 : decode cX8_bid 17 = .ok (.getfield 91, 3) := by decide +kernel
theorem dX8_bid_20 : decode cX8_bid 20 = .ok (.ifCond .ne 6, 3) := by decide +kernel
theorem dX8_bid_23 : decode cX8_bid 23 = .ok (.bipush (-2), 2) := by decide +kernel
theorem dX8_bid_25 : decode cX8_bid 25 = .ok (.ireturn, 1) := by decide +kernel
theorem dX8_bid_26 : decode cX8_bid 26 = .ok (.aload_n 0, 1) := by decide +kernel
theorem dX8_bid_27 : decode cX8_bid 27 = .ok (.getfield 30, 3) := by decide +kernel
theorem dX8_bid_30 : decode cX8_bid 30 = .ok (.iload_n 1, 1) := by decide +kernel
theorem dX8_bid_31 : decode cX8_bid 31 = .ok (.invokevirtual 127, 3) := by decide +kernel
theorem dX8_bid_34 : decode cX8_bid 34 = .ok (.ifCond .ne 14, 3) := by decide +kernel
theorem dX8_bid_37 : decode cX8_bid 37 = .ok (.aload_n 0, 1) := by decide +kernel
theorem dX8_bid_38 : decode cX8_bid 38 = .ok (.getfield 30, 3) := by decide +kernel
theorem dX8_bid_41 : decode cX8_bid 41 = .ok (.iload_n 1, 1) := by decide +kernel
theorem dX8_bid_42 : decode cX8_bid 42 = .ok (.invokevirtual 180, 3) := by decide +kernel
theorem dX8_bid_45 : decode cX8_bid 45 = .ok (.goto 5, 3) := by decide +kernel
theorem dX8_bid_48 : decode cX8_bid 48 = .ok (.bipush (-4), 2) := by decide +kernel
theorem dX8_bid_50 : decode cX8_bid 50 = .ok (.ireturn, 1) := by decide +kernel
theorem dX8_settled_0 : decode cX8_settled 0 = .ok (.aload_n 0, 1) := by decide +kernel
theorem dX8_settled_1 : decode cX8_settled 1 = .ok (.getfield 30, 3) := by decide +kernel
theorem dX8_settled_4 : decode cX8_settled 4 = .ok (.iload_n 1, 1) := by decide +kernel
theorem dX8_settled_5 : decode cX8_settled 5 = .ok (.invokevirtual 101, 3) := by decide +kernel
theorem dX8_settled_8 : decode cX8_settled 8 = .ok (.ifCond .ne 6, 3) := by decide +kernel
theorem dX8_settled_11 : decode cX8_settled 11 = .ok (.ldc 183, 2) := by decide +kernel
theorem dX8_settled_13 : decode cX8_settled 13 = .ok (.ireturn, 1) := by decide +kernel
theorem dX8_settled_14 : decode cX8_settled 14 = .ok (.aload_n 0, 1) := by decide +kernel
theorem dX8_settled_15 : decode cX8_settled 15 = .ok (.getfield 39, 3) := by decide +kernel
theorem dX8_settled_18 : decode cX8_settled 18 = .ok (.invokevirtual 144, 3) := by decide +kernel
theorem dX8_settled_21 : decode cX8_settled 21 = .ok (.aload_n 0, 1) := by decide +kernel
theorem dX8_settled_22 : decode cX8_settled 22 = .ok (.getfield 39, 3) := by decide +kernel
theorem dX8_settled_25 : decode cX8_settled 25 = .ok (.invokevirtual 184, 3) := by decide +kernel
theorem dX8_settled_28 : decode cX8_settled 28 = .ok (.iload_n 2, 1) := by decide +kernel
theorem dX8_settled_29 : decode cX8_settled 29 = .ok (.tableswitch 76 0 3 #[31, 41, 50, 59], 31) := by decide +kernel
theorem dX8_settled_60 : decode cX8_settled 60 = .ok (.aload_n 0, 1) := by decide +kernel
theorem dX8_settled_61 : decode cX8_settled 61 = .ok (.getfield 39, 3) := by decide +kernel
theorem dX8_settled_64 : decode cX8_settled 64 = .ok (.iload_n 1, 1) := by decide +kernel
theorem dX8_settled_65 : decode cX8_settled 65 = .ok (.iload_n 1, 1) := by decide +kernel
theorem dX8_settled_66 : decode cX8_settled 66 = .ok (.invokevirtual 165, 3) := by decide +kernel
theorem dX8_settled_69 : decode cX8_settled 69 = .ok (.ireturn, 1) := by decide +kernel
theorem dX8_settled_70 : decode cX8_settled 70 = .ok (.aload_n 0, 1) := by decide +kernel
theorem dX8_settled_71 : decode cX8_settled 71 = .ok (.getfield 39, 3) := by decide +kernel
theorem dX8_settled_74 : decode cX8_settled 74 = .ok (.iload_n 1, 1) := by decide +kernel
theorem dX8_settled_75 : decode cX8_settled 75 = .ok (.invokevirtual 187, 3) := by decide +kernel
theorem dX8_settled_78 : decode cX8_settled 78 = .ok (.ireturn, 1) := by decide +kernel
theorem dX8_settled_79 : decode cX8_settled 79 = .ok (.aload_n 0, 1) := by decide +kernel
theorem dX8_settled_80 : decode cX8_settled 80 = .ok (.getfield 39, 3) := by decide +kernel
theorem dX8_settled_83 : decode cX8_settled 83 = .ok (.iload_n 1, 1) := by decide +kernel
theorem dX8_settled_84 : decode cX8_settled 84 = .ok (.invokevirtual 190, 3) := by decide +kernel
theorem dX8_settled_87 : decode cX8_settled 87 = .ok (.ireturn, 1) := by decide +kernel
theorem dX8_settled_88 : decode cX8_settled 88 = .ok (.aload_n 0, 1) := by decide +kernel
theorem dX8_settled_89 : decode cX8_settled 89 = .ok (.getfield 39, 3) := by decide +kernel
theorem dX8_settled_92 : decode cX8_settled 92 = .ok (.iload_n 1, 1) := by decide +kernel
theorem dX8_settled_93 : decode cX8_settled 93 = .ok (.invokevirtual 190, 3) := by decide +kernel
theorem dX8_settled_96 : decode cX8_settled 96 = .ok (.aload_n 0, 1) := by decide +kernel
theorem dX8_settled_97 : decode cX8_settled 97 = .ok (.getfield 39, 3) := by decide +kernel
theorem dX8_settled_100 : decode cX8_settled 100 = .ok (.invokevirtual 193, 3) := by decide +kernel
theorem dX8_settled_103 : decode cX8_settled 103 = .ok (.isub, 1) := by decide +kernel
theorem dX8_settled_104 : decode cX8_settled 104 = .ok (.ireturn, 1) := by decide +kernel
theorem dX8_settled_105 : decode cX8_settled 105 = .ok (.ldc 183, 2) := by decide +kernel
theorem dX8_settled_107 : decode cX8_settled 107 = .ok (.ireturn, 1) := by decide +kernel
theorem dX8_loads_0 : decode cX8_loads 0 = .ok (.iload_n 1, 1) := by decide +kernel
