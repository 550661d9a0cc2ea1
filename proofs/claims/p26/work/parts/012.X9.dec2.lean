theorem dX9_way_46 : decode cX9_way 46 = .ok (.iload_n 1, 1) := by decide +kernel
theorem dX9_way_47 : decode cX9_way 47 = .ok (.if_icmp .ne 51, 3) := by decide +kernel
theorem dX9_way_50 : decode cX9_way 50 = .ok (.iload_n 3, 1) := by decide +kernel
theorem dX9_way_51 : decode cX9_way 51 = .ok (.iload_n 2, 1) := by decide +kernel
theorem dX9_way_52 : decode cX9_way 52 = .ok (.ifCond .ne 7, 3) := by decide +kernel
theorem dX9_way_55 : decode cX9_way 55 = .ok (.iconst 1, 1) := by decide +kernel
theorem dX9_way_56 : decode cX9_way 56 = .ok (.goto 40, 3) := by decide +kernel
theorem dX9_way_59 : decode cX9_way 59 = .ok (.iload_n 2, 1) := by decide +kernel
theorem dX9_way_60 : decode cX9_way 60 = .ok (.iconst 1, 1) := by decide +kernel
theorem dX9_way_61 : decode cX9_way 61 = .ok (.if_icmp .ne 13, 3) := by decide +kernel
theorem dX9_way_64 : decode cX9_way 64 = .ok (.aload_n 0, 1) := by decide +kernel
theorem dX9_way_65 : decode cX9_way 65 = .ok (.getfield 19, 3) := by decide +kernel
theorem dX9_way_68 : decode cX9_way 68 = .ok (.iload 4, 2) := by decide +kernel
theorem dX9_way_70 : decode cX9_way 70 = .ok (.iaload, 1) := by decide +kernel
theorem dX9_way_71 : decode cX9_way 71 = .ok (.goto 25, 3) := by decide +kernel
theorem dX9_way_74 : decode cX9_way 74 = .ok (.iload_n 2, 1) := by decide +kernel
theorem dX9_way_75 : decode cX9_way 75 = .ok (.iconst 2, 1) := by decide +kernel
theorem dX9_way_76 : decode cX9_way 76 = .ok (.if_icmp .ne 13, 3) := by decide +kernel
theorem dX9_way_79 : decode cX9_way 79 = .ok (.aload_n 0, 1) := by decide +kernel
theorem dX9_way_80 : decode cX9_way 80 = .ok (.getfield 22, 3) := by decide +kernel
theorem dX9_way_83 : decode cX9_way 83 = .ok (.iload 4, 2) := by decide +kernel
theorem dX9_way_85 : decode cX9_way 85 = .ok (.iaload, 1) := by decide +kernel
theorem dX9_way_86 : decode cX9_way 86 = .ok (.goto 10, 3) := by decide +kernel
theorem dX9_way_89 : decode cX9_way 89 = .ok (.aload_n 0, 1) := by decide +kernel
theorem dX9_way_90 : decode cX9_way 90 = .ok (.getfield 25, 3) := by decide +kernel
theorem dX9_way_93 : decode cX9_way 93 = .ok (.iload 4, 2) := by decide +kernel
theorem dX9_way_95 : decode cX9_way 95 = .ok (.iaload, 1) := by decide +kernel
theorem dX9_way_96 : decode cX9_way 96 = .ok (.iadd, 1) := by decide +kernel
theorem dX9_way_97 : decode cX9_way 97 = .ok (.istore_n 3, 1) := by decide +kernel
theorem dX9_way_98 : decode cX9_way 98 = .ok (.iinc 4 1, 3) := by decide +kernel
theorem dX9_way_101 : decode cX9_way 101 = .ok (.goto (-70), 3) := by decide +kernel
theorem dX9_way_104 : decode cX9_way 104 = .ok (.iload_n 3, 1) := by decide +kernel
theorem dX9_way_105 : decode cX9_way 105 = .ok (.ireturn, 1) := by decide +kernel
theorem dX9_asks_0 : decode cX9_asks 0 = .ok (.aload_n 0, 1) := by decide +kernel
theorem dX9_asks_1 : decode cX9_asks 1 = .ok (.iload_n 1, 1) := by decide +kernel
theorem dX9_asks_2 : decode cX9_asks 2 = .ok (.invokevirtual 161, 3) := by decide +kernel
theorem dX9_asks_5 : decode cX9_asks 5 = .ok (.ifCond .ne 5, 3) := by decide +kernel
theorem dX9_asks_8 : decode cX9_asks 8 = .ok (.iconst (-1), 1) := by decide +kernel
theorem dX9_asks_9 : decode cX9_asks 9 = .ok (.ireturn, 1) := by decide +kernel
theorem dX9_asks_10 : decode cX9_asks 10 = .ok (.aload_n 0, 1) := by decide +kernel
theorem dX9_asks_11 : decode cX9_asks 11 = .ok (.iconst 1, 1) := by decide +kernel
theorem dX9_asks_12 : decode cX9_asks 12 = .ok (.invokevirtual 140, 3) := by decide +kernel
theorem dX9_asks_15 : decode cX9_asks 15 = .ok (.istore_n 2, 1) := by decide +kernel
theorem dX9_asks_16 : decode cX9_asks 16 = .ok (.aload_n 0, 1) := by decide +kernel
theorem dX9_asks_17 : decode cX9_asks 17 = .ok (.getfield 25, 3) := by decide +kernel
theorem dX9_asks_20 : decode cX9_asks 20 = .ok (.iload_n 1, 1) := by decide +kernel
theorem dX9_asks_21 : decode cX9_asks 21 = .ok (.iaload, 1) := by decide +kernel
theorem dX9_asks_22 : decode cX9_asks 22 = .ok (.iload_n 2, 1) := by decide +kernel
theorem dX9_asks_23 : decode cX9_asks 23 = .ok (.isub, 1) := by decide +kernel
theorem dX9_asks_24 : decode cX9_asks 24 = .ok (.aload_n 0, 1) := by decide +kernel
theorem dX9_asks_25 : decode cX9_asks 25 = .ok (.iconst 4, 1) := by decide +kernel
theorem dX9_asks_26 : decode cX9_asks 26 = .ok (.invokevirtual 140, 3) := by decide +kernel
theorem dX9_asks_29 : decode cX9_asks 29 = .ok (.isub, 1) := by decide +kernel
theorem dX9_asks_30 : decode cX9_asks 30 = .ok (.istore_n 3, 1) := by decide +kernel
theorem dX9_asks_31 : decode cX9_asks 31 = .ok (.aload_n 0, 1) := by decide +kernel
theorem dX9_asks_32 : decode cX9_asks 32 = .ok (.iload_n 1, 1) := by decide +kernel
theorem dX9_asks_33 : decode cX9_asks 33 = .ok (.invokevirtual 170, 3) := by decide +kernel
theorem dX9_asks_36 : decode cX9_asks 36 = .ok (.bipush (-4), 2) := by decide +kernel
theorem dX9_asks_38 : decode cX9_asks 38 = .ok (.if_icmp .ne 31, 3) := by decide +kernel
theorem dX9_asks_41 : decode cX9_asks 41 = .ok (.aload_n 0, 1) := by decide +kernel
theorem dX9_asks_42 : decode cX9_asks 42 = .ok (.getfield 22, 3) := by decide +kernel
theorem dX9_asks_45 : decode cX9_asks 45 = .ok (.iload_n 1, 1) := by decide +kernel
theorem dX9_asks_46 : decode cX9_asks 46 = .ok (.iaload, 1) := by decide +kernel
theorem dX9_asks_47 : decode cX9_asks 47 = .ok (.iload_n 2, 1) := by decide +kernel
theorem dX9_asks_48 : decode cX9_asks 48 = .ok (.if_icmp .ge 21, 3) := by decide +kernel
theorem dX9_asks_51 : decode cX9_asks 51 = .ok (.aload_n 0, 1) := by decide +kernel
theorem dX9_asks_52 : decode cX9_asks 52 = .ok (.getfield 25, 3) := by decide +kernel
theorem dX9_asks_55 : decode cX9_asks 55 = .ok (.iload_n 1, 1) := by decide +kernel
theorem dX9_asks_56 : decode cX9_asks 56 = .ok (.iaload, 1) := by decide +kernel
theorem dX9_asks_57 : decode cX9_asks 57 = .ok (.iload_n 2, 1) := by decide +kernel
theorem dX9_asks_58 : decode cX9_asks 58 = .ok (.if_icmp .lt 11, 3) := by decide +kernel
theorem dX9_asks_61 : decode cX9_asks 61 = .ok (.iload_n 3, 1) := by decide +kernel
theorem dX9_asks_62 : decode cX9_asks 62 = .ok (.ifCond .le 7, 3) := by decide +kernel
theorem dX9_asks_65 : decode cX9_asks 65 = .ok (.iload_n 3, 1) := by decide +kernel
theorem dX9_asks_66 : decode cX9_asks 66 = .ok (.goto 4, 3) := by decide +kernel
theorem dX9_asks_69 : decode cX9_asks 69 = .ok (.iconst 0, 1) := by decide +kernel
theorem dX9_asks_70 : decode cX9_asks 70 = .ok (.ireturn, 1) := by decide +kernel
theorem dX9_findShared_0 : decode cX9_findShared 0 = .ok (.aload_n 0, 1) := by decide +kernel
theorem dX9_findShared_1 : decode cX9_findShared 1 = .ok (.iconst 0, 1) := by decide +kernel
theorem dX9_findShared_2 : decode cX9_findShared 2 = .ok (.putfield 182, 3) := by decide +kernel
theorem dX9_findShared_5 : decode cX9_findShared 5 = .ok (.iconst 0, 1) := by decide +kernel
theorem dX9_findShared_6 : decode cX9_findShared 6 = .ok (.istore_n 1, 1) := by decide +kernel
theorem dX9_findShared_7 : decode cX9_findShared 7 = .ok (.iload_n 1, 1) := by decide +kernel
theorem dX9_findShared_8 : decode cX9_findShared 8 = .ok (.aload_n 0, 1) := by decide +kernel
theorem dX9_findShared_9 : decode cX9_findShared 9 = .ok (.getfield 146, 3) := by decide +kernel
theorem dX9_findShared_12 : decode cX9_findShared 12 = .ok (.if_icmp .ge 37, 3) := by decide +kernel
theorem dX9_findShared_15 : decode cX9_findShared 15 = .ok (.aload_n 0, 1) := by decide +kernel
theorem dX9_findShared_16 : decode cX9_findShared 16 = .ok (.iload_n 1, 1) := by decide +kernel
theorem dX9_findShared_17 : decode cX9_findShared 17 = .ok (.invokevirtual 175, 3) := by decide +kernel
theorem dX9_findShared_20 : decode cX9_findShared 20 = .ok (.ifCond .ne 23, 3) := by decide +kernel
theorem dX9_findShared_23 : decode cX9_findShared 23 = .ok (.aload_n 0, 1) := by decide +kernel
theorem dX9_findShared_24 : decode cX9_findShared 24 = .ok (.getfield 37, 3) := by decide +kernel
theorem dX9_findShared_27 : decode cX9_findShared 27 = .ok (.aload_n 0, 1) := by decide +kernel
theorem dX9_findShared_28 : decode cX9_findShared 28 = .ok (.getfield 182, 3) := by decide +kernel
theorem dX9_findShared_31 : decode cX9_findShared 31 = .ok (.iload_n 1, 1) := by decide +kernel
theorem dX9_findShared_32 : decode cX9_findShared 32 = .ok (.iastore, 1) := by decide +kernel
theorem dX9_findShared_33 : decode cX9_findShared 33 = .ok (.aload_n 0, 1) := by decide +kernel
theorem dX9_findShared_34 : decode cX9_findShared 34 = .ok (.dup, 1) := by decide +kernel
theorem dX9_findShared_35 : decode cX9_findShared 35 = .ok (.getfield 182, 3) := by decide +kernel
theorem dX9_findShared_38 : decode cX9_findShared 38 = .ok (.iconst 1, 1) := by decide +kernel
theorem dX9_findShared_39 : decode cX9_findShared 39 = .ok (.iadd, 1) := by decide +kernel
theorem dX9_findShared_40 : decode cX9_findShared 40 = .ok (.putfield 182, 3) := by decide +kernel
theorem dX9_findShared_43 : decode cX9_findShared 43 = .ok (.iinc 1 1, 3) := by decide +kernel
theorem dX9_findShared_46 : decode cX9_findShared 46 = .ok (.goto (-39), 3) := by decide +kernel
theorem dX9_findShared_49 : decode cX9_findShared 49 = .ok (.return_, 1) := by decide +kernel
theorem dX9_sharings_0 : decode cX9_sharings 0 = .ok (.iconst 1, 1) := by decide +kernel
theorem dX9_sharings_1 : decode cX9_sharings 1 = .ok (.istore_n 1, 1) := by decide +kernel
theorem dX9_sharings_2 : decode cX9_sharings 2 = .ok (.iconst 0, 1) := by decide +kernel
theorem dX9_sharings_3 : decode cX9_sharings 3 = .ok (.istore_n 2, 1) := by decide +kernel
theorem dX9_sharings_4 : decode cX9_sharings 4 = .ok (.iload_n 2, 1) := by decide +kernel
theorem dX9_sharings_5 : decode cX9_sharings 5 = .ok (.aload_n 0, 1) := by decide +kernel
theorem dX9_sharings_6 : decode cX9_sharings 6 = .ok (.getfield 182, 3) := by decide +kernel
theorem dX9_sharings_9 : decode cX9_sharings 9 = .ok (.if_icmp .ge 16, 3) := by decide +kernel
theorem dX9_sharings_12 : decode cX9_sharings 12 = .ok (.iload_n 1, 1) := by decide +kernel
theorem dX9_sharings_13 : decode cX9_sharings 13 = .ok (.aload_n 0, 1) := by decide +kernel
theorem dX9_sharings_14 : decode cX9_sharings 14 = .ok (.getfield 143, 3) := by decide +kernel
theorem dX9_sharings_17 : decode cX9_sharings 17 = .ok (.imul, 1) := by decide +kernel
theorem dX9_sharings_18 : decode cX9_sharings 18 = .ok (.istore_n 1, 1) := by decide +kernel
theorem dX9_sharings_19 : decode cX9_sharings 19 = .ok (.iinc 2 1, 3) := by decide +kernel
theorem dX9_sharings_22 : decode cX9_sharings 22 = .ok (.goto (-18), 3) := by decide +kernel
theorem dX9_sharings_25 : decode cX9_sharings 25 = .ok (.iload_n 1, 1) := by decide +kernel
theorem dX9_sharings_26 : decode cX9_sharings 26 = .ok (.ireturn, 1) := by decide +kernel
theorem dX9_parts_0 : decode cX9_parts 0 = .ok (.iload_n 1, 1) := by decide +kernel
theorem dX9_parts_1 : decode cX9_parts 1 = .ok (.istore_n 2, 1) := by decide +kernel
theorem dX9_parts_2 : decode cX9_parts 2 = .ok (.iconst 0, 1) := by decide +kernel
theorem dX9_parts_3 : decode cX9_parts 3 = .ok (.istore_n 3, 1) := by decide +kernel
theorem dX9_parts_4 : decode cX9_parts 4 = .ok (.iload_n 3, 1) := by decide +kernel
theorem dX9_parts_5 : decode cX9_parts 5 = .ok (.aload_n 0, 1) := by decide +kernel
theorem dX9_parts_6 : decode cX9_parts 6 = .ok (.getfield 182, 3) := by decide +kernel
theorem dX9_parts_9 : decode cX9_parts 9 = .ok (.if_icmp .ge 28, 3) := by decide +kernel
theorem dX9_parts_12 : decode cX9_parts 12 = .ok (.aload_n 0, 1) := by decide +kernel
theorem dX9_parts_13 : decode cX9_parts 13 = .ok (.getfield 40, 3) := by decide +kernel
theorem dX9_parts_16 : decode cX9_parts 16 = .ok (.iload_n 3, 1) := by decide +kernel
theorem dX9_parts_17 : decode cX9_parts 17 = .ok (.iload_n 2, 1) := by decide +kernel
theorem dX9_parts_18 : decode cX9_parts 18 = .ok (.aload_n 0, 1) := by decide +kernel
theorem dX9_parts_19 : decode cX9_parts 19 = .ok (.getfield 143, 3) := by decide +kernel
theorem dX9_parts_22 : decode cX9_parts 22 = .ok (.irem, 1) := by decide +kernel
theorem dX9_parts_23 : decode cX9_parts 23 = .ok (.iastore, 1) := by decide +kernel
theorem dX9_parts_24 : decode cX9_parts 24 = .ok (.iload_n 2, 1) := by decide +kernel
theorem dX9_parts_25 : decode cX9_parts 25 = .ok (.aload_n 0, 1) := by decide +kernel
theorem dX9_parts_26 : decode cX9_parts 26 = .ok (.getfield 143, 3) := by decide +kernel
theorem dX9_parts_29 : decode cX9_parts 29 = .ok (.idiv, 1) := by decide +kernel
theorem dX9_parts_30 : decode cX9_parts 30 = .ok (.istore_n 2, 1) := by decide +kernel
theorem dX9_parts_31 : decode cX9_parts 31 = .ok (.iinc 3 1, 3) := by decide +kernel
theorem dX9_parts_34 : decode cX9_parts 34 = .ok (.goto (-30), 3) := by decide +kernel
theorem dX9_parts_37 : decode cX9_parts 37 = .ok (.return_, 1) := by decide +kernel
theorem dX9_number_0 : decode cX9_number 0 = .ok (.iconst 0, 1) := by decide +kernel
theorem dX9_number_1 : decode cX9_number 1 = .ok (.istore_n 1, 1) := by decide +kernel
theorem dX9_number_2 : decode cX9_number 2 = .ok (.aload_n 0, 1) := by decide +kernel
theorem dX9_number_3 : decode cX9_number 3 = .ok (.getfield 182, 3) := by decide +kernel
theorem dX9_number_6 : decode cX9_number 6 = .ok (.iconst 1, 1) := by decide +kernel
theorem dX9_number_7 : decode cX9_number 7 = .ok (.isub, 1) := by decide +kernel
theorem dX9_number_8 : decode cX9_number 8 = .ok (.istore_n 2, 1) := by decide +kernel
theorem dX9_number_9 : decode cX9_number 9 = .ok (.iload_n 2, 1) := by decide +kernel
theorem dX9_number_10 : decode cX9_number 10 = .ok (.ifCond .lt 23, 3) := by decide +kernel
theorem dX9_number_13 : decode cX9_number 13 = .ok (.aload_n 0, 1) := by decide +kernel
theorem dX9_number_14 : decode cX9_number 14 = .ok (.getfield 143, 3) := by decide +kernel
theorem dX9_number_17 : decode cX9_number 17 = .ok (.iload_n 1, 1) := by decide +kernel
theorem dX9_number_18 : decode cX9_number 18 = .ok (.imul, 1) := by decide +kernel
theorem dX9_number_19 : decode cX9_number 19 = .ok (.aload_n 0, 1) := by decide +kernel
theorem dX9_number_20 : decode cX9_number 20 = .ok (.getfield 40, 3) := by decide +kernel
theorem dX9_number_23 : decode cX9_number 23 = .ok (.iload_n 2, 1) := by decide +kernel
theorem dX9_number_24 : decode cX9_number 24 = .ok (.iaload, 1) := by decide +kernel
theorem dX9_number_25 : decode cX9_number 25 = .ok (.iadd, 1) := by decide +kernel
theorem dX9_number_26 : decode cX9_number 26 = .ok (.istore_n 1, 1) := by decide +kernel
theorem dX9_number_27 : decode cX9_number 27 = .ok (.iinc 2 (-1), 3) := by decide +kernel
theorem dX9_number_30 : decode cX9_number 30 = .ok (.goto (-21), 3) := by decide +kernel
theorem dX9_number_33 : decode cX9_number 33 = .ok (.iload_n 1, 1) := by decide +kernel
theorem dX9_number_34 : decode cX9_number 34 = .ok (.ireturn, 1) := by decide +kernel
theorem dX9_worthNow_0 : decode cX9_worthNow 0 = .ok (.iload_n 1, 1) := by decide +kernel
theorem dX9_worthNow_1 : decode cX9_worthNow 1 = .ok (.iload_n 3, 1) := by decide +kernel
theorem dX9_worthNow_2 : decode cX9_worthNow 2 = .ok (.if_icmp .ne 19, 3) := by decide +kernel
theorem dX9_worthNow_5 : decode cX9_worthNow 5 = .ok (.aload_n 0, 1) := by decide +kernel
theorem dX9_worthNow_6 : decode cX9_worthNow 6 = .ok (.getfield 37, 3) := by decide +kernel
theorem dX9_worthNow_9 : decode cX9_worthNow 9 = .ok (.iload_n 2, 1) := by decide +kernel
theorem dX9_worthNow_10 : decode cX9_worthNow 10 = .ok (.iaload, 1) := by decide +kernel
theorem dX9_worthNow_11 : decode cX9_worthNow 11 = .ok (.iload 4, 2) := by decide +kernel
theorem dX9_worthNow_13 : decode cX9_worthNow 13 = .ok (.if_icmp .ne 8, 3) := by decide +kernel
theorem dX9_worthNow_16 : decode cX9_worthNow 16 = .ok (.iload 5, 2) := by decide +kernel
theorem dX9_worthNow_18 : decode cX9_worthNow 18 = .ok (.goto 19, 3) := by decide +kernel
theorem dX9_worthNow_21 : decode cX9_worthNow 21 = .ok (.aload_n 0, 1) := by decide +kernel
theorem dX9_worthNow_22 : decode cX9_worthNow 22 = .ok (.getfield 34, 3) := by decide +kernel
theorem dX9_worthNow_25 : decode cX9_worthNow 25 = .ok (.bipush 10, 2) := by decide +kernel
theorem dX9_worthNow_27 : decode cX9_worthNow 27 = .ok (.iload_n 1, 1) := by decide +kernel
theorem dX9_worthNow_28 : decode cX9_worthNow 28 = .ok (.imul, 1) := by decide +kernel
theorem dX9_worthNow_29 : decode cX9_worthNow 29 = .ok (.aload_n 0, 1) := by decide +kernel
theorem dX9_worthNow_30 : decode cX9_worthNow 30 = .ok (.getfield 37, 3) := by decide +kernel
theorem dX9_worthNow_33 : decode cX9_worthNow 33 = .ok (.iload_n 2, 1) := by decide +kernel
theorem dX9_worthNow_34 : decode cX9_worthNow 34 = .ok (.iaload, 1) := by decide +kernel
theorem dX9_worthNow_35 : decode cX9_worthNow 35 = .ok (.iadd, 1) := by decide +kernel
theorem dX9_worthNow_36 : decode cX9_worthNow 36 = .ok (.iaload, 1) := by decide +kernel
theorem dX9_worthNow_37 : decode cX9_worthNow 37 = .ok (.ireturn, 1) := by decide +kernel
theorem dX9_takes_0 : decode cX9_takes 0 = .ok (.iconst 0, 1) := by decide +kernel
theorem dX9_takes_1 : decode cX9_takes 1 = .ok (.istore 5, 2) := by decide +kernel
theorem dX9_takes_3 : decode cX9_takes 3 = .ok (.iload 5, 2) := by decide +kernel
theorem dX9_takes_5 : decode cX9_takes 5 = .ok (.aload_n 0, 1) := by decide +kernel
theorem dX9_takes_6 : decode cX9_takes 6 = .ok (.getfield 182, 3) := by decide +kernel
theorem dX9_takes_9 : decode cX9_takes 9 = .ok (.if_icmp .ge 18, 3) := by decide +kernel
theorem dX9_takes_12 : decode cX9_takes 12 = .ok (.aload_n 0, 1) := by decide +kernel
theorem dX9_takes_13 : decode cX9_takes 13 = .ok (.getfield 40, 3) := by decide +kernel
theorem dX9_takes_16 : decode cX9_takes 16 = .ok (.iload 5, 2) := by decide +kernel
theorem dX9_takes_18 : decode cX9_takes 18 = .ok (.bipush (-4), 2) := by decide +kernel
theorem dX9_takes_20 : decode cX9_takes 20 = .ok (.iastore, 1) := by decide +kernel
theorem dX9_takes_21 : decode cX9_takes 21 = .ok (.iinc 5 1, 3) := by decide +kernel
theorem dX9_takes_24 : decode cX9_takes 24 = .ok (.goto (-21), 3) := by decide +kernel
theorem dX9_takes_27 : decode cX9_takes 27 = .ok (.iconst 0, 1) := by decide +kernel
theorem dX9_takes_28 : decode cX9_takes 28 = .ok (.istore 5, 2) := by decide +kernel
theorem dX9_takes_30 : decode cX9_takes 30 = .ok (.iload 5, 2) := by decide +kernel
theorem dX9_takes_32 : decode cX9_takes 32 = .ok (.aload_n 0, 1) := by decide +kernel
theorem dX9_takes_33 : decode cX9_takes 33 = .ok (.getfield 182, 3) := by decide +kernel
theorem dX9_takes_36 : decode cX9_takes 36 = .ok (.if_icmp .ge 138, 3) := by decide +kernel
theorem dX9_takes_39 : decode cX9_takes 39 = .ok (.iload 5, 2) := by decide +kernel
theorem dX9_takes_41 : decode cX9_takes 41 = .ok (.aload_n 0, 1) := by decide +kernel
theorem dX9_takes_42 : decode cX9_takes 42 = .ok (.getfield 143, 3) := by decide +kernel
theorem dX9_takes_45 : decode cX9_takes 45 = .ok (.idiv, 1) := by decide +kernel
theorem dX9_takes_46 : decode cX9_takes 46 = .ok (.istore 6, 2) := by decide +kernel
theorem dX9_takes_48 : decode cX9_takes 48 = .ok (.iload_n 1, 1) := by decide +kernel
theorem dX9_takes_49 : decode cX9_takes 49 = .ok (.iconst 1, 1) := by decide +kernel
theorem dX9_takes_50 : decode cX9_takes 50 = .ok (.if_icmp .ne 28, 3) := by decide +kernel
theorem dX9_takes_53 : decode cX9_takes 53 = .ok (.iload 6, 2) := by decide +kernel
theorem dX9_takes_55 : decode cX9_takes 55 = .ok (.iconst 2, 1) := by decide +kernel
theorem dX9_takes_56 : decode cX9_takes 56 = .ok (.irem, 1) := by decide +kernel
theorem dX9_takes_57 : decode cX9_takes 57 = .ok (.iconst 1, 1) := by decide +kernel
theorem dX9_takes_58 : decode cX9_takes 58 = .ok (.if_icmp .ne 20, 3) := by decide +kernel
theorem dX9_takes_61 : decode cX9_takes 61 = .ok (.aload_n 0, 1) := by decide +kernel
theorem dX9_takes_62 : decode cX9_takes 62 = .ok (.getfield 143, 3) := by decide +kernel
theorem dX9_takes_65 : decode cX9_takes 65 = .ok (.iconst 1, 1) := by decide +kernel
theorem dX9_takes_66 : decode cX9_takes 66 = .ok (.isub, 1) := by decide +kernel
theorem dX9_takes_67 : decode cX9_takes 67 = .ok (.iload 5, 2) := by decide +kernel
theorem dX9_takes_69 : decode cX9_takes 69 = .ok (.aload_n 0, 1) := by decide +kernel
theorem dX9_takes_70 : decode cX9_takes 70 = .ok (.getfield 143, 3) := by decide +kernel
theorem dX9_takes_73 : decode cX9_takes 73 = .ok (.irem, 1) := by decide +kernel
theorem dX9_takes_74 : decode cX9_takes 74 = .ok (.isub, 1) := by decide +kernel
theorem dX9_takes_75 : decode cX9_takes 75 = .ok (.goto 10, 3) := by decide +kernel
theorem dX9_takes_78 : decode cX9_takes 78 = .ok (.iload 5, 2) := by decide +kernel
theorem dX9_takes_80 : decode cX9_takes 80 = .ok (.aload_n 0, 1) := by decide +kernel
theorem dX9_takes_81 : decode cX9_takes 81 = .ok (.getfield 143, 3) := by decide +kernel
theorem dX9_takes_84 : decode cX9_takes 84 = .ok (.irem, 1) := by decide +kernel
theorem dX9_takes_85 : decode cX9_takes 85 = .ok (.istore 7, 2) := by decide +kernel
theorem dX9_takes_87 : decode cX9_takes 87 = .ok (.bipush (-4), 2) := by decide +kernel
theorem dX9_takes_89 : decode cX9_takes 89 = .ok (.istore 8, 2) := by decide +kernel
theorem dX9_takes_91 : decode cX9_takes 91 = .ok (.iconst 0, 1) := by decide +kernel
theorem dX9_takes_92 : decode cX9_takes 92 = .ok (.istore 9, 2) := by decide +kernel
theorem dX9_takes_94 : decode cX9_takes 94 = .ok (.iload 9, 2) := by decide +kernel
theorem dX9_takes_96 : decode cX9_takes 96 = .ok (.aload_n 0, 1) := by decide +kernel
theorem dX9_takes_97 : decode cX9_takes 97 = .ok (.getfield 182, 3) := by decide +kernel
theorem dX9_takes_100 : decode cX9_takes 100 = .ok (.if_icmp .ge 59, 3) := by decide +kernel
theorem dX9_takes_103 : decode cX9_takes 103 = .ok (.aload_n 0, 1) := by decide +kernel
theorem dX9_takes_104 : decode cX9_takes 104 = .ok (.getfield 40, 3) := by decide +kernel
theorem dX9_takes_107 : decode cX9_takes 107 = .ok (.iload 9, 2) := by decide +kernel
theorem dX9_takes_109 : decode cX9_takes 109 = .ok (.iaload, 1) := by decide +kernel
theorem dX9_takes_110 : decode cX9_takes 110 = .ok (.bipush (-4), 2) := by decide +kernel
theorem dX9_takes_112 : decode cX9_takes 112 = .ok (.if_icmp .ne 41, 3) := by decide +kernel
theorem dX9_takes_115 : decode cX9_takes 115 = .ok (.iload 8, 2) := by decide +kernel
theorem dX9_takes_117 : decode cX9_takes 117 = .ok (.bipush (-4), 2) := by decide +kernel
theorem dX9_takes_119 : decode cX9_takes 119 = .ok (.if_icmp .eq 30, 3) := by decide +kernel
theorem dX9_takes_122 : decode cX9_takes 122 = .ok (.aload_n 0, 1) := by decide +kernel
theorem dX9_takes_123 : decode cX9_takes 123 = .ok (.iload 7, 2) := by decide +kernel
theorem dX9_takes_125 : decode cX9_takes 125 = .ok (.iload 9, 2) := by decide +kernel
theorem dX9_takes_127 : decode cX9_takes 127 = .ok (.iload_n 2, 1) := by decide +kernel
theorem dX9_takes_128 : decode cX9_takes 128 = .ok (.iload_n 3, 1) := by decide +kernel
theorem dX9_takes_129 : decode cX9_takes 129 = .ok (.iload 4, 2) := by decide +kernel
theorem dX9_takes_131 : decode cX9_takes 131 = .ok (.invokevirtual 185, 3) := by decide +kernel
theorem dX9_takes_134 : decode cX9_takes 134 = .ok (.aload_n 0, 1) := by decide +kernel
theorem dX9_takes_135 : decode cX9_takes 135 = .ok (.iload 7, 2) := by decide +kernel
theorem dX9_takes_137 : decode cX9_takes 137 = .ok (.iload 8, 2) := by decide +kernel
theorem dX9_takes_139 : decode cX9_takes 139 = .ok (.iload_n 2, 1) := by decide +kernel
theorem dX9_takes_140 : decode cX9_takes 140 = .ok (.iload_n 3, 1) := by decide +kernel
theorem dX9_takes_141 : decode cX9_takes 141 = .ok (.iload 4, 2) := by decide +kernel
theorem dX9_takes_143 : decode cX9_takes 143 = .ok (.invokevirtual 185, 3) := by decide +kernel
theorem dX9_takes_146 : decode cX9_takes 146 = .ok (.if_icmp .le 7, 3) := by decide +kernel
theorem dX9_takes_149 : decode cX9_takes 149 = .ok (.iload 9, 2) := by decide +kernel
theorem dX9_takes_151 : decode cX9_takes 151 = .ok (.istore 8, 2) := by decide +kernel
theorem dX9_takes_153 : decode cX9_takes 153 = .ok (.iinc 9 1, 3) := by decide +kernel
theorem dX9_takes_156 : decode cX9_takes 156 = .ok (.goto (-62), 3) := by decide +kernel
theorem dX9_takes_159 : decode cX9_takes 159 = .ok (.aload_n 0, 1) := by decide +kernel
theorem dX9_takes_160 : decode cX9_takes 160 = .ok (.getfield 40, 3) := by decide +kernel
theorem dX9_takes_163 : decode cX9_takes 163 = .ok (.iload 8, 2) := by decide +kernel
theorem dX9_takes_165 : decode cX9_takes 165 = .ok (.iload 7, 2) := by decide +kernel
theorem dX9_takes_167 : decode cX9_takes 167 = .ok (.iastore, 1) := by decide +kernel
theorem dX9_takes_168 : decode cX9_takes 168 = .ok (.iinc 5 1, 3) := by decide +kernel
theorem dX9_takes_171 : decode cX9_takes 171 = .ok (.goto (-141), 3) := by decide +kernel
theorem dX9_takes_174 : decode cX9_takes 174 = .ok (.return_, 1) := by decide +kernel
theorem dX9_turns_0 : decode cX9_turns 0 = .ok (.iload_n 1, 1) := by decide +kernel
theorem dX9_turns_1 : decode cX9_turns 1 = .ok (.i2l, 1) := by decide +kernel
theorem dX9_turns_2 : decode cX9_turns 2 = .ok (.lconst 0, 1) := by decide +kernel
theorem dX9_turns_3 : decode cX9_turns 3 = .ok (.lconst 1, 1) := by decide +kernel
theorem dX9_turns_4 : decode cX9_turns 4 = .ok (.invokestatic 67, 3) := by decide +kernel
theorem dX9_turns_7 : decode cX9_turns 7 = .ok (.ifCond .ne 5, 3) := by decide +kernel
theorem dX9_turns_10 : decode cX9_turns 10 = .ok (.iconst (-1), 1) := by decide +kernel
theorem dX9_turns_11 : decode cX9_turns 11 = .ok (.ireturn, 1) := by decide +kernel
theorem dX9_turns_12 : decode cX9_turns 12 = .ok (.aload_n 0, 1) := by decide +kernel
theorem dX9_turns_13 : decode cX9_turns 13 = .ok (.getfield 143, 3) := by decide +kernel
theorem dX9_turns_16 : decode cX9_turns 16 = .ok (.ifCond .ne 6, 3) := by decide +kernel
theorem dX9_turns_19 : decode cX9_turns 19 = .ok (.bipush (-2), 2) := by decide +kernel
theorem dX9_turns_21 : decode cX9_turns 21 = .ok (.ireturn, 1) := by decide +kernel
theorem dX9_turns_22 : decode cX9_turns 22 = .ok (.aload_n 0, 1) := by decide +kernel
theorem dX9_turns_23 : decode cX9_turns 23 = .ok (.invokevirtual 189, 3) := by decide +kernel
theorem dX9_turns_26 : decode cX9_turns 26 = .ok (.aload_n 0, 1) := by decide +kernel
theorem dX9_turns_27 : decode cX9_turns 27 = .ok (.iload_n 1, 1) := by decide +kernel
theorem dX9_turns_28 : decode cX9_turns 28 = .ok (.bipush (-4), 2) := by decide +kernel
theorem dX9_turns_30 : decode cX9_turns 30 = .ok (.bipush (-4), 2) := by decide +kernel
theorem dX9_turns_32 : decode cX9_turns 32 = .ok (.iconst 0, 1) := by decide +kernel
theorem dX9_turns_33 : decode cX9_turns 33 = .ok (.invokevirtual 192, 3) := by decide +kernel
theorem dX9_turns_36 : decode cX9_turns 36 = .ok (.aload_n 0, 1) := by decide +kernel
theorem dX9_turns_37 : decode cX9_turns 37 = .ok (.invokevirtual 196, 3) := by decide +kernel
theorem dX9_turns_40 : decode cX9_turns 40 = .ok (.ireturn, 1) := by decide +kernel
theorem dX9_lie_0 : decode cX9_lie 0 = .ok (.iload_n 1, 1) := by decide +kernel
theorem dX9_lie_1 : decode cX9_lie 1 = .ok (.i2l, 1) := by decide +kernel
theorem dX9_lie_2 : decode cX9_lie 2 = .ok (.lconst 0, 1) := by decide +kernel
theorem dX9_lie_3 : decode cX9_lie 3 = .ok (.lconst 1, 1) := by decide +kernel
theorem dX9_lie_4 : decode cX9_lie 4 = .ok (.invokestatic 67, 3) := by decide +kernel
theorem dX9_lie_7 : decode cX9_lie 7 = .ok (.ifCond .eq 32, 3) := by decide +kernel
theorem dX9_lie_10 : decode cX9_lie 10 = .ok (.aload_n 0, 1) := by decide +kernel
theorem dX9_lie_11 : decode cX9_lie 11 = .ok (.iload_n 2, 1) := by decide +kernel
theorem dX9_lie_12 : decode cX9_lie 12 = .ok (.invokevirtual 157, 3) := by decide +kernel
theorem dX9_lie_15 : decode cX9_lie 15 = .ok (.ifCond .eq 24, 3) := by decide +kernel
theorem dX9_lie_18 : decode cX9_lie 18 = .ok (.aload_n 0, 1) := by decide +kernel
theorem dX9_lie_19 : decode cX9_lie 19 = .ok (.iload_n 3, 1) := by decide +kernel
theorem dX9_lie_20 : decode cX9_lie 20 = .ok (.invokevirtual 161, 3) := by decide +kernel
theorem dX9_lie_23 : decode cX9_lie 23 = .ok (.ifCond .eq 16, 3) := by decide +kernel
theorem dX9_lie_26 : decode cX9_lie 26 = .ok (.iload 4, 2) := by decide +kernel
theorem dX9_lie_28 : decode cX9_lie 28 = .ok (.i2l, 1) := by decide +kernel
theorem dX9_lie_29 : decode cX9_lie 29 = .ok (.lconst 0, 1) := by decide +kernel
theorem dX9_lie_30 : decode cX9_lie 30 = .ok (.ldc2_w 164, 3) := by decide +kernel
theorem dX9_lie_33 : decode cX9_lie 33 = .ok (.invokestatic 67, 3) := by decide +kernel
theorem dX9_lie_36 : decode cX9_lie 36 = .ok (.ifCond .ne 5, 3) := by decide +kernel
theorem dX9_lie_39 : decode cX9_lie 39 = .ok (.iconst (-1), 1) := by decide +kernel
theorem dX9_lie_40 : decode cX9_lie 40 = .ok (.ireturn, 1) := by decide +kernel
theorem dX9_lie_41 : decode cX9_lie 41 = .ok (.aload_n 0, 1) := by decide +kernel
theorem dX9_lie_42 : decode cX9_lie 42 = .ok (.invokevirtual 189, 3) := by decide +kernel
theorem dX9_lie_45 : decode cX9_lie 45 = .ok (.aload_n 0, 1) := by decide +kernel
theorem dX9_lie_46 : decode cX9_lie 46 = .ok (.iload_n 1, 1) := by decide +kernel
theorem dX9_lie_47 : decode cX9_lie 47 = .ok (.iload_n 2, 1) := by decide +kernel
theorem dX9_lie_48 : decode cX9_lie 48 = .ok (.iload_n 3, 1) := by decide +kernel
theorem dX9_lie_49 : decode cX9_lie 49 = .ok (.iload 4, 2) := by decide +kernel
theorem dX9_lie_51 : decode cX9_lie 51 = .ok (.invokevirtual 192, 3) := by decide +kernel
theorem dX9_lie_54 : decode cX9_lie 54 = .ok (.aload_n 0, 1) := by decide +kernel
theorem dX9_lie_55 : decode cX9_lie 55 = .ok (.invokevirtual 196, 3) := by decide +kernel
theorem dX9_lie_58 : decode cX9_lie 58 = .ok (.ireturn, 1) := by decide +kernel
theorem dX9_sumOf_0 : decode cX9_sumOf 0 = .ok (.iconst 0, 1) := by decide +kernel
theorem dX9_sumOf_1 : decode cX9_sumOf 1 = .ok (.istore_n 3, 1) := by decide +kernel
theorem dX9_sumOf_2 : decode cX9_sumOf 2 = .ok (.iconst 0, 1) := by decide +kernel
theorem dX9_sumOf_3 : decode cX9_sumOf 3 = .ok (.istore 4, 2) := by decide +kernel
theorem dX9_sumOf_5 : decode cX9_sumOf 5 = .ok (.iload 4, 2) := by decide +kernel
theorem dX9_sumOf_7 : decode cX9_sumOf 7 = .ok (.aload_n 0, 1) := by decide +kernel
theorem dX9_sumOf_8 : decode cX9_sumOf 8 = .ok (.getfield 182, 3) := by decide +kernel
theorem dX9_sumOf_11 : decode cX9_sumOf 11 = .ok (.if_icmp .ge 44, 3) := by decide +kernel
theorem dX9_sumOf_14 : decode cX9_sumOf 14 = .ok (.iload_n 3, 1) := by decide +kernel
theorem dX9_sumOf_15 : decode cX9_sumOf 15 = .ok (.aload_n 0, 1) := by decide +kernel
theorem dX9_sumOf_16 : decode cX9_sumOf 16 = .ok (.getfield 40, 3) := by decide +kernel
theorem dX9_sumOf_19 : decode cX9_sumOf 19 = .ok (.iload 4, 2) := by decide +kernel
theorem dX9_sumOf_21 : decode cX9_sumOf 21 = .ok (.iaload, 1) := by decide +kernel
theorem dX9_sumOf_22 : decode cX9_sumOf 22 = .ok (.iload_n 2, 1) := by decide +kernel
theorem dX9_sumOf_23 : decode cX9_sumOf 23 = .ok (.if_icmp .ne 23, 3) := by decide +kernel
theorem dX9_sumOf_26 : decode cX9_sumOf 26 = .ok (.aload_n 0, 1) := by decide +kernel
theorem dX9_sumOf_27 : decode cX9_sumOf 27 = .ok (.getfield 34, 3) := by decide +kernel
theorem dX9_sumOf_30 : decode cX9_sumOf 30 = .ok (.bipush 10, 2) := by decide +kernel
theorem dX9_sumOf_32 : decode cX9_sumOf 32 = .ok (.iload_n 1, 1) := by decide +kernel
theorem dX9_sumOf_33 : decode cX9_sumOf 33 = .ok (.imul, 1) := by decide +kernel
theorem dX9_sumOf_34 : decode cX9_sumOf 34 = .ok (.aload_n 0, 1) := by decide +kernel
theorem dX9_sumOf_35 : decode cX9_sumOf 35 = .ok (.getfield 37, 3) := by decide +kernel
theorem dX9_sumOf_38 : decode cX9_sumOf 38 = .ok (.iload 4, 2) := by decide +kernel
theorem dX9_sumOf_40 : decode cX9_sumOf 40 = .ok (.iaload, 1) := by decide +kernel
theorem dX9_sumOf_41 : decode cX9_sumOf 41 = .ok (.iadd, 1) := by decide +kernel
theorem dX9_sumOf_42 : decode cX9_sumOf 42 = .ok (.iaload, 1) := by decide +kernel
theorem dX9_sumOf_43 : decode cX9_sumOf 43 = .ok (.goto 4, 3) := by decide +kernel
theorem dX9_sumOf_46 : decode cX9_sumOf 46 = .ok (.iconst 0, 1) := by decide +kernel
theorem dX9_sumOf_47 : decode cX9_sumOf 47 = .ok (.iadd, 1) := by decide +kernel
theorem dX9_sumOf_48 : decode cX9_sumOf 48 = .ok (.istore_n 3, 1) := by decide +kernel
theorem dX9_sumOf_49 : decode cX9_sumOf 49 = .ok (.iinc 4 1, 3) := by decide +kernel
theorem dX9_sumOf_52 : decode cX9_sumOf 52 = .ok (.goto (-47), 3) := by decide +kernel
theorem dX9_sumOf_55 : decode cX9_sumOf 55 = .ok (.iload_n 3, 1) := by decide +kernel
theorem dX9_sumOf_56 : decode cX9_sumOf 56 = .ok (.ireturn, 1) := by decide +kernel
theorem dX9_gain_0 : decode cX9_gain 0 = .ok (.iload_n 1, 1) := by decide +kernel
theorem dX9_gain_1 : decode cX9_gain 1 = .ok (.i2l, 1) := by decide +kernel
theorem dX9_gain_2 : decode cX9_gain 2 = .ok (.lconst 0, 1) := by decide +kernel
theorem dX9_gain_3 : decode cX9_gain 3 = .ok (.lconst 1, 1) := by decide +kernel
theorem dX9_gain_4 : decode cX9_gain 4 = .ok (.invokestatic 67, 3) := by decide +kernel
theorem dX9_gain_7 : decode cX9_gain 7 = .ok (.ifCond .eq 11, 3) := by decide +kernel
theorem dX9_gain_10 : decode cX9_gain 10 = .ok (.aload_n 0, 1) := by decide +kernel
theorem dX9_gain_11 : decode cX9_gain 11 = .ok (.iload_n 2, 1) := by decide +kernel
theorem dX9_gain_12 : decode cX9_gain 12 = .ok (.invokevirtual 157, 3) := by decide +kernel
theorem dX9_gain_15 : decode cX9_gain 15 = .ok (.ifCond .ne 5, 3) := by decide +kernel
theorem dX9_gain_18 : decode cX9_gain 18 = .ok (.iconst (-1), 1) := by decide +kernel
theorem dX9_gain_19 : decode cX9_gain 19 = .ok (.ireturn, 1) := by decide +kernel
theorem dX9_gain_20 : decode cX9_gain 20 = .ok (.aload_n 0, 1) := by decide +kernel
theorem dX9_gain_21 : decode cX9_gain 21 = .ok (.invokevirtual 189, 3) := by decide +kernel
theorem dX9_gain_24 : decode cX9_gain 24 = .ok (.aload_n 0, 1) := by decide +kernel
theorem dX9_gain_25 : decode cX9_gain 25 = .ok (.iload_n 1, 1) := by decide +kernel
theorem dX9_gain_26 : decode cX9_gain 26 = .ok (.bipush (-4), 2) := by decide +kernel
theorem dX9_gain_28 : decode cX9_gain 28 = .ok (.bipush (-4), 2) := by decide +kernel
theorem dX9_gain_30 : decode cX9_gain 30 = .ok (.iconst 0, 1) := by decide +kernel
theorem dX9_gain_31 : decode cX9_gain 31 = .ok (.invokevirtual 192, 3) := by decide +kernel
theorem dX9_gain_34 : decode cX9_gain 34 = .ok (.aload_n 0, 1) := by decide +kernel
theorem dX9_gain_35 : decode cX9_gain 35 = .ok (.iload_n 2, 1) := by decide +kernel
theorem dX9_gain_36 : decode cX9_gain 36 = .ok (.iload_n 2, 1) := by decide +kernel
theorem dX9_gain_37 : decode cX9_gain 37 = .ok (.invokevirtual 199, 3) := by decide +kernel
theorem dX9_gain_40 : decode cX9_gain 40 = .ok (.istore_n 3, 1) := by decide +kernel
theorem dX9_gain_41 : decode cX9_gain 41 = .ok (.iconst 0, 1) := by decide +kernel
theorem dX9_gain_42 : decode cX9_gain 42 = .ok (.istore 4, 2) := by decide +kernel
theorem dX9_gain_44 : decode cX9_gain 44 = .ok (.iconst 0, 1) := by decide +kernel
theorem dX9_gain_45 : decode cX9_gain 45 = .ok (.istore 5, 2) := by decide +kernel
theorem dX9_gain_47 : decode cX9_gain 47 = .ok (.iload 5, 2) := by decide +kernel
theorem dX9_gain_49 : decode cX9_gain 49 = .ok (.aload_n 0, 1) := by decide +kernel
theorem dX9_gain_50 : decode cX9_gain 50 = .ok (.getfield 182, 3) := by decide +kernel
theorem dX9_gain_53 : decode cX9_gain 53 = .ok (.if_icmp .ge 66, 3) := by decide +kernel
theorem dX9_gain_56 : decode cX9_gain 56 = .ok (.iconst 0, 1) := by decide +kernel
theorem dX9_gain_57 : decode cX9_gain 57 = .ok (.istore 6, 2) := by decide +kernel
theorem dX9_gain_59 : decode cX9_gain 59 = .ok (.iload 6, 2) := by decide +kernel
theorem dX9_gain_61 : decode cX9_gain 61 = .ok (.bipush 101, 2) := by decide +kernel
theorem dX9_gain_63 : decode cX9_gain 63 = .ok (.if_icmp .ge 50, 3) := by decide +kernel
theorem dX9_gain_66 : decode cX9_gain 66 = .ok (.aload_n 0, 1) := by decide +kernel
theorem dX9_gain_67 : decode cX9_gain 67 = .ok (.iload_n 1, 1) := by decide +kernel
theorem dX9_gain_68 : decode cX9_gain 68 = .ok (.iload_n 2, 1) := by decide +kernel
theorem dX9_gain_69 : decode cX9_gain 69 = .ok (.aload_n 0, 1) := by decide +kernel
theorem dX9_gain_70 : decode cX9_gain 70 = .ok (.getfield 37, 3) := by decide +kernel
theorem dX9_gain_73 : decode cX9_gain 73 = .ok (.iload 5, 2) := by decide +kernel
theorem dX9_gain_75 : decode cX9_gain 75 = .ok (.iaload, 1) := by decide +kernel
theorem dX9_gain_76 : decode cX9_gain 76 = .ok (.iload 6, 2) := by decide +kernel
theorem dX9_gain_78 : decode cX9_gain 78 = .ok (.invokevirtual 192, 3) := by decide +kernel
theorem dX9_gain_81 : decode cX9_gain 81 = .ok (.aload_n 0, 1) := by decide +kernel
theorem dX9_gain_82 : decode cX9_gain 82 = .ok (.iload_n 2, 1) := by decide +kernel
theorem dX9_gain_83 : decode cX9_gain 83 = .ok (.iload_n 2, 1) := by decide +kernel
theorem dX9_gain_84 : decode cX9_gain 84 = .ok (.invokevirtual 199, 3) := by decide +kernel
theorem dX9_gain_87 : decode cX9_gain 87 = .ok (.iload_n 3, 1) := by decide +kernel
theorem dX9_gain_88 : decode cX9_gain 88 = .ok (.isub, 1) := by decide +kernel
theorem dX9_gain_89 : decode cX9_gain 89 = .ok (.istore 7, 2) := by decide +kernel
theorem dX9_gain_91 : decode cX9_gain 91 = .ok (.iload 7, 2) := by decide +kernel
theorem dX9_gain_93 : decode cX9_gain 93 = .ok (.iload 4, 2) := by decide +kernel
theorem dX9_gain_95 : decode cX9_gain 95 = .ok (.if_icmp .le 8, 3) := by decide +kernel
theorem dX9_gain_98 : decode cX9_gain 98 = .ok (.iload 7, 2) := by decide +kernel
theorem dX9_gain_100 : decode cX9_gain 100 = .ok (.goto 5, 3) := by decide +kernel
theorem dX9_gain_103 : decode cX9_gain 103 = .ok (.iload 4, 2) := by decide +kernel
theorem dX9_gain_105 : decode cX9_gain 105 = .ok (.istore 4, 2) := by decide +kernel
theorem dX9_gain_107 : decode cX9_gain 107 = .ok (.iinc 6 1, 3) := by decide +kernel
theorem dX9_gain_110 : decode cX9_gain 110 = .ok (.goto (-51), 3) := by decide +kernel
theorem dX9_gain_113 : decode cX9_gain 113 = .ok (.iinc 5 1, 3) := by decide +kernel
theorem dX9_gain_116 : decode cX9_gain 116 = .ok (.goto (-69), 3) := by decide +kernel
theorem dX9_gain_119 : decode cX9_gain 119 = .ok (.iload 4, 2) := by decide +kernel
theorem dX9_gain_121 : decode cX9_gain 121 = .ok (.ireturn, 1) := by decide +kernel
theorem dX9_isSharing_0 : decode cX9_isSharing 0 = .ok (.aload_n 0, 1) := by decide +kernel
theorem dX9_isSharing_1 : decode cX9_isSharing 1 = .ok (.invokevirtual 189, 3) := by decide +kernel
theorem dX9_isSharing_4 : decode cX9_isSharing 4 = .ok (.aload_n 0, 1) := by decide +kernel
theorem dX9_isSharing_5 : decode cX9_isSharing 5 = .ok (.getfield 143, 3) := by decide +kernel
theorem dX9_isSharing_8 : decode cX9_isSharing 8 = .ok (.ifCond .eq 19, 3) := by decide +kernel
theorem dX9_isSharing_11 : decode cX9_isSharing 11 = .ok (.iload_n 1, 1) := by decide +kernel
theorem dX9_isSharing_12 : decode cX9_isSharing 12 = .ok (.i2l, 1) := by decide +kernel
theorem dX9_isSharing_13 : decode cX9_isSharing 13 = .ok (.lconst 0, 1) := by decide +kernel
theorem dX9_isSharing_14 : decode cX9_isSharing 14 = .ok (.aload_n 0, 1) := by decide +kernel
theorem dX9_isSharing_15 : decode cX9_isSharing 15 = .ok (.invokevirtual 203, 3) := by decide +kernel
theorem dX9_isSharing_18 : decode cX9_isSharing 18 = .ok (.iconst 1, 1) := by decide +kernel
theorem dX9_isSharing_19 : decode cX9_isSharing 19 = .ok (.isub, 1) := by decide +kernel
theorem dX9_isSharing_20 : decode cX9_isSharing 20 = .ok (.i2l, 1) := by decide +kernel
theorem dX9_isSharing_21 : decode cX9_isSharing 21 = .ok (.invokestatic 67, 3) := by decide +kernel
theorem dX9_isSharing_24 : decode cX9_isSharing 24 = .ok (.ifCond .ne 5, 3) := by decide +kernel
theorem dX9_isSharing_27 : decode cX9_isSharing 27 = .ok (.iconst 0, 1) := by decide +kernel
theorem dX9_isSharing_28 : decode cX9_isSharing 28 = .ok (.ireturn, 1) := by decide +kernel
theorem dX9_isSharing_29 : decode cX9_isSharing 29 = .ok (.aload_n 0, 1) := by decide +kernel
theorem dX9_isSharing_30 : decode cX9_isSharing 30 = .ok (.iload_n 1, 1) := by decide +kernel
theorem dX9_isSharing_31 : decode cX9_isSharing 31 = .ok (.invokevirtual 206, 3) := by decide +kernel
theorem dX9_isSharing_34 : decode cX9_isSharing 34 = .ok (.iconst 1, 1) := by decide +kernel
theorem dX9_isSharing_35 : decode cX9_isSharing 35 = .ok (.ireturn, 1) := by decide +kernel
theorem dX9_sum_0 : decode cX9_sum 0 = .ok (.aload_n 0, 1) := by decide +kernel
theorem dX9_sum_1 : decode cX9_sum 1 = .ok (.iload_n 2, 1) := by decide +kernel
theorem dX9_sum_2 : decode cX9_sum 2 = .ok (.invokevirtual 157, 3) := by decide +kernel
theorem dX9_sum_5 : decode cX9_sum 5 = .ok (.ifCond .eq 28, 3) := by decide +kernel
theorem dX9_sum_8 : decode cX9_sum 8 = .ok (.aload_n 0, 1) := by decide +kernel
theorem dX9_sum_9 : decode cX9_sum 9 = .ok (.iload_n 3, 1) := by decide +kernel
theorem dX9_sum_10 : decode cX9_sum 10 = .ok (.invokevirtual 157, 3) := by decide +kernel
theorem dX9_sum_13 : decode cX9_sum 13 = .ok (.ifCond .eq 20, 3) := by decide +kernel
theorem dX9_sum_16 : decode cX9_sum 16 = .ok (.aload_n 0, 1) := by decide +kernel
theorem dX9_sum_17 : decode cX9_sum 17 = .ok (.iload_n 1, 1) := by decide +kernel
theorem dX9_sum_18 : decode cX9_sum 18 = .ok (.invokevirtual 209, 3) := by decide +kernel
theorem dX9_sum_21 : decode cX9_sum 21 = .ok (.ifCond .eq 12, 3) := by decide +kernel
theorem dX9_sum_24 : decode cX9_sum 24 = .ok (.aload_n 0, 1) := by decide +kernel
theorem dX9_sum_25 : decode cX9_sum 25 = .ok (.iload_n 2, 1) := by decide +kernel
theorem dX9_sum_26 : decode cX9_sum 26 = .ok (.iload_n 3, 1) := by decide +kernel
theorem dX9_sum_27 : decode cX9_sum 27 = .ok (.invokevirtual 199, 3) := by decide +kernel
theorem dX9_sum_30 : decode cX9_sum 30 = .ok (.goto 4, 3) := by decide +kernel
theorem dX9_sum_33 : decode cX9_sum 33 = .ok (.iconst (-1), 1) := by decide +kernel
theorem dX9_sum_34 : decode cX9_sum 34 = .ok (.ireturn, 1) := by decide +kernel
theorem dX9_envyOf_0 : decode cX9_envyOf 0 = .ok (.aload_n 0, 1) := by decide +kernel
theorem dX9_envyOf_1 : decode cX9_envyOf 1 = .ok (.iload_n 1, 1) := by decide +kernel
theorem dX9_envyOf_2 : decode cX9_envyOf 2 = .ok (.iload_n 1, 1) := by decide +kernel
theorem dX9_envyOf_3 : decode cX9_envyOf 3 = .ok (.invokevirtual 199, 3) := by decide +kernel
theorem dX9_envyOf_6 : decode cX9_envyOf 6 = .ok (.istore_n 3, 1) := by decide +kernel
theorem dX9_envyOf_7 : decode cX9_envyOf 7 = .ok (.aload_n 0, 1) := by decide +kernel
theorem dX9_envyOf_8 : decode cX9_envyOf 8 = .ok (.iload_n 1, 1) := by decide +kernel
theorem dX9_envyOf_9 : decode cX9_envyOf 9 = .ok (.iload_n 2, 1) := by decide +kernel
theorem dX9_envyOf_10 : decode cX9_envyOf 10 = .ok (.invokevirtual 199, 3) := by decide +kernel
theorem dX9_envyOf_13 : decode cX9_envyOf 13 = .ok (.istore 4, 2) := by decide +kernel
theorem dX9_envyOf_15 : decode cX9_envyOf 15 = .ok (.iconst 0, 1) := by decide +kernel
theorem dX9_envyOf_16 : decode cX9_envyOf 16 = .ok (.istore 5, 2) := by decide +kernel
theorem dX9_envyOf_18 : decode cX9_envyOf 18 = .ok (.iconst 0, 1) := by decide +kernel
theorem dX9_envyOf_19 : decode cX9_envyOf 19 = .ok (.istore 6, 2) := by decide +kernel
theorem dX9_envyOf_21 : decode cX9_envyOf 21 = .ok (.iload 6, 2) := by decide +kernel
theorem dX9_envyOf_23 : decode cX9_envyOf 23 = .ok (.aload_n 0, 1) := by decide +kernel
theorem dX9_envyOf_24 : decode cX9_envyOf 24 = .ok (.getfield 182, 3) := by decide +kernel
theorem dX9_envyOf_27 : decode cX9_envyOf 27 = .ok (.if_icmp .ge 55, 3) := by decide +kernel
theorem dX9_envyOf_30 : decode cX9_envyOf 30 = .ok (.aload_n 0, 1) := by decide +kernel
theorem dX9_envyOf_31 : decode cX9_envyOf 31 = .ok (.getfield 34, 3) := by decide +kernel
theorem dX9_envyOf_34 : decode cX9_envyOf 34 = .ok (.bipush 10, 2) := by decide +kernel
theorem dX9_envyOf_36 : decode cX9_envyOf 36 = .ok (.iload_n 1, 1) := by decide +kernel
theorem dX9_envyOf_37 : decode cX9_envyOf 37 = .ok (.imul, 1) := by decide +kernel
theorem dX9_envyOf_38 : decode cX9_envyOf 38 = .ok (.aload_n 0, 1) := by decide +kernel
theorem dX9_envyOf_39 : decode cX9_envyOf 39 = .ok (.getfield 37, 3) := by decide +kernel
theorem dX9_envyOf_42 : decode cX9_envyOf 42 = .ok (.iload 6, 2) := by decide +kernel
theorem dX9_envyOf_44 : decode cX9_envyOf 44 = .ok (.iaload, 1) := by decide +kernel
theorem dX9_envyOf_45 : decode cX9_envyOf 45 = .ok (.iadd, 1) := by decide +kernel
theorem dX9_envyOf_46 : decode cX9_envyOf 46 = .ok (.iaload, 1) := by decide +kernel
theorem dX9_envyOf_47 : decode cX9_envyOf 47 = .ok (.istore 7, 2) := by decide +kernel
theorem dX9_envyOf_49 : decode cX9_envyOf 49 = .ok (.aload_n 0, 1) := by decide +kernel
theorem dX9_envyOf_50 : decode cX9_envyOf 50 = .ok (.getfield 40, 3) := by decide +kernel
theorem dX9_envyOf_53 : decode cX9_envyOf 53 = .ok (.iload 6, 2) := by decide +kernel
theorem dX9_envyOf_55 : decode cX9_envyOf 55 = .ok (.iaload, 1) := by decide +kernel
theorem dX9_envyOf_56 : decode cX9_envyOf 56 = .ok (.iload_n 2, 1) := by decide +kernel
theorem dX9_envyOf_57 : decode cX9_envyOf 57 = .ok (.if_icmp .ne 15, 3) := by decide +kernel
theorem dX9_envyOf_60 : decode cX9_envyOf 60 = .ok (.iload 7, 2) := by decide +kernel
theorem dX9_envyOf_62 : decode cX9_envyOf 62 = .ok (.iload 5, 2) := by decide +kernel
theorem dX9_envyOf_64 : decode cX9_envyOf 64 = .ok (.if_icmp .le 8, 3) := by decide +kernel
theorem dX9_envyOf_67 : decode cX9_envyOf 67 = .ok (.iload 7, 2) := by decide +kernel
theorem dX9_envyOf_69 : decode cX9_envyOf 69 = .ok (.goto 5, 3) := by decide +kernel
theorem dX9_envyOf_72 : decode cX9_envyOf 72 = .ok (.iload 5, 2) := by decide +kernel
theorem dX9_envyOf_74 : decode cX9_envyOf 74 = .ok (.istore 5, 2) := by decide +kernel
theorem dX9_envyOf_76 : decode cX9_envyOf 76 = .ok (.iinc 6 1, 3) := by decide +kernel
theorem dX9_envyOf_79 : decode cX9_envyOf 79 = .ok (.goto (-58), 3) := by decide +kernel
theorem dX9_envyOf_82 : decode cX9_envyOf 82 = .ok (.iload 4, 2) := by decide +kernel
theorem dX9_envyOf_84 : decode cX9_envyOf 84 = .ok (.iload_n 3, 1) := by decide +kernel
theorem dX9_envyOf_85 : decode cX9_envyOf 85 = .ok (.if_icmp .gt 7, 3) := by decide +kernel
theorem dX9_envyOf_88 : decode cX9_envyOf 88 = .ok (.iconst 0, 1) := by decide +kernel
theorem dX9_envyOf_89 : decode cX9_envyOf 89 = .ok (.goto 17, 3) := by decide +kernel
theorem dX9_envyOf_92 : decode cX9_envyOf 92 = .ok (.iload 4, 2) := by decide +kernel
theorem dX9_envyOf_94 : decode cX9_envyOf 94 = .ok (.iload 5, 2) := by decide +kernel
theorem dX9_envyOf_96 : decode cX9_envyOf 96 = .ok (.isub, 1) := by decide +kernel
theorem dX9_envyOf_97 : decode cX9_envyOf 97 = .ok (.iload_n 3, 1) := by decide +kernel
theorem dX9_envyOf_98 : decode cX9_envyOf 98 = .ok (.if_icmp .gt 7, 3) := by decide +kernel
theorem dX9_envyOf_101 : decode cX9_envyOf 101 = .ok (.iconst 1, 1) := by decide +kernel
theorem dX9_envyOf_102 : decode cX9_envyOf 102 = .ok (.goto 4, 3) := by decide +kernel
theorem dX9_envyOf_105 : decode cX9_envyOf 105 = .ok (.iconst 2, 1) := by decide +kernel
theorem dX9_envyOf_106 : decode cX9_envyOf 106 = .ok (.ireturn, 1) := by decide +kernel
theorem dX9_envies_0 : decode cX9_envies 0 = .ok (.aload_n 0, 1) := by decide +kernel
theorem dX9_envies_1 : decode cX9_envies 1 = .ok (.iload_n 2, 1) := by decide +kernel
theorem dX9_envies_2 : decode cX9_envies 2 = .ok (.invokevirtual 157, 3) := by decide +kernel
theorem dX9_envies_5 : decode cX9_envies 5 = .ok (.ifCond .eq 33, 3) := by decide +kernel
theorem dX9_envies_8 : decode cX9_envies 8 = .ok (.aload_n 0, 1) := by decide +kernel
theorem dX9_envies_9 : decode cX9_envies 9 = .ok (.iload_n 3, 1) := by decide +kernel
theorem dX9_envies_10 : decode cX9_envies 10 = .ok (.invokevirtual 157, 3) := by decide +kernel
theorem dX9_envies_13 : decode cX9_envies 13 = .ok (.ifCond .eq 25, 3) := by decide +kernel
theorem dX9_envies_16 : decode cX9_envies 16 = .ok (.iload_n 2, 1) := by decide +kernel
theorem dX9_envies_17 : decode cX9_envies 17 = .ok (.iload_n 3, 1) := by decide +kernel
theorem dX9_envies_18 : decode cX9_envies 18 = .ok (.if_icmp .eq 20, 3) := by decide +kernel
theorem dX9_envies_21 : decode cX9_envies 21 = .ok (.aload_n 0, 1) := by decide +kernel
theorem dX9_envies_22 : decode cX9_envies 22 = .ok (.iload_n 1, 1) := by decide +kernel
theorem dX9_envies_23 : decode cX9_envies 23 = .ok (.invokevirtual 209, 3) := by decide +kernel
theorem dX9_envies_26 : decode cX9_envies 26 = .ok (.ifCond .eq 12, 3) := by decide +kernel
theorem dX9_envies_29 : decode cX9_envies 29 = .ok (.aload_n 0, 1) := by decide +kernel
theorem dX9_envies_30 : decode cX9_envies 30 = .ok (.iload_n 2, 1) := by decide +kernel
theorem dX9_envies_31 : decode cX9_envies 31 = .ok (.iload_n 3, 1) := by decide +kernel
theorem dX9_envies_32 : decode cX9_envies 32 = .ok (.invokevirtual 212, 3) := by decide +kernel
theorem dX9_envies_35 : decode cX9_envies 35 = .ok (.goto 4, 3) := by decide +kernel
theorem dX9_envies_38 : decode cX9_envies 38 = .ok (.iconst (-1), 1) := by decide +kernel
theorem dX9_envies_39 : decode cX9_envies 39 = .ok (.ireturn, 1) := by decide +kernel
theorem dX9_envy_0 : decode cX9_envy 0 = .ok (.aload_n 0, 1) := by decide +kernel
theorem dX9_envy_1 : decode cX9_envy 1 = .ok (.iload_n 1, 1) := by decide +kernel
theorem dX9_envy_2 : decode cX9_envy 2 = .ok (.invokevirtual 209, 3) := by decide +kernel
theorem dX9_envy_5 : decode cX9_envy 5 = .ok (.ifCond .ne 5, 3) := by decide +kernel
theorem dX9_envy_8 : decode cX9_envy 8 = .ok (.iconst (-1), 1) := by decide +kernel
theorem dX9_envy_9 : decode cX9_envy 9 = .ok (.ireturn, 1) := by decide +kernel
theorem dX9_envy_10 : decode cX9_envy 10 = .ok (.iconst 0, 1) := by decide +kernel
theorem dX9_envy_11 : decode cX9_envy 11 = .ok (.istore_n 2, 1) := by decide +kernel
theorem dX9_envy_12 : decode cX9_envy 12 = .ok (.iconst 0, 1) := by decide +kernel
theorem dX9_envy_13 : decode cX9_envy 13 = .ok (.istore_n 3, 1) := by decide +kernel
theorem dX9_envy_14 : decode cX9_envy 14 = .ok (.iload_n 3, 1) := by decide +kernel
theorem dX9_envy_15 : decode cX9_envy 15 = .ok (.aload_n 0, 1) := by decide +kernel
theorem dX9_envy_16 : decode cX9_envy 16 = .ok (.getfield 143, 3) := by decide +kernel
theorem dX9_envy_19 : decode cX9_envy 19 = .ok (.if_icmp .ge 51, 3) := by decide +kernel
theorem dX9_envy_22 : decode cX9_envy 22 = .ok (.iconst 0, 1) := by decide +kernel
theorem dX9_envy_23 : decode cX9_envy 23 = .ok (.istore 4, 2) := by decide +kernel
theorem dX9_envy_25 : decode cX9_envy 25 = .ok (.iload 4, 2) := by decide +kernel
theorem dX9_envy_27 : decode cX9_envy 27 = .ok (.aload_n 0, 1) := by decide +kernel
theorem dX9_envy_28 : decode cX9_envy 28 = .ok (.getfield 143, 3) := by decide +kernel
theorem dX9_envy_31 : decode cX9_envy 31 = .ok (.if_icmp .ge 33, 3) := by decide +kernel
theorem dX9_envy_34 : decode cX9_envy 34 = .ok (.iload_n 2, 1) := by decide +kernel
theorem dX9_envy_35 : decode cX9_envy 35 = .ok (.iload_n 3, 1) := by decide +kernel
theorem dX9_envy_36 : decode cX9_envy 36 = .ok (.iload 4, 2) := by decide +kernel
theorem dX9_envy_38 : decode cX9_envy 38 = .ok (.if_icmp .eq 17, 3) := by decide +kernel
theorem dX9_envy_41 : decode cX9_envy 41 = .ok (.aload_n 0, 1) := by decide +kernel
theorem dX9_envy_42 : decode cX9_envy 42 = .ok (.iload_n 3, 1) := by decide +kernel
theorem dX9_envy_43 : decode cX9_envy 43 = .ok (.iload 4, 2) := by decide +kernel
theorem dX9_envy_45 : decode cX9_envy 45 = .ok (.invokevirtual 212, 3) := by decide +kernel
theorem dX9_envy_48 : decode cX9_envy 48 = .ok (.ifCond .le 7, 3) := by decide +kernel
theorem dX9_envy_51 : decode cX9_envy 51 = .ok (.iconst 1, 1) := by decide +kernel
theorem dX9_envy_52 : decode cX9_envy 52 = .ok (.goto 4, 3) := by decide +kernel
theorem dX9_envy_55 : decode cX9_envy 55 = .ok (.iconst 0, 1) := by decide +kernel
theorem dX9_envy_56 : decode cX9_envy 56 = .ok (.iadd, 1) := by decide +kernel
theorem dX9_envy_57 : decode cX9_envy 57 = .ok (.istore_n 2, 1) := by decide +kernel
theorem dX9_envy_58 : decode cX9_envy 58 = .ok (.iinc 4 1, 3) := by decide +kernel
theorem dX9_envy_61 : decode cX9_envy 61 = .ok (.goto (-36), 3) := by decide +kernel
theorem dX9_envy_64 : decode cX9_envy 64 = .ok (.iinc 3 1, 3) := by decide +kernel
