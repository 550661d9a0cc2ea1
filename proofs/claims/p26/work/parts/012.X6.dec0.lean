theorem dX6_init_0 : decode cX6_init 0 = .ok (.aload_n 0, 1) := by decide +kernel
theorem dX6_init_1 : decode cX6_init 1 = .ok (.invokespecial 3, 3) := by decide +kernel
theorem dX6_init_4 : decode cX6_init 4 = .ok (.aload_n 0, 1) := by decide +kernel
theorem dX6_init_5 : decode cX6_init 5 = .ok (.aload_n 1, 1) := by decide +kernel
theorem dX6_init_6 : decode cX6_init 6 = .ok (.putfield 9, 3) := by decide +kernel
theorem dX6_init_9 : decode cX6_init 9 = .ok (.return_, 1) := by decide +kernel
theorem dX6_rewind_0 : decode cX6_rewind 0 = .ok (.aload_n 0, 1) := by decide +kernel
theorem dX6_rewind_1 : decode cX6_rewind 1 = .ok (.iconst 0, 1) := by decide +kernel
theorem dX6_rewind_2 : decode cX6_rewind 2 = .ok (.putfield 15, 3) := by decide +kernel
theorem dX6_rewind_5 : decode cX6_rewind 5 = .ok (.return_, 1) := by decide +kernel
theorem dX6_advance_0 : decode cX6_advance 0 = .ok (.aload_n 0, 1) := by decide +kernel
theorem dX6_advance_1 : decode cX6_advance 1 = .ok (.aload_n 0, 1) := by decide +kernel
theorem dX6_advance_2 : decode cX6_advance 2 = .ok (.aload_n 0, 1) := by decide +kernel
theorem dX6_advance_3 : decode cX6_advance 3 = .ok (.getfield 15, 3) := by decide +kernel
theorem dX6_advance_6 : decode cX6_advance 6 = .ok (.bipush 32, 2) := by decide +kernel
theorem dX6_advance_8 : decode cX6_advance 8 = .ok (.bipush 32, 2) := by decide +kernel
theorem dX6_advance_10 : decode cX6_advance 10 = .ok (.invokevirtual 19, 3) := by decide +kernel
theorem dX6_advance_13 : decode cX6_advance 13 = .ok (.putfield 15, 3) := by decide +kernel
theorem dX6_advance_16 : decode cX6_advance 16 = .ok (.aload_n 0, 1) := by decide +kernel
theorem dX6_advance_17 : decode cX6_advance 17 = .ok (.aload_n 0, 1) := by decide +kernel
theorem dX6_advance_18 : decode cX6_advance 18 = .ok (.getfield 15, 3) := by decide +kernel
theorem dX6_advance_21 : decode cX6_advance 21 = .ok (.putfield 23, 3) := by decide +kernel
theorem dX6_advance_24 : decode cX6_advance 24 = .ok (.aload_n 0, 1) := by decide +kernel
theorem dX6_advance_25 : decode cX6_advance 25 = .ok (.getfield 15, 3) := by decide +kernel
theorem dX6_advance_28 : decode cX6_advance 28 = .ok (.aload_n 0, 1) := by decide +kernel
theorem dX6_advance_29 : decode cX6_advance 29 = .ok (.getfield 9, 3) := by decide +kernel
theorem dX6_advance_32 : decode cX6_advance 32 = .ok (.getfield 26, 3) := by decide +kernel
theorem dX6_advance_35 : decode cX6_advance 35 = .ok (.if_icmp .lt 11, 3) := by decide +kernel
theorem dX6_advance_38 : decode cX6_advance 38 = .ok (.aload_n 0, 1) := by decide +kernel
theorem dX6_advance_39 : decode cX6_advance 39 = .ok (.iconst 0, 1) := by decide +kernel
theorem dX6_advance_40 : decode cX6_advance 40 = .ok (.putfield 31, 3) := by decide +kernel
theorem dX6_advance_43 : decode cX6_advance 43 = .ok (.goto 94, 3) := by decide +kernel
theorem dX6_advance_46 : decode cX6_advance 46 = .ok (.aload_n 0, 1) := by decide +kernel
theorem dX6_advance_47 : decode cX6_advance 47 = .ok (.getfield 9, 3) := by decide +kernel
theorem dX6_advance_50 : decode cX6_advance 50 = .ok (.aload_n 0, 1) := by decide +kernel
theorem dX6_advance_51 : decode cX6_advance 51 = .ok (.getfield 15, 3) := by decide +kernel
theorem dX6_advance_54 : decode cX6_advance 54 = .ok (.bipush 97, 2) := by decide +kernel
theorem dX6_advance_56 : decode cX6_advance 56 = .ok (.bipush 122, 2) := by decide +kernel
theorem dX6_advance_58 : decode cX6_advance 58 = .ok (.invokevirtual 34, 3) := by decide +kernel
theorem dX6_advance_61 : decode cX6_advance 61 = .ok (.ifCond .eq 10, 3) := by decide +kernel
theorem dX6_advance_64 : decode cX6_advance 64 = .ok (.aload_n 0, 1) := by decide +kernel
theorem dX6_advance_65 : decode cX6_advance 65 = .ok (.invokevirtual 38, 3) := by decide +kernel
theorem dX6_advance_68 : decode cX6_advance 68 = .ok (.goto 69, 3) := by decide +kernel
theorem dX6_advance_71 : decode cX6_advance 71 = .ok (.aload_n 0, 1) := by decide +kernel
theorem dX6_advance_72 : decode cX6_advance 72 = .ok (.getfield 9, 3) := by decide +kernel
theorem dX6_advance_75 : decode cX6_advance 75 = .ok (.aload_n 0, 1) := by decide +kernel
theorem dX6_advance_76 : decode cX6_advance 76 = .ok (.getfield 15, 3) := by decide +kernel
theorem dX6_advance_79 : decode cX6_advance 79 = .ok (.bipush 48, 2) := by decide +kernel
theorem dX6_advance_81 : decode cX6_advance 81 = .ok (.bipush 57, 2) := by decide +kernel
theorem dX6_advance_83 : decode cX6_advance 83 = .ok (.invokevirtual 34, 3) := by decide +kernel
theorem dX6_advance_86 : decode cX6_advance 86 = .ok (.ifCond .eq 10, 3) := by decide +kernel
theorem dX6_advance_89 : decode cX6_advance 89 = .ok (.aload_n 0, 1) := by decide +kernel
theorem dX6_advance_90 : decode cX6_advance 90 = .ok (.invokevirtual 41, 3) := by decide +kernel
theorem dX6_advance_93 : decode cX6_advance 93 = .ok (.goto 44, 3) := by decide +kernel
theorem dX6_advance_96 : decode cX6_advance 96 = .ok (.aload_n 0, 1) := by decide +kernel
theorem dX6_advance_97 : decode cX6_advance 97 = .ok (.getfield 9, 3) := by decide +kernel
theorem dX6_advance_100 : decode cX6_advance 100 = .ok (.aload_n 0, 1) := by decide +kernel
theorem dX6_advance_101 : decode cX6_advance 101 = .ok (.getfield 15, 3) := by decide +kernel
theorem dX6_advance_104 : decode cX6_advance 104 = .ok (.bipush 59, 2) := by decide +kernel
theorem dX6_advance_106 : decode cX6_advance 106 = .ok (.bipush 59, 2) := by decide +kernel
theorem dX6_advance_108 : decode cX6_advance 108 = .ok (.invokevirtual 34, 3) := by decide +kernel
theorem dX6_advance_111 : decode cX6_advance 111 = .ok (.ifCond .eq 21, 3) := by decide +kernel
theorem dX6_advance_114 : decode cX6_advance 114 = .ok (.aload_n 0, 1) := by decide +kernel
theorem dX6_advance_115 : decode cX6_advance 115 = .ok (.iconst 3, 1) := by decide +kernel
theorem dX6_advance_116 : decode cX6_advance 116 = .ok (.putfield 31, 3) := by decide +kernel
theorem dX6_advance_119 : decode cX6_advance 119 = .ok (.aload_n 0, 1) := by decide +kernel
theorem dX6_advance_120 : decode cX6_advance 120 = .ok (.dup, 1) := by decide +kernel
theorem dX6_advance_121 : decode cX6_advance 121 = .ok (.getfield 15, 3) := by decide +kernel
theorem dX6_advance_124 : decode cX6_advance 124 = .ok (.iconst 1, 1) := by decide +kernel
theorem dX6_advance_125 : decode cX6_advance 125 = .ok (.iadd, 1) := by decide +kernel
theorem dX6_advance_126 : decode cX6_advance 126 = .ok (.putfield 15, 3) := by decide +kernel
theorem dX6_advance_129 : decode cX6_advance 129 = .ok (.goto 8, 3) := by decide +kernel
theorem dX6_advance_132 : decode cX6_advance 132 = .ok (.aload_n 0, 1) := by decide +kernel
theorem dX6_advance_133 : decode cX6_advance 133 = .ok (.iconst 4, 1) := by decide +kernel
theorem dX6_advance_134 : decode cX6_advance 134 = .ok (.putfield 31, 3) := by decide +kernel
theorem dX6_advance_137 : decode cX6_advance 137 = .ok (.return_, 1) := by decide +kernel
theorem dX6_placeBehind_0 : decode cX6_placeBehind 0 = .ok (.iload_n 1, 1) := by decide +kernel
theorem dX6_placeBehind_1 : decode cX6_placeBehind 1 = .ok (.istore 4, 2) := by decide +kernel
theorem dX6_placeBehind_3 : decode cX6_placeBehind 3 = .ok (.iload 4, 2) := by decide +kernel
theorem dX6_placeBehind_5 : decode cX6_placeBehind 5 = .ok (.aload_n 0, 1) := by decide +kernel
theorem dX6_placeBehind_6 : decode cX6_placeBehind 6 = .ok (.getfield 9, 3) := by decide +kernel
theorem dX6_placeBehind_9 : decode cX6_placeBehind 9 = .ok (.getfield 26, 3) := by decide +kernel
theorem dX6_placeBehind_12 : decode cX6_placeBehind 12 = .ok (.if_icmp .ge 23, 3) := by decide +kernel
theorem dX6_placeBehind_15 : decode cX6_placeBehind 15 = .ok (.aload_n 0, 1) := by decide +kernel
theorem dX6_placeBehind_16 : decode cX6_placeBehind 16 = .ok (.getfield 9, 3) := by decide +kernel
theorem dX6_placeBehind_19 : decode cX6_placeBehind 19 = .ok (.iload 4, 2) := by decide +kernel
theorem dX6_placeBehind_21 : decode cX6_placeBehind 21 = .ok (.iload_n 2, 1) := by decide +kernel
theorem dX6_placeBehind_22 : decode cX6_placeBehind 22 = .ok (.iload_n 3, 1) := by decide +kernel
theorem dX6_placeBehind_23 : decode cX6_placeBehind 23 = .ok (.invokevirtual 34, 3) := by decide +kernel
theorem dX6_placeBehind_26 : decode cX6_placeBehind 26 = .ok (.ifCond .eq 9, 3) := by decide +kernel
theorem dX6_placeBehind_29 : decode cX6_placeBehind 29 = .ok (.iinc 4 1, 3) := by decide +kernel
theorem dX6_placeBehind_32 : decode cX6_placeBehind 32 = .ok (.goto (-29), 3) := by decide +kernel
theorem dX6_placeBehind_35 : decode cX6_placeBehind 35 = .ok (.iload 4, 2) := by decide +kernel
theorem dX6_placeBehind_37 : decode cX6_placeBehind 37 = .ok (.ireturn, 1) := by decide +kernel
theorem dX6_readName_0 : decode cX6_readName 0 = .ok (.aload_n 0, 1) := by decide +kernel
theorem dX6_readName_1 : decode cX6_readName 1 = .ok (.aload_n 0, 1) := by decide +kernel
theorem dX6_readName_2 : decode cX6_readName 2 = .ok (.aload_n 0, 1) := by decide +kernel
theorem dX6_readName_3 : decode cX6_readName 3 = .ok (.getfield 23, 3) := by decide +kernel
theorem dX6_readName_6 : decode cX6_readName 6 = .ok (.bipush 97, 2) := by decide +kernel
theorem dX6_readName_8 : decode cX6_readName 8 = .ok (.bipush 122, 2) := by decide +kernel
theorem dX6_readName_10 : decode cX6_readName 10 = .ok (.invokevirtual 19, 3) := by decide +kernel
theorem dX6_readName_13 : decode cX6_readName 13 = .ok (.putfield 15, 3) := by decide +kernel
theorem dX6_readName_16 : decode cX6_readName 16 = .ok (.aload_n 0, 1) := by decide +kernel
theorem dX6_readName_17 : decode cX6_readName 17 = .ok (.iconst 4, 1) := by decide +kernel
theorem dX6_readName_18 : decode cX6_readName 18 = .ok (.putfield 31, 3) := by decide +kernel
theorem dX6_readName_21 : decode cX6_readName 21 = .ok (.iconst 0, 1) := by decide +kernel
theorem dX6_readName_22 : decode cX6_readName 22 = .ok (.istore_n 1, 1) := by decide +kernel
theorem dX6_readName_23 : decode cX6_readName 23 = .ok (.iload_n 1, 1) := by decide +kernel
theorem dX6_readName_24 : decode cX6_readName 24 = .ok (.bipush 9, 2) := by decide +kernel
theorem dX6_readName_26 : decode cX6_readName 26 = .ok (.if_icmp .ge 35, 3) := by decide +kernel
theorem dX6_readName_29 : decode cX6_readName 29 = .ok (.aload_n 0, 1) := by decide +kernel
theorem dX6_readName_30 : decode cX6_readName 30 = .ok (.getfield 31, 3) := by decide +kernel
theorem dX6_readName_33 : decode cX6_readName 33 = .ok (.iconst 4, 1) := by decide +kernel
theorem dX6_readName_34 : decode cX6_readName 34 = .ok (.if_icmp .ne 27, 3) := by decide +kernel
theorem dX6_readName_37 : decode cX6_readName 37 = .ok (.aload_n 0, 1) := by decide +kernel
theorem dX6_readName_38 : decode cX6_readName 38 = .ok (.iload_n 1, 1) := by decide +kernel
theorem dX6_readName_39 : decode cX6_readName 39 = .ok (.invokevirtual 44, 3) := by decide +kernel
theorem dX6_readName_42 : decode cX6_readName 42 = .ok (.ifCond .eq 13, 3) := by decide +kernel
theorem dX6_readName_45 : decode cX6_readName 45 = .ok (.aload_n 0, 1) := by decide +kernel
theorem dX6_readName_46 : decode cX6_readName 46 = .ok (.iconst 1, 1) := by decide +kernel
theorem dX6_readName_47 : decode cX6_readName 47 = .ok (.putfield 31, 3) := by decide +kernel
theorem dX6_readName_50 : decode cX6_readName 50 = .ok (.aload_n 0, 1) := by decide +kernel
theorem dX6_readName_51 : decode cX6_readName 51 = .ok (.iload_n 1, 1) := by decide +kernel
theorem dX6_readName_52 : decode cX6_readName 52 = .ok (.putfield 48, 3) := by decide +kernel
theorem dX6_readName_55 : decode cX6_readName 55 = .ok (.iinc 1 1, 3) := by decide +kernel
theorem dX6_readName_58 : decode cX6_readName 58 = .ok (.goto (-35), 3) := by decide +kernel
theorem dX6_readName_61 : decode cX6_readName 61 = .ok (.return_, 1) := by decide +kernel
theorem dX6_isName_0 : decode cX6_isName 0 = .ok (.aload_n 0, 1) := by decide +kernel
theorem dX6_isName_1 : decode cX6_isName 1 = .ok (.getfield 15, 3) := by decide +kernel
theorem dX6_isName_4 : decode cX6_isName 4 = .ok (.aload_n 0, 1) := by decide +kernel
theorem dX6_isName_5 : decode cX6_isName 5 = .ok (.getfield 23, 3) := by decide +kernel
theorem dX6_isName_8 : decode cX6_isName 8 = .ok (.isub, 1) := by decide +kernel
theorem dX6_isName_9 : decode cX6_isName 9 = .ok (.istore_n 2, 1) := by decide +kernel
theorem dX6_isName_10 : decode cX6_isName 10 = .ok (.iload_n 1, 1) := by decide +kernel
theorem dX6_isName_11 : decode cX6_isName 11 = .ok (.iconst 5, 1) := by decide +kernel
theorem dX6_isName_12 : decode cX6_isName 12 = .ok (.imul, 1) := by decide +kernel
theorem dX6_isName_13 : decode cX6_isName 13 = .ok (.istore_n 3, 1) := by decide +kernel
theorem dX6_isName_14 : decode cX6_isName 14 = .ok (.iload_n 2, 1) := by decide +kernel
theorem dX6_isName_15 : decode cX6_isName 15 = .ok (.iconst 5, 1) := by decide +kernel
theorem dX6_isName_16 : decode cX6_isName 16 = .ok (.if_icmp .ge 16, 3) := by decide +kernel
theorem dX6_isName_19 : decode cX6_isName 19 = .ok (.ldc 51, 2) := by decide +kernel
theorem dX6_isName_21 : decode cX6_isName 21 = .ok (.iload_n 3, 1) := by decide +kernel
theorem dX6_isName_22 : decode cX6_isName 22 = .ok (.iload_n 2, 1) := by decide +kernel
theorem dX6_isName_23 : decode cX6_isName 23 = .ok (.iadd, 1) := by decide +kernel
theorem dX6_isName_24 : decode cX6_isName 24 = .ok (.invokevirtual 53, 3) := by decide +kernel
theorem dX6_isName_27 : decode cX6_isName 27 = .ok (.bipush 32, 2) := by decide +kernel
theorem dX6_isName_29 : decode cX6_isName 29 = .ok (.if_icmp .eq 5, 3) := by decide +kernel
theorem dX6_isName_32 : decode cX6_isName 32 = .ok (.iconst 0, 1) := by decide +kernel
theorem dX6_isName_33 : decode cX6_isName 33 = .ok (.ireturn, 1) := by decide +kernel
theorem dX6_isName_34 : decode cX6_isName 34 = .ok (.iconst 0, 1) := by decide +kernel
theorem dX6_isName_35 : decode cX6_isName 35 = .ok (.istore 4, 2) := by decide +kernel
theorem dX6_isName_37 : decode cX6_isName 37 = .ok (.iload 4, 2) := by decide +kernel
theorem dX6_isName_39 : decode cX6_isName 39 = .ok (.iload_n 2, 1) := by decide +kernel
theorem dX6_isName_40 : decode cX6_isName 40 = .ok (.if_icmp .ge 38, 3) := by decide +kernel
theorem dX6_isName_43 : decode cX6_isName 43 = .ok (.aload_n 0, 1) := by decide +kernel
theorem dX6_isName_44 : decode cX6_isName 44 = .ok (.getfield 9, 3) := by decide +kernel
theorem dX6_isName_47 : decode cX6_isName 47 = .ok (.getfield 59, 3) := by decide +kernel
theorem dX6_isName_50 : decode cX6_isName 50 = .ok (.aload_n 0, 1) := by decide +kernel
theorem dX6_isName_51 : decode cX6_isName 51 = .ok (.getfield 23, 3) := by decide +kernel
theorem dX6_isName_54 : decode cX6_isName 54 = .ok (.iload 4, 2) := by decide +kernel
theorem dX6_isName_56 : decode cX6_isName 56 = .ok (.iadd, 1) := by decide +kernel
theorem dX6_isName_57 : decode cX6_isName 57 = .ok (.baload, 1) := by decide +kernel
theorem dX6_isName_58 : decode cX6_isName 58 = .ok (.ldc 51, 2) := by decide +kernel
theorem dX6_isName_60 : decode cX6_isName 60 = .ok (.iload_n 3, 1) := by decide +kernel
theorem dX6_isName_61 : decode cX6_isName 61 = .ok (.iload 4, 2) := by decide +kernel
theorem dX6_isName_63 : decode cX6_isName 63 = .ok (.iadd, 1) := by decide +kernel
theorem dX6_isName_64 : decode cX6_isName 64 = .ok (.invokevirtual 53, 3) := by decide +kernel
theorem dX6_isName_67 : decode cX6_isName 67 = .ok (.if_icmp .eq 5, 3) := by decide +kernel
theorem dX6_isName_70 : decode cX6_isName 70 = .ok (.iconst 0, 1) := by decide +kernel
theorem dX6_isName_71 : decode cX6_isName 71 = .ok (.ireturn, 1) := by decide +kernel
theorem dX6_isName_72 : decode cX6_isName 72 = .ok (.iinc 4 1, 3) := by decide +kernel
theorem dX6_isName_75 : decode cX6_isName 75 = .ok (.goto (-38), 3) := by decide +kernel
theorem dX6_isName_78 : decode cX6_isName 78 = .ok (.iconst 1, 1) := by decide +kernel
theorem dX6_isName_79 : decode cX6_isName 79 = .ok (.ireturn, 1) := by decide +kernel
theorem dX6_readNumber_0 : decode cX6_readNumber 0 = .ok (.aload_n 0, 1) := by decide +kernel
theorem dX6_readNumber_1 : decode cX6_readNumber 1 = .ok (.aload_n 0, 1) := by decide +kernel
theorem dX6_readNumber_2 : decode cX6_readNumber 2 = .ok (.aload_n 0, 1) := by decide +kernel
theorem dX6_readNumber_3 : decode cX6_readNumber 3 = .ok (.getfield 23, 3) := by decide +kernel
theorem dX6_readNumber_6 : decode cX6_readNumber 6 = .ok (.bipush 48, 2) := by decide +kernel
theorem dX6_readNumber_8 : decode cX6_readNumber 8 = .ok (.bipush 57, 2) := by decide +kernel
theorem dX6_readNumber_10 : decode cX6_readNumber 10 = .ok (.invokevirtual 19, 3) := by decide +kernel
theorem dX6_readNumber_13 : decode cX6_readNumber 13 = .ok (.putfield 15, 3) := by decide +kernel
theorem dX6_readNumber_16 : decode cX6_readNumber 16 = .ok (.aload_n 0, 1) := by decide +kernel
theorem dX6_readNumber_17 : decode cX6_readNumber 17 = .ok (.aload_n 0, 1) := by decide +kernel
theorem dX6_readNumber_18 : decode cX6_readNumber 18 = .ok (.getfield 15, 3) := by decide +kernel
theorem dX6_readNumber_21 : decode cX6_readNumber 21 = .ok (.aload_n 0, 1) := by decide +kernel
theorem dX6_readNumber_22 : decode cX6_readNumber 22 = .ok (.getfield 23, 3) := by decide +kernel
theorem dX6_readNumber_25 : decode cX6_readNumber 25 = .ok (.isub, 1) := by decide +kernel
theorem dX6_readNumber_26 : decode cX6_readNumber 26 = .ok (.iconst 4, 1) := by decide +kernel
theorem dX6_readNumber_27 : decode cX6_readNumber 27 = .ok (.if_icmp .le 7, 3) := by decide +kernel
theorem dX6_readNumber_30 : decode cX6_readNumber 30 = .ok (.iconst 4, 1) := by decide +kernel
theorem dX6_readNumber_31 : decode cX6_readNumber 31 = .ok (.goto 4, 3) := by decide +kernel
theorem dX6_readNumber_34 : decode cX6_readNumber 34 = .ok (.iconst 2, 1) := by decide +kernel
theorem dX6_readNumber_35 : decode cX6_readNumber 35 = .ok (.putfield 31, 3) := by decide +kernel
theorem dX6_readNumber_38 : decode cX6_readNumber 38 = .ok (.aload_n 0, 1) := by decide +kernel
theorem dX6_readNumber_39 : decode cX6_readNumber 39 = .ok (.iconst 0, 1) := by decide +kernel
theorem dX6_readNumber_40 : decode cX6_readNumber 40 = .ok (.putfield 48, 3) := by decide +kernel
theorem dX6_readNumber_43 : decode cX6_readNumber 43 = .ok (.aload_n 0, 1) := by decide +kernel
theorem dX6_readNumber_44 : decode cX6_readNumber 44 = .ok (.getfield 23, 3) := by decide +kernel
theorem dX6_readNumber_47 : decode cX6_readNumber 47 = .ok (.istore_n 1, 1) := by decide +kernel
theorem dX6_readNumber_48 : decode cX6_readNumber 48 = .ok (.iload_n 1, 1) := by decide +kernel
theorem dX6_readNumber_49 : decode cX6_readNumber 49 = .ok (.aload_n 0, 1) := by decide +kernel
theorem dX6_readNumber_50 : decode cX6_readNumber 50 = .ok (.getfield 15, 3) := by decide +kernel
theorem dX6_readNumber_53 : decode cX6_readNumber 53 = .ok (.if_icmp .ge 41, 3) := by decide +kernel
theorem dX6_readNumber_56 : decode cX6_readNumber 56 = .ok (.aload_n 0, 1) := by decide +kernel
theorem dX6_readNumber_57 : decode cX6_readNumber 57 = .ok (.getfield 31, 3) := by decide +kernel
theorem dX6_readNumber_60 : decode cX6_readNumber 60 = .ok (.iconst 2, 1) := by decide +kernel
theorem dX6_readNumber_61 : decode cX6_readNumber 61 = .ok (.if_icmp .ne 33, 3) := by decide +kernel
theorem dX6_readNumber_64 : decode cX6_readNumber 64 = .ok (.aload_n 0, 1) := by decide +kernel
theorem dX6_readNumber_65 : decode cX6_readNumber 65 = .ok (.aload_n 0, 1) := by decide +kernel
theorem dX6_readNumber_66 : decode cX6_readNumber 66 = .ok (.getfield 48, 3) := by decide +kernel
theorem dX6_readNumber_69 : decode cX6_readNumber 69 = .ok (.bipush 10, 2) := by decide +kernel
theorem dX6_readNumber_71 : decode cX6_readNumber 71 = .ok (.imul, 1) := by decide +kernel
theorem dX6_readNumber_72 : decode cX6_readNumber 72 = .ok (.aload_n 0, 1) := by decide +kernel
theorem dX6_readNumber_73 : decode cX6_readNumber 73 = .ok (.getfield 9, 3) := by decide +kernel
theorem dX6_readNumber_76 : decode cX6_readNumber 76 = .ok (.getfield 59, 3) := by decide +kernel
theorem dX6_readNumber_79 : decode cX6_readNumber 79 = .ok (.iload_n 1, 1) := by decide +kernel
theorem dX6_readNumber_80 : decode cX6_readNumber 80 = .ok (.baload, 1) := by decide +kernel
theorem dX6_readNumber_81 : decode cX6_readNumber 81 = .ok (.bipush 48, 2) := by decide +kernel
theorem dX6_readNumber_83 : decode cX6_readNumber 83 = .ok (.isub, 1) := by decide +kernel
theorem dX6_readNumber_84 : decode cX6_readNumber 84 = .ok (.iadd, 1) := by decide +kernel
theorem dX6_readNumber_85 : decode cX6_readNumber 85 = .ok (.putfield 48, 3) := by decide +kernel
theorem dX6_readNumber_88 : decode cX6_readNumber 88 = .ok (.iinc 1 1, 3) := by decide +kernel
theorem dX6_readNumber_91 : decode cX6_readNumber 91 = .ok (.goto (-43), 3) := by decide +kernel
theorem dX6_readNumber_94 : decode cX6_readNumber 94 = .ok (.return_, 1) := by decide +kernel
