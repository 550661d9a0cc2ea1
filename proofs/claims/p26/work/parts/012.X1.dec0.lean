theorem dX1_init_0 : decode cX1_init 0 = .ok (.aload_n 0, 1) := by decide +kernel
theorem dX1_init_1 : decode cX1_init 1 = .ok (.invokespecial 3, 3) := by decide +kernel
theorem dX1_init_4 : decode cX1_init 4 = .ok (.aload_n 0, 1) := by decide +kernel
theorem dX1_init_5 : decode cX1_init 5 = .ok (.bipush 10, 2) := by decide +kernel
theorem dX1_init_7 : decode cX1_init 7 = .ok (.newarray .int, 2) := by decide +kernel
theorem dX1_init_9 : decode cX1_init 9 = .ok (.putfield 9, 3) := by decide +kernel
theorem dX1_init_12 : decode cX1_init 12 = .ok (.aload_n 0, 1) := by decide +kernel
theorem dX1_init_13 : decode cX1_init 13 = .ok (.bipush 10, 2) := by decide +kernel
theorem dX1_init_15 : decode cX1_init 15 = .ok (.newarray .int, 2) := by decide +kernel
theorem dX1_init_17 : decode cX1_init 17 = .ok (.putfield 15, 3) := by decide +kernel
theorem dX1_init_20 : decode cX1_init 20 = .ok (.aload_n 0, 1) := by decide +kernel
theorem dX1_init_21 : decode cX1_init 21 = .ok (.bipush 10, 2) := by decide +kernel
theorem dX1_init_23 : decode cX1_init 23 = .ok (.newarray .int, 2) := by decide +kernel
theorem dX1_init_25 : decode cX1_init 25 = .ok (.putfield 18, 3) := by decide +kernel
theorem dX1_init_28 : decode cX1_init 28 = .ok (.aload_n 0, 1) := by decide +kernel
theorem dX1_init_29 : decode cX1_init 29 = .ok (.bipush 10, 2) := by decide +kernel
theorem dX1_init_31 : decode cX1_init 31 = .ok (.newarray .int, 2) := by decide +kernel
theorem dX1_init_33 : decode cX1_init 33 = .ok (.putfield 21, 3) := by decide +kernel
theorem dX1_init_36 : decode cX1_init 36 = .ok (.aload_n 0, 1) := by decide +kernel
theorem dX1_init_37 : decode cX1_init 37 = .ok (.bipush 10, 2) := by decide +kernel
theorem dX1_init_39 : decode cX1_init 39 = .ok (.newarray .int, 2) := by decide +kernel
theorem dX1_init_41 : decode cX1_init 41 = .ok (.putfield 24, 3) := by decide +kernel
theorem dX1_init_44 : decode cX1_init 44 = .ok (.aload_n 0, 1) := by decide +kernel
theorem dX1_init_45 : decode cX1_init 45 = .ok (.iconst 4, 1) := by decide +kernel
theorem dX1_init_46 : decode cX1_init 46 = .ok (.bipush 10, 2) := by decide +kernel
theorem dX1_init_48 : decode cX1_init 48 = .ok (.multianewarray 27 2, 4) := by decide +kernel
theorem dX1_init_52 : decode cX1_init 52 = .ok (.putfield 29, 3) := by decide +kernel
theorem dX1_init_55 : decode cX1_init 55 = .ok (.aload_n 0, 1) := by decide +kernel
theorem dX1_init_56 : decode cX1_init 56 = .ok (.aload_n 1, 1) := by decide +kernel
theorem dX1_init_57 : decode cX1_init 57 = .ok (.putfield 32, 3) := by decide +kernel
theorem dX1_init_60 : decode cX1_init 60 = .ok (.return_, 1) := by decide +kernel
theorem dX1_hasHeir_0 : decode cX1_hasHeir 0 = .ok (.iload_n 1, 1) := by decide +kernel
theorem dX1_hasHeir_1 : decode cX1_hasHeir 1 = .ok (.ifCond .lt 15, 3) := by decide +kernel
theorem dX1_hasHeir_4 : decode cX1_hasHeir 4 = .ok (.iload_n 1, 1) := by decide +kernel
theorem dX1_hasHeir_5 : decode cX1_hasHeir 5 = .ok (.aload_n 0, 1) := by decide +kernel
theorem dX1_hasHeir_6 : decode cX1_hasHeir 6 = .ok (.getfield 36, 3) := by decide +kernel
theorem dX1_hasHeir_9 : decode cX1_hasHeir 9 = .ok (.if_icmp .ge 7, 3) := by decide +kernel
theorem dX1_hasHeir_12 : decode cX1_hasHeir 12 = .ok (.iconst 1, 1) := by decide +kernel
theorem dX1_hasHeir_13 : decode cX1_hasHeir 13 = .ok (.goto 4, 3) := by decide +kernel
theorem dX1_hasHeir_16 : decode cX1_hasHeir 16 = .ok (.iconst 0, 1) := by decide +kernel
theorem dX1_hasHeir_17 : decode cX1_hasHeir 17 = .ok (.ireturn, 1) := by decide +kernel
theorem dX1_hasThing_0 : decode cX1_hasThing 0 = .ok (.iload_n 1, 1) := by decide +kernel
theorem dX1_hasThing_1 : decode cX1_hasThing 1 = .ok (.ifCond .lt 15, 3) := by decide +kernel
theorem dX1_hasThing_4 : decode cX1_hasThing 4 = .ok (.iload_n 1, 1) := by decide +kernel
theorem dX1_hasThing_5 : decode cX1_hasThing 5 = .ok (.aload_n 0, 1) := by decide +kernel
theorem dX1_hasThing_6 : decode cX1_hasThing 6 = .ok (.getfield 40, 3) := by decide +kernel
theorem dX1_hasThing_9 : decode cX1_hasThing 9 = .ok (.if_icmp .ge 7, 3) := by decide +kernel
theorem dX1_hasThing_12 : decode cX1_hasThing 12 = .ok (.iconst 1, 1) := by decide +kernel
theorem dX1_hasThing_13 : decode cX1_hasThing 13 = .ok (.goto 4, 3) := by decide +kernel
theorem dX1_hasThing_16 : decode cX1_hasThing 16 = .ok (.iconst 0, 1) := by decide +kernel
theorem dX1_hasThing_17 : decode cX1_hasThing 17 = .ok (.ireturn, 1) := by decide +kernel
theorem dX1_addThing_0 : decode cX1_addThing 0 = .ok (.aload_n 0, 1) := by decide +kernel
theorem dX1_addThing_1 : decode cX1_addThing 1 = .ok (.getfield 40, 3) := by decide +kernel
theorem dX1_addThing_4 : decode cX1_addThing 4 = .ok (.istore 6, 2) := by decide +kernel
theorem dX1_addThing_6 : decode cX1_addThing 6 = .ok (.aload_n 0, 1) := by decide +kernel
theorem dX1_addThing_7 : decode cX1_addThing 7 = .ok (.getfield 9, 3) := by decide +kernel
theorem dX1_addThing_10 : decode cX1_addThing 10 = .ok (.iload 6, 2) := by decide +kernel
theorem dX1_addThing_12 : decode cX1_addThing 12 = .ok (.iload_n 1, 1) := by decide +kernel
theorem dX1_addThing_13 : decode cX1_addThing 13 = .ok (.iastore, 1) := by decide +kernel
theorem dX1_addThing_14 : decode cX1_addThing 14 = .ok (.aload_n 0, 1) := by decide +kernel
theorem dX1_addThing_15 : decode cX1_addThing 15 = .ok (.getfield 15, 3) := by decide +kernel
theorem dX1_addThing_18 : decode cX1_addThing 18 = .ok (.iload 6, 2) := by decide +kernel
theorem dX1_addThing_20 : decode cX1_addThing 20 = .ok (.iload_n 2, 1) := by decide +kernel
theorem dX1_addThing_21 : decode cX1_addThing 21 = .ok (.iastore, 1) := by decide +kernel
theorem dX1_addThing_22 : decode cX1_addThing 22 = .ok (.aload_n 0, 1) := by decide +kernel
theorem dX1_addThing_23 : decode cX1_addThing 23 = .ok (.getfield 18, 3) := by decide +kernel
theorem dX1_addThing_26 : decode cX1_addThing 26 = .ok (.iload 6, 2) := by decide +kernel
theorem dX1_addThing_28 : decode cX1_addThing 28 = .ok (.iload_n 3, 1) := by decide +kernel
theorem dX1_addThing_29 : decode cX1_addThing 29 = .ok (.iastore, 1) := by decide +kernel
theorem dX1_addThing_30 : decode cX1_addThing 30 = .ok (.aload_n 0, 1) := by decide +kernel
theorem dX1_addThing_31 : decode cX1_addThing 31 = .ok (.getfield 21, 3) := by decide +kernel
theorem dX1_addThing_34 : decode cX1_addThing 34 = .ok (.iload 6, 2) := by decide +kernel
theorem dX1_addThing_36 : decode cX1_addThing 36 = .ok (.iload 4, 2) := by decide +kernel
theorem dX1_addThing_38 : decode cX1_addThing 38 = .ok (.iastore, 1) := by decide +kernel
theorem dX1_addThing_39 : decode cX1_addThing 39 = .ok (.aload_n 0, 1) := by decide +kernel
theorem dX1_addThing_40 : decode cX1_addThing 40 = .ok (.getfield 24, 3) := by decide +kernel
theorem dX1_addThing_43 : decode cX1_addThing 43 = .ok (.iload 6, 2) := by decide +kernel
theorem dX1_addThing_45 : decode cX1_addThing 45 = .ok (.iload 5, 2) := by decide +kernel
theorem dX1_addThing_47 : decode cX1_addThing 47 = .ok (.iastore, 1) := by decide +kernel
theorem dX1_addThing_48 : decode cX1_addThing 48 = .ok (.iconst 0, 1) := by decide +kernel
theorem dX1_addThing_49 : decode cX1_addThing 49 = .ok (.istore 7, 2) := by decide +kernel
theorem dX1_addThing_51 : decode cX1_addThing 51 = .ok (.iload 7, 2) := by decide +kernel
theorem dX1_addThing_53 : decode cX1_addThing 53 = .ok (.iconst 4, 1) := by decide +kernel
theorem dX1_addThing_54 : decode cX1_addThing 54 = .ok (.if_icmp .ge 20, 3) := by decide +kernel
theorem dX1_addThing_57 : decode cX1_addThing 57 = .ok (.aload_n 0, 1) := by decide +kernel
theorem dX1_addThing_58 : decode cX1_addThing 58 = .ok (.getfield 29, 3) := by decide +kernel
theorem dX1_addThing_61 : decode cX1_addThing 61 = .ok (.iload 7, 2) := by decide +kernel
theorem dX1_addThing_63 : decode cX1_addThing 63 = .ok (.aaload, 1) := by decide +kernel
theorem dX1_addThing_64 : decode cX1_addThing 64 = .ok (.iload 6, 2) := by decide +kernel
theorem dX1_addThing_66 : decode cX1_addThing 66 = .ok (.iconst 0, 1) := by decide +kernel
theorem dX1_addThing_67 : decode cX1_addThing 67 = .ok (.iastore, 1) := by decide +kernel
theorem dX1_addThing_68 : decode cX1_addThing 68 = .ok (.iinc 7 1, 3) := by decide +kernel
theorem dX1_addThing_71 : decode cX1_addThing 71 = .ok (.goto (-20), 3) := by decide +kernel
theorem dX1_addThing_74 : decode cX1_addThing 74 = .ok (.aload_n 0, 1) := by decide +kernel
theorem dX1_addThing_75 : decode cX1_addThing 75 = .ok (.dup, 1) := by decide +kernel
theorem dX1_addThing_76 : decode cX1_addThing 76 = .ok (.getfield 40, 3) := by decide +kernel
theorem dX1_addThing_79 : decode cX1_addThing 79 = .ok (.iconst 1, 1) := by decide +kernel
theorem dX1_addThing_80 : decode cX1_addThing 80 = .ok (.iadd, 1) := by decide +kernel
theorem dX1_addThing_81 : decode cX1_addThing 81 = .ok (.putfield 40, 3) := by decide +kernel
theorem dX1_addThing_84 : decode cX1_addThing 84 = .ok (.iload 6, 2) := by decide +kernel
theorem dX1_addThing_86 : decode cX1_addThing 86 = .ok (.ireturn, 1) := by decide +kernel
theorem dX1_wayOf_0 : decode cX1_wayOf 0 = .ok (.aload_n 0, 1) := by decide +kernel
theorem dX1_wayOf_1 : decode cX1_wayOf 1 = .ok (.iload_n 1, 1) := by decide +kernel
theorem dX1_wayOf_2 : decode cX1_wayOf 2 = .ok (.iconst 4, 1) := by decide +kernel
theorem dX1_wayOf_3 : decode cX1_wayOf 3 = .ok (.invokevirtual 43, 3) := by decide +kernel
theorem dX1_wayOf_6 : decode cX1_wayOf 6 = .ok (.ifCond .eq 14, 3) := by decide +kernel
theorem dX1_wayOf_9 : decode cX1_wayOf 9 = .ok (.aload_n 0, 1) := by decide +kernel
theorem dX1_wayOf_10 : decode cX1_wayOf 10 = .ok (.getfield 32, 3) := by decide +kernel
theorem dX1_wayOf_13 : decode cX1_wayOf 13 = .ok (.getfield 47, 3) := by decide +kernel
theorem dX1_wayOf_16 : decode cX1_wayOf 16 = .ok (.bipush 6, 2) := by decide +kernel
theorem dX1_wayOf_18 : decode cX1_wayOf 18 = .ok (.iaload, 1) := by decide +kernel
theorem dX1_wayOf_19 : decode cX1_wayOf 19 = .ok (.ireturn, 1) := by decide +kernel
theorem dX1_wayOf_20 : decode cX1_wayOf 20 = .ok (.aload_n 0, 1) := by decide +kernel
theorem dX1_wayOf_21 : decode cX1_wayOf 21 = .ok (.iload_n 1, 1) := by decide +kernel
theorem dX1_wayOf_22 : decode cX1_wayOf 22 = .ok (.iconst 2, 1) := by decide +kernel
theorem dX1_wayOf_23 : decode cX1_wayOf 23 = .ok (.invokevirtual 43, 3) := by decide +kernel
theorem dX1_wayOf_26 : decode cX1_wayOf 26 = .ok (.ifCond .eq 13, 3) := by decide +kernel
theorem dX1_wayOf_29 : decode cX1_wayOf 29 = .ok (.aload_n 0, 1) := by decide +kernel
theorem dX1_wayOf_30 : decode cX1_wayOf 30 = .ok (.getfield 32, 3) := by decide +kernel
theorem dX1_wayOf_33 : decode cX1_wayOf 33 = .ok (.getfield 47, 3) := by decide +kernel
theorem dX1_wayOf_36 : decode cX1_wayOf 36 = .ok (.iconst 5, 1) := by decide +kernel
theorem dX1_wayOf_37 : decode cX1_wayOf 37 = .ok (.iaload, 1) := by decide +kernel
theorem dX1_wayOf_38 : decode cX1_wayOf 38 = .ok (.ireturn, 1) := by decide +kernel
theorem dX1_wayOf_39 : decode cX1_wayOf 39 = .ok (.aload_n 0, 1) := by decide +kernel
theorem dX1_wayOf_40 : decode cX1_wayOf 40 = .ok (.iload_n 1, 1) := by decide +kernel
theorem dX1_wayOf_41 : decode cX1_wayOf 41 = .ok (.invokevirtual 52, 3) := by decide +kernel
theorem dX1_wayOf_44 : decode cX1_wayOf 44 = .ok (.ifCond .eq 5, 3) := by decide +kernel
theorem dX1_wayOf_47 : decode cX1_wayOf 47 = .ok (.iconst 4, 1) := by decide +kernel
theorem dX1_wayOf_48 : decode cX1_wayOf 48 = .ok (.ireturn, 1) := by decide +kernel
theorem dX1_wayOf_49 : decode cX1_wayOf 49 = .ok (.aload_n 0, 1) := by decide +kernel
theorem dX1_wayOf_50 : decode cX1_wayOf 50 = .ok (.iload_n 1, 1) := by decide +kernel
theorem dX1_wayOf_51 : decode cX1_wayOf 51 = .ok (.bipush 8, 2) := by decide +kernel
theorem dX1_wayOf_53 : decode cX1_wayOf 53 = .ok (.invokevirtual 43, 3) := by decide +kernel
theorem dX1_wayOf_56 : decode cX1_wayOf 56 = .ok (.ifCond .eq 5, 3) := by decide +kernel
theorem dX1_wayOf_59 : decode cX1_wayOf 59 = .ok (.iconst 0, 1) := by decide +kernel
theorem dX1_wayOf_60 : decode cX1_wayOf 60 = .ok (.ireturn, 1) := by decide +kernel
theorem dX1_wayOf_61 : decode cX1_wayOf 61 = .ok (.aload_n 0, 1) := by decide +kernel
theorem dX1_wayOf_62 : decode cX1_wayOf 62 = .ok (.getfield 15, 3) := by decide +kernel
theorem dX1_wayOf_65 : decode cX1_wayOf 65 = .ok (.iload_n 1, 1) := by decide +kernel
theorem dX1_wayOf_66 : decode cX1_wayOf 66 = .ok (.iaload, 1) := by decide +kernel
theorem dX1_wayOf_67 : decode cX1_wayOf 67 = .ok (.aload_n 0, 1) := by decide +kernel
theorem dX1_wayOf_68 : decode cX1_wayOf 68 = .ok (.getfield 32, 3) := by decide +kernel
theorem dX1_wayOf_71 : decode cX1_wayOf 71 = .ok (.getfield 47, 3) := by decide +kernel
theorem dX1_wayOf_74 : decode cX1_wayOf 74 = .ok (.iconst 1, 1) := by decide +kernel
theorem dX1_wayOf_75 : decode cX1_wayOf 75 = .ok (.iaload, 1) := by decide +kernel
theorem dX1_wayOf_76 : decode cX1_wayOf 76 = .ok (.if_icmp .lt 5, 3) := by decide +kernel
theorem dX1_wayOf_79 : decode cX1_wayOf 79 = .ok (.iconst 1, 1) := by decide +kernel
theorem dX1_wayOf_80 : decode cX1_wayOf 80 = .ok (.ireturn, 1) := by decide +kernel
theorem dX1_wayOf_81 : decode cX1_wayOf 81 = .ok (.aload_n 0, 1) := by decide +kernel
theorem dX1_wayOf_82 : decode cX1_wayOf 82 = .ok (.iload_n 1, 1) := by decide +kernel
theorem dX1_wayOf_83 : decode cX1_wayOf 83 = .ok (.invokevirtual 56, 3) := by decide +kernel
theorem dX1_wayOf_86 : decode cX1_wayOf 86 = .ok (.ifCond .eq 5, 3) := by decide +kernel
theorem dX1_wayOf_89 : decode cX1_wayOf 89 = .ok (.iconst 0, 1) := by decide +kernel
theorem dX1_wayOf_90 : decode cX1_wayOf 90 = .ok (.ireturn, 1) := by decide +kernel
theorem dX1_wayOf_91 : decode cX1_wayOf 91 = .ok (.aload_n 0, 1) := by decide +kernel
theorem dX1_wayOf_92 : decode cX1_wayOf 92 = .ok (.getfield 15, 3) := by decide +kernel
theorem dX1_wayOf_95 : decode cX1_wayOf 95 = .ok (.iload_n 1, 1) := by decide +kernel
theorem dX1_wayOf_96 : decode cX1_wayOf 96 = .ok (.iaload, 1) := by decide +kernel
theorem dX1_wayOf_97 : decode cX1_wayOf 97 = .ok (.aload_n 0, 1) := by decide +kernel
theorem dX1_wayOf_98 : decode cX1_wayOf 98 = .ok (.getfield 32, 3) := by decide +kernel
theorem dX1_wayOf_101 : decode cX1_wayOf 101 = .ok (.getfield 47, 3) := by decide +kernel
theorem dX1_wayOf_104 : decode cX1_wayOf 104 = .ok (.iconst 2, 1) := by decide +kernel
theorem dX1_wayOf_105 : decode cX1_wayOf 105 = .ok (.iaload, 1) := by decide +kernel
theorem dX1_wayOf_106 : decode cX1_wayOf 106 = .ok (.if_icmp .lt 7, 3) := by decide +kernel
theorem dX1_wayOf_109 : decode cX1_wayOf 109 = .ok (.iconst 2, 1) := by decide +kernel
theorem dX1_wayOf_110 : decode cX1_wayOf 110 = .ok (.goto 4, 3) := by decide +kernel
theorem dX1_wayOf_113 : decode cX1_wayOf 113 = .ok (.iconst 3, 1) := by decide +kernel
theorem dX1_wayOf_114 : decode cX1_wayOf 114 = .ok (.ireturn, 1) := by decide +kernel
theorem dX1_hasMark_0 : decode cX1_hasMark 0 = .ok (.aload_n 0, 1) := by decide +kernel
theorem dX1_hasMark_1 : decode cX1_hasMark 1 = .ok (.getfield 24, 3) := by decide +kernel
theorem dX1_hasMark_4 : decode cX1_hasMark 4 = .ok (.iload_n 1, 1) := by decide +kernel
theorem dX1_hasMark_5 : decode cX1_hasMark 5 = .ok (.iaload, 1) := by decide +kernel
theorem dX1_hasMark_6 : decode cX1_hasMark 6 = .ok (.iload_n 2, 1) := by decide +kernel
theorem dX1_hasMark_7 : decode cX1_hasMark 7 = .ok (.iand, 1) := by decide +kernel
theorem dX1_hasMark_8 : decode cX1_hasMark 8 = .ok (.ifCond .eq 7, 3) := by decide +kernel
theorem dX1_hasMark_11 : decode cX1_hasMark 11 = .ok (.iconst 1, 1) := by decide +kernel
theorem dX1_hasMark_12 : decode cX1_hasMark 12 = .ok (.goto 4, 3) := by decide +kernel
theorem dX1_hasMark_15 : decode cX1_hasMark 15 = .ok (.iconst 0, 1) := by decide +kernel
theorem dX1_hasMark_16 : decode cX1_hasMark 16 = .ok (.ireturn, 1) := by decide +kernel
theorem dX1_isKeptPaper_0 : decode cX1_isKeptPaper 0 = .ok (.aload_n 0, 1) := by decide +kernel
theorem dX1_isKeptPaper_1 : decode cX1_isKeptPaper 1 = .ok (.iload_n 1, 1) := by decide +kernel
theorem dX1_isKeptPaper_2 : decode cX1_isKeptPaper 2 = .ok (.iconst 1, 1) := by decide +kernel
theorem dX1_isKeptPaper_3 : decode cX1_isKeptPaper 3 = .ok (.invokevirtual 43, 3) := by decide +kernel
theorem dX1_isKeptPaper_6 : decode cX1_isKeptPaper 6 = .ok (.ifCond .eq 25, 3) := by decide +kernel
theorem dX1_isKeptPaper_9 : decode cX1_isKeptPaper 9 = .ok (.aload_n 0, 1) := by decide +kernel
theorem dX1_isKeptPaper_10 : decode cX1_isKeptPaper 10 = .ok (.getfield 21, 3) := by decide +kernel
theorem dX1_isKeptPaper_13 : decode cX1_isKeptPaper 13 = .ok (.iload_n 1, 1) := by decide +kernel
theorem dX1_isKeptPaper_14 : decode cX1_isKeptPaper 14 = .ok (.iaload, 1) := by decide +kernel
theorem dX1_isKeptPaper_15 : decode cX1_isKeptPaper 15 = .ok (.aload_n 0, 1) := by decide +kernel
theorem dX1_isKeptPaper_16 : decode cX1_isKeptPaper 16 = .ok (.getfield 32, 3) := by decide +kernel
theorem dX1_isKeptPaper_19 : decode cX1_isKeptPaper 19 = .ok (.getfield 47, 3) := by decide +kernel
theorem dX1_isKeptPaper_22 : decode cX1_isKeptPaper 22 = .ok (.iconst 0, 1) := by decide +kernel
theorem dX1_isKeptPaper_23 : decode cX1_isKeptPaper 23 = .ok (.iaload, 1) := by decide +kernel
theorem dX1_isKeptPaper_24 : decode cX1_isKeptPaper 24 = .ok (.if_icmp .gt 7, 3) := by decide +kernel
theorem dX1_isKeptPaper_27 : decode cX1_isKeptPaper 27 = .ok (.iconst 1, 1) := by decide +kernel
theorem dX1_isKeptPaper_28 : decode cX1_isKeptPaper 28 = .ok (.goto 4, 3) := by decide +kernel
theorem dX1_isKeptPaper_31 : decode cX1_isKeptPaper 31 = .ok (.iconst 0, 1) := by decide +kernel
theorem dX1_isKeptPaper_32 : decode cX1_isKeptPaper 32 = .ok (.ireturn, 1) := by decide +kernel
theorem dX1_isWanted_0 : decode cX1_isWanted 0 = .ok (.iconst 0, 1) := by decide +kernel
theorem dX1_isWanted_1 : decode cX1_isWanted 1 = .ok (.istore_n 2, 1) := by decide +kernel
theorem dX1_isWanted_2 : decode cX1_isWanted 2 = .ok (.iload_n 2, 1) := by decide +kernel
theorem dX1_isWanted_3 : decode cX1_isWanted 3 = .ok (.aload_n 0, 1) := by decide +kernel
theorem dX1_isWanted_4 : decode cX1_isWanted 4 = .ok (.getfield 36, 3) := by decide +kernel
theorem dX1_isWanted_7 : decode cX1_isWanted 7 = .ok (.if_icmp .ge 22, 3) := by decide +kernel
theorem dX1_isWanted_10 : decode cX1_isWanted 10 = .ok (.aload_n 0, 1) := by decide +kernel
theorem dX1_isWanted_11 : decode cX1_isWanted 11 = .ok (.getfield 29, 3) := by decide +kernel
theorem dX1_isWanted_14 : decode cX1_isWanted 14 = .ok (.iload_n 2, 1) := by decide +kernel
theorem dX1_isWanted_15 : decode cX1_isWanted 15 = .ok (.aaload, 1) := by decide +kernel
theorem dX1_isWanted_16 : decode cX1_isWanted 16 = .ok (.iload_n 1, 1) := by decide +kernel
theorem dX1_isWanted_17 : decode cX1_isWanted 17 = .ok (.iaload, 1) := by decide +kernel
theorem dX1_isWanted_18 : decode cX1_isWanted 18 = .ok (.ifCond .le 5, 3) := by decide +kernel
theorem dX1_isWanted_21 : decode cX1_isWanted 21 = .ok (.iconst 1, 1) := by decide +kernel
theorem dX1_isWanted_22 : decode cX1_isWanted 22 = .ok (.ireturn, 1) := by decide +kernel
theorem dX1_isWanted_23 : decode cX1_isWanted 23 = .ok (.iinc 2 1, 3) := by decide +kernel
theorem dX1_isWanted_26 : decode cX1_isWanted 26 = .ok (.goto (-24), 3) := by decide +kernel
theorem dX1_isWanted_29 : decode cX1_isWanted 29 = .ok (.iconst 0, 1) := by decide +kernel
theorem dX1_isWanted_30 : decode cX1_isWanted 30 = .ok (.ireturn, 1) := by decide +kernel
theorem dX1_countOnWay_0 : decode cX1_countOnWay 0 = .ok (.iconst 0, 1) := by decide +kernel
theorem dX1_countOnWay_1 : decode cX1_countOnWay 1 = .ok (.istore_n 2, 1) := by decide +kernel
theorem dX1_countOnWay_2 : decode cX1_countOnWay 2 = .ok (.iconst 0, 1) := by decide +kernel
theorem dX1_countOnWay_3 : decode cX1_countOnWay 3 = .ok (.istore_n 3, 1) := by decide +kernel
theorem dX1_countOnWay_4 : decode cX1_countOnWay 4 = .ok (.iload_n 3, 1) := by decide +kernel
theorem dX1_countOnWay_5 : decode cX1_countOnWay 5 = .ok (.aload_n 0, 1) := by decide +kernel
theorem dX1_countOnWay_6 : decode cX1_countOnWay 6 = .ok (.getfield 40, 3) := by decide +kernel
theorem dX1_countOnWay_9 : decode cX1_countOnWay 9 = .ok (.if_icmp .ge 21, 3) := by decide +kernel
theorem dX1_countOnWay_12 : decode cX1_countOnWay 12 = .ok (.aload_n 0, 1) := by decide +kernel
theorem dX1_countOnWay_13 : decode cX1_countOnWay 13 = .ok (.iload_n 3, 1) := by decide +kernel
theorem dX1_countOnWay_14 : decode cX1_countOnWay 14 = .ok (.invokevirtual 59, 3) := by decide +kernel
theorem dX1_countOnWay_17 : decode cX1_countOnWay 17 = .ok (.iload_n 1, 1) := by decide +kernel
theorem dX1_countOnWay_18 : decode cX1_countOnWay 18 = .ok (.if_icmp .ne 6, 3) := by decide +kernel
theorem dX1_countOnWay_21 : decode cX1_countOnWay 21 = .ok (.iinc 2 1, 3) := by decide +kernel
theorem dX1_countOnWay_24 : decode cX1_countOnWay 24 = .ok (.iinc 3 1, 3) := by decide +kernel
theorem dX1_countOnWay_27 : decode cX1_countOnWay 27 = .ok (.goto (-23), 3) := by decide +kernel
theorem dX1_countOnWay_30 : decode cX1_countOnWay 30 = .ok (.iload_n 2, 1) := by decide +kernel
theorem dX1_countOnWay_31 : decode cX1_countOnWay 31 = .ok (.ireturn, 1) := by decide +kernel
theorem dX1_sumOnWay_0 : decode cX1_sumOnWay 0 = .ok (.iconst 0, 1) := by decide +kernel
theorem dX1_sumOnWay_1 : decode cX1_sumOnWay 1 = .ok (.istore_n 3, 1) := by decide +kernel
theorem dX1_sumOnWay_2 : decode cX1_sumOnWay 2 = .ok (.iconst 0, 1) := by decide +kernel
theorem dX1_sumOnWay_3 : decode cX1_sumOnWay 3 = .ok (.istore 4, 2) := by decide +kernel
theorem dX1_sumOnWay_5 : decode cX1_sumOnWay 5 = .ok (.iload 4, 2) := by decide +kernel
theorem dX1_sumOnWay_7 : decode cX1_sumOnWay 7 = .ok (.aload_n 0, 1) := by decide +kernel
theorem dX1_sumOnWay_8 : decode cX1_sumOnWay 8 = .ok (.getfield 40, 3) := by decide +kernel
theorem dX1_sumOnWay_11 : decode cX1_sumOnWay 11 = .ok (.if_icmp .ge 26, 3) := by decide +kernel
theorem dX1_sumOnWay_14 : decode cX1_sumOnWay 14 = .ok (.aload_n 0, 1) := by decide +kernel
theorem dX1_sumOnWay_15 : decode cX1_sumOnWay 15 = .ok (.iload 4, 2) := by decide +kernel
theorem dX1_sumOnWay_17 : decode cX1_sumOnWay 17 = .ok (.invokevirtual 59, 3) := by decide +kernel
theorem dX1_sumOnWay_20 : decode cX1_sumOnWay 20 = .ok (.iload_n 1, 1) := by decide +kernel
theorem dX1_sumOnWay_21 : decode cX1_sumOnWay 21 = .ok (.if_icmp .ne 10, 3) := by decide +kernel
theorem dX1_sumOnWay_24 : decode cX1_sumOnWay 24 = .ok (.iload_n 3, 1) := by decide +kernel
theorem dX1_sumOnWay_25 : decode cX1_sumOnWay 25 = .ok (.aload_n 2, 1) := by decide +kernel
theorem dX1_sumOnWay_26 : decode cX1_sumOnWay 26 = .ok (.iload 4, 2) := by decide +kernel
theorem dX1_sumOnWay_28 : decode cX1_sumOnWay 28 = .ok (.iaload, 1) := by decide +kernel
theorem dX1_sumOnWay_29 : decode cX1_sumOnWay 29 = .ok (.iadd, 1) := by decide +kernel
theorem dX1_sumOnWay_30 : decode cX1_sumOnWay 30 = .ok (.istore_n 3, 1) := by decide +kernel
theorem dX1_sumOnWay_31 : decode cX1_sumOnWay 31 = .ok (.iinc 4 1, 3) := by decide +kernel
theorem dX1_sumOnWay_34 : decode cX1_sumOnWay 34 = .ok (.goto (-29), 3) := by decide +kernel
theorem dX1_sumOnWay_37 : decode cX1_sumOnWay 37 = .ok (.iload_n 3, 1) := by decide +kernel
theorem dX1_sumOnWay_38 : decode cX1_sumOnWay 38 = .ok (.ireturn, 1) := by decide +kernel
theorem dX1_secondLook_0 : decode cX1_secondLook 0 = .ok (.aload_n 0, 1) := by decide +kernel
theorem dX1_secondLook_1 : decode cX1_secondLook 1 = .ok (.iload_n 1, 1) := by decide +kernel
theorem dX1_secondLook_2 : decode cX1_secondLook 2 = .ok (.bipush 14, 2) := by decide +kernel
theorem dX1_secondLook_4 : decode cX1_secondLook 4 = .ok (.invokevirtual 43, 3) := by decide +kernel
theorem dX1_secondLook_7 : decode cX1_secondLook 7 = .ok (.ifCond .ne 11, 3) := by decide +kernel
theorem dX1_secondLook_10 : decode cX1_secondLook 10 = .ok (.aload_n 0, 1) := by decide +kernel
theorem dX1_secondLook_11 : decode cX1_secondLook 11 = .ok (.iload_n 1, 1) := by decide +kernel
theorem dX1_secondLook_12 : decode cX1_secondLook 12 = .ok (.invokevirtual 52, 3) := by decide +kernel
theorem dX1_secondLook_15 : decode cX1_secondLook 15 = .ok (.ifCond .eq 5, 3) := by decide +kernel
theorem dX1_secondLook_18 : decode cX1_secondLook 18 = .ok (.iconst 0, 1) := by decide +kernel
theorem dX1_secondLook_19 : decode cX1_secondLook 19 = .ok (.ireturn, 1) := by decide +kernel
theorem dX1_secondLook_20 : decode cX1_secondLook 20 = .ok (.aload_n 0, 1) := by decide +kernel
theorem dX1_secondLook_21 : decode cX1_secondLook 21 = .ok (.getfield 32, 3) := by decide +kernel
theorem dX1_secondLook_24 : decode cX1_secondLook 24 = .ok (.getfield 47, 3) := by decide +kernel
theorem dX1_secondLook_27 : decode cX1_secondLook 27 = .ok (.iconst 1, 1) := by decide +kernel
theorem dX1_secondLook_28 : decode cX1_secondLook 28 = .ok (.iaload, 1) := by decide +kernel
theorem dX1_secondLook_29 : decode cX1_secondLook 29 = .ok (.istore_n 2, 1) := by decide +kernel
theorem dX1_secondLook_30 : decode cX1_secondLook 30 = .ok (.aload_n 0, 1) := by decide +kernel
theorem dX1_secondLook_31 : decode cX1_secondLook 31 = .ok (.getfield 15, 3) := by decide +kernel
theorem dX1_secondLook_34 : decode cX1_secondLook 34 = .ok (.iload_n 1, 1) := by decide +kernel
theorem dX1_secondLook_35 : decode cX1_secondLook 35 = .ok (.iaload, 1) := by decide +kernel
theorem dX1_secondLook_36 : decode cX1_secondLook 36 = .ok (.iload_n 2, 1) := by decide +kernel
theorem dX1_secondLook_37 : decode cX1_secondLook 37 = .ok (.if_icmp .ge 13, 3) := by decide +kernel
theorem dX1_secondLook_40 : decode cX1_secondLook 40 = .ok (.aload_n 0, 1) := by decide +kernel
theorem dX1_secondLook_41 : decode cX1_secondLook 41 = .ok (.getfield 18, 3) := by decide +kernel
theorem dX1_secondLook_44 : decode cX1_secondLook 44 = .ok (.iload_n 1, 1) := by decide +kernel
theorem dX1_secondLook_45 : decode cX1_secondLook 45 = .ok (.iaload, 1) := by decide +kernel
theorem dX1_secondLook_46 : decode cX1_secondLook 46 = .ok (.iload_n 2, 1) := by decide +kernel
theorem dX1_secondLook_47 : decode cX1_secondLook 47 = .ok (.if_icmp .ge 5, 3) := by decide +kernel
theorem dX1_secondLook_50 : decode cX1_secondLook 50 = .ok (.iconst 0, 1) := by decide +kernel
theorem dX1_secondLook_51 : decode cX1_secondLook 51 = .ok (.ireturn, 1) := by decide +kernel
theorem dX1_secondLook_52 : decode cX1_secondLook 52 = .ok (.iconst 0, 1) := by decide +kernel
theorem dX1_secondLook_53 : decode cX1_secondLook 53 = .ok (.aload_n 0, 1) := by decide +kernel
theorem dX1_secondLook_54 : decode cX1_secondLook 54 = .ok (.getfield 18, 3) := by decide +kernel
theorem dX1_secondLook_57 : decode cX1_secondLook 57 = .ok (.iload_n 1, 1) := by decide +kernel
theorem dX1_secondLook_58 : decode cX1_secondLook 58 = .ok (.iaload, 1) := by decide +kernel
theorem dX1_secondLook_59 : decode cX1_secondLook 59 = .ok (.iload_n 2, 1) := by decide +kernel
theorem dX1_secondLook_60 : decode cX1_secondLook 60 = .ok (.isub, 1) := by decide +kernel
theorem dX1_secondLook_61 : decode cX1_secondLook 61 = .ok (.aload_n 0, 1) := by decide +kernel
theorem dX1_secondLook_62 : decode cX1_secondLook 62 = .ok (.getfield 32, 3) := by decide +kernel
theorem dX1_secondLook_65 : decode cX1_secondLook 65 = .ok (.getfield 47, 3) := by decide +kernel
theorem dX1_secondLook_68 : decode cX1_secondLook 68 = .ok (.iconst 4, 1) := by decide +kernel
theorem dX1_secondLook_69 : decode cX1_secondLook 69 = .ok (.iaload, 1) := by decide +kernel
theorem dX1_secondLook_70 : decode cX1_secondLook 70 = .ok (.isub, 1) := by decide +kernel
theorem dX1_secondLook_71 : decode cX1_secondLook 71 = .ok (.invokestatic 63, 3) := by decide +kernel
theorem dX1_secondLook_74 : decode cX1_secondLook 74 = .ok (.ireturn, 1) := by decide +kernel
theorem dX1_keenest_0 : decode cX1_keenest 0 = .ok (.iconst 0, 1) := by decide +kernel
theorem dX1_keenest_1 : decode cX1_keenest 1 = .ok (.istore_n 2, 1) := by decide +kernel
theorem dX1_keenest_2 : decode cX1_keenest 2 = .ok (.iconst 1, 1) := by decide +kernel
theorem dX1_keenest_3 : decode cX1_keenest 3 = .ok (.istore_n 3, 1) := by decide +kernel
theorem dX1_keenest_4 : decode cX1_keenest 4 = .ok (.iload_n 3, 1) := by decide +kernel
theorem dX1_keenest_5 : decode cX1_keenest 5 = .ok (.aload_n 0, 1) := by decide +kernel
theorem dX1_keenest_6 : decode cX1_keenest 6 = .ok (.getfield 36, 3) := by decide +kernel
theorem dX1_keenest_9 : decode cX1_keenest 9 = .ok (.if_icmp .ge 30, 3) := by decide +kernel
theorem dX1_keenest_12 : decode cX1_keenest 12 = .ok (.aload_n 0, 1) := by decide +kernel
theorem dX1_keenest_13 : decode cX1_keenest 13 = .ok (.getfield 29, 3) := by decide +kernel
theorem dX1_keenest_16 : decode cX1_keenest 16 = .ok (.iload_n 3, 1) := by decide +kernel
theorem dX1_keenest_17 : decode cX1_keenest 17 = .ok (.aaload, 1) := by decide +kernel
theorem dX1_keenest_18 : decode cX1_keenest 18 = .ok (.iload_n 1, 1) := by decide +kernel
theorem dX1_keenest_19 : decode cX1_keenest 19 = .ok (.iaload, 1) := by decide +kernel
theorem dX1_keenest_20 : decode cX1_keenest 20 = .ok (.aload_n 0, 1) := by decide +kernel
theorem dX1_keenest_21 : decode cX1_keenest 21 = .ok (.getfield 29, 3) := by decide +kernel
theorem dX1_keenest_24 : decode cX1_keenest 24 = .ok (.iload_n 2, 1) := by decide +kernel
theorem dX1_keenest_25 : decode cX1_keenest 25 = .ok (.aaload, 1) := by decide +kernel
theorem dX1_keenest_26 : decode cX1_keenest 26 = .ok (.iload_n 1, 1) := by decide +kernel
theorem dX1_keenest_27 : decode cX1_keenest 27 = .ok (.iaload, 1) := by decide +kernel
theorem dX1_keenest_28 : decode cX1_keenest 28 = .ok (.if_icmp .le 5, 3) := by decide +kernel
theorem dX1_keenest_31 : decode cX1_keenest 31 = .ok (.iload_n 3, 1) := by decide +kernel
theorem dX1_keenest_32 : decode cX1_keenest 32 = .ok (.istore_n 2, 1) := by decide +kernel
theorem dX1_keenest_33 : decode cX1_keenest 33 = .ok (.iinc 3 1, 3) := by decide +kernel
theorem dX1_keenest_36 : decode cX1_keenest 36 = .ok (.goto (-32), 3) := by decide +kernel
theorem dX1_keenest_39 : decode cX1_keenest 39 = .ok (.iload_n 2, 1) := by decide +kernel
theorem dX1_keenest_40 : decode cX1_keenest 40 = .ok (.ireturn, 1) := by decide +kernel
theorem dX1_takeWorths_0 : decode cX1_takeWorths 0 = .ok (.iconst 0, 1) := by decide +kernel
theorem dX1_takeWorths_1 : decode cX1_takeWorths 1 = .ok (.istore 4, 2) := by decide +kernel
theorem dX1_takeWorths_3 : decode cX1_takeWorths 3 = .ok (.iconst 0, 1) := by decide +kernel
theorem dX1_takeWorths_4 : decode cX1_takeWorths 4 = .ok (.istore 5, 2) := by decide +kernel
theorem dX1_takeWorths_6 : decode cX1_takeWorths 6 = .ok (.iload 5, 2) := by decide +kernel
theorem dX1_takeWorths_8 : decode cX1_takeWorths 8 = .ok (.aload_n 0, 1) := by decide +kernel
theorem dX1_takeWorths_9 : decode cX1_takeWorths 9 = .ok (.getfield 40, 3) := by decide +kernel
theorem dX1_takeWorths_12 : decode cX1_takeWorths 12 = .ok (.if_icmp .ge 48, 3) := by decide +kernel
theorem dX1_takeWorths_15 : decode cX1_takeWorths 15 = .ok (.aload_n 2, 1) := by decide +kernel
theorem dX1_takeWorths_16 : decode cX1_takeWorths 16 = .ok (.getfield 69, 3) := by decide +kernel
theorem dX1_takeWorths_19 : decode cX1_takeWorths 19 = .ok (.iload_n 3, 1) := by decide +kernel
theorem dX1_takeWorths_20 : decode cX1_takeWorths 20 = .ok (.iload 5, 2) := by decide +kernel
theorem dX1_takeWorths_22 : decode cX1_takeWorths 22 = .ok (.iadd, 1) := by decide +kernel
theorem dX1_takeWorths_23 : decode cX1_takeWorths 23 = .ok (.iaload, 1) := by decide +kernel
theorem dX1_takeWorths_24 : decode cX1_takeWorths 24 = .ok (.istore 6, 2) := by decide +kernel
theorem dX1_takeWorths_26 : decode cX1_takeWorths 26 = .ok (.aload_n 0, 1) := by decide +kernel
theorem dX1_takeWorths_27 : decode cX1_takeWorths 27 = .ok (.getfield 29, 3) := by decide +kernel
theorem dX1_takeWorths_30 : decode cX1_takeWorths 30 = .ok (.iload_n 1, 1) := by decide +kernel
theorem dX1_takeWorths_31 : decode cX1_takeWorths 31 = .ok (.aaload, 1) := by decide +kernel
theorem dX1_takeWorths_32 : decode cX1_takeWorths 32 = .ok (.iload 5, 2) := by decide +kernel
theorem dX1_takeWorths_34 : decode cX1_takeWorths 34 = .ok (.iaload, 1) := by decide +kernel
theorem dX1_takeWorths_35 : decode cX1_takeWorths 35 = .ok (.iload 6, 2) := by decide +kernel
theorem dX1_takeWorths_37 : decode cX1_takeWorths 37 = .ok (.if_icmp .eq 17, 3) := by decide +kernel
theorem dX1_takeWorths_40 : decode cX1_takeWorths 40 = .ok (.aload_n 0, 1) := by decide +kernel
theorem dX1_takeWorths_41 : decode cX1_takeWorths 41 = .ok (.getfield 29, 3) := by decide +kernel
theorem dX1_takeWorths_44 : decode cX1_takeWorths 44 = .ok (.iload_n 1, 1) := by decide +kernel
theorem dX1_takeWorths_45 : decode cX1_takeWorths 45 = .ok (.aaload, 1) := by decide +kernel
theorem dX1_takeWorths_46 : decode cX1_takeWorths 46 = .ok (.iload 5, 2) := by decide +kernel
theorem dX1_takeWorths_48 : decode cX1_takeWorths 48 = .ok (.iload 6, 2) := by decide +kernel
theorem dX1_takeWorths_50 : decode cX1_takeWorths 50 = .ok (.iastore, 1) := by decide +kernel
theorem dX1_takeWorths_51 : decode cX1_takeWorths 51 = .ok (.iinc 4 1, 3) := by decide +kernel
theorem dX1_takeWorths_54 : decode cX1_takeWorths 54 = .ok (.iinc 5 1, 3) := by decide +kernel
theorem dX1_takeWorths_57 : decode cX1_takeWorths 57 = .ok (.goto (-51), 3) := by decide +kernel
theorem dX1_takeWorths_60 : decode cX1_takeWorths 60 = .ok (.iload 4, 2) := by decide +kernel
theorem dX1_takeWorths_62 : decode cX1_takeWorths 62 = .ok (.ireturn, 1) := by decide +kernel
