theorem dX2_init_0 : decode cX2_init 0 = .ok (.aload_n 0, 1) := by decide +kernel
theorem dX2_init_1 : decode cX2_init 1 = .ok (.invokespecial 3, 3) := by decide +kernel
theorem dX2_init_4 : decode cX2_init 4 = .ok (.aload_n 0, 1) := by decide +kernel
theorem dX2_init_5 : decode cX2_init 5 = .ok (.getstatic 9, 3) := by decide +kernel
theorem dX2_init_8 : decode cX2_init 8 = .ok (.invokevirtual 13, 3) := by decide +kernel
theorem dX2_init_11 : decode cX2_init 11 = .ok (.checkcast 14, 3) := by decide +kernel
theorem dX2_init_14 : decode cX2_init 14 = .ok (.putfield 18, 3) := by decide +kernel
theorem dX2_init_17 : decode cX2_init 17 = .ok (.aload_n 0, 1) := by decide +kernel
theorem dX2_init_18 : decode cX2_init 18 = .ok (.bipush 7, 2) := by decide +kernel
theorem dX2_init_20 : decode cX2_init 20 = .ok (.newarray .int, 2) := by decide +kernel
theorem dX2_init_22 : decode cX2_init 22 = .ok (.putfield 23, 3) := by decide +kernel
theorem dX2_init_25 : decode cX2_init 25 = .ok (.aload_n 0, 1) := by decide +kernel
theorem dX2_init_26 : decode cX2_init 26 = .ok (.new 26, 3) := by decide +kernel
theorem dX2_init_29 : decode cX2_init 29 = .ok (.dup, 1) := by decide +kernel
theorem dX2_init_30 : decode cX2_init 30 = .ok (.aload_n 1, 1) := by decide +kernel
theorem dX2_init_31 : decode cX2_init 31 = .ok (.invokespecial 28, 3) := by decide +kernel
theorem dX2_init_34 : decode cX2_init 34 = .ok (.putfield 31, 3) := by decide +kernel
theorem dX2_init_37 : decode cX2_init 37 = .ok (.return_, 1) := by decide +kernel
theorem dX2_readTape_0 : decode cX2_readTape 0 = .ok (.aload_n 0, 1) := by decide +kernel
theorem dX2_readTape_1 : decode cX2_readTape 1 = .ok (.getfield 31, 3) := by decide +kernel
theorem dX2_readTape_4 : decode cX2_readTape 4 = .ok (.invokevirtual 35, 3) := by decide +kernel
theorem dX2_readTape_7 : decode cX2_readTape 7 = .ok (.getstatic 9, 3) := by decide +kernel
theorem dX2_readTape_10 : decode cX2_readTape 10 = .ok (.iconst 0, 1) := by decide +kernel
theorem dX2_readTape_11 : decode cX2_readTape 11 = .ok (.aload_n 0, 1) := by decide +kernel
theorem dX2_readTape_12 : decode cX2_readTape 12 = .ok (.getfield 23, 3) := by decide +kernel
theorem dX2_readTape_15 : decode cX2_readTape 15 = .ok (.iconst 0, 1) := by decide +kernel
theorem dX2_readTape_16 : decode cX2_readTape 16 = .ok (.bipush 7, 2) := by decide +kernel
theorem dX2_readTape_18 : decode cX2_readTape 18 = .ok (.invokestatic 38, 3) := by decide +kernel
theorem dX2_readTape_21 : decode cX2_readTape 21 = .ok (.aload_n 0, 1) := by decide +kernel
theorem dX2_readTape_22 : decode cX2_readTape 22 = .ok (.iconst 0, 1) := by decide +kernel
theorem dX2_readTape_23 : decode cX2_readTape 23 = .ok (.putfield 44, 3) := by decide +kernel
theorem dX2_readTape_26 : decode cX2_readTape 26 = .ok (.aload_n 0, 1) := by decide +kernel
theorem dX2_readTape_27 : decode cX2_readTape 27 = .ok (.iconst 0, 1) := by decide +kernel
theorem dX2_readTape_28 : decode cX2_readTape 28 = .ok (.putfield 48, 3) := by decide +kernel
theorem dX2_readTape_31 : decode cX2_readTape 31 = .ok (.iconst 0, 1) := by decide +kernel
theorem dX2_readTape_32 : decode cX2_readTape 32 = .ok (.istore_n 1, 1) := by decide +kernel
theorem dX2_readTape_33 : decode cX2_readTape 33 = .ok (.iload_n 1, 1) := by decide +kernel
theorem dX2_readTape_34 : decode cX2_readTape 34 = .ok (.bipush 7, 2) := by decide +kernel
theorem dX2_readTape_36 : decode cX2_readTape 36 = .ok (.if_icmp .gt 55, 3) := by decide +kernel
theorem dX2_readTape_39 : decode cX2_readTape 39 = .ok (.aload_n 0, 1) := by decide +kernel
theorem dX2_readTape_40 : decode cX2_readTape 40 = .ok (.getfield 31, 3) := by decide +kernel
theorem dX2_readTape_43 : decode cX2_readTape 43 = .ok (.invokevirtual 51, 3) := by decide +kernel
theorem dX2_readTape_46 : decode cX2_readTape 46 = .ok (.aload_n 0, 1) := by decide +kernel
theorem dX2_readTape_47 : decode cX2_readTape 47 = .ok (.getfield 31, 3) := by decide +kernel
theorem dX2_readTape_50 : decode cX2_readTape 50 = .ok (.getfield 54, 3) := by decide +kernel
theorem dX2_readTape_53 : decode cX2_readTape 53 = .ok (.ifCond .ne 6, 3) := by decide +kernel
theorem dX2_readTape_56 : decode cX2_readTape 56 = .ok (.goto 35, 3) := by decide +kernel
theorem dX2_readTape_59 : decode cX2_readTape 59 = .ok (.aload_n 0, 1) := by decide +kernel
theorem dX2_readTape_60 : decode cX2_readTape 60 = .ok (.aload_n 0, 1) := by decide +kernel
theorem dX2_readTape_61 : decode cX2_readTape 61 = .ok (.invokevirtual 57, 3) := by decide +kernel
theorem dX2_readTape_64 : decode cX2_readTape 64 = .ok (.putfield 48, 3) := by decide +kernel
theorem dX2_readTape_67 : decode cX2_readTape 67 = .ok (.aload_n 0, 1) := by decide +kernel
theorem dX2_readTape_68 : decode cX2_readTape 68 = .ok (.getfield 48, 3) := by decide +kernel
theorem dX2_readTape_71 : decode cX2_readTape 71 = .ok (.ifCond .eq 14, 3) := by decide +kernel
theorem dX2_readTape_74 : decode cX2_readTape 74 = .ok (.bipush (-10), 2) := by decide +kernel
theorem dX2_readTape_76 : decode cX2_readTape 76 = .ok (.aload_n 0, 1) := by decide +kernel
theorem dX2_readTape_77 : decode cX2_readTape 77 = .ok (.getfield 31, 3) := by decide +kernel
theorem dX2_readTape_80 : decode cX2_readTape 80 = .ok (.getfield 61, 3) := by decide +kernel
theorem dX2_readTape_83 : decode cX2_readTape 83 = .ok (.isub, 1) := by decide +kernel
theorem dX2_readTape_84 : decode cX2_readTape 84 = .ok (.ireturn, 1) := by decide +kernel
theorem dX2_readTape_85 : decode cX2_readTape 85 = .ok (.iinc 1 1, 3) := by decide +kernel
theorem dX2_readTape_88 : decode cX2_readTape 88 = .ok (.goto (-55), 3) := by decide +kernel
theorem dX2_readTape_91 : decode cX2_readTape 91 = .ok (.aload_n 0, 1) := by decide +kernel
theorem dX2_readTape_92 : decode cX2_readTape 92 = .ok (.getfield 23, 3) := by decide +kernel
theorem dX2_readTape_95 : decode cX2_readTape 95 = .ok (.iconst 0, 1) := by decide +kernel
theorem dX2_readTape_96 : decode cX2_readTape 96 = .ok (.aload_n 0, 1) := by decide +kernel
theorem dX2_readTape_97 : decode cX2_readTape 97 = .ok (.getfield 18, 3) := by decide +kernel
theorem dX2_readTape_100 : decode cX2_readTape 100 = .ok (.iconst 0, 1) := by decide +kernel
theorem dX2_readTape_101 : decode cX2_readTape 101 = .ok (.bipush 7, 2) := by decide +kernel
theorem dX2_readTape_103 : decode cX2_readTape 103 = .ok (.invokestatic 38, 3) := by decide +kernel
theorem dX2_readTape_106 : decode cX2_readTape 106 = .ok (.aload_n 0, 1) := by decide +kernel
theorem dX2_readTape_107 : decode cX2_readTape 107 = .ok (.aload_n 0, 1) := by decide +kernel
theorem dX2_readTape_108 : decode cX2_readTape 108 = .ok (.getfield 44, 3) := by decide +kernel
theorem dX2_readTape_111 : decode cX2_readTape 111 = .ok (.invokestatic 64, 3) := by decide +kernel
theorem dX2_readTape_114 : decode cX2_readTape 114 = .ok (.putfield 70, 3) := by decide +kernel
theorem dX2_readTape_117 : decode cX2_readTape 117 = .ok (.aload_n 0, 1) := by decide +kernel
theorem dX2_readTape_118 : decode cX2_readTape 118 = .ok (.getfield 70, 3) := by decide +kernel
theorem dX2_readTape_121 : decode cX2_readTape 121 = .ok (.ireturn, 1) := by decide +kernel
theorem dX2_readLaw_0 : decode cX2_readLaw 0 = .ok (.aload_n 0, 1) := by decide +kernel
theorem dX2_readLaw_1 : decode cX2_readLaw 1 = .ok (.getfield 31, 3) := by decide +kernel
theorem dX2_readLaw_4 : decode cX2_readLaw 4 = .ok (.getfield 54, 3) := by decide +kernel
theorem dX2_readLaw_7 : decode cX2_readLaw 7 = .ok (.iconst 1, 1) := by decide +kernel
theorem dX2_readLaw_8 : decode cX2_readLaw 8 = .ok (.if_icmp .ne 15, 3) := by decide +kernel
theorem dX2_readLaw_11 : decode cX2_readLaw 11 = .ok (.aload_n 0, 1) := by decide +kernel
theorem dX2_readLaw_12 : decode cX2_readLaw 12 = .ok (.getfield 31, 3) := by decide +kernel
theorem dX2_readLaw_15 : decode cX2_readLaw 15 = .ok (.getfield 73, 3) := by decide +kernel
theorem dX2_readLaw_18 : decode cX2_readLaw 18 = .ok (.bipush 7, 2) := by decide +kernel
theorem dX2_readLaw_20 : decode cX2_readLaw 20 = .ok (.if_icmp .lt 8, 3) := by decide +kernel
theorem dX2_readLaw_23 : decode cX2_readLaw 23 = .ok (.aload_n 0, 1) := by decide +kernel
theorem dX2_readLaw_24 : decode cX2_readLaw 24 = .ok (.invokevirtual 75, 3) := by decide +kernel
theorem dX2_readLaw_27 : decode cX2_readLaw 27 = .ok (.ireturn, 1) := by decide +kernel
theorem dX2_readLaw_28 : decode cX2_readLaw 28 = .ok (.aload_n 0, 1) := by decide +kernel
theorem dX2_readLaw_29 : decode cX2_readLaw 29 = .ok (.getfield 31, 3) := by decide +kernel
theorem dX2_readLaw_32 : decode cX2_readLaw 32 = .ok (.getfield 73, 3) := by decide +kernel
theorem dX2_readLaw_35 : decode cX2_readLaw 35 = .ok (.istore_n 1, 1) := by decide +kernel
theorem dX2_readLaw_36 : decode cX2_readLaw 36 = .ok (.aload_n 0, 1) := by decide +kernel
theorem dX2_readLaw_37 : decode cX2_readLaw 37 = .ok (.getfield 44, 3) := by decide +kernel
theorem dX2_readLaw_40 : decode cX2_readLaw 40 = .ok (.iload_n 1, 1) := by decide +kernel
theorem dX2_readLaw_41 : decode cX2_readLaw 41 = .ok (.ishr, 1) := by decide +kernel
theorem dX2_readLaw_42 : decode cX2_readLaw 42 = .ok (.iconst 1, 1) := by decide +kernel
theorem dX2_readLaw_43 : decode cX2_readLaw 43 = .ok (.iand, 1) := by decide +kernel
theorem dX2_readLaw_44 : decode cX2_readLaw 44 = .ok (.ifCond .eq 5, 3) := by decide +kernel
theorem dX2_readLaw_47 : decode cX2_readLaw 47 = .ok (.iconst 4, 1) := by decide +kernel
theorem dX2_readLaw_48 : decode cX2_readLaw 48 = .ok (.ireturn, 1) := by decide +kernel
theorem dX2_readLaw_49 : decode cX2_readLaw 49 = .ok (.aload_n 0, 1) := by decide +kernel
theorem dX2_readLaw_50 : decode cX2_readLaw 50 = .ok (.dup, 1) := by decide +kernel
theorem dX2_readLaw_51 : decode cX2_readLaw 51 = .ok (.getfield 44, 3) := by decide +kernel
theorem dX2_readLaw_54 : decode cX2_readLaw 54 = .ok (.iconst 1, 1) := by decide +kernel
theorem dX2_readLaw_55 : decode cX2_readLaw 55 = .ok (.iload_n 1, 1) := by decide +kernel
theorem dX2_readLaw_56 : decode cX2_readLaw 56 = .ok (.ishl, 1) := by decide +kernel
theorem dX2_readLaw_57 : decode cX2_readLaw 57 = .ok (.ior, 1) := by decide +kernel
theorem dX2_readLaw_58 : decode cX2_readLaw 58 = .ok (.putfield 44, 3) := by decide +kernel
theorem dX2_readLaw_61 : decode cX2_readLaw 61 = .ok (.aload_n 0, 1) := by decide +kernel
theorem dX2_readLaw_62 : decode cX2_readLaw 62 = .ok (.getfield 31, 3) := by decide +kernel
theorem dX2_readLaw_65 : decode cX2_readLaw 65 = .ok (.invokevirtual 51, 3) := by decide +kernel
theorem dX2_readLaw_68 : decode cX2_readLaw 68 = .ok (.iload_n 1, 1) := by decide +kernel
theorem dX2_readLaw_69 : decode cX2_readLaw 69 = .ok (.iconst 5, 1) := by decide +kernel
theorem dX2_readLaw_70 : decode cX2_readLaw 70 = .ok (.if_icmp .ge 11, 3) := by decide +kernel
theorem dX2_readLaw_73 : decode cX2_readLaw 73 = .ok (.aload_n 0, 1) := by decide +kernel
theorem dX2_readLaw_74 : decode cX2_readLaw 74 = .ok (.iload_n 1, 1) := by decide +kernel
theorem dX2_readLaw_75 : decode cX2_readLaw 75 = .ok (.invokevirtual 78, 3) := by decide +kernel
theorem dX2_readLaw_78 : decode cX2_readLaw 78 = .ok (.goto 8, 3) := by decide +kernel
theorem dX2_readLaw_81 : decode cX2_readLaw 81 = .ok (.aload_n 0, 1) := by decide +kernel
theorem dX2_readLaw_82 : decode cX2_readLaw 82 = .ok (.iload_n 1, 1) := by decide +kernel
theorem dX2_readLaw_83 : decode cX2_readLaw 83 = .ok (.invokevirtual 81, 3) := by decide +kernel
theorem dX2_readLaw_86 : decode cX2_readLaw 86 = .ok (.istore_n 2, 1) := by decide +kernel
theorem dX2_readLaw_87 : decode cX2_readLaw 87 = .ok (.iload_n 2, 1) := by decide +kernel
theorem dX2_readLaw_88 : decode cX2_readLaw 88 = .ok (.ifCond .eq 5, 3) := by decide +kernel
theorem dX2_readLaw_91 : decode cX2_readLaw 91 = .ok (.iload_n 2, 1) := by decide +kernel
theorem dX2_readLaw_92 : decode cX2_readLaw 92 = .ok (.ireturn, 1) := by decide +kernel
theorem dX2_readLaw_93 : decode cX2_readLaw 93 = .ok (.aload_n 0, 1) := by decide +kernel
theorem dX2_readLaw_94 : decode cX2_readLaw 94 = .ok (.getfield 31, 3) := by decide +kernel
theorem dX2_readLaw_97 : decode cX2_readLaw 97 = .ok (.invokevirtual 51, 3) := by decide +kernel
theorem dX2_readLaw_100 : decode cX2_readLaw 100 = .ok (.aload_n 0, 1) := by decide +kernel
theorem dX2_readLaw_101 : decode cX2_readLaw 101 = .ok (.getfield 31, 3) := by decide +kernel
theorem dX2_readLaw_104 : decode cX2_readLaw 104 = .ok (.getfield 54, 3) := by decide +kernel
theorem dX2_readLaw_107 : decode cX2_readLaw 107 = .ok (.iconst 3, 1) := by decide +kernel
theorem dX2_readLaw_108 : decode cX2_readLaw 108 = .ok (.if_icmp .ne 7, 3) := by decide +kernel
theorem dX2_readLaw_111 : decode cX2_readLaw 111 = .ok (.iconst 0, 1) := by decide +kernel
theorem dX2_readLaw_112 : decode cX2_readLaw 112 = .ok (.goto 7, 3) := by decide +kernel
theorem dX2_readLaw_115 : decode cX2_readLaw 115 = .ok (.aload_n 0, 1) := by decide +kernel
theorem dX2_readLaw_116 : decode cX2_readLaw 116 = .ok (.invokevirtual 75, 3) := by decide +kernel
theorem dX2_readLaw_119 : decode cX2_readLaw 119 = .ok (.ireturn, 1) := by decide +kernel
theorem dX2_readAmount_0 : decode cX2_readAmount 0 = .ok (.aload_n 0, 1) := by decide +kernel
theorem dX2_readAmount_1 : decode cX2_readAmount 1 = .ok (.getfield 31, 3) := by decide +kernel
theorem dX2_readAmount_4 : decode cX2_readAmount 4 = .ok (.getfield 54, 3) := by decide +kernel
theorem dX2_readAmount_7 : decode cX2_readAmount 7 = .ok (.iconst 2, 1) := by decide +kernel
theorem dX2_readAmount_8 : decode cX2_readAmount 8 = .ok (.if_icmp .eq 8, 3) := by decide +kernel
theorem dX2_readAmount_11 : decode cX2_readAmount 11 = .ok (.aload_n 0, 1) := by decide +kernel
theorem dX2_readAmount_12 : decode cX2_readAmount 12 = .ok (.invokevirtual 75, 3) := by decide +kernel
theorem dX2_readAmount_15 : decode cX2_readAmount 15 = .ok (.ireturn, 1) := by decide +kernel
theorem dX2_readAmount_16 : decode cX2_readAmount 16 = .ok (.aload_n 0, 1) := by decide +kernel
theorem dX2_readAmount_17 : decode cX2_readAmount 17 = .ok (.getfield 31, 3) := by decide +kernel
theorem dX2_readAmount_20 : decode cX2_readAmount 20 = .ok (.getfield 73, 3) := by decide +kernel
theorem dX2_readAmount_23 : decode cX2_readAmount 23 = .ok (.getstatic 84, 3) := by decide +kernel
theorem dX2_readAmount_26 : decode cX2_readAmount 26 = .ok (.iload_n 1, 1) := by decide +kernel
theorem dX2_readAmount_27 : decode cX2_readAmount 27 = .ok (.iaload, 1) := by decide +kernel
theorem dX2_readAmount_28 : decode cX2_readAmount 28 = .ok (.getstatic 87, 3) := by decide +kernel
theorem dX2_readAmount_31 : decode cX2_readAmount 31 = .ok (.iload_n 1, 1) := by decide +kernel
theorem dX2_readAmount_32 : decode cX2_readAmount 32 = .ok (.iaload, 1) := by decide +kernel
theorem dX2_readAmount_33 : decode cX2_readAmount 33 = .ok (.invokestatic 90, 3) := by decide +kernel
theorem dX2_readAmount_36 : decode cX2_readAmount 36 = .ok (.ifCond .ne 5, 3) := by decide +kernel
theorem dX2_readAmount_39 : decode cX2_readAmount 39 = .ok (.iconst 3, 1) := by decide +kernel
theorem dX2_readAmount_40 : decode cX2_readAmount 40 = .ok (.ireturn, 1) := by decide +kernel
theorem dX2_readAmount_41 : decode cX2_readAmount 41 = .ok (.aload_n 0, 1) := by decide +kernel
theorem dX2_readAmount_42 : decode cX2_readAmount 42 = .ok (.getfield 23, 3) := by decide +kernel
theorem dX2_readAmount_45 : decode cX2_readAmount 45 = .ok (.iload_n 1, 1) := by decide +kernel
theorem dX2_readAmount_46 : decode cX2_readAmount 46 = .ok (.aload_n 0, 1) := by decide +kernel
theorem dX2_readAmount_47 : decode cX2_readAmount 47 = .ok (.getfield 31, 3) := by decide +kernel
theorem dX2_readAmount_50 : decode cX2_readAmount 50 = .ok (.getfield 73, 3) := by decide +kernel
theorem dX2_readAmount_53 : decode cX2_readAmount 53 = .ok (.iastore, 1) := by decide +kernel
theorem dX2_readAmount_54 : decode cX2_readAmount 54 = .ok (.iconst 0, 1) := by decide +kernel
theorem dX2_readAmount_55 : decode cX2_readAmount 55 = .ok (.ireturn, 1) := by decide +kernel
theorem dX2_readWay_0 : decode cX2_readWay 0 = .ok (.aload_n 0, 1) := by decide +kernel
theorem dX2_readWay_1 : decode cX2_readWay 1 = .ok (.getfield 31, 3) := by decide +kernel
theorem dX2_readWay_4 : decode cX2_readWay 4 = .ok (.getfield 54, 3) := by decide +kernel
theorem dX2_readWay_7 : decode cX2_readWay 7 = .ok (.iconst 1, 1) := by decide +kernel
theorem dX2_readWay_8 : decode cX2_readWay 8 = .ok (.if_icmp .ne 17, 3) := by decide +kernel
theorem dX2_readWay_11 : decode cX2_readWay 11 = .ok (.getstatic 94, 3) := by decide +kernel
theorem dX2_readWay_14 : decode cX2_readWay 14 = .ok (.aload_n 0, 1) := by decide +kernel
theorem dX2_readWay_15 : decode cX2_readWay 15 = .ok (.getfield 31, 3) := by decide +kernel
theorem dX2_readWay_18 : decode cX2_readWay 18 = .ok (.getfield 73, 3) := by decide +kernel
theorem dX2_readWay_21 : decode cX2_readWay 21 = .ok (.iaload, 1) := by decide +kernel
theorem dX2_readWay_22 : decode cX2_readWay 22 = .ok (.ifCond .ge 8, 3) := by decide +kernel
theorem dX2_readWay_25 : decode cX2_readWay 25 = .ok (.aload_n 0, 1) := by decide +kernel
theorem dX2_readWay_26 : decode cX2_readWay 26 = .ok (.invokevirtual 75, 3) := by decide +kernel
theorem dX2_readWay_29 : decode cX2_readWay 29 = .ok (.ireturn, 1) := by decide +kernel
theorem dX2_readWay_30 : decode cX2_readWay 30 = .ok (.aload_n 0, 1) := by decide +kernel
theorem dX2_readWay_31 : decode cX2_readWay 31 = .ok (.getfield 23, 3) := by decide +kernel
theorem dX2_readWay_34 : decode cX2_readWay 34 = .ok (.iload_n 1, 1) := by decide +kernel
theorem dX2_readWay_35 : decode cX2_readWay 35 = .ok (.getstatic 94, 3) := by decide +kernel
theorem dX2_readWay_38 : decode cX2_readWay 38 = .ok (.aload_n 0, 1) := by decide +kernel
theorem dX2_readWay_39 : decode cX2_readWay 39 = .ok (.getfield 31, 3) := by decide +kernel
theorem dX2_readWay_42 : decode cX2_readWay 42 = .ok (.getfield 73, 3) := by decide +kernel
theorem dX2_readWay_45 : decode cX2_readWay 45 = .ok (.iaload, 1) := by decide +kernel
theorem dX2_readWay_46 : decode cX2_readWay 46 = .ok (.iastore, 1) := by decide +kernel
theorem dX2_readWay_47 : decode cX2_readWay 47 = .ok (.iconst 0, 1) := by decide +kernel
theorem dX2_readWay_48 : decode cX2_readWay 48 = .ok (.ireturn, 1) := by decide +kernel
theorem dX2_misfit_0 : decode cX2_misfit 0 = .ok (.aload_n 0, 1) := by decide +kernel
theorem dX2_misfit_1 : decode cX2_misfit 1 = .ok (.getfield 31, 3) := by decide +kernel
theorem dX2_misfit_4 : decode cX2_misfit 4 = .ok (.getfield 54, 3) := by decide +kernel
theorem dX2_misfit_7 : decode cX2_misfit 7 = .ok (.iconst 4, 1) := by decide +kernel
theorem dX2_misfit_8 : decode cX2_misfit 8 = .ok (.if_icmp .ne 7, 3) := by decide +kernel
theorem dX2_misfit_11 : decode cX2_misfit 11 = .ok (.iconst 1, 1) := by decide +kernel
theorem dX2_misfit_12 : decode cX2_misfit 12 = .ok (.goto 4, 3) := by decide +kernel
theorem dX2_misfit_15 : decode cX2_misfit 15 = .ok (.iconst 2, 1) := by decide +kernel
theorem dX2_misfit_16 : decode cX2_misfit 16 = .ok (.ireturn, 1) := by decide +kernel
