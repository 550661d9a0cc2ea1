theorem dX7_init_0 : decode cX7_init 0 = .ok (.aload_n 0, 1) := by decide +kernel
theorem dX7_init_1 : decode cX7_init 1 = .ok (.invokespecial 3, 3) := by decide +kernel
theorem dX7_init_4 : decode cX7_init 4 = .ok (.aload_n 0, 1) := by decide +kernel
theorem dX7_init_5 : decode cX7_init 5 = .ok (.bipush 10, 2) := by decide +kernel
theorem dX7_init_7 : decode cX7_init 7 = .ok (.newarray .int, 2) := by decide +kernel
theorem dX7_init_9 : decode cX7_init 9 = .ok (.putfield 9, 3) := by decide +kernel
theorem dX7_init_12 : decode cX7_init 12 = .ok (.aload_n 0, 1) := by decide +kernel
theorem dX7_init_13 : decode cX7_init 13 = .ok (.bipush 10, 2) := by decide +kernel
theorem dX7_init_15 : decode cX7_init 15 = .ok (.newarray .int, 2) := by decide +kernel
theorem dX7_init_17 : decode cX7_init 17 = .ok (.putfield 15, 3) := by decide +kernel
theorem dX7_init_20 : decode cX7_init 20 = .ok (.aload_n 0, 1) := by decide +kernel
theorem dX7_init_21 : decode cX7_init 21 = .ok (.bipush 10, 2) := by decide +kernel
theorem dX7_init_23 : decode cX7_init 23 = .ok (.newarray .int, 2) := by decide +kernel
theorem dX7_init_25 : decode cX7_init 25 = .ok (.putfield 18, 3) := by decide +kernel
theorem dX7_init_28 : decode cX7_init 28 = .ok (.aload_n 0, 1) := by decide +kernel
theorem dX7_init_29 : decode cX7_init 29 = .ok (.aload_n 1, 1) := by decide +kernel
theorem dX7_init_30 : decode cX7_init 30 = .ok (.putfield 21, 3) := by decide +kernel
theorem dX7_init_33 : decode cX7_init 33 = .ok (.aload_n 0, 1) := by decide +kernel
theorem dX7_init_34 : decode cX7_init 34 = .ok (.aload_n 2, 1) := by decide +kernel
theorem dX7_init_35 : decode cX7_init 35 = .ok (.putfield 25, 3) := by decide +kernel
theorem dX7_init_38 : decode cX7_init 38 = .ok (.return_, 1) := by decide +kernel
theorem dX7_fewest_0 : decode cX7_fewest 0 = .ok (.aload_n 0, 1) := by decide +kernel
theorem dX7_fewest_1 : decode cX7_fewest 1 = .ok (.iload_n 1, 1) := by decide +kernel
theorem dX7_fewest_2 : decode cX7_fewest 2 = .ok (.invokevirtual 29, 3) := by decide +kernel
theorem dX7_fewest_5 : decode cX7_fewest 5 = .ok (.aload_n 0, 1) := by decide +kernel
theorem dX7_fewest_6 : decode cX7_fewest 6 = .ok (.getfield 25, 3) := by decide +kernel
theorem dX7_fewest_9 : decode cX7_fewest 9 = .ok (.getfield 33, 3) := by decide +kernel
theorem dX7_fewest_12 : decode cX7_fewest 12 = .ok (.iconst 3, 1) := by decide +kernel
theorem dX7_fewest_13 : decode cX7_fewest 13 = .ok (.iaload, 1) := by decide +kernel
theorem dX7_fewest_14 : decode cX7_fewest 14 = .ok (.istore_n 2, 1) := by decide +kernel
theorem dX7_fewest_15 : decode cX7_fewest 15 = .ok (.iconst 0, 1) := by decide +kernel
theorem dX7_fewest_16 : decode cX7_fewest 16 = .ok (.istore_n 3, 1) := by decide +kernel
theorem dX7_fewest_17 : decode cX7_fewest 17 = .ok (.iconst 0, 1) := by decide +kernel
theorem dX7_fewest_18 : decode cX7_fewest 18 = .ok (.istore 4, 2) := by decide +kernel
theorem dX7_fewest_20 : decode cX7_fewest 20 = .ok (.iload 4, 2) := by decide +kernel
theorem dX7_fewest_22 : decode cX7_fewest 22 = .ok (.aload_n 0, 1) := by decide +kernel
theorem dX7_fewest_23 : decode cX7_fewest 23 = .ok (.getfield 38, 3) := by decide +kernel
theorem dX7_fewest_26 : decode cX7_fewest 26 = .ok (.if_icmp .ge 40, 3) := by decide +kernel
theorem dX7_fewest_29 : decode cX7_fewest 29 = .ok (.aload_n 0, 1) := by decide +kernel
theorem dX7_fewest_30 : decode cX7_fewest 30 = .ok (.getfield 21, 3) := by decide +kernel
theorem dX7_fewest_33 : decode cX7_fewest 33 = .ok (.getfield 42, 3) := by decide +kernel
theorem dX7_fewest_36 : decode cX7_fewest 36 = .ok (.aload_n 0, 1) := by decide +kernel
theorem dX7_fewest_37 : decode cX7_fewest 37 = .ok (.getfield 9, 3) := by decide +kernel
theorem dX7_fewest_40 : decode cX7_fewest 40 = .ok (.iload 4, 2) := by decide +kernel
theorem dX7_fewest_42 : decode cX7_fewest 42 = .ok (.iaload, 1) := by decide +kernel
theorem dX7_fewest_43 : decode cX7_fewest 43 = .ok (.iaload, 1) := by decide +kernel
theorem dX7_fewest_44 : decode cX7_fewest 44 = .ok (.istore 5, 2) := by decide +kernel
theorem dX7_fewest_46 : decode cX7_fewest 46 = .ok (.iload 5, 2) := by decide +kernel
theorem dX7_fewest_48 : decode cX7_fewest 48 = .ok (.iload_n 2, 1) := by decide +kernel
theorem dX7_fewest_49 : decode cX7_fewest 49 = .ok (.if_icmp .le 6, 3) := by decide +kernel
theorem dX7_fewest_52 : decode cX7_fewest 52 = .ok (.bipush (-4), 2) := by decide +kernel
theorem dX7_fewest_54 : decode cX7_fewest 54 = .ok (.ireturn, 1) := by decide +kernel
theorem dX7_fewest_55 : decode cX7_fewest 55 = .ok (.iload_n 3, 1) := by decide +kernel
theorem dX7_fewest_56 : decode cX7_fewest 56 = .ok (.iload 5, 2) := by decide +kernel
theorem dX7_fewest_58 : decode cX7_fewest 58 = .ok (.iadd, 1) := by decide +kernel
theorem dX7_fewest_59 : decode cX7_fewest 59 = .ok (.istore_n 3, 1) := by decide +kernel
theorem dX7_fewest_60 : decode cX7_fewest 60 = .ok (.iinc 4 1, 3) := by decide +kernel
theorem dX7_fewest_63 : decode cX7_fewest 63 = .ok (.goto (-43), 3) := by decide +kernel
theorem dX7_fewest_66 : decode cX7_fewest 66 = .ok (.iconst 0, 1) := by decide +kernel
theorem dX7_fewest_67 : decode cX7_fewest 67 = .ok (.istore 4, 2) := by decide +kernel
theorem dX7_fewest_69 : decode cX7_fewest 69 = .ok (.iload 4, 2) := by decide +kernel
theorem dX7_fewest_71 : decode cX7_fewest 71 = .ok (.aload_n 0, 1) := by decide +kernel
theorem dX7_fewest_72 : decode cX7_fewest 72 = .ok (.getfield 38, 3) := by decide +kernel
theorem dX7_fewest_75 : decode cX7_fewest 75 = .ok (.if_icmp .ge 31, 3) := by decide +kernel
theorem dX7_fewest_78 : decode cX7_fewest 78 = .ok (.iload 4, 2) := by decide +kernel
theorem dX7_fewest_80 : decode cX7_fewest 80 = .ok (.iload_n 2, 1) := by decide +kernel
theorem dX7_fewest_81 : decode cX7_fewest 81 = .ok (.imul, 1) := by decide +kernel
theorem dX7_fewest_82 : decode cX7_fewest 82 = .ok (.iload_n 3, 1) := by decide +kernel
theorem dX7_fewest_83 : decode cX7_fewest 83 = .ok (.if_icmp .lt 17, 3) := by decide +kernel
theorem dX7_fewest_86 : decode cX7_fewest 86 = .ok (.aload_n 0, 1) := by decide +kernel
theorem dX7_fewest_87 : decode cX7_fewest 87 = .ok (.iconst 0, 1) := by decide +kernel
theorem dX7_fewest_88 : decode cX7_fewest 88 = .ok (.iconst 0, 1) := by decide +kernel
theorem dX7_fewest_89 : decode cX7_fewest 89 = .ok (.iload 4, 2) := by decide +kernel
theorem dX7_fewest_91 : decode cX7_fewest 91 = .ok (.invokestatic 47, 3) := by decide +kernel
theorem dX7_fewest_94 : decode cX7_fewest 94 = .ok (.ifCond .eq 6, 3) := by decide +kernel
theorem dX7_fewest_97 : decode cX7_fewest 97 = .ok (.iload 4, 2) := by decide +kernel
theorem dX7_fewest_99 : decode cX7_fewest 99 = .ok (.ireturn, 1) := by decide +kernel
theorem dX7_fewest_100 : decode cX7_fewest 100 = .ok (.iinc 4 1, 3) := by decide +kernel
theorem dX7_fewest_103 : decode cX7_fewest 103 = .ok (.goto (-34), 3) := by decide +kernel
theorem dX7_fewest_106 : decode cX7_fewest 106 = .ok (.aload_n 0, 1) := by decide +kernel
theorem dX7_fewest_107 : decode cX7_fewest 107 = .ok (.iconst 0, 1) := by decide +kernel
theorem dX7_fewest_108 : decode cX7_fewest 108 = .ok (.iconst 0, 1) := by decide +kernel
theorem dX7_fewest_109 : decode cX7_fewest 109 = .ok (.aload_n 0, 1) := by decide +kernel
theorem dX7_fewest_110 : decode cX7_fewest 110 = .ok (.getfield 38, 3) := by decide +kernel
theorem dX7_fewest_113 : decode cX7_fewest 113 = .ok (.invokestatic 47, 3) := by decide +kernel
theorem dX7_fewest_116 : decode cX7_fewest 116 = .ok (.pop, 1) := by decide +kernel
theorem dX7_fewest_117 : decode cX7_fewest 117 = .ok (.aload_n 0, 1) := by decide +kernel
theorem dX7_fewest_118 : decode cX7_fewest 118 = .ok (.getfield 38, 3) := by decide +kernel
theorem dX7_fewest_121 : decode cX7_fewest 121 = .ok (.ireturn, 1) := by decide +kernel
theorem dX7_loadOf_0 : decode cX7_loadOf 0 = .ok (.iconst 0, 1) := by decide +kernel
theorem dX7_loadOf_1 : decode cX7_loadOf 1 = .ok (.istore_n 2, 1) := by decide +kernel
theorem dX7_loadOf_2 : decode cX7_loadOf 2 = .ok (.iload_n 2, 1) := by decide +kernel
theorem dX7_loadOf_3 : decode cX7_loadOf 3 = .ok (.aload_n 0, 1) := by decide +kernel
theorem dX7_loadOf_4 : decode cX7_loadOf 4 = .ok (.getfield 38, 3) := by decide +kernel
theorem dX7_loadOf_7 : decode cX7_loadOf 7 = .ok (.if_icmp .ge 26, 3) := by decide +kernel
theorem dX7_loadOf_10 : decode cX7_loadOf 10 = .ok (.aload_n 0, 1) := by decide +kernel
theorem dX7_loadOf_11 : decode cX7_loadOf 11 = .ok (.getfield 9, 3) := by decide +kernel
theorem dX7_loadOf_14 : decode cX7_loadOf 14 = .ok (.iload_n 2, 1) := by decide +kernel
theorem dX7_loadOf_15 : decode cX7_loadOf 15 = .ok (.iaload, 1) := by decide +kernel
theorem dX7_loadOf_16 : decode cX7_loadOf 16 = .ok (.iload_n 1, 1) := by decide +kernel
theorem dX7_loadOf_17 : decode cX7_loadOf 17 = .ok (.if_icmp .ne 10, 3) := by decide +kernel
theorem dX7_loadOf_20 : decode cX7_loadOf 20 = .ok (.aload_n 0, 1) := by decide +kernel
theorem dX7_loadOf_21 : decode cX7_loadOf 21 = .ok (.getfield 18, 3) := by decide +kernel
theorem dX7_loadOf_24 : decode cX7_loadOf 24 = .ok (.iload_n 2, 1) := by decide +kernel
theorem dX7_loadOf_25 : decode cX7_loadOf 25 = .ok (.iaload, 1) := by decide +kernel
theorem dX7_loadOf_26 : decode cX7_loadOf 26 = .ok (.ireturn, 1) := by decide +kernel
theorem dX7_loadOf_27 : decode cX7_loadOf 27 = .ok (.iinc 2 1, 3) := by decide +kernel
theorem dX7_loadOf_30 : decode cX7_loadOf 30 = .ok (.goto (-28), 3) := by decide +kernel
theorem dX7_loadOf_33 : decode cX7_loadOf 33 = .ok (.bipush (-4), 2) := by decide +kernel
theorem dX7_loadOf_35 : decode cX7_loadOf 35 = .ok (.ireturn, 1) := by decide +kernel
theorem dX7_gatherCargo_0 : decode cX7_gatherCargo 0 = .ok (.aload_n 0, 1) := by decide +kernel
theorem dX7_gatherCargo_1 : decode cX7_gatherCargo 1 = .ok (.iconst 0, 1) := by decide +kernel
theorem dX7_gatherCargo_2 : decode cX7_gatherCargo 2 = .ok (.putfield 38, 3) := by decide +kernel
theorem dX7_gatherCargo_5 : decode cX7_gatherCargo 5 = .ok (.iconst 0, 1) := by decide +kernel
theorem dX7_gatherCargo_6 : decode cX7_gatherCargo 6 = .ok (.istore_n 2, 1) := by decide +kernel
theorem dX7_gatherCargo_7 : decode cX7_gatherCargo 7 = .ok (.iload_n 2, 1) := by decide +kernel
theorem dX7_gatherCargo_8 : decode cX7_gatherCargo 8 = .ok (.aload_n 0, 1) := by decide +kernel
theorem dX7_gatherCargo_9 : decode cX7_gatherCargo 9 = .ok (.getfield 21, 3) := by decide +kernel
theorem dX7_gatherCargo_12 : decode cX7_gatherCargo 12 = .ok (.getfield 51, 3) := by decide +kernel
theorem dX7_gatherCargo_15 : decode cX7_gatherCargo 15 = .ok (.if_icmp .ge 41, 3) := by decide +kernel
theorem dX7_gatherCargo_18 : decode cX7_gatherCargo 18 = .ok (.aload_n 0, 1) := by decide +kernel
theorem dX7_gatherCargo_19 : decode cX7_gatherCargo 19 = .ok (.getfield 21, 3) := by decide +kernel
theorem dX7_gatherCargo_22 : decode cX7_gatherCargo 22 = .ok (.iload_n 2, 1) := by decide +kernel
theorem dX7_gatherCargo_23 : decode cX7_gatherCargo 23 = .ok (.invokevirtual 54, 3) := by decide +kernel
theorem dX7_gatherCargo_26 : decode cX7_gatherCargo 26 = .ok (.iload_n 1, 1) := by decide +kernel
theorem dX7_gatherCargo_27 : decode cX7_gatherCargo 27 = .ok (.if_icmp .ne 23, 3) := by decide +kernel
theorem dX7_gatherCargo_30 : decode cX7_gatherCargo 30 = .ok (.aload_n 0, 1) := by decide +kernel
theorem dX7_gatherCargo_31 : decode cX7_gatherCargo 31 = .ok (.getfield 9, 3) := by decide +kernel
theorem dX7_gatherCargo_34 : decode cX7_gatherCargo 34 = .ok (.aload_n 0, 1) := by decide +kernel
theorem dX7_gatherCargo_35 : decode cX7_gatherCargo 35 = .ok (.getfield 38, 3) := by decide +kernel
theorem dX7_gatherCargo_38 : decode cX7_gatherCargo 38 = .ok (.iload_n 2, 1) := by decide +kernel
theorem dX7_gatherCargo_39 : decode cX7_gatherCargo 39 = .ok (.iastore, 1) := by decide +kernel
theorem dX7_gatherCargo_40 : decode cX7_gatherCargo 40 = .ok (.aload_n 0, 1) := by decide +kernel
theorem dX7_gatherCargo_41 : decode cX7_gatherCargo 41 = .ok (.dup, 1) := by decide +kernel
theorem dX7_gatherCargo_42 : decode cX7_gatherCargo 42 = .ok (.getfield 38, 3) := by decide +kernel
theorem dX7_gatherCargo_45 : decode cX7_gatherCargo 45 = .ok (.iconst 1, 1) := by decide +kernel
theorem dX7_gatherCargo_46 : decode cX7_gatherCargo 46 = .ok (.iadd, 1) := by decide +kernel
theorem dX7_gatherCargo_47 : decode cX7_gatherCargo 47 = .ok (.putfield 38, 3) := by decide +kernel
theorem dX7_gatherCargo_50 : decode cX7_gatherCargo 50 = .ok (.iinc 2 1, 3) := by decide +kernel
theorem dX7_gatherCargo_53 : decode cX7_gatherCargo 53 = .ok (.goto (-46), 3) := by decide +kernel
theorem dX7_gatherCargo_56 : decode cX7_gatherCargo 56 = .ok (.iconst 0, 1) := by decide +kernel
theorem dX7_gatherCargo_57 : decode cX7_gatherCargo 57 = .ok (.istore_n 2, 1) := by decide +kernel
theorem dX7_gatherCargo_58 : decode cX7_gatherCargo 58 = .ok (.iload_n 2, 1) := by decide +kernel
theorem dX7_gatherCargo_59 : decode cX7_gatherCargo 59 = .ok (.bipush 10, 2) := by decide +kernel
theorem dX7_gatherCargo_61 : decode cX7_gatherCargo 61 = .ok (.if_icmp .ge 16, 3) := by decide +kernel
theorem dX7_gatherCargo_64 : decode cX7_gatherCargo 64 = .ok (.aload_n 0, 1) := by decide +kernel
theorem dX7_gatherCargo_65 : decode cX7_gatherCargo 65 = .ok (.getfield 15, 3) := by decide +kernel
theorem dX7_gatherCargo_68 : decode cX7_gatherCargo 68 = .ok (.iload_n 2, 1) := by decide +kernel
theorem dX7_gatherCargo_69 : decode cX7_gatherCargo 69 = .ok (.iconst 0, 1) := by decide +kernel
theorem dX7_gatherCargo_70 : decode cX7_gatherCargo 70 = .ok (.iastore, 1) := by decide +kernel
theorem dX7_gatherCargo_71 : decode cX7_gatherCargo 71 = .ok (.iinc 2 1, 3) := by decide +kernel
theorem dX7_gatherCargo_74 : decode cX7_gatherCargo 74 = .ok (.goto (-16), 3) := by decide +kernel
theorem dX7_gatherCargo_77 : decode cX7_gatherCargo 77 = .ok (.return_, 1) := by decide +kernel
theorem dX7_packs_0 : decode cX7_packs 0 = .ok (.iload_n 1, 1) := by decide +kernel
theorem dX7_packs_1 : decode cX7_packs 1 = .ok (.aload_n 0, 1) := by decide +kernel
theorem dX7_packs_2 : decode cX7_packs 2 = .ok (.getfield 38, 3) := by decide +kernel
theorem dX7_packs_5 : decode cX7_packs 5 = .ok (.if_icmp .lt 5, 3) := by decide +kernel
theorem dX7_packs_8 : decode cX7_packs 8 = .ok (.iconst 1, 1) := by decide +kernel
theorem dX7_packs_9 : decode cX7_packs 9 = .ok (.ireturn, 1) := by decide +kernel
theorem dX7_packs_10 : decode cX7_packs 10 = .ok (.aload_n 0, 1) := by decide +kernel
theorem dX7_packs_11 : decode cX7_packs 11 = .ok (.getfield 21, 3) := by decide +kernel
theorem dX7_packs_14 : decode cX7_packs 14 = .ok (.getfield 42, 3) := by decide +kernel
theorem dX7_packs_17 : decode cX7_packs 17 = .ok (.aload_n 0, 1) := by decide +kernel
theorem dX7_packs_18 : decode cX7_packs 18 = .ok (.getfield 9, 3) := by decide +kernel
theorem dX7_packs_21 : decode cX7_packs 21 = .ok (.iload_n 1, 1) := by decide +kernel
theorem dX7_packs_22 : decode cX7_packs 22 = .ok (.iaload, 1) := by decide +kernel
theorem dX7_packs_23 : decode cX7_packs 23 = .ok (.iaload, 1) := by decide +kernel
theorem dX7_packs_24 : decode cX7_packs 24 = .ok (.istore 4, 2) := by decide +kernel
theorem dX7_packs_26 : decode cX7_packs 26 = .ok (.iconst 0, 1) := by decide +kernel
theorem dX7_packs_27 : decode cX7_packs 27 = .ok (.istore 5, 2) := by decide +kernel
theorem dX7_packs_29 : decode cX7_packs 29 = .ok (.iload 5, 2) := by decide +kernel
theorem dX7_packs_31 : decode cX7_packs 31 = .ok (.iload_n 2, 1) := by decide +kernel
theorem dX7_packs_32 : decode cX7_packs 32 = .ok (.if_icmp .gt 102, 3) := by decide +kernel
theorem dX7_packs_35 : decode cX7_packs 35 = .ok (.iload 5, 2) := by decide +kernel
theorem dX7_packs_37 : decode cX7_packs 37 = .ok (.iload_n 3, 1) := by decide +kernel
theorem dX7_packs_38 : decode cX7_packs 38 = .ok (.if_icmp .ge 96, 3) := by decide +kernel
theorem dX7_packs_41 : decode cX7_packs 41 = .ok (.aload_n 0, 1) := by decide +kernel
theorem dX7_packs_42 : decode cX7_packs 42 = .ok (.getfield 15, 3) := by decide +kernel
theorem dX7_packs_45 : decode cX7_packs 45 = .ok (.iload 5, 2) := by decide +kernel
theorem dX7_packs_47 : decode cX7_packs 47 = .ok (.iaload, 1) := by decide +kernel
theorem dX7_packs_48 : decode cX7_packs 48 = .ok (.iload 4, 2) := by decide +kernel
theorem dX7_packs_50 : decode cX7_packs 50 = .ok (.iadd, 1) := by decide +kernel
theorem dX7_packs_51 : decode cX7_packs 51 = .ok (.aload_n 0, 1) := by decide +kernel
theorem dX7_packs_52 : decode cX7_packs 52 = .ok (.getfield 25, 3) := by decide +kernel
theorem dX7_packs_55 : decode cX7_packs 55 = .ok (.getfield 33, 3) := by decide +kernel
theorem dX7_packs_58 : decode cX7_packs 58 = .ok (.iconst 3, 1) := by decide +kernel
theorem dX7_packs_59 : decode cX7_packs 59 = .ok (.iaload, 1) := by decide +kernel
theorem dX7_packs_60 : decode cX7_packs 60 = .ok (.if_icmp .gt 68, 3) := by decide +kernel
theorem dX7_packs_63 : decode cX7_packs 63 = .ok (.aload_n 0, 1) := by decide +kernel
theorem dX7_packs_64 : decode cX7_packs 64 = .ok (.iload 5, 2) := by decide +kernel
theorem dX7_packs_66 : decode cX7_packs 66 = .ok (.invokevirtual 58, 3) := by decide +kernel
theorem dX7_packs_69 : decode cX7_packs 69 = .ok (.ifCond .eq 6, 3) := by decide +kernel
theorem dX7_packs_72 : decode cX7_packs 72 = .ok (.goto 56, 3) := by decide +kernel
theorem dX7_packs_75 : decode cX7_packs 75 = .ok (.aload_n 0, 1) := by decide +kernel
theorem dX7_packs_76 : decode cX7_packs 76 = .ok (.getfield 15, 3) := by decide +kernel
theorem dX7_packs_79 : decode cX7_packs 79 = .ok (.iload 5, 2) := by decide +kernel
theorem dX7_packs_81 : decode cX7_packs 81 = .ok (.dup2, 1) := by decide +kernel
theorem dX7_packs_82 : decode cX7_packs 82 = .ok (.iaload, 1) := by decide +kernel
theorem dX7_packs_83 : decode cX7_packs 83 = .ok (.iload 4, 2) := by decide +kernel
theorem dX7_packs_85 : decode cX7_packs 85 = .ok (.iadd, 1) := by decide +kernel
theorem dX7_packs_86 : decode cX7_packs 86 = .ok (.iastore, 1) := by decide +kernel
theorem dX7_packs_87 : decode cX7_packs 87 = .ok (.aload_n 0, 1) := by decide +kernel
theorem dX7_packs_88 : decode cX7_packs 88 = .ok (.getfield 18, 3) := by decide +kernel
theorem dX7_packs_91 : decode cX7_packs 91 = .ok (.iload_n 1, 1) := by decide +kernel
theorem dX7_packs_92 : decode cX7_packs 92 = .ok (.iload 5, 2) := by decide +kernel
theorem dX7_packs_94 : decode cX7_packs 94 = .ok (.iastore, 1) := by decide +kernel
theorem dX7_packs_95 : decode cX7_packs 95 = .ok (.aload_n 0, 1) := by decide +kernel
theorem dX7_packs_96 : decode cX7_packs 96 = .ok (.iload_n 1, 1) := by decide +kernel
theorem dX7_packs_97 : decode cX7_packs 97 = .ok (.iconst 1, 1) := by decide +kernel
theorem dX7_packs_98 : decode cX7_packs 98 = .ok (.iadd, 1) := by decide +kernel
theorem dX7_packs_99 : decode cX7_packs 99 = .ok (.iload_n 2, 1) := by decide +kernel
theorem dX7_packs_100 : decode cX7_packs 100 = .ok (.iload 5, 2) := by decide +kernel
theorem dX7_packs_102 : decode cX7_packs 102 = .ok (.iconst 1, 1) := by decide +kernel
theorem dX7_packs_103 : decode cX7_packs 103 = .ok (.iadd, 1) := by decide +kernel
theorem dX7_packs_104 : decode cX7_packs 104 = .ok (.invokestatic 62, 3) := by decide +kernel
theorem dX7_packs_107 : decode cX7_packs 107 = .ok (.iload_n 3, 1) := by decide +kernel
theorem dX7_packs_108 : decode cX7_packs 108 = .ok (.invokestatic 47, 3) := by decide +kernel
theorem dX7_packs_111 : decode cX7_packs 111 = .ok (.ifCond .eq 5, 3) := by decide +kernel
theorem dX7_packs_114 : decode cX7_packs 114 = .ok (.iconst 1, 1) := by decide +kernel
theorem dX7_packs_115 : decode cX7_packs 115 = .ok (.ireturn, 1) := by decide +kernel
theorem dX7_packs_116 : decode cX7_packs 116 = .ok (.aload_n 0, 1) := by decide +kernel
theorem dX7_packs_117 : decode cX7_packs 117 = .ok (.getfield 15, 3) := by decide +kernel
theorem dX7_packs_120 : decode cX7_packs 120 = .ok (.iload 5, 2) := by decide +kernel
theorem dX7_packs_122 : decode cX7_packs 122 = .ok (.dup2, 1) := by decide +kernel
theorem dX7_packs_123 : decode cX7_packs 123 = .ok (.iaload, 1) := by decide +kernel
theorem dX7_packs_124 : decode cX7_packs 124 = .ok (.iload 4, 2) := by decide +kernel
theorem dX7_packs_126 : decode cX7_packs 126 = .ok (.isub, 1) := by decide +kernel
theorem dX7_packs_127 : decode cX7_packs 127 = .ok (.iastore, 1) := by decide +kernel
theorem dX7_packs_128 : decode cX7_packs 128 = .ok (.iinc 5 1, 3) := by decide +kernel
theorem dX7_packs_131 : decode cX7_packs 131 = .ok (.goto (-102), 3) := by decide +kernel
theorem dX7_packs_134 : decode cX7_packs 134 = .ok (.iconst 0, 1) := by decide +kernel
theorem dX7_packs_135 : decode cX7_packs 135 = .ok (.ireturn, 1) := by decide +kernel
theorem dX7_hasTwin_0 : decode cX7_hasTwin 0 = .ok (.iconst 0, 1) := by decide +kernel
theorem dX7_hasTwin_1 : decode cX7_hasTwin 1 = .ok (.istore_n 2, 1) := by decide +kernel
theorem dX7_hasTwin_2 : decode cX7_hasTwin 2 = .ok (.iload_n 2, 1) := by decide +kernel
theorem dX7_hasTwin_3 : decode cX7_hasTwin 3 = .ok (.iload_n 1, 1) := by decide +kernel
theorem dX7_hasTwin_4 : decode cX7_hasTwin 4 = .ok (.if_icmp .ge 26, 3) := by decide +kernel
theorem dX7_hasTwin_7 : decode cX7_hasTwin 7 = .ok (.aload_n 0, 1) := by decide +kernel
theorem dX7_hasTwin_8 : decode cX7_hasTwin 8 = .ok (.getfield 15, 3) := by decide +kernel
theorem dX7_hasTwin_11 : decode cX7_hasTwin 11 = .ok (.iload_n 2, 1) := by decide +kernel
theorem dX7_hasTwin_12 : decode cX7_hasTwin 12 = .ok (.iaload, 1) := by decide +kernel
theorem dX7_hasTwin_13 : decode cX7_hasTwin 13 = .ok (.aload_n 0, 1) := by decide +kernel
theorem dX7_hasTwin_14 : decode cX7_hasTwin 14 = .ok (.getfield 15, 3) := by decide +kernel
theorem dX7_hasTwin_17 : decode cX7_hasTwin 17 = .ok (.iload_n 1, 1) := by decide +kernel
theorem dX7_hasTwin_18 : decode cX7_hasTwin 18 = .ok (.iaload, 1) := by decide +kernel
theorem dX7_hasTwin_19 : decode cX7_hasTwin 19 = .ok (.if_icmp .ne 5, 3) := by decide +kernel
theorem dX7_hasTwin_22 : decode cX7_hasTwin 22 = .ok (.iconst 1, 1) := by decide +kernel
theorem dX7_hasTwin_23 : decode cX7_hasTwin 23 = .ok (.ireturn, 1) := by decide +kernel
theorem dX7_hasTwin_24 : decode cX7_hasTwin 24 = .ok (.iinc 2 1, 3) := by decide +kernel
theorem dX7_hasTwin_27 : decode cX7_hasTwin 27 = .ok (.goto (-25), 3) := by decide +kernel
theorem dX7_hasTwin_30 : decode cX7_hasTwin 30 = .ok (.iconst 0, 1) := by decide +kernel
theorem dX7_hasTwin_31 : decode cX7_hasTwin 31 = .ok (.ireturn, 1) := by decide +kernel
