theorem dX0_init_0 : decode cX0_init 0 = .ok (.aload_n 0, 1) := by decide +kernel
theorem dX0_init_1 : decode cX0_init 1 = .ok (.invokespecial 3, 3) := by decide +kernel
theorem dX0_init_4 : decode cX0_init 4 = .ok (.aload_n 0, 1) := by decide +kernel
theorem dX0_init_5 : decode cX0_init 5 = .ok (.iconst 4, 1) := by decide +kernel
theorem dX0_init_6 : decode cX0_init 6 = .ok (.newarray .int, 2) := by decide +kernel
theorem dX0_init_8 : decode cX0_init 8 = .ok (.putfield 9, 3) := by decide +kernel
theorem dX0_init_11 : decode cX0_init 11 = .ok (.aload_n 0, 1) := by decide +kernel
theorem dX0_init_12 : decode cX0_init 12 = .ok (.iconst 4, 1) := by decide +kernel
theorem dX0_init_13 : decode cX0_init 13 = .ok (.bipush 11, 2) := by decide +kernel
theorem dX0_init_15 : decode cX0_init 15 = .ok (.multianewarray 15 2, 4) := by decide +kernel
theorem dX0_init_19 : decode cX0_init 19 = .ok (.putfield 17, 3) := by decide +kernel
theorem dX0_init_22 : decode cX0_init 22 = .ok (.aload_n 0, 1) := by decide +kernel
theorem dX0_init_23 : decode cX0_init 23 = .ok (.bipush 11, 2) := by decide +kernel
theorem dX0_init_25 : decode cX0_init 25 = .ok (.newarray .int, 2) := by decide +kernel
theorem dX0_init_27 : decode cX0_init 27 = .ok (.putfield 20, 3) := by decide +kernel
theorem dX0_init_30 : decode cX0_init 30 = .ok (.aload_n 0, 1) := by decide +kernel
theorem dX0_init_31 : decode cX0_init 31 = .ok (.aload_n 1, 1) := by decide +kernel
theorem dX0_init_32 : decode cX0_init 32 = .ok (.putfield 23, 3) := by decide +kernel
theorem dX0_init_35 : decode cX0_init 35 = .ok (.aload_n 0, 1) := by decide +kernel
theorem dX0_init_36 : decode cX0_init 36 = .ok (.aload_n 2, 1) := by decide +kernel
theorem dX0_init_37 : decode cX0_init 37 = .ok (.putfield 27, 3) := by decide +kernel
theorem dX0_init_40 : decode cX0_init 40 = .ok (.return_, 1) := by decide +kernel
theorem dX0_bestNumber_0 : decode cX0_bestNumber 0 = .ok (.iconst 0, 1) := by decide +kernel
theorem dX0_bestNumber_1 : decode cX0_bestNumber 1 = .ok (.istore_n 1, 1) := by decide +kernel
theorem dX0_bestNumber_2 : decode cX0_bestNumber 2 = .ok (.iload_n 1, 1) := by decide +kernel
theorem dX0_bestNumber_3 : decode cX0_bestNumber 3 = .ok (.aload_n 0, 1) := by decide +kernel
theorem dX0_bestNumber_4 : decode cX0_bestNumber 4 = .ok (.getfield 27, 3) := by decide +kernel
theorem dX0_bestNumber_7 : decode cX0_bestNumber 7 = .ok (.getfield 31, 3) := by decide +kernel
theorem dX0_bestNumber_10 : decode cX0_bestNumber 10 = .ok (.if_icmp .ge 101, 3) := by decide +kernel
theorem dX0_bestNumber_13 : decode cX0_bestNumber 13 = .ok (.aload_n 0, 1) := by decide +kernel
theorem dX0_bestNumber_14 : decode cX0_bestNumber 14 = .ok (.getfield 27, 3) := by decide +kernel
theorem dX0_bestNumber_17 : decode cX0_bestNumber 17 = .ok (.getfield 37, 3) := by decide +kernel
theorem dX0_bestNumber_20 : decode cX0_bestNumber 20 = .ok (.iload_n 1, 1) := by decide +kernel
theorem dX0_bestNumber_21 : decode cX0_bestNumber 21 = .ok (.iaload, 1) := by decide +kernel
theorem dX0_bestNumber_22 : decode cX0_bestNumber 22 = .ok (.istore_n 2, 1) := by decide +kernel
theorem dX0_bestNumber_23 : decode cX0_bestNumber 23 = .ok (.aload_n 0, 1) := by decide +kernel
theorem dX0_bestNumber_24 : decode cX0_bestNumber 24 = .ok (.getfield 20, 3) := by decide +kernel
theorem dX0_bestNumber_27 : decode cX0_bestNumber 27 = .ok (.iload_n 1, 1) := by decide +kernel
theorem dX0_bestNumber_28 : decode cX0_bestNumber 28 = .ok (.iconst 1, 1) := by decide +kernel
theorem dX0_bestNumber_29 : decode cX0_bestNumber 29 = .ok (.iadd, 1) := by decide +kernel
theorem dX0_bestNumber_30 : decode cX0_bestNumber 30 = .ok (.aload_n 0, 1) := by decide +kernel
theorem dX0_bestNumber_31 : decode cX0_bestNumber 31 = .ok (.getfield 20, 3) := by decide +kernel
theorem dX0_bestNumber_34 : decode cX0_bestNumber 34 = .ok (.iload_n 1, 1) := by decide +kernel
theorem dX0_bestNumber_35 : decode cX0_bestNumber 35 = .ok (.iaload, 1) := by decide +kernel
theorem dX0_bestNumber_36 : decode cX0_bestNumber 36 = .ok (.aload_n 0, 1) := by decide +kernel
theorem dX0_bestNumber_37 : decode cX0_bestNumber 37 = .ok (.getfield 23, 3) := by decide +kernel
theorem dX0_bestNumber_40 : decode cX0_bestNumber 40 = .ok (.getfield 40, 3) := by decide +kernel
theorem dX0_bestNumber_43 : decode cX0_bestNumber 43 = .ok (.aload_n 0, 1) := by decide +kernel
theorem dX0_bestNumber_44 : decode cX0_bestNumber 44 = .ok (.getfield 23, 3) := by decide +kernel
theorem dX0_bestNumber_47 : decode cX0_bestNumber 47 = .ok (.iload_n 2, 1) := by decide +kernel
theorem dX0_bestNumber_48 : decode cX0_bestNumber 48 = .ok (.invokevirtual 45, 3) := by decide +kernel
theorem dX0_bestNumber_51 : decode cX0_bestNumber 51 = .ok (.aaload, 1) := by decide +kernel
theorem dX0_bestNumber_52 : decode cX0_bestNumber 52 = .ok (.iload_n 2, 1) := by decide +kernel
theorem dX0_bestNumber_53 : decode cX0_bestNumber 53 = .ok (.iaload, 1) := by decide +kernel
theorem dX0_bestNumber_54 : decode cX0_bestNumber 54 = .ok (.iadd, 1) := by decide +kernel
theorem dX0_bestNumber_55 : decode cX0_bestNumber 55 = .ok (.iastore, 1) := by decide +kernel
theorem dX0_bestNumber_56 : decode cX0_bestNumber 56 = .ok (.iconst 0, 1) := by decide +kernel
theorem dX0_bestNumber_57 : decode cX0_bestNumber 57 = .ok (.istore_n 3, 1) := by decide +kernel
theorem dX0_bestNumber_58 : decode cX0_bestNumber 58 = .ok (.iload_n 3, 1) := by decide +kernel
theorem dX0_bestNumber_59 : decode cX0_bestNumber 59 = .ok (.aload_n 0, 1) := by decide +kernel
theorem dX0_bestNumber_60 : decode cX0_bestNumber 60 = .ok (.getfield 23, 3) := by decide +kernel
theorem dX0_bestNumber_63 : decode cX0_bestNumber 63 = .ok (.getfield 49, 3) := by decide +kernel
theorem dX0_bestNumber_66 : decode cX0_bestNumber 66 = .ok (.if_icmp .ge 39, 3) := by decide +kernel
theorem dX0_bestNumber_69 : decode cX0_bestNumber 69 = .ok (.aload_n 0, 1) := by decide +kernel
theorem dX0_bestNumber_70 : decode cX0_bestNumber 70 = .ok (.getfield 17, 3) := by decide +kernel
theorem dX0_bestNumber_73 : decode cX0_bestNumber 73 = .ok (.iload_n 3, 1) := by decide +kernel
theorem dX0_bestNumber_74 : decode cX0_bestNumber 74 = .ok (.aaload, 1) := by decide +kernel
theorem dX0_bestNumber_75 : decode cX0_bestNumber 75 = .ok (.iload_n 1, 1) := by decide +kernel
theorem dX0_bestNumber_76 : decode cX0_bestNumber 76 = .ok (.iconst 1, 1) := by decide +kernel
theorem dX0_bestNumber_77 : decode cX0_bestNumber 77 = .ok (.iadd, 1) := by decide +kernel
theorem dX0_bestNumber_78 : decode cX0_bestNumber 78 = .ok (.aload_n 0, 1) := by decide +kernel
theorem dX0_bestNumber_79 : decode cX0_bestNumber 79 = .ok (.getfield 17, 3) := by decide +kernel
theorem dX0_bestNumber_82 : decode cX0_bestNumber 82 = .ok (.iload_n 3, 1) := by decide +kernel
theorem dX0_bestNumber_83 : decode cX0_bestNumber 83 = .ok (.aaload, 1) := by decide +kernel
theorem dX0_bestNumber_84 : decode cX0_bestNumber 84 = .ok (.iload_n 1, 1) := by decide +kernel
theorem dX0_bestNumber_85 : decode cX0_bestNumber 85 = .ok (.iaload, 1) := by decide +kernel
theorem dX0_bestNumber_86 : decode cX0_bestNumber 86 = .ok (.aload_n 0, 1) := by decide +kernel
theorem dX0_bestNumber_87 : decode cX0_bestNumber 87 = .ok (.getfield 23, 3) := by decide +kernel
theorem dX0_bestNumber_90 : decode cX0_bestNumber 90 = .ok (.getfield 40, 3) := by decide +kernel
theorem dX0_bestNumber_93 : decode cX0_bestNumber 93 = .ok (.iload_n 3, 1) := by decide +kernel
theorem dX0_bestNumber_94 : decode cX0_bestNumber 94 = .ok (.aaload, 1) := by decide +kernel
theorem dX0_bestNumber_95 : decode cX0_bestNumber 95 = .ok (.iload_n 2, 1) := by decide +kernel
theorem dX0_bestNumber_96 : decode cX0_bestNumber 96 = .ok (.iaload, 1) := by decide +kernel
theorem dX0_bestNumber_97 : decode cX0_bestNumber 97 = .ok (.iadd, 1) := by decide +kernel
theorem dX0_bestNumber_98 : decode cX0_bestNumber 98 = .ok (.iastore, 1) := by decide +kernel
theorem dX0_bestNumber_99 : decode cX0_bestNumber 99 = .ok (.iinc 3 1, 3) := by decide +kernel
theorem dX0_bestNumber_102 : decode cX0_bestNumber 102 = .ok (.goto (-44), 3) := by decide +kernel
theorem dX0_bestNumber_105 : decode cX0_bestNumber 105 = .ok (.iinc 1 1, 3) := by decide +kernel
theorem dX0_bestNumber_108 : decode cX0_bestNumber 108 = .ok (.goto (-106), 3) := by decide +kernel
theorem dX0_bestNumber_111 : decode cX0_bestNumber 111 = .ok (.aload_n 0, 1) := by decide +kernel
theorem dX0_bestNumber_112 : decode cX0_bestNumber 112 = .ok (.iconst (-1), 1) := by decide +kernel
theorem dX0_bestNumber_113 : decode cX0_bestNumber 113 = .ok (.putfield 52, 3) := by decide +kernel
theorem dX0_bestNumber_116 : decode cX0_bestNumber 116 = .ok (.aload_n 0, 1) := by decide +kernel
theorem dX0_bestNumber_117 : decode cX0_bestNumber 117 = .ok (.iconst (-1), 1) := by decide +kernel
theorem dX0_bestNumber_118 : decode cX0_bestNumber 118 = .ok (.putfield 55, 3) := by decide +kernel
theorem dX0_bestNumber_121 : decode cX0_bestNumber 121 = .ok (.aload_n 0, 1) := by decide +kernel
theorem dX0_bestNumber_122 : decode cX0_bestNumber 122 = .ok (.iconst 0, 1) := by decide +kernel
theorem dX0_bestNumber_123 : decode cX0_bestNumber 123 = .ok (.putfield 58, 3) := by decide +kernel
theorem dX0_bestNumber_126 : decode cX0_bestNumber 126 = .ok (.aload_n 0, 1) := by decide +kernel
theorem dX0_bestNumber_127 : decode cX0_bestNumber 127 = .ok (.aload_n 0, 1) := by decide +kernel
theorem dX0_bestNumber_128 : decode cX0_bestNumber 128 = .ok (.getfield 27, 3) := by decide +kernel
theorem dX0_bestNumber_131 : decode cX0_bestNumber 131 = .ok (.getfield 31, 3) := by decide +kernel
theorem dX0_bestNumber_134 : decode cX0_bestNumber 134 = .ok (.bipush 8, 2) := by decide +kernel
theorem dX0_bestNumber_136 : decode cX0_bestNumber 136 = .ok (.invokestatic 61, 3) := by decide +kernel
theorem dX0_bestNumber_139 : decode cX0_bestNumber 139 = .ok (.iconst 0, 1) := by decide +kernel
theorem dX0_bestNumber_140 : decode cX0_bestNumber 140 = .ok (.iconst 0, 1) := by decide +kernel
theorem dX0_bestNumber_141 : decode cX0_bestNumber 141 = .ok (.invokestatic 67, 3) := by decide +kernel
theorem dX0_bestNumber_144 : decode cX0_bestNumber 144 = .ok (.aload_n 0, 1) := by decide +kernel
theorem dX0_bestNumber_145 : decode cX0_bestNumber 145 = .ok (.getfield 58, 3) := by decide +kernel
theorem dX0_bestNumber_148 : decode cX0_bestNumber 148 = .ok (.ireturn, 1) := by decide +kernel
theorem dX0_seek_0 : decode cX0_seek 0 = .ok (.aload_n 0, 1) := by decide +kernel
theorem dX0_seek_1 : decode cX0_seek 1 = .ok (.iload_n 1, 1) := by decide +kernel
theorem dX0_seek_2 : decode cX0_seek 2 = .ok (.iload_n 3, 1) := by decide +kernel
theorem dX0_seek_3 : decode cX0_seek 3 = .ok (.invokevirtual 71, 3) := by decide +kernel
theorem dX0_seek_6 : decode cX0_seek 6 = .ok (.ifCond .ne 4, 3) := by decide +kernel
theorem dX0_seek_9 : decode cX0_seek 9 = .ok (.return_, 1) := by decide +kernel
theorem dX0_seek_10 : decode cX0_seek 10 = .ok (.iload_n 1, 1) := by decide +kernel
theorem dX0_seek_11 : decode cX0_seek 11 = .ok (.ifCond .gt 22, 3) := by decide +kernel
theorem dX0_seek_14 : decode cX0_seek 14 = .ok (.aload_n 0, 1) := by decide +kernel
theorem dX0_seek_15 : decode cX0_seek 15 = .ok (.aload_n 0, 1) := by decide +kernel
theorem dX0_seek_16 : decode cX0_seek 16 = .ok (.invokevirtual 75, 3) := by decide +kernel
theorem dX0_seek_19 : decode cX0_seek 19 = .ok (.putfield 52, 3) := by decide +kernel
theorem dX0_seek_22 : decode cX0_seek 22 = .ok (.aload_n 0, 1) := by decide +kernel
theorem dX0_seek_23 : decode cX0_seek 23 = .ok (.iload_n 3, 1) := by decide +kernel
theorem dX0_seek_24 : decode cX0_seek 24 = .ok (.putfield 55, 3) := by decide +kernel
theorem dX0_seek_27 : decode cX0_seek 27 = .ok (.aload_n 0, 1) := by decide +kernel
theorem dX0_seek_28 : decode cX0_seek 28 = .ok (.iload_n 2, 1) := by decide +kernel
theorem dX0_seek_29 : decode cX0_seek 29 = .ok (.putfield 58, 3) := by decide +kernel
theorem dX0_seek_32 : decode cX0_seek 32 = .ok (.return_, 1) := by decide +kernel
theorem dX0_seek_33 : decode cX0_seek 33 = .ok (.aload_n 0, 1) := by decide +kernel
theorem dX0_seek_34 : decode cX0_seek 34 = .ok (.getfield 27, 3) := by decide +kernel
theorem dX0_seek_37 : decode cX0_seek 37 = .ok (.getfield 37, 3) := by decide +kernel
theorem dX0_seek_40 : decode cX0_seek 40 = .ok (.iload_n 1, 1) := by decide +kernel
theorem dX0_seek_41 : decode cX0_seek 41 = .ok (.iconst 1, 1) := by decide +kernel
theorem dX0_seek_42 : decode cX0_seek 42 = .ok (.isub, 1) := by decide +kernel
theorem dX0_seek_43 : decode cX0_seek 43 = .ok (.iaload, 1) := by decide +kernel
theorem dX0_seek_44 : decode cX0_seek 44 = .ok (.istore 4, 2) := by decide +kernel
theorem dX0_seek_46 : decode cX0_seek 46 = .ok (.iconst 0, 1) := by decide +kernel
theorem dX0_seek_47 : decode cX0_seek 47 = .ok (.istore 5, 2) := by decide +kernel
theorem dX0_seek_49 : decode cX0_seek 49 = .ok (.iload 5, 2) := by decide +kernel
theorem dX0_seek_51 : decode cX0_seek 51 = .ok (.aload_n 0, 1) := by decide +kernel
theorem dX0_seek_52 : decode cX0_seek 52 = .ok (.getfield 23, 3) := by decide +kernel
theorem dX0_seek_55 : decode cX0_seek 55 = .ok (.getfield 49, 3) := by decide +kernel
theorem dX0_seek_58 : decode cX0_seek 58 = .ok (.if_icmp .ge 71, 3) := by decide +kernel
theorem dX0_seek_61 : decode cX0_seek 61 = .ok (.aload_n 0, 1) := by decide +kernel
theorem dX0_seek_62 : decode cX0_seek 62 = .ok (.getfield 23, 3) := by decide +kernel
theorem dX0_seek_65 : decode cX0_seek 65 = .ok (.getfield 40, 3) := by decide +kernel
theorem dX0_seek_68 : decode cX0_seek 68 = .ok (.iload 5, 2) := by decide +kernel
theorem dX0_seek_70 : decode cX0_seek 70 = .ok (.aaload, 1) := by decide +kernel
theorem dX0_seek_71 : decode cX0_seek 71 = .ok (.iload 4, 2) := by decide +kernel
theorem dX0_seek_73 : decode cX0_seek 73 = .ok (.iaload, 1) := by decide +kernel
theorem dX0_seek_74 : decode cX0_seek 74 = .ok (.istore 6, 2) := by decide +kernel
theorem dX0_seek_76 : decode cX0_seek 76 = .ok (.aload_n 0, 1) := by decide +kernel
theorem dX0_seek_77 : decode cX0_seek 77 = .ok (.getfield 9, 3) := by decide +kernel
theorem dX0_seek_80 : decode cX0_seek 80 = .ok (.iload 5, 2) := by decide +kernel
theorem dX0_seek_82 : decode cX0_seek 82 = .ok (.dup2, 1) := by decide +kernel
theorem dX0_seek_83 : decode cX0_seek 83 = .ok (.iaload, 1) := by decide +kernel
theorem dX0_seek_84 : decode cX0_seek 84 = .ok (.iload 6, 2) := by decide +kernel
theorem dX0_seek_86 : decode cX0_seek 86 = .ok (.iadd, 1) := by decide +kernel
theorem dX0_seek_87 : decode cX0_seek 87 = .ok (.iastore, 1) := by decide +kernel
theorem dX0_seek_88 : decode cX0_seek 88 = .ok (.aload_n 0, 1) := by decide +kernel
theorem dX0_seek_89 : decode cX0_seek 89 = .ok (.iload_n 1, 1) := by decide +kernel
theorem dX0_seek_90 : decode cX0_seek 90 = .ok (.iconst 1, 1) := by decide +kernel
theorem dX0_seek_91 : decode cX0_seek 91 = .ok (.isub, 1) := by decide +kernel
theorem dX0_seek_92 : decode cX0_seek 92 = .ok (.iload_n 2, 1) := by decide +kernel
theorem dX0_seek_93 : decode cX0_seek 93 = .ok (.aload_n 0, 1) := by decide +kernel
theorem dX0_seek_94 : decode cX0_seek 94 = .ok (.getfield 23, 3) := by decide +kernel
theorem dX0_seek_97 : decode cX0_seek 97 = .ok (.getfield 49, 3) := by decide +kernel
theorem dX0_seek_100 : decode cX0_seek 100 = .ok (.imul, 1) := by decide +kernel
theorem dX0_seek_101 : decode cX0_seek 101 = .ok (.iload 5, 2) := by decide +kernel
theorem dX0_seek_103 : decode cX0_seek 103 = .ok (.iadd, 1) := by decide +kernel
theorem dX0_seek_104 : decode cX0_seek 104 = .ok (.iload_n 3, 1) := by decide +kernel
theorem dX0_seek_105 : decode cX0_seek 105 = .ok (.iload 6, 2) := by decide +kernel
theorem dX0_seek_107 : decode cX0_seek 107 = .ok (.iadd, 1) := by decide +kernel
theorem dX0_seek_108 : decode cX0_seek 108 = .ok (.invokestatic 67, 3) := by decide +kernel
theorem dX0_seek_111 : decode cX0_seek 111 = .ok (.aload_n 0, 1) := by decide +kernel
theorem dX0_seek_112 : decode cX0_seek 112 = .ok (.getfield 9, 3) := by decide +kernel
theorem dX0_seek_115 : decode cX0_seek 115 = .ok (.iload 5, 2) := by decide +kernel
theorem dX0_seek_117 : decode cX0_seek 117 = .ok (.dup2, 1) := by decide +kernel
theorem dX0_seek_118 : decode cX0_seek 118 = .ok (.iaload, 1) := by decide +kernel
theorem dX0_seek_119 : decode cX0_seek 119 = .ok (.iload 6, 2) := by decide +kernel
theorem dX0_seek_121 : decode cX0_seek 121 = .ok (.isub, 1) := by decide +kernel
theorem dX0_seek_122 : decode cX0_seek 122 = .ok (.iastore, 1) := by decide +kernel
theorem dX0_seek_123 : decode cX0_seek 123 = .ok (.iinc 5 1, 3) := by decide +kernel
theorem dX0_seek_126 : decode cX0_seek 126 = .ok (.goto (-77), 3) := by decide +kernel
theorem dX0_seek_129 : decode cX0_seek 129 = .ok (.return_, 1) := by decide +kernel
theorem dX0_mayBeBetter_0 : decode cX0_mayBeBetter 0 = .ok (.iload_n 2, 1) := by decide +kernel
theorem dX0_mayBeBetter_1 : decode cX0_mayBeBetter 1 = .ok (.aload_n 0, 1) := by decide +kernel
theorem dX0_mayBeBetter_2 : decode cX0_mayBeBetter 2 = .ok (.getfield 20, 3) := by decide +kernel
theorem dX0_mayBeBetter_5 : decode cX0_mayBeBetter 5 = .ok (.iload_n 1, 1) := by decide +kernel
theorem dX0_mayBeBetter_6 : decode cX0_mayBeBetter 6 = .ok (.iaload, 1) := by decide +kernel
theorem dX0_mayBeBetter_7 : decode cX0_mayBeBetter 7 = .ok (.iadd, 1) := by decide +kernel
theorem dX0_mayBeBetter_8 : decode cX0_mayBeBetter 8 = .ok (.aload_n 0, 1) := by decide +kernel
theorem dX0_mayBeBetter_9 : decode cX0_mayBeBetter 9 = .ok (.getfield 55, 3) := by decide +kernel
theorem dX0_mayBeBetter_12 : decode cX0_mayBeBetter 12 = .ok (.if_icmp .le 10, 3) := by decide +kernel
theorem dX0_mayBeBetter_15 : decode cX0_mayBeBetter 15 = .ok (.aload_n 0, 1) := by decide +kernel
theorem dX0_mayBeBetter_16 : decode cX0_mayBeBetter 16 = .ok (.getfield 52, 3) := by decide +kernel
theorem dX0_mayBeBetter_19 : decode cX0_mayBeBetter 19 = .ok (.goto 9, 3) := by decide +kernel
theorem dX0_mayBeBetter_22 : decode cX0_mayBeBetter 22 = .ok (.aload_n 0, 1) := by decide +kernel
theorem dX0_mayBeBetter_23 : decode cX0_mayBeBetter 23 = .ok (.getfield 52, 3) := by decide +kernel
theorem dX0_mayBeBetter_26 : decode cX0_mayBeBetter 26 = .ok (.iconst 1, 1) := by decide +kernel
theorem dX0_mayBeBetter_27 : decode cX0_mayBeBetter 27 = .ok (.iadd, 1) := by decide +kernel
theorem dX0_mayBeBetter_28 : decode cX0_mayBeBetter 28 = .ok (.istore_n 3, 1) := by decide +kernel
theorem dX0_mayBeBetter_29 : decode cX0_mayBeBetter 29 = .ok (.iconst 0, 1) := by decide +kernel
theorem dX0_mayBeBetter_30 : decode cX0_mayBeBetter 30 = .ok (.istore 4, 2) := by decide +kernel
theorem dX0_mayBeBetter_32 : decode cX0_mayBeBetter 32 = .ok (.iconst 0, 1) := by decide +kernel
theorem dX0_mayBeBetter_33 : decode cX0_mayBeBetter 33 = .ok (.istore 5, 2) := by decide +kernel
theorem dX0_mayBeBetter_35 : decode cX0_mayBeBetter 35 = .ok (.iconst 0, 1) := by decide +kernel
theorem dX0_mayBeBetter_36 : decode cX0_mayBeBetter 36 = .ok (.istore 6, 2) := by decide +kernel
theorem dX0_mayBeBetter_38 : decode cX0_mayBeBetter 38 = .ok (.iload 6, 2) := by decide +kernel
theorem dX0_mayBeBetter_40 : decode cX0_mayBeBetter 40 = .ok (.aload_n 0, 1) := by decide +kernel
theorem dX0_mayBeBetter_41 : decode cX0_mayBeBetter 41 = .ok (.getfield 23, 3) := by decide +kernel
theorem dX0_mayBeBetter_44 : decode cX0_mayBeBetter 44 = .ok (.getfield 49, 3) := by decide +kernel
theorem dX0_mayBeBetter_47 : decode cX0_mayBeBetter 47 = .ok (.if_icmp .ge 51, 3) := by decide +kernel
theorem dX0_mayBeBetter_50 : decode cX0_mayBeBetter 50 = .ok (.iload_n 3, 1) := by decide +kernel
theorem dX0_mayBeBetter_51 : decode cX0_mayBeBetter 51 = .ok (.aload_n 0, 1) := by decide +kernel
theorem dX0_mayBeBetter_52 : decode cX0_mayBeBetter 52 = .ok (.getfield 9, 3) := by decide +kernel
theorem dX0_mayBeBetter_55 : decode cX0_mayBeBetter 55 = .ok (.iload 6, 2) := by decide +kernel
theorem dX0_mayBeBetter_57 : decode cX0_mayBeBetter 57 = .ok (.iaload, 1) := by decide +kernel
theorem dX0_mayBeBetter_58 : decode cX0_mayBeBetter 58 = .ok (.isub, 1) := by decide +kernel
theorem dX0_mayBeBetter_59 : decode cX0_mayBeBetter 59 = .ok (.istore 7, 2) := by decide +kernel
theorem dX0_mayBeBetter_61 : decode cX0_mayBeBetter 61 = .ok (.iload 7, 2) := by decide +kernel
theorem dX0_mayBeBetter_63 : decode cX0_mayBeBetter 63 = .ok (.aload_n 0, 1) := by decide +kernel
theorem dX0_mayBeBetter_64 : decode cX0_mayBeBetter 64 = .ok (.getfield 17, 3) := by decide +kernel
theorem dX0_mayBeBetter_67 : decode cX0_mayBeBetter 67 = .ok (.iload 6, 2) := by decide +kernel
theorem dX0_mayBeBetter_69 : decode cX0_mayBeBetter 69 = .ok (.aaload, 1) := by decide +kernel
theorem dX0_mayBeBetter_70 : decode cX0_mayBeBetter 70 = .ok (.iload_n 1, 1) := by decide +kernel
theorem dX0_mayBeBetter_71 : decode cX0_mayBeBetter 71 = .ok (.iaload, 1) := by decide +kernel
theorem dX0_mayBeBetter_72 : decode cX0_mayBeBetter 72 = .ok (.if_icmp .le 5, 3) := by decide +kernel
theorem dX0_mayBeBetter_75 : decode cX0_mayBeBetter 75 = .ok (.iconst 0, 1) := by decide +kernel
theorem dX0_mayBeBetter_76 : decode cX0_mayBeBetter 76 = .ok (.ireturn, 1) := by decide +kernel
theorem dX0_mayBeBetter_77 : decode cX0_mayBeBetter 77 = .ok (.iload 7, 2) := by decide +kernel
theorem dX0_mayBeBetter_79 : decode cX0_mayBeBetter 79 = .ok (.ifCond .le 13, 3) := by decide +kernel
theorem dX0_mayBeBetter_82 : decode cX0_mayBeBetter 82 = .ok (.iload 4, 2) := by decide +kernel
theorem dX0_mayBeBetter_84 : decode cX0_mayBeBetter 84 = .ok (.iload 7, 2) := by decide +kernel
theorem dX0_mayBeBetter_86 : decode cX0_mayBeBetter 86 = .ok (.iadd, 1) := by decide +kernel
theorem dX0_mayBeBetter_87 : decode cX0_mayBeBetter 87 = .ok (.istore 4, 2) := by decide +kernel
theorem dX0_mayBeBetter_89 : decode cX0_mayBeBetter 89 = .ok (.iinc 5 1, 3) := by decide +kernel
theorem dX0_mayBeBetter_92 : decode cX0_mayBeBetter 92 = .ok (.iinc 6 1, 3) := by decide +kernel
theorem dX0_mayBeBetter_95 : decode cX0_mayBeBetter 95 = .ok (.goto (-57), 3) := by decide +kernel
theorem dX0_mayBeBetter_98 : decode cX0_mayBeBetter 98 = .ok (.iload 4, 2) := by decide +kernel
theorem dX0_mayBeBetter_100 : decode cX0_mayBeBetter 100 = .ok (.aload_n 0, 1) := by decide +kernel
theorem dX0_mayBeBetter_101 : decode cX0_mayBeBetter 101 = .ok (.getfield 20, 3) := by decide +kernel
theorem dX0_mayBeBetter_104 : decode cX0_mayBeBetter 104 = .ok (.iload_n 1, 1) := by decide +kernel
theorem dX0_mayBeBetter_105 : decode cX0_mayBeBetter 105 = .ok (.iaload, 1) := by decide +kernel
theorem dX0_mayBeBetter_106 : decode cX0_mayBeBetter 106 = .ok (.if_icmp .gt 13, 3) := by decide +kernel
theorem dX0_mayBeBetter_109 : decode cX0_mayBeBetter 109 = .ok (.iload 5, 2) := by decide +kernel
theorem dX0_mayBeBetter_111 : decode cX0_mayBeBetter 111 = .ok (.iload_n 1, 1) := by decide +kernel
theorem dX0_mayBeBetter_112 : decode cX0_mayBeBetter 112 = .ok (.if_icmp .gt 7, 3) := by decide +kernel
theorem dX0_mayBeBetter_115 : decode cX0_mayBeBetter 115 = .ok (.iconst 1, 1) := by decide +kernel
theorem dX0_mayBeBetter_116 : decode cX0_mayBeBetter 116 = .ok (.goto 4, 3) := by decide +kernel
theorem dX0_mayBeBetter_119 : decode cX0_mayBeBetter 119 = .ok (.iconst 0, 1) := by decide +kernel
theorem dX0_mayBeBetter_120 : decode cX0_mayBeBetter 120 = .ok (.ireturn, 1) := by decide +kernel
theorem dX0_leastSum_0 : decode cX0_leastSum 0 = .ok (.aload_n 0, 1) := by decide +kernel
theorem dX0_leastSum_1 : decode cX0_leastSum 1 = .ok (.getfield 9, 3) := by decide +kernel
theorem dX0_leastSum_4 : decode cX0_leastSum 4 = .ok (.iconst 0, 1) := by decide +kernel
theorem dX0_leastSum_5 : decode cX0_leastSum 5 = .ok (.iaload, 1) := by decide +kernel
theorem dX0_leastSum_6 : decode cX0_leastSum 6 = .ok (.istore_n 1, 1) := by decide +kernel
theorem dX0_leastSum_7 : decode cX0_leastSum 7 = .ok (.iconst 1, 1) := by decide +kernel
theorem dX0_leastSum_8 : decode cX0_leastSum 8 = .ok (.istore_n 2, 1) := by decide +kernel
theorem dX0_leastSum_9 : decode cX0_leastSum 9 = .ok (.iload_n 2, 1) := by decide +kernel
theorem dX0_leastSum_10 : decode cX0_leastSum 10 = .ok (.aload_n 0, 1) := by decide +kernel
theorem dX0_leastSum_11 : decode cX0_leastSum 11 = .ok (.getfield 23, 3) := by decide +kernel
theorem dX0_leastSum_14 : decode cX0_leastSum 14 = .ok (.getfield 49, 3) := by decide +kernel
theorem dX0_leastSum_17 : decode cX0_leastSum 17 = .ok (.if_icmp .ge 20, 3) := by decide +kernel
theorem dX0_leastSum_20 : decode cX0_leastSum 20 = .ok (.iload_n 1, 1) := by decide +kernel
theorem dX0_leastSum_21 : decode cX0_leastSum 21 = .ok (.aload_n 0, 1) := by decide +kernel
theorem dX0_leastSum_22 : decode cX0_leastSum 22 = .ok (.getfield 9, 3) := by decide +kernel
theorem dX0_leastSum_25 : decode cX0_leastSum 25 = .ok (.iload_n 2, 1) := by decide +kernel
theorem dX0_leastSum_26 : decode cX0_leastSum 26 = .ok (.iaload, 1) := by decide +kernel
theorem dX0_leastSum_27 : decode cX0_leastSum 27 = .ok (.invokestatic 61, 3) := by decide +kernel
theorem dX0_leastSum_30 : decode cX0_leastSum 30 = .ok (.istore_n 1, 1) := by decide +kernel
theorem dX0_leastSum_31 : decode cX0_leastSum 31 = .ok (.iinc 2 1, 3) := by decide +kernel
theorem dX0_leastSum_34 : decode cX0_leastSum 34 = .ok (.goto (-25), 3) := by decide +kernel
theorem dX0_leastSum_37 : decode cX0_leastSum 37 = .ok (.iload_n 1, 1) := by decide +kernel
theorem dX0_leastSum_38 : decode cX0_leastSum 38 = .ok (.ireturn, 1) := by decide +kernel
