theorem dX9_init_0 : decode cX9_init 0 = .ok (.aload_n 0, 1) := by decide +kernel
theorem dX9_init_1 : decode cX9_init 1 = .ok (.invokespecial 1, 3) := by decide +kernel
theorem dX9_init_4 : decode cX9_init 4 = .ok (.aload_n 0, 1) := by decide +kernel
theorem dX9_init_5 : decode cX9_init 5 = .ok (.sipush 160, 3) := by decide +kernel
theorem dX9_init_8 : decode cX9_init 8 = .ok (.newarray .int, 2) := by decide +kernel
theorem dX9_init_10 : decode cX9_init 10 = .ok (.putfield 7, 3) := by decide +kernel
theorem dX9_init_13 : decode cX9_init 13 = .ok (.aload_n 0, 1) := by decide +kernel
theorem dX9_init_14 : decode cX9_init 14 = .ok (.bipush 7, 2) := by decide +kernel
theorem dX9_init_16 : decode cX9_init 16 = .ok (.newarray .int, 2) := by decide +kernel
theorem dX9_init_18 : decode cX9_init 18 = .ok (.putfield 13, 3) := by decide +kernel
theorem dX9_init_21 : decode cX9_init 21 = .ok (.aload_n 0, 1) := by decide +kernel
theorem dX9_init_22 : decode cX9_init 22 = .ok (.bipush 7, 2) := by decide +kernel
theorem dX9_init_24 : decode cX9_init 24 = .ok (.newarray .int, 2) := by decide +kernel
theorem dX9_init_26 : decode cX9_init 26 = .ok (.putfield 16, 3) := by decide +kernel
theorem dX9_init_29 : decode cX9_init 29 = .ok (.aload_n 0, 1) := by decide +kernel
theorem dX9_init_30 : decode cX9_init 30 = .ok (.bipush 10, 2) := by decide +kernel
theorem dX9_init_32 : decode cX9_init 32 = .ok (.newarray .int, 2) := by decide +kernel
theorem dX9_init_34 : decode cX9_init 34 = .ok (.putfield 19, 3) := by decide +kernel
theorem dX9_init_37 : decode cX9_init 37 = .ok (.aload_n 0, 1) := by decide +kernel
theorem dX9_init_38 : decode cX9_init 38 = .ok (.bipush 10, 2) := by decide +kernel
theorem dX9_init_40 : decode cX9_init 40 = .ok (.newarray .int, 2) := by decide +kernel
theorem dX9_init_42 : decode cX9_init 42 = .ok (.putfield 22, 3) := by decide +kernel
theorem dX9_init_45 : decode cX9_init 45 = .ok (.aload_n 0, 1) := by decide +kernel
theorem dX9_init_46 : decode cX9_init 46 = .ok (.bipush 10, 2) := by decide +kernel
theorem dX9_init_48 : decode cX9_init 48 = .ok (.newarray .int, 2) := by decide +kernel
theorem dX9_init_50 : decode cX9_init 50 = .ok (.putfield 25, 3) := by decide +kernel
theorem dX9_init_53 : decode cX9_init 53 = .ok (.aload_n 0, 1) := by decide +kernel
theorem dX9_init_54 : decode cX9_init 54 = .ok (.bipush 10, 2) := by decide +kernel
theorem dX9_init_56 : decode cX9_init 56 = .ok (.newarray .int, 2) := by decide +kernel
theorem dX9_init_58 : decode cX9_init 58 = .ok (.putfield 28, 3) := by decide +kernel
theorem dX9_init_61 : decode cX9_init 61 = .ok (.aload_n 0, 1) := by decide +kernel
theorem dX9_init_62 : decode cX9_init 62 = .ok (.bipush 10, 2) := by decide +kernel
theorem dX9_init_64 : decode cX9_init 64 = .ok (.newarray .int, 2) := by decide +kernel
theorem dX9_init_66 : decode cX9_init 66 = .ok (.putfield 31, 3) := by decide +kernel
theorem dX9_init_69 : decode cX9_init 69 = .ok (.aload_n 0, 1) := by decide +kernel
theorem dX9_init_70 : decode cX9_init 70 = .ok (.bipush 40, 2) := by decide +kernel
theorem dX9_init_72 : decode cX9_init 72 = .ok (.newarray .int, 2) := by decide +kernel
theorem dX9_init_74 : decode cX9_init 74 = .ok (.putfield 34, 3) := by decide +kernel
theorem dX9_init_77 : decode cX9_init 77 = .ok (.aload_n 0, 1) := by decide +kernel
theorem dX9_init_78 : decode cX9_init 78 = .ok (.bipush 10, 2) := by decide +kernel
theorem dX9_init_80 : decode cX9_init 80 = .ok (.newarray .int, 2) := by decide +kernel
theorem dX9_init_82 : decode cX9_init 82 = .ok (.putfield 37, 3) := by decide +kernel
theorem dX9_init_85 : decode cX9_init 85 = .ok (.aload_n 0, 1) := by decide +kernel
theorem dX9_init_86 : decode cX9_init 86 = .ok (.bipush 10, 2) := by decide +kernel
theorem dX9_init_88 : decode cX9_init 88 = .ok (.newarray .int, 2) := by decide +kernel
theorem dX9_init_90 : decode cX9_init 90 = .ok (.putfield 40, 3) := by decide +kernel
theorem dX9_init_93 : decode cX9_init 93 = .ok (.aload_n 0, 1) := by decide +kernel
theorem dX9_init_94 : decode cX9_init 94 = .ok (.bipush 10, 2) := by decide +kernel
theorem dX9_init_96 : decode cX9_init 96 = .ok (.newarray .int, 2) := by decide +kernel
theorem dX9_init_98 : decode cX9_init 98 = .ok (.putfield 43, 3) := by decide +kernel
theorem dX9_init_101 : decode cX9_init 101 = .ok (.aload_n 0, 1) := by decide +kernel
theorem dX9_init_102 : decode cX9_init 102 = .ok (.bipush 10, 2) := by decide +kernel
theorem dX9_init_104 : decode cX9_init 104 = .ok (.newarray .int, 2) := by decide +kernel
theorem dX9_init_106 : decode cX9_init 106 = .ok (.putfield 46, 3) := by decide +kernel
theorem dX9_init_109 : decode cX9_init 109 = .ok (.aload_n 0, 1) := by decide +kernel
theorem dX9_init_110 : decode cX9_init 110 = .ok (.bipush 11, 2) := by decide +kernel
theorem dX9_init_112 : decode cX9_init 112 = .ok (.newarray .int, 2) := by decide +kernel
theorem dX9_init_114 : decode cX9_init 114 = .ok (.putfield 49, 3) := by decide +kernel
theorem dX9_init_117 : decode cX9_init 117 = .ok (.aload_n 0, 1) := by decide +kernel
theorem dX9_init_118 : decode cX9_init 118 = .ok (.iconst 4, 1) := by decide +kernel
theorem dX9_init_119 : decode cX9_init 119 = .ok (.newarray .int, 2) := by decide +kernel
theorem dX9_init_121 : decode cX9_init 121 = .ok (.putfield 52, 3) := by decide +kernel
theorem dX9_init_124 : decode cX9_init 124 = .ok (.aload_n 0, 1) := by decide +kernel
theorem dX9_init_125 : decode cX9_init 125 = .ok (.iconst 4, 1) := by decide +kernel
theorem dX9_init_126 : decode cX9_init 126 = .ok (.newarray .int, 2) := by decide +kernel
theorem dX9_init_128 : decode cX9_init 128 = .ok (.putfield 55, 3) := by decide +kernel
theorem dX9_init_131 : decode cX9_init 131 = .ok (.aload_n 0, 1) := by decide +kernel
theorem dX9_init_132 : decode cX9_init 132 = .ok (.sipush 240, 3) := by decide +kernel
theorem dX9_init_135 : decode cX9_init 135 = .ok (.newarray .int, 2) := by decide +kernel
theorem dX9_init_137 : decode cX9_init 137 = .ok (.putfield 58, 3) := by decide +kernel
theorem dX9_init_140 : decode cX9_init 140 = .ok (.iconst 0, 1) := by decide +kernel
theorem dX9_init_141 : decode cX9_init 141 = .ok (.istore_n 1, 1) := by decide +kernel
theorem dX9_init_142 : decode cX9_init 142 = .ok (.iload_n 1, 1) := by decide +kernel
theorem dX9_init_143 : decode cX9_init 143 = .ok (.iconst 4, 1) := by decide +kernel
theorem dX9_init_144 : decode cX9_init 144 = .ok (.if_icmp .ge 17, 3) := by decide +kernel
theorem dX9_init_147 : decode cX9_init 147 = .ok (.aload_n 0, 1) := by decide +kernel
theorem dX9_init_148 : decode cX9_init 148 = .ok (.getfield 52, 3) := by decide +kernel
theorem dX9_init_151 : decode cX9_init 151 = .ok (.iload_n 1, 1) := by decide +kernel
theorem dX9_init_152 : decode cX9_init 152 = .ok (.bipush (-4), 2) := by decide +kernel
theorem dX9_init_154 : decode cX9_init 154 = .ok (.iastore, 1) := by decide +kernel
theorem dX9_init_155 : decode cX9_init 155 = .ok (.iinc 1 1, 3) := by decide +kernel
theorem dX9_init_158 : decode cX9_init 158 = .ok (.goto (-16), 3) := by decide +kernel
theorem dX9_init_161 : decode cX9_init 161 = .ok (.iconst 0, 1) := by decide +kernel
theorem dX9_init_162 : decode cX9_init 162 = .ok (.istore_n 1, 1) := by decide +kernel
theorem dX9_init_163 : decode cX9_init 163 = .ok (.iload_n 1, 1) := by decide +kernel
theorem dX9_init_164 : decode cX9_init 164 = .ok (.bipush 7, 2) := by decide +kernel
theorem dX9_init_166 : decode cX9_init 166 = .ok (.if_icmp .ge 17, 3) := by decide +kernel
theorem dX9_init_169 : decode cX9_init 169 = .ok (.aload_n 0, 1) := by decide +kernel
theorem dX9_init_170 : decode cX9_init 170 = .ok (.getfield 13, 3) := by decide +kernel
theorem dX9_init_173 : decode cX9_init 173 = .ok (.iload_n 1, 1) := by decide +kernel
theorem dX9_init_174 : decode cX9_init 174 = .ok (.bipush (-4), 2) := by decide +kernel
theorem dX9_init_176 : decode cX9_init 176 = .ok (.iastore, 1) := by decide +kernel
theorem dX9_init_177 : decode cX9_init 177 = .ok (.iinc 1 1, 3) := by decide +kernel
theorem dX9_init_180 : decode cX9_init 180 = .ok (.goto (-17), 3) := by decide +kernel
theorem dX9_init_183 : decode cX9_init 183 = .ok (.return_, 1) := by decide +kernel
theorem dX9_in_0 : decode cX9_in 0 = .ok (.lload_n 0, 1) := by decide +kernel
theorem dX9_in_1 : decode cX9_in 1 = .ok (.lload_n 2, 1) := by decide +kernel
theorem dX9_in_2 : decode cX9_in 2 = .ok (.lcmp, 1) := by decide +kernel
theorem dX9_in_3 : decode cX9_in 3 = .ok (.ifCond .lt 14, 3) := by decide +kernel
theorem dX9_in_6 : decode cX9_in 6 = .ok (.lload_n 0, 1) := by decide +kernel
theorem dX9_in_7 : decode cX9_in 7 = .ok (.lload 4, 2) := by decide +kernel
theorem dX9_in_9 : decode cX9_in 9 = .ok (.lcmp, 1) := by decide +kernel
theorem dX9_in_10 : decode cX9_in 10 = .ok (.ifCond .gt 7, 3) := by decide +kernel
theorem dX9_in_13 : decode cX9_in 13 = .ok (.iconst 1, 1) := by decide +kernel
theorem dX9_in_14 : decode cX9_in 14 = .ok (.goto 4, 3) := by decide +kernel
theorem dX9_in_17 : decode cX9_in 17 = .ok (.iconst 0, 1) := by decide +kernel
theorem dX9_in_18 : decode cX9_in 18 = .ok (.ireturn, 1) := by decide +kernel
theorem dX9_down_0 : decode cX9_down 0 = .ok (.iload_n 0, 1) := by decide +kernel
theorem dX9_down_1 : decode cX9_down 1 = .ok (.iload_n 1, 1) := by decide +kernel
theorem dX9_down_2 : decode cX9_down 2 = .ok (.idiv, 1) := by decide +kernel
theorem dX9_down_3 : decode cX9_down 3 = .ok (.istore_n 2, 1) := by decide +kernel
theorem dX9_down_4 : decode cX9_down 4 = .ok (.iload_n 0, 1) := by decide +kernel
theorem dX9_down_5 : decode cX9_down 5 = .ok (.iload_n 1, 1) := by decide +kernel
theorem dX9_down_6 : decode cX9_down 6 = .ok (.irem, 1) := by decide +kernel
theorem dX9_down_7 : decode cX9_down 7 = .ok (.ifCond .ge 9, 3) := by decide +kernel
theorem dX9_down_10 : decode cX9_down 10 = .ok (.iload_n 2, 1) := by decide +kernel
theorem dX9_down_11 : decode cX9_down 11 = .ok (.iconst 1, 1) := by decide +kernel
theorem dX9_down_12 : decode cX9_down 12 = .ok (.isub, 1) := by decide +kernel
theorem dX9_down_13 : decode cX9_down 13 = .ok (.goto 4, 3) := by decide +kernel
theorem dX9_down_16 : decode cX9_down 16 = .ok (.iload_n 2, 1) := by decide +kernel
theorem dX9_down_17 : decode cX9_down 17 = .ok (.ireturn, 1) := by decide +kernel
theorem dX9_feed_0 : decode cX9_feed 0 = .ok (.aload_n 0, 1) := by decide +kernel
theorem dX9_feed_1 : decode cX9_feed 1 = .ok (.getfield 61, 3) := by decide +kernel
theorem dX9_feed_4 : decode cX9_feed 4 = .ok (.bipush 8, 2) := by decide +kernel
theorem dX9_feed_6 : decode cX9_feed 6 = .ok (.iadd, 1) := by decide +kernel
theorem dX9_feed_7 : decode cX9_feed 7 = .ok (.sipush 160, 3) := by decide +kernel
theorem dX9_feed_10 : decode cX9_feed 10 = .ok (.if_icmp .le 6, 3) := by decide +kernel
theorem dX9_feed_13 : decode cX9_feed 13 = .ok (.bipush (-3), 2) := by decide +kernel
theorem dX9_feed_15 : decode cX9_feed 15 = .ok (.ireturn, 1) := by decide +kernel
theorem dX9_feed_16 : decode cX9_feed 16 = .ok (.bipush 56, 2) := by decide +kernel
theorem dX9_feed_18 : decode cX9_feed 18 = .ok (.istore_n 3, 1) := by decide +kernel
theorem dX9_feed_19 : decode cX9_feed 19 = .ok (.iload_n 3, 1) := by decide +kernel
theorem dX9_feed_20 : decode cX9_feed 20 = .ok (.ifCond .lt 36, 3) := by decide +kernel
theorem dX9_feed_23 : decode cX9_feed 23 = .ok (.aload_n 0, 1) := by decide +kernel
theorem dX9_feed_24 : decode cX9_feed 24 = .ok (.getfield 7, 3) := by decide +kernel
theorem dX9_feed_27 : decode cX9_feed 27 = .ok (.aload_n 0, 1) := by decide +kernel
theorem dX9_feed_28 : decode cX9_feed 28 = .ok (.getfield 61, 3) := by decide +kernel
theorem dX9_feed_31 : decode cX9_feed 31 = .ok (.lload_n 1, 1) := by decide +kernel
theorem dX9_feed_32 : decode cX9_feed 32 = .ok (.iload_n 3, 1) := by decide +kernel
theorem dX9_feed_33 : decode cX9_feed 33 = .ok (.lshr, 1) := by decide +kernel
theorem dX9_feed_34 : decode cX9_feed 34 = .ok (.ldc2_w 65, 3) := by decide +kernel
theorem dX9_feed_37 : decode cX9_feed 37 = .ok (.land, 1) := by decide +kernel
theorem dX9_feed_38 : decode cX9_feed 38 = .ok (.l2i, 1) := by decide +kernel
theorem dX9_feed_39 : decode cX9_feed 39 = .ok (.iastore, 1) := by decide +kernel
theorem dX9_feed_40 : decode cX9_feed 40 = .ok (.aload_n 0, 1) := by decide +kernel
theorem dX9_feed_41 : decode cX9_feed 41 = .ok (.dup, 1) := by decide +kernel
theorem dX9_feed_42 : decode cX9_feed 42 = .ok (.getfield 61, 3) := by decide +kernel
theorem dX9_feed_45 : decode cX9_feed 45 = .ok (.iconst 1, 1) := by decide +kernel
theorem dX9_feed_46 : decode cX9_feed 46 = .ok (.iadd, 1) := by decide +kernel
theorem dX9_feed_47 : decode cX9_feed 47 = .ok (.putfield 61, 3) := by decide +kernel
theorem dX9_feed_50 : decode cX9_feed 50 = .ok (.iinc 3 (-8), 3) := by decide +kernel
theorem dX9_feed_53 : decode cX9_feed 53 = .ok (.goto (-34), 3) := by decide +kernel
theorem dX9_feed_56 : decode cX9_feed 56 = .ok (.aload_n 0, 1) := by decide +kernel
theorem dX9_feed_57 : decode cX9_feed 57 = .ok (.getfield 61, 3) := by decide +kernel
theorem dX9_feed_60 : decode cX9_feed 60 = .ok (.ireturn, 1) := by decide +kernel
theorem dX9_end_0 : decode cX9_end 0 = .ok (.iload_n 1, 1) := by decide +kernel
theorem dX9_end_1 : decode cX9_end 1 = .ok (.i2l, 1) := by decide +kernel
theorem dX9_end_2 : decode cX9_end 2 = .ok (.lconst 0, 1) := by decide +kernel
theorem dX9_end_3 : decode cX9_end 3 = .ok (.aload_n 0, 1) := by decide +kernel
theorem dX9_end_4 : decode cX9_end 4 = .ok (.getfield 61, 3) := by decide +kernel
theorem dX9_end_7 : decode cX9_end 7 = .ok (.i2l, 1) := by decide +kernel
theorem dX9_end_8 : decode cX9_end 8 = .ok (.invokestatic 67, 3) := by decide +kernel
theorem dX9_end_11 : decode cX9_end 11 = .ok (.ifCond .ne 5, 3) := by decide +kernel
theorem dX9_end_14 : decode cX9_end 14 = .ok (.iconst (-1), 1) := by decide +kernel
theorem dX9_end_15 : decode cX9_end 15 = .ok (.ireturn, 1) := by decide +kernel
theorem dX9_end_16 : decode cX9_end 16 = .ok (.aload_n 0, 1) := by decide +kernel
theorem dX9_end_17 : decode cX9_end 17 = .ok (.getfield 61, 3) := by decide +kernel
theorem dX9_end_20 : decode cX9_end 20 = .ok (.istore_n 2, 1) := by decide +kernel
theorem dX9_end_21 : decode cX9_end 21 = .ok (.aload_n 0, 1) := by decide +kernel
theorem dX9_end_22 : decode cX9_end 22 = .ok (.iload_n 1, 1) := by decide +kernel
theorem dX9_end_23 : decode cX9_end 23 = .ok (.putfield 61, 3) := by decide +kernel
theorem dX9_end_26 : decode cX9_end 26 = .ok (.iload_n 2, 1) := by decide +kernel
theorem dX9_end_27 : decode cX9_end 27 = .ok (.ireturn, 1) := by decide +kernel
theorem dX9_fails_0 : decode cX9_fails 0 = .ok (.aload_n 0, 1) := by decide +kernel
theorem dX9_fails_1 : decode cX9_fails 1 = .ok (.getfield 71, 3) := by decide +kernel
theorem dX9_fails_4 : decode cX9_fails 4 = .ok (.ifCond .ne 16, 3) := by decide +kernel
theorem dX9_fails_7 : decode cX9_fails 7 = .ok (.aload_n 0, 1) := by decide +kernel
theorem dX9_fails_8 : decode cX9_fails 8 = .ok (.iload_n 1, 1) := by decide +kernel
theorem dX9_fails_9 : decode cX9_fails 9 = .ok (.putfield 71, 3) := by decide +kernel
theorem dX9_fails_12 : decode cX9_fails 12 = .ok (.aload_n 0, 1) := by decide +kernel
theorem dX9_fails_13 : decode cX9_fails 13 = .ok (.aload_n 0, 1) := by decide +kernel
theorem dX9_fails_14 : decode cX9_fails 14 = .ok (.getfield 74, 3) := by decide +kernel
theorem dX9_fails_17 : decode cX9_fails 17 = .ok (.putfield 77, 3) := by decide +kernel
theorem dX9_fails_20 : decode cX9_fails 20 = .ok (.return_, 1) := by decide +kernel
theorem dX9_byteAt_0 : decode cX9_byteAt 0 = .ok (.iload_n 1, 1) := by decide +kernel
theorem dX9_byteAt_1 : decode cX9_byteAt 1 = .ok (.aload_n 0, 1) := by decide +kernel
theorem dX9_byteAt_2 : decode cX9_byteAt 2 = .ok (.getfield 61, 3) := by decide +kernel
theorem dX9_byteAt_5 : decode cX9_byteAt 5 = .ok (.if_icmp .ge 12, 3) := by decide +kernel
theorem dX9_byteAt_8 : decode cX9_byteAt 8 = .ok (.aload_n 0, 1) := by decide +kernel
theorem dX9_byteAt_9 : decode cX9_byteAt 9 = .ok (.getfield 7, 3) := by decide +kernel
theorem dX9_byteAt_12 : decode cX9_byteAt 12 = .ok (.iload_n 1, 1) := by decide +kernel
theorem dX9_byteAt_13 : decode cX9_byteAt 13 = .ok (.iaload, 1) := by decide +kernel
theorem dX9_byteAt_14 : decode cX9_byteAt 14 = .ok (.goto 4, 3) := by decide +kernel
theorem dX9_byteAt_17 : decode cX9_byteAt 17 = .ok (.iconst (-1), 1) := by decide +kernel
theorem dX9_byteAt_18 : decode cX9_byteAt 18 = .ok (.ireturn, 1) := by decide +kernel
theorem dX9_is_0 : decode cX9_is 0 = .ok (.iload 4, 2) := by decide +kernel
theorem dX9_is_2 : decode cX9_is 2 = .ok (.ifCond .ne 7, 3) := by decide +kernel
theorem dX9_is_5 : decode cX9_is 5 = .ok (.iconst 3, 1) := by decide +kernel
theorem dX9_is_6 : decode cX9_is 6 = .ok (.goto 4, 3) := by decide +kernel
theorem dX9_is_9 : decode cX9_is 9 = .ok (.iconst 4, 1) := by decide +kernel
theorem dX9_is_10 : decode cX9_is 10 = .ok (.istore 5, 2) := by decide +kernel
theorem dX9_is_12 : decode cX9_is 12 = .ok (.aload_n 0, 1) := by decide +kernel
theorem dX9_is_13 : decode cX9_is 13 = .ok (.getfield 80, 3) := by decide +kernel
theorem dX9_is_16 : decode cX9_is 16 = .ok (.aload_n 0, 1) := by decide +kernel
theorem dX9_is_17 : decode cX9_is 17 = .ok (.getfield 74, 3) := by decide +kernel
theorem dX9_is_20 : decode cX9_is 20 = .ok (.isub, 1) := by decide +kernel
theorem dX9_is_21 : decode cX9_is 21 = .ok (.iload 5, 2) := by decide +kernel
theorem dX9_is_23 : decode cX9_is 23 = .ok (.if_icmp .ne 67, 3) := by decide +kernel
theorem dX9_is_26 : decode cX9_is 26 = .ok (.aload_n 0, 1) := by decide +kernel
theorem dX9_is_27 : decode cX9_is 27 = .ok (.aload_n 0, 1) := by decide +kernel
theorem dX9_is_28 : decode cX9_is 28 = .ok (.getfield 74, 3) := by decide +kernel
theorem dX9_is_31 : decode cX9_is 31 = .ok (.invokevirtual 83, 3) := by decide +kernel
theorem dX9_is_34 : decode cX9_is 34 = .ok (.iload_n 1, 1) := by decide +kernel
theorem dX9_is_35 : decode cX9_is 35 = .ok (.if_icmp .ne 55, 3) := by decide +kernel
theorem dX9_is_38 : decode cX9_is 38 = .ok (.aload_n 0, 1) := by decide +kernel
theorem dX9_is_39 : decode cX9_is 39 = .ok (.aload_n 0, 1) := by decide +kernel
theorem dX9_is_40 : decode cX9_is 40 = .ok (.getfield 74, 3) := by decide +kernel
theorem dX9_is_43 : decode cX9_is 43 = .ok (.iconst 1, 1) := by decide +kernel
theorem dX9_is_44 : decode cX9_is 44 = .ok (.iadd, 1) := by decide +kernel
theorem dX9_is_45 : decode cX9_is 45 = .ok (.invokevirtual 83, 3) := by decide +kernel
theorem dX9_is_48 : decode cX9_is 48 = .ok (.iload_n 2, 1) := by decide +kernel
theorem dX9_is_49 : decode cX9_is 49 = .ok (.if_icmp .ne 41, 3) := by decide +kernel
theorem dX9_is_52 : decode cX9_is 52 = .ok (.aload_n 0, 1) := by decide +kernel
theorem dX9_is_53 : decode cX9_is 53 = .ok (.aload_n 0, 1) := by decide +kernel
theorem dX9_is_54 : decode cX9_is 54 = .ok (.getfield 74, 3) := by decide +kernel
theorem dX9_is_57 : decode cX9_is 57 = .ok (.iconst 2, 1) := by decide +kernel
theorem dX9_is_58 : decode cX9_is 58 = .ok (.iadd, 1) := by decide +kernel
theorem dX9_is_59 : decode cX9_is 59 = .ok (.invokevirtual 83, 3) := by decide +kernel
theorem dX9_is_62 : decode cX9_is 62 = .ok (.iload_n 3, 1) := by decide +kernel
theorem dX9_is_63 : decode cX9_is 63 = .ok (.if_icmp .ne 27, 3) := by decide +kernel
theorem dX9_is_66 : decode cX9_is 66 = .ok (.iload 4, 2) := by decide +kernel
theorem dX9_is_68 : decode cX9_is 68 = .ok (.ifCond .eq 18, 3) := by decide +kernel
theorem dX9_is_71 : decode cX9_is 71 = .ok (.aload_n 0, 1) := by decide +kernel
theorem dX9_is_72 : decode cX9_is 72 = .ok (.aload_n 0, 1) := by decide +kernel
theorem dX9_is_73 : decode cX9_is 73 = .ok (.getfield 74, 3) := by decide +kernel
theorem dX9_is_76 : decode cX9_is 76 = .ok (.iconst 3, 1) := by decide +kernel
theorem dX9_is_77 : decode cX9_is 77 = .ok (.iadd, 1) := by decide +kernel
theorem dX9_is_78 : decode cX9_is 78 = .ok (.invokevirtual 83, 3) := by decide +kernel
theorem dX9_is_81 : decode cX9_is 81 = .ok (.iload 4, 2) := by decide +kernel
theorem dX9_is_83 : decode cX9_is 83 = .ok (.if_icmp .ne 7, 3) := by decide +kernel
theorem dX9_is_86 : decode cX9_is 86 = .ok (.iconst 1, 1) := by decide +kernel
theorem dX9_is_87 : decode cX9_is 87 = .ok (.goto 4, 3) := by decide +kernel
theorem dX9_is_90 : decode cX9_is 90 = .ok (.iconst 0, 1) := by decide +kernel
theorem dX9_is_91 : decode cX9_is 91 = .ok (.ireturn, 1) := by decide +kernel
theorem dX9_nameNow_0 : decode cX9_nameNow 0 = .ok (.aload_n 0, 1) := by decide +kernel
theorem dX9_nameNow_1 : decode cX9_nameNow 1 = .ok (.bipush 107, 2) := by decide +kernel
theorem dX9_nameNow_3 : decode cX9_nameNow 3 = .ok (.bipush 101, 2) := by decide +kernel
theorem dX9_nameNow_5 : decode cX9_nameNow 5 = .ok (.bipush 101, 2) := by decide +kernel
theorem dX9_nameNow_7 : decode cX9_nameNow 7 = .ok (.bipush 112, 2) := by decide +kernel
theorem dX9_nameNow_9 : decode cX9_nameNow 9 = .ok (.invokevirtual 87, 3) := by decide +kernel
theorem dX9_nameNow_12 : decode cX9_nameNow 12 = .ok (.ifCond .eq 5, 3) := by decide +kernel
theorem dX9_nameNow_15 : decode cX9_nameNow 15 = .ok (.iconst 0, 1) := by decide +kernel
theorem dX9_nameNow_16 : decode cX9_nameNow 16 = .ok (.ireturn, 1) := by decide +kernel
theorem dX9_nameNow_17 : decode cX9_nameNow 17 = .ok (.aload_n 0, 1) := by decide +kernel
theorem dX9_nameNow_18 : decode cX9_nameNow 18 = .ok (.bipush 115, 2) := by decide +kernel
theorem dX9_nameNow_20 : decode cX9_nameNow 20 = .ok (.bipush 97, 2) := by decide +kernel
theorem dX9_nameNow_22 : decode cX9_nameNow 22 = .ok (.bipush 108, 2) := by decide +kernel
theorem dX9_nameNow_24 : decode cX9_nameNow 24 = .ok (.bipush 101, 2) := by decide +kernel
theorem dX9_nameNow_26 : decode cX9_nameNow 26 = .ok (.invokevirtual 87, 3) := by decide +kernel
theorem dX9_nameNow_29 : decode cX9_nameNow 29 = .ok (.ifCond .eq 5, 3) := by decide +kernel
theorem dX9_nameNow_32 : decode cX9_nameNow 32 = .ok (.iconst 1, 1) := by decide +kernel
theorem dX9_nameNow_33 : decode cX9_nameNow 33 = .ok (.ireturn, 1) := by decide +kernel
theorem dX9_nameNow_34 : decode cX9_nameNow 34 = .ok (.aload_n 0, 1) := by decide +kernel
theorem dX9_nameNow_35 : decode cX9_nameNow 35 = .ok (.bipush 103, 2) := by decide +kernel
theorem dX9_nameNow_37 : decode cX9_nameNow 37 = .ok (.bipush 105, 2) := by decide +kernel
theorem dX9_nameNow_39 : decode cX9_nameNow 39 = .ok (.bipush 102, 2) := by decide +kernel
theorem dX9_nameNow_41 : decode cX9_nameNow 41 = .ok (.bipush 116, 2) := by decide +kernel
theorem dX9_nameNow_43 : decode cX9_nameNow 43 = .ok (.invokevirtual 87, 3) := by decide +kernel
theorem dX9_nameNow_46 : decode cX9_nameNow 46 = .ok (.ifCond .eq 5, 3) := by decide +kernel
theorem dX9_nameNow_49 : decode cX9_nameNow 49 = .ok (.iconst 2, 1) := by decide +kernel
theorem dX9_nameNow_50 : decode cX9_nameNow 50 = .ok (.ireturn, 1) := by decide +kernel
theorem dX9_nameNow_51 : decode cX9_nameNow 51 = .ok (.aload_n 0, 1) := by decide +kernel
theorem dX9_nameNow_52 : decode cX9_nameNow 52 = .ok (.bipush 118, 2) := by decide +kernel
theorem dX9_nameNow_54 : decode cX9_nameNow 54 = .ok (.bipush 97, 2) := by decide +kernel
theorem dX9_nameNow_56 : decode cX9_nameNow 56 = .ok (.bipush 110, 2) := by decide +kernel
theorem dX9_nameNow_58 : decode cX9_nameNow 58 = .ok (.iconst 0, 1) := by decide +kernel
theorem dX9_nameNow_59 : decode cX9_nameNow 59 = .ok (.invokevirtual 87, 3) := by decide +kernel
theorem dX9_nameNow_62 : decode cX9_nameNow 62 = .ok (.ifCond .eq 5, 3) := by decide +kernel
theorem dX9_nameNow_65 : decode cX9_nameNow 65 = .ok (.iconst 3, 1) := by decide +kernel
theorem dX9_nameNow_66 : decode cX9_nameNow 66 = .ok (.ireturn, 1) := by decide +kernel
theorem dX9_nameNow_67 : decode cX9_nameNow 67 = .ok (.aload_n 0, 1) := by decide +kernel
theorem dX9_nameNow_68 : decode cX9_nameNow 68 = .ok (.bipush 108, 2) := by decide +kernel
theorem dX9_nameNow_70 : decode cX9_nameNow 70 = .ok (.bipush 111, 2) := by decide +kernel
theorem dX9_nameNow_72 : decode cX9_nameNow 72 = .ok (.bipush 111, 2) := by decide +kernel
theorem dX9_nameNow_74 : decode cX9_nameNow 74 = .ok (.bipush 107, 2) := by decide +kernel
theorem dX9_nameNow_76 : decode cX9_nameNow 76 = .ok (.invokevirtual 87, 3) := by decide +kernel
theorem dX9_nameNow_79 : decode cX9_nameNow 79 = .ok (.ifCond .eq 5, 3) := by decide +kernel
theorem dX9_nameNow_82 : decode cX9_nameNow 82 = .ok (.iconst 4, 1) := by decide +kernel
theorem dX9_nameNow_83 : decode cX9_nameNow 83 = .ok (.ireturn, 1) := by decide +kernel
theorem dX9_nameNow_84 : decode cX9_nameNow 84 = .ok (.aload_n 0, 1) := by decide +kernel
theorem dX9_nameNow_85 : decode cX9_nameNow 85 = .ok (.bipush 102, 2) := by decide +kernel
theorem dX9_nameNow_87 : decode cX9_nameNow 87 = .ok (.bipush 117, 2) := by decide +kernel
theorem dX9_nameNow_89 : decode cX9_nameNow 89 = .ok (.bipush 114, 2) := by decide +kernel
theorem dX9_nameNow_91 : decode cX9_nameNow 91 = .ok (.iconst 0, 1) := by decide +kernel
theorem dX9_nameNow_92 : decode cX9_nameNow 92 = .ok (.invokevirtual 87, 3) := by decide +kernel
theorem dX9_nameNow_95 : decode cX9_nameNow 95 = .ok (.ifCond .eq 5, 3) := by decide +kernel
theorem dX9_nameNow_98 : decode cX9_nameNow 98 = .ok (.iconst 5, 1) := by decide +kernel
theorem dX9_nameNow_99 : decode cX9_nameNow 99 = .ok (.ireturn, 1) := by decide +kernel
theorem dX9_nameNow_100 : decode cX9_nameNow 100 = .ok (.aload_n 0, 1) := by decide +kernel
theorem dX9_nameNow_101 : decode cX9_nameNow 101 = .ok (.bipush 103, 2) := by decide +kernel
theorem dX9_nameNow_103 : decode cX9_nameNow 103 = .ok (.bipush 117, 2) := by decide +kernel
theorem dX9_nameNow_105 : decode cX9_nameNow 105 = .ok (.bipush 110, 2) := by decide +kernel
theorem dX9_nameNow_107 : decode cX9_nameNow 107 = .ok (.iconst 0, 1) := by decide +kernel
theorem dX9_nameNow_108 : decode cX9_nameNow 108 = .ok (.invokevirtual 87, 3) := by decide +kernel
theorem dX9_nameNow_111 : decode cX9_nameNow 111 = .ok (.ifCond .eq 6, 3) := by decide +kernel
theorem dX9_nameNow_114 : decode cX9_nameNow 114 = .ok (.bipush 6, 2) := by decide +kernel
theorem dX9_nameNow_116 : decode cX9_nameNow 116 = .ok (.ireturn, 1) := by decide +kernel
theorem dX9_nameNow_117 : decode cX9_nameNow 117 = .ok (.aload_n 0, 1) := by decide +kernel
theorem dX9_nameNow_118 : decode cX9_nameNow 118 = .ok (.bipush 107, 2) := by decide +kernel
theorem dX9_nameNow_120 : decode cX9_nameNow 120 = .ok (.bipush 105, 2) := by decide +kernel
theorem dX9_nameNow_122 : decode cX9_nameNow 122 = .ok (.bipush 110, 2) := by decide +kernel
theorem dX9_nameNow_124 : decode cX9_nameNow 124 = .ok (.iconst 0, 1) := by decide +kernel
theorem dX9_nameNow_125 : decode cX9_nameNow 125 = .ok (.invokevirtual 87, 3) := by decide +kernel
theorem dX9_nameNow_128 : decode cX9_nameNow 128 = .ok (.ifCond .eq 8, 3) := by decide +kernel
theorem dX9_nameNow_131 : decode cX9_nameNow 131 = .ok (.bipush 7, 2) := by decide +kernel
theorem dX9_nameNow_133 : decode cX9_nameNow 133 = .ok (.goto 24, 3) := by decide +kernel
theorem dX9_nameNow_136 : decode cX9_nameNow 136 = .ok (.aload_n 0, 1) := by decide +kernel
theorem dX9_nameNow_137 : decode cX9_nameNow 137 = .ok (.bipush 116, 2) := by decide +kernel
theorem dX9_nameNow_139 : decode cX9_nameNow 139 = .ok (.bipush 105, 2) := by decide +kernel
theorem dX9_nameNow_141 : decode cX9_nameNow 141 = .ok (.bipush 112, 2) := by decide +kernel
theorem dX9_nameNow_143 : decode cX9_nameNow 143 = .ok (.iconst 0, 1) := by decide +kernel
theorem dX9_nameNow_144 : decode cX9_nameNow 144 = .ok (.invokevirtual 87, 3) := by decide +kernel
theorem dX9_nameNow_147 : decode cX9_nameNow 147 = .ok (.ifCond .eq 8, 3) := by decide +kernel
theorem dX9_nameNow_150 : decode cX9_nameNow 150 = .ok (.bipush 8, 2) := by decide +kernel
theorem dX9_nameNow_152 : decode cX9_nameNow 152 = .ok (.goto 5, 3) := by decide +kernel
theorem dX9_nameNow_155 : decode cX9_nameNow 155 = .ok (.bipush (-4), 2) := by decide +kernel
theorem dX9_nameNow_157 : decode cX9_nameNow 157 = .ok (.ireturn, 1) := by decide +kernel
theorem dX9_next_0 : decode cX9_next 0 = .ok (.aload_n 0, 1) := by decide +kernel
theorem dX9_next_1 : decode cX9_next 1 = .ok (.aload_n 0, 1) := by decide +kernel
theorem dX9_next_2 : decode cX9_next 2 = .ok (.getfield 80, 3) := by decide +kernel
theorem dX9_next_5 : decode cX9_next 5 = .ok (.invokevirtual 83, 3) := by decide +kernel
theorem dX9_next_8 : decode cX9_next 8 = .ok (.bipush 32, 2) := by decide +kernel
theorem dX9_next_10 : decode cX9_next 10 = .ok (.if_icmp .ne 16, 3) := by decide +kernel
theorem dX9_next_13 : decode cX9_next 13 = .ok (.aload_n 0, 1) := by decide +kernel
theorem dX9_next_14 : decode cX9_next 14 = .ok (.dup, 1) := by decide +kernel
theorem dX9_next_15 : decode cX9_next 15 = .ok (.getfield 80, 3) := by decide +kernel
theorem dX9_next_18 : decode cX9_next 18 = .ok (.iconst 1, 1) := by decide +kernel
theorem dX9_next_19 : decode cX9_next 19 = .ok (.iadd, 1) := by decide +kernel
theorem dX9_next_20 : decode cX9_next 20 = .ok (.putfield 80, 3) := by decide +kernel
theorem dX9_next_23 : decode cX9_next 23 = .ok (.goto (-23), 3) := by decide +kernel
theorem dX9_next_26 : decode cX9_next 26 = .ok (.aload_n 0, 1) := by decide +kernel
theorem dX9_next_27 : decode cX9_next 27 = .ok (.aload_n 0, 1) := by decide +kernel
theorem dX9_next_28 : decode cX9_next 28 = .ok (.getfield 80, 3) := by decide +kernel
theorem dX9_next_31 : decode cX9_next 31 = .ok (.putfield 74, 3) := by decide +kernel
theorem dX9_next_34 : decode cX9_next 34 = .ok (.aload_n 0, 1) := by decide +kernel
theorem dX9_next_35 : decode cX9_next 35 = .ok (.aload_n 0, 1) := by decide +kernel
theorem dX9_next_36 : decode cX9_next 36 = .ok (.getfield 80, 3) := by decide +kernel
theorem dX9_next_39 : decode cX9_next 39 = .ok (.invokevirtual 83, 3) := by decide +kernel
theorem dX9_next_42 : decode cX9_next 42 = .ok (.istore_n 1, 1) := by decide +kernel
theorem dX9_next_43 : decode cX9_next 43 = .ok (.iload_n 1, 1) := by decide +kernel
theorem dX9_next_44 : decode cX9_next 44 = .ok (.ifCond .ge 11, 3) := by decide +kernel
theorem dX9_next_47 : decode cX9_next 47 = .ok (.aload_n 0, 1) := by decide +kernel
theorem dX9_next_48 : decode cX9_next 48 = .ok (.iconst 0, 1) := by decide +kernel
theorem dX9_next_49 : decode cX9_next 49 = .ok (.putfield 91, 3) := by decide +kernel
theorem dX9_next_52 : decode cX9_next 52 = .ok (.goto 232, 3) := by decide +kernel
theorem dX9_next_55 : decode cX9_next 55 = .ok (.iload_n 1, 1) := by decide +kernel
theorem dX9_next_56 : decode cX9_next 56 = .ok (.i2l, 1) := by decide +kernel
theorem dX9_next_57 : decode cX9_next 57 = .ok (.ldc2_w 94, 3) := by decide +kernel
theorem dX9_next_60 : decode cX9_next 60 = .ok (.ldc2_w 96, 3) := by decide +kernel
theorem dX9_next_63 : decode cX9_next 63 = .ok (.invokestatic 67, 3) := by decide +kernel
theorem dX9_next_66 : decode cX9_next 66 = .ok (.ifCond .eq 67, 3) := by decide +kernel
theorem dX9_next_69 : decode cX9_next 69 = .ok (.aload_n 0, 1) := by decide +kernel
theorem dX9_next_70 : decode cX9_next 70 = .ok (.iconst 1, 1) := by decide +kernel
theorem dX9_next_71 : decode cX9_next 71 = .ok (.putfield 91, 3) := by decide +kernel
theorem dX9_next_74 : decode cX9_next 74 = .ok (.aload_n 0, 1) := by decide +kernel
theorem dX9_next_75 : decode cX9_next 75 = .ok (.aload_n 0, 1) := by decide +kernel
theorem dX9_next_76 : decode cX9_next 76 = .ok (.getfield 80, 3) := by decide +kernel
theorem dX9_next_79 : decode cX9_next 79 = .ok (.invokevirtual 83, 3) := by decide +kernel
theorem dX9_next_82 : decode cX9_next 82 = .ok (.i2l, 1) := by decide +kernel
theorem dX9_next_83 : decode cX9_next 83 = .ok (.ldc2_w 94, 3) := by decide +kernel
theorem dX9_next_86 : decode cX9_next 86 = .ok (.ldc2_w 96, 3) := by decide +kernel
theorem dX9_next_89 : decode cX9_next 89 = .ok (.invokestatic 67, 3) := by decide +kernel
theorem dX9_next_92 : decode cX9_next 92 = .ok (.ifCond .eq 16, 3) := by decide +kernel
theorem dX9_next_95 : decode cX9_next 95 = .ok (.aload_n 0, 1) := by decide +kernel
theorem dX9_next_96 : decode cX9_next 96 = .ok (.dup, 1) := by decide +kernel
theorem dX9_next_97 : decode cX9_next 97 = .ok (.getfield 80, 3) := by decide +kernel
theorem dX9_next_100 : decode cX9_next 100 = .ok (.iconst 1, 1) := by decide +kernel
theorem dX9_next_101 : decode cX9_next 101 = .ok (.iadd, 1) := by decide +kernel
theorem dX9_next_102 : decode cX9_next 102 = .ok (.putfield 80, 3) := by decide +kernel
theorem dX9_next_105 : decode cX9_next 105 = .ok (.goto (-31), 3) := by decide +kernel
theorem dX9_next_108 : decode cX9_next 108 = .ok (.aload_n 0, 1) := by decide +kernel
theorem dX9_next_109 : decode cX9_next 109 = .ok (.aload_n 0, 1) := by decide +kernel
theorem dX9_next_110 : decode cX9_next 110 = .ok (.invokevirtual 98, 3) := by decide +kernel
theorem dX9_next_113 : decode cX9_next 113 = .ok (.putfield 102, 3) := by decide +kernel
theorem dX9_next_116 : decode cX9_next 116 = .ok (.aload_n 0, 1) := by decide +kernel
theorem dX9_next_117 : decode cX9_next 117 = .ok (.getfield 102, 3) := by decide +kernel
theorem dX9_next_120 : decode cX9_next 120 = .ok (.bipush (-4), 2) := by decide +kernel
theorem dX9_next_122 : decode cX9_next 122 = .ok (.if_icmp .ne 162, 3) := by decide +kernel
theorem dX9_next_125 : decode cX9_next 125 = .ok (.aload_n 0, 1) := by decide +kernel
theorem dX9_next_126 : decode cX9_next 126 = .ok (.iconst 1, 1) := by decide +kernel
theorem dX9_next_127 : decode cX9_next 127 = .ok (.invokevirtual 105, 3) := by decide +kernel
theorem dX9_next_130 : decode cX9_next 130 = .ok (.goto 154, 3) := by decide +kernel
theorem dX9_next_133 : decode cX9_next 133 = .ok (.iload_n 1, 1) := by decide +kernel
theorem dX9_next_134 : decode cX9_next 134 = .ok (.i2l, 1) := by decide +kernel
theorem dX9_next_135 : decode cX9_next 135 = .ok (.ldc2_w 109, 3) := by decide +kernel
theorem dX9_next_138 : decode cX9_next 138 = .ok (.ldc2_w 111, 3) := by decide +kernel
theorem dX9_next_141 : decode cX9_next 141 = .ok (.invokestatic 67, 3) := by decide +kernel
theorem dX9_next_144 : decode cX9_next 144 = .ok (.ifCond .eq 111, 3) := by decide +kernel
theorem dX9_next_147 : decode cX9_next 147 = .ok (.aload_n 0, 1) := by decide +kernel
theorem dX9_next_148 : decode cX9_next 148 = .ok (.iconst 2, 1) := by decide +kernel
theorem dX9_next_149 : decode cX9_next 149 = .ok (.putfield 91, 3) := by decide +kernel
theorem dX9_next_152 : decode cX9_next 152 = .ok (.aload_n 0, 1) := by decide +kernel
theorem dX9_next_153 : decode cX9_next 153 = .ok (.iconst 0, 1) := by decide +kernel
theorem dX9_next_154 : decode cX9_next 154 = .ok (.putfield 102, 3) := by decide +kernel
theorem dX9_next_157 : decode cX9_next 157 = .ok (.aload_n 0, 1) := by decide +kernel
theorem dX9_next_158 : decode cX9_next 158 = .ok (.aload_n 0, 1) := by decide +kernel
theorem dX9_next_159 : decode cX9_next 159 = .ok (.getfield 80, 3) := by decide +kernel
theorem dX9_next_162 : decode cX9_next 162 = .ok (.invokevirtual 83, 3) := by decide +kernel
theorem dX9_next_165 : decode cX9_next 165 = .ok (.i2l, 1) := by decide +kernel
theorem dX9_next_166 : decode cX9_next 166 = .ok (.ldc2_w 109, 3) := by decide +kernel
theorem dX9_next_169 : decode cX9_next 169 = .ok (.ldc2_w 111, 3) := by decide +kernel
theorem dX9_next_172 : decode cX9_next 172 = .ok (.invokestatic 67, 3) := by decide +kernel
theorem dX9_next_175 : decode cX9_next 175 = .ok (.ifCond .eq 59, 3) := by decide +kernel
theorem dX9_next_178 : decode cX9_next 178 = .ok (.aload_n 0, 1) := by decide +kernel
theorem dX9_next_179 : decode cX9_next 179 = .ok (.aload_n 0, 1) := by decide +kernel
theorem dX9_next_180 : decode cX9_next 180 = .ok (.getfield 80, 3) := by decide +kernel
theorem dX9_next_183 : decode cX9_next 183 = .ok (.aload_n 0, 1) := by decide +kernel
theorem dX9_next_184 : decode cX9_next 184 = .ok (.getfield 74, 3) := by decide +kernel
theorem dX9_next_187 : decode cX9_next 187 = .ok (.isub, 1) := by decide +kernel
theorem dX9_next_188 : decode cX9_next 188 = .ok (.iconst 4, 1) := by decide +kernel
theorem dX9_next_189 : decode cX9_next 189 = .ok (.if_icmp .ge 25, 3) := by decide +kernel
theorem dX9_next_192 : decode cX9_next 192 = .ok (.bipush 10, 2) := by decide +kernel
theorem dX9_next_194 : decode cX9_next 194 = .ok (.aload_n 0, 1) := by decide +kernel
theorem dX9_next_195 : decode cX9_next 195 = .ok (.getfield 102, 3) := by decide +kernel
theorem dX9_next_198 : decode cX9_next 198 = .ok (.imul, 1) := by decide +kernel
theorem dX9_next_199 : decode cX9_next 199 = .ok (.aload_n 0, 1) := by decide +kernel
theorem dX9_next_200 : decode cX9_next 200 = .ok (.aload_n 0, 1) := by decide +kernel
theorem dX9_next_201 : decode cX9_next 201 = .ok (.getfield 80, 3) := by decide +kernel
theorem dX9_next_204 : decode cX9_next 204 = .ok (.invokevirtual 83, 3) := by decide +kernel
theorem dX9_next_207 : decode cX9_next 207 = .ok (.iadd, 1) := by decide +kernel
theorem dX9_next_208 : decode cX9_next 208 = .ok (.bipush 48, 2) := by decide +kernel
theorem dX9_next_210 : decode cX9_next 210 = .ok (.isub, 1) := by decide +kernel
theorem dX9_next_211 : decode cX9_next 211 = .ok (.goto 7, 3) := by decide +kernel
theorem dX9_next_214 : decode cX9_next 214 = .ok (.aload_n 0, 1) := by decide +kernel
theorem dX9_next_215 : decode cX9_next 215 = .ok (.getfield 102, 3) := by decide +kernel
theorem dX9_next_218 : decode cX9_next 218 = .ok (.putfield 102, 3) := by decide +kernel
theorem dX9_next_221 : decode cX9_next 221 = .ok (.aload_n 0, 1) := by decide +kernel
theorem dX9_next_222 : decode cX9_next 222 = .ok (.dup, 1) := by decide +kernel
theorem dX9_next_223 : decode cX9_next 223 = .ok (.getfield 80, 3) := by decide +kernel
theorem dX9_next_226 : decode cX9_next 226 = .ok (.iconst 1, 1) := by decide +kernel
theorem dX9_next_227 : decode cX9_next 227 = .ok (.iadd, 1) := by decide +kernel
theorem dX9_next_228 : decode cX9_next 228 = .ok (.putfield 80, 3) := by decide +kernel
theorem dX9_next_231 : decode cX9_next 231 = .ok (.goto (-74), 3) := by decide +kernel
theorem dX9_next_234 : decode cX9_next 234 = .ok (.aload_n 0, 1) := by decide +kernel
theorem dX9_next_235 : decode cX9_next 235 = .ok (.getfield 80, 3) := by decide +kernel
theorem dX9_next_238 : decode cX9_next 238 = .ok (.aload_n 0, 1) := by decide +kernel
theorem dX9_next_239 : decode cX9_next 239 = .ok (.getfield 74, 3) := by decide +kernel
theorem dX9_next_242 : decode cX9_next 242 = .ok (.isub, 1) := by decide +kernel
theorem dX9_next_243 : decode cX9_next 243 = .ok (.iconst 4, 1) := by decide +kernel
theorem dX9_next_244 : decode cX9_next 244 = .ok (.if_icmp .le 40, 3) := by decide +kernel
theorem dX9_next_247 : decode cX9_next 247 = .ok (.aload_n 0, 1) := by decide +kernel
theorem dX9_next_248 : decode cX9_next 248 = .ok (.iconst 1, 1) := by decide +kernel
theorem dX9_next_249 : decode cX9_next 249 = .ok (.invokevirtual 105, 3) := by decide +kernel
theorem dX9_next_252 : decode cX9_next 252 = .ok (.goto 32, 3) := by decide +kernel
theorem dX9_next_255 : decode cX9_next 255 = .ok (.iload_n 1, 1) := by decide +kernel
theorem dX9_next_256 : decode cX9_next 256 = .ok (.bipush 59, 2) := by decide +kernel
theorem dX9_next_258 : decode cX9_next 258 = .ok (.if_icmp .ne 21, 3) := by decide +kernel
theorem dX9_next_261 : decode cX9_next 261 = .ok (.aload_n 0, 1) := by decide +kernel
theorem dX9_next_262 : decode cX9_next 262 = .ok (.iconst 3, 1) := by decide +kernel
theorem dX9_next_263 : decode cX9_next 263 = .ok (.putfield 91, 3) := by decide +kernel
theorem dX9_next_266 : decode cX9_next 266 = .ok (.aload_n 0, 1) := by decide +kernel
theorem dX9_next_267 : decode cX9_next 267 = .ok (.dup, 1) := by decide +kernel
theorem dX9_next_268 : decode cX9_next 268 = .ok (.getfield 80, 3) := by decide +kernel
theorem dX9_next_271 : decode cX9_next 271 = .ok (.iconst 1, 1) := by decide +kernel
theorem dX9_next_272 : decode cX9_next 272 = .ok (.iadd, 1) := by decide +kernel
theorem dX9_next_273 : decode cX9_next 273 = .ok (.putfield 80, 3) := by decide +kernel
theorem dX9_next_276 : decode cX9_next 276 = .ok (.goto 8, 3) := by decide +kernel
theorem dX9_next_279 : decode cX9_next 279 = .ok (.aload_n 0, 1) := by decide +kernel
theorem dX9_next_280 : decode cX9_next 280 = .ok (.iconst 1, 1) := by decide +kernel
theorem dX9_next_281 : decode cX9_next 281 = .ok (.invokevirtual 105, 3) := by decide +kernel
theorem dX9_next_284 : decode cX9_next 284 = .ok (.return_, 1) := by decide +kernel
theorem dX9_wants_0 : decode cX9_wants 0 = .ok (.iload_n 1, 1) := by decide +kernel
theorem dX9_wants_1 : decode cX9_wants 1 = .ok (.ifCond .ne 8, 3) := by decide +kernel
theorem dX9_wants_4 : decode cX9_wants 4 = .ok (.aload_n 0, 1) := by decide +kernel
theorem dX9_wants_5 : decode cX9_wants 5 = .ok (.iload_n 2, 1) := by decide +kernel
theorem dX9_wants_6 : decode cX9_wants 6 = .ok (.invokevirtual 105, 3) := by decide +kernel
theorem dX9_wants_9 : decode cX9_wants 9 = .ok (.return_, 1) := by decide +kernel
theorem dX9_goesOn_0 : decode cX9_goesOn 0 = .ok (.aload_n 0, 1) := by decide +kernel
theorem dX9_goesOn_1 : decode cX9_goesOn 1 = .ok (.getfield 71, 3) := by decide +kernel
theorem dX9_goesOn_4 : decode cX9_goesOn 4 = .ok (.ifCond .ne 7, 3) := by decide +kernel
theorem dX9_goesOn_7 : decode cX9_goesOn 7 = .ok (.aload_n 0, 1) := by decide +kernel
theorem dX9_goesOn_8 : decode cX9_goesOn 8 = .ok (.invokevirtual 113, 3) := by decide +kernel
theorem dX9_goesOn_11 : decode cX9_goesOn 11 = .ok (.return_, 1) := by decide +kernel
theorem dX9_wayOf_0 : decode cX9_wayOf 0 = .ok (.iload_n 0, 1) := by decide +kernel
theorem dX9_wayOf_1 : decode cX9_wayOf 1 = .ok (.bipush 7, 2) := by decide +kernel
theorem dX9_wayOf_3 : decode cX9_wayOf 3 = .ok (.if_icmp .ne 7, 3) := by decide +kernel
theorem dX9_wayOf_6 : decode cX9_wayOf 6 = .ok (.iconst 0, 1) := by decide +kernel
theorem dX9_wayOf_7 : decode cX9_wayOf 7 = .ok (.goto 33, 3) := by decide +kernel
theorem dX9_wayOf_10 : decode cX9_wayOf 10 = .ok (.iload_n 0, 1) := by decide +kernel
theorem dX9_wayOf_11 : decode cX9_wayOf 11 = .ok (.iconst 1, 1) := by decide +kernel
theorem dX9_wayOf_12 : decode cX9_wayOf 12 = .ok (.if_icmp .ne 7, 3) := by decide +kernel
theorem dX9_wayOf_15 : decode cX9_wayOf 15 = .ok (.iconst 1, 1) := by decide +kernel
theorem dX9_wayOf_16 : decode cX9_wayOf 16 = .ok (.goto 24, 3) := by decide +kernel
theorem dX9_wayOf_19 : decode cX9_wayOf 19 = .ok (.iload_n 0, 1) := by decide +kernel
theorem dX9_wayOf_20 : decode cX9_wayOf 20 = .ok (.iconst 2, 1) := by decide +kernel
theorem dX9_wayOf_21 : decode cX9_wayOf 21 = .ok (.if_icmp .ne 7, 3) := by decide +kernel
theorem dX9_wayOf_24 : decode cX9_wayOf 24 = .ok (.iconst 2, 1) := by decide +kernel
theorem dX9_wayOf_25 : decode cX9_wayOf 25 = .ok (.goto 15, 3) := by decide +kernel
theorem dX9_wayOf_28 : decode cX9_wayOf 28 = .ok (.iload_n 0, 1) := by decide +kernel
theorem dX9_wayOf_29 : decode cX9_wayOf 29 = .ok (.bipush 8, 2) := by decide +kernel
theorem dX9_wayOf_31 : decode cX9_wayOf 31 = .ok (.if_icmp .ne 7, 3) := by decide +kernel
theorem dX9_wayOf_34 : decode cX9_wayOf 34 = .ok (.iconst 3, 1) := by decide +kernel
theorem dX9_wayOf_35 : decode cX9_wayOf 35 = .ok (.goto 5, 3) := by decide +kernel
theorem dX9_wayOf_38 : decode cX9_wayOf 38 = .ok (.bipush (-4), 2) := by decide +kernel
theorem dX9_wayOf_40 : decode cX9_wayOf 40 = .ok (.ireturn, 1) := by decide +kernel
theorem dX9_least_0 : decode cX9_least 0 = .ok (.iload_n 0, 1) := by decide +kernel
theorem dX9_least_1 : decode cX9_least 1 = .ok (.iconst 3, 1) := by decide +kernel
theorem dX9_least_2 : decode cX9_least 2 = .ok (.if_icmp .ne 7, 3) := by decide +kernel
theorem dX9_least_5 : decode cX9_least 5 = .ok (.iconst 1, 1) := by decide +kernel
theorem dX9_least_6 : decode cX9_least 6 = .ok (.goto 4, 3) := by decide +kernel
theorem dX9_least_9 : decode cX9_least 9 = .ok (.iconst 0, 1) := by decide +kernel
theorem dX9_least_10 : decode cX9_least 10 = .ok (.ireturn, 1) := by decide +kernel
theorem dX9_most_0 : decode cX9_most 0 = .ok (.iload_n 0, 1) := by decide +kernel
theorem dX9_most_1 : decode cX9_most 1 = .ok (.ifCond .ne 8, 3) := by decide +kernel
theorem dX9_most_4 : decode cX9_most 4 = .ok (.bipush 99, 2) := by decide +kernel
theorem dX9_most_6 : decode cX9_most 6 = .ok (.goto 27, 3) := by decide +kernel
theorem dX9_most_9 : decode cX9_most 9 = .ok (.iload_n 0, 1) := by decide +kernel
theorem dX9_most_10 : decode cX9_most 10 = .ok (.iconst 2, 1) := by decide +kernel
theorem dX9_most_11 : decode cX9_most 11 = .ok (.if_icmp .ne 8, 3) := by decide +kernel
theorem dX9_most_14 : decode cX9_most 14 = .ok (.bipush 100, 2) := by decide +kernel
theorem dX9_most_16 : decode cX9_most 16 = .ok (.goto 17, 3) := by decide +kernel
theorem dX9_most_19 : decode cX9_most 19 = .ok (.iload_n 0, 1) := by decide +kernel
theorem dX9_most_20 : decode cX9_most 20 = .ok (.iconst 3, 1) := by decide +kernel
theorem dX9_most_21 : decode cX9_most 21 = .ok (.if_icmp .ne 9, 3) := by decide +kernel
theorem dX9_most_24 : decode cX9_most 24 = .ok (.sipush 200, 3) := by decide +kernel
theorem dX9_most_27 : decode cX9_most 27 = .ok (.goto 6, 3) := by decide +kernel
theorem dX9_most_30 : decode cX9_most 30 = .ok (.sipush 1000, 3) := by decide +kernel
theorem dX9_most_33 : decode cX9_most 33 = .ok (.ireturn, 1) := by decide +kernel
theorem dX9_readLaw_0 : decode cX9_readLaw 0 = .ok (.aload_n 0, 1) := by decide +kernel
theorem dX9_readLaw_1 : decode cX9_readLaw 1 = .ok (.aload_n 0, 1) := by decide +kernel
theorem dX9_readLaw_2 : decode cX9_readLaw 2 = .ok (.getfield 91, 3) := by decide +kernel
theorem dX9_readLaw_5 : decode cX9_readLaw 5 = .ok (.iconst 1, 1) := by decide +kernel
theorem dX9_readLaw_6 : decode cX9_readLaw 6 = .ok (.if_icmp .ne 16, 3) := by decide +kernel
theorem dX9_readLaw_9 : decode cX9_readLaw 9 = .ok (.aload_n 0, 1) := by decide +kernel
theorem dX9_readLaw_10 : decode cX9_readLaw 10 = .ok (.getfield 102, 3) := by decide +kernel
theorem dX9_readLaw_13 : decode cX9_readLaw 13 = .ok (.bipush 6, 2) := by decide +kernel
theorem dX9_readLaw_15 : decode cX9_readLaw 15 = .ok (.if_icmp .gt 7, 3) := by decide +kernel
theorem dX9_readLaw_18 : decode cX9_readLaw 18 = .ok (.iconst 1, 1) := by decide +kernel
theorem dX9_readLaw_19 : decode cX9_readLaw 19 = .ok (.goto 4, 3) := by decide +kernel
theorem dX9_readLaw_22 : decode cX9_readLaw 22 = .ok (.iconst 0, 1) := by decide +kernel
theorem dX9_readLaw_23 : decode cX9_readLaw 23 = .ok (.iconst 2, 1) := by decide +kernel
theorem dX9_readLaw_24 : decode cX9_readLaw 24 = .ok (.invokevirtual 116, 3) := by decide +kernel
theorem dX9_readLaw_27 : decode cX9_readLaw 27 = .ok (.aload_n 0, 1) := by decide +kernel
theorem dX9_readLaw_28 : decode cX9_readLaw 28 = .ok (.getfield 102, 3) := by decide +kernel
theorem dX9_readLaw_31 : decode cX9_readLaw 31 = .ok (.istore_n 1, 1) := by decide +kernel
theorem dX9_readLaw_32 : decode cX9_readLaw 32 = .ok (.aload_n 0, 1) := by decide +kernel
theorem dX9_readLaw_33 : decode cX9_readLaw 33 = .ok (.getfield 71, 3) := by decide +kernel
theorem dX9_readLaw_36 : decode cX9_readLaw 36 = .ok (.ifCond .le 4, 3) := by decide +kernel
theorem dX9_readLaw_39 : decode cX9_readLaw 39 = .ok (.return_, 1) := by decide +kernel
theorem dX9_readLaw_40 : decode cX9_readLaw 40 = .ok (.aload_n 0, 1) := by decide +kernel
theorem dX9_readLaw_41 : decode cX9_readLaw 41 = .ok (.aload_n 0, 1) := by decide +kernel
theorem dX9_readLaw_42 : decode cX9_readLaw 42 = .ok (.getfield 16, 3) := by decide +kernel
theorem dX9_readLaw_45 : decode cX9_readLaw 45 = .ok (.iload_n 1, 1) := by decide +kernel
theorem dX9_readLaw_46 : decode cX9_readLaw 46 = .ok (.iaload, 1) := by decide +kernel
theorem dX9_readLaw_47 : decode cX9_readLaw 47 = .ok (.bipush (-4), 2) := by decide +kernel
theorem dX9_readLaw_49 : decode cX9_readLaw 49 = .ok (.if_icmp .ne 7, 3) := by decide +kernel
theorem dX9_readLaw_52 : decode cX9_readLaw 52 = .ok (.iconst 1, 1) := by decide +kernel
theorem dX9_readLaw_53 : decode cX9_readLaw 53 = .ok (.goto 4, 3) := by decide +kernel
theorem dX9_readLaw_56 : decode cX9_readLaw 56 = .ok (.iconst 0, 1) := by decide +kernel
theorem dX9_readLaw_57 : decode cX9_readLaw 57 = .ok (.iconst 4, 1) := by decide +kernel
theorem dX9_readLaw_58 : decode cX9_readLaw 58 = .ok (.invokevirtual 116, 3) := by decide +kernel
theorem dX9_readLaw_61 : decode cX9_readLaw 61 = .ok (.aload_n 0, 1) := by decide +kernel
theorem dX9_readLaw_62 : decode cX9_readLaw 62 = .ok (.invokevirtual 120, 3) := by decide +kernel
theorem dX9_readLaw_65 : decode cX9_readLaw 65 = .ok (.aload_n 0, 1) := by decide +kernel
theorem dX9_readLaw_66 : decode cX9_readLaw 66 = .ok (.getfield 102, 3) := by decide +kernel
theorem dX9_readLaw_69 : decode cX9_readLaw 69 = .ok (.istore_n 2, 1) := by decide +kernel
theorem dX9_readLaw_70 : decode cX9_readLaw 70 = .ok (.aload_n 0, 1) := by decide +kernel
theorem dX9_readLaw_71 : decode cX9_readLaw 71 = .ok (.getfield 71, 3) := by decide +kernel
theorem dX9_readLaw_74 : decode cX9_readLaw 74 = .ok (.ifCond .ne 49, 3) := by decide +kernel
theorem dX9_readLaw_77 : decode cX9_readLaw 77 = .ok (.iload_n 1, 1) := by decide +kernel
theorem dX9_readLaw_78 : decode cX9_readLaw 78 = .ok (.iconst 5, 1) := by decide +kernel
theorem dX9_readLaw_79 : decode cX9_readLaw 79 = .ok (.if_icmp .lt 44, 3) := by decide +kernel
theorem dX9_readLaw_82 : decode cX9_readLaw 82 = .ok (.aload_n 0, 1) := by decide +kernel
theorem dX9_readLaw_83 : decode cX9_readLaw 83 = .ok (.aload_n 0, 1) := by decide +kernel
theorem dX9_readLaw_84 : decode cX9_readLaw 84 = .ok (.getfield 91, 3) := by decide +kernel
theorem dX9_readLaw_87 : decode cX9_readLaw 87 = .ok (.iconst 1, 1) := by decide +kernel
theorem dX9_readLaw_88 : decode cX9_readLaw 88 = .ok (.if_icmp .ne 19, 3) := by decide +kernel
theorem dX9_readLaw_91 : decode cX9_readLaw 91 = .ok (.aload_n 0, 1) := by decide +kernel
theorem dX9_readLaw_92 : decode cX9_readLaw 92 = .ok (.getfield 102, 3) := by decide +kernel
theorem dX9_readLaw_95 : decode cX9_readLaw 95 = .ok (.invokestatic 123, 3) := by decide +kernel
theorem dX9_readLaw_98 : decode cX9_readLaw 98 = .ok (.bipush (-4), 2) := by decide +kernel
theorem dX9_readLaw_100 : decode cX9_readLaw 100 = .ok (.if_icmp .eq 7, 3) := by decide +kernel
theorem dX9_readLaw_103 : decode cX9_readLaw 103 = .ok (.iconst 1, 1) := by decide +kernel
theorem dX9_readLaw_104 : decode cX9_readLaw 104 = .ok (.goto 4, 3) := by decide +kernel
theorem dX9_readLaw_107 : decode cX9_readLaw 107 = .ok (.iconst 0, 1) := by decide +kernel
theorem dX9_readLaw_108 : decode cX9_readLaw 108 = .ok (.iconst 2, 1) := by decide +kernel
theorem dX9_readLaw_109 : decode cX9_readLaw 109 = .ok (.invokevirtual 116, 3) := by decide +kernel
theorem dX9_readLaw_112 : decode cX9_readLaw 112 = .ok (.aload_n 0, 1) := by decide +kernel
theorem dX9_readLaw_113 : decode cX9_readLaw 113 = .ok (.getfield 102, 3) := by decide +kernel
theorem dX9_readLaw_116 : decode cX9_readLaw 116 = .ok (.invokestatic 123, 3) := by decide +kernel
theorem dX9_readLaw_119 : decode cX9_readLaw 119 = .ok (.istore_n 2, 1) := by decide +kernel
theorem dX9_readLaw_120 : decode cX9_readLaw 120 = .ok (.goto 55, 3) := by decide +kernel
theorem dX9_readLaw_123 : decode cX9_readLaw 123 = .ok (.aload_n 0, 1) := by decide +kernel
theorem dX9_readLaw_124 : decode cX9_readLaw 124 = .ok (.getfield 71, 3) := by decide +kernel
theorem dX9_readLaw_127 : decode cX9_readLaw 127 = .ok (.ifCond .ne 48, 3) := by decide +kernel
theorem dX9_readLaw_130 : decode cX9_readLaw 130 = .ok (.aload_n 0, 1) := by decide +kernel
theorem dX9_readLaw_131 : decode cX9_readLaw 131 = .ok (.aload_n 0, 1) := by decide +kernel
theorem dX9_readLaw_132 : decode cX9_readLaw 132 = .ok (.getfield 91, 3) := by decide +kernel
theorem dX9_readLaw_135 : decode cX9_readLaw 135 = .ok (.iconst 2, 1) := by decide +kernel
theorem dX9_readLaw_136 : decode cX9_readLaw 136 = .ok (.if_icmp .ne 7, 3) := by decide +kernel
