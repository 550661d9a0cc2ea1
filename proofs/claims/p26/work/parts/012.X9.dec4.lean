theorem dX9_lay_79 : decode cX9_lay 79 = .ok (.iload_n 3, 1) := by decide +kernel
theorem dX9_lay_80 : decode cX9_lay 80 = .ok (.i2s, 1) := by decide +kernel
theorem dX9_lay_81 : decode cX9_lay 81 = .ok (.goto 4, 3) := by decide +kernel
theorem dX9_lay_84 : decode cX9_lay 84 = .ok (.iload_n 3, 1) := by decide +kernel
theorem dX9_lay_85 : decode cX9_lay 85 = .ok (.iastore, 1) := by decide +kernel
theorem dX9_lay_86 : decode cX9_lay 86 = .ok (.iconst 1, 1) := by decide +kernel
theorem dX9_lay_87 : decode cX9_lay 87 = .ok (.ireturn, 1) := by decide +kernel
theorem dX9_worths_0 : decode cX9_worths 0 = .ok (.aload_n 0, 1) := by decide +kernel
theorem dX9_worths_1 : decode cX9_worths 1 = .ok (.iload_n 1, 1) := by decide +kernel
theorem dX9_worths_2 : decode cX9_worths 2 = .ok (.invokevirtual 157, 3) := by decide +kernel
theorem dX9_worths_5 : decode cX9_worths 5 = .ok (.ifCond .eq 11, 3) := by decide +kernel
theorem dX9_worths_8 : decode cX9_worths 8 = .ok (.iload_n 2, 1) := by decide +kernel
theorem dX9_worths_9 : decode cX9_worths 9 = .ok (.iload_n 3, 1) := by decide +kernel
theorem dX9_worths_10 : decode cX9_worths 10 = .ok (.invokestatic 236, 3) := by decide +kernel
theorem dX9_worths_13 : decode cX9_worths 13 = .ok (.ifCond .ne 5, 3) := by decide +kernel
theorem dX9_worths_16 : decode cX9_worths 16 = .ok (.iconst (-1), 1) := by decide +kernel
theorem dX9_worths_17 : decode cX9_worths 17 = .ok (.ireturn, 1) := by decide +kernel
theorem dX9_worths_18 : decode cX9_worths 18 = .ok (.aload_n 0, 1) := by decide +kernel
theorem dX9_worths_19 : decode cX9_worths 19 = .ok (.getfield 52, 3) := by decide +kernel
theorem dX9_worths_22 : decode cX9_worths 22 = .ok (.iload_n 2, 1) := by decide +kernel
theorem dX9_worths_23 : decode cX9_worths 23 = .ok (.iaload, 1) := by decide +kernel
theorem dX9_worths_24 : decode cX9_worths 24 = .ok (.iload_n 3, 1) := by decide +kernel
theorem dX9_worths_25 : decode cX9_worths 25 = .ok (.if_icmp .eq 22, 3) := by decide +kernel
theorem dX9_worths_28 : decode cX9_worths 28 = .ok (.aload_n 0, 1) := by decide +kernel
theorem dX9_worths_29 : decode cX9_worths 29 = .ok (.getfield 52, 3) := by decide +kernel
theorem dX9_worths_32 : decode cX9_worths 32 = .ok (.iload_n 2, 1) := by decide +kernel
theorem dX9_worths_33 : decode cX9_worths 33 = .ok (.iaload, 1) := by decide +kernel
theorem dX9_worths_34 : decode cX9_worths 34 = .ok (.bipush (-4), 2) := by decide +kernel
theorem dX9_worths_36 : decode cX9_worths 36 = .ok (.if_icmp .ne 8, 3) := by decide +kernel
theorem dX9_worths_39 : decode cX9_worths 39 = .ok (.bipush (-11), 2) := by decide +kernel
theorem dX9_worths_41 : decode cX9_worths 41 = .ok (.goto 5, 3) := by decide +kernel
theorem dX9_worths_44 : decode cX9_worths 44 = .ok (.bipush (-13), 2) := by decide +kernel
theorem dX9_worths_46 : decode cX9_worths 46 = .ok (.ireturn, 1) := by decide +kernel
theorem dX9_worths_47 : decode cX9_worths 47 = .ok (.iconst 0, 1) := by decide +kernel
theorem dX9_worths_48 : decode cX9_worths 48 = .ok (.istore 5, 2) := by decide +kernel
theorem dX9_worths_50 : decode cX9_worths 50 = .ok (.iload 5, 2) := by decide +kernel
theorem dX9_worths_52 : decode cX9_worths 52 = .ok (.aload_n 0, 1) := by decide +kernel
theorem dX9_worths_53 : decode cX9_worths 53 = .ok (.getfield 146, 3) := by decide +kernel
theorem dX9_worths_56 : decode cX9_worths 56 = .ok (.if_icmp .ge 71, 3) := by decide +kernel
theorem dX9_worths_59 : decode cX9_worths 59 = .ok (.iload 4, 2) := by decide +kernel
theorem dX9_worths_61 : decode cX9_worths 61 = .ok (.i2l, 1) := by decide +kernel
theorem dX9_worths_62 : decode cX9_worths 62 = .ok (.iload 5, 2) := by decide +kernel
theorem dX9_worths_64 : decode cX9_worths 64 = .ok (.i2l, 1) := by decide +kernel
theorem dX9_worths_65 : decode cX9_worths 65 = .ok (.ladd, 1) := by decide +kernel
theorem dX9_worths_66 : decode cX9_worths 66 = .ok (.lstore 6, 2) := by decide +kernel
theorem dX9_worths_68 : decode cX9_worths 68 = .ok (.lload 6, 2) := by decide +kernel
theorem dX9_worths_70 : decode cX9_worths 70 = .ok (.lconst 0, 1) := by decide +kernel
theorem dX9_worths_71 : decode cX9_worths 71 = .ok (.lcmp, 1) := by decide +kernel
theorem dX9_worths_72 : decode cX9_worths 72 = .ok (.ifCond .lt 16, 3) := by decide +kernel
theorem dX9_worths_75 : decode cX9_worths 75 = .ok (.lload 6, 2) := by decide +kernel
theorem dX9_worths_77 : decode cX9_worths 77 = .ok (.aload_n 0, 1) := by decide +kernel
theorem dX9_worths_78 : decode cX9_worths 78 = .ok (.getfield 55, 3) := by decide +kernel
theorem dX9_worths_81 : decode cX9_worths 81 = .ok (.iload_n 2, 1) := by decide +kernel
theorem dX9_worths_82 : decode cX9_worths 82 = .ok (.iaload, 1) := by decide +kernel
theorem dX9_worths_83 : decode cX9_worths 83 = .ok (.i2l, 1) := by decide +kernel
theorem dX9_worths_84 : decode cX9_worths 84 = .ok (.lcmp, 1) := by decide +kernel
theorem dX9_worths_85 : decode cX9_worths 85 = .ok (.ifCond .lt 6, 3) := by decide +kernel
theorem dX9_worths_88 : decode cX9_worths 88 = .ok (.bipush (-12), 2) := by decide +kernel
theorem dX9_worths_90 : decode cX9_worths 90 = .ok (.ireturn, 1) := by decide +kernel
theorem dX9_worths_91 : decode cX9_worths 91 = .ok (.aload_n 0, 1) := by decide +kernel
theorem dX9_worths_92 : decode cX9_worths 92 = .ok (.getfield 58, 3) := by decide +kernel
theorem dX9_worths_95 : decode cX9_worths 95 = .ok (.bipush 60, 2) := by decide +kernel
theorem dX9_worths_97 : decode cX9_worths 97 = .ok (.iload_n 2, 1) := by decide +kernel
theorem dX9_worths_98 : decode cX9_worths 98 = .ok (.imul, 1) := by decide +kernel
theorem dX9_worths_99 : decode cX9_worths 99 = .ok (.lload 6, 2) := by decide +kernel
theorem dX9_worths_101 : decode cX9_worths 101 = .ok (.l2i, 1) := by decide +kernel
theorem dX9_worths_102 : decode cX9_worths 102 = .ok (.iadd, 1) := by decide +kernel
theorem dX9_worths_103 : decode cX9_worths 103 = .ok (.iaload, 1) := by decide +kernel
theorem dX9_worths_104 : decode cX9_worths 104 = .ok (.i2l, 1) := by decide +kernel
theorem dX9_worths_105 : decode cX9_worths 105 = .ok (.lconst 0, 1) := by decide +kernel
theorem dX9_worths_106 : decode cX9_worths 106 = .ok (.ldc2_w 164, 3) := by decide +kernel
theorem dX9_worths_109 : decode cX9_worths 109 = .ok (.invokestatic 67, 3) := by decide +kernel
theorem dX9_worths_112 : decode cX9_worths 112 = .ok (.ifCond .ne 9, 3) := by decide +kernel
theorem dX9_worths_115 : decode cX9_worths 115 = .ok (.bipush (-20), 2) := by decide +kernel
theorem dX9_worths_117 : decode cX9_worths 117 = .ok (.iload 5, 2) := by decide +kernel
theorem dX9_worths_119 : decode cX9_worths 119 = .ok (.isub, 1) := by decide +kernel
theorem dX9_worths_120 : decode cX9_worths 120 = .ok (.ireturn, 1) := by decide +kernel
theorem dX9_worths_121 : decode cX9_worths 121 = .ok (.iinc 5 1, 3) := by decide +kernel
theorem dX9_worths_124 : decode cX9_worths 124 = .ok (.goto (-74), 3) := by decide +kernel
theorem dX9_worths_127 : decode cX9_worths 127 = .ok (.iconst 0, 1) := by decide +kernel
theorem dX9_worths_128 : decode cX9_worths 128 = .ok (.istore 5, 2) := by decide +kernel
theorem dX9_worths_130 : decode cX9_worths 130 = .ok (.iconst 0, 1) := by decide +kernel
theorem dX9_worths_131 : decode cX9_worths 131 = .ok (.istore 6, 2) := by decide +kernel
theorem dX9_worths_133 : decode cX9_worths 133 = .ok (.iload 6, 2) := by decide +kernel
theorem dX9_worths_135 : decode cX9_worths 135 = .ok (.aload_n 0, 1) := by decide +kernel
theorem dX9_worths_136 : decode cX9_worths 136 = .ok (.getfield 146, 3) := by decide +kernel
theorem dX9_worths_139 : decode cX9_worths 139 = .ok (.if_icmp .ge 67, 3) := by decide +kernel
theorem dX9_worths_142 : decode cX9_worths 142 = .ok (.aload_n 0, 1) := by decide +kernel
theorem dX9_worths_143 : decode cX9_worths 143 = .ok (.getfield 58, 3) := by decide +kernel
theorem dX9_worths_146 : decode cX9_worths 146 = .ok (.bipush 60, 2) := by decide +kernel
theorem dX9_worths_148 : decode cX9_worths 148 = .ok (.iload_n 2, 1) := by decide +kernel
theorem dX9_worths_149 : decode cX9_worths 149 = .ok (.imul, 1) := by decide +kernel
theorem dX9_worths_150 : decode cX9_worths 150 = .ok (.iload 4, 2) := by decide +kernel
theorem dX9_worths_152 : decode cX9_worths 152 = .ok (.iadd, 1) := by decide +kernel
theorem dX9_worths_153 : decode cX9_worths 153 = .ok (.iload 6, 2) := by decide +kernel
theorem dX9_worths_155 : decode cX9_worths 155 = .ok (.iadd, 1) := by decide +kernel
theorem dX9_worths_156 : decode cX9_worths 156 = .ok (.iaload, 1) := by decide +kernel
theorem dX9_worths_157 : decode cX9_worths 157 = .ok (.istore 7, 2) := by decide +kernel
theorem dX9_worths_159 : decode cX9_worths 159 = .ok (.iload 5, 2) := by decide +kernel
theorem dX9_worths_161 : decode cX9_worths 161 = .ok (.aload_n 0, 1) := by decide +kernel
theorem dX9_worths_162 : decode cX9_worths 162 = .ok (.getfield 34, 3) := by decide +kernel
theorem dX9_worths_165 : decode cX9_worths 165 = .ok (.bipush 10, 2) := by decide +kernel
theorem dX9_worths_167 : decode cX9_worths 167 = .ok (.iload_n 1, 1) := by decide +kernel
theorem dX9_worths_168 : decode cX9_worths 168 = .ok (.imul, 1) := by decide +kernel
theorem dX9_worths_169 : decode cX9_worths 169 = .ok (.iload 6, 2) := by decide +kernel
theorem dX9_worths_171 : decode cX9_worths 171 = .ok (.iadd, 1) := by decide +kernel
theorem dX9_worths_172 : decode cX9_worths 172 = .ok (.iaload, 1) := by decide +kernel
theorem dX9_worths_173 : decode cX9_worths 173 = .ok (.iload 7, 2) := by decide +kernel
theorem dX9_worths_175 : decode cX9_worths 175 = .ok (.if_icmp .ne 7, 3) := by decide +kernel
theorem dX9_worths_178 : decode cX9_worths 178 = .ok (.iconst 0, 1) := by decide +kernel
theorem dX9_worths_179 : decode cX9_worths 179 = .ok (.goto 4, 3) := by decide +kernel
theorem dX9_worths_182 : decode cX9_worths 182 = .ok (.iconst 1, 1) := by decide +kernel
theorem dX9_worths_183 : decode cX9_worths 183 = .ok (.iadd, 1) := by decide +kernel
theorem dX9_worths_184 : decode cX9_worths 184 = .ok (.istore 5, 2) := by decide +kernel
theorem dX9_worths_186 : decode cX9_worths 186 = .ok (.aload_n 0, 1) := by decide +kernel
theorem dX9_worths_187 : decode cX9_worths 187 = .ok (.getfield 34, 3) := by decide +kernel
theorem dX9_worths_190 : decode cX9_worths 190 = .ok (.bipush 10, 2) := by decide +kernel
theorem dX9_worths_192 : decode cX9_worths 192 = .ok (.iload_n 1, 1) := by decide +kernel
theorem dX9_worths_193 : decode cX9_worths 193 = .ok (.imul, 1) := by decide +kernel
theorem dX9_worths_194 : decode cX9_worths 194 = .ok (.iload 6, 2) := by decide +kernel
theorem dX9_worths_196 : decode cX9_worths 196 = .ok (.iadd, 1) := by decide +kernel
theorem dX9_worths_197 : decode cX9_worths 197 = .ok (.iload 7, 2) := by decide +kernel
theorem dX9_worths_199 : decode cX9_worths 199 = .ok (.iastore, 1) := by decide +kernel
theorem dX9_worths_200 : decode cX9_worths 200 = .ok (.iinc 6 1, 3) := by decide +kernel
theorem dX9_worths_203 : decode cX9_worths 203 = .ok (.goto (-70), 3) := by decide +kernel
theorem dX9_worths_206 : decode cX9_worths 206 = .ok (.iload 5, 2) := by decide +kernel
theorem dX9_worths_208 : decode cX9_worths 208 = .ok (.ireturn, 1) := by decide +kernel
theorem dX9_count_0 : decode cX9_count 0 = .ok (.aload_n 0, 1) := by decide +kernel
theorem dX9_count_1 : decode cX9_count 1 = .ok (.invokevirtual 189, 3) := by decide +kernel
theorem dX9_count_4 : decode cX9_count 4 = .ok (.iload_n 1, 1) := by decide +kernel
theorem dX9_count_5 : decode cX9_count 5 = .ok (.ifCond .ne 10, 3) := by decide +kernel
theorem dX9_count_8 : decode cX9_count 8 = .ok (.aload_n 0, 1) := by decide +kernel
theorem dX9_count_9 : decode cX9_count 9 = .ok (.getfield 143, 3) := by decide +kernel
theorem dX9_count_12 : decode cX9_count 12 = .ok (.goto 40, 3) := by decide +kernel
theorem dX9_count_15 : decode cX9_count 15 = .ok (.iload_n 1, 1) := by decide +kernel
theorem dX9_count_16 : decode cX9_count 16 = .ok (.iconst 1, 1) := by decide +kernel
theorem dX9_count_17 : decode cX9_count 17 = .ok (.if_icmp .ne 10, 3) := by decide +kernel
theorem dX9_count_20 : decode cX9_count 20 = .ok (.aload_n 0, 1) := by decide +kernel
theorem dX9_count_21 : decode cX9_count 21 = .ok (.getfield 146, 3) := by decide +kernel
theorem dX9_count_24 : decode cX9_count 24 = .ok (.goto 28, 3) := by decide +kernel
theorem dX9_count_27 : decode cX9_count 27 = .ok (.iload_n 1, 1) := by decide +kernel
theorem dX9_count_28 : decode cX9_count 28 = .ok (.iconst 2, 1) := by decide +kernel
theorem dX9_count_29 : decode cX9_count 29 = .ok (.if_icmp .ne 10, 3) := by decide +kernel
theorem dX9_count_32 : decode cX9_count 32 = .ok (.aload_n 0, 1) := by decide +kernel
theorem dX9_count_33 : decode cX9_count 33 = .ok (.invokevirtual 135, 3) := by decide +kernel
theorem dX9_count_36 : decode cX9_count 36 = .ok (.goto 16, 3) := by decide +kernel
theorem dX9_count_39 : decode cX9_count 39 = .ok (.iload_n 1, 1) := by decide +kernel
theorem dX9_count_40 : decode cX9_count 40 = .ok (.iconst 3, 1) := by decide +kernel
theorem dX9_count_41 : decode cX9_count 41 = .ok (.if_icmp .ne 10, 3) := by decide +kernel
theorem dX9_count_44 : decode cX9_count 44 = .ok (.aload_n 0, 1) := by decide +kernel
theorem dX9_count_45 : decode cX9_count 45 = .ok (.getfield 182, 3) := by decide +kernel
theorem dX9_count_48 : decode cX9_count 48 = .ok (.goto 4, 3) := by decide +kernel
theorem dX9_count_51 : decode cX9_count 51 = .ok (.iconst (-1), 1) := by decide +kernel
theorem dX9_count_52 : decode cX9_count 52 = .ok (.ireturn, 1) := by decide +kernel
