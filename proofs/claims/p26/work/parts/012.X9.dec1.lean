theorem dX9_readLaw_139 : decode cX9_readLaw 139 = .ok (.iconst 1, 1) := by decide +kernel
theorem dX9_readLaw_140 : decode cX9_readLaw 140 = .ok (.goto 4, 3) := by decide +kernel
theorem dX9_readLaw_143 : decode cX9_readLaw 143 = .ok (.iconst 0, 1) := by decide +kernel
theorem dX9_readLaw_144 : decode cX9_readLaw 144 = .ok (.iconst 2, 1) := by decide +kernel
theorem dX9_readLaw_145 : decode cX9_readLaw 145 = .ok (.invokevirtual 116, 3) := by decide +kernel
theorem dX9_readLaw_148 : decode cX9_readLaw 148 = .ok (.aload_n 0, 1) := by decide +kernel
theorem dX9_readLaw_149 : decode cX9_readLaw 149 = .ok (.getfield 71, 3) := by decide +kernel
theorem dX9_readLaw_152 : decode cX9_readLaw 152 = .ok (.ifCond .ne 23, 3) := by decide +kernel
theorem dX9_readLaw_155 : decode cX9_readLaw 155 = .ok (.aload_n 0, 1) := by decide +kernel
theorem dX9_readLaw_156 : decode cX9_readLaw 156 = .ok (.iload_n 2, 1) := by decide +kernel
theorem dX9_readLaw_157 : decode cX9_readLaw 157 = .ok (.i2l, 1) := by decide +kernel
theorem dX9_readLaw_158 : decode cX9_readLaw 158 = .ok (.iload_n 1, 1) := by decide +kernel
theorem dX9_readLaw_159 : decode cX9_readLaw 159 = .ok (.invokestatic 126, 3) := by decide +kernel
theorem dX9_readLaw_162 : decode cX9_readLaw 162 = .ok (.i2l, 1) := by decide +kernel
theorem dX9_readLaw_163 : decode cX9_readLaw 163 = .ok (.iload_n 1, 1) := by decide +kernel
theorem dX9_readLaw_164 : decode cX9_readLaw 164 = .ok (.invokestatic 129, 3) := by decide +kernel
theorem dX9_readLaw_167 : decode cX9_readLaw 167 = .ok (.i2l, 1) := by decide +kernel
theorem dX9_readLaw_168 : decode cX9_readLaw 168 = .ok (.invokestatic 67, 3) := by decide +kernel
theorem dX9_readLaw_171 : decode cX9_readLaw 171 = .ok (.iconst 3, 1) := by decide +kernel
theorem dX9_readLaw_172 : decode cX9_readLaw 172 = .ok (.invokevirtual 116, 3) := by decide +kernel
theorem dX9_readLaw_175 : decode cX9_readLaw 175 = .ok (.aload_n 0, 1) := by decide +kernel
theorem dX9_readLaw_176 : decode cX9_readLaw 176 = .ok (.getfield 16, 3) := by decide +kernel
theorem dX9_readLaw_179 : decode cX9_readLaw 179 = .ok (.iload_n 1, 1) := by decide +kernel
theorem dX9_readLaw_180 : decode cX9_readLaw 180 = .ok (.iload_n 2, 1) := by decide +kernel
theorem dX9_readLaw_181 : decode cX9_readLaw 181 = .ok (.iastore, 1) := by decide +kernel
theorem dX9_readLaw_182 : decode cX9_readLaw 182 = .ok (.aload_n 0, 1) := by decide +kernel
theorem dX9_readLaw_183 : decode cX9_readLaw 183 = .ok (.invokevirtual 120, 3) := by decide +kernel
theorem dX9_readLaw_186 : decode cX9_readLaw 186 = .ok (.aload_n 0, 1) := by decide +kernel
theorem dX9_readLaw_187 : decode cX9_readLaw 187 = .ok (.getfield 71, 3) := by decide +kernel
theorem dX9_readLaw_190 : decode cX9_readLaw 190 = .ok (.ifCond .ne 21, 3) := by decide +kernel
theorem dX9_readLaw_193 : decode cX9_readLaw 193 = .ok (.aload_n 0, 1) := by decide +kernel
theorem dX9_readLaw_194 : decode cX9_readLaw 194 = .ok (.aload_n 0, 1) := by decide +kernel
theorem dX9_readLaw_195 : decode cX9_readLaw 195 = .ok (.getfield 91, 3) := by decide +kernel
theorem dX9_readLaw_198 : decode cX9_readLaw 198 = .ok (.iconst 3, 1) := by decide +kernel
theorem dX9_readLaw_199 : decode cX9_readLaw 199 = .ok (.if_icmp .ne 7, 3) := by decide +kernel
theorem dX9_readLaw_202 : decode cX9_readLaw 202 = .ok (.iconst 1, 1) := by decide +kernel
theorem dX9_readLaw_203 : decode cX9_readLaw 203 = .ok (.goto 4, 3) := by decide +kernel
theorem dX9_readLaw_206 : decode cX9_readLaw 206 = .ok (.iconst 0, 1) := by decide +kernel
theorem dX9_readLaw_207 : decode cX9_readLaw 207 = .ok (.iconst 2, 1) := by decide +kernel
theorem dX9_readLaw_208 : decode cX9_readLaw 208 = .ok (.invokevirtual 116, 3) := by decide +kernel
theorem dX9_readLaw_211 : decode cX9_readLaw 211 = .ok (.aload_n 0, 1) := by decide +kernel
theorem dX9_readLaw_212 : decode cX9_readLaw 212 = .ok (.invokevirtual 120, 3) := by decide +kernel
theorem dX9_readLaw_215 : decode cX9_readLaw 215 = .ok (.return_, 1) := by decide +kernel
theorem dX9_lawMany_0 : decode cX9_lawMany 0 = .ok (.iconst 0, 1) := by decide +kernel
theorem dX9_lawMany_1 : decode cX9_lawMany 1 = .ok (.istore_n 1, 1) := by decide +kernel
theorem dX9_lawMany_2 : decode cX9_lawMany 2 = .ok (.iconst 0, 1) := by decide +kernel
theorem dX9_lawMany_3 : decode cX9_lawMany 3 = .ok (.istore_n 2, 1) := by decide +kernel
theorem dX9_lawMany_4 : decode cX9_lawMany 4 = .ok (.iload_n 2, 1) := by decide +kernel
theorem dX9_lawMany_5 : decode cX9_lawMany 5 = .ok (.bipush 7, 2) := by decide +kernel
theorem dX9_lawMany_7 : decode cX9_lawMany 7 = .ok (.if_icmp .ge 28, 3) := by decide +kernel
theorem dX9_lawMany_10 : decode cX9_lawMany 10 = .ok (.iload_n 1, 1) := by decide +kernel
theorem dX9_lawMany_11 : decode cX9_lawMany 11 = .ok (.aload_n 0, 1) := by decide +kernel
theorem dX9_lawMany_12 : decode cX9_lawMany 12 = .ok (.getfield 13, 3) := by decide +kernel
theorem dX9_lawMany_15 : decode cX9_lawMany 15 = .ok (.iload_n 2, 1) := by decide +kernel
theorem dX9_lawMany_16 : decode cX9_lawMany 16 = .ok (.iaload, 1) := by decide +kernel
theorem dX9_lawMany_17 : decode cX9_lawMany 17 = .ok (.bipush (-4), 2) := by decide +kernel
theorem dX9_lawMany_19 : decode cX9_lawMany 19 = .ok (.if_icmp .ne 7, 3) := by decide +kernel
theorem dX9_lawMany_22 : decode cX9_lawMany 22 = .ok (.iconst 0, 1) := by decide +kernel
theorem dX9_lawMany_23 : decode cX9_lawMany 23 = .ok (.goto 4, 3) := by decide +kernel
theorem dX9_lawMany_26 : decode cX9_lawMany 26 = .ok (.iconst 1, 1) := by decide +kernel
theorem dX9_lawMany_27 : decode cX9_lawMany 27 = .ok (.iadd, 1) := by decide +kernel
theorem dX9_lawMany_28 : decode cX9_lawMany 28 = .ok (.istore_n 1, 1) := by decide +kernel
theorem dX9_lawMany_29 : decode cX9_lawMany 29 = .ok (.iinc 2 1, 3) := by decide +kernel
theorem dX9_lawMany_32 : decode cX9_lawMany 32 = .ok (.goto (-28), 3) := by decide +kernel
theorem dX9_lawMany_35 : decode cX9_lawMany 35 = .ok (.iload_n 1, 1) := by decide +kernel
theorem dX9_lawMany_36 : decode cX9_lawMany 36 = .ok (.ireturn, 1) := by decide +kernel
theorem dX9_laws_0 : decode cX9_laws 0 = .ok (.aload_n 0, 1) := by decide +kernel
theorem dX9_laws_1 : decode cX9_laws 1 = .ok (.iconst 0, 1) := by decide +kernel
theorem dX9_laws_2 : decode cX9_laws 2 = .ok (.putfield 71, 3) := by decide +kernel
theorem dX9_laws_5 : decode cX9_laws 5 = .ok (.aload_n 0, 1) := by decide +kernel
theorem dX9_laws_6 : decode cX9_laws 6 = .ok (.iconst 0, 1) := by decide +kernel
theorem dX9_laws_7 : decode cX9_laws 7 = .ok (.putfield 80, 3) := by decide +kernel
theorem dX9_laws_10 : decode cX9_laws 10 = .ok (.iconst 0, 1) := by decide +kernel
theorem dX9_laws_11 : decode cX9_laws 11 = .ok (.istore_n 1, 1) := by decide +kernel
theorem dX9_laws_12 : decode cX9_laws 12 = .ok (.iload_n 1, 1) := by decide +kernel
theorem dX9_laws_13 : decode cX9_laws 13 = .ok (.bipush 7, 2) := by decide +kernel
theorem dX9_laws_15 : decode cX9_laws 15 = .ok (.if_icmp .ge 17, 3) := by decide +kernel
theorem dX9_laws_18 : decode cX9_laws 18 = .ok (.aload_n 0, 1) := by decide +kernel
theorem dX9_laws_19 : decode cX9_laws 19 = .ok (.getfield 16, 3) := by decide +kernel
theorem dX9_laws_22 : decode cX9_laws 22 = .ok (.iload_n 1, 1) := by decide +kernel
theorem dX9_laws_23 : decode cX9_laws 23 = .ok (.bipush (-4), 2) := by decide +kernel
theorem dX9_laws_25 : decode cX9_laws 25 = .ok (.iastore, 1) := by decide +kernel
theorem dX9_laws_26 : decode cX9_laws 26 = .ok (.iinc 1 1, 3) := by decide +kernel
theorem dX9_laws_29 : decode cX9_laws 29 = .ok (.goto (-17), 3) := by decide +kernel
theorem dX9_laws_32 : decode cX9_laws 32 = .ok (.aload_n 0, 1) := by decide +kernel
theorem dX9_laws_33 : decode cX9_laws 33 = .ok (.invokevirtual 113, 3) := by decide +kernel
theorem dX9_laws_36 : decode cX9_laws 36 = .ok (.aload_n 0, 1) := by decide +kernel
theorem dX9_laws_37 : decode cX9_laws 37 = .ok (.getfield 71, 3) := by decide +kernel
theorem dX9_laws_40 : decode cX9_laws 40 = .ok (.ifCond .ne 17, 3) := by decide +kernel
theorem dX9_laws_43 : decode cX9_laws 43 = .ok (.aload_n 0, 1) := by decide +kernel
theorem dX9_laws_44 : decode cX9_laws 44 = .ok (.getfield 91, 3) := by decide +kernel
theorem dX9_laws_47 : decode cX9_laws 47 = .ok (.ifCond .eq 10, 3) := by decide +kernel
theorem dX9_laws_50 : decode cX9_laws 50 = .ok (.aload_n 0, 1) := by decide +kernel
theorem dX9_laws_51 : decode cX9_laws 51 = .ok (.invokevirtual 132, 3) := by decide +kernel
theorem dX9_laws_54 : decode cX9_laws 54 = .ok (.goto (-18), 3) := by decide +kernel
theorem dX9_laws_57 : decode cX9_laws 57 = .ok (.aload_n 0, 1) := by decide +kernel
theorem dX9_laws_58 : decode cX9_laws 58 = .ok (.iconst 0, 1) := by decide +kernel
theorem dX9_laws_59 : decode cX9_laws 59 = .ok (.putfield 61, 3) := by decide +kernel
theorem dX9_laws_62 : decode cX9_laws 62 = .ok (.aload_n 0, 1) := by decide +kernel
theorem dX9_laws_63 : decode cX9_laws 63 = .ok (.getfield 71, 3) := by decide +kernel
theorem dX9_laws_66 : decode cX9_laws 66 = .ok (.ifCond .le 11, 3) := by decide +kernel
theorem dX9_laws_69 : decode cX9_laws 69 = .ok (.bipush (-10), 2) := by decide +kernel
theorem dX9_laws_71 : decode cX9_laws 71 = .ok (.aload_n 0, 1) := by decide +kernel
theorem dX9_laws_72 : decode cX9_laws 72 = .ok (.getfield 77, 3) := by decide +kernel
theorem dX9_laws_75 : decode cX9_laws 75 = .ok (.isub, 1) := by decide +kernel
theorem dX9_laws_76 : decode cX9_laws 76 = .ok (.ireturn, 1) := by decide +kernel
theorem dX9_laws_77 : decode cX9_laws 77 = .ok (.iconst 0, 1) := by decide +kernel
theorem dX9_laws_78 : decode cX9_laws 78 = .ok (.istore_n 1, 1) := by decide +kernel
theorem dX9_laws_79 : decode cX9_laws 79 = .ok (.iload_n 1, 1) := by decide +kernel
theorem dX9_laws_80 : decode cX9_laws 80 = .ok (.bipush 7, 2) := by decide +kernel
theorem dX9_laws_82 : decode cX9_laws 82 = .ok (.if_icmp .ge 21, 3) := by decide +kernel
theorem dX9_laws_85 : decode cX9_laws 85 = .ok (.aload_n 0, 1) := by decide +kernel
theorem dX9_laws_86 : decode cX9_laws 86 = .ok (.getfield 13, 3) := by decide +kernel
theorem dX9_laws_89 : decode cX9_laws 89 = .ok (.iload_n 1, 1) := by decide +kernel
theorem dX9_laws_90 : decode cX9_laws 90 = .ok (.aload_n 0, 1) := by decide +kernel
theorem dX9_laws_91 : decode cX9_laws 91 = .ok (.getfield 16, 3) := by decide +kernel
theorem dX9_laws_94 : decode cX9_laws 94 = .ok (.iload_n 1, 1) := by decide +kernel
theorem dX9_laws_95 : decode cX9_laws 95 = .ok (.iaload, 1) := by decide +kernel
theorem dX9_laws_96 : decode cX9_laws 96 = .ok (.iastore, 1) := by decide +kernel
theorem dX9_laws_97 : decode cX9_laws 97 = .ok (.iinc 1 1, 3) := by decide +kernel
theorem dX9_laws_100 : decode cX9_laws 100 = .ok (.goto (-21), 3) := by decide +kernel
theorem dX9_laws_103 : decode cX9_laws 103 = .ok (.aload_n 0, 1) := by decide +kernel
theorem dX9_laws_104 : decode cX9_laws 104 = .ok (.invokevirtual 135, 3) := by decide +kernel
theorem dX9_laws_107 : decode cX9_laws 107 = .ok (.ireturn, 1) := by decide +kernel
theorem dX9_fault_0 : decode cX9_fault 0 = .ok (.aload_n 0, 1) := by decide +kernel
theorem dX9_fault_1 : decode cX9_fault 1 = .ok (.getfield 71, 3) := by decide +kernel
theorem dX9_fault_4 : decode cX9_fault 4 = .ok (.ireturn, 1) := by decide +kernel
theorem dX9_lawOf_0 : decode cX9_lawOf 0 = .ok (.aload_n 0, 1) := by decide +kernel
theorem dX9_lawOf_1 : decode cX9_lawOf 1 = .ok (.getfield 13, 3) := by decide +kernel
theorem dX9_lawOf_4 : decode cX9_lawOf 4 = .ok (.iload_n 1, 1) := by decide +kernel
theorem dX9_lawOf_5 : decode cX9_lawOf 5 = .ok (.iaload, 1) := by decide +kernel
theorem dX9_lawOf_6 : decode cX9_lawOf 6 = .ok (.bipush (-4), 2) := by decide +kernel
theorem dX9_lawOf_8 : decode cX9_lawOf 8 = .ok (.if_icmp .eq 10, 3) := by decide +kernel
theorem dX9_lawOf_11 : decode cX9_lawOf 11 = .ok (.aload_n 0, 1) := by decide +kernel
theorem dX9_lawOf_12 : decode cX9_lawOf 12 = .ok (.getfield 13, 3) := by decide +kernel
theorem dX9_lawOf_15 : decode cX9_lawOf 15 = .ok (.iload_n 1, 1) := by decide +kernel
theorem dX9_lawOf_16 : decode cX9_lawOf 16 = .ok (.iaload, 1) := by decide +kernel
theorem dX9_lawOf_17 : decode cX9_lawOf 17 = .ok (.ireturn, 1) := by decide +kernel
theorem dX9_lawOf_18 : decode cX9_lawOf 18 = .ok (.iload_n 1, 1) := by decide +kernel
theorem dX9_lawOf_19 : decode cX9_lawOf 19 = .ok (.ifCond .ne 8, 3) := by decide +kernel
theorem dX9_lawOf_22 : decode cX9_lawOf 22 = .ok (.bipush 10, 2) := by decide +kernel
theorem dX9_lawOf_24 : decode cX9_lawOf 24 = .ok (.goto 53, 3) := by decide +kernel
theorem dX9_lawOf_27 : decode cX9_lawOf 27 = .ok (.iload_n 1, 1) := by decide +kernel
theorem dX9_lawOf_28 : decode cX9_lawOf 28 = .ok (.iconst 1, 1) := by decide +kernel
theorem dX9_lawOf_29 : decode cX9_lawOf 29 = .ok (.if_icmp .ne 9, 3) := by decide +kernel
theorem dX9_lawOf_32 : decode cX9_lawOf 32 = .ok (.sipush 200, 3) := by decide +kernel
theorem dX9_lawOf_35 : decode cX9_lawOf 35 = .ok (.goto 42, 3) := by decide +kernel
theorem dX9_lawOf_38 : decode cX9_lawOf 38 = .ok (.iload_n 1, 1) := by decide +kernel
theorem dX9_lawOf_39 : decode cX9_lawOf 39 = .ok (.iconst 2, 1) := by decide +kernel
theorem dX9_lawOf_40 : decode cX9_lawOf 40 = .ok (.if_icmp .ne 7, 3) := by decide +kernel
theorem dX9_lawOf_43 : decode cX9_lawOf 43 = .ok (.iconst 1, 1) := by decide +kernel
theorem dX9_lawOf_44 : decode cX9_lawOf 44 = .ok (.goto 33, 3) := by decide +kernel
theorem dX9_lawOf_47 : decode cX9_lawOf 47 = .ok (.iload_n 1, 1) := by decide +kernel
theorem dX9_lawOf_48 : decode cX9_lawOf 48 = .ok (.iconst 3, 1) := by decide +kernel
theorem dX9_lawOf_49 : decode cX9_lawOf 49 = .ok (.if_icmp .ne 8, 3) := by decide +kernel
theorem dX9_lawOf_52 : decode cX9_lawOf 52 = .ok (.bipush 100, 2) := by decide +kernel
theorem dX9_lawOf_54 : decode cX9_lawOf 54 = .ok (.goto 23, 3) := by decide +kernel
theorem dX9_lawOf_57 : decode cX9_lawOf 57 = .ok (.iload_n 1, 1) := by decide +kernel
theorem dX9_lawOf_58 : decode cX9_lawOf 58 = .ok (.iconst 4, 1) := by decide +kernel
theorem dX9_lawOf_59 : decode cX9_lawOf 59 = .ok (.if_icmp .ne 8, 3) := by decide +kernel
theorem dX9_lawOf_62 : decode cX9_lawOf 62 = .ok (.bipush 20, 2) := by decide +kernel
theorem dX9_lawOf_64 : decode cX9_lawOf 64 = .ok (.goto 13, 3) := by decide +kernel
theorem dX9_lawOf_67 : decode cX9_lawOf 67 = .ok (.iload_n 1, 1) := by decide +kernel
theorem dX9_lawOf_68 : decode cX9_lawOf 68 = .ok (.iconst 5, 1) := by decide +kernel
theorem dX9_lawOf_69 : decode cX9_lawOf 69 = .ok (.if_icmp .ne 7, 3) := by decide +kernel
theorem dX9_lawOf_72 : decode cX9_lawOf 72 = .ok (.iconst 1, 1) := by decide +kernel
theorem dX9_lawOf_73 : decode cX9_lawOf 73 = .ok (.goto 4, 3) := by decide +kernel
theorem dX9_lawOf_76 : decode cX9_lawOf 76 = .ok (.iconst 3, 1) := by decide +kernel
theorem dX9_lawOf_77 : decode cX9_lawOf 77 = .ok (.ireturn, 1) := by decide +kernel
theorem dX9_law_0 : decode cX9_law 0 = .ok (.iload_n 1, 1) := by decide +kernel
theorem dX9_law_1 : decode cX9_law 1 = .ok (.i2l, 1) := by decide +kernel
theorem dX9_law_2 : decode cX9_law 2 = .ok (.lconst 0, 1) := by decide +kernel
theorem dX9_law_3 : decode cX9_law 3 = .ok (.ldc2_w 138, 3) := by decide +kernel
theorem dX9_law_6 : decode cX9_law 6 = .ok (.invokestatic 67, 3) := by decide +kernel
theorem dX9_law_9 : decode cX9_law 9 = .ok (.ifCond .eq 11, 3) := by decide +kernel
theorem dX9_law_12 : decode cX9_law 12 = .ok (.aload_n 0, 1) := by decide +kernel
theorem dX9_law_13 : decode cX9_law 13 = .ok (.iload_n 1, 1) := by decide +kernel
theorem dX9_law_14 : decode cX9_law 14 = .ok (.invokevirtual 140, 3) := by decide +kernel
theorem dX9_law_17 : decode cX9_law 17 = .ok (.goto 4, 3) := by decide +kernel
theorem dX9_law_20 : decode cX9_law 20 = .ok (.iconst (-1), 1) := by decide +kernel
theorem dX9_law_21 : decode cX9_law 21 = .ok (.ireturn, 1) := by decide +kernel
theorem dX9_isHeir_0 : decode cX9_isHeir 0 = .ok (.iload_n 1, 1) := by decide +kernel
theorem dX9_isHeir_1 : decode cX9_isHeir 1 = .ok (.i2l, 1) := by decide +kernel
theorem dX9_isHeir_2 : decode cX9_isHeir 2 = .ok (.lconst 0, 1) := by decide +kernel
theorem dX9_isHeir_3 : decode cX9_isHeir 3 = .ok (.aload_n 0, 1) := by decide +kernel
theorem dX9_isHeir_4 : decode cX9_isHeir 4 = .ok (.getfield 143, 3) := by decide +kernel
theorem dX9_isHeir_7 : decode cX9_isHeir 7 = .ok (.iconst 1, 1) := by decide +kernel
theorem dX9_isHeir_8 : decode cX9_isHeir 8 = .ok (.isub, 1) := by decide +kernel
theorem dX9_isHeir_9 : decode cX9_isHeir 9 = .ok (.i2l, 1) := by decide +kernel
theorem dX9_isHeir_10 : decode cX9_isHeir 10 = .ok (.invokestatic 67, 3) := by decide +kernel
theorem dX9_isHeir_13 : decode cX9_isHeir 13 = .ok (.ireturn, 1) := by decide +kernel
theorem dX9_isThing_0 : decode cX9_isThing 0 = .ok (.iload_n 1, 1) := by decide +kernel
theorem dX9_isThing_1 : decode cX9_isThing 1 = .ok (.i2l, 1) := by decide +kernel
theorem dX9_isThing_2 : decode cX9_isThing 2 = .ok (.lconst 0, 1) := by decide +kernel
theorem dX9_isThing_3 : decode cX9_isThing 3 = .ok (.aload_n 0, 1) := by decide +kernel
theorem dX9_isThing_4 : decode cX9_isThing 4 = .ok (.getfield 146, 3) := by decide +kernel
theorem dX9_isThing_7 : decode cX9_isThing 7 = .ok (.iconst 1, 1) := by decide +kernel
theorem dX9_isThing_8 : decode cX9_isThing 8 = .ok (.isub, 1) := by decide +kernel
theorem dX9_isThing_9 : decode cX9_isThing 9 = .ok (.i2l, 1) := by decide +kernel
theorem dX9_isThing_10 : decode cX9_isThing 10 = .ok (.invokestatic 67, 3) := by decide +kernel
theorem dX9_isThing_13 : decode cX9_isThing 13 = .ok (.ireturn, 1) := by decide +kernel
theorem dX9_heir_0 : decode cX9_heir 0 = .ok (.aload_n 0, 1) := by decide +kernel
theorem dX9_heir_1 : decode cX9_heir 1 = .ok (.getfield 143, 3) := by decide +kernel
theorem dX9_heir_4 : decode cX9_heir 4 = .ok (.iconst 4, 1) := by decide +kernel
theorem dX9_heir_5 : decode cX9_heir 5 = .ok (.if_icmp .ne 6, 3) := by decide +kernel
theorem dX9_heir_8 : decode cX9_heir 8 = .ok (.bipush (-3), 2) := by decide +kernel
theorem dX9_heir_10 : decode cX9_heir 10 = .ok (.ireturn, 1) := by decide +kernel
theorem dX9_heir_11 : decode cX9_heir 11 = .ok (.aload_n 0, 1) := by decide +kernel
theorem dX9_heir_12 : decode cX9_heir 12 = .ok (.dup, 1) := by decide +kernel
theorem dX9_heir_13 : decode cX9_heir 13 = .ok (.getfield 143, 3) := by decide +kernel
theorem dX9_heir_16 : decode cX9_heir 16 = .ok (.iconst 1, 1) := by decide +kernel
theorem dX9_heir_17 : decode cX9_heir 17 = .ok (.iadd, 1) := by decide +kernel
theorem dX9_heir_18 : decode cX9_heir 18 = .ok (.putfield 143, 3) := by decide +kernel
theorem dX9_heir_21 : decode cX9_heir 21 = .ok (.aload_n 0, 1) := by decide +kernel
theorem dX9_heir_22 : decode cX9_heir 22 = .ok (.getfield 143, 3) := by decide +kernel
theorem dX9_heir_25 : decode cX9_heir 25 = .ok (.iconst 1, 1) := by decide +kernel
theorem dX9_heir_26 : decode cX9_heir 26 = .ok (.isub, 1) := by decide +kernel
theorem dX9_heir_27 : decode cX9_heir 27 = .ok (.ireturn, 1) := by decide +kernel
theorem dX9_thing_0 : decode cX9_thing 0 = .ok (.iload_n 1, 1) := by decide +kernel
theorem dX9_thing_1 : decode cX9_thing 1 = .ok (.i2l, 1) := by decide +kernel
theorem dX9_thing_2 : decode cX9_thing 2 = .ok (.lconst 1, 1) := by decide +kernel
theorem dX9_thing_3 : decode cX9_thing 3 = .ok (.ldc2_w 149, 3) := by decide +kernel
theorem dX9_thing_6 : decode cX9_thing 6 = .ok (.invokestatic 67, 3) := by decide +kernel
theorem dX9_thing_9 : decode cX9_thing 9 = .ok (.ifCond .eq 54, 3) := by decide +kernel
theorem dX9_thing_12 : decode cX9_thing 12 = .ok (.iload_n 2, 1) := by decide +kernel
theorem dX9_thing_13 : decode cX9_thing 13 = .ok (.i2l, 1) := by decide +kernel
theorem dX9_thing_14 : decode cX9_thing 14 = .ok (.lconst 0, 1) := by decide +kernel
theorem dX9_thing_15 : decode cX9_thing 15 = .ok (.ldc2_w 151, 3) := by decide +kernel
theorem dX9_thing_18 : decode cX9_thing 18 = .ok (.invokestatic 67, 3) := by decide +kernel
theorem dX9_thing_21 : decode cX9_thing 21 = .ok (.ifCond .eq 42, 3) := by decide +kernel
theorem dX9_thing_24 : decode cX9_thing 24 = .ok (.iload_n 3, 1) := by decide +kernel
theorem dX9_thing_25 : decode cX9_thing 25 = .ok (.i2l, 1) := by decide +kernel
theorem dX9_thing_26 : decode cX9_thing 26 = .ok (.iload_n 2, 1) := by decide +kernel
theorem dX9_thing_27 : decode cX9_thing 27 = .ok (.i2l, 1) := by decide +kernel
theorem dX9_thing_28 : decode cX9_thing 28 = .ok (.ldc2_w 151, 3) := by decide +kernel
theorem dX9_thing_31 : decode cX9_thing 31 = .ok (.invokestatic 67, 3) := by decide +kernel
theorem dX9_thing_34 : decode cX9_thing 34 = .ok (.ifCond .eq 29, 3) := by decide +kernel
theorem dX9_thing_37 : decode cX9_thing 37 = .ok (.iload 4, 2) := by decide +kernel
theorem dX9_thing_39 : decode cX9_thing 39 = .ok (.i2l, 1) := by decide +kernel
theorem dX9_thing_40 : decode cX9_thing 40 = .ok (.lconst 0, 1) := by decide +kernel
theorem dX9_thing_41 : decode cX9_thing 41 = .ok (.ldc2_w 153, 3) := by decide +kernel
theorem dX9_thing_44 : decode cX9_thing 44 = .ok (.invokestatic 67, 3) := by decide +kernel
theorem dX9_thing_47 : decode cX9_thing 47 = .ok (.ifCond .eq 16, 3) := by decide +kernel
theorem dX9_thing_50 : decode cX9_thing 50 = .ok (.iload 5, 2) := by decide +kernel
theorem dX9_thing_52 : decode cX9_thing 52 = .ok (.i2l, 1) := by decide +kernel
theorem dX9_thing_53 : decode cX9_thing 53 = .ok (.lconst 0, 1) := by decide +kernel
theorem dX9_thing_54 : decode cX9_thing 54 = .ok (.ldc2_w 155, 3) := by decide +kernel
theorem dX9_thing_57 : decode cX9_thing 57 = .ok (.invokestatic 67, 3) := by decide +kernel
theorem dX9_thing_60 : decode cX9_thing 60 = .ok (.ifCond .ne 5, 3) := by decide +kernel
theorem dX9_thing_63 : decode cX9_thing 63 = .ok (.iconst (-1), 1) := by decide +kernel
theorem dX9_thing_64 : decode cX9_thing 64 = .ok (.ireturn, 1) := by decide +kernel
theorem dX9_thing_65 : decode cX9_thing 65 = .ok (.aload_n 0, 1) := by decide +kernel
theorem dX9_thing_66 : decode cX9_thing 66 = .ok (.getfield 146, 3) := by decide +kernel
theorem dX9_thing_69 : decode cX9_thing 69 = .ok (.bipush 10, 2) := by decide +kernel
theorem dX9_thing_71 : decode cX9_thing 71 = .ok (.if_icmp .ne 6, 3) := by decide +kernel
theorem dX9_thing_74 : decode cX9_thing 74 = .ok (.bipush (-3), 2) := by decide +kernel
theorem dX9_thing_76 : decode cX9_thing 76 = .ok (.ireturn, 1) := by decide +kernel
theorem dX9_thing_77 : decode cX9_thing 77 = .ok (.aload_n 0, 1) := by decide +kernel
theorem dX9_thing_78 : decode cX9_thing 78 = .ok (.getfield 19, 3) := by decide +kernel
theorem dX9_thing_81 : decode cX9_thing 81 = .ok (.aload_n 0, 1) := by decide +kernel
theorem dX9_thing_82 : decode cX9_thing 82 = .ok (.getfield 146, 3) := by decide +kernel
theorem dX9_thing_85 : decode cX9_thing 85 = .ok (.iload_n 1, 1) := by decide +kernel
theorem dX9_thing_86 : decode cX9_thing 86 = .ok (.iastore, 1) := by decide +kernel
theorem dX9_thing_87 : decode cX9_thing 87 = .ok (.aload_n 0, 1) := by decide +kernel
theorem dX9_thing_88 : decode cX9_thing 88 = .ok (.getfield 22, 3) := by decide +kernel
theorem dX9_thing_91 : decode cX9_thing 91 = .ok (.aload_n 0, 1) := by decide +kernel
theorem dX9_thing_92 : decode cX9_thing 92 = .ok (.getfield 146, 3) := by decide +kernel
theorem dX9_thing_95 : decode cX9_thing 95 = .ok (.iload_n 2, 1) := by decide +kernel
theorem dX9_thing_96 : decode cX9_thing 96 = .ok (.iastore, 1) := by decide +kernel
theorem dX9_thing_97 : decode cX9_thing 97 = .ok (.aload_n 0, 1) := by decide +kernel
theorem dX9_thing_98 : decode cX9_thing 98 = .ok (.getfield 25, 3) := by decide +kernel
theorem dX9_thing_101 : decode cX9_thing 101 = .ok (.aload_n 0, 1) := by decide +kernel
theorem dX9_thing_102 : decode cX9_thing 102 = .ok (.getfield 146, 3) := by decide +kernel
theorem dX9_thing_105 : decode cX9_thing 105 = .ok (.iload_n 3, 1) := by decide +kernel
theorem dX9_thing_106 : decode cX9_thing 106 = .ok (.iastore, 1) := by decide +kernel
theorem dX9_thing_107 : decode cX9_thing 107 = .ok (.aload_n 0, 1) := by decide +kernel
theorem dX9_thing_108 : decode cX9_thing 108 = .ok (.getfield 28, 3) := by decide +kernel
theorem dX9_thing_111 : decode cX9_thing 111 = .ok (.aload_n 0, 1) := by decide +kernel
theorem dX9_thing_112 : decode cX9_thing 112 = .ok (.getfield 146, 3) := by decide +kernel
theorem dX9_thing_115 : decode cX9_thing 115 = .ok (.iload 4, 2) := by decide +kernel
theorem dX9_thing_117 : decode cX9_thing 117 = .ok (.iastore, 1) := by decide +kernel
theorem dX9_thing_118 : decode cX9_thing 118 = .ok (.aload_n 0, 1) := by decide +kernel
theorem dX9_thing_119 : decode cX9_thing 119 = .ok (.getfield 31, 3) := by decide +kernel
theorem dX9_thing_122 : decode cX9_thing 122 = .ok (.aload_n 0, 1) := by decide +kernel
theorem dX9_thing_123 : decode cX9_thing 123 = .ok (.getfield 146, 3) := by decide +kernel
theorem dX9_thing_126 : decode cX9_thing 126 = .ok (.iload 5, 2) := by decide +kernel
theorem dX9_thing_128 : decode cX9_thing 128 = .ok (.iastore, 1) := by decide +kernel
theorem dX9_thing_129 : decode cX9_thing 129 = .ok (.iconst 0, 1) := by decide +kernel
theorem dX9_thing_130 : decode cX9_thing 130 = .ok (.istore 6, 2) := by decide +kernel
theorem dX9_thing_132 : decode cX9_thing 132 = .ok (.iload 6, 2) := by decide +kernel
theorem dX9_thing_134 : decode cX9_thing 134 = .ok (.iconst 4, 1) := by decide +kernel
theorem dX9_thing_135 : decode cX9_thing 135 = .ok (.if_icmp .ge 25, 3) := by decide +kernel
theorem dX9_thing_138 : decode cX9_thing 138 = .ok (.aload_n 0, 1) := by decide +kernel
theorem dX9_thing_139 : decode cX9_thing 139 = .ok (.getfield 34, 3) := by decide +kernel
theorem dX9_thing_142 : decode cX9_thing 142 = .ok (.bipush 10, 2) := by decide +kernel
theorem dX9_thing_144 : decode cX9_thing 144 = .ok (.iload 6, 2) := by decide +kernel
theorem dX9_thing_146 : decode cX9_thing 146 = .ok (.imul, 1) := by decide +kernel
theorem dX9_thing_147 : decode cX9_thing 147 = .ok (.aload_n 0, 1) := by decide +kernel
theorem dX9_thing_148 : decode cX9_thing 148 = .ok (.getfield 146, 3) := by decide +kernel
theorem dX9_thing_151 : decode cX9_thing 151 = .ok (.iadd, 1) := by decide +kernel
theorem dX9_thing_152 : decode cX9_thing 152 = .ok (.iconst 0, 1) := by decide +kernel
theorem dX9_thing_153 : decode cX9_thing 153 = .ok (.iastore, 1) := by decide +kernel
theorem dX9_thing_154 : decode cX9_thing 154 = .ok (.iinc 6 1, 3) := by decide +kernel
theorem dX9_thing_157 : decode cX9_thing 157 = .ok (.goto (-25), 3) := by decide +kernel
theorem dX9_thing_160 : decode cX9_thing 160 = .ok (.aload_n 0, 1) := by decide +kernel
theorem dX9_thing_161 : decode cX9_thing 161 = .ok (.dup, 1) := by decide +kernel
theorem dX9_thing_162 : decode cX9_thing 162 = .ok (.getfield 146, 3) := by decide +kernel
theorem dX9_thing_165 : decode cX9_thing 165 = .ok (.iconst 1, 1) := by decide +kernel
theorem dX9_thing_166 : decode cX9_thing 166 = .ok (.iadd, 1) := by decide +kernel
theorem dX9_thing_167 : decode cX9_thing 167 = .ok (.putfield 146, 3) := by decide +kernel
theorem dX9_thing_170 : decode cX9_thing 170 = .ok (.aload_n 0, 1) := by decide +kernel
theorem dX9_thing_171 : decode cX9_thing 171 = .ok (.getfield 146, 3) := by decide +kernel
theorem dX9_thing_174 : decode cX9_thing 174 = .ok (.iconst 1, 1) := by decide +kernel
theorem dX9_thing_175 : decode cX9_thing 175 = .ok (.isub, 1) := by decide +kernel
theorem dX9_thing_176 : decode cX9_thing 176 = .ok (.ireturn, 1) := by decide +kernel
theorem dX9_worth_0 : decode cX9_worth 0 = .ok (.aload_n 0, 1) := by decide +kernel
theorem dX9_worth_1 : decode cX9_worth 1 = .ok (.iload_n 1, 1) := by decide +kernel
theorem dX9_worth_2 : decode cX9_worth 2 = .ok (.invokevirtual 157, 3) := by decide +kernel
theorem dX9_worth_5 : decode cX9_worth 5 = .ok (.ifCond .eq 23, 3) := by decide +kernel
theorem dX9_worth_8 : decode cX9_worth 8 = .ok (.aload_n 0, 1) := by decide +kernel
theorem dX9_worth_9 : decode cX9_worth 9 = .ok (.iload_n 2, 1) := by decide +kernel
theorem dX9_worth_10 : decode cX9_worth 10 = .ok (.invokevirtual 161, 3) := by decide +kernel
theorem dX9_worth_13 : decode cX9_worth 13 = .ok (.ifCond .eq 15, 3) := by decide +kernel
theorem dX9_worth_16 : decode cX9_worth 16 = .ok (.iload_n 3, 1) := by decide +kernel
theorem dX9_worth_17 : decode cX9_worth 17 = .ok (.i2l, 1) := by decide +kernel
theorem dX9_worth_18 : decode cX9_worth 18 = .ok (.lconst 0, 1) := by decide +kernel
theorem dX9_worth_19 : decode cX9_worth 19 = .ok (.ldc2_w 164, 3) := by decide +kernel
theorem dX9_worth_22 : decode cX9_worth 22 = .ok (.invokestatic 67, 3) := by decide +kernel
theorem dX9_worth_25 : decode cX9_worth 25 = .ok (.ifCond .ne 5, 3) := by decide +kernel
theorem dX9_worth_28 : decode cX9_worth 28 = .ok (.iconst (-1), 1) := by decide +kernel
theorem dX9_worth_29 : decode cX9_worth 29 = .ok (.ireturn, 1) := by decide +kernel
theorem dX9_worth_30 : decode cX9_worth 30 = .ok (.aload_n 0, 1) := by decide +kernel
theorem dX9_worth_31 : decode cX9_worth 31 = .ok (.getfield 34, 3) := by decide +kernel
theorem dX9_worth_34 : decode cX9_worth 34 = .ok (.bipush 10, 2) := by decide +kernel
theorem dX9_worth_36 : decode cX9_worth 36 = .ok (.iload_n 1, 1) := by decide +kernel
theorem dX9_worth_37 : decode cX9_worth 37 = .ok (.imul, 1) := by decide +kernel
theorem dX9_worth_38 : decode cX9_worth 38 = .ok (.iload_n 2, 1) := by decide +kernel
theorem dX9_worth_39 : decode cX9_worth 39 = .ok (.iadd, 1) := by decide +kernel
theorem dX9_worth_40 : decode cX9_worth 40 = .ok (.iaload, 1) := by decide +kernel
theorem dX9_worth_41 : decode cX9_worth 41 = .ok (.istore 4, 2) := by decide +kernel
theorem dX9_worth_43 : decode cX9_worth 43 = .ok (.aload_n 0, 1) := by decide +kernel
theorem dX9_worth_44 : decode cX9_worth 44 = .ok (.getfield 34, 3) := by decide +kernel
theorem dX9_worth_47 : decode cX9_worth 47 = .ok (.bipush 10, 2) := by decide +kernel
theorem dX9_worth_49 : decode cX9_worth 49 = .ok (.iload_n 1, 1) := by decide +kernel
theorem dX9_worth_50 : decode cX9_worth 50 = .ok (.imul, 1) := by decide +kernel
theorem dX9_worth_51 : decode cX9_worth 51 = .ok (.iload_n 2, 1) := by decide +kernel
theorem dX9_worth_52 : decode cX9_worth 52 = .ok (.iadd, 1) := by decide +kernel
theorem dX9_worth_53 : decode cX9_worth 53 = .ok (.iload_n 3, 1) := by decide +kernel
theorem dX9_worth_54 : decode cX9_worth 54 = .ok (.iastore, 1) := by decide +kernel
theorem dX9_worth_55 : decode cX9_worth 55 = .ok (.iload 4, 2) := by decide +kernel
theorem dX9_worth_57 : decode cX9_worth 57 = .ok (.ireturn, 1) := by decide +kernel
theorem dX9_gone_0 : decode cX9_gone 0 = .ok (.aload_n 0, 1) := by decide +kernel
theorem dX9_gone_1 : decode cX9_gone 1 = .ok (.getfield 146, 3) := by decide +kernel
theorem dX9_gone_4 : decode cX9_gone 4 = .ok (.ifCond .ne 6, 3) := by decide +kernel
theorem dX9_gone_7 : decode cX9_gone 7 = .ok (.bipush (-4), 2) := by decide +kernel
theorem dX9_gone_9 : decode cX9_gone 9 = .ok (.ireturn, 1) := by decide +kernel
theorem dX9_gone_10 : decode cX9_gone 10 = .ok (.aload_n 0, 1) := by decide +kernel
theorem dX9_gone_11 : decode cX9_gone 11 = .ok (.dup, 1) := by decide +kernel
theorem dX9_gone_12 : decode cX9_gone 12 = .ok (.getfield 146, 3) := by decide +kernel
theorem dX9_gone_15 : decode cX9_gone 15 = .ok (.iconst 1, 1) := by decide +kernel
theorem dX9_gone_16 : decode cX9_gone 16 = .ok (.isub, 1) := by decide +kernel
theorem dX9_gone_17 : decode cX9_gone 17 = .ok (.putfield 146, 3) := by decide +kernel
theorem dX9_gone_20 : decode cX9_gone 20 = .ok (.aload_n 0, 1) := by decide +kernel
theorem dX9_gone_21 : decode cX9_gone 21 = .ok (.getfield 146, 3) := by decide +kernel
theorem dX9_gone_24 : decode cX9_gone 24 = .ok (.ireturn, 1) := by decide +kernel
theorem dX9_look_0 : decode cX9_look 0 = .ok (.aload_n 0, 1) := by decide +kernel
theorem dX9_look_1 : decode cX9_look 1 = .ok (.iload_n 1, 1) := by decide +kernel
theorem dX9_look_2 : decode cX9_look 2 = .ok (.invokevirtual 161, 3) := by decide +kernel
theorem dX9_look_5 : decode cX9_look 5 = .ok (.ifCond .eq 38, 3) := by decide +kernel
theorem dX9_look_8 : decode cX9_look 8 = .ok (.iload_n 2, 1) := by decide +kernel
theorem dX9_look_9 : decode cX9_look 9 = .ok (.i2l, 1) := by decide +kernel
theorem dX9_look_10 : decode cX9_look 10 = .ok (.aload_n 0, 1) := by decide +kernel
theorem dX9_look_11 : decode cX9_look 11 = .ok (.getfield 22, 3) := by decide +kernel
theorem dX9_look_14 : decode cX9_look 14 = .ok (.iload_n 1, 1) := by decide +kernel
theorem dX9_look_15 : decode cX9_look 15 = .ok (.iaload, 1) := by decide +kernel
theorem dX9_look_16 : decode cX9_look 16 = .ok (.i2l, 1) := by decide +kernel
theorem dX9_look_17 : decode cX9_look 17 = .ok (.ldc2_w 151, 3) := by decide +kernel
theorem dX9_look_20 : decode cX9_look 20 = .ok (.invokestatic 67, 3) := by decide +kernel
theorem dX9_look_23 : decode cX9_look 23 = .ok (.ifCond .eq 20, 3) := by decide +kernel
theorem dX9_look_26 : decode cX9_look 26 = .ok (.iload_n 3, 1) := by decide +kernel
theorem dX9_look_27 : decode cX9_look 27 = .ok (.i2l, 1) := by decide +kernel
theorem dX9_look_28 : decode cX9_look 28 = .ok (.iload_n 2, 1) := by decide +kernel
theorem dX9_look_29 : decode cX9_look 29 = .ok (.i2l, 1) := by decide +kernel
theorem dX9_look_30 : decode cX9_look 30 = .ok (.aload_n 0, 1) := by decide +kernel
theorem dX9_look_31 : decode cX9_look 31 = .ok (.getfield 25, 3) := by decide +kernel
theorem dX9_look_34 : decode cX9_look 34 = .ok (.iload_n 1, 1) := by decide +kernel
theorem dX9_look_35 : decode cX9_look 35 = .ok (.iaload, 1) := by decide +kernel
theorem dX9_look_36 : decode cX9_look 36 = .ok (.i2l, 1) := by decide +kernel
theorem dX9_look_37 : decode cX9_look 37 = .ok (.invokestatic 67, 3) := by decide +kernel
theorem dX9_look_40 : decode cX9_look 40 = .ok (.ifCond .ne 5, 3) := by decide +kernel
theorem dX9_look_43 : decode cX9_look 43 = .ok (.iconst (-1), 1) := by decide +kernel
theorem dX9_look_44 : decode cX9_look 44 = .ok (.ireturn, 1) := by decide +kernel
theorem dX9_look_45 : decode cX9_look 45 = .ok (.aload_n 0, 1) := by decide +kernel
theorem dX9_look_46 : decode cX9_look 46 = .ok (.getfield 22, 3) := by decide +kernel
theorem dX9_look_49 : decode cX9_look 49 = .ok (.iload_n 1, 1) := by decide +kernel
theorem dX9_look_50 : decode cX9_look 50 = .ok (.iload_n 2, 1) := by decide +kernel
theorem dX9_look_51 : decode cX9_look 51 = .ok (.iastore, 1) := by decide +kernel
theorem dX9_look_52 : decode cX9_look 52 = .ok (.aload_n 0, 1) := by decide +kernel
theorem dX9_look_53 : decode cX9_look 53 = .ok (.getfield 25, 3) := by decide +kernel
theorem dX9_look_56 : decode cX9_look 56 = .ok (.iload_n 1, 1) := by decide +kernel
theorem dX9_look_57 : decode cX9_look 57 = .ok (.iload_n 3, 1) := by decide +kernel
theorem dX9_look_58 : decode cX9_look 58 = .ok (.iastore, 1) := by decide +kernel
theorem dX9_look_59 : decode cX9_look 59 = .ok (.iconst 1, 1) := by decide +kernel
theorem dX9_look_60 : decode cX9_look 60 = .ok (.ireturn, 1) := by decide +kernel
theorem dX9_has_0 : decode cX9_has 0 = .ok (.aload_n 0, 1) := by decide +kernel
theorem dX9_has_1 : decode cX9_has 1 = .ok (.getfield 31, 3) := by decide +kernel
theorem dX9_has_4 : decode cX9_has 4 = .ok (.iload_n 1, 1) := by decide +kernel
theorem dX9_has_5 : decode cX9_has 5 = .ok (.iaload, 1) := by decide +kernel
theorem dX9_has_6 : decode cX9_has 6 = .ok (.iload_n 2, 1) := by decide +kernel
theorem dX9_has_7 : decode cX9_has 7 = .ok (.ishr, 1) := by decide +kernel
theorem dX9_has_8 : decode cX9_has 8 = .ok (.iconst 1, 1) := by decide +kernel
theorem dX9_has_9 : decode cX9_has 9 = .ok (.iand, 1) := by decide +kernel
theorem dX9_has_10 : decode cX9_has 10 = .ok (.iconst 1, 1) := by decide +kernel
theorem dX9_has_11 : decode cX9_has 11 = .ok (.if_icmp .ne 7, 3) := by decide +kernel
theorem dX9_has_14 : decode cX9_has 14 = .ok (.iconst 1, 1) := by decide +kernel
theorem dX9_has_15 : decode cX9_has 15 = .ok (.goto 4, 3) := by decide +kernel
theorem dX9_has_18 : decode cX9_has 18 = .ok (.iconst 0, 1) := by decide +kernel
theorem dX9_has_19 : decode cX9_has 19 = .ok (.ireturn, 1) := by decide +kernel
theorem dX9_sent_0 : decode cX9_sent 0 = .ok (.aload_n 0, 1) := by decide +kernel
theorem dX9_sent_1 : decode cX9_sent 1 = .ok (.iload_n 1, 1) := by decide +kernel
theorem dX9_sent_2 : decode cX9_sent 2 = .ok (.iconst 2, 1) := by decide +kernel
theorem dX9_sent_3 : decode cX9_sent 3 = .ok (.invokevirtual 166, 3) := by decide +kernel
theorem dX9_sent_6 : decode cX9_sent 6 = .ok (.ifCond .eq 12, 3) := by decide +kernel
theorem dX9_sent_9 : decode cX9_sent 9 = .ok (.aload_n 0, 1) := by decide +kernel
theorem dX9_sent_10 : decode cX9_sent 10 = .ok (.bipush 6, 2) := by decide +kernel
theorem dX9_sent_12 : decode cX9_sent 12 = .ok (.invokevirtual 140, 3) := by decide +kernel
theorem dX9_sent_15 : decode cX9_sent 15 = .ok (.goto 62, 3) := by decide +kernel
theorem dX9_sent_18 : decode cX9_sent 18 = .ok (.aload_n 0, 1) := by decide +kernel
theorem dX9_sent_19 : decode cX9_sent 19 = .ok (.iload_n 1, 1) := by decide +kernel
theorem dX9_sent_20 : decode cX9_sent 20 = .ok (.iconst 1, 1) := by decide +kernel
theorem dX9_sent_21 : decode cX9_sent 21 = .ok (.invokevirtual 166, 3) := by decide +kernel
theorem dX9_sent_24 : decode cX9_sent 24 = .ok (.ifCond .eq 11, 3) := by decide +kernel
theorem dX9_sent_27 : decode cX9_sent 27 = .ok (.aload_n 0, 1) := by decide +kernel
theorem dX9_sent_28 : decode cX9_sent 28 = .ok (.iconst 5, 1) := by decide +kernel
theorem dX9_sent_29 : decode cX9_sent 29 = .ok (.invokevirtual 140, 3) := by decide +kernel
theorem dX9_sent_32 : decode cX9_sent 32 = .ok (.goto 45, 3) := by decide +kernel
theorem dX9_sent_35 : decode cX9_sent 35 = .ok (.aload_n 0, 1) := by decide +kernel
theorem dX9_sent_36 : decode cX9_sent 36 = .ok (.iload_n 1, 1) := by decide +kernel
theorem dX9_sent_37 : decode cX9_sent 37 = .ok (.iconst 0, 1) := by decide +kernel
theorem dX9_sent_38 : decode cX9_sent 38 = .ok (.invokevirtual 166, 3) := by decide +kernel
theorem dX9_sent_41 : decode cX9_sent 41 = .ok (.ifCond .eq 21, 3) := by decide +kernel
theorem dX9_sent_44 : decode cX9_sent 44 = .ok (.aload_n 0, 1) := by decide +kernel
theorem dX9_sent_45 : decode cX9_sent 45 = .ok (.getfield 28, 3) := by decide +kernel
theorem dX9_sent_48 : decode cX9_sent 48 = .ok (.iload_n 1, 1) := by decide +kernel
theorem dX9_sent_49 : decode cX9_sent 49 = .ok (.iaload, 1) := by decide +kernel
theorem dX9_sent_50 : decode cX9_sent 50 = .ok (.aload_n 0, 1) := by decide +kernel
theorem dX9_sent_51 : decode cX9_sent 51 = .ok (.iconst 0, 1) := by decide +kernel
theorem dX9_sent_52 : decode cX9_sent 52 = .ok (.invokevirtual 140, 3) := by decide +kernel
theorem dX9_sent_55 : decode cX9_sent 55 = .ok (.if_icmp .gt 7, 3) := by decide +kernel
theorem dX9_sent_58 : decode cX9_sent 58 = .ok (.iconst 4, 1) := by decide +kernel
theorem dX9_sent_59 : decode cX9_sent 59 = .ok (.goto 18, 3) := by decide +kernel
theorem dX9_sent_62 : decode cX9_sent 62 = .ok (.aload_n 0, 1) := by decide +kernel
theorem dX9_sent_63 : decode cX9_sent 63 = .ok (.iload_n 1, 1) := by decide +kernel
theorem dX9_sent_64 : decode cX9_sent 64 = .ok (.iconst 3, 1) := by decide +kernel
theorem dX9_sent_65 : decode cX9_sent 65 = .ok (.invokevirtual 166, 3) := by decide +kernel
theorem dX9_sent_68 : decode cX9_sent 68 = .ok (.ifCond .eq 7, 3) := by decide +kernel
theorem dX9_sent_71 : decode cX9_sent 71 = .ok (.iconst 0, 1) := by decide +kernel
theorem dX9_sent_72 : decode cX9_sent 72 = .ok (.goto 5, 3) := by decide +kernel
theorem dX9_sent_75 : decode cX9_sent 75 = .ok (.bipush (-4), 2) := by decide +kernel
theorem dX9_sent_77 : decode cX9_sent 77 = .ok (.ireturn, 1) := by decide +kernel
theorem dX9_wayNow_0 : decode cX9_wayNow 0 = .ok (.aload_n 0, 1) := by decide +kernel
theorem dX9_wayNow_1 : decode cX9_wayNow 1 = .ok (.iload_n 1, 1) := by decide +kernel
theorem dX9_wayNow_2 : decode cX9_wayNow 2 = .ok (.invokevirtual 170, 3) := by decide +kernel
theorem dX9_wayNow_5 : decode cX9_wayNow 5 = .ok (.istore_n 2, 1) := by decide +kernel
theorem dX9_wayNow_6 : decode cX9_wayNow 6 = .ok (.iload_n 2, 1) := by decide +kernel
theorem dX9_wayNow_7 : decode cX9_wayNow 7 = .ok (.bipush (-4), 2) := by decide +kernel
theorem dX9_wayNow_9 : decode cX9_wayNow 9 = .ok (.if_icmp .eq 5, 3) := by decide +kernel
theorem dX9_wayNow_12 : decode cX9_wayNow 12 = .ok (.iload_n 2, 1) := by decide +kernel
theorem dX9_wayNow_13 : decode cX9_wayNow 13 = .ok (.ireturn, 1) := by decide +kernel
theorem dX9_wayNow_14 : decode cX9_wayNow 14 = .ok (.iconst 0, 1) := by decide +kernel
theorem dX9_wayNow_15 : decode cX9_wayNow 15 = .ok (.istore_n 3, 1) := by decide +kernel
theorem dX9_wayNow_16 : decode cX9_wayNow 16 = .ok (.iconst 0, 1) := by decide +kernel
theorem dX9_wayNow_17 : decode cX9_wayNow 17 = .ok (.istore 4, 2) := by decide +kernel
theorem dX9_wayNow_19 : decode cX9_wayNow 19 = .ok (.iload 4, 2) := by decide +kernel
theorem dX9_wayNow_21 : decode cX9_wayNow 21 = .ok (.aload_n 0, 1) := by decide +kernel
theorem dX9_wayNow_22 : decode cX9_wayNow 22 = .ok (.getfield 143, 3) := by decide +kernel
theorem dX9_wayNow_25 : decode cX9_wayNow 25 = .ok (.if_icmp .ge 34, 3) := by decide +kernel
theorem dX9_wayNow_28 : decode cX9_wayNow 28 = .ok (.iload_n 3, 1) := by decide +kernel
theorem dX9_wayNow_29 : decode cX9_wayNow 29 = .ok (.ifCond .ne 18, 3) := by decide +kernel
theorem dX9_wayNow_32 : decode cX9_wayNow 32 = .ok (.aload_n 0, 1) := by decide +kernel
theorem dX9_wayNow_33 : decode cX9_wayNow 33 = .ok (.getfield 34, 3) := by decide +kernel
theorem dX9_wayNow_36 : decode cX9_wayNow 36 = .ok (.bipush 10, 2) := by decide +kernel
theorem dX9_wayNow_38 : decode cX9_wayNow 38 = .ok (.iload 4, 2) := by decide +kernel
theorem dX9_wayNow_40 : decode cX9_wayNow 40 = .ok (.imul, 1) := by decide +kernel
theorem dX9_wayNow_41 : decode cX9_wayNow 41 = .ok (.iload_n 1, 1) := by decide +kernel
theorem dX9_wayNow_42 : decode cX9_wayNow 42 = .ok (.iadd, 1) := by decide +kernel
theorem dX9_wayNow_43 : decode cX9_wayNow 43 = .ok (.iaload, 1) := by decide +kernel
theorem dX9_wayNow_44 : decode cX9_wayNow 44 = .ok (.ifCond .le 7, 3) := by decide +kernel
theorem dX9_wayNow_47 : decode cX9_wayNow 47 = .ok (.iconst 1, 1) := by decide +kernel
theorem dX9_wayNow_48 : decode cX9_wayNow 48 = .ok (.goto 4, 3) := by decide +kernel
theorem dX9_wayNow_51 : decode cX9_wayNow 51 = .ok (.iconst 0, 1) := by decide +kernel
theorem dX9_wayNow_52 : decode cX9_wayNow 52 = .ok (.istore_n 3, 1) := by decide +kernel
theorem dX9_wayNow_53 : decode cX9_wayNow 53 = .ok (.iinc 4 1, 3) := by decide +kernel
theorem dX9_wayNow_56 : decode cX9_wayNow 56 = .ok (.goto (-37), 3) := by decide +kernel
theorem dX9_wayNow_59 : decode cX9_wayNow 59 = .ok (.aload_n 0, 1) := by decide +kernel
theorem dX9_wayNow_60 : decode cX9_wayNow 60 = .ok (.getfield 22, 3) := by decide +kernel
theorem dX9_wayNow_63 : decode cX9_wayNow 63 = .ok (.iload_n 1, 1) := by decide +kernel
theorem dX9_wayNow_64 : decode cX9_wayNow 64 = .ok (.iaload, 1) := by decide +kernel
theorem dX9_wayNow_65 : decode cX9_wayNow 65 = .ok (.aload_n 0, 1) := by decide +kernel
theorem dX9_wayNow_66 : decode cX9_wayNow 66 = .ok (.iconst 1, 1) := by decide +kernel
theorem dX9_wayNow_67 : decode cX9_wayNow 67 = .ok (.invokevirtual 140, 3) := by decide +kernel
theorem dX9_wayNow_70 : decode cX9_wayNow 70 = .ok (.if_icmp .lt 7, 3) := by decide +kernel
theorem dX9_wayNow_73 : decode cX9_wayNow 73 = .ok (.iconst 1, 1) := by decide +kernel
theorem dX9_wayNow_74 : decode cX9_wayNow 74 = .ok (.goto 30, 3) := by decide +kernel
theorem dX9_wayNow_77 : decode cX9_wayNow 77 = .ok (.iload_n 3, 1) := by decide +kernel
theorem dX9_wayNow_78 : decode cX9_wayNow 78 = .ok (.ifCond .eq 7, 3) := by decide +kernel
theorem dX9_wayNow_81 : decode cX9_wayNow 81 = .ok (.iconst 0, 1) := by decide +kernel
theorem dX9_wayNow_82 : decode cX9_wayNow 82 = .ok (.goto 22, 3) := by decide +kernel
theorem dX9_wayNow_85 : decode cX9_wayNow 85 = .ok (.aload_n 0, 1) := by decide +kernel
theorem dX9_wayNow_86 : decode cX9_wayNow 86 = .ok (.getfield 22, 3) := by decide +kernel
theorem dX9_wayNow_89 : decode cX9_wayNow 89 = .ok (.iload_n 1, 1) := by decide +kernel
theorem dX9_wayNow_90 : decode cX9_wayNow 90 = .ok (.iaload, 1) := by decide +kernel
theorem dX9_wayNow_91 : decode cX9_wayNow 91 = .ok (.aload_n 0, 1) := by decide +kernel
theorem dX9_wayNow_92 : decode cX9_wayNow 92 = .ok (.iconst 2, 1) := by decide +kernel
theorem dX9_wayNow_93 : decode cX9_wayNow 93 = .ok (.invokevirtual 140, 3) := by decide +kernel
theorem dX9_wayNow_96 : decode cX9_wayNow 96 = .ok (.if_icmp .lt 7, 3) := by decide +kernel
theorem dX9_wayNow_99 : decode cX9_wayNow 99 = .ok (.iconst 2, 1) := by decide +kernel
theorem dX9_wayNow_100 : decode cX9_wayNow 100 = .ok (.goto 4, 3) := by decide +kernel
theorem dX9_wayNow_103 : decode cX9_wayNow 103 = .ok (.iconst 3, 1) := by decide +kernel
theorem dX9_wayNow_104 : decode cX9_wayNow 104 = .ok (.ireturn, 1) := by decide +kernel
theorem dX9_told_0 : decode cX9_told 0 = .ok (.aload_n 0, 1) := by decide +kernel
theorem dX9_told_1 : decode cX9_told 1 = .ok (.iload_n 1, 1) := by decide +kernel
theorem dX9_told_2 : decode cX9_told 2 = .ok (.invokevirtual 161, 3) := by decide +kernel
theorem dX9_told_5 : decode cX9_told 5 = .ok (.ifCond .eq 15, 3) := by decide +kernel
theorem dX9_told_8 : decode cX9_told 8 = .ok (.iload_n 2, 1) := by decide +kernel
theorem dX9_told_9 : decode cX9_told 9 = .ok (.i2l, 1) := by decide +kernel
theorem dX9_told_10 : decode cX9_told 10 = .ok (.lconst 0, 1) := by decide +kernel
theorem dX9_told_11 : decode cX9_told 11 = .ok (.ldc2_w 173, 3) := by decide +kernel
theorem dX9_told_14 : decode cX9_told 14 = .ok (.invokestatic 67, 3) := by decide +kernel
theorem dX9_told_17 : decode cX9_told 17 = .ok (.ifCond .ne 5, 3) := by decide +kernel
theorem dX9_told_20 : decode cX9_told 20 = .ok (.iconst (-1), 1) := by decide +kernel
theorem dX9_told_21 : decode cX9_told 21 = .ok (.ireturn, 1) := by decide +kernel
theorem dX9_told_22 : decode cX9_told 22 = .ok (.iload_n 2, 1) := by decide +kernel
theorem dX9_told_23 : decode cX9_told 23 = .ok (.ifCond .ne 12, 3) := by decide +kernel
theorem dX9_told_26 : decode cX9_told 26 = .ok (.aload_n 0, 1) := by decide +kernel
theorem dX9_told_27 : decode cX9_told 27 = .ok (.getfield 19, 3) := by decide +kernel
theorem dX9_told_30 : decode cX9_told 30 = .ok (.iload_n 1, 1) := by decide +kernel
theorem dX9_told_31 : decode cX9_told 31 = .ok (.iaload, 1) := by decide +kernel
theorem dX9_told_32 : decode cX9_told 32 = .ok (.goto 64, 3) := by decide +kernel
theorem dX9_told_35 : decode cX9_told 35 = .ok (.iload_n 2, 1) := by decide +kernel
theorem dX9_told_36 : decode cX9_told 36 = .ok (.iconst 1, 1) := by decide +kernel
theorem dX9_told_37 : decode cX9_told 37 = .ok (.if_icmp .ne 12, 3) := by decide +kernel
theorem dX9_told_40 : decode cX9_told 40 = .ok (.aload_n 0, 1) := by decide +kernel
theorem dX9_told_41 : decode cX9_told 41 = .ok (.getfield 22, 3) := by decide +kernel
theorem dX9_told_44 : decode cX9_told 44 = .ok (.iload_n 1, 1) := by decide +kernel
theorem dX9_told_45 : decode cX9_told 45 = .ok (.iaload, 1) := by decide +kernel
theorem dX9_told_46 : decode cX9_told 46 = .ok (.goto 50, 3) := by decide +kernel
theorem dX9_told_49 : decode cX9_told 49 = .ok (.iload_n 2, 1) := by decide +kernel
theorem dX9_told_50 : decode cX9_told 50 = .ok (.iconst 2, 1) := by decide +kernel
theorem dX9_told_51 : decode cX9_told 51 = .ok (.if_icmp .ne 12, 3) := by decide +kernel
theorem dX9_told_54 : decode cX9_told 54 = .ok (.aload_n 0, 1) := by decide +kernel
theorem dX9_told_55 : decode cX9_told 55 = .ok (.getfield 25, 3) := by decide +kernel
theorem dX9_told_58 : decode cX9_told 58 = .ok (.iload_n 1, 1) := by decide +kernel
theorem dX9_told_59 : decode cX9_told 59 = .ok (.iaload, 1) := by decide +kernel
theorem dX9_told_60 : decode cX9_told 60 = .ok (.goto 36, 3) := by decide +kernel
theorem dX9_told_63 : decode cX9_told 63 = .ok (.iload_n 2, 1) := by decide +kernel
theorem dX9_told_64 : decode cX9_told 64 = .ok (.iconst 3, 1) := by decide +kernel
theorem dX9_told_65 : decode cX9_told 65 = .ok (.if_icmp .ne 12, 3) := by decide +kernel
theorem dX9_told_68 : decode cX9_told 68 = .ok (.aload_n 0, 1) := by decide +kernel
theorem dX9_told_69 : decode cX9_told 69 = .ok (.getfield 28, 3) := by decide +kernel
theorem dX9_told_72 : decode cX9_told 72 = .ok (.iload_n 1, 1) := by decide +kernel
theorem dX9_told_73 : decode cX9_told 73 = .ok (.iaload, 1) := by decide +kernel
theorem dX9_told_74 : decode cX9_told 74 = .ok (.goto 22, 3) := by decide +kernel
theorem dX9_told_77 : decode cX9_told 77 = .ok (.iload_n 2, 1) := by decide +kernel
theorem dX9_told_78 : decode cX9_told 78 = .ok (.iconst 4, 1) := by decide +kernel
theorem dX9_told_79 : decode cX9_told 79 = .ok (.if_icmp .ne 12, 3) := by decide +kernel
theorem dX9_told_82 : decode cX9_told 82 = .ok (.aload_n 0, 1) := by decide +kernel
theorem dX9_told_83 : decode cX9_told 83 = .ok (.getfield 31, 3) := by decide +kernel
theorem dX9_told_86 : decode cX9_told 86 = .ok (.iload_n 1, 1) := by decide +kernel
theorem dX9_told_87 : decode cX9_told 87 = .ok (.iaload, 1) := by decide +kernel
theorem dX9_told_88 : decode cX9_told 88 = .ok (.goto 8, 3) := by decide +kernel
theorem dX9_told_91 : decode cX9_told 91 = .ok (.aload_n 0, 1) := by decide +kernel
theorem dX9_told_92 : decode cX9_told 92 = .ok (.iload_n 1, 1) := by decide +kernel
theorem dX9_told_93 : decode cX9_told 93 = .ok (.invokevirtual 175, 3) := by decide +kernel
theorem dX9_told_96 : decode cX9_told 96 = .ok (.ireturn, 1) := by decide +kernel
theorem dX9_way_0 : decode cX9_way 0 = .ok (.iload_n 1, 1) := by decide +kernel
theorem dX9_way_1 : decode cX9_way 1 = .ok (.i2l, 1) := by decide +kernel
theorem dX9_way_2 : decode cX9_way 2 = .ok (.lconst 0, 1) := by decide +kernel
theorem dX9_way_3 : decode cX9_way 3 = .ok (.ldc2_w 178, 3) := by decide +kernel
theorem dX9_way_6 : decode cX9_way 6 = .ok (.invokestatic 67, 3) := by decide +kernel
theorem dX9_way_9 : decode cX9_way 9 = .ok (.ifCond .eq 15, 3) := by decide +kernel
theorem dX9_way_12 : decode cX9_way 12 = .ok (.iload_n 2, 1) := by decide +kernel
theorem dX9_way_13 : decode cX9_way 13 = .ok (.i2l, 1) := by decide +kernel
theorem dX9_way_14 : decode cX9_way 14 = .ok (.lconst 0, 1) := by decide +kernel
theorem dX9_way_15 : decode cX9_way 15 = .ok (.ldc2_w 180, 3) := by decide +kernel
theorem dX9_way_18 : decode cX9_way 18 = .ok (.invokestatic 67, 3) := by decide +kernel
theorem dX9_way_21 : decode cX9_way 21 = .ok (.ifCond .ne 5, 3) := by decide +kernel
theorem dX9_way_24 : decode cX9_way 24 = .ok (.iconst (-1), 1) := by decide +kernel
theorem dX9_way_25 : decode cX9_way 25 = .ok (.ireturn, 1) := by decide +kernel
theorem dX9_way_26 : decode cX9_way 26 = .ok (.iconst 0, 1) := by decide +kernel
theorem dX9_way_27 : decode cX9_way 27 = .ok (.istore_n 3, 1) := by decide +kernel
theorem dX9_way_28 : decode cX9_way 28 = .ok (.iconst 0, 1) := by decide +kernel
theorem dX9_way_29 : decode cX9_way 29 = .ok (.istore 4, 2) := by decide +kernel
theorem dX9_way_31 : decode cX9_way 31 = .ok (.iload 4, 2) := by decide +kernel
theorem dX9_way_33 : decode cX9_way 33 = .ok (.aload_n 0, 1) := by decide +kernel
theorem dX9_way_34 : decode cX9_way 34 = .ok (.getfield 146, 3) := by decide +kernel
theorem dX9_way_37 : decode cX9_way 37 = .ok (.if_icmp .ge 67, 3) := by decide +kernel
theorem dX9_way_40 : decode cX9_way 40 = .ok (.aload_n 0, 1) := by decide +kernel
theorem dX9_way_41 : decode cX9_way 41 = .ok (.iload 4, 2) := by decide +kernel
theorem dX9_way_43 : decode cX9_way 43 = .ok (.invokevirtual 175, 3) := by decide +kernel
