theorem dX9_envy_67 : decode cX9_envy 67 = .ok (.goto (-53), 3) := by decide +kernel
theorem dX9_envy_70 : decode cX9_envy 70 = .ok (.iload_n 2, 1) := by decide +kernel
theorem dX9_envy_71 : decode cX9_envy 71 = .ok (.ireturn, 1) := by decide +kernel
theorem dX9_fairest_0 : decode cX9_fairest 0 = .ok (.aload_n 0, 1) := by decide +kernel
theorem dX9_fairest_1 : decode cX9_fairest 1 = .ok (.invokevirtual 189, 3) := by decide +kernel
theorem dX9_fairest_4 : decode cX9_fairest 4 = .ok (.aload_n 0, 1) := by decide +kernel
theorem dX9_fairest_5 : decode cX9_fairest 5 = .ok (.getfield 143, 3) := by decide +kernel
theorem dX9_fairest_8 : decode cX9_fairest 8 = .ok (.ifCond .eq 12, 3) := by decide +kernel
theorem dX9_fairest_11 : decode cX9_fairest 11 = .ok (.aload_n 0, 1) := by decide +kernel
theorem dX9_fairest_12 : decode cX9_fairest 12 = .ok (.getfield 182, 3) := by decide +kernel
theorem dX9_fairest_15 : decode cX9_fairest 15 = .ok (.bipush 8, 2) := by decide +kernel
theorem dX9_fairest_17 : decode cX9_fairest 17 = .ok (.if_icmp .le 6, 3) := by decide +kernel
theorem dX9_fairest_20 : decode cX9_fairest 20 = .ok (.bipush (-2), 2) := by decide +kernel
theorem dX9_fairest_22 : decode cX9_fairest 22 = .ok (.ireturn, 1) := by decide +kernel
theorem dX9_fairest_23 : decode cX9_fairest 23 = .ok (.iconst 0, 1) := by decide +kernel
theorem dX9_fairest_24 : decode cX9_fairest 24 = .ok (.istore_n 1, 1) := by decide +kernel
theorem dX9_fairest_25 : decode cX9_fairest 25 = .ok (.bipush (-4), 2) := by decide +kernel
theorem dX9_fairest_27 : decode cX9_fairest 27 = .ok (.istore_n 2, 1) := by decide +kernel
theorem dX9_fairest_28 : decode cX9_fairest 28 = .ok (.iconst 0, 1) := by decide +kernel
theorem dX9_fairest_29 : decode cX9_fairest 29 = .ok (.istore_n 3, 1) := by decide +kernel
theorem dX9_fairest_30 : decode cX9_fairest 30 = .ok (.aload_n 0, 1) := by decide +kernel
theorem dX9_fairest_31 : decode cX9_fairest 31 = .ok (.invokevirtual 203, 3) := by decide +kernel
theorem dX9_fairest_34 : decode cX9_fairest 34 = .ok (.istore 4, 2) := by decide +kernel
theorem dX9_fairest_36 : decode cX9_fairest 36 = .ok (.iconst 0, 1) := by decide +kernel
theorem dX9_fairest_37 : decode cX9_fairest 37 = .ok (.istore 5, 2) := by decide +kernel
theorem dX9_fairest_39 : decode cX9_fairest 39 = .ok (.iload 5, 2) := by decide +kernel
theorem dX9_fairest_41 : decode cX9_fairest 41 = .ok (.iload 4, 2) := by decide +kernel
theorem dX9_fairest_43 : decode cX9_fairest 43 = .ok (.if_icmp .ge 113, 3) := by decide +kernel
theorem dX9_fairest_46 : decode cX9_fairest 46 = .ok (.aload_n 0, 1) := by decide +kernel
theorem dX9_fairest_47 : decode cX9_fairest 47 = .ok (.iload 5, 2) := by decide +kernel
theorem dX9_fairest_49 : decode cX9_fairest 49 = .ok (.invokevirtual 206, 3) := by decide +kernel
theorem dX9_fairest_52 : decode cX9_fairest 52 = .ok (.bipush (-4), 2) := by decide +kernel
theorem dX9_fairest_54 : decode cX9_fairest 54 = .ok (.istore 6, 2) := by decide +kernel
theorem dX9_fairest_56 : decode cX9_fairest 56 = .ok (.iconst 0, 1) := by decide +kernel
theorem dX9_fairest_57 : decode cX9_fairest 57 = .ok (.istore 7, 2) := by decide +kernel
theorem dX9_fairest_59 : decode cX9_fairest 59 = .ok (.iconst 0, 1) := by decide +kernel
theorem dX9_fairest_60 : decode cX9_fairest 60 = .ok (.istore 8, 2) := by decide +kernel
theorem dX9_fairest_62 : decode cX9_fairest 62 = .ok (.iload 8, 2) := by decide +kernel
theorem dX9_fairest_64 : decode cX9_fairest 64 = .ok (.aload_n 0, 1) := by decide +kernel
theorem dX9_fairest_65 : decode cX9_fairest 65 = .ok (.getfield 143, 3) := by decide +kernel
theorem dX9_fairest_68 : decode cX9_fairest 68 = .ok (.if_icmp .ge 49, 3) := by decide +kernel
theorem dX9_fairest_71 : decode cX9_fairest 71 = .ok (.aload_n 0, 1) := by decide +kernel
theorem dX9_fairest_72 : decode cX9_fairest 72 = .ok (.iload 8, 2) := by decide +kernel
theorem dX9_fairest_74 : decode cX9_fairest 74 = .ok (.iload 8, 2) := by decide +kernel
theorem dX9_fairest_76 : decode cX9_fairest 76 = .ok (.invokevirtual 199, 3) := by decide +kernel
theorem dX9_fairest_79 : decode cX9_fairest 79 = .ok (.istore 9, 2) := by decide +kernel
theorem dX9_fairest_81 : decode cX9_fairest 81 = .ok (.iload 6, 2) := by decide +kernel
theorem dX9_fairest_83 : decode cX9_fairest 83 = .ok (.bipush (-4), 2) := by decide +kernel
theorem dX9_fairest_85 : decode cX9_fairest 85 = .ok (.if_icmp .eq 10, 3) := by decide +kernel
theorem dX9_fairest_88 : decode cX9_fairest 88 = .ok (.iload 9, 2) := by decide +kernel
theorem dX9_fairest_90 : decode cX9_fairest 90 = .ok (.iload 6, 2) := by decide +kernel
theorem dX9_fairest_92 : decode cX9_fairest 92 = .ok (.if_icmp .ge 8, 3) := by decide +kernel
theorem dX9_fairest_95 : decode cX9_fairest 95 = .ok (.iload 9, 2) := by decide +kernel
theorem dX9_fairest_97 : decode cX9_fairest 97 = .ok (.goto 5, 3) := by decide +kernel
theorem dX9_fairest_100 : decode cX9_fairest 100 = .ok (.iload 6, 2) := by decide +kernel
theorem dX9_fairest_102 : decode cX9_fairest 102 = .ok (.istore 6, 2) := by decide +kernel
theorem dX9_fairest_104 : decode cX9_fairest 104 = .ok (.iload 7, 2) := by decide +kernel
theorem dX9_fairest_106 : decode cX9_fairest 106 = .ok (.iload 9, 2) := by decide +kernel
theorem dX9_fairest_108 : decode cX9_fairest 108 = .ok (.iadd, 1) := by decide +kernel
theorem dX9_fairest_109 : decode cX9_fairest 109 = .ok (.istore 7, 2) := by decide +kernel
theorem dX9_fairest_111 : decode cX9_fairest 111 = .ok (.iinc 8 1, 3) := by decide +kernel
theorem dX9_fairest_114 : decode cX9_fairest 114 = .ok (.goto (-52), 3) := by decide +kernel
theorem dX9_fairest_117 : decode cX9_fairest 117 = .ok (.iload_n 2, 1) := by decide +kernel
theorem dX9_fairest_118 : decode cX9_fairest 118 = .ok (.bipush (-4), 2) := by decide +kernel
theorem dX9_fairest_120 : decode cX9_fairest 120 = .ok (.if_icmp .eq 21, 3) := by decide +kernel
theorem dX9_fairest_123 : decode cX9_fairest 123 = .ok (.iload 6, 2) := by decide +kernel
theorem dX9_fairest_125 : decode cX9_fairest 125 = .ok (.iload_n 2, 1) := by decide +kernel
theorem dX9_fairest_126 : decode cX9_fairest 126 = .ok (.if_icmp .gt 15, 3) := by decide +kernel
theorem dX9_fairest_129 : decode cX9_fairest 129 = .ok (.iload 6, 2) := by decide +kernel
theorem dX9_fairest_131 : decode cX9_fairest 131 = .ok (.iload_n 2, 1) := by decide +kernel
theorem dX9_fairest_132 : decode cX9_fairest 132 = .ok (.if_icmp .ne 18, 3) := by decide +kernel
theorem dX9_fairest_135 : decode cX9_fairest 135 = .ok (.iload 7, 2) := by decide +kernel
theorem dX9_fairest_137 : decode cX9_fairest 137 = .ok (.iload_n 3, 1) := by decide +kernel
theorem dX9_fairest_138 : decode cX9_fairest 138 = .ok (.if_icmp .le 12, 3) := by decide +kernel
theorem dX9_fairest_141 : decode cX9_fairest 141 = .ok (.iload 5, 2) := by decide +kernel
theorem dX9_fairest_143 : decode cX9_fairest 143 = .ok (.istore_n 1, 1) := by decide +kernel
theorem dX9_fairest_144 : decode cX9_fairest 144 = .ok (.iload 6, 2) := by decide +kernel
theorem dX9_fairest_146 : decode cX9_fairest 146 = .ok (.istore_n 2, 1) := by decide +kernel
theorem dX9_fairest_147 : decode cX9_fairest 147 = .ok (.iload 7, 2) := by decide +kernel
theorem dX9_fairest_149 : decode cX9_fairest 149 = .ok (.istore_n 3, 1) := by decide +kernel
theorem dX9_fairest_150 : decode cX9_fairest 150 = .ok (.iinc 5 1, 3) := by decide +kernel
theorem dX9_fairest_153 : decode cX9_fairest 153 = .ok (.goto (-114), 3) := by decide +kernel
theorem dX9_fairest_156 : decode cX9_fairest 156 = .ok (.iload_n 1, 1) := by decide +kernel
theorem dX9_fairest_157 : decode cX9_fairest 157 = .ok (.ireturn, 1) := by decide +kernel
theorem dX9_bidder_0 : decode cX9_bidder 0 = .ok (.iconst 0, 1) := by decide +kernel
theorem dX9_bidder_1 : decode cX9_bidder 1 = .ok (.istore_n 2, 1) := by decide +kernel
theorem dX9_bidder_2 : decode cX9_bidder 2 = .ok (.iconst 1, 1) := by decide +kernel
theorem dX9_bidder_3 : decode cX9_bidder 3 = .ok (.istore_n 3, 1) := by decide +kernel
theorem dX9_bidder_4 : decode cX9_bidder 4 = .ok (.iload_n 3, 1) := by decide +kernel
theorem dX9_bidder_5 : decode cX9_bidder 5 = .ok (.aload_n 0, 1) := by decide +kernel
theorem dX9_bidder_6 : decode cX9_bidder 6 = .ok (.getfield 143, 3) := by decide +kernel
theorem dX9_bidder_9 : decode cX9_bidder 9 = .ok (.if_icmp .ge 40, 3) := by decide +kernel
theorem dX9_bidder_12 : decode cX9_bidder 12 = .ok (.aload_n 0, 1) := by decide +kernel
theorem dX9_bidder_13 : decode cX9_bidder 13 = .ok (.getfield 34, 3) := by decide +kernel
theorem dX9_bidder_16 : decode cX9_bidder 16 = .ok (.bipush 10, 2) := by decide +kernel
theorem dX9_bidder_18 : decode cX9_bidder 18 = .ok (.iload_n 3, 1) := by decide +kernel
theorem dX9_bidder_19 : decode cX9_bidder 19 = .ok (.imul, 1) := by decide +kernel
theorem dX9_bidder_20 : decode cX9_bidder 20 = .ok (.iload_n 1, 1) := by decide +kernel
theorem dX9_bidder_21 : decode cX9_bidder 21 = .ok (.iadd, 1) := by decide +kernel
theorem dX9_bidder_22 : decode cX9_bidder 22 = .ok (.iaload, 1) := by decide +kernel
theorem dX9_bidder_23 : decode cX9_bidder 23 = .ok (.aload_n 0, 1) := by decide +kernel
theorem dX9_bidder_24 : decode cX9_bidder 24 = .ok (.getfield 34, 3) := by decide +kernel
theorem dX9_bidder_27 : decode cX9_bidder 27 = .ok (.bipush 10, 2) := by decide +kernel
theorem dX9_bidder_29 : decode cX9_bidder 29 = .ok (.iload_n 2, 1) := by decide +kernel
theorem dX9_bidder_30 : decode cX9_bidder 30 = .ok (.imul, 1) := by decide +kernel
theorem dX9_bidder_31 : decode cX9_bidder 31 = .ok (.iload_n 1, 1) := by decide +kernel
theorem dX9_bidder_32 : decode cX9_bidder 32 = .ok (.iadd, 1) := by decide +kernel
theorem dX9_bidder_33 : decode cX9_bidder 33 = .ok (.iaload, 1) := by decide +kernel
theorem dX9_bidder_34 : decode cX9_bidder 34 = .ok (.if_icmp .le 7, 3) := by decide +kernel
theorem dX9_bidder_37 : decode cX9_bidder 37 = .ok (.iload_n 3, 1) := by decide +kernel
theorem dX9_bidder_38 : decode cX9_bidder 38 = .ok (.goto 4, 3) := by decide +kernel
theorem dX9_bidder_41 : decode cX9_bidder 41 = .ok (.iload_n 2, 1) := by decide +kernel
theorem dX9_bidder_42 : decode cX9_bidder 42 = .ok (.istore_n 2, 1) := by decide +kernel
theorem dX9_bidder_43 : decode cX9_bidder 43 = .ok (.iinc 3 1, 3) := by decide +kernel
theorem dX9_bidder_46 : decode cX9_bidder 46 = .ok (.goto (-42), 3) := by decide +kernel
theorem dX9_bidder_49 : decode cX9_bidder 49 = .ok (.iload_n 2, 1) := by decide +kernel
theorem dX9_bidder_50 : decode cX9_bidder 50 = .ok (.ireturn, 1) := by decide +kernel
theorem dX9_bid_0 : decode cX9_bid 0 = .ok (.aload_n 0, 1) := by decide +kernel
theorem dX9_bid_1 : decode cX9_bid 1 = .ok (.iload_n 1, 1) := by decide +kernel
theorem dX9_bid_2 : decode cX9_bid 2 = .ok (.invokevirtual 161, 3) := by decide +kernel
theorem dX9_bid_5 : decode cX9_bid 5 = .ok (.ifCond .ne 5, 3) := by decide +kernel
theorem dX9_bid_8 : decode cX9_bid 8 = .ok (.iconst (-1), 1) := by decide +kernel
theorem dX9_bid_9 : decode cX9_bid 9 = .ok (.ireturn, 1) := by decide +kernel
theorem dX9_bid_10 : decode cX9_bid 10 = .ok (.aload_n 0, 1) := by decide +kernel
theorem dX9_bid_11 : decode cX9_bid 11 = .ok (.getfield 143, 3) := by decide +kernel
theorem dX9_bid_14 : decode cX9_bid 14 = .ok (.ifCond .ne 6, 3) := by decide +kernel
theorem dX9_bid_17 : decode cX9_bid 17 = .ok (.bipush (-2), 2) := by decide +kernel
theorem dX9_bid_19 : decode cX9_bid 19 = .ok (.ireturn, 1) := by decide +kernel
theorem dX9_bid_20 : decode cX9_bid 20 = .ok (.aload_n 0, 1) := by decide +kernel
theorem dX9_bid_21 : decode cX9_bid 21 = .ok (.iload_n 1, 1) := by decide +kernel
theorem dX9_bid_22 : decode cX9_bid 22 = .ok (.invokevirtual 175, 3) := by decide +kernel
theorem dX9_bid_25 : decode cX9_bid 25 = .ok (.ifCond .ne 11, 3) := by decide +kernel
theorem dX9_bid_28 : decode cX9_bid 28 = .ok (.aload_n 0, 1) := by decide +kernel
theorem dX9_bid_29 : decode cX9_bid 29 = .ok (.iload_n 1, 1) := by decide +kernel
theorem dX9_bid_30 : decode cX9_bid 30 = .ok (.invokevirtual 215, 3) := by decide +kernel
theorem dX9_bid_33 : decode cX9_bid 33 = .ok (.goto 5, 3) := by decide +kernel
theorem dX9_bid_36 : decode cX9_bid 36 = .ok (.bipush (-4), 2) := by decide +kernel
theorem dX9_bid_38 : decode cX9_bid 38 = .ok (.ireturn, 1) := by decide +kernel
theorem dX9_claimOf_0 : decode cX9_claimOf 0 = .ok (.iconst 0, 1) := by decide +kernel
theorem dX9_claimOf_1 : decode cX9_claimOf 1 = .ok (.istore_n 2, 1) := by decide +kernel
theorem dX9_claimOf_2 : decode cX9_claimOf 2 = .ok (.iconst 0, 1) := by decide +kernel
theorem dX9_claimOf_3 : decode cX9_claimOf 3 = .ok (.istore_n 3, 1) := by decide +kernel
theorem dX9_claimOf_4 : decode cX9_claimOf 4 = .ok (.iload_n 3, 1) := by decide +kernel
theorem dX9_claimOf_5 : decode cX9_claimOf 5 = .ok (.aload_n 0, 1) := by decide +kernel
theorem dX9_claimOf_6 : decode cX9_claimOf 6 = .ok (.getfield 182, 3) := by decide +kernel
theorem dX9_claimOf_9 : decode cX9_claimOf 9 = .ok (.if_icmp .ge 28, 3) := by decide +kernel
theorem dX9_claimOf_12 : decode cX9_claimOf 12 = .ok (.iload_n 2, 1) := by decide +kernel
theorem dX9_claimOf_13 : decode cX9_claimOf 13 = .ok (.aload_n 0, 1) := by decide +kernel
theorem dX9_claimOf_14 : decode cX9_claimOf 14 = .ok (.getfield 34, 3) := by decide +kernel
theorem dX9_claimOf_17 : decode cX9_claimOf 17 = .ok (.bipush 10, 2) := by decide +kernel
theorem dX9_claimOf_19 : decode cX9_claimOf 19 = .ok (.iload_n 1, 1) := by decide +kernel
theorem dX9_claimOf_20 : decode cX9_claimOf 20 = .ok (.imul, 1) := by decide +kernel
theorem dX9_claimOf_21 : decode cX9_claimOf 21 = .ok (.aload_n 0, 1) := by decide +kernel
theorem dX9_claimOf_22 : decode cX9_claimOf 22 = .ok (.getfield 37, 3) := by decide +kernel
theorem dX9_claimOf_25 : decode cX9_claimOf 25 = .ok (.iload_n 3, 1) := by decide +kernel
theorem dX9_claimOf_26 : decode cX9_claimOf 26 = .ok (.iaload, 1) := by decide +kernel
theorem dX9_claimOf_27 : decode cX9_claimOf 27 = .ok (.iadd, 1) := by decide +kernel
theorem dX9_claimOf_28 : decode cX9_claimOf 28 = .ok (.iaload, 1) := by decide +kernel
theorem dX9_claimOf_29 : decode cX9_claimOf 29 = .ok (.iadd, 1) := by decide +kernel
theorem dX9_claimOf_30 : decode cX9_claimOf 30 = .ok (.istore_n 2, 1) := by decide +kernel
theorem dX9_claimOf_31 : decode cX9_claimOf 31 = .ok (.iinc 3 1, 3) := by decide +kernel
theorem dX9_claimOf_34 : decode cX9_claimOf 34 = .ok (.goto (-30), 3) := by decide +kernel
theorem dX9_claimOf_37 : decode cX9_claimOf 37 = .ok (.iload_n 2, 1) := by decide +kernel
theorem dX9_claimOf_38 : decode cX9_claimOf 38 = .ok (.aload_n 0, 1) := by decide +kernel
theorem dX9_claimOf_39 : decode cX9_claimOf 39 = .ok (.getfield 143, 3) := by decide +kernel
theorem dX9_claimOf_42 : decode cX9_claimOf 42 = .ok (.idiv, 1) := by decide +kernel
theorem dX9_claimOf_43 : decode cX9_claimOf 43 = .ok (.ireturn, 1) := by decide +kernel
theorem dX9_settled_0 : decode cX9_settled 0 = .ok (.aload_n 0, 1) := by decide +kernel
theorem dX9_settled_1 : decode cX9_settled 1 = .ok (.iload_n 1, 1) := by decide +kernel
theorem dX9_settled_2 : decode cX9_settled 2 = .ok (.invokevirtual 157, 3) := by decide +kernel
theorem dX9_settled_5 : decode cX9_settled 5 = .ok (.ifCond .eq 15, 3) := by decide +kernel
theorem dX9_settled_8 : decode cX9_settled 8 = .ok (.iload_n 2, 1) := by decide +kernel
theorem dX9_settled_9 : decode cX9_settled 9 = .ok (.i2l, 1) := by decide +kernel
theorem dX9_settled_10 : decode cX9_settled 10 = .ok (.lconst 0, 1) := by decide +kernel
theorem dX9_settled_11 : decode cX9_settled 11 = .ok (.ldc2_w 180, 3) := by decide +kernel
theorem dX9_settled_14 : decode cX9_settled 14 = .ok (.invokestatic 67, 3) := by decide +kernel
theorem dX9_settled_17 : decode cX9_settled 17 = .ok (.ifCond .ne 6, 3) := by decide +kernel
theorem dX9_settled_20 : decode cX9_settled 20 = .ok (.ldc 218, 2) := by decide +kernel
theorem dX9_settled_22 : decode cX9_settled 22 = .ok (.ireturn, 1) := by decide +kernel
theorem dX9_settled_23 : decode cX9_settled 23 = .ok (.aload_n 0, 1) := by decide +kernel
theorem dX9_settled_24 : decode cX9_settled 24 = .ok (.invokevirtual 189, 3) := by decide +kernel
theorem dX9_settled_27 : decode cX9_settled 27 = .ok (.iconst 0, 1) := by decide +kernel
theorem dX9_settled_28 : decode cX9_settled 28 = .ok (.istore_n 3, 1) := by decide +kernel
theorem dX9_settled_29 : decode cX9_settled 29 = .ok (.iload_n 3, 1) := by decide +kernel
theorem dX9_settled_30 : decode cX9_settled 30 = .ok (.aload_n 0, 1) := by decide +kernel
theorem dX9_settled_31 : decode cX9_settled 31 = .ok (.getfield 182, 3) := by decide +kernel
theorem dX9_settled_34 : decode cX9_settled 34 = .ok (.if_icmp .ge 25, 3) := by decide +kernel
theorem dX9_settled_37 : decode cX9_settled 37 = .ok (.aload_n 0, 1) := by decide +kernel
theorem dX9_settled_38 : decode cX9_settled 38 = .ok (.getfield 40, 3) := by decide +kernel
theorem dX9_settled_41 : decode cX9_settled 41 = .ok (.iload_n 3, 1) := by decide +kernel
theorem dX9_settled_42 : decode cX9_settled 42 = .ok (.aload_n 0, 1) := by decide +kernel
theorem dX9_settled_43 : decode cX9_settled 43 = .ok (.aload_n 0, 1) := by decide +kernel
theorem dX9_settled_44 : decode cX9_settled 44 = .ok (.getfield 37, 3) := by decide +kernel
theorem dX9_settled_47 : decode cX9_settled 47 = .ok (.iload_n 3, 1) := by decide +kernel
theorem dX9_settled_48 : decode cX9_settled 48 = .ok (.iaload, 1) := by decide +kernel
theorem dX9_settled_49 : decode cX9_settled 49 = .ok (.invokevirtual 215, 3) := by decide +kernel
theorem dX9_settled_52 : decode cX9_settled 52 = .ok (.iastore, 1) := by decide +kernel
theorem dX9_settled_53 : decode cX9_settled 53 = .ok (.iinc 3 1, 3) := by decide +kernel
theorem dX9_settled_56 : decode cX9_settled 56 = .ok (.goto (-27), 3) := by decide +kernel
theorem dX9_settled_59 : decode cX9_settled 59 = .ok (.iconst 0, 1) := by decide +kernel
theorem dX9_settled_60 : decode cX9_settled 60 = .ok (.istore_n 3, 1) := by decide +kernel
theorem dX9_settled_61 : decode cX9_settled 61 = .ok (.iconst 0, 1) := by decide +kernel
theorem dX9_settled_62 : decode cX9_settled 62 = .ok (.istore 4, 2) := by decide +kernel
theorem dX9_settled_64 : decode cX9_settled 64 = .ok (.iload 4, 2) := by decide +kernel
theorem dX9_settled_66 : decode cX9_settled 66 = .ok (.aload_n 0, 1) := by decide +kernel
theorem dX9_settled_67 : decode cX9_settled 67 = .ok (.getfield 143, 3) := by decide +kernel
theorem dX9_settled_70 : decode cX9_settled 70 = .ok (.if_icmp .ge 27, 3) := by decide +kernel
theorem dX9_settled_73 : decode cX9_settled 73 = .ok (.iload_n 3, 1) := by decide +kernel
theorem dX9_settled_74 : decode cX9_settled 74 = .ok (.aload_n 0, 1) := by decide +kernel
theorem dX9_settled_75 : decode cX9_settled 75 = .ok (.iload 4, 2) := by decide +kernel
theorem dX9_settled_77 : decode cX9_settled 77 = .ok (.iload 4, 2) := by decide +kernel
theorem dX9_settled_79 : decode cX9_settled 79 = .ok (.invokevirtual 199, 3) := by decide +kernel
theorem dX9_settled_82 : decode cX9_settled 82 = .ok (.aload_n 0, 1) := by decide +kernel
theorem dX9_settled_83 : decode cX9_settled 83 = .ok (.iload 4, 2) := by decide +kernel
theorem dX9_settled_85 : decode cX9_settled 85 = .ok (.invokevirtual 219, 3) := by decide +kernel
theorem dX9_settled_88 : decode cX9_settled 88 = .ok (.isub, 1) := by decide +kernel
theorem dX9_settled_89 : decode cX9_settled 89 = .ok (.iadd, 1) := by decide +kernel
theorem dX9_settled_90 : decode cX9_settled 90 = .ok (.istore_n 3, 1) := by decide +kernel
theorem dX9_settled_91 : decode cX9_settled 91 = .ok (.iinc 4 1, 3) := by decide +kernel
theorem dX9_settled_94 : decode cX9_settled 94 = .ok (.goto (-30), 3) := by decide +kernel
theorem dX9_settled_97 : decode cX9_settled 97 = .ok (.aload_n 0, 1) := by decide +kernel
theorem dX9_settled_98 : decode cX9_settled 98 = .ok (.iload_n 1, 1) := by decide +kernel
theorem dX9_settled_99 : decode cX9_settled 99 = .ok (.iload_n 1, 1) := by decide +kernel
theorem dX9_settled_100 : decode cX9_settled 100 = .ok (.invokevirtual 199, 3) := by decide +kernel
theorem dX9_settled_103 : decode cX9_settled 103 = .ok (.aload_n 0, 1) := by decide +kernel
theorem dX9_settled_104 : decode cX9_settled 104 = .ok (.iload_n 1, 1) := by decide +kernel
theorem dX9_settled_105 : decode cX9_settled 105 = .ok (.invokevirtual 219, 3) := by decide +kernel
theorem dX9_settled_108 : decode cX9_settled 108 = .ok (.isub, 1) := by decide +kernel
theorem dX9_settled_109 : decode cX9_settled 109 = .ok (.istore 4, 2) := by decide +kernel
theorem dX9_settled_111 : decode cX9_settled 111 = .ok (.iload_n 2, 1) := by decide +kernel
theorem dX9_settled_112 : decode cX9_settled 112 = .ok (.ifCond .ne 12, 3) := by decide +kernel
theorem dX9_settled_115 : decode cX9_settled 115 = .ok (.aload_n 0, 1) := by decide +kernel
theorem dX9_settled_116 : decode cX9_settled 116 = .ok (.iload_n 1, 1) := by decide +kernel
theorem dX9_settled_117 : decode cX9_settled 117 = .ok (.iload_n 1, 1) := by decide +kernel
theorem dX9_settled_118 : decode cX9_settled 118 = .ok (.invokevirtual 199, 3) := by decide +kernel
theorem dX9_settled_121 : decode cX9_settled 121 = .ok (.goto 37, 3) := by decide +kernel
theorem dX9_settled_124 : decode cX9_settled 124 = .ok (.iload_n 2, 1) := by decide +kernel
theorem dX9_settled_125 : decode cX9_settled 125 = .ok (.iconst 1, 1) := by decide +kernel
theorem dX9_settled_126 : decode cX9_settled 126 = .ok (.if_icmp .ne 11, 3) := by decide +kernel
theorem dX9_settled_129 : decode cX9_settled 129 = .ok (.aload_n 0, 1) := by decide +kernel
theorem dX9_settled_130 : decode cX9_settled 130 = .ok (.iload_n 1, 1) := by decide +kernel
theorem dX9_settled_131 : decode cX9_settled 131 = .ok (.invokevirtual 219, 3) := by decide +kernel
theorem dX9_settled_134 : decode cX9_settled 134 = .ok (.goto 24, 3) := by decide +kernel
theorem dX9_settled_137 : decode cX9_settled 137 = .ok (.iload_n 2, 1) := by decide +kernel
theorem dX9_settled_138 : decode cX9_settled 138 = .ok (.iconst 2, 1) := by decide +kernel
theorem dX9_settled_139 : decode cX9_settled 139 = .ok (.if_icmp .ne 8, 3) := by decide +kernel
theorem dX9_settled_142 : decode cX9_settled 142 = .ok (.iload 4, 2) := by decide +kernel
theorem dX9_settled_144 : decode cX9_settled 144 = .ok (.goto 14, 3) := by decide +kernel
theorem dX9_settled_147 : decode cX9_settled 147 = .ok (.iload 4, 2) := by decide +kernel
theorem dX9_settled_149 : decode cX9_settled 149 = .ok (.iload_n 3, 1) := by decide +kernel
theorem dX9_settled_150 : decode cX9_settled 150 = .ok (.aload_n 0, 1) := by decide +kernel
theorem dX9_settled_151 : decode cX9_settled 151 = .ok (.getfield 143, 3) := by decide +kernel
theorem dX9_settled_154 : decode cX9_settled 154 = .ok (.invokestatic 222, 3) := by decide +kernel
theorem dX9_settled_157 : decode cX9_settled 157 = .ok (.isub, 1) := by decide +kernel
theorem dX9_settled_158 : decode cX9_settled 158 = .ok (.ireturn, 1) := by decide +kernel
theorem dX9_lays_0 : decode cX9_lays 0 = .ok (.aload_n 0, 1) := by decide +kernel
theorem dX9_lays_1 : decode cX9_lays 1 = .ok (.iconst 3, 1) := by decide +kernel
theorem dX9_lays_2 : decode cX9_lays 2 = .ok (.invokevirtual 140, 3) := by decide +kernel
theorem dX9_lays_5 : decode cX9_lays 5 = .ok (.istore_n 2, 1) := by decide +kernel
theorem dX9_lays_6 : decode cX9_lays 6 = .ok (.iconst 0, 1) := by decide +kernel
theorem dX9_lays_7 : decode cX9_lays 7 = .ok (.istore_n 3, 1) := by decide +kernel
theorem dX9_lays_8 : decode cX9_lays 8 = .ok (.iload_n 3, 1) := by decide +kernel
theorem dX9_lays_9 : decode cX9_lays 9 = .ok (.bipush 11, 2) := by decide +kernel
theorem dX9_lays_11 : decode cX9_lays 11 = .ok (.if_icmp .ge 16, 3) := by decide +kernel
theorem dX9_lays_14 : decode cX9_lays 14 = .ok (.aload_n 0, 1) := by decide +kernel
theorem dX9_lays_15 : decode cX9_lays 15 = .ok (.getfield 49, 3) := by decide +kernel
theorem dX9_lays_18 : decode cX9_lays 18 = .ok (.iload_n 3, 1) := by decide +kernel
theorem dX9_lays_19 : decode cX9_lays 19 = .ok (.iconst 0, 1) := by decide +kernel
theorem dX9_lays_20 : decode cX9_lays 20 = .ok (.iastore, 1) := by decide +kernel
theorem dX9_lays_21 : decode cX9_lays 21 = .ok (.iinc 3 1, 3) := by decide +kernel
theorem dX9_lays_24 : decode cX9_lays 24 = .ok (.goto (-16), 3) := by decide +kernel
theorem dX9_lays_27 : decode cX9_lays 27 = .ok (.iconst 0, 1) := by decide +kernel
theorem dX9_lays_28 : decode cX9_lays 28 = .ok (.istore_n 3, 1) := by decide +kernel
theorem dX9_lays_29 : decode cX9_lays 29 = .ok (.iconst 0, 1) := by decide +kernel
theorem dX9_lays_30 : decode cX9_lays 30 = .ok (.istore 4, 2) := by decide +kernel
theorem dX9_lays_32 : decode cX9_lays 32 = .ok (.iload_n 3, 1) := by decide +kernel
theorem dX9_lays_33 : decode cX9_lays 33 = .ok (.aload_n 0, 1) := by decide +kernel
theorem dX9_lays_34 : decode cX9_lays 34 = .ok (.getfield 225, 3) := by decide +kernel
theorem dX9_lays_37 : decode cX9_lays 37 = .ok (.if_icmp .ge 193, 3) := by decide +kernel
theorem dX9_lays_40 : decode cX9_lays 40 = .ok (.iload_n 3, 1) := by decide +kernel
theorem dX9_lays_41 : decode cX9_lays 41 = .ok (.ifCond .lt 189, 3) := by decide +kernel
theorem dX9_lays_44 : decode cX9_lays 44 = .ok (.iconst 0, 1) := by decide +kernel
theorem dX9_lays_45 : decode cX9_lays 45 = .ok (.istore 5, 2) := by decide +kernel
theorem dX9_lays_47 : decode cX9_lays 47 = .ok (.iconst 0, 1) := by decide +kernel
theorem dX9_lays_48 : decode cX9_lays 48 = .ok (.istore 6, 2) := by decide +kernel
theorem dX9_lays_50 : decode cX9_lays 50 = .ok (.iload 6, 2) := by decide +kernel
theorem dX9_lays_52 : decode cX9_lays 52 = .ok (.iload_n 3, 1) := by decide +kernel
theorem dX9_lays_53 : decode cX9_lays 53 = .ok (.if_icmp .ge 39, 3) := by decide +kernel
theorem dX9_lays_56 : decode cX9_lays 56 = .ok (.aload_n 0, 1) := by decide +kernel
theorem dX9_lays_57 : decode cX9_lays 57 = .ok (.getfield 46, 3) := by decide +kernel
theorem dX9_lays_60 : decode cX9_lays 60 = .ok (.iload 6, 2) := by decide +kernel
theorem dX9_lays_62 : decode cX9_lays 62 = .ok (.iaload, 1) := by decide +kernel
theorem dX9_lays_63 : decode cX9_lays 63 = .ok (.iconst 1, 1) := by decide +kernel
theorem dX9_lays_64 : decode cX9_lays 64 = .ok (.iadd, 1) := by decide +kernel
theorem dX9_lays_65 : decode cX9_lays 65 = .ok (.iload 5, 2) := by decide +kernel
theorem dX9_lays_67 : decode cX9_lays 67 = .ok (.if_icmp .le 15, 3) := by decide +kernel
theorem dX9_lays_70 : decode cX9_lays 70 = .ok (.aload_n 0, 1) := by decide +kernel
theorem dX9_lays_71 : decode cX9_lays 71 = .ok (.getfield 46, 3) := by decide +kernel
theorem dX9_lays_74 : decode cX9_lays 74 = .ok (.iload 6, 2) := by decide +kernel
theorem dX9_lays_76 : decode cX9_lays 76 = .ok (.iaload, 1) := by decide +kernel
theorem dX9_lays_77 : decode cX9_lays 77 = .ok (.iconst 1, 1) := by decide +kernel
theorem dX9_lays_78 : decode cX9_lays 78 = .ok (.iadd, 1) := by decide +kernel
theorem dX9_lays_79 : decode cX9_lays 79 = .ok (.goto 5, 3) := by decide +kernel
theorem dX9_lays_82 : decode cX9_lays 82 = .ok (.iload 5, 2) := by decide +kernel
theorem dX9_lays_84 : decode cX9_lays 84 = .ok (.istore 5, 2) := by decide +kernel
theorem dX9_lays_86 : decode cX9_lays 86 = .ok (.iinc 6 1, 3) := by decide +kernel
theorem dX9_lays_89 : decode cX9_lays 89 = .ok (.goto (-39), 3) := by decide +kernel
theorem dX9_lays_92 : decode cX9_lays 92 = .ok (.iload 4, 2) := by decide +kernel
theorem dX9_lays_94 : decode cX9_lays 94 = .ok (.iload 5, 2) := by decide +kernel
theorem dX9_lays_96 : decode cX9_lays 96 = .ok (.if_icmp .gt 38, 3) := by decide +kernel
theorem dX9_lays_99 : decode cX9_lays 99 = .ok (.iload 4, 2) := by decide +kernel
theorem dX9_lays_101 : decode cX9_lays 101 = .ok (.iload_n 1, 1) := by decide +kernel
theorem dX9_lays_102 : decode cX9_lays 102 = .ok (.if_icmp .ge 32, 3) := by decide +kernel
theorem dX9_lays_105 : decode cX9_lays 105 = .ok (.aload_n 0, 1) := by decide +kernel
theorem dX9_lays_106 : decode cX9_lays 106 = .ok (.getfield 49, 3) := by decide +kernel
theorem dX9_lays_109 : decode cX9_lays 109 = .ok (.iload 4, 2) := by decide +kernel
theorem dX9_lays_111 : decode cX9_lays 111 = .ok (.iaload, 1) := by decide +kernel
theorem dX9_lays_112 : decode cX9_lays 112 = .ok (.aload_n 0, 1) := by decide +kernel
theorem dX9_lays_113 : decode cX9_lays 113 = .ok (.getfield 19, 3) := by decide +kernel
theorem dX9_lays_116 : decode cX9_lays 116 = .ok (.aload_n 0, 1) := by decide +kernel
theorem dX9_lays_117 : decode cX9_lays 117 = .ok (.getfield 43, 3) := by decide +kernel
theorem dX9_lays_120 : decode cX9_lays 120 = .ok (.iload_n 3, 1) := by decide +kernel
theorem dX9_lays_121 : decode cX9_lays 121 = .ok (.iaload, 1) := by decide +kernel
theorem dX9_lays_122 : decode cX9_lays 122 = .ok (.iaload, 1) := by decide +kernel
theorem dX9_lays_123 : decode cX9_lays 123 = .ok (.iadd, 1) := by decide +kernel
theorem dX9_lays_124 : decode cX9_lays 124 = .ok (.iload_n 2, 1) := by decide +kernel
theorem dX9_lays_125 : decode cX9_lays 125 = .ok (.if_icmp .le 9, 3) := by decide +kernel
theorem dX9_lays_128 : decode cX9_lays 128 = .ok (.iinc 4 1, 3) := by decide +kernel
theorem dX9_lays_131 : decode cX9_lays 131 = .ok (.goto (-39), 3) := by decide +kernel
theorem dX9_lays_134 : decode cX9_lays 134 = .ok (.iload 4, 2) := by decide +kernel
theorem dX9_lays_136 : decode cX9_lays 136 = .ok (.iload 5, 2) := by decide +kernel
theorem dX9_lays_138 : decode cX9_lays 138 = .ok (.if_icmp .gt 47, 3) := by decide +kernel
theorem dX9_lays_141 : decode cX9_lays 141 = .ok (.iload 4, 2) := by decide +kernel
theorem dX9_lays_143 : decode cX9_lays 143 = .ok (.iload_n 1, 1) := by decide +kernel
theorem dX9_lays_144 : decode cX9_lays 144 = .ok (.if_icmp .ge 41, 3) := by decide +kernel
theorem dX9_lays_147 : decode cX9_lays 147 = .ok (.aload_n 0, 1) := by decide +kernel
theorem dX9_lays_148 : decode cX9_lays 148 = .ok (.getfield 46, 3) := by decide +kernel
theorem dX9_lays_151 : decode cX9_lays 151 = .ok (.iload_n 3, 1) := by decide +kernel
theorem dX9_lays_152 : decode cX9_lays 152 = .ok (.iload 4, 2) := by decide +kernel
theorem dX9_lays_154 : decode cX9_lays 154 = .ok (.iastore, 1) := by decide +kernel
theorem dX9_lays_155 : decode cX9_lays 155 = .ok (.aload_n 0, 1) := by decide +kernel
theorem dX9_lays_156 : decode cX9_lays 156 = .ok (.getfield 49, 3) := by decide +kernel
theorem dX9_lays_159 : decode cX9_lays 159 = .ok (.iload 4, 2) := by decide +kernel
theorem dX9_lays_161 : decode cX9_lays 161 = .ok (.dup2, 1) := by decide +kernel
theorem dX9_lays_162 : decode cX9_lays 162 = .ok (.iaload, 1) := by decide +kernel
theorem dX9_lays_163 : decode cX9_lays 163 = .ok (.aload_n 0, 1) := by decide +kernel
theorem dX9_lays_164 : decode cX9_lays 164 = .ok (.getfield 19, 3) := by decide +kernel
theorem dX9_lays_167 : decode cX9_lays 167 = .ok (.aload_n 0, 1) := by decide +kernel
theorem dX9_lays_168 : decode cX9_lays 168 = .ok (.getfield 43, 3) := by decide +kernel
theorem dX9_lays_171 : decode cX9_lays 171 = .ok (.iload_n 3, 1) := by decide +kernel
theorem dX9_lays_172 : decode cX9_lays 172 = .ok (.iaload, 1) := by decide +kernel
theorem dX9_lays_173 : decode cX9_lays 173 = .ok (.iaload, 1) := by decide +kernel
theorem dX9_lays_174 : decode cX9_lays 174 = .ok (.iadd, 1) := by decide +kernel
theorem dX9_lays_175 : decode cX9_lays 175 = .ok (.iastore, 1) := by decide +kernel
theorem dX9_lays_176 : decode cX9_lays 176 = .ok (.iinc 3 1, 3) := by decide +kernel
theorem dX9_lays_179 : decode cX9_lays 179 = .ok (.iconst 0, 1) := by decide +kernel
theorem dX9_lays_180 : decode cX9_lays 180 = .ok (.istore 4, 2) := by decide +kernel
theorem dX9_lays_182 : decode cX9_lays 182 = .ok (.goto 45, 3) := by decide +kernel
theorem dX9_lays_185 : decode cX9_lays 185 = .ok (.iinc 3 (-1), 3) := by decide +kernel
theorem dX9_lays_188 : decode cX9_lays 188 = .ok (.iload_n 3, 1) := by decide +kernel
theorem dX9_lays_189 : decode cX9_lays 189 = .ok (.ifCond .lt 38, 3) := by decide +kernel
theorem dX9_lays_192 : decode cX9_lays 192 = .ok (.aload_n 0, 1) := by decide +kernel
theorem dX9_lays_193 : decode cX9_lays 193 = .ok (.getfield 49, 3) := by decide +kernel
theorem dX9_lays_196 : decode cX9_lays 196 = .ok (.aload_n 0, 1) := by decide +kernel
theorem dX9_lays_197 : decode cX9_lays 197 = .ok (.getfield 46, 3) := by decide +kernel
theorem dX9_lays_200 : decode cX9_lays 200 = .ok (.iload_n 3, 1) := by decide +kernel
theorem dX9_lays_201 : decode cX9_lays 201 = .ok (.iaload, 1) := by decide +kernel
theorem dX9_lays_202 : decode cX9_lays 202 = .ok (.dup2, 1) := by decide +kernel
theorem dX9_lays_203 : decode cX9_lays 203 = .ok (.iaload, 1) := by decide +kernel
theorem dX9_lays_204 : decode cX9_lays 204 = .ok (.aload_n 0, 1) := by decide +kernel
theorem dX9_lays_205 : decode cX9_lays 205 = .ok (.getfield 19, 3) := by decide +kernel
theorem dX9_lays_208 : decode cX9_lays 208 = .ok (.aload_n 0, 1) := by decide +kernel
theorem dX9_lays_209 : decode cX9_lays 209 = .ok (.getfield 43, 3) := by decide +kernel
theorem dX9_lays_212 : decode cX9_lays 212 = .ok (.iload_n 3, 1) := by decide +kernel
theorem dX9_lays_213 : decode cX9_lays 213 = .ok (.iaload, 1) := by decide +kernel
theorem dX9_lays_214 : decode cX9_lays 214 = .ok (.iaload, 1) := by decide +kernel
theorem dX9_lays_215 : decode cX9_lays 215 = .ok (.isub, 1) := by decide +kernel
theorem dX9_lays_216 : decode cX9_lays 216 = .ok (.iastore, 1) := by decide +kernel
theorem dX9_lays_217 : decode cX9_lays 217 = .ok (.aload_n 0, 1) := by decide +kernel
theorem dX9_lays_218 : decode cX9_lays 218 = .ok (.getfield 46, 3) := by decide +kernel
theorem dX9_lays_221 : decode cX9_lays 221 = .ok (.iload_n 3, 1) := by decide +kernel
theorem dX9_lays_222 : decode cX9_lays 222 = .ok (.iaload, 1) := by decide +kernel
theorem dX9_lays_223 : decode cX9_lays 223 = .ok (.iconst 1, 1) := by decide +kernel
theorem dX9_lays_224 : decode cX9_lays 224 = .ok (.iadd, 1) := by decide +kernel
theorem dX9_lays_225 : decode cX9_lays 225 = .ok (.istore 4, 2) := by decide +kernel
theorem dX9_lays_227 : decode cX9_lays 227 = .ok (.goto (-195), 3) := by decide +kernel
theorem dX9_lays_230 : decode cX9_lays 230 = .ok (.iload_n 3, 1) := by decide +kernel
theorem dX9_lays_231 : decode cX9_lays 231 = .ok (.aload_n 0, 1) := by decide +kernel
theorem dX9_lays_232 : decode cX9_lays 232 = .ok (.getfield 225, 3) := by decide +kernel
theorem dX9_lays_235 : decode cX9_lays 235 = .ok (.if_icmp .ne 7, 3) := by decide +kernel
theorem dX9_lays_238 : decode cX9_lays 238 = .ok (.iconst 1, 1) := by decide +kernel
theorem dX9_lays_239 : decode cX9_lays 239 = .ok (.goto 4, 3) := by decide +kernel
theorem dX9_lays_242 : decode cX9_lays 242 = .ok (.iconst 0, 1) := by decide +kernel
theorem dX9_lays_243 : decode cX9_lays 243 = .ok (.ireturn, 1) := by decide +kernel
theorem dX9_findLoads_0 : decode cX9_findLoads 0 = .ok (.aload_n 0, 1) := by decide +kernel
theorem dX9_findLoads_1 : decode cX9_findLoads 1 = .ok (.iconst 0, 1) := by decide +kernel
theorem dX9_findLoads_2 : decode cX9_findLoads 2 = .ok (.putfield 225, 3) := by decide +kernel
theorem dX9_findLoads_5 : decode cX9_findLoads 5 = .ok (.iconst 0, 1) := by decide +kernel
theorem dX9_findLoads_6 : decode cX9_findLoads 6 = .ok (.istore_n 2, 1) := by decide +kernel
theorem dX9_findLoads_7 : decode cX9_findLoads 7 = .ok (.iconst 0, 1) := by decide +kernel
theorem dX9_findLoads_8 : decode cX9_findLoads 8 = .ok (.istore_n 3, 1) := by decide +kernel
theorem dX9_findLoads_9 : decode cX9_findLoads 9 = .ok (.iload_n 3, 1) := by decide +kernel
theorem dX9_findLoads_10 : decode cX9_findLoads 10 = .ok (.aload_n 0, 1) := by decide +kernel
theorem dX9_findLoads_11 : decode cX9_findLoads 11 = .ok (.getfield 146, 3) := by decide +kernel
theorem dX9_findLoads_14 : decode cX9_findLoads 14 = .ok (.if_icmp .ge 62, 3) := by decide +kernel
theorem dX9_findLoads_17 : decode cX9_findLoads 17 = .ok (.aload_n 0, 1) := by decide +kernel
theorem dX9_findLoads_18 : decode cX9_findLoads 18 = .ok (.iload_n 3, 1) := by decide +kernel
theorem dX9_findLoads_19 : decode cX9_findLoads 19 = .ok (.invokevirtual 175, 3) := by decide +kernel
theorem dX9_findLoads_22 : decode cX9_findLoads 22 = .ok (.iload_n 1, 1) := by decide +kernel
theorem dX9_findLoads_23 : decode cX9_findLoads 23 = .ok (.if_icmp .ne 47, 3) := by decide +kernel
theorem dX9_findLoads_26 : decode cX9_findLoads 26 = .ok (.aload_n 0, 1) := by decide +kernel
theorem dX9_findLoads_27 : decode cX9_findLoads 27 = .ok (.getfield 43, 3) := by decide +kernel
theorem dX9_findLoads_30 : decode cX9_findLoads 30 = .ok (.aload_n 0, 1) := by decide +kernel
theorem dX9_findLoads_31 : decode cX9_findLoads 31 = .ok (.getfield 225, 3) := by decide +kernel
theorem dX9_findLoads_34 : decode cX9_findLoads 34 = .ok (.iload_n 3, 1) := by decide +kernel
theorem dX9_findLoads_35 : decode cX9_findLoads 35 = .ok (.iastore, 1) := by decide +kernel
theorem dX9_findLoads_36 : decode cX9_findLoads 36 = .ok (.aload_n 0, 1) := by decide +kernel
theorem dX9_findLoads_37 : decode cX9_findLoads 37 = .ok (.dup, 1) := by decide +kernel
theorem dX9_findLoads_38 : decode cX9_findLoads 38 = .ok (.getfield 225, 3) := by decide +kernel
theorem dX9_findLoads_41 : decode cX9_findLoads 41 = .ok (.iconst 1, 1) := by decide +kernel
theorem dX9_findLoads_42 : decode cX9_findLoads 42 = .ok (.iadd, 1) := by decide +kernel
theorem dX9_findLoads_43 : decode cX9_findLoads 43 = .ok (.putfield 225, 3) := by decide +kernel
theorem dX9_findLoads_46 : decode cX9_findLoads 46 = .ok (.iload_n 2, 1) := by decide +kernel
theorem dX9_findLoads_47 : decode cX9_findLoads 47 = .ok (.ifCond .ne 17, 3) := by decide +kernel
theorem dX9_findLoads_50 : decode cX9_findLoads 50 = .ok (.aload_n 0, 1) := by decide +kernel
theorem dX9_findLoads_51 : decode cX9_findLoads 51 = .ok (.getfield 19, 3) := by decide +kernel
theorem dX9_findLoads_54 : decode cX9_findLoads 54 = .ok (.iload_n 3, 1) := by decide +kernel
theorem dX9_findLoads_55 : decode cX9_findLoads 55 = .ok (.iaload, 1) := by decide +kernel
theorem dX9_findLoads_56 : decode cX9_findLoads 56 = .ok (.aload_n 0, 1) := by decide +kernel
theorem dX9_findLoads_57 : decode cX9_findLoads 57 = .ok (.iconst 3, 1) := by decide +kernel
theorem dX9_findLoads_58 : decode cX9_findLoads 58 = .ok (.invokevirtual 140, 3) := by decide +kernel
theorem dX9_findLoads_61 : decode cX9_findLoads 61 = .ok (.if_icmp .le 7, 3) := by decide +kernel
theorem dX9_findLoads_64 : decode cX9_findLoads 64 = .ok (.iconst 1, 1) := by decide +kernel
theorem dX9_findLoads_65 : decode cX9_findLoads 65 = .ok (.goto 4, 3) := by decide +kernel
theorem dX9_findLoads_68 : decode cX9_findLoads 68 = .ok (.iconst 0, 1) := by decide +kernel
theorem dX9_findLoads_69 : decode cX9_findLoads 69 = .ok (.istore_n 2, 1) := by decide +kernel
theorem dX9_findLoads_70 : decode cX9_findLoads 70 = .ok (.iinc 3 1, 3) := by decide +kernel
theorem dX9_findLoads_73 : decode cX9_findLoads 73 = .ok (.goto (-64), 3) := by decide +kernel
theorem dX9_findLoads_76 : decode cX9_findLoads 76 = .ok (.iload_n 2, 1) := by decide +kernel
theorem dX9_findLoads_77 : decode cX9_findLoads 77 = .ok (.ifCond .eq 6, 3) := by decide +kernel
theorem dX9_findLoads_80 : decode cX9_findLoads 80 = .ok (.bipush (-4), 2) := by decide +kernel
theorem dX9_findLoads_82 : decode cX9_findLoads 82 = .ok (.ireturn, 1) := by decide +kernel
theorem dX9_findLoads_83 : decode cX9_findLoads 83 = .ok (.iconst 0, 1) := by decide +kernel
theorem dX9_findLoads_84 : decode cX9_findLoads 84 = .ok (.istore_n 3, 1) := by decide +kernel
theorem dX9_findLoads_85 : decode cX9_findLoads 85 = .ok (.aload_n 0, 1) := by decide +kernel
theorem dX9_findLoads_86 : decode cX9_findLoads 86 = .ok (.iload_n 3, 1) := by decide +kernel
theorem dX9_findLoads_87 : decode cX9_findLoads 87 = .ok (.invokevirtual 228, 3) := by decide +kernel
theorem dX9_findLoads_90 : decode cX9_findLoads 90 = .ok (.ifCond .ne 9, 3) := by decide +kernel
theorem dX9_findLoads_93 : decode cX9_findLoads 93 = .ok (.iinc 3 1, 3) := by decide +kernel
theorem dX9_findLoads_96 : decode cX9_findLoads 96 = .ok (.goto (-11), 3) := by decide +kernel
theorem dX9_findLoads_99 : decode cX9_findLoads 99 = .ok (.iload_n 3, 1) := by decide +kernel
theorem dX9_findLoads_100 : decode cX9_findLoads 100 = .ok (.ireturn, 1) := by decide +kernel
theorem dX9_loads_0 : decode cX9_loads 0 = .ok (.iload_n 1, 1) := by decide +kernel
theorem dX9_loads_1 : decode cX9_loads 1 = .ok (.i2l, 1) := by decide +kernel
theorem dX9_loads_2 : decode cX9_loads 2 = .ok (.lconst 0, 1) := by decide +kernel
theorem dX9_loads_3 : decode cX9_loads 3 = .ok (.ldc2_w 178, 3) := by decide +kernel
theorem dX9_loads_6 : decode cX9_loads 6 = .ok (.invokestatic 67, 3) := by decide +kernel
theorem dX9_loads_9 : decode cX9_loads 9 = .ok (.ifCond .eq 11, 3) := by decide +kernel
theorem dX9_loads_12 : decode cX9_loads 12 = .ok (.aload_n 0, 1) := by decide +kernel
theorem dX9_loads_13 : decode cX9_loads 13 = .ok (.iload_n 1, 1) := by decide +kernel
theorem dX9_loads_14 : decode cX9_loads 14 = .ok (.invokevirtual 231, 3) := by decide +kernel
theorem dX9_loads_17 : decode cX9_loads 17 = .ok (.goto 4, 3) := by decide +kernel
theorem dX9_loads_20 : decode cX9_loads 20 = .ok (.iconst (-1), 1) := by decide +kernel
theorem dX9_loads_21 : decode cX9_loads 21 = .ok (.ireturn, 1) := by decide +kernel
theorem dX9_load_0 : decode cX9_load 0 = .ok (.aload_n 0, 1) := by decide +kernel
theorem dX9_load_1 : decode cX9_load 1 = .ok (.iload_n 1, 1) := by decide +kernel
theorem dX9_load_2 : decode cX9_load 2 = .ok (.invokevirtual 161, 3) := by decide +kernel
theorem dX9_load_5 : decode cX9_load 5 = .ok (.ifCond .ne 5, 3) := by decide +kernel
theorem dX9_load_8 : decode cX9_load 8 = .ok (.iconst (-1), 1) := by decide +kernel
theorem dX9_load_9 : decode cX9_load 9 = .ok (.ireturn, 1) := by decide +kernel
theorem dX9_load_10 : decode cX9_load 10 = .ok (.aload_n 0, 1) := by decide +kernel
theorem dX9_load_11 : decode cX9_load 11 = .ok (.aload_n 0, 1) := by decide +kernel
theorem dX9_load_12 : decode cX9_load 12 = .ok (.iload_n 1, 1) := by decide +kernel
theorem dX9_load_13 : decode cX9_load 13 = .ok (.invokevirtual 175, 3) := by decide +kernel
theorem dX9_load_16 : decode cX9_load 16 = .ok (.invokevirtual 231, 3) := by decide +kernel
theorem dX9_load_19 : decode cX9_load 19 = .ok (.bipush (-4), 2) := by decide +kernel
theorem dX9_load_21 : decode cX9_load 21 = .ok (.if_icmp .ne 6, 3) := by decide +kernel
theorem dX9_load_24 : decode cX9_load 24 = .ok (.bipush (-4), 2) := by decide +kernel
theorem dX9_load_26 : decode cX9_load 26 = .ok (.ireturn, 1) := by decide +kernel
theorem dX9_load_27 : decode cX9_load 27 = .ok (.iconst 0, 1) := by decide +kernel
theorem dX9_load_28 : decode cX9_load 28 = .ok (.istore_n 2, 1) := by decide +kernel
theorem dX9_load_29 : decode cX9_load 29 = .ok (.aload_n 0, 1) := by decide +kernel
theorem dX9_load_30 : decode cX9_load 30 = .ok (.getfield 43, 3) := by decide +kernel
theorem dX9_load_33 : decode cX9_load 33 = .ok (.iload_n 2, 1) := by decide +kernel
theorem dX9_load_34 : decode cX9_load 34 = .ok (.iaload, 1) := by decide +kernel
theorem dX9_load_35 : decode cX9_load 35 = .ok (.iload_n 1, 1) := by decide +kernel
theorem dX9_load_36 : decode cX9_load 36 = .ok (.if_icmp .eq 9, 3) := by decide +kernel
theorem dX9_load_39 : decode cX9_load 39 = .ok (.iinc 2 1, 3) := by decide +kernel
theorem dX9_load_42 : decode cX9_load 42 = .ok (.goto (-13), 3) := by decide +kernel
theorem dX9_load_45 : decode cX9_load 45 = .ok (.aload_n 0, 1) := by decide +kernel
theorem dX9_load_46 : decode cX9_load 46 = .ok (.getfield 46, 3) := by decide +kernel
theorem dX9_load_49 : decode cX9_load 49 = .ok (.iload_n 2, 1) := by decide +kernel
theorem dX9_load_50 : decode cX9_load 50 = .ok (.iaload, 1) := by decide +kernel
theorem dX9_load_51 : decode cX9_load 51 = .ok (.ireturn, 1) := by decide +kernel
theorem dX9_isSheet_0 : decode cX9_isSheet 0 = .ok (.iload_n 0, 1) := by decide +kernel
theorem dX9_isSheet_1 : decode cX9_isSheet 1 = .ok (.i2l, 1) := by decide +kernel
theorem dX9_isSheet_2 : decode cX9_isSheet 2 = .ok (.lconst 0, 1) := by decide +kernel
theorem dX9_isSheet_3 : decode cX9_isSheet 3 = .ok (.ldc2_w 180, 3) := by decide +kernel
theorem dX9_isSheet_6 : decode cX9_isSheet 6 = .ok (.invokestatic 67, 3) := by decide +kernel
theorem dX9_isSheet_9 : decode cX9_isSheet 9 = .ok (.ifCond .eq 19, 3) := by decide +kernel
theorem dX9_isSheet_12 : decode cX9_isSheet 12 = .ok (.iload_n 1, 1) := by decide +kernel
theorem dX9_isSheet_13 : decode cX9_isSheet 13 = .ok (.i2l, 1) := by decide +kernel
theorem dX9_isSheet_14 : decode cX9_isSheet 14 = .ok (.lconst 0, 1) := by decide +kernel
theorem dX9_isSheet_15 : decode cX9_isSheet 15 = .ok (.ldc2_w 234, 3) := by decide +kernel
theorem dX9_isSheet_18 : decode cX9_isSheet 18 = .ok (.invokestatic 67, 3) := by decide +kernel
theorem dX9_isSheet_21 : decode cX9_isSheet 21 = .ok (.ifCond .eq 7, 3) := by decide +kernel
theorem dX9_isSheet_24 : decode cX9_isSheet 24 = .ok (.iconst 1, 1) := by decide +kernel
theorem dX9_isSheet_25 : decode cX9_isSheet 25 = .ok (.goto 4, 3) := by decide +kernel
theorem dX9_isSheet_28 : decode cX9_isSheet 28 = .ok (.iconst 0, 1) := by decide +kernel
theorem dX9_isSheet_29 : decode cX9_isSheet 29 = .ok (.ireturn, 1) := by decide +kernel
theorem dX9_sheet_0 : decode cX9_sheet 0 = .ok (.iload_n 1, 1) := by decide +kernel
theorem dX9_sheet_1 : decode cX9_sheet 1 = .ok (.iload_n 2, 1) := by decide +kernel
theorem dX9_sheet_2 : decode cX9_sheet 2 = .ok (.invokestatic 236, 3) := by decide +kernel
theorem dX9_sheet_5 : decode cX9_sheet 5 = .ok (.ifCond .eq 9, 3) := by decide +kernel
theorem dX9_sheet_8 : decode cX9_sheet 8 = .ok (.iload_n 3, 1) := by decide +kernel
theorem dX9_sheet_9 : decode cX9_sheet 9 = .ok (.bipush 60, 2) := by decide +kernel
theorem dX9_sheet_11 : decode cX9_sheet 11 = .ok (.if_icmp .le 5, 3) := by decide +kernel
theorem dX9_sheet_14 : decode cX9_sheet 14 = .ok (.iconst (-1), 1) := by decide +kernel
theorem dX9_sheet_15 : decode cX9_sheet 15 = .ok (.ireturn, 1) := by decide +kernel
theorem dX9_sheet_16 : decode cX9_sheet 16 = .ok (.iload_n 3, 1) := by decide +kernel
theorem dX9_sheet_17 : decode cX9_sheet 17 = .ok (.ifCond .ge 6, 3) := by decide +kernel
theorem dX9_sheet_20 : decode cX9_sheet 20 = .ok (.bipush (-14), 2) := by decide +kernel
theorem dX9_sheet_22 : decode cX9_sheet 22 = .ok (.ireturn, 1) := by decide +kernel
theorem dX9_sheet_23 : decode cX9_sheet 23 = .ok (.aload_n 0, 1) := by decide +kernel
theorem dX9_sheet_24 : decode cX9_sheet 24 = .ok (.getfield 52, 3) := by decide +kernel
theorem dX9_sheet_27 : decode cX9_sheet 27 = .ok (.iload_n 1, 1) := by decide +kernel
theorem dX9_sheet_28 : decode cX9_sheet 28 = .ok (.iload_n 2, 1) := by decide +kernel
theorem dX9_sheet_29 : decode cX9_sheet 29 = .ok (.iastore, 1) := by decide +kernel
theorem dX9_sheet_30 : decode cX9_sheet 30 = .ok (.aload_n 0, 1) := by decide +kernel
theorem dX9_sheet_31 : decode cX9_sheet 31 = .ok (.getfield 55, 3) := by decide +kernel
theorem dX9_sheet_34 : decode cX9_sheet 34 = .ok (.iload_n 1, 1) := by decide +kernel
theorem dX9_sheet_35 : decode cX9_sheet 35 = .ok (.iload_n 3, 1) := by decide +kernel
theorem dX9_sheet_36 : decode cX9_sheet 36 = .ok (.iastore, 1) := by decide +kernel
theorem dX9_sheet_37 : decode cX9_sheet 37 = .ok (.iconst 0, 1) := by decide +kernel
theorem dX9_sheet_38 : decode cX9_sheet 38 = .ok (.istore 4, 2) := by decide +kernel
theorem dX9_sheet_40 : decode cX9_sheet 40 = .ok (.iload 4, 2) := by decide +kernel
theorem dX9_sheet_42 : decode cX9_sheet 42 = .ok (.bipush 60, 2) := by decide +kernel
theorem dX9_sheet_44 : decode cX9_sheet 44 = .ok (.if_icmp .ge 22, 3) := by decide +kernel
theorem dX9_sheet_47 : decode cX9_sheet 47 = .ok (.aload_n 0, 1) := by decide +kernel
theorem dX9_sheet_48 : decode cX9_sheet 48 = .ok (.getfield 58, 3) := by decide +kernel
theorem dX9_sheet_51 : decode cX9_sheet 51 = .ok (.bipush 60, 2) := by decide +kernel
theorem dX9_sheet_53 : decode cX9_sheet 53 = .ok (.iload_n 1, 1) := by decide +kernel
theorem dX9_sheet_54 : decode cX9_sheet 54 = .ok (.imul, 1) := by decide +kernel
theorem dX9_sheet_55 : decode cX9_sheet 55 = .ok (.iload 4, 2) := by decide +kernel
theorem dX9_sheet_57 : decode cX9_sheet 57 = .ok (.iadd, 1) := by decide +kernel
theorem dX9_sheet_58 : decode cX9_sheet 58 = .ok (.iconst 0, 1) := by decide +kernel
theorem dX9_sheet_59 : decode cX9_sheet 59 = .ok (.iastore, 1) := by decide +kernel
theorem dX9_sheet_60 : decode cX9_sheet 60 = .ok (.iinc 4 1, 3) := by decide +kernel
theorem dX9_sheet_63 : decode cX9_sheet 63 = .ok (.goto (-23), 3) := by decide +kernel
theorem dX9_sheet_66 : decode cX9_sheet 66 = .ok (.iconst 1, 1) := by decide +kernel
theorem dX9_sheet_67 : decode cX9_sheet 67 = .ok (.ireturn, 1) := by decide +kernel
theorem dX9_lay_0 : decode cX9_lay 0 = .ok (.iload_n 1, 1) := by decide +kernel
theorem dX9_lay_1 : decode cX9_lay 1 = .ok (.iconst 0, 1) := by decide +kernel
theorem dX9_lay_2 : decode cX9_lay 2 = .ok (.invokestatic 236, 3) := by decide +kernel
theorem dX9_lay_5 : decode cX9_lay 5 = .ok (.ifCond .ne 5, 3) := by decide +kernel
theorem dX9_lay_8 : decode cX9_lay 8 = .ok (.iconst (-1), 1) := by decide +kernel
theorem dX9_lay_9 : decode cX9_lay 9 = .ok (.ireturn, 1) := by decide +kernel
theorem dX9_lay_10 : decode cX9_lay 10 = .ok (.aload_n 0, 1) := by decide +kernel
theorem dX9_lay_11 : decode cX9_lay 11 = .ok (.getfield 52, 3) := by decide +kernel
theorem dX9_lay_14 : decode cX9_lay 14 = .ok (.iload_n 1, 1) := by decide +kernel
theorem dX9_lay_15 : decode cX9_lay 15 = .ok (.iaload, 1) := by decide +kernel
theorem dX9_lay_16 : decode cX9_lay 16 = .ok (.bipush (-4), 2) := by decide +kernel
theorem dX9_lay_18 : decode cX9_lay 18 = .ok (.if_icmp .ne 6, 3) := by decide +kernel
theorem dX9_lay_21 : decode cX9_lay 21 = .ok (.bipush (-11), 2) := by decide +kernel
theorem dX9_lay_23 : decode cX9_lay 23 = .ok (.ireturn, 1) := by decide +kernel
theorem dX9_lay_24 : decode cX9_lay 24 = .ok (.iload_n 2, 1) := by decide +kernel
theorem dX9_lay_25 : decode cX9_lay 25 = .ok (.i2l, 1) := by decide +kernel
theorem dX9_lay_26 : decode cX9_lay 26 = .ok (.lconst 0, 1) := by decide +kernel
theorem dX9_lay_27 : decode cX9_lay 27 = .ok (.aload_n 0, 1) := by decide +kernel
theorem dX9_lay_28 : decode cX9_lay 28 = .ok (.getfield 55, 3) := by decide +kernel
theorem dX9_lay_31 : decode cX9_lay 31 = .ok (.iload_n 1, 1) := by decide +kernel
theorem dX9_lay_32 : decode cX9_lay 32 = .ok (.iaload, 1) := by decide +kernel
theorem dX9_lay_33 : decode cX9_lay 33 = .ok (.iconst 1, 1) := by decide +kernel
theorem dX9_lay_34 : decode cX9_lay 34 = .ok (.isub, 1) := by decide +kernel
theorem dX9_lay_35 : decode cX9_lay 35 = .ok (.i2l, 1) := by decide +kernel
theorem dX9_lay_36 : decode cX9_lay 36 = .ok (.invokestatic 67, 3) := by decide +kernel
theorem dX9_lay_39 : decode cX9_lay 39 = .ok (.ifCond .ne 6, 3) := by decide +kernel
theorem dX9_lay_42 : decode cX9_lay 42 = .ok (.bipush (-12), 2) := by decide +kernel
theorem dX9_lay_44 : decode cX9_lay 44 = .ok (.ireturn, 1) := by decide +kernel
theorem dX9_lay_45 : decode cX9_lay 45 = .ok (.aload_n 0, 1) := by decide +kernel
theorem dX9_lay_46 : decode cX9_lay 46 = .ok (.getfield 58, 3) := by decide +kernel
theorem dX9_lay_49 : decode cX9_lay 49 = .ok (.bipush 60, 2) := by decide +kernel
theorem dX9_lay_51 : decode cX9_lay 51 = .ok (.iload_n 1, 1) := by decide +kernel
theorem dX9_lay_52 : decode cX9_lay 52 = .ok (.imul, 1) := by decide +kernel
theorem dX9_lay_53 : decode cX9_lay 53 = .ok (.iload_n 2, 1) := by decide +kernel
theorem dX9_lay_54 : decode cX9_lay 54 = .ok (.iadd, 1) := by decide +kernel
theorem dX9_lay_55 : decode cX9_lay 55 = .ok (.aload_n 0, 1) := by decide +kernel
theorem dX9_lay_56 : decode cX9_lay 56 = .ok (.getfield 52, 3) := by decide +kernel
theorem dX9_lay_59 : decode cX9_lay 59 = .ok (.iload_n 1, 1) := by decide +kernel
theorem dX9_lay_60 : decode cX9_lay 60 = .ok (.iaload, 1) := by decide +kernel
theorem dX9_lay_61 : decode cX9_lay 61 = .ok (.ifCond .ne 8, 3) := by decide +kernel
theorem dX9_lay_64 : decode cX9_lay 64 = .ok (.iload_n 3, 1) := by decide +kernel
theorem dX9_lay_65 : decode cX9_lay 65 = .ok (.i2b, 1) := by decide +kernel
theorem dX9_lay_66 : decode cX9_lay 66 = .ok (.goto 19, 3) := by decide +kernel
theorem dX9_lay_69 : decode cX9_lay 69 = .ok (.aload_n 0, 1) := by decide +kernel
theorem dX9_lay_70 : decode cX9_lay 70 = .ok (.getfield 52, 3) := by decide +kernel
theorem dX9_lay_73 : decode cX9_lay 73 = .ok (.iload_n 1, 1) := by decide +kernel
theorem dX9_lay_74 : decode cX9_lay 74 = .ok (.iaload, 1) := by decide +kernel
theorem dX9_lay_75 : decode cX9_lay 75 = .ok (.iconst 1, 1) := by decide +kernel
theorem dX9_lay_76 : decode cX9_lay 76 = .ok (.if_icmp .ne 8, 3) := by decide +kernel
