theorem dX8_loads_1 : decode cX8_loads 1 = .ok (.iconst 0, 1) := by decide +kernel
theorem dX8_loads_2 : decode cX8_loads 2 = .ok (.iconst 4, 1) := by decide +kernel
theorem dX8_loads_3 : decode cX8_loads 3 = .ok (.invokestatic 83, 3) := by decide +kernel
theorem dX8_loads_6 : decode cX8_loads 6 = .ok (.ifCond .eq 14, 3) := by decide +kernel
theorem dX8_loads_9 : decode cX8_loads 9 = .ok (.aload_n 0, 1) := by decide +kernel
theorem dX8_loads_10 : decode cX8_loads 10 = .ok (.getfield 57, 3) := by decide +kernel
theorem dX8_loads_13 : decode cX8_loads 13 = .ok (.iload_n 1, 1) := by decide +kernel
theorem dX8_loads_14 : decode cX8_loads 14 = .ok (.invokevirtual 196, 3) := by decide +kernel
theorem dX8_loads_17 : decode cX8_loads 17 = .ok (.goto 4, 3) := by decide +kernel
theorem dX8_loads_20 : decode cX8_loads 20 = .ok (.iconst (-1), 1) := by decide +kernel
theorem dX8_loads_21 : decode cX8_loads 21 = .ok (.ireturn, 1) := by decide +kernel
theorem dX8_load_0 : decode cX8_load 0 = .ok (.aload_n 0, 1) := by decide +kernel
theorem dX8_load_1 : decode cX8_load 1 = .ok (.getfield 30, 3) := by decide +kernel
theorem dX8_load_4 : decode cX8_load 4 = .ok (.iload_n 1, 1) := by decide +kernel
theorem dX8_load_5 : decode cX8_load 5 = .ok (.invokevirtual 105, 3) := by decide +kernel
theorem dX8_load_8 : decode cX8_load 8 = .ok (.ifCond .ne 5, 3) := by decide +kernel
theorem dX8_load_11 : decode cX8_load 11 = .ok (.iconst (-1), 1) := by decide +kernel
theorem dX8_load_12 : decode cX8_load 12 = .ok (.ireturn, 1) := by decide +kernel
theorem dX8_load_13 : decode cX8_load 13 = .ok (.aload_n 0, 1) := by decide +kernel
theorem dX8_load_14 : decode cX8_load 14 = .ok (.getfield 57, 3) := by decide +kernel
theorem dX8_load_17 : decode cX8_load 17 = .ok (.aload_n 0, 1) := by decide +kernel
theorem dX8_load_18 : decode cX8_load 18 = .ok (.getfield 30, 3) := by decide +kernel
theorem dX8_load_21 : decode cX8_load 21 = .ok (.iload_n 1, 1) := by decide +kernel
theorem dX8_load_22 : decode cX8_load 22 = .ok (.invokevirtual 127, 3) := by decide +kernel
theorem dX8_load_25 : decode cX8_load 25 = .ok (.invokevirtual 196, 3) := by decide +kernel
theorem dX8_load_28 : decode cX8_load 28 = .ok (.bipush (-4), 2) := by decide +kernel
theorem dX8_load_30 : decode cX8_load 30 = .ok (.if_icmp .ne 8, 3) := by decide +kernel
theorem dX8_load_33 : decode cX8_load 33 = .ok (.bipush (-4), 2) := by decide +kernel
theorem dX8_load_35 : decode cX8_load 35 = .ok (.goto 11, 3) := by decide +kernel
theorem dX8_load_38 : decode cX8_load 38 = .ok (.aload_n 0, 1) := by decide +kernel
theorem dX8_load_39 : decode cX8_load 39 = .ok (.getfield 57, 3) := by decide +kernel
theorem dX8_load_42 : decode cX8_load 42 = .ok (.iload_n 1, 1) := by decide +kernel
theorem dX8_load_43 : decode cX8_load 43 = .ok (.invokevirtual 199, 3) := by decide +kernel
theorem dX8_load_46 : decode cX8_load 46 = .ok (.ireturn, 1) := by decide +kernel
theorem dX8_sheet_0 : decode cX8_sheet 0 = .ok (.iload_n 1, 1) := by decide +kernel
theorem dX8_sheet_1 : decode cX8_sheet 1 = .ok (.iconst 0, 1) := by decide +kernel
theorem dX8_sheet_2 : decode cX8_sheet 2 = .ok (.iconst 3, 1) := by decide +kernel
theorem dX8_sheet_3 : decode cX8_sheet 3 = .ok (.invokestatic 83, 3) := by decide +kernel
theorem dX8_sheet_6 : decode cX8_sheet 6 = .ok (.ifCond .eq 16, 3) := by decide +kernel
theorem dX8_sheet_9 : decode cX8_sheet 9 = .ok (.iload_n 2, 1) := by decide +kernel
theorem dX8_sheet_10 : decode cX8_sheet 10 = .ok (.invokestatic 202, 3) := by decide +kernel
theorem dX8_sheet_13 : decode cX8_sheet 13 = .ok (.ifCond .eq 9, 3) := by decide +kernel
theorem dX8_sheet_16 : decode cX8_sheet 16 = .ok (.iload_n 3, 1) := by decide +kernel
theorem dX8_sheet_17 : decode cX8_sheet 17 = .ok (.bipush 60, 2) := by decide +kernel
theorem dX8_sheet_19 : decode cX8_sheet 19 = .ok (.if_icmp .le 5, 3) := by decide +kernel
theorem dX8_sheet_22 : decode cX8_sheet 22 = .ok (.iconst (-1), 1) := by decide +kernel
theorem dX8_sheet_23 : decode cX8_sheet 23 = .ok (.ireturn, 1) := by decide +kernel
theorem dX8_sheet_24 : decode cX8_sheet 24 = .ok (.iload_n 3, 1) := by decide +kernel
theorem dX8_sheet_25 : decode cX8_sheet 25 = .ok (.ifCond .ge 6, 3) := by decide +kernel
theorem dX8_sheet_28 : decode cX8_sheet 28 = .ok (.bipush (-14), 2) := by decide +kernel
theorem dX8_sheet_30 : decode cX8_sheet 30 = .ok (.ireturn, 1) := by decide +kernel
theorem dX8_sheet_31 : decode cX8_sheet 31 = .ok (.aload_n 0, 1) := by decide +kernel
theorem dX8_sheet_32 : decode cX8_sheet 32 = .ok (.getfield 63, 3) := by decide +kernel
theorem dX8_sheet_35 : decode cX8_sheet 35 = .ok (.iload_n 1, 1) := by decide +kernel
theorem dX8_sheet_36 : decode cX8_sheet 36 = .ok (.aaload, 1) := by decide +kernel
theorem dX8_sheet_37 : decode cX8_sheet 37 = .ok (.iload_n 2, 1) := by decide +kernel
theorem dX8_sheet_38 : decode cX8_sheet 38 = .ok (.iload_n 3, 1) := by decide +kernel
theorem dX8_sheet_39 : decode cX8_sheet 39 = .ok (.invokevirtual 205, 3) := by decide +kernel
theorem dX8_sheet_42 : decode cX8_sheet 42 = .ok (.iconst 1, 1) := by decide +kernel
theorem dX8_sheet_43 : decode cX8_sheet 43 = .ok (.ireturn, 1) := by decide +kernel
theorem dX8_lay_0 : decode cX8_lay 0 = .ok (.iload_n 1, 1) := by decide +kernel
theorem dX8_lay_1 : decode cX8_lay 1 = .ok (.iconst 0, 1) := by decide +kernel
theorem dX8_lay_2 : decode cX8_lay 2 = .ok (.iconst 3, 1) := by decide +kernel
theorem dX8_lay_3 : decode cX8_lay 3 = .ok (.invokestatic 83, 3) := by decide +kernel
theorem dX8_lay_6 : decode cX8_lay 6 = .ok (.ifCond .ne 5, 3) := by decide +kernel
theorem dX8_lay_9 : decode cX8_lay 9 = .ok (.iconst (-1), 1) := by decide +kernel
theorem dX8_lay_10 : decode cX8_lay 10 = .ok (.ireturn, 1) := by decide +kernel
theorem dX8_lay_11 : decode cX8_lay 11 = .ok (.aload_n 0, 1) := by decide +kernel
theorem dX8_lay_12 : decode cX8_lay 12 = .ok (.getfield 63, 3) := by decide +kernel
theorem dX8_lay_15 : decode cX8_lay 15 = .ok (.iload_n 1, 1) := by decide +kernel
theorem dX8_lay_16 : decode cX8_lay 16 = .ok (.aaload, 1) := by decide +kernel
theorem dX8_lay_17 : decode cX8_lay 17 = .ok (.astore 4, 2) := by decide +kernel
theorem dX8_lay_19 : decode cX8_lay 19 = .ok (.aload 4, 2) := by decide +kernel
theorem dX8_lay_21 : decode cX8_lay 21 = .ok (.getfield 209, 3) := by decide +kernel
theorem dX8_lay_24 : decode cX8_lay 24 = .ok (.iconst (-1), 1) := by decide +kernel
theorem dX8_lay_25 : decode cX8_lay 25 = .ok (.if_icmp .ne 6, 3) := by decide +kernel
theorem dX8_lay_28 : decode cX8_lay 28 = .ok (.bipush (-11), 2) := by decide +kernel
theorem dX8_lay_30 : decode cX8_lay 30 = .ok (.ireturn, 1) := by decide +kernel
theorem dX8_lay_31 : decode cX8_lay 31 = .ok (.aload 4, 2) := by decide +kernel
theorem dX8_lay_33 : decode cX8_lay 33 = .ok (.iload_n 2, 1) := by decide +kernel
theorem dX8_lay_34 : decode cX8_lay 34 = .ok (.invokevirtual 212, 3) := by decide +kernel
theorem dX8_lay_37 : decode cX8_lay 37 = .ok (.ifCond .ne 6, 3) := by decide +kernel
theorem dX8_lay_40 : decode cX8_lay 40 = .ok (.bipush (-12), 2) := by decide +kernel
theorem dX8_lay_42 : decode cX8_lay 42 = .ok (.ireturn, 1) := by decide +kernel
theorem dX8_lay_43 : decode cX8_lay 43 = .ok (.aload 4, 2) := by decide +kernel
theorem dX8_lay_45 : decode cX8_lay 45 = .ok (.iload_n 2, 1) := by decide +kernel
theorem dX8_lay_46 : decode cX8_lay 46 = .ok (.iload_n 3, 1) := by decide +kernel
theorem dX8_lay_47 : decode cX8_lay 47 = .ok (.invokevirtual 215, 3) := by decide +kernel
theorem dX8_lay_50 : decode cX8_lay 50 = .ok (.iconst 1, 1) := by decide +kernel
theorem dX8_lay_51 : decode cX8_lay 51 = .ok (.ireturn, 1) := by decide +kernel
theorem dX8_worths_0 : decode cX8_worths 0 = .ok (.aload_n 0, 1) := by decide +kernel
theorem dX8_worths_1 : decode cX8_worths 1 = .ok (.getfield 30, 3) := by decide +kernel
theorem dX8_worths_4 : decode cX8_worths 4 = .ok (.iload_n 1, 1) := by decide +kernel
theorem dX8_worths_5 : decode cX8_worths 5 = .ok (.invokevirtual 101, 3) := by decide +kernel
theorem dX8_worths_8 : decode cX8_worths 8 = .ok (.ifCond .eq 19, 3) := by decide +kernel
theorem dX8_worths_11 : decode cX8_worths 11 = .ok (.iload_n 2, 1) := by decide +kernel
theorem dX8_worths_12 : decode cX8_worths 12 = .ok (.iconst 0, 1) := by decide +kernel
theorem dX8_worths_13 : decode cX8_worths 13 = .ok (.iconst 3, 1) := by decide +kernel
theorem dX8_worths_14 : decode cX8_worths 14 = .ok (.invokestatic 83, 3) := by decide +kernel
theorem dX8_worths_17 : decode cX8_worths 17 = .ok (.ifCond .eq 10, 3) := by decide +kernel
theorem dX8_worths_20 : decode cX8_worths 20 = .ok (.iload_n 3, 1) := by decide +kernel
theorem dX8_worths_21 : decode cX8_worths 21 = .ok (.invokestatic 202, 3) := by decide +kernel
theorem dX8_worths_24 : decode cX8_worths 24 = .ok (.ifCond .ne 5, 3) := by decide +kernel
theorem dX8_worths_27 : decode cX8_worths 27 = .ok (.iconst (-1), 1) := by decide +kernel
theorem dX8_worths_28 : decode cX8_worths 28 = .ok (.ireturn, 1) := by decide +kernel
theorem dX8_worths_29 : decode cX8_worths 29 = .ok (.aload_n 0, 1) := by decide +kernel
theorem dX8_worths_30 : decode cX8_worths 30 = .ok (.getfield 63, 3) := by decide +kernel
theorem dX8_worths_33 : decode cX8_worths 33 = .ok (.iload_n 2, 1) := by decide +kernel
theorem dX8_worths_34 : decode cX8_worths 34 = .ok (.aaload, 1) := by decide +kernel
theorem dX8_worths_35 : decode cX8_worths 35 = .ok (.iload_n 3, 1) := by decide +kernel
theorem dX8_worths_36 : decode cX8_worths 36 = .ok (.iload 4, 2) := by decide +kernel
theorem dX8_worths_38 : decode cX8_worths 38 = .ok (.aload_n 0, 1) := by decide +kernel
theorem dX8_worths_39 : decode cX8_worths 39 = .ok (.getfield 30, 3) := by decide +kernel
theorem dX8_worths_42 : decode cX8_worths 42 = .ok (.getfield 94, 3) := by decide +kernel
theorem dX8_worths_45 : decode cX8_worths 45 = .ok (.invokevirtual 218, 3) := by decide +kernel
theorem dX8_worths_48 : decode cX8_worths 48 = .ok (.istore 5, 2) := by decide +kernel
theorem dX8_worths_50 : decode cX8_worths 50 = .ok (.iload 5, 2) := by decide +kernel
theorem dX8_worths_52 : decode cX8_worths 52 = .ok (.ifCond .eq 8, 3) := by decide +kernel
theorem dX8_worths_55 : decode cX8_worths 55 = .ok (.iload 5, 2) := by decide +kernel
theorem dX8_worths_57 : decode cX8_worths 57 = .ok (.goto 19, 3) := by decide +kernel
theorem dX8_worths_60 : decode cX8_worths 60 = .ok (.aload_n 0, 1) := by decide +kernel
theorem dX8_worths_61 : decode cX8_worths 61 = .ok (.getfield 30, 3) := by decide +kernel
theorem dX8_worths_64 : decode cX8_worths 64 = .ok (.iload_n 1, 1) := by decide +kernel
theorem dX8_worths_65 : decode cX8_worths 65 = .ok (.aload_n 0, 1) := by decide +kernel
theorem dX8_worths_66 : decode cX8_worths 66 = .ok (.getfield 63, 3) := by decide +kernel
theorem dX8_worths_69 : decode cX8_worths 69 = .ok (.iload_n 2, 1) := by decide +kernel
theorem dX8_worths_70 : decode cX8_worths 70 = .ok (.aaload, 1) := by decide +kernel
theorem dX8_worths_71 : decode cX8_worths 71 = .ok (.iload 4, 2) := by decide +kernel
theorem dX8_worths_73 : decode cX8_worths 73 = .ok (.invokevirtual 222, 3) := by decide +kernel
theorem dX8_worths_76 : decode cX8_worths 76 = .ok (.ireturn, 1) := by decide +kernel
theorem dX8_count_0 : decode cX8_count 0 = .ok (.iload_n 1, 1) := by decide +kernel
theorem dX8_count_1 : decode cX8_count 1 = .ok (.tableswitch 64 0 3 #[31, 39, 47, 55], 31) := by decide +kernel
theorem dX8_count_32 : decode cX8_count 32 = .ok (.aload_n 0, 1) := by decide +kernel
theorem dX8_count_33 : decode cX8_count 33 = .ok (.getfield 30, 3) := by decide +kernel
theorem dX8_count_36 : decode cX8_count 36 = .ok (.getfield 91, 3) := by decide +kernel
theorem dX8_count_39 : decode cX8_count 39 = .ok (.ireturn, 1) := by decide +kernel
theorem dX8_count_40 : decode cX8_count 40 = .ok (.aload_n 0, 1) := by decide +kernel
theorem dX8_count_41 : decode cX8_count 41 = .ok (.getfield 30, 3) := by decide +kernel
theorem dX8_count_44 : decode cX8_count 44 = .ok (.getfield 94, 3) := by decide +kernel
theorem dX8_count_47 : decode cX8_count 47 = .ok (.ireturn, 1) := by decide +kernel
theorem dX8_count_48 : decode cX8_count 48 = .ok (.aload_n 0, 1) := by decide +kernel
theorem dX8_count_49 : decode cX8_count 49 = .ok (.getfield 21, 3) := by decide +kernel
theorem dX8_count_52 : decode cX8_count 52 = .ok (.getfield 226, 3) := by decide +kernel
theorem dX8_count_55 : decode cX8_count 55 = .ok (.ireturn, 1) := by decide +kernel
theorem dX8_count_56 : decode cX8_count 56 = .ok (.aload_n 0, 1) := by decide +kernel
theorem dX8_count_57 : decode cX8_count 57 = .ok (.getfield 30, 3) := by decide +kernel
theorem dX8_count_60 : decode cX8_count 60 = .ok (.iconst 0, 1) := by decide +kernel
theorem dX8_count_61 : decode cX8_count 61 = .ok (.invokevirtual 131, 3) := by decide +kernel
theorem dX8_count_64 : decode cX8_count 64 = .ok (.ireturn, 1) := by decide +kernel
theorem dX8_count_65 : decode cX8_count 65 = .ok (.iconst (-1), 1) := by decide +kernel
theorem dX8_count_66 : decode cX8_count 66 = .ok (.ireturn, 1) := by decide +kernel
theorem dX8_isWithin_0 : decode cX8_isWithin 0 = .ok (.iload_n 0, 1) := by decide +kernel
theorem dX8_isWithin_1 : decode cX8_isWithin 1 = .ok (.iload_n 1, 1) := by decide +kernel
theorem dX8_isWithin_2 : decode cX8_isWithin 2 = .ok (.if_icmp .lt 12, 3) := by decide +kernel
theorem dX8_isWithin_5 : decode cX8_isWithin 5 = .ok (.iload_n 0, 1) := by decide +kernel
theorem dX8_isWithin_6 : decode cX8_isWithin 6 = .ok (.iload_n 2, 1) := by decide +kernel
theorem dX8_isWithin_7 : decode cX8_isWithin 7 = .ok (.if_icmp .gt 7, 3) := by decide +kernel
theorem dX8_isWithin_10 : decode cX8_isWithin 10 = .ok (.iconst 1, 1) := by decide +kernel
theorem dX8_isWithin_11 : decode cX8_isWithin 11 = .ok (.goto 4, 3) := by decide +kernel
theorem dX8_isWithin_14 : decode cX8_isWithin 14 = .ok (.iconst 0, 1) := by decide +kernel
theorem dX8_isWithin_15 : decode cX8_isWithin 15 = .ok (.ireturn, 1) := by decide +kernel
theorem dX8_isRule_0 : decode cX8_isRule 0 = .ok (.iload_n 0, 1) := by decide +kernel
theorem dX8_isRule_1 : decode cX8_isRule 1 = .ok (.ifCond .eq 8, 3) := by decide +kernel
theorem dX8_isRule_4 : decode cX8_isRule 4 = .ok (.iload_n 0, 1) := by decide +kernel
theorem dX8_isRule_5 : decode cX8_isRule 5 = .ok (.iconst 1, 1) := by decide +kernel
theorem dX8_isRule_6 : decode cX8_isRule 6 = .ok (.if_icmp .ne 7, 3) := by decide +kernel
theorem dX8_isRule_9 : decode cX8_isRule 9 = .ok (.iconst 1, 1) := by decide +kernel
theorem dX8_isRule_10 : decode cX8_isRule 10 = .ok (.goto 4, 3) := by decide +kernel
theorem dX8_isRule_13 : decode cX8_isRule 13 = .ok (.iconst 0, 1) := by decide +kernel
theorem dX8_isRule_14 : decode cX8_isRule 14 = .ok (.ireturn, 1) := by decide +kernel
theorem dX8_isLane_0 : decode cX8_isLane 0 = .ok (.iload_n 0, 1) := by decide +kernel
theorem dX8_isLane_1 : decode cX8_isLane 1 = .ok (.iconst 0, 1) := by decide +kernel
theorem dX8_isLane_2 : decode cX8_isLane 2 = .ok (.iconst 2, 1) := by decide +kernel
theorem dX8_isLane_3 : decode cX8_isLane 3 = .ok (.invokestatic 83, 3) := by decide +kernel
theorem dX8_isLane_6 : decode cX8_isLane 6 = .ok (.ireturn, 1) := by decide +kernel
