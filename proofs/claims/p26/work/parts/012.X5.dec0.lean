theorem dX5_init_0 : decode cX5_init 0 = .ok (.aload_n 0, 1) := by decide +kernel
theorem dX5_init_1 : decode cX5_init 1 = .ok (.invokespecial 3, 3) := by decide +kernel
theorem dX5_init_4 : decode cX5_init 4 = .ok (.aload_n 0, 1) := by decide +kernel
theorem dX5_init_5 : decode cX5_init 5 = .ok (.sipush 160, 3) := by decide +kernel
theorem dX5_init_8 : decode cX5_init 8 = .ok (.newarray .byte, 2) := by decide +kernel
theorem dX5_init_10 : decode cX5_init 10 = .ok (.putfield 9, 3) := by decide +kernel
theorem dX5_init_13 : decode cX5_init 13 = .ok (.return_, 1) := by decide +kernel
theorem dX5_append_0 : decode cX5_append 0 = .ok (.bipush 56, 2) := by decide +kernel
theorem dX5_append_2 : decode cX5_append 2 = .ok (.istore_n 3, 1) := by decide +kernel
theorem dX5_append_3 : decode cX5_append 3 = .ok (.iload_n 3, 1) := by decide +kernel
theorem dX5_append_4 : decode cX5_append 4 = .ok (.ifCond .lt 43, 3) := by decide +kernel
theorem dX5_append_7 : decode cX5_append 7 = .ok (.aload_n 0, 1) := by decide +kernel
theorem dX5_append_8 : decode cX5_append 8 = .ok (.getfield 15, 3) := by decide +kernel
theorem dX5_append_11 : decode cX5_append 11 = .ok (.sipush 160, 3) := by decide +kernel
theorem dX5_append_14 : decode cX5_append 14 = .ok (.if_icmp .ge 33, 3) := by decide +kernel
theorem dX5_append_17 : decode cX5_append 17 = .ok (.aload_n 0, 1) := by decide +kernel
theorem dX5_append_18 : decode cX5_append 18 = .ok (.getfield 9, 3) := by decide +kernel
theorem dX5_append_21 : decode cX5_append 21 = .ok (.aload_n 0, 1) := by decide +kernel
theorem dX5_append_22 : decode cX5_append 22 = .ok (.getfield 15, 3) := by decide +kernel
theorem dX5_append_25 : decode cX5_append 25 = .ok (.lload_n 1, 1) := by decide +kernel
theorem dX5_append_26 : decode cX5_append 26 = .ok (.iload_n 3, 1) := by decide +kernel
theorem dX5_append_27 : decode cX5_append 27 = .ok (.lushr, 1) := by decide +kernel
theorem dX5_append_28 : decode cX5_append 28 = .ok (.l2i, 1) := by decide +kernel
theorem dX5_append_29 : decode cX5_append 29 = .ok (.i2b, 1) := by decide +kernel
theorem dX5_append_30 : decode cX5_append 30 = .ok (.bastore, 1) := by decide +kernel
theorem dX5_append_31 : decode cX5_append 31 = .ok (.aload_n 0, 1) := by decide +kernel
theorem dX5_append_32 : decode cX5_append 32 = .ok (.dup, 1) := by decide +kernel
theorem dX5_append_33 : decode cX5_append 33 = .ok (.getfield 15, 3) := by decide +kernel
theorem dX5_append_36 : decode cX5_append 36 = .ok (.iconst 1, 1) := by decide +kernel
theorem dX5_append_37 : decode cX5_append 37 = .ok (.iadd, 1) := by decide +kernel
theorem dX5_append_38 : decode cX5_append 38 = .ok (.putfield 15, 3) := by decide +kernel
theorem dX5_append_41 : decode cX5_append 41 = .ok (.iinc 3 (-8), 3) := by decide +kernel
theorem dX5_append_44 : decode cX5_append 44 = .ok (.goto (-41), 3) := by decide +kernel
theorem dX5_append_47 : decode cX5_append 47 = .ok (.return_, 1) := by decide +kernel
theorem dX5_hasBetween_0 : decode cX5_hasBetween 0 = .ok (.iload_n 1, 1) := by decide +kernel
theorem dX5_hasBetween_1 : decode cX5_hasBetween 1 = .ok (.aload_n 0, 1) := by decide +kernel
theorem dX5_hasBetween_2 : decode cX5_hasBetween 2 = .ok (.getfield 15, 3) := by decide +kernel
theorem dX5_hasBetween_5 : decode cX5_hasBetween 5 = .ok (.if_icmp .ge 27, 3) := by decide +kernel
theorem dX5_hasBetween_8 : decode cX5_hasBetween 8 = .ok (.aload_n 0, 1) := by decide +kernel
theorem dX5_hasBetween_9 : decode cX5_hasBetween 9 = .ok (.getfield 9, 3) := by decide +kernel
theorem dX5_hasBetween_12 : decode cX5_hasBetween 12 = .ok (.iload_n 1, 1) := by decide +kernel
theorem dX5_hasBetween_13 : decode cX5_hasBetween 13 = .ok (.baload, 1) := by decide +kernel
theorem dX5_hasBetween_14 : decode cX5_hasBetween 14 = .ok (.iload_n 2, 1) := by decide +kernel
theorem dX5_hasBetween_15 : decode cX5_hasBetween 15 = .ok (.if_icmp .lt 17, 3) := by decide +kernel
theorem dX5_hasBetween_18 : decode cX5_hasBetween 18 = .ok (.aload_n 0, 1) := by decide +kernel
theorem dX5_hasBetween_19 : decode cX5_hasBetween 19 = .ok (.getfield 9, 3) := by decide +kernel
theorem dX5_hasBetween_22 : decode cX5_hasBetween 22 = .ok (.iload_n 1, 1) := by decide +kernel
theorem dX5_hasBetween_23 : decode cX5_hasBetween 23 = .ok (.baload, 1) := by decide +kernel
theorem dX5_hasBetween_24 : decode cX5_hasBetween 24 = .ok (.iload_n 3, 1) := by decide +kernel
theorem dX5_hasBetween_25 : decode cX5_hasBetween 25 = .ok (.if_icmp .gt 7, 3) := by decide +kernel
theorem dX5_hasBetween_28 : decode cX5_hasBetween 28 = .ok (.iconst 1, 1) := by decide +kernel
theorem dX5_hasBetween_29 : decode cX5_hasBetween 29 = .ok (.goto 4, 3) := by decide +kernel
theorem dX5_hasBetween_32 : decode cX5_hasBetween 32 = .ok (.iconst 0, 1) := by decide +kernel
theorem dX5_hasBetween_33 : decode cX5_hasBetween 33 = .ok (.ireturn, 1) := by decide +kernel
