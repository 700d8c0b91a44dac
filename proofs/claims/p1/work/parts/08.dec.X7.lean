theorem dX7_init_0 : decode cX7_init 0 = .ok (.aload_n 0, 1) := by decide +kernel
theorem dX7_init_1 : decode cX7_init 1 = .ok (.invokespecial 3, 3) := by decide +kernel
theorem dX7_init_4 : decode cX7_init 4 = .ok (.aload_n 0, 1) := by decide +kernel
theorem dX7_init_5 : decode cX7_init 5 = .ok (.bipush 40, 2) := by decide +kernel
theorem dX7_init_7 : decode cX7_init 7 = .ok (.newarray .int, 2) := by decide +kernel
theorem dX7_init_9 : decode cX7_init 9 = .ok (.putfield 9, 3) := by decide +kernel
theorem dX7_init_12 : decode cX7_init 12 = .ok (.aload_n 0, 1) := by decide +kernel
theorem dX7_init_13 : decode cX7_init 13 = .ok (.bipush 40, 2) := by decide +kernel
theorem dX7_init_15 : decode cX7_init 15 = .ok (.newarray .int, 2) := by decide +kernel
theorem dX7_init_17 : decode cX7_init 17 = .ok (.putfield 15, 3) := by decide +kernel
theorem dX7_init_20 : decode cX7_init 20 = .ok (.aload_n 0, 1) := by decide +kernel
theorem dX7_init_21 : decode cX7_init 21 = .ok (.bipush 40, 2) := by decide +kernel
theorem dX7_init_23 : decode cX7_init 23 = .ok (.newarray .int, 2) := by decide +kernel
theorem dX7_init_25 : decode cX7_init 25 = .ok (.putfield 18, 3) := by decide +kernel
theorem dX7_init_28 : decode cX7_init 28 = .ok (.aload_n 0, 1) := by decide +kernel
theorem dX7_init_29 : decode cX7_init 29 = .ok (.bipush 40, 2) := by decide +kernel
theorem dX7_init_31 : decode cX7_init 31 = .ok (.newarray .int, 2) := by decide +kernel
theorem dX7_init_33 : decode cX7_init 33 = .ok (.putfield 21, 3) := by decide +kernel
theorem dX7_init_36 : decode cX7_init 36 = .ok (.return_, 1) := by decide +kernel
theorem dX7_has_0 : decode cX7_has 0 = .ok (.iload_n 1, 1) := by decide +kernel
theorem dX7_has_1 : decode cX7_has 1 = .ok (.ifCond .lt 15, 3) := by decide +kernel
theorem dX7_has_4 : decode cX7_has 4 = .ok (.iload_n 1, 1) := by decide +kernel
theorem dX7_has_5 : decode cX7_has 5 = .ok (.aload_n 0, 1) := by decide +kernel
theorem dX7_has_6 : decode cX7_has 6 = .ok (.getfield 24, 3) := by decide +kernel
theorem dX7_has_9 : decode cX7_has 9 = .ok (.if_icmp .ge 7, 3) := by decide +kernel
theorem dX7_has_12 : decode cX7_has 12 = .ok (.iconst 1, 1) := by decide +kernel
theorem dX7_has_13 : decode cX7_has 13 = .ok (.goto 4, 3) := by decide +kernel
theorem dX7_has_16 : decode cX7_has 16 = .ok (.iconst 0, 1) := by decide +kernel
theorem dX7_has_17 : decode cX7_has 17 = .ok (.ireturn, 1) := by decide +kernel
theorem dX7_addLine_0 : decode cX7_addLine 0 = .ok (.aload_n 0, 1) := by decide +kernel
theorem dX7_addLine_1 : decode cX7_addLine 1 = .ok (.getfield 24, 3) := by decide +kernel
theorem dX7_addLine_4 : decode cX7_addLine 4 = .ok (.bipush 40, 2) := by decide +kernel
theorem dX7_addLine_6 : decode cX7_addLine 6 = .ok (.if_icmp .lt 6, 3) := by decide +kernel
theorem dX7_addLine_9 : decode cX7_addLine 9 = .ok (.ldc 28, 2) := by decide +kernel
theorem dX7_addLine_11 : decode cX7_addLine 11 = .ok (.ireturn, 1) := by decide +kernel
theorem dX7_addLine_12 : decode cX7_addLine 12 = .ok (.aload_n 0, 1) := by decide +kernel
theorem dX7_addLine_13 : decode cX7_addLine 13 = .ok (.getfield 9, 3) := by decide +kernel
theorem dX7_addLine_16 : decode cX7_addLine 16 = .ok (.aload_n 0, 1) := by decide +kernel
theorem dX7_addLine_17 : decode cX7_addLine 17 = .ok (.getfield 24, 3) := by decide +kernel
theorem dX7_addLine_20 : decode cX7_addLine 20 = .ok (.iload_n 1, 1) := by decide +kernel
theorem dX7_addLine_21 : decode cX7_addLine 21 = .ok (.iastore, 1) := by decide +kernel
theorem dX7_addLine_22 : decode cX7_addLine 22 = .ok (.aload_n 0, 1) := by decide +kernel
theorem dX7_addLine_23 : decode cX7_addLine 23 = .ok (.getfield 15, 3) := by decide +kernel
theorem dX7_addLine_26 : decode cX7_addLine 26 = .ok (.aload_n 0, 1) := by decide +kernel
theorem dX7_addLine_27 : decode cX7_addLine 27 = .ok (.getfield 24, 3) := by decide +kernel
theorem dX7_addLine_30 : decode cX7_addLine 30 = .ok (.iload_n 2, 1) := by decide +kernel
theorem dX7_addLine_31 : decode cX7_addLine 31 = .ok (.iastore, 1) := by decide +kernel
theorem dX7_addLine_32 : decode cX7_addLine 32 = .ok (.aload_n 0, 1) := by decide +kernel
theorem dX7_addLine_33 : decode cX7_addLine 33 = .ok (.getfield 18, 3) := by decide +kernel
theorem dX7_addLine_36 : decode cX7_addLine 36 = .ok (.aload_n 0, 1) := by decide +kernel
theorem dX7_addLine_37 : decode cX7_addLine 37 = .ok (.getfield 24, 3) := by decide +kernel
theorem dX7_addLine_40 : decode cX7_addLine 40 = .ok (.iload_n 3, 1) := by decide +kernel
theorem dX7_addLine_41 : decode cX7_addLine 41 = .ok (.iastore, 1) := by decide +kernel
theorem dX7_addLine_42 : decode cX7_addLine 42 = .ok (.aload_n 0, 1) := by decide +kernel
theorem dX7_addLine_43 : decode cX7_addLine 43 = .ok (.getfield 21, 3) := by decide +kernel
theorem dX7_addLine_46 : decode cX7_addLine 46 = .ok (.aload_n 0, 1) := by decide +kernel
theorem dX7_addLine_47 : decode cX7_addLine 47 = .ok (.getfield 24, 3) := by decide +kernel
theorem dX7_addLine_50 : decode cX7_addLine 50 = .ok (.iload 4, 2) := by decide +kernel
theorem dX7_addLine_52 : decode cX7_addLine 52 = .ok (.iastore, 1) := by decide +kernel
theorem dX7_addLine_53 : decode cX7_addLine 53 = .ok (.aload_n 0, 1) := by decide +kernel
theorem dX7_addLine_54 : decode cX7_addLine 54 = .ok (.dup, 1) := by decide +kernel
theorem dX7_addLine_55 : decode cX7_addLine 55 = .ok (.getfield 24, 3) := by decide +kernel
theorem dX7_addLine_58 : decode cX7_addLine 58 = .ok (.iconst 1, 1) := by decide +kernel
theorem dX7_addLine_59 : decode cX7_addLine 59 = .ok (.iadd, 1) := by decide +kernel
theorem dX7_addLine_60 : decode cX7_addLine 60 = .ok (.putfield 24, 3) := by decide +kernel
theorem dX7_addLine_63 : decode cX7_addLine 63 = .ok (.aload_n 0, 1) := by decide +kernel
theorem dX7_addLine_64 : decode cX7_addLine 64 = .ok (.getfield 24, 3) := by decide +kernel
theorem dX7_addLine_67 : decode cX7_addLine 67 = .ok (.iconst 1, 1) := by decide +kernel
theorem dX7_addLine_68 : decode cX7_addLine 68 = .ok (.isub, 1) := by decide +kernel
theorem dX7_addLine_69 : decode cX7_addLine 69 = .ok (.ireturn, 1) := by decide +kernel
