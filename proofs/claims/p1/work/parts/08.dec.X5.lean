theorem dX5_init_0 : decode cX5_init 0 = .ok (.aload_n 0, 1) := by decide +kernel
theorem dX5_init_1 : decode cX5_init 1 = .ok (.invokespecial 3, 3) := by decide +kernel
theorem dX5_init_4 : decode cX5_init 4 = .ok (.aload_n 0, 1) := by decide +kernel
theorem dX5_init_5 : decode cX5_init 5 = .ok (.bipush 40, 2) := by decide +kernel
theorem dX5_init_7 : decode cX5_init 7 = .ok (.newarray .int, 2) := by decide +kernel
theorem dX5_init_9 : decode cX5_init 9 = .ok (.putfield 9, 3) := by decide +kernel
theorem dX5_init_12 : decode cX5_init 12 = .ok (.aload_n 0, 1) := by decide +kernel
theorem dX5_init_13 : decode cX5_init 13 = .ok (.bipush 40, 2) := by decide +kernel
theorem dX5_init_15 : decode cX5_init 15 = .ok (.newarray .int, 2) := by decide +kernel
theorem dX5_init_17 : decode cX5_init 17 = .ok (.putfield 15, 3) := by decide +kernel
theorem dX5_init_20 : decode cX5_init 20 = .ok (.aload_n 0, 1) := by decide +kernel
theorem dX5_init_21 : decode cX5_init 21 = .ok (.bipush 40, 2) := by decide +kernel
theorem dX5_init_23 : decode cX5_init 23 = .ok (.newarray .int, 2) := by decide +kernel
theorem dX5_init_25 : decode cX5_init 25 = .ok (.putfield 18, 3) := by decide +kernel
theorem dX5_init_28 : decode cX5_init 28 = .ok (.aload_n 0, 1) := by decide +kernel
theorem dX5_init_29 : decode cX5_init 29 = .ok (.bipush 40, 2) := by decide +kernel
theorem dX5_init_31 : decode cX5_init 31 = .ok (.newarray .int, 2) := by decide +kernel
theorem dX5_init_33 : decode cX5_init 33 = .ok (.putfield 21, 3) := by decide +kernel
theorem dX5_init_36 : decode cX5_init 36 = .ok (.aload_n 0, 1) := by decide +kernel
theorem dX5_init_37 : decode cX5_init 37 = .ok (.bipush 20, 2) := by decide +kernel
theorem dX5_init_39 : decode cX5_init 39 = .ok (.newarray .int, 2) := by decide +kernel
theorem dX5_init_41 : decode cX5_init 41 = .ok (.putfield 24, 3) := by decide +kernel
theorem dX5_init_44 : decode cX5_init 44 = .ok (.aload_n 0, 1) := by decide +kernel
theorem dX5_init_45 : decode cX5_init 45 = .ok (.bipush 20, 2) := by decide +kernel
theorem dX5_init_47 : decode cX5_init 47 = .ok (.newarray .int, 2) := by decide +kernel
theorem dX5_init_49 : decode cX5_init 49 = .ok (.putfield 27, 3) := by decide +kernel
theorem dX5_init_52 : decode cX5_init 52 = .ok (.aload_n 0, 1) := by decide +kernel
theorem dX5_init_53 : decode cX5_init 53 = .ok (.bipush 20, 2) := by decide +kernel
theorem dX5_init_55 : decode cX5_init 55 = .ok (.newarray .int, 2) := by decide +kernel
theorem dX5_init_57 : decode cX5_init 57 = .ok (.putfield 30, 3) := by decide +kernel
theorem dX5_init_60 : decode cX5_init 60 = .ok (.aload_n 0, 1) := by decide +kernel
theorem dX5_init_61 : decode cX5_init 61 = .ok (.iconst 5, 1) := by decide +kernel
theorem dX5_init_62 : decode cX5_init 62 = .ok (.putfield 33, 3) := by decide +kernel
theorem dX5_init_65 : decode cX5_init 65 = .ok (.return_, 1) := by decide +kernel
theorem dX5_isSensor_0 : decode cX5_isSensor 0 = .ok (.iload_n 0, 1) := by decide +kernel
theorem dX5_isSensor_1 : decode cX5_isSensor 1 = .ok (.ifCond .lt 12, 3) := by decide +kernel
theorem dX5_isSensor_4 : decode cX5_isSensor 4 = .ok (.iload_n 0, 1) := by decide +kernel
theorem dX5_isSensor_5 : decode cX5_isSensor 5 = .ok (.iconst 4, 1) := by decide +kernel
theorem dX5_isSensor_6 : decode cX5_isSensor 6 = .ok (.if_icmp .ge 7, 3) := by decide +kernel
theorem dX5_isSensor_9 : decode cX5_isSensor 9 = .ok (.iconst 1, 1) := by decide +kernel
theorem dX5_isSensor_10 : decode cX5_isSensor 10 = .ok (.goto 4, 3) := by decide +kernel
theorem dX5_isSensor_13 : decode cX5_isSensor 13 = .ok (.iconst 0, 1) := by decide +kernel
theorem dX5_isSensor_14 : decode cX5_isSensor 14 = .ok (.ireturn, 1) := by decide +kernel
theorem dX5_addReading_0 : decode cX5_addReading 0 = .ok (.iload_n 1, 1) := by decide +kernel
theorem dX5_addReading_1 : decode cX5_addReading 1 = .ok (.invokestatic 37, 3) := by decide +kernel
theorem dX5_addReading_4 : decode cX5_addReading 4 = .ok (.ifCond .eq 17, 3) := by decide +kernel
theorem dX5_addReading_7 : decode cX5_addReading 7 = .ok (.iload_n 2, 1) := by decide +kernel
theorem dX5_addReading_8 : decode cX5_addReading 8 = .ok (.sipush (-10000), 3) := by decide +kernel
theorem dX5_addReading_11 : decode cX5_addReading 11 = .ok (.if_icmp .lt 10, 3) := by decide +kernel
theorem dX5_addReading_14 : decode cX5_addReading 14 = .ok (.iload_n 2, 1) := by decide +kernel
theorem dX5_addReading_15 : decode cX5_addReading 15 = .ok (.sipush 10000, 3) := by decide +kernel
theorem dX5_addReading_18 : decode cX5_addReading 18 = .ok (.if_icmp .le 6, 3) := by decide +kernel
theorem dX5_addReading_21 : decode cX5_addReading 21 = .ok (.ldc 41, 2) := by decide +kernel
theorem dX5_addReading_23 : decode cX5_addReading 23 = .ok (.ireturn, 1) := by decide +kernel
theorem dX5_addReading_24 : decode cX5_addReading 24 = .ok (.aload_n 0, 1) := by decide +kernel
theorem dX5_addReading_25 : decode cX5_addReading 25 = .ok (.getfield 42, 3) := by decide +kernel
theorem dX5_addReading_28 : decode cX5_addReading 28 = .ok (.bipush 40, 2) := by decide +kernel
theorem dX5_addReading_30 : decode cX5_addReading 30 = .ok (.if_icmp .lt 6, 3) := by decide +kernel
theorem dX5_addReading_33 : decode cX5_addReading 33 = .ok (.ldc 45, 2) := by decide +kernel
theorem dX5_addReading_35 : decode cX5_addReading 35 = .ok (.ireturn, 1) := by decide +kernel
theorem dX5_addReading_36 : decode cX5_addReading 36 = .ok (.aload_n 0, 1) := by decide +kernel
theorem dX5_addReading_37 : decode cX5_addReading 37 = .ok (.getfield 9, 3) := by decide +kernel
theorem dX5_addReading_40 : decode cX5_addReading 40 = .ok (.aload_n 0, 1) := by decide +kernel
theorem dX5_addReading_41 : decode cX5_addReading 41 = .ok (.getfield 42, 3) := by decide +kernel
theorem dX5_addReading_44 : decode cX5_addReading 44 = .ok (.iload_n 1, 1) := by decide +kernel
theorem dX5_addReading_45 : decode cX5_addReading 45 = .ok (.iastore, 1) := by decide +kernel
theorem dX5_addReading_46 : decode cX5_addReading 46 = .ok (.aload_n 0, 1) := by decide +kernel
theorem dX5_addReading_47 : decode cX5_addReading 47 = .ok (.getfield 15, 3) := by decide +kernel
theorem dX5_addReading_50 : decode cX5_addReading 50 = .ok (.aload_n 0, 1) := by decide +kernel
theorem dX5_addReading_51 : decode cX5_addReading 51 = .ok (.getfield 42, 3) := by decide +kernel
theorem dX5_addReading_54 : decode cX5_addReading 54 = .ok (.iload_n 3, 1) := by decide +kernel
theorem dX5_addReading_55 : decode cX5_addReading 55 = .ok (.iastore, 1) := by decide +kernel
theorem dX5_addReading_56 : decode cX5_addReading 56 = .ok (.aload_n 0, 1) := by decide +kernel
theorem dX5_addReading_57 : decode cX5_addReading 57 = .ok (.getfield 18, 3) := by decide +kernel
theorem dX5_addReading_60 : decode cX5_addReading 60 = .ok (.aload_n 0, 1) := by decide +kernel
theorem dX5_addReading_61 : decode cX5_addReading 61 = .ok (.getfield 42, 3) := by decide +kernel
theorem dX5_addReading_64 : decode cX5_addReading 64 = .ok (.iload_n 2, 1) := by decide +kernel
theorem dX5_addReading_65 : decode cX5_addReading 65 = .ok (.iastore, 1) := by decide +kernel
theorem dX5_addReading_66 : decode cX5_addReading 66 = .ok (.aload_n 0, 1) := by decide +kernel
theorem dX5_addReading_67 : decode cX5_addReading 67 = .ok (.getfield 21, 3) := by decide +kernel
theorem dX5_addReading_70 : decode cX5_addReading 70 = .ok (.aload_n 0, 1) := by decide +kernel
theorem dX5_addReading_71 : decode cX5_addReading 71 = .ok (.getfield 42, 3) := by decide +kernel
theorem dX5_addReading_74 : decode cX5_addReading 74 = .ok (.iload_n 3, 1) := by decide +kernel
theorem dX5_addReading_75 : decode cX5_addReading 75 = .ok (.aload_n 0, 1) := by decide +kernel
theorem dX5_addReading_76 : decode cX5_addReading 76 = .ok (.getfield 33, 3) := by decide +kernel
theorem dX5_addReading_79 : decode cX5_addReading 79 = .ok (.iadd, 1) := by decide +kernel
theorem dX5_addReading_80 : decode cX5_addReading 80 = .ok (.iastore, 1) := by decide +kernel
theorem dX5_addReading_81 : decode cX5_addReading 81 = .ok (.aload_n 0, 1) := by decide +kernel
theorem dX5_addReading_82 : decode cX5_addReading 82 = .ok (.dup, 1) := by decide +kernel
theorem dX5_addReading_83 : decode cX5_addReading 83 = .ok (.getfield 42, 3) := by decide +kernel
theorem dX5_addReading_86 : decode cX5_addReading 86 = .ok (.iconst 1, 1) := by decide +kernel
theorem dX5_addReading_87 : decode cX5_addReading 87 = .ok (.iadd, 1) := by decide +kernel
theorem dX5_addReading_88 : decode cX5_addReading 88 = .ok (.putfield 42, 3) := by decide +kernel
theorem dX5_addReading_91 : decode cX5_addReading 91 = .ok (.aload_n 0, 1) := by decide +kernel
theorem dX5_addReading_92 : decode cX5_addReading 92 = .ok (.getfield 42, 3) := by decide +kernel
theorem dX5_addReading_95 : decode cX5_addReading 95 = .ok (.iconst 1, 1) := by decide +kernel
theorem dX5_addReading_96 : decode cX5_addReading 96 = .ok (.isub, 1) := by decide +kernel
theorem dX5_addReading_97 : decode cX5_addReading 97 = .ok (.ireturn, 1) := by decide +kernel
theorem dX5_addCalibration_0 : decode cX5_addCalibration 0 = .ok (.iload_n 1, 1) := by decide +kernel
theorem dX5_addCalibration_1 : decode cX5_addCalibration 1 = .ok (.invokestatic 37, 3) := by decide +kernel
theorem dX5_addCalibration_4 : decode cX5_addCalibration 4 = .ok (.ifCond .eq 17, 3) := by decide +kernel
theorem dX5_addCalibration_7 : decode cX5_addCalibration 7 = .ok (.iload_n 2, 1) := by decide +kernel
theorem dX5_addCalibration_8 : decode cX5_addCalibration 8 = .ok (.sipush (-1000), 3) := by decide +kernel
theorem dX5_addCalibration_11 : decode cX5_addCalibration 11 = .ok (.if_icmp .lt 10, 3) := by decide +kernel
theorem dX5_addCalibration_14 : decode cX5_addCalibration 14 = .ok (.iload_n 2, 1) := by decide +kernel
theorem dX5_addCalibration_15 : decode cX5_addCalibration 15 = .ok (.sipush 1000, 3) := by decide +kernel
theorem dX5_addCalibration_18 : decode cX5_addCalibration 18 = .ok (.if_icmp .le 6, 3) := by decide +kernel
theorem dX5_addCalibration_21 : decode cX5_addCalibration 21 = .ok (.ldc 41, 2) := by decide +kernel
theorem dX5_addCalibration_23 : decode cX5_addCalibration 23 = .ok (.ireturn, 1) := by decide +kernel
theorem dX5_addCalibration_24 : decode cX5_addCalibration 24 = .ok (.aload_n 0, 1) := by decide +kernel
theorem dX5_addCalibration_25 : decode cX5_addCalibration 25 = .ok (.getfield 46, 3) := by decide +kernel
theorem dX5_addCalibration_28 : decode cX5_addCalibration 28 = .ok (.bipush 20, 2) := by decide +kernel
theorem dX5_addCalibration_30 : decode cX5_addCalibration 30 = .ok (.if_icmp .lt 6, 3) := by decide +kernel
theorem dX5_addCalibration_33 : decode cX5_addCalibration 33 = .ok (.ldc 45, 2) := by decide +kernel
theorem dX5_addCalibration_35 : decode cX5_addCalibration 35 = .ok (.ireturn, 1) := by decide +kernel
theorem dX5_addCalibration_36 : decode cX5_addCalibration 36 = .ok (.aload_n 0, 1) := by decide +kernel
theorem dX5_addCalibration_37 : decode cX5_addCalibration 37 = .ok (.getfield 24, 3) := by decide +kernel
theorem dX5_addCalibration_40 : decode cX5_addCalibration 40 = .ok (.aload_n 0, 1) := by decide +kernel
theorem dX5_addCalibration_41 : decode cX5_addCalibration 41 = .ok (.getfield 46, 3) := by decide +kernel
theorem dX5_addCalibration_44 : decode cX5_addCalibration 44 = .ok (.iload_n 1, 1) := by decide +kernel
theorem dX5_addCalibration_45 : decode cX5_addCalibration 45 = .ok (.iastore, 1) := by decide +kernel
theorem dX5_addCalibration_46 : decode cX5_addCalibration 46 = .ok (.aload_n 0, 1) := by decide +kernel
theorem dX5_addCalibration_47 : decode cX5_addCalibration 47 = .ok (.getfield 27, 3) := by decide +kernel
theorem dX5_addCalibration_50 : decode cX5_addCalibration 50 = .ok (.aload_n 0, 1) := by decide +kernel
theorem dX5_addCalibration_51 : decode cX5_addCalibration 51 = .ok (.getfield 46, 3) := by decide +kernel
theorem dX5_addCalibration_54 : decode cX5_addCalibration 54 = .ok (.iload_n 3, 1) := by decide +kernel
theorem dX5_addCalibration_55 : decode cX5_addCalibration 55 = .ok (.iastore, 1) := by decide +kernel
theorem dX5_addCalibration_56 : decode cX5_addCalibration 56 = .ok (.aload_n 0, 1) := by decide +kernel
theorem dX5_addCalibration_57 : decode cX5_addCalibration 57 = .ok (.getfield 30, 3) := by decide +kernel
theorem dX5_addCalibration_60 : decode cX5_addCalibration 60 = .ok (.aload_n 0, 1) := by decide +kernel
theorem dX5_addCalibration_61 : decode cX5_addCalibration 61 = .ok (.getfield 46, 3) := by decide +kernel
theorem dX5_addCalibration_64 : decode cX5_addCalibration 64 = .ok (.iload_n 2, 1) := by decide +kernel
theorem dX5_addCalibration_65 : decode cX5_addCalibration 65 = .ok (.iastore, 1) := by decide +kernel
theorem dX5_addCalibration_66 : decode cX5_addCalibration 66 = .ok (.aload_n 0, 1) := by decide +kernel
theorem dX5_addCalibration_67 : decode cX5_addCalibration 67 = .ok (.dup, 1) := by decide +kernel
theorem dX5_addCalibration_68 : decode cX5_addCalibration 68 = .ok (.getfield 46, 3) := by decide +kernel
theorem dX5_addCalibration_71 : decode cX5_addCalibration 71 = .ok (.iconst 1, 1) := by decide +kernel
theorem dX5_addCalibration_72 : decode cX5_addCalibration 72 = .ok (.iadd, 1) := by decide +kernel
theorem dX5_addCalibration_73 : decode cX5_addCalibration 73 = .ok (.putfield 46, 3) := by decide +kernel
theorem dX5_addCalibration_76 : decode cX5_addCalibration 76 = .ok (.aload_n 0, 1) := by decide +kernel
theorem dX5_addCalibration_77 : decode cX5_addCalibration 77 = .ok (.getfield 46, 3) := by decide +kernel
theorem dX5_addCalibration_80 : decode cX5_addCalibration 80 = .ok (.ireturn, 1) := by decide +kernel
theorem dX5_setDelay_0 : decode cX5_setDelay 0 = .ok (.iload_n 1, 1) := by decide +kernel
theorem dX5_setDelay_1 : decode cX5_setDelay 1 = .ok (.ifCond .lt 9, 3) := by decide +kernel
theorem dX5_setDelay_4 : decode cX5_setDelay 4 = .ok (.iload_n 1, 1) := by decide +kernel
theorem dX5_setDelay_5 : decode cX5_setDelay 5 = .ok (.bipush 100, 2) := by decide +kernel
theorem dX5_setDelay_7 : decode cX5_setDelay 7 = .ok (.if_icmp .le 6, 3) := by decide +kernel
theorem dX5_setDelay_10 : decode cX5_setDelay 10 = .ok (.ldc 41, 2) := by decide +kernel
theorem dX5_setDelay_12 : decode cX5_setDelay 12 = .ok (.ireturn, 1) := by decide +kernel
theorem dX5_setDelay_13 : decode cX5_setDelay 13 = .ok (.aload_n 0, 1) := by decide +kernel
theorem dX5_setDelay_14 : decode cX5_setDelay 14 = .ok (.getfield 33, 3) := by decide +kernel
theorem dX5_setDelay_17 : decode cX5_setDelay 17 = .ok (.istore_n 2, 1) := by decide +kernel
theorem dX5_setDelay_18 : decode cX5_setDelay 18 = .ok (.aload_n 0, 1) := by decide +kernel
theorem dX5_setDelay_19 : decode cX5_setDelay 19 = .ok (.iload_n 1, 1) := by decide +kernel
theorem dX5_setDelay_20 : decode cX5_setDelay 20 = .ok (.putfield 33, 3) := by decide +kernel
theorem dX5_setDelay_23 : decode cX5_setDelay 23 = .ok (.iload_n 2, 1) := by decide +kernel
theorem dX5_setDelay_24 : decode cX5_setDelay 24 = .ok (.ireturn, 1) := by decide +kernel
theorem dX5_latestHeard_0 : decode cX5_latestHeard 0 = .ok (.iload_n 1, 1) := by decide +kernel
theorem dX5_latestHeard_1 : decode cX5_latestHeard 1 = .ok (.invokestatic 37, 3) := by decide +kernel
theorem dX5_latestHeard_4 : decode cX5_latestHeard 4 = .ok (.ifCond .eq 14, 3) := by decide +kernel
theorem dX5_latestHeard_7 : decode cX5_latestHeard 7 = .ok (.iload_n 2, 1) := by decide +kernel
theorem dX5_latestHeard_8 : decode cX5_latestHeard 8 = .ok (.ifCond .lt 10, 3) := by decide +kernel
theorem dX5_latestHeard_11 : decode cX5_latestHeard 11 = .ok (.iload_n 2, 1) := by decide +kernel
theorem dX5_latestHeard_12 : decode cX5_latestHeard 12 = .ok (.sipush 4000, 3) := by decide +kernel
theorem dX5_latestHeard_15 : decode cX5_latestHeard 15 = .ok (.if_icmp .le 6, 3) := by decide +kernel
theorem dX5_latestHeard_18 : decode cX5_latestHeard 18 = .ok (.ldc 41, 2) := by decide +kernel
theorem dX5_latestHeard_20 : decode cX5_latestHeard 20 = .ok (.ireturn, 1) := by decide +kernel
theorem dX5_latestHeard_21 : decode cX5_latestHeard 21 = .ok (.aload_n 0, 1) := by decide +kernel
theorem dX5_latestHeard_22 : decode cX5_latestHeard 22 = .ok (.getfield 42, 3) := by decide +kernel
theorem dX5_latestHeard_25 : decode cX5_latestHeard 25 = .ok (.iconst 1, 1) := by decide +kernel
theorem dX5_latestHeard_26 : decode cX5_latestHeard 26 = .ok (.isub, 1) := by decide +kernel
theorem dX5_latestHeard_27 : decode cX5_latestHeard 27 = .ok (.istore_n 3, 1) := by decide +kernel
theorem dX5_latestHeard_28 : decode cX5_latestHeard 28 = .ok (.iload_n 3, 1) := by decide +kernel
theorem dX5_latestHeard_29 : decode cX5_latestHeard 29 = .ok (.ifCond .lt 31, 3) := by decide +kernel
theorem dX5_latestHeard_32 : decode cX5_latestHeard 32 = .ok (.aload_n 0, 1) := by decide +kernel
theorem dX5_latestHeard_33 : decode cX5_latestHeard 33 = .ok (.getfield 9, 3) := by decide +kernel
theorem dX5_latestHeard_36 : decode cX5_latestHeard 36 = .ok (.iload_n 3, 1) := by decide +kernel
theorem dX5_latestHeard_37 : decode cX5_latestHeard 37 = .ok (.iaload, 1) := by decide +kernel
theorem dX5_latestHeard_38 : decode cX5_latestHeard 38 = .ok (.iload_n 1, 1) := by decide +kernel
theorem dX5_latestHeard_39 : decode cX5_latestHeard 39 = .ok (.if_icmp .ne 15, 3) := by decide +kernel
theorem dX5_latestHeard_42 : decode cX5_latestHeard 42 = .ok (.aload_n 0, 1) := by decide +kernel
theorem dX5_latestHeard_43 : decode cX5_latestHeard 43 = .ok (.getfield 21, 3) := by decide +kernel
theorem dX5_latestHeard_46 : decode cX5_latestHeard 46 = .ok (.iload_n 3, 1) := by decide +kernel
theorem dX5_latestHeard_47 : decode cX5_latestHeard 47 = .ok (.iaload, 1) := by decide +kernel
theorem dX5_latestHeard_48 : decode cX5_latestHeard 48 = .ok (.iload_n 2, 1) := by decide +kernel
theorem dX5_latestHeard_49 : decode cX5_latestHeard 49 = .ok (.if_icmp .gt 5, 3) := by decide +kernel
theorem dX5_latestHeard_52 : decode cX5_latestHeard 52 = .ok (.iload_n 3, 1) := by decide +kernel
theorem dX5_latestHeard_53 : decode cX5_latestHeard 53 = .ok (.ireturn, 1) := by decide +kernel
theorem dX5_latestHeard_54 : decode cX5_latestHeard 54 = .ok (.iinc 3 (-1), 3) := by decide +kernel
theorem dX5_latestHeard_57 : decode cX5_latestHeard 57 = .ok (.goto (-29), 3) := by decide +kernel
theorem dX5_latestHeard_60 : decode cX5_latestHeard 60 = .ok (.ldc 49, 2) := by decide +kernel
theorem dX5_latestHeard_62 : decode cX5_latestHeard 62 = .ok (.ireturn, 1) := by decide +kernel
theorem dX5_workedBack_0 : decode cX5_workedBack 0 = .ok (.iload_n 1, 1) := by decide +kernel
theorem dX5_workedBack_1 : decode cX5_workedBack 1 = .ok (.ifCond .lt 11, 3) := by decide +kernel
theorem dX5_workedBack_4 : decode cX5_workedBack 4 = .ok (.iload_n 1, 1) := by decide +kernel
theorem dX5_workedBack_5 : decode cX5_workedBack 5 = .ok (.aload_n 0, 1) := by decide +kernel
theorem dX5_workedBack_6 : decode cX5_workedBack 6 = .ok (.getfield 42, 3) := by decide +kernel
theorem dX5_workedBack_9 : decode cX5_workedBack 9 = .ok (.if_icmp .lt 6, 3) := by decide +kernel
theorem dX5_workedBack_12 : decode cX5_workedBack 12 = .ok (.ldc 41, 2) := by decide +kernel
theorem dX5_workedBack_14 : decode cX5_workedBack 14 = .ok (.ireturn, 1) := by decide +kernel
theorem dX5_workedBack_15 : decode cX5_workedBack 15 = .ok (.aload_n 0, 1) := by decide +kernel
theorem dX5_workedBack_16 : decode cX5_workedBack 16 = .ok (.getfield 18, 3) := by decide +kernel
theorem dX5_workedBack_19 : decode cX5_workedBack 19 = .ok (.iload_n 1, 1) := by decide +kernel
theorem dX5_workedBack_20 : decode cX5_workedBack 20 = .ok (.iaload, 1) := by decide +kernel
theorem dX5_workedBack_21 : decode cX5_workedBack 21 = .ok (.aload_n 0, 1) := by decide +kernel
theorem dX5_workedBack_22 : decode cX5_workedBack 22 = .ok (.aload_n 0, 1) := by decide +kernel
theorem dX5_workedBack_23 : decode cX5_workedBack 23 = .ok (.getfield 9, 3) := by decide +kernel
theorem dX5_workedBack_26 : decode cX5_workedBack 26 = .ok (.iload_n 1, 1) := by decide +kernel
theorem dX5_workedBack_27 : decode cX5_workedBack 27 = .ok (.iaload, 1) := by decide +kernel
theorem dX5_workedBack_28 : decode cX5_workedBack 28 = .ok (.aload_n 0, 1) := by decide +kernel
theorem dX5_workedBack_29 : decode cX5_workedBack 29 = .ok (.getfield 15, 3) := by decide +kernel
theorem dX5_workedBack_32 : decode cX5_workedBack 32 = .ok (.iload_n 1, 1) := by decide +kernel
theorem dX5_workedBack_33 : decode cX5_workedBack 33 = .ok (.iaload, 1) := by decide +kernel
theorem dX5_workedBack_34 : decode cX5_workedBack 34 = .ok (.invokevirtual 50, 3) := by decide +kernel
theorem dX5_workedBack_37 : decode cX5_workedBack 37 = .ok (.isub, 1) := by decide +kernel
theorem dX5_workedBack_38 : decode cX5_workedBack 38 = .ok (.ireturn, 1) := by decide +kernel
theorem dX5_tooMuch_0 : decode cX5_tooMuch 0 = .ok (.iconst (-1), 1) := by decide +kernel
theorem dX5_tooMuch_1 : decode cX5_tooMuch 1 = .ok (.istore_n 3, 1) := by decide +kernel
theorem dX5_tooMuch_2 : decode cX5_tooMuch 2 = .ok (.iconst (-1), 1) := by decide +kernel
theorem dX5_tooMuch_3 : decode cX5_tooMuch 3 = .ok (.istore 4, 2) := by decide +kernel
theorem dX5_tooMuch_5 : decode cX5_tooMuch 5 = .ok (.iconst 0, 1) := by decide +kernel
theorem dX5_tooMuch_6 : decode cX5_tooMuch 6 = .ok (.istore 5, 2) := by decide +kernel
theorem dX5_tooMuch_8 : decode cX5_tooMuch 8 = .ok (.iload 5, 2) := by decide +kernel
theorem dX5_tooMuch_10 : decode cX5_tooMuch 10 = .ok (.aload_n 0, 1) := by decide +kernel
theorem dX5_tooMuch_11 : decode cX5_tooMuch 11 = .ok (.getfield 46, 3) := by decide +kernel
theorem dX5_tooMuch_14 : decode cX5_tooMuch 14 = .ok (.if_icmp .ge 66, 3) := by decide +kernel
theorem dX5_tooMuch_17 : decode cX5_tooMuch 17 = .ok (.aload_n 0, 1) := by decide +kernel
theorem dX5_tooMuch_18 : decode cX5_tooMuch 18 = .ok (.getfield 24, 3) := by decide +kernel
theorem dX5_tooMuch_21 : decode cX5_tooMuch 21 = .ok (.iload 5, 2) := by decide +kernel
theorem dX5_tooMuch_23 : decode cX5_tooMuch 23 = .ok (.iaload, 1) := by decide +kernel
theorem dX5_tooMuch_24 : decode cX5_tooMuch 24 = .ok (.iload_n 1, 1) := by decide +kernel
theorem dX5_tooMuch_25 : decode cX5_tooMuch 25 = .ok (.if_icmp .eq 6, 3) := by decide +kernel
theorem dX5_tooMuch_28 : decode cX5_tooMuch 28 = .ok (.goto 46, 3) := by decide +kernel
theorem dX5_tooMuch_31 : decode cX5_tooMuch 31 = .ok (.aload_n 0, 1) := by decide +kernel
theorem dX5_tooMuch_32 : decode cX5_tooMuch 32 = .ok (.getfield 27, 3) := by decide +kernel
theorem dX5_tooMuch_35 : decode cX5_tooMuch 35 = .ok (.iload 5, 2) := by decide +kernel
theorem dX5_tooMuch_37 : decode cX5_tooMuch 37 = .ok (.iaload, 1) := by decide +kernel
theorem dX5_tooMuch_38 : decode cX5_tooMuch 38 = .ok (.iload_n 2, 1) := by decide +kernel
theorem dX5_tooMuch_39 : decode cX5_tooMuch 39 = .ok (.if_icmp .gt 9, 3) := by decide +kernel
theorem dX5_tooMuch_42 : decode cX5_tooMuch 42 = .ok (.iload 5, 2) := by decide +kernel
theorem dX5_tooMuch_44 : decode cX5_tooMuch 44 = .ok (.istore_n 3, 1) := by decide +kernel
theorem dX5_tooMuch_45 : decode cX5_tooMuch 45 = .ok (.goto 29, 3) := by decide +kernel
theorem dX5_tooMuch_48 : decode cX5_tooMuch 48 = .ok (.iload 4, 2) := by decide +kernel
theorem dX5_tooMuch_50 : decode cX5_tooMuch 50 = .ok (.ifCond .lt 20, 3) := by decide +kernel
theorem dX5_tooMuch_53 : decode cX5_tooMuch 53 = .ok (.aload_n 0, 1) := by decide +kernel
theorem dX5_tooMuch_54 : decode cX5_tooMuch 54 = .ok (.getfield 27, 3) := by decide +kernel
theorem dX5_tooMuch_57 : decode cX5_tooMuch 57 = .ok (.iload 5, 2) := by decide +kernel
theorem dX5_tooMuch_59 : decode cX5_tooMuch 59 = .ok (.iaload, 1) := by decide +kernel
theorem dX5_tooMuch_60 : decode cX5_tooMuch 60 = .ok (.aload_n 0, 1) := by decide +kernel
theorem dX5_tooMuch_61 : decode cX5_tooMuch 61 = .ok (.getfield 27, 3) := by decide +kernel
theorem dX5_tooMuch_64 : decode cX5_tooMuch 64 = .ok (.iload 4, 2) := by decide +kernel
theorem dX5_tooMuch_66 : decode cX5_tooMuch 66 = .ok (.iaload, 1) := by decide +kernel
theorem dX5_tooMuch_67 : decode cX5_tooMuch 67 = .ok (.if_icmp .ne 7, 3) := by decide +kernel
theorem dX5_tooMuch_70 : decode cX5_tooMuch 70 = .ok (.iload 5, 2) := by decide +kernel
theorem dX5_tooMuch_72 : decode cX5_tooMuch 72 = .ok (.istore 4, 2) := by decide +kernel
theorem dX5_tooMuch_74 : decode cX5_tooMuch 74 = .ok (.iinc 5 1, 3) := by decide +kernel
theorem dX5_tooMuch_77 : decode cX5_tooMuch 77 = .ok (.goto (-69), 3) := by decide +kernel
theorem dX5_tooMuch_80 : decode cX5_tooMuch 80 = .ok (.iload_n 3, 1) := by decide +kernel
theorem dX5_tooMuch_81 : decode cX5_tooMuch 81 = .ok (.ifCond .ge 20, 3) := by decide +kernel
theorem dX5_tooMuch_84 : decode cX5_tooMuch 84 = .ok (.iload 4, 2) := by decide +kernel
theorem dX5_tooMuch_86 : decode cX5_tooMuch 86 = .ok (.ifCond .ge 7, 3) := by decide +kernel
theorem dX5_tooMuch_89 : decode cX5_tooMuch 89 = .ok (.iconst 0, 1) := by decide +kernel
theorem dX5_tooMuch_90 : decode cX5_tooMuch 90 = .ok (.goto 10, 3) := by decide +kernel
theorem dX5_tooMuch_93 : decode cX5_tooMuch 93 = .ok (.aload_n 0, 1) := by decide +kernel
theorem dX5_tooMuch_94 : decode cX5_tooMuch 94 = .ok (.getfield 30, 3) := by decide +kernel
theorem dX5_tooMuch_97 : decode cX5_tooMuch 97 = .ok (.iload 4, 2) := by decide +kernel
theorem dX5_tooMuch_99 : decode cX5_tooMuch 99 = .ok (.iaload, 1) := by decide +kernel
theorem dX5_tooMuch_100 : decode cX5_tooMuch 100 = .ok (.ireturn, 1) := by decide +kernel
theorem dX5_tooMuch_101 : decode cX5_tooMuch 101 = .ok (.iload 4, 2) := by decide +kernel
theorem dX5_tooMuch_103 : decode cX5_tooMuch 103 = .ok (.ifCond .ge 12, 3) := by decide +kernel
theorem dX5_tooMuch_106 : decode cX5_tooMuch 106 = .ok (.aload_n 0, 1) := by decide +kernel
theorem dX5_tooMuch_107 : decode cX5_tooMuch 107 = .ok (.getfield 30, 3) := by decide +kernel
theorem dX5_tooMuch_110 : decode cX5_tooMuch 110 = .ok (.iload_n 3, 1) := by decide +kernel
theorem dX5_tooMuch_111 : decode cX5_tooMuch 111 = .ok (.iaload, 1) := by decide +kernel
theorem dX5_tooMuch_112 : decode cX5_tooMuch 112 = .ok (.goto 11, 3) := by decide +kernel
theorem dX5_tooMuch_115 : decode cX5_tooMuch 115 = .ok (.aload_n 0, 1) := by decide +kernel
theorem dX5_tooMuch_116 : decode cX5_tooMuch 116 = .ok (.iload_n 3, 1) := by decide +kernel
theorem dX5_tooMuch_117 : decode cX5_tooMuch 117 = .ok (.iload 4, 2) := by decide +kernel
theorem dX5_tooMuch_119 : decode cX5_tooMuch 119 = .ok (.iload_n 2, 1) := by decide +kernel
theorem dX5_tooMuch_120 : decode cX5_tooMuch 120 = .ok (.invokevirtual 54, 3) := by decide +kernel
theorem dX5_tooMuch_123 : decode cX5_tooMuch 123 = .ok (.ireturn, 1) := by decide +kernel
theorem dX5_between_0 : decode cX5_between 0 = .ok (.aload_n 0, 1) := by decide +kernel
theorem dX5_between_1 : decode cX5_between 1 = .ok (.getfield 27, 3) := by decide +kernel
theorem dX5_between_4 : decode cX5_between 4 = .ok (.iload_n 2, 1) := by decide +kernel
theorem dX5_between_5 : decode cX5_between 5 = .ok (.iaload, 1) := by decide +kernel
theorem dX5_between_6 : decode cX5_between 6 = .ok (.aload_n 0, 1) := by decide +kernel
theorem dX5_between_7 : decode cX5_between 7 = .ok (.getfield 27, 3) := by decide +kernel
theorem dX5_between_10 : decode cX5_between 10 = .ok (.iload_n 1, 1) := by decide +kernel
theorem dX5_between_11 : decode cX5_between 11 = .ok (.iaload, 1) := by decide +kernel
theorem dX5_between_12 : decode cX5_between 12 = .ok (.isub, 1) := by decide +kernel
theorem dX5_between_13 : decode cX5_between 13 = .ok (.istore 4, 2) := by decide +kernel
theorem dX5_between_15 : decode cX5_between 15 = .ok (.iload 4, 2) := by decide +kernel
theorem dX5_between_17 : decode cX5_between 17 = .ok (.ifCond .gt 10, 3) := by decide +kernel
theorem dX5_between_20 : decode cX5_between 20 = .ok (.aload_n 0, 1) := by decide +kernel
theorem dX5_between_21 : decode cX5_between 21 = .ok (.getfield 30, 3) := by decide +kernel
theorem dX5_between_24 : decode cX5_between 24 = .ok (.iload_n 1, 1) := by decide +kernel
theorem dX5_between_25 : decode cX5_between 25 = .ok (.iaload, 1) := by decide +kernel
theorem dX5_between_26 : decode cX5_between 26 = .ok (.ireturn, 1) := by decide +kernel
theorem dX5_between_27 : decode cX5_between 27 = .ok (.aload_n 0, 1) := by decide +kernel
theorem dX5_between_28 : decode cX5_between 28 = .ok (.getfield 30, 3) := by decide +kernel
theorem dX5_between_31 : decode cX5_between 31 = .ok (.iload_n 2, 1) := by decide +kernel
theorem dX5_between_32 : decode cX5_between 32 = .ok (.iaload, 1) := by decide +kernel
theorem dX5_between_33 : decode cX5_between 33 = .ok (.aload_n 0, 1) := by decide +kernel
theorem dX5_between_34 : decode cX5_between 34 = .ok (.getfield 30, 3) := by decide +kernel
theorem dX5_between_37 : decode cX5_between 37 = .ok (.iload_n 1, 1) := by decide +kernel
theorem dX5_between_38 : decode cX5_between 38 = .ok (.iaload, 1) := by decide +kernel
theorem dX5_between_39 : decode cX5_between 39 = .ok (.isub, 1) := by decide +kernel
theorem dX5_between_40 : decode cX5_between 40 = .ok (.istore 5, 2) := by decide +kernel
theorem dX5_between_42 : decode cX5_between 42 = .ok (.aload_n 0, 1) := by decide +kernel
theorem dX5_between_43 : decode cX5_between 43 = .ok (.getfield 30, 3) := by decide +kernel
theorem dX5_between_46 : decode cX5_between 46 = .ok (.iload_n 1, 1) := by decide +kernel
theorem dX5_between_47 : decode cX5_between 47 = .ok (.iaload, 1) := by decide +kernel
theorem dX5_between_48 : decode cX5_between 48 = .ok (.iload 5, 2) := by decide +kernel
theorem dX5_between_50 : decode cX5_between 50 = .ok (.iload_n 3, 1) := by decide +kernel
theorem dX5_between_51 : decode cX5_between 51 = .ok (.aload_n 0, 1) := by decide +kernel
theorem dX5_between_52 : decode cX5_between 52 = .ok (.getfield 27, 3) := by decide +kernel
theorem dX5_between_55 : decode cX5_between 55 = .ok (.iload_n 1, 1) := by decide +kernel
theorem dX5_between_56 : decode cX5_between 56 = .ok (.iaload, 1) := by decide +kernel
theorem dX5_between_57 : decode cX5_between 57 = .ok (.isub, 1) := by decide +kernel
theorem dX5_between_58 : decode cX5_between 58 = .ok (.imul, 1) := by decide +kernel
theorem dX5_between_59 : decode cX5_between 59 = .ok (.iload 4, 2) := by decide +kernel
theorem dX5_between_61 : decode cX5_between 61 = .ok (.idiv, 1) := by decide +kernel
theorem dX5_between_62 : decode cX5_between 62 = .ok (.iadd, 1) := by decide +kernel
theorem dX5_between_63 : decode cX5_between 63 = .ok (.ireturn, 1) := by decide +kernel
