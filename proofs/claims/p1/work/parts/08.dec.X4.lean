theorem dX4_init_0 : decode cX4_init 0 = .ok (.aload_n 0, 1) := by decide +kernel
theorem dX4_init_1 : decode cX4_init 1 = .ok (.invokespecial 3, 3) := by decide +kernel
theorem dX4_init_4 : decode cX4_init 4 = .ok (.aload_n 0, 1) := by decide +kernel
theorem dX4_init_5 : decode cX4_init 5 = .ok (.bipush 6, 2) := by decide +kernel
theorem dX4_init_7 : decode cX4_init 7 = .ok (.newarray .int, 2) := by decide +kernel
theorem dX4_init_9 : decode cX4_init 9 = .ok (.putfield 9, 3) := by decide +kernel
theorem dX4_init_12 : decode cX4_init 12 = .ok (.return_, 1) := by decide +kernel
theorem dX4_startOver_0 : decode cX4_startOver 0 = .ok (.aload_n 0, 1) := by decide +kernel
theorem dX4_startOver_1 : decode cX4_startOver 1 = .ok (.iconst 1, 1) := by decide +kernel
theorem dX4_startOver_2 : decode cX4_startOver 2 = .ok (.aload_n 1, 1) := by decide +kernel
theorem dX4_startOver_3 : decode cX4_startOver 3 = .ok (.getfield 15, 3) := by decide +kernel
theorem dX4_startOver_6 : decode cX4_startOver 6 = .ok (.ishl, 1) := by decide +kernel
theorem dX4_startOver_7 : decode cX4_startOver 7 = .ok (.iconst 1, 1) := by decide +kernel
theorem dX4_startOver_8 : decode cX4_startOver 8 = .ok (.isub, 1) := by decide +kernel
theorem dX4_startOver_9 : decode cX4_startOver 9 = .ok (.putfield 21, 3) := by decide +kernel
theorem dX4_startOver_12 : decode cX4_startOver 12 = .ok (.aload_n 1, 1) := by decide +kernel
theorem dX4_startOver_13 : decode cX4_startOver 13 = .ok (.getfield 15, 3) := by decide +kernel
theorem dX4_startOver_16 : decode cX4_startOver 16 = .ok (.ireturn, 1) := by decide +kernel
theorem dX4_narrow_0 : decode cX4_narrow 0 = .ok (.aload_n 1, 1) := by decide +kernel
theorem dX4_narrow_1 : decode cX4_narrow 1 = .ok (.iload_n 3, 1) := by decide +kernel
theorem dX4_narrow_2 : decode cX4_narrow 2 = .ok (.invokevirtual 24, 3) := by decide +kernel
theorem dX4_narrow_5 : decode cX4_narrow 5 = .ok (.ifCond .eq 17, 3) := by decide +kernel
theorem dX4_narrow_8 : decode cX4_narrow 8 = .ok (.iload_n 2, 1) := by decide +kernel
theorem dX4_narrow_9 : decode cX4_narrow 9 = .ok (.ifCond .lt 13, 3) := by decide +kernel
theorem dX4_narrow_12 : decode cX4_narrow 12 = .ok (.iload_n 2, 1) := by decide +kernel
theorem dX4_narrow_13 : decode cX4_narrow 13 = .ok (.iconst 1, 1) := by decide +kernel
theorem dX4_narrow_14 : decode cX4_narrow 14 = .ok (.aload_n 1, 1) := by decide +kernel
theorem dX4_narrow_15 : decode cX4_narrow 15 = .ok (.getfield 28, 3) := by decide +kernel
theorem dX4_narrow_18 : decode cX4_narrow 18 = .ok (.ishl, 1) := by decide +kernel
theorem dX4_narrow_19 : decode cX4_narrow 19 = .ok (.if_icmp .lt 6, 3) := by decide +kernel
theorem dX4_narrow_22 : decode cX4_narrow 22 = .ok (.ldc 31, 2) := by decide +kernel
theorem dX4_narrow_24 : decode cX4_narrow 24 = .ok (.ireturn, 1) := by decide +kernel
theorem dX4_narrow_25 : decode cX4_narrow 25 = .ok (.aload_n 0, 1) := by decide +kernel
theorem dX4_narrow_26 : decode cX4_narrow 26 = .ok (.aload_n 1, 1) := by decide +kernel
theorem dX4_narrow_27 : decode cX4_narrow 27 = .ok (.iload_n 2, 1) := by decide +kernel
theorem dX4_narrow_28 : decode cX4_narrow 28 = .ok (.invokevirtual 32, 3) := by decide +kernel
theorem dX4_narrow_31 : decode cX4_narrow 31 = .ok (.aload_n 0, 1) := by decide +kernel
theorem dX4_narrow_32 : decode cX4_narrow 32 = .ok (.getfield 21, 3) := by decide +kernel
theorem dX4_narrow_35 : decode cX4_narrow 35 = .ok (.aload_n 0, 1) := by decide +kernel
theorem dX4_narrow_36 : decode cX4_narrow 36 = .ok (.getfield 9, 3) := by decide +kernel
theorem dX4_narrow_39 : decode cX4_narrow 39 = .ok (.iload_n 3, 1) := by decide +kernel
theorem dX4_narrow_40 : decode cX4_narrow 40 = .ok (.iaload, 1) := by decide +kernel
theorem dX4_narrow_41 : decode cX4_narrow 41 = .ok (.iand, 1) := by decide +kernel
theorem dX4_narrow_42 : decode cX4_narrow 42 = .ok (.istore 4, 2) := by decide +kernel
theorem dX4_narrow_44 : decode cX4_narrow 44 = .ok (.iload 4, 2) := by decide +kernel
theorem dX4_narrow_46 : decode cX4_narrow 46 = .ok (.ifCond .ne 6, 3) := by decide +kernel
theorem dX4_narrow_49 : decode cX4_narrow 49 = .ok (.ldc 36, 2) := by decide +kernel
theorem dX4_narrow_51 : decode cX4_narrow 51 = .ok (.ireturn, 1) := by decide +kernel
theorem dX4_narrow_52 : decode cX4_narrow 52 = .ok (.aload_n 0, 1) := by decide +kernel
theorem dX4_narrow_53 : decode cX4_narrow 53 = .ok (.iload 4, 2) := by decide +kernel
theorem dX4_narrow_55 : decode cX4_narrow 55 = .ok (.putfield 21, 3) := by decide +kernel
theorem dX4_narrow_58 : decode cX4_narrow 58 = .ok (.iload 4, 2) := by decide +kernel
theorem dX4_narrow_60 : decode cX4_narrow 60 = .ok (.ireturn, 1) := by decide +kernel
theorem dX4_bestTest_0 : decode cX4_bestTest 0 = .ok (.iload_n 2, 1) := by decide +kernel
theorem dX4_bestTest_1 : decode cX4_bestTest 1 = .ok (.ifCond .eq 11, 3) := by decide +kernel
theorem dX4_bestTest_4 : decode cX4_bestTest 4 = .ok (.iload_n 2, 1) := by decide +kernel
theorem dX4_bestTest_5 : decode cX4_bestTest 5 = .ok (.iconst 1, 1) := by decide +kernel
theorem dX4_bestTest_6 : decode cX4_bestTest 6 = .ok (.if_icmp .eq 6, 3) := by decide +kernel
theorem dX4_bestTest_9 : decode cX4_bestTest 9 = .ok (.ldc 31, 2) := by decide +kernel
theorem dX4_bestTest_11 : decode cX4_bestTest 11 = .ok (.ireturn, 1) := by decide +kernel
theorem dX4_bestTest_12 : decode cX4_bestTest 12 = .ok (.aload_n 0, 1) := by decide +kernel
theorem dX4_bestTest_13 : decode cX4_bestTest 13 = .ok (.getfield 21, 3) := by decide +kernel
theorem dX4_bestTest_16 : decode cX4_bestTest 16 = .ok (.ifCond .ne 6, 3) := by decide +kernel
theorem dX4_bestTest_19 : decode cX4_bestTest 19 = .ok (.ldc 36, 2) := by decide +kernel
theorem dX4_bestTest_21 : decode cX4_bestTest 21 = .ok (.ireturn, 1) := by decide +kernel
theorem dX4_bestTest_22 : decode cX4_bestTest 22 = .ok (.iconst 0, 1) := by decide +kernel
theorem dX4_bestTest_23 : decode cX4_bestTest 23 = .ok (.istore_n 3, 1) := by decide +kernel
theorem dX4_bestTest_24 : decode cX4_bestTest 24 = .ok (.aload_n 0, 1) := by decide +kernel
theorem dX4_bestTest_25 : decode cX4_bestTest 25 = .ok (.aload_n 1, 1) := by decide +kernel
theorem dX4_bestTest_26 : decode cX4_bestTest 26 = .ok (.iconst 0, 1) := by decide +kernel
theorem dX4_bestTest_27 : decode cX4_bestTest 27 = .ok (.invokevirtual 37, 3) := by decide +kernel
theorem dX4_bestTest_30 : decode cX4_bestTest 30 = .ok (.istore 4, 2) := by decide +kernel
theorem dX4_bestTest_32 : decode cX4_bestTest 32 = .ok (.iconst 1, 1) := by decide +kernel
theorem dX4_bestTest_33 : decode cX4_bestTest 33 = .ok (.aload_n 1, 1) := by decide +kernel
theorem dX4_bestTest_34 : decode cX4_bestTest 34 = .ok (.getfield 28, 3) := by decide +kernel
theorem dX4_bestTest_37 : decode cX4_bestTest 37 = .ok (.ishl, 1) := by decide +kernel
theorem dX4_bestTest_38 : decode cX4_bestTest 38 = .ok (.istore 5, 2) := by decide +kernel
theorem dX4_bestTest_40 : decode cX4_bestTest 40 = .ok (.iconst 1, 1) := by decide +kernel
theorem dX4_bestTest_41 : decode cX4_bestTest 41 = .ok (.istore 6, 2) := by decide +kernel
theorem dX4_bestTest_43 : decode cX4_bestTest 43 = .ok (.iload 6, 2) := by decide +kernel
theorem dX4_bestTest_45 : decode cX4_bestTest 45 = .ok (.iload 5, 2) := by decide +kernel
theorem dX4_bestTest_47 : decode cX4_bestTest 47 = .ok (.if_icmp .ge 63, 3) := by decide +kernel
theorem dX4_bestTest_50 : decode cX4_bestTest 50 = .ok (.aload_n 0, 1) := by decide +kernel
theorem dX4_bestTest_51 : decode cX4_bestTest 51 = .ok (.aload_n 1, 1) := by decide +kernel
theorem dX4_bestTest_52 : decode cX4_bestTest 52 = .ok (.iload 6, 2) := by decide +kernel
theorem dX4_bestTest_54 : decode cX4_bestTest 54 = .ok (.invokevirtual 37, 3) := by decide +kernel
theorem dX4_bestTest_57 : decode cX4_bestTest 57 = .ok (.istore 7, 2) := by decide +kernel
theorem dX4_bestTest_59 : decode cX4_bestTest 59 = .ok (.iload 6, 2) := by decide +kernel
theorem dX4_bestTest_61 : decode cX4_bestTest 61 = .ok (.invokestatic 41, 3) := by decide +kernel
theorem dX4_bestTest_64 : decode cX4_bestTest 64 = .ok (.iload_n 3, 1) := by decide +kernel
theorem dX4_bestTest_65 : decode cX4_bestTest 65 = .ok (.invokestatic 41, 3) := by decide +kernel
theorem dX4_bestTest_68 : decode cX4_bestTest 68 = .ok (.if_icmp .ge 7, 3) := by decide +kernel
theorem dX4_bestTest_71 : decode cX4_bestTest 71 = .ok (.iconst 1, 1) := by decide +kernel
theorem dX4_bestTest_72 : decode cX4_bestTest 72 = .ok (.goto 4, 3) := by decide +kernel
theorem dX4_bestTest_75 : decode cX4_bestTest 75 = .ok (.iconst 0, 1) := by decide +kernel
theorem dX4_bestTest_76 : decode cX4_bestTest 76 = .ok (.istore 8, 2) := by decide +kernel
theorem dX4_bestTest_78 : decode cX4_bestTest 78 = .ok (.iload 7, 2) := by decide +kernel
theorem dX4_bestTest_80 : decode cX4_bestTest 80 = .ok (.iload 4, 2) := by decide +kernel
theorem dX4_bestTest_82 : decode cX4_bestTest 82 = .ok (.if_icmp .lt 15, 3) := by decide +kernel
theorem dX4_bestTest_85 : decode cX4_bestTest 85 = .ok (.iload 7, 2) := by decide +kernel
theorem dX4_bestTest_87 : decode cX4_bestTest 87 = .ok (.iload 4, 2) := by decide +kernel
theorem dX4_bestTest_89 : decode cX4_bestTest 89 = .ok (.if_icmp .ne 15, 3) := by decide +kernel
theorem dX4_bestTest_92 : decode cX4_bestTest 92 = .ok (.iload 8, 2) := by decide +kernel
theorem dX4_bestTest_94 : decode cX4_bestTest 94 = .ok (.ifCond .eq 10, 3) := by decide +kernel
theorem dX4_bestTest_97 : decode cX4_bestTest 97 = .ok (.iload 6, 2) := by decide +kernel
theorem dX4_bestTest_99 : decode cX4_bestTest 99 = .ok (.istore_n 3, 1) := by decide +kernel
theorem dX4_bestTest_100 : decode cX4_bestTest 100 = .ok (.iload 7, 2) := by decide +kernel
theorem dX4_bestTest_102 : decode cX4_bestTest 102 = .ok (.istore 4, 2) := by decide +kernel
theorem dX4_bestTest_104 : decode cX4_bestTest 104 = .ok (.iinc 6 1, 3) := by decide +kernel
theorem dX4_bestTest_107 : decode cX4_bestTest 107 = .ok (.goto (-64), 3) := by decide +kernel
theorem dX4_bestTest_110 : decode cX4_bestTest 110 = .ok (.iload_n 2, 1) := by decide +kernel
theorem dX4_bestTest_111 : decode cX4_bestTest 111 = .ok (.ifCond .ne 7, 3) := by decide +kernel
theorem dX4_bestTest_114 : decode cX4_bestTest 114 = .ok (.iload_n 3, 1) := by decide +kernel
theorem dX4_bestTest_115 : decode cX4_bestTest 115 = .ok (.goto 5, 3) := by decide +kernel
theorem dX4_bestTest_118 : decode cX4_bestTest 118 = .ok (.iload 4, 2) := by decide +kernel
theorem dX4_bestTest_120 : decode cX4_bestTest 120 = .ok (.ireturn, 1) := by decide +kernel
theorem dX4_leftAtWorst_0 : decode cX4_leftAtWorst 0 = .ok (.aload_n 0, 1) := by decide +kernel
theorem dX4_leftAtWorst_1 : decode cX4_leftAtWorst 1 = .ok (.aload_n 1, 1) := by decide +kernel
theorem dX4_leftAtWorst_2 : decode cX4_leftAtWorst 2 = .ok (.iload_n 2, 1) := by decide +kernel
theorem dX4_leftAtWorst_3 : decode cX4_leftAtWorst 3 = .ok (.invokevirtual 32, 3) := by decide +kernel
theorem dX4_leftAtWorst_6 : decode cX4_leftAtWorst 6 = .ok (.iconst 0, 1) := by decide +kernel
theorem dX4_leftAtWorst_7 : decode cX4_leftAtWorst 7 = .ok (.istore_n 3, 1) := by decide +kernel
theorem dX4_leftAtWorst_8 : decode cX4_leftAtWorst 8 = .ok (.iconst 0, 1) := by decide +kernel
theorem dX4_leftAtWorst_9 : decode cX4_leftAtWorst 9 = .ok (.istore 4, 2) := by decide +kernel
theorem dX4_leftAtWorst_11 : decode cX4_leftAtWorst 11 = .ok (.iload 4, 2) := by decide +kernel
theorem dX4_leftAtWorst_13 : decode cX4_leftAtWorst 13 = .ok (.aload_n 1, 1) := by decide +kernel
theorem dX4_leftAtWorst_14 : decode cX4_leftAtWorst 14 = .ok (.getfield 15, 3) := by decide +kernel
theorem dX4_leftAtWorst_17 : decode cX4_leftAtWorst 17 = .ok (.if_icmp .ge 29, 3) := by decide +kernel
theorem dX4_leftAtWorst_20 : decode cX4_leftAtWorst 20 = .ok (.iload_n 3, 1) := by decide +kernel
theorem dX4_leftAtWorst_21 : decode cX4_leftAtWorst 21 = .ok (.aload_n 0, 1) := by decide +kernel
theorem dX4_leftAtWorst_22 : decode cX4_leftAtWorst 22 = .ok (.getfield 9, 3) := by decide +kernel
theorem dX4_leftAtWorst_25 : decode cX4_leftAtWorst 25 = .ok (.iload 4, 2) := by decide +kernel
theorem dX4_leftAtWorst_27 : decode cX4_leftAtWorst 27 = .ok (.iaload, 1) := by decide +kernel
theorem dX4_leftAtWorst_28 : decode cX4_leftAtWorst 28 = .ok (.aload_n 0, 1) := by decide +kernel
theorem dX4_leftAtWorst_29 : decode cX4_leftAtWorst 29 = .ok (.getfield 21, 3) := by decide +kernel
theorem dX4_leftAtWorst_32 : decode cX4_leftAtWorst 32 = .ok (.iand, 1) := by decide +kernel
theorem dX4_leftAtWorst_33 : decode cX4_leftAtWorst 33 = .ok (.invokestatic 41, 3) := by decide +kernel
theorem dX4_leftAtWorst_36 : decode cX4_leftAtWorst 36 = .ok (.invokestatic 47, 3) := by decide +kernel
theorem dX4_leftAtWorst_39 : decode cX4_leftAtWorst 39 = .ok (.istore_n 3, 1) := by decide +kernel
theorem dX4_leftAtWorst_40 : decode cX4_leftAtWorst 40 = .ok (.iinc 4 1, 3) := by decide +kernel
theorem dX4_leftAtWorst_43 : decode cX4_leftAtWorst 43 = .ok (.goto (-32), 3) := by decide +kernel
theorem dX4_leftAtWorst_46 : decode cX4_leftAtWorst 46 = .ok (.iload_n 3, 1) := by decide +kernel
theorem dX4_leftAtWorst_47 : decode cX4_leftAtWorst 47 = .ok (.ireturn, 1) := by decide +kernel
theorem dX4_findParts_0 : decode cX4_findParts 0 = .ok (.iconst 0, 1) := by decide +kernel
theorem dX4_findParts_1 : decode cX4_findParts 1 = .ok (.istore_n 3, 1) := by decide +kernel
theorem dX4_findParts_2 : decode cX4_findParts 2 = .ok (.iload_n 3, 1) := by decide +kernel
theorem dX4_findParts_3 : decode cX4_findParts 3 = .ok (.aload_n 1, 1) := by decide +kernel
theorem dX4_findParts_4 : decode cX4_findParts 4 = .ok (.getfield 15, 3) := by decide +kernel
theorem dX4_findParts_7 : decode cX4_findParts 7 = .ok (.if_icmp .ge 18, 3) := by decide +kernel
theorem dX4_findParts_10 : decode cX4_findParts 10 = .ok (.aload_n 0, 1) := by decide +kernel
theorem dX4_findParts_11 : decode cX4_findParts 11 = .ok (.getfield 9, 3) := by decide +kernel
theorem dX4_findParts_14 : decode cX4_findParts 14 = .ok (.iload_n 3, 1) := by decide +kernel
theorem dX4_findParts_15 : decode cX4_findParts 15 = .ok (.iconst 1, 1) := by decide +kernel
theorem dX4_findParts_16 : decode cX4_findParts 16 = .ok (.iload_n 3, 1) := by decide +kernel
theorem dX4_findParts_17 : decode cX4_findParts 17 = .ok (.ishl, 1) := by decide +kernel
theorem dX4_findParts_18 : decode cX4_findParts 18 = .ok (.iastore, 1) := by decide +kernel
theorem dX4_findParts_19 : decode cX4_findParts 19 = .ok (.iinc 3 1, 3) := by decide +kernel
theorem dX4_findParts_22 : decode cX4_findParts 22 = .ok (.goto (-20), 3) := by decide +kernel
theorem dX4_findParts_25 : decode cX4_findParts 25 = .ok (.iconst 0, 1) := by decide +kernel
theorem dX4_findParts_26 : decode cX4_findParts 26 = .ok (.istore_n 3, 1) := by decide +kernel
theorem dX4_findParts_27 : decode cX4_findParts 27 = .ok (.iload_n 3, 1) := by decide +kernel
theorem dX4_findParts_28 : decode cX4_findParts 28 = .ok (.aload_n 1, 1) := by decide +kernel
theorem dX4_findParts_29 : decode cX4_findParts 29 = .ok (.getfield 28, 3) := by decide +kernel
theorem dX4_findParts_32 : decode cX4_findParts 32 = .ok (.if_icmp .ge 45, 3) := by decide +kernel
theorem dX4_findParts_35 : decode cX4_findParts 35 = .ok (.iload_n 2, 1) := by decide +kernel
theorem dX4_findParts_36 : decode cX4_findParts 36 = .ok (.iload_n 3, 1) := by decide +kernel
theorem dX4_findParts_37 : decode cX4_findParts 37 = .ok (.ishr, 1) := by decide +kernel
theorem dX4_findParts_38 : decode cX4_findParts 38 = .ok (.iconst 1, 1) := by decide +kernel
theorem dX4_findParts_39 : decode cX4_findParts 39 = .ok (.iand, 1) := by decide +kernel
theorem dX4_findParts_40 : decode cX4_findParts 40 = .ok (.ifCond .ne 31, 3) := by decide +kernel
theorem dX4_findParts_43 : decode cX4_findParts 43 = .ok (.aload_n 0, 1) := by decide +kernel
theorem dX4_findParts_44 : decode cX4_findParts 44 = .ok (.aload_n 1, 1) := by decide +kernel
theorem dX4_findParts_45 : decode cX4_findParts 45 = .ok (.aload_n 0, 1) := by decide +kernel
theorem dX4_findParts_46 : decode cX4_findParts 46 = .ok (.getfield 9, 3) := by decide +kernel
theorem dX4_findParts_49 : decode cX4_findParts 49 = .ok (.aload_n 1, 1) := by decide +kernel
theorem dX4_findParts_50 : decode cX4_findParts 50 = .ok (.getfield 53, 3) := by decide +kernel
theorem dX4_findParts_53 : decode cX4_findParts 53 = .ok (.iload_n 3, 1) := by decide +kernel
theorem dX4_findParts_54 : decode cX4_findParts 54 = .ok (.iaload, 1) := by decide +kernel
theorem dX4_findParts_55 : decode cX4_findParts 55 = .ok (.iaload, 1) := by decide +kernel
theorem dX4_findParts_56 : decode cX4_findParts 56 = .ok (.aload_n 0, 1) := by decide +kernel
theorem dX4_findParts_57 : decode cX4_findParts 57 = .ok (.getfield 9, 3) := by decide +kernel
theorem dX4_findParts_60 : decode cX4_findParts 60 = .ok (.aload_n 1, 1) := by decide +kernel
theorem dX4_findParts_61 : decode cX4_findParts 61 = .ok (.getfield 56, 3) := by decide +kernel
theorem dX4_findParts_64 : decode cX4_findParts 64 = .ok (.iload_n 3, 1) := by decide +kernel
theorem dX4_findParts_65 : decode cX4_findParts 65 = .ok (.iaload, 1) := by decide +kernel
theorem dX4_findParts_66 : decode cX4_findParts 66 = .ok (.iaload, 1) := by decide +kernel
theorem dX4_findParts_67 : decode cX4_findParts 67 = .ok (.ior, 1) := by decide +kernel
theorem dX4_findParts_68 : decode cX4_findParts 68 = .ok (.invokevirtual 59, 3) := by decide +kernel
theorem dX4_findParts_71 : decode cX4_findParts 71 = .ok (.iinc 3 1, 3) := by decide +kernel
theorem dX4_findParts_74 : decode cX4_findParts 74 = .ok (.goto (-47), 3) := by decide +kernel
theorem dX4_findParts_77 : decode cX4_findParts 77 = .ok (.return_, 1) := by decide +kernel
theorem dX4_join_0 : decode cX4_join 0 = .ok (.iconst 0, 1) := by decide +kernel
theorem dX4_join_1 : decode cX4_join 1 = .ok (.istore_n 3, 1) := by decide +kernel
theorem dX4_join_2 : decode cX4_join 2 = .ok (.iload_n 3, 1) := by decide +kernel
theorem dX4_join_3 : decode cX4_join 3 = .ok (.aload_n 1, 1) := by decide +kernel
theorem dX4_join_4 : decode cX4_join 4 = .ok (.getfield 15, 3) := by decide +kernel
theorem dX4_join_7 : decode cX4_join 7 = .ok (.if_icmp .ge 25, 3) := by decide +kernel
theorem dX4_join_10 : decode cX4_join 10 = .ok (.iload_n 2, 1) := by decide +kernel
theorem dX4_join_11 : decode cX4_join 11 = .ok (.iload_n 3, 1) := by decide +kernel
theorem dX4_join_12 : decode cX4_join 12 = .ok (.ishr, 1) := by decide +kernel
theorem dX4_join_13 : decode cX4_join 13 = .ok (.iconst 1, 1) := by decide +kernel
theorem dX4_join_14 : decode cX4_join 14 = .ok (.iand, 1) := by decide +kernel
theorem dX4_join_15 : decode cX4_join 15 = .ok (.iconst 1, 1) := by decide +kernel
theorem dX4_join_16 : decode cX4_join 16 = .ok (.if_icmp .ne 10, 3) := by decide +kernel
theorem dX4_join_19 : decode cX4_join 19 = .ok (.aload_n 0, 1) := by decide +kernel
theorem dX4_join_20 : decode cX4_join 20 = .ok (.getfield 9, 3) := by decide +kernel
theorem dX4_join_23 : decode cX4_join 23 = .ok (.iload_n 3, 1) := by decide +kernel
theorem dX4_join_24 : decode cX4_join 24 = .ok (.iload_n 2, 1) := by decide +kernel
theorem dX4_join_25 : decode cX4_join 25 = .ok (.iastore, 1) := by decide +kernel
theorem dX4_join_26 : decode cX4_join 26 = .ok (.iinc 3 1, 3) := by decide +kernel
theorem dX4_join_29 : decode cX4_join 29 = .ok (.goto (-27), 3) := by decide +kernel
theorem dX4_join_32 : decode cX4_join 32 = .ok (.return_, 1) := by decide +kernel
