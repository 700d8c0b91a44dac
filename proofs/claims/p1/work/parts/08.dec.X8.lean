theorem dX8_init_0 : decode cX8_init 0 = .ok (.aload_n 0, 1) := by decide +kernel
theorem dX8_init_1 : decode cX8_init 1 = .ok (.invokespecial 3, 3) := by decide +kernel
theorem dX8_init_4 : decode cX8_init 4 = .ok (.aload_n 0, 1) := by decide +kernel
theorem dX8_init_5 : decode cX8_init 5 = .ok (.new 9, 3) := by decide +kernel
theorem dX8_init_8 : decode cX8_init 8 = .ok (.dup, 1) := by decide +kernel
theorem dX8_init_9 : decode cX8_init 9 = .ok (.invokespecial 11, 3) := by decide +kernel
theorem dX8_init_12 : decode cX8_init 12 = .ok (.putfield 12, 3) := by decide +kernel
theorem dX8_init_15 : decode cX8_init 15 = .ok (.aload_n 0, 1) := by decide +kernel
theorem dX8_init_16 : decode cX8_init 16 = .ok (.new 18, 3) := by decide +kernel
theorem dX8_init_19 : decode cX8_init 19 = .ok (.dup, 1) := by decide +kernel
theorem dX8_init_20 : decode cX8_init 20 = .ok (.invokespecial 20, 3) := by decide +kernel
theorem dX8_init_23 : decode cX8_init 23 = .ok (.putfield 21, 3) := by decide +kernel
theorem dX8_init_26 : decode cX8_init 26 = .ok (.aload_n 0, 1) := by decide +kernel
theorem dX8_init_27 : decode cX8_init 27 = .ok (.new 25, 3) := by decide +kernel
theorem dX8_init_30 : decode cX8_init 30 = .ok (.dup, 1) := by decide +kernel
theorem dX8_init_31 : decode cX8_init 31 = .ok (.invokespecial 27, 3) := by decide +kernel
theorem dX8_init_34 : decode cX8_init 34 = .ok (.putfield 28, 3) := by decide +kernel
theorem dX8_init_37 : decode cX8_init 37 = .ok (.aload_n 0, 1) := by decide +kernel
theorem dX8_init_38 : decode cX8_init 38 = .ok (.new 32, 3) := by decide +kernel
theorem dX8_init_41 : decode cX8_init 41 = .ok (.dup, 1) := by decide +kernel
theorem dX8_init_42 : decode cX8_init 42 = .ok (.invokespecial 34, 3) := by decide +kernel
theorem dX8_init_45 : decode cX8_init 45 = .ok (.putfield 35, 3) := by decide +kernel
theorem dX8_init_48 : decode cX8_init 48 = .ok (.aload_n 0, 1) := by decide +kernel
theorem dX8_init_49 : decode cX8_init 49 = .ok (.new 39, 3) := by decide +kernel
theorem dX8_init_52 : decode cX8_init 52 = .ok (.dup, 1) := by decide +kernel
theorem dX8_init_53 : decode cX8_init 53 = .ok (.invokespecial 41, 3) := by decide +kernel
theorem dX8_init_56 : decode cX8_init 56 = .ok (.putfield 42, 3) := by decide +kernel
theorem dX8_init_59 : decode cX8_init 59 = .ok (.aload_n 0, 1) := by decide +kernel
theorem dX8_init_60 : decode cX8_init 60 = .ok (.aload_n 1, 1) := by decide +kernel
theorem dX8_init_61 : decode cX8_init 61 = .ok (.putfield 46, 3) := by decide +kernel
theorem dX8_init_64 : decode cX8_init 64 = .ok (.return_, 1) := by decide +kernel
theorem dX8_becomeLike_0 : decode cX8_becomeLike 0 = .ok (.aload_n 0, 1) := by decide +kernel
theorem dX8_becomeLike_1 : decode cX8_becomeLike 1 = .ok (.getfield 12, 3) := by decide +kernel
theorem dX8_becomeLike_4 : decode cX8_becomeLike 4 = .ok (.aload_n 1, 1) := by decide +kernel
theorem dX8_becomeLike_5 : decode cX8_becomeLike 5 = .ok (.getfield 12, 3) := by decide +kernel
theorem dX8_becomeLike_8 : decode cX8_becomeLike 8 = .ok (.invokevirtual 50, 3) := by decide +kernel
theorem dX8_becomeLike_11 : decode cX8_becomeLike 11 = .ok (.aload_n 0, 1) := by decide +kernel
theorem dX8_becomeLike_12 : decode cX8_becomeLike 12 = .ok (.getfield 21, 3) := by decide +kernel
theorem dX8_becomeLike_15 : decode cX8_becomeLike 15 = .ok (.aload_n 1, 1) := by decide +kernel
theorem dX8_becomeLike_16 : decode cX8_becomeLike 16 = .ok (.getfield 21, 3) := by decide +kernel
theorem dX8_becomeLike_19 : decode cX8_becomeLike 19 = .ok (.invokevirtual 54, 3) := by decide +kernel
theorem dX8_becomeLike_22 : decode cX8_becomeLike 22 = .ok (.aload_n 0, 1) := by decide +kernel
theorem dX8_becomeLike_23 : decode cX8_becomeLike 23 = .ok (.getfield 28, 3) := by decide +kernel
theorem dX8_becomeLike_26 : decode cX8_becomeLike 26 = .ok (.aload_n 1, 1) := by decide +kernel
theorem dX8_becomeLike_27 : decode cX8_becomeLike 27 = .ok (.getfield 28, 3) := by decide +kernel
theorem dX8_becomeLike_30 : decode cX8_becomeLike 30 = .ok (.invokevirtual 57, 3) := by decide +kernel
theorem dX8_becomeLike_33 : decode cX8_becomeLike 33 = .ok (.aload_n 0, 1) := by decide +kernel
theorem dX8_becomeLike_34 : decode cX8_becomeLike 34 = .ok (.getfield 35, 3) := by decide +kernel
theorem dX8_becomeLike_37 : decode cX8_becomeLike 37 = .ok (.aload_n 1, 1) := by decide +kernel
theorem dX8_becomeLike_38 : decode cX8_becomeLike 38 = .ok (.getfield 35, 3) := by decide +kernel
theorem dX8_becomeLike_41 : decode cX8_becomeLike 41 = .ok (.invokevirtual 60, 3) := by decide +kernel
theorem dX8_becomeLike_44 : decode cX8_becomeLike 44 = .ok (.aload_n 0, 1) := by decide +kernel
theorem dX8_becomeLike_45 : decode cX8_becomeLike 45 = .ok (.getfield 42, 3) := by decide +kernel
theorem dX8_becomeLike_48 : decode cX8_becomeLike 48 = .ok (.aload_n 1, 1) := by decide +kernel
theorem dX8_becomeLike_49 : decode cX8_becomeLike 49 = .ok (.getfield 42, 3) := by decide +kernel
theorem dX8_becomeLike_52 : decode cX8_becomeLike 52 = .ok (.invokevirtual 63, 3) := by decide +kernel
theorem dX8_becomeLike_55 : decode cX8_becomeLike 55 = .ok (.aload_n 0, 1) := by decide +kernel
theorem dX8_becomeLike_56 : decode cX8_becomeLike 56 = .ok (.aload_n 1, 1) := by decide +kernel
theorem dX8_becomeLike_57 : decode cX8_becomeLike 57 = .ok (.getfield 66, 3) := by decide +kernel
theorem dX8_becomeLike_60 : decode cX8_becomeLike 60 = .ok (.putfield 66, 3) := by decide +kernel
theorem dX8_becomeLike_63 : decode cX8_becomeLike 63 = .ok (.return_, 1) := by decide +kernel
theorem dX8_passTick_0 : decode cX8_passTick 0 = .ok (.aload_n 0, 1) := by decide +kernel
theorem dX8_passTick_1 : decode cX8_passTick 1 = .ok (.invokevirtual 70, 3) := by decide +kernel
theorem dX8_passTick_4 : decode cX8_passTick 4 = .ok (.aload_n 0, 1) := by decide +kernel
theorem dX8_passTick_5 : decode cX8_passTick 5 = .ok (.getfield 21, 3) := by decide +kernel
theorem dX8_passTick_8 : decode cX8_passTick 8 = .ok (.aload_n 0, 1) := by decide +kernel
theorem dX8_passTick_9 : decode cX8_passTick 9 = .ok (.getfield 28, 3) := by decide +kernel
theorem dX8_passTick_12 : decode cX8_passTick 12 = .ok (.invokevirtual 73, 3) := by decide +kernel
theorem dX8_passTick_15 : decode cX8_passTick 15 = .ok (.aload_n 0, 1) := by decide +kernel
theorem dX8_passTick_16 : decode cX8_passTick 16 = .ok (.getfield 28, 3) := by decide +kernel
theorem dX8_passTick_19 : decode cX8_passTick 19 = .ok (.aload_n 0, 1) := by decide +kernel
theorem dX8_passTick_20 : decode cX8_passTick 20 = .ok (.getfield 66, 3) := by decide +kernel
theorem dX8_passTick_23 : decode cX8_passTick 23 = .ok (.invokevirtual 76, 3) := by decide +kernel
theorem dX8_passTick_26 : decode cX8_passTick 26 = .ok (.aload_n 0, 1) := by decide +kernel
theorem dX8_passTick_27 : decode cX8_passTick 27 = .ok (.getfield 28, 3) := by decide +kernel
theorem dX8_passTick_30 : decode cX8_passTick 30 = .ok (.aload_n 0, 1) := by decide +kernel
theorem dX8_passTick_31 : decode cX8_passTick 31 = .ok (.getfield 12, 3) := by decide +kernel
theorem dX8_passTick_34 : decode cX8_passTick 34 = .ok (.invokevirtual 80, 3) := by decide +kernel
theorem dX8_passTick_37 : decode cX8_passTick 37 = .ok (.aload_n 0, 1) := by decide +kernel
theorem dX8_passTick_38 : decode cX8_passTick 38 = .ok (.getfield 21, 3) := by decide +kernel
theorem dX8_passTick_41 : decode cX8_passTick 41 = .ok (.aload_n 0, 1) := by decide +kernel
theorem dX8_passTick_42 : decode cX8_passTick 42 = .ok (.getfield 12, 3) := by decide +kernel
theorem dX8_passTick_45 : decode cX8_passTick 45 = .ok (.invokevirtual 83, 3) := by decide +kernel
theorem dX8_passTick_48 : decode cX8_passTick 48 = .ok (.aload_n 0, 1) := by decide +kernel
theorem dX8_passTick_49 : decode cX8_passTick 49 = .ok (.getfield 12, 3) := by decide +kernel
theorem dX8_passTick_52 : decode cX8_passTick 52 = .ok (.invokevirtual 86, 3) := by decide +kernel
theorem dX8_passTick_55 : decode cX8_passTick 55 = .ok (.aload_n 0, 1) := by decide +kernel
theorem dX8_passTick_56 : decode cX8_passTick 56 = .ok (.getfield 12, 3) := by decide +kernel
theorem dX8_passTick_59 : decode cX8_passTick 59 = .ok (.invokevirtual 89, 3) := by decide +kernel
theorem dX8_passTick_62 : decode cX8_passTick 62 = .ok (.aload_n 0, 1) := by decide +kernel
theorem dX8_passTick_63 : decode cX8_passTick 63 = .ok (.getfield 35, 3) := by decide +kernel
theorem dX8_passTick_66 : decode cX8_passTick 66 = .ok (.aload_n 0, 1) := by decide +kernel
theorem dX8_passTick_67 : decode cX8_passTick 67 = .ok (.getfield 12, 3) := by decide +kernel
theorem dX8_passTick_70 : decode cX8_passTick 70 = .ok (.aload_n 0, 1) := by decide +kernel
theorem dX8_passTick_71 : decode cX8_passTick 71 = .ok (.getfield 21, 3) := by decide +kernel
theorem dX8_passTick_74 : decode cX8_passTick 74 = .ok (.aload_n 0, 1) := by decide +kernel
theorem dX8_passTick_75 : decode cX8_passTick 75 = .ok (.getfield 66, 3) := by decide +kernel
theorem dX8_passTick_78 : decode cX8_passTick 78 = .ok (.invokevirtual 92, 3) := by decide +kernel
theorem dX8_passTick_81 : decode cX8_passTick 81 = .ok (.istore_n 1, 1) := by decide +kernel
theorem dX8_passTick_82 : decode cX8_passTick 82 = .ok (.aload_n 0, 1) := by decide +kernel
theorem dX8_passTick_83 : decode cX8_passTick 83 = .ok (.dup, 1) := by decide +kernel
theorem dX8_passTick_84 : decode cX8_passTick 84 = .ok (.getfield 66, 3) := by decide +kernel
theorem dX8_passTick_87 : decode cX8_passTick 87 = .ok (.iconst 1, 1) := by decide +kernel
theorem dX8_passTick_88 : decode cX8_passTick 88 = .ok (.iadd, 1) := by decide +kernel
theorem dX8_passTick_89 : decode cX8_passTick 89 = .ok (.putfield 66, 3) := by decide +kernel
theorem dX8_passTick_92 : decode cX8_passTick 92 = .ok (.iload_n 1, 1) := by decide +kernel
theorem dX8_passTick_93 : decode cX8_passTick 93 = .ok (.ireturn, 1) := by decide +kernel
theorem dX8_walk_0 : decode cX8_walk 0 = .ok (.aload_n 0, 1) := by decide +kernel
theorem dX8_walk_1 : decode cX8_walk 1 = .ok (.getfield 21, 3) := by decide +kernel
theorem dX8_walk_4 : decode cX8_walk 4 = .ok (.iload_n 1, 1) := by decide +kernel
theorem dX8_walk_5 : decode cX8_walk 5 = .ok (.invokevirtual 96, 3) := by decide +kernel
theorem dX8_walk_8 : decode cX8_walk 8 = .ok (.ifCond .eq 14, 3) := by decide +kernel
theorem dX8_walk_11 : decode cX8_walk 11 = .ok (.aload_n 0, 1) := by decide +kernel
theorem dX8_walk_12 : decode cX8_walk 12 = .ok (.getfield 12, 3) := by decide +kernel
theorem dX8_walk_15 : decode cX8_walk 15 = .ok (.iload_n 2, 1) := by decide +kernel
theorem dX8_walk_16 : decode cX8_walk 16 = .ok (.invokevirtual 100, 3) := by decide +kernel
theorem dX8_walk_19 : decode cX8_walk 19 = .ok (.ifCond .ne 6, 3) := by decide +kernel
theorem dX8_walk_22 : decode cX8_walk 22 = .ok (.ldc 103, 2) := by decide +kernel
theorem dX8_walk_24 : decode cX8_walk 24 = .ok (.ireturn, 1) := by decide +kernel
theorem dX8_walk_25 : decode cX8_walk 25 = .ok (.aload_n 0, 1) := by decide +kernel
theorem dX8_walk_26 : decode cX8_walk 26 = .ok (.getfield 21, 3) := by decide +kernel
theorem dX8_walk_29 : decode cX8_walk 29 = .ok (.iload_n 1, 1) := by decide +kernel
theorem dX8_walk_30 : decode cX8_walk 30 = .ok (.invokevirtual 104, 3) := by decide +kernel
theorem dX8_walk_33 : decode cX8_walk 33 = .ok (.ifCond .ne 36, 3) := by decide +kernel
theorem dX8_walk_36 : decode cX8_walk 36 = .ok (.aload_n 0, 1) := by decide +kernel
theorem dX8_walk_37 : decode cX8_walk 37 = .ok (.getfield 21, 3) := by decide +kernel
theorem dX8_walk_40 : decode cX8_walk 40 = .ok (.getfield 107, 3) := by decide +kernel
theorem dX8_walk_43 : decode cX8_walk 43 = .ok (.iload_n 1, 1) := by decide +kernel
theorem dX8_walk_44 : decode cX8_walk 44 = .ok (.iaload, 1) := by decide +kernel
theorem dX8_walk_45 : decode cX8_walk 45 = .ok (.iload_n 2, 1) := by decide +kernel
theorem dX8_walk_46 : decode cX8_walk 46 = .ok (.if_icmp .eq 23, 3) := by decide +kernel
theorem dX8_walk_49 : decode cX8_walk 49 = .ok (.aload_n 0, 1) := by decide +kernel
theorem dX8_walk_50 : decode cX8_walk 50 = .ok (.getfield 12, 3) := by decide +kernel
theorem dX8_walk_53 : decode cX8_walk 53 = .ok (.aload_n 0, 1) := by decide +kernel
theorem dX8_walk_54 : decode cX8_walk 54 = .ok (.getfield 21, 3) := by decide +kernel
theorem dX8_walk_57 : decode cX8_walk 57 = .ok (.getfield 107, 3) := by decide +kernel
theorem dX8_walk_60 : decode cX8_walk 60 = .ok (.iload_n 1, 1) := by decide +kernel
theorem dX8_walk_61 : decode cX8_walk 61 = .ok (.iaload, 1) := by decide +kernel
theorem dX8_walk_62 : decode cX8_walk 62 = .ok (.iload_n 2, 1) := by decide +kernel
theorem dX8_walk_63 : decode cX8_walk 63 = .ok (.invokevirtual 111, 3) := by decide +kernel
theorem dX8_walk_66 : decode cX8_walk 66 = .ok (.ifCond .ne 6, 3) := by decide +kernel
theorem dX8_walk_69 : decode cX8_walk 69 = .ok (.ldc 115, 2) := by decide +kernel
theorem dX8_walk_71 : decode cX8_walk 71 = .ok (.ireturn, 1) := by decide +kernel
theorem dX8_walk_72 : decode cX8_walk 72 = .ok (.aload_n 0, 1) := by decide +kernel
theorem dX8_walk_73 : decode cX8_walk 73 = .ok (.getfield 21, 3) := by decide +kernel
theorem dX8_walk_76 : decode cX8_walk 76 = .ok (.getfield 107, 3) := by decide +kernel
theorem dX8_walk_79 : decode cX8_walk 79 = .ok (.iload_n 1, 1) := by decide +kernel
theorem dX8_walk_80 : decode cX8_walk 80 = .ok (.iload_n 2, 1) := by decide +kernel
theorem dX8_walk_81 : decode cX8_walk 81 = .ok (.iastore, 1) := by decide +kernel
theorem dX8_walk_82 : decode cX8_walk 82 = .ok (.iconst 1, 1) := by decide +kernel
theorem dX8_walk_83 : decode cX8_walk 83 = .ok (.ireturn, 1) := by decide +kernel
theorem dX8_mend_0 : decode cX8_mend 0 = .ok (.aload_n 0, 1) := by decide +kernel
theorem dX8_mend_1 : decode cX8_mend 1 = .ok (.getfield 21, 3) := by decide +kernel
theorem dX8_mend_4 : decode cX8_mend 4 = .ok (.iload_n 1, 1) := by decide +kernel
theorem dX8_mend_5 : decode cX8_mend 5 = .ok (.invokevirtual 96, 3) := by decide +kernel
theorem dX8_mend_8 : decode cX8_mend 8 = .ok (.ifCond .eq 25, 3) := by decide +kernel
theorem dX8_mend_11 : decode cX8_mend 11 = .ok (.aload_n 0, 1) := by decide +kernel
theorem dX8_mend_12 : decode cX8_mend 12 = .ok (.getfield 28, 3) := by decide +kernel
theorem dX8_mend_15 : decode cX8_mend 15 = .ok (.iload_n 2, 1) := by decide +kernel
theorem dX8_mend_16 : decode cX8_mend 16 = .ok (.invokevirtual 116, 3) := by decide +kernel
theorem dX8_mend_19 : decode cX8_mend 19 = .ok (.ifCond .eq 14, 3) := by decide +kernel
theorem dX8_mend_22 : decode cX8_mend 22 = .ok (.iload_n 3, 1) := by decide +kernel
theorem dX8_mend_23 : decode cX8_mend 23 = .ok (.iconst 1, 1) := by decide +kernel
theorem dX8_mend_24 : decode cX8_mend 24 = .ok (.if_icmp .lt 9, 3) := by decide +kernel
theorem dX8_mend_27 : decode cX8_mend 27 = .ok (.iload_n 3, 1) := by decide +kernel
theorem dX8_mend_28 : decode cX8_mend 28 = .ok (.bipush 60, 2) := by decide +kernel
theorem dX8_mend_30 : decode cX8_mend 30 = .ok (.if_icmp .le 6, 3) := by decide +kernel
theorem dX8_mend_33 : decode cX8_mend 33 = .ok (.ldc 103, 2) := by decide +kernel
theorem dX8_mend_35 : decode cX8_mend 35 = .ok (.ireturn, 1) := by decide +kernel
theorem dX8_mend_36 : decode cX8_mend 36 = .ok (.aload_n 0, 1) := by decide +kernel
theorem dX8_mend_37 : decode cX8_mend 37 = .ok (.getfield 28, 3) := by decide +kernel
theorem dX8_mend_40 : decode cX8_mend 40 = .ok (.getfield 117, 3) := by decide +kernel
theorem dX8_mend_43 : decode cX8_mend 43 = .ok (.iload_n 2, 1) := by decide +kernel
theorem dX8_mend_44 : decode cX8_mend 44 = .ok (.baload, 1) := by decide +kernel
theorem dX8_mend_45 : decode cX8_mend 45 = .ok (.ifCond .eq 46, 3) := by decide +kernel
theorem dX8_mend_48 : decode cX8_mend 48 = .ok (.aload_n 0, 1) := by decide +kernel
theorem dX8_mend_49 : decode cX8_mend 49 = .ok (.getfield 21, 3) := by decide +kernel
theorem dX8_mend_52 : decode cX8_mend 52 = .ok (.iload_n 2, 1) := by decide +kernel
theorem dX8_mend_53 : decode cX8_mend 53 = .ok (.invokevirtual 121, 3) := by decide +kernel
theorem dX8_mend_56 : decode cX8_mend 56 = .ok (.ifCond .ne 35, 3) := by decide +kernel
theorem dX8_mend_59 : decode cX8_mend 59 = .ok (.aload_n 0, 1) := by decide +kernel
theorem dX8_mend_60 : decode cX8_mend 60 = .ok (.getfield 21, 3) := by decide +kernel
theorem dX8_mend_63 : decode cX8_mend 63 = .ok (.iload_n 1, 1) := by decide +kernel
theorem dX8_mend_64 : decode cX8_mend 64 = .ok (.invokevirtual 104, 3) := by decide +kernel
theorem dX8_mend_67 : decode cX8_mend 67 = .ok (.ifCond .ne 24, 3) := by decide +kernel
theorem dX8_mend_70 : decode cX8_mend 70 = .ok (.aload_n 0, 1) := by decide +kernel
theorem dX8_mend_71 : decode cX8_mend 71 = .ok (.getfield 21, 3) := by decide +kernel
theorem dX8_mend_74 : decode cX8_mend 74 = .ok (.getfield 107, 3) := by decide +kernel
theorem dX8_mend_77 : decode cX8_mend 77 = .ok (.iload_n 1, 1) := by decide +kernel
theorem dX8_mend_78 : decode cX8_mend 78 = .ok (.iaload, 1) := by decide +kernel
theorem dX8_mend_79 : decode cX8_mend 79 = .ok (.aload_n 0, 1) := by decide +kernel
theorem dX8_mend_80 : decode cX8_mend 80 = .ok (.getfield 28, 3) := by decide +kernel
theorem dX8_mend_83 : decode cX8_mend 83 = .ok (.getfield 124, 3) := by decide +kernel
theorem dX8_mend_86 : decode cX8_mend 86 = .ok (.iload_n 2, 1) := by decide +kernel
theorem dX8_mend_87 : decode cX8_mend 87 = .ok (.iaload, 1) := by decide +kernel
theorem dX8_mend_88 : decode cX8_mend 88 = .ok (.if_icmp .eq 6, 3) := by decide +kernel
theorem dX8_mend_91 : decode cX8_mend 91 = .ok (.ldc 115, 2) := by decide +kernel
theorem dX8_mend_93 : decode cX8_mend 93 = .ok (.ireturn, 1) := by decide +kernel
theorem dX8_mend_94 : decode cX8_mend 94 = .ok (.aload_n 0, 1) := by decide +kernel
theorem dX8_mend_95 : decode cX8_mend 95 = .ok (.getfield 28, 3) := by decide +kernel
theorem dX8_mend_98 : decode cX8_mend 98 = .ok (.getfield 125, 3) := by decide +kernel
theorem dX8_mend_101 : decode cX8_mend 101 = .ok (.iload_n 2, 1) := by decide +kernel
theorem dX8_mend_102 : decode cX8_mend 102 = .ok (.iaload, 1) := by decide +kernel
theorem dX8_mend_103 : decode cX8_mend 103 = .ok (.istore 4, 2) := by decide +kernel
theorem dX8_mend_105 : decode cX8_mend 105 = .ok (.aload_n 0, 1) := by decide +kernel
theorem dX8_mend_106 : decode cX8_mend 106 = .ok (.getfield 28, 3) := by decide +kernel
theorem dX8_mend_109 : decode cX8_mend 109 = .ok (.getfield 128, 3) := by decide +kernel
theorem dX8_mend_112 : decode cX8_mend 112 = .ok (.iload 4, 2) := by decide +kernel
theorem dX8_mend_114 : decode cX8_mend 114 = .ok (.iaload, 1) := by decide +kernel
theorem dX8_mend_115 : decode cX8_mend 115 = .ok (.iconst 1, 1) := by decide +kernel
theorem dX8_mend_116 : decode cX8_mend 116 = .ok (.if_icmp .ge 6, 3) := by decide +kernel
theorem dX8_mend_119 : decode cX8_mend 119 = .ok (.ldc 131, 2) := by decide +kernel
theorem dX8_mend_121 : decode cX8_mend 121 = .ok (.ireturn, 1) := by decide +kernel
theorem dX8_mend_122 : decode cX8_mend 122 = .ok (.aload_n 0, 1) := by decide +kernel
theorem dX8_mend_123 : decode cX8_mend 123 = .ok (.getfield 28, 3) := by decide +kernel
theorem dX8_mend_126 : decode cX8_mend 126 = .ok (.getfield 128, 3) := by decide +kernel
theorem dX8_mend_129 : decode cX8_mend 129 = .ok (.iload 4, 2) := by decide +kernel
theorem dX8_mend_131 : decode cX8_mend 131 = .ok (.dup2, 1) := by decide +kernel
theorem dX8_mend_132 : decode cX8_mend 132 = .ok (.iaload, 1) := by decide +kernel
theorem dX8_mend_133 : decode cX8_mend 133 = .ok (.iconst 1, 1) := by decide +kernel
theorem dX8_mend_134 : decode cX8_mend 134 = .ok (.isub, 1) := by decide +kernel
theorem dX8_mend_135 : decode cX8_mend 135 = .ok (.iastore, 1) := by decide +kernel
theorem dX8_mend_136 : decode cX8_mend 136 = .ok (.aload_n 0, 1) := by decide +kernel
theorem dX8_mend_137 : decode cX8_mend 137 = .ok (.getfield 21, 3) := by decide +kernel
theorem dX8_mend_140 : decode cX8_mend 140 = .ok (.iload_n 1, 1) := by decide +kernel
theorem dX8_mend_141 : decode cX8_mend 141 = .ok (.iload_n 2, 1) := by decide +kernel
theorem dX8_mend_142 : decode cX8_mend 142 = .ok (.iload_n 3, 1) := by decide +kernel
theorem dX8_mend_143 : decode cX8_mend 143 = .ok (.invokevirtual 132, 3) := by decide +kernel
theorem dX8_mend_146 : decode cX8_mend 146 = .ok (.aload_n 0, 1) := by decide +kernel
theorem dX8_mend_147 : decode cX8_mend 147 = .ok (.getfield 28, 3) := by decide +kernel
theorem dX8_mend_150 : decode cX8_mend 150 = .ok (.getfield 128, 3) := by decide +kernel
theorem dX8_mend_153 : decode cX8_mend 153 = .ok (.iload 4, 2) := by decide +kernel
theorem dX8_mend_155 : decode cX8_mend 155 = .ok (.iaload, 1) := by decide +kernel
theorem dX8_mend_156 : decode cX8_mend 156 = .ok (.ireturn, 1) := by decide +kernel
theorem dX8_doText_0 : decode cX8_doText 0 = .ok (.aload_n 0, 1) := by decide +kernel
theorem dX8_doText_1 : decode cX8_doText 1 = .ok (.getfield 42, 3) := by decide +kernel
theorem dX8_doText_4 : decode cX8_doText 4 = .ok (.getfield 136, 3) := by decide +kernel
theorem dX8_doText_7 : decode cX8_doText 7 = .ok (.ifCond .eq 13, 3) := by decide +kernel
theorem dX8_doText_10 : decode cX8_doText 10 = .ok (.aload_n 0, 1) := by decide +kernel
theorem dX8_doText_11 : decode cX8_doText 11 = .ok (.getfield 42, 3) := by decide +kernel
theorem dX8_doText_14 : decode cX8_doText 14 = .ok (.getfield 140, 3) := by decide +kernel
theorem dX8_doText_17 : decode cX8_doText 17 = .ok (.ifCond .eq 4, 3) := by decide +kernel
theorem dX8_doText_20 : decode cX8_doText 20 = .ok (.return_, 1) := by decide +kernel
theorem dX8_doText_21 : decode cX8_doText 21 = .ok (.aload_n 0, 1) := by decide +kernel
theorem dX8_doText_22 : decode cX8_doText 22 = .ok (.getfield 42, 3) := by decide +kernel
theorem dX8_doText_25 : decode cX8_doText 25 = .ok (.getfield 143, 3) := by decide +kernel
theorem dX8_doText_28 : decode cX8_doText 28 = .ok (.ifCond .le 17, 3) := by decide +kernel
theorem dX8_doText_31 : decode cX8_doText 31 = .ok (.aload_n 0, 1) := by decide +kernel
theorem dX8_doText_32 : decode cX8_doText 32 = .ok (.getfield 42, 3) := by decide +kernel
theorem dX8_doText_35 : decode cX8_doText 35 = .ok (.dup, 1) := by decide +kernel
theorem dX8_doText_36 : decode cX8_doText 36 = .ok (.getfield 143, 3) := by decide +kernel
theorem dX8_doText_39 : decode cX8_doText 39 = .ok (.iconst 1, 1) := by decide +kernel
theorem dX8_doText_40 : decode cX8_doText 40 = .ok (.isub, 1) := by decide +kernel
theorem dX8_doText_41 : decode cX8_doText 41 = .ok (.putfield 143, 3) := by decide +kernel
theorem dX8_doText_44 : decode cX8_doText 44 = .ok (.return_, 1) := by decide +kernel
theorem dX8_doText_45 : decode cX8_doText 45 = .ok (.aload_n 0, 1) := by decide +kernel
theorem dX8_doText_46 : decode cX8_doText 46 = .ok (.getfield 42, 3) := by decide +kernel
theorem dX8_doText_49 : decode cX8_doText 49 = .ok (.getfield 146, 3) := by decide +kernel
theorem dX8_doText_52 : decode cX8_doText 52 = .ok (.istore_n 1, 1) := by decide +kernel
theorem dX8_doText_53 : decode cX8_doText 53 = .ok (.aload_n 0, 1) := by decide +kernel
theorem dX8_doText_54 : decode cX8_doText 54 = .ok (.getfield 46, 3) := by decide +kernel
theorem dX8_doText_57 : decode cX8_doText 57 = .ok (.iload_n 1, 1) := by decide +kernel
theorem dX8_doText_58 : decode cX8_doText 58 = .ok (.invokevirtual 149, 3) := by decide +kernel
theorem dX8_doText_61 : decode cX8_doText 61 = .ok (.ifCond .ne 14, 3) := by decide +kernel
theorem dX8_doText_64 : decode cX8_doText 64 = .ok (.aload_n 0, 1) := by decide +kernel
theorem dX8_doText_65 : decode cX8_doText 65 = .ok (.getfield 42, 3) := by decide +kernel
theorem dX8_doText_68 : decode cX8_doText 68 = .ok (.iconst 4, 1) := by decide +kernel
theorem dX8_doText_69 : decode cX8_doText 69 = .ok (.invokevirtual 152, 3) := by decide +kernel
theorem dX8_doText_72 : decode cX8_doText 72 = .ok (.goto 52, 3) := by decide +kernel
theorem dX8_doText_75 : decode cX8_doText 75 = .ok (.aload_n 0, 1) := by decide +kernel
theorem dX8_doText_76 : decode cX8_doText 76 = .ok (.getfield 46, 3) := by decide +kernel
theorem dX8_doText_79 : decode cX8_doText 79 = .ok (.getfield 155, 3) := by decide +kernel
theorem dX8_doText_82 : decode cX8_doText 82 = .ok (.iload_n 1, 1) := by decide +kernel
theorem dX8_doText_83 : decode cX8_doText 83 = .ok (.iaload, 1) := by decide +kernel
theorem dX8_doText_84 : decode cX8_doText 84 = .ok (.ifCond .ne 28, 3) := by decide +kernel
theorem dX8_doText_87 : decode cX8_doText 87 = .ok (.aload_n 0, 1) := by decide +kernel
theorem dX8_doText_88 : decode cX8_doText 88 = .ok (.getfield 42, 3) := by decide +kernel
theorem dX8_doText_91 : decode cX8_doText 91 = .ok (.aload_n 0, 1) := by decide +kernel
theorem dX8_doText_92 : decode cX8_doText 92 = .ok (.getfield 42, 3) := by decide +kernel
theorem dX8_doText_95 : decode cX8_doText 95 = .ok (.getfield 158, 3) := by decide +kernel
theorem dX8_doText_98 : decode cX8_doText 98 = .ok (.ifCond .eq 7, 3) := by decide +kernel
theorem dX8_doText_101 : decode cX8_doText 101 = .ok (.iconst 2, 1) := by decide +kernel
theorem dX8_doText_102 : decode cX8_doText 102 = .ok (.goto 4, 3) := by decide +kernel
theorem dX8_doText_105 : decode cX8_doText 105 = .ok (.iconst 1, 1) := by decide +kernel
theorem dX8_doText_106 : decode cX8_doText 106 = .ok (.invokevirtual 152, 3) := by decide +kernel
theorem dX8_doText_109 : decode cX8_doText 109 = .ok (.goto 15, 3) := by decide +kernel
theorem dX8_doText_112 : decode cX8_doText 112 = .ok (.aload_n 0, 1) := by decide +kernel
theorem dX8_doText_113 : decode cX8_doText 113 = .ok (.getfield 42, 3) := by decide +kernel
theorem dX8_doText_116 : decode cX8_doText 116 = .ok (.aload_n 0, 1) := by decide +kernel
theorem dX8_doText_117 : decode cX8_doText 117 = .ok (.iload_n 1, 1) := by decide +kernel
theorem dX8_doText_118 : decode cX8_doText 118 = .ok (.invokevirtual 161, 3) := by decide +kernel
theorem dX8_doText_121 : decode cX8_doText 121 = .ok (.invokevirtual 165, 3) := by decide +kernel
theorem dX8_doText_124 : decode cX8_doText 124 = .ok (.return_, 1) := by decide +kernel
theorem dX8_lineAfter_0 : decode cX8_lineAfter 0 = .ok (.aload_n 0, 1) := by decide +kernel
theorem dX8_lineAfter_1 : decode cX8_lineAfter 1 = .ok (.getfield 46, 3) := by decide +kernel
theorem dX8_lineAfter_4 : decode cX8_lineAfter 4 = .ok (.getfield 168, 3) := by decide +kernel
theorem dX8_lineAfter_7 : decode cX8_lineAfter 7 = .ok (.iload_n 1, 1) := by decide +kernel
theorem dX8_lineAfter_8 : decode cX8_lineAfter 8 = .ok (.iaload, 1) := by decide +kernel
theorem dX8_lineAfter_9 : decode cX8_lineAfter 9 = .ok (.istore_n 2, 1) := by decide +kernel
theorem dX8_lineAfter_10 : decode cX8_lineAfter 10 = .ok (.aload_n 0, 1) := by decide +kernel
theorem dX8_lineAfter_11 : decode cX8_lineAfter 11 = .ok (.getfield 46, 3) := by decide +kernel
theorem dX8_lineAfter_14 : decode cX8_lineAfter 14 = .ok (.getfield 155, 3) := by decide +kernel
theorem dX8_lineAfter_17 : decode cX8_lineAfter 17 = .ok (.iload_n 1, 1) := by decide +kernel
theorem dX8_lineAfter_18 : decode cX8_lineAfter 18 = .ok (.iaload, 1) := by decide +kernel
theorem dX8_lineAfter_19 : decode cX8_lineAfter 19 = .ok (.tableswitch 130 1 10 #[53, 130, 130, 130, 130, 103, 130, 78, 61, 59], 53) := by decide +kernel
theorem dX8_lineAfter_72 : decode cX8_lineAfter 72 = .ok (.aload_n 0, 1) := by decide +kernel
theorem dX8_lineAfter_73 : decode cX8_lineAfter 73 = .ok (.iload_n 1, 1) := by decide +kernel
theorem dX8_lineAfter_74 : decode cX8_lineAfter 74 = .ok (.invokevirtual 171, 3) := by decide +kernel
theorem dX8_lineAfter_77 : decode cX8_lineAfter 77 = .ok (.ireturn, 1) := by decide +kernel
theorem dX8_lineAfter_78 : decode cX8_lineAfter 78 = .ok (.iconst (-1), 1) := by decide +kernel
theorem dX8_lineAfter_79 : decode cX8_lineAfter 79 = .ok (.ireturn, 1) := by decide +kernel
theorem dX8_lineAfter_80 : decode cX8_lineAfter 80 = .ok (.aload_n 0, 1) := by decide +kernel
theorem dX8_lineAfter_81 : decode cX8_lineAfter 81 = .ok (.getfield 46, 3) := by decide +kernel
theorem dX8_lineAfter_84 : decode cX8_lineAfter 84 = .ok (.iload_n 2, 1) := by decide +kernel
theorem dX8_lineAfter_85 : decode cX8_lineAfter 85 = .ok (.invokevirtual 149, 3) := by decide +kernel
theorem dX8_lineAfter_88 : decode cX8_lineAfter 88 = .ok (.ifCond .eq 7, 3) := by decide +kernel
theorem dX8_lineAfter_91 : decode cX8_lineAfter 91 = .ok (.iload_n 2, 1) := by decide +kernel
theorem dX8_lineAfter_92 : decode cX8_lineAfter 92 = .ok (.goto 4, 3) := by decide +kernel
theorem dX8_lineAfter_95 : decode cX8_lineAfter 95 = .ok (.iconst (-1), 1) := by decide +kernel
theorem dX8_lineAfter_96 : decode cX8_lineAfter 96 = .ok (.ireturn, 1) := by decide +kernel
theorem dX8_lineAfter_97 : decode cX8_lineAfter 97 = .ok (.aload_n 0, 1) := by decide +kernel
theorem dX8_lineAfter_98 : decode cX8_lineAfter 98 = .ok (.getfield 46, 3) := by decide +kernel
theorem dX8_lineAfter_101 : decode cX8_lineAfter 101 = .ok (.iload_n 2, 1) := by decide +kernel
theorem dX8_lineAfter_102 : decode cX8_lineAfter 102 = .ok (.invokevirtual 149, 3) := by decide +kernel
theorem dX8_lineAfter_105 : decode cX8_lineAfter 105 = .ok (.ifCond .ne 5, 3) := by decide +kernel
theorem dX8_lineAfter_108 : decode cX8_lineAfter 108 = .ok (.iconst (-1), 1) := by decide +kernel
theorem dX8_lineAfter_109 : decode cX8_lineAfter 109 = .ok (.ireturn, 1) := by decide +kernel
theorem dX8_lineAfter_110 : decode cX8_lineAfter 110 = .ok (.aload_n 0, 1) := by decide +kernel
theorem dX8_lineAfter_111 : decode cX8_lineAfter 111 = .ok (.getfield 42, 3) := by decide +kernel
theorem dX8_lineAfter_114 : decode cX8_lineAfter 114 = .ok (.iload_n 2, 1) := by decide +kernel
theorem dX8_lineAfter_115 : decode cX8_lineAfter 115 = .ok (.putfield 174, 3) := by decide +kernel
theorem dX8_lineAfter_118 : decode cX8_lineAfter 118 = .ok (.iload_n 1, 1) := by decide +kernel
theorem dX8_lineAfter_119 : decode cX8_lineAfter 119 = .ok (.iconst 1, 1) := by decide +kernel
theorem dX8_lineAfter_120 : decode cX8_lineAfter 120 = .ok (.iadd, 1) := by decide +kernel
theorem dX8_lineAfter_121 : decode cX8_lineAfter 121 = .ok (.ireturn, 1) := by decide +kernel
theorem dX8_lineAfter_122 : decode cX8_lineAfter 122 = .ok (.iload_n 2, 1) := by decide +kernel
theorem dX8_lineAfter_123 : decode cX8_lineAfter 123 = .ok (.iconst 1, 1) := by decide +kernel
theorem dX8_lineAfter_124 : decode cX8_lineAfter 124 = .ok (.if_icmp .lt 9, 3) := by decide +kernel
theorem dX8_lineAfter_127 : decode cX8_lineAfter 127 = .ok (.iload_n 2, 1) := by decide +kernel
theorem dX8_lineAfter_128 : decode cX8_lineAfter 128 = .ok (.bipush 100, 2) := by decide +kernel
theorem dX8_lineAfter_130 : decode cX8_lineAfter 130 = .ok (.if_icmp .le 5, 3) := by decide +kernel
theorem dX8_lineAfter_133 : decode cX8_lineAfter 133 = .ok (.iconst (-1), 1) := by decide +kernel
theorem dX8_lineAfter_134 : decode cX8_lineAfter 134 = .ok (.ireturn, 1) := by decide +kernel
theorem dX8_lineAfter_135 : decode cX8_lineAfter 135 = .ok (.aload_n 0, 1) := by decide +kernel
theorem dX8_lineAfter_136 : decode cX8_lineAfter 136 = .ok (.getfield 42, 3) := by decide +kernel
theorem dX8_lineAfter_139 : decode cX8_lineAfter 139 = .ok (.iload_n 2, 1) := by decide +kernel
theorem dX8_lineAfter_140 : decode cX8_lineAfter 140 = .ok (.iconst 1, 1) := by decide +kernel
theorem dX8_lineAfter_141 : decode cX8_lineAfter 141 = .ok (.isub, 1) := by decide +kernel
theorem dX8_lineAfter_142 : decode cX8_lineAfter 142 = .ok (.putfield 143, 3) := by decide +kernel
theorem dX8_lineAfter_145 : decode cX8_lineAfter 145 = .ok (.iload_n 1, 1) := by decide +kernel
theorem dX8_lineAfter_146 : decode cX8_lineAfter 146 = .ok (.iconst 1, 1) := by decide +kernel
theorem dX8_lineAfter_147 : decode cX8_lineAfter 147 = .ok (.iadd, 1) := by decide +kernel
theorem dX8_lineAfter_148 : decode cX8_lineAfter 148 = .ok (.ireturn, 1) := by decide +kernel
theorem dX8_lineAfter_149 : decode cX8_lineAfter 149 = .ok (.aload_n 0, 1) := by decide +kernel
theorem dX8_lineAfter_150 : decode cX8_lineAfter 150 = .ok (.iload_n 1, 1) := by decide +kernel
theorem dX8_lineAfter_151 : decode cX8_lineAfter 151 = .ok (.invokevirtual 177, 3) := by decide +kernel
theorem dX8_lineAfter_154 : decode cX8_lineAfter 154 = .ok (.ldc 180, 2) := by decide +kernel
theorem dX8_lineAfter_156 : decode cX8_lineAfter 156 = .ok (.if_icmp .ge 7, 3) := by decide +kernel
theorem dX8_lineAfter_159 : decode cX8_lineAfter 159 = .ok (.iconst (-1), 1) := by decide +kernel
theorem dX8_lineAfter_160 : decode cX8_lineAfter 160 = .ok (.goto 6, 3) := by decide +kernel
theorem dX8_lineAfter_163 : decode cX8_lineAfter 163 = .ok (.iload_n 1, 1) := by decide +kernel
theorem dX8_lineAfter_164 : decode cX8_lineAfter 164 = .ok (.iconst 1, 1) := by decide +kernel
theorem dX8_lineAfter_165 : decode cX8_lineAfter 165 = .ok (.iadd, 1) := by decide +kernel
theorem dX8_lineAfter_166 : decode cX8_lineAfter 166 = .ok (.ireturn, 1) := by decide +kernel
theorem dX8_actByText_0 : decode cX8_actByText 0 = .ok (.aload_n 0, 1) := by decide +kernel
theorem dX8_actByText_1 : decode cX8_actByText 1 = .ok (.getfield 46, 3) := by decide +kernel
theorem dX8_actByText_4 : decode cX8_actByText 4 = .ok (.getfield 168, 3) := by decide +kernel
theorem dX8_actByText_7 : decode cX8_actByText 7 = .ok (.iload_n 1, 1) := by decide +kernel
theorem dX8_actByText_8 : decode cX8_actByText 8 = .ok (.iaload, 1) := by decide +kernel
theorem dX8_actByText_9 : decode cX8_actByText 9 = .ok (.istore_n 2, 1) := by decide +kernel
theorem dX8_actByText_10 : decode cX8_actByText 10 = .ok (.aload_n 0, 1) := by decide +kernel
theorem dX8_actByText_11 : decode cX8_actByText 11 = .ok (.getfield 46, 3) := by decide +kernel
theorem dX8_actByText_14 : decode cX8_actByText 14 = .ok (.getfield 181, 3) := by decide +kernel
theorem dX8_actByText_17 : decode cX8_actByText 17 = .ok (.iload_n 1, 1) := by decide +kernel
theorem dX8_actByText_18 : decode cX8_actByText 18 = .ok (.iaload, 1) := by decide +kernel
theorem dX8_actByText_19 : decode cX8_actByText 19 = .ok (.istore_n 3, 1) := by decide +kernel
theorem dX8_actByText_20 : decode cX8_actByText 20 = .ok (.aload_n 0, 1) := by decide +kernel
theorem dX8_actByText_21 : decode cX8_actByText 21 = .ok (.getfield 46, 3) := by decide +kernel
theorem dX8_actByText_24 : decode cX8_actByText 24 = .ok (.getfield 155, 3) := by decide +kernel
theorem dX8_actByText_27 : decode cX8_actByText 27 = .ok (.iload_n 1, 1) := by decide +kernel
theorem dX8_actByText_28 : decode cX8_actByText 28 = .ok (.iaload, 1) := by decide +kernel
theorem dX8_actByText_29 : decode cX8_actByText 29 = .ok (.tableswitch 118 2 11 #[55, 65, 75, 85, 118, 95, 118, 118, 118, 102], 55) := by decide +kernel
theorem dX8_actByText_84 : decode cX8_actByText 84 = .ok (.aload_n 0, 1) := by decide +kernel
theorem dX8_actByText_85 : decode cX8_actByText 85 = .ok (.getfield 28, 3) := by decide +kernel
theorem dX8_actByText_88 : decode cX8_actByText 88 = .ok (.iload_n 2, 1) := by decide +kernel
theorem dX8_actByText_89 : decode cX8_actByText 89 = .ok (.iconst 1, 1) := by decide +kernel
theorem dX8_actByText_90 : decode cX8_actByText 90 = .ok (.invokevirtual 184, 3) := by decide +kernel
theorem dX8_actByText_93 : decode cX8_actByText 93 = .ok (.ireturn, 1) := by decide +kernel
theorem dX8_actByText_94 : decode cX8_actByText 94 = .ok (.aload_n 0, 1) := by decide +kernel
theorem dX8_actByText_95 : decode cX8_actByText 95 = .ok (.getfield 28, 3) := by decide +kernel
theorem dX8_actByText_98 : decode cX8_actByText 98 = .ok (.iload_n 2, 1) := by decide +kernel
theorem dX8_actByText_99 : decode cX8_actByText 99 = .ok (.iconst 0, 1) := by decide +kernel
theorem dX8_actByText_100 : decode cX8_actByText 100 = .ok (.invokevirtual 184, 3) := by decide +kernel
theorem dX8_actByText_103 : decode cX8_actByText 103 = .ok (.ireturn, 1) := by decide +kernel
theorem dX8_actByText_104 : decode cX8_actByText 104 = .ok (.aload_n 0, 1) := by decide +kernel
theorem dX8_actByText_105 : decode cX8_actByText 105 = .ok (.getfield 12, 3) := by decide +kernel
theorem dX8_actByText_108 : decode cX8_actByText 108 = .ok (.iload_n 2, 1) := by decide +kernel
theorem dX8_actByText_109 : decode cX8_actByText 109 = .ok (.iconst 1, 1) := by decide +kernel
theorem dX8_actByText_110 : decode cX8_actByText 110 = .ok (.invokevirtual 188, 3) := by decide +kernel
theorem dX8_actByText_113 : decode cX8_actByText 113 = .ok (.ireturn, 1) := by decide +kernel
theorem dX8_actByText_114 : decode cX8_actByText 114 = .ok (.aload_n 0, 1) := by decide +kernel
theorem dX8_actByText_115 : decode cX8_actByText 115 = .ok (.getfield 12, 3) := by decide +kernel
theorem dX8_actByText_118 : decode cX8_actByText 118 = .ok (.iload_n 2, 1) := by decide +kernel
theorem dX8_actByText_119 : decode cX8_actByText 119 = .ok (.iconst 0, 1) := by decide +kernel
theorem dX8_actByText_120 : decode cX8_actByText 120 = .ok (.invokevirtual 188, 3) := by decide +kernel
theorem dX8_actByText_123 : decode cX8_actByText 123 = .ok (.ireturn, 1) := by decide +kernel
theorem dX8_actByText_124 : decode cX8_actByText 124 = .ok (.aload_n 0, 1) := by decide +kernel
theorem dX8_actByText_125 : decode cX8_actByText 125 = .ok (.iload_n 2, 1) := by decide +kernel
theorem dX8_actByText_126 : decode cX8_actByText 126 = .ok (.iload_n 3, 1) := by decide +kernel
theorem dX8_actByText_127 : decode cX8_actByText 127 = .ok (.invokevirtual 191, 3) := by decide +kernel
theorem dX8_actByText_130 : decode cX8_actByText 130 = .ok (.ireturn, 1) := by decide +kernel
theorem dX8_actByText_131 : decode cX8_actByText 131 = .ok (.aload_n 0, 1) := by decide +kernel
theorem dX8_actByText_132 : decode cX8_actByText 132 = .ok (.iload_n 2, 1) := by decide +kernel
theorem dX8_actByText_133 : decode cX8_actByText 133 = .ok (.iload_n 3, 1) := by decide +kernel
theorem dX8_actByText_134 : decode cX8_actByText 134 = .ok (.aload_n 0, 1) := by decide +kernel
theorem dX8_actByText_135 : decode cX8_actByText 135 = .ok (.getfield 46, 3) := by decide +kernel
theorem dX8_actByText_138 : decode cX8_actByText 138 = .ok (.getfield 194, 3) := by decide +kernel
theorem dX8_actByText_141 : decode cX8_actByText 141 = .ok (.iload_n 1, 1) := by decide +kernel
theorem dX8_actByText_142 : decode cX8_actByText 142 = .ok (.iaload, 1) := by decide +kernel
theorem dX8_actByText_143 : decode cX8_actByText 143 = .ok (.invokevirtual 197, 3) := by decide +kernel
theorem dX8_actByText_146 : decode cX8_actByText 146 = .ok (.ireturn, 1) := by decide +kernel
theorem dX8_actByText_147 : decode cX8_actByText 147 = .ok (.ldc 115, 2) := by decide +kernel
theorem dX8_actByText_149 : decode cX8_actByText 149 = .ok (.ireturn, 1) := by decide +kernel
theorem dX8_lineAfterCheck_0 : decode cX8_lineAfterCheck 0 = .ok (.aload_n 0, 1) := by decide +kernel
theorem dX8_lineAfterCheck_1 : decode cX8_lineAfterCheck 1 = .ok (.getfield 46, 3) := by decide +kernel
theorem dX8_lineAfterCheck_4 : decode cX8_lineAfterCheck 4 = .ok (.getfield 168, 3) := by decide +kernel
theorem dX8_lineAfterCheck_7 : decode cX8_lineAfterCheck 7 = .ok (.iload_n 1, 1) := by decide +kernel
theorem dX8_lineAfterCheck_8 : decode cX8_lineAfterCheck 8 = .ok (.iaload, 1) := by decide +kernel
theorem dX8_lineAfterCheck_9 : decode cX8_lineAfterCheck 9 = .ok (.istore_n 2, 1) := by decide +kernel
theorem dX8_lineAfterCheck_10 : decode cX8_lineAfterCheck 10 = .ok (.aload_n 0, 1) := by decide +kernel
theorem dX8_lineAfterCheck_11 : decode cX8_lineAfterCheck 11 = .ok (.getfield 46, 3) := by decide +kernel
theorem dX8_lineAfterCheck_14 : decode cX8_lineAfterCheck 14 = .ok (.getfield 181, 3) := by decide +kernel
theorem dX8_lineAfterCheck_17 : decode cX8_lineAfterCheck 17 = .ok (.iload_n 1, 1) := by decide +kernel
theorem dX8_lineAfterCheck_18 : decode cX8_lineAfterCheck 18 = .ok (.iaload, 1) := by decide +kernel
theorem dX8_lineAfterCheck_19 : decode cX8_lineAfterCheck 19 = .ok (.bipush 10, 2) := by decide +kernel
theorem dX8_lineAfterCheck_21 : decode cX8_lineAfterCheck 21 = .ok (.irem, 1) := by decide +kernel
theorem dX8_lineAfterCheck_22 : decode cX8_lineAfterCheck 22 = .ok (.istore_n 3, 1) := by decide +kernel
theorem dX8_lineAfterCheck_23 : decode cX8_lineAfterCheck 23 = .ok (.aload_n 0, 1) := by decide +kernel
theorem dX8_lineAfterCheck_24 : decode cX8_lineAfterCheck 24 = .ok (.getfield 46, 3) := by decide +kernel
theorem dX8_lineAfterCheck_27 : decode cX8_lineAfterCheck 27 = .ok (.getfield 181, 3) := by decide +kernel
theorem dX8_lineAfterCheck_30 : decode cX8_lineAfterCheck 30 = .ok (.iload_n 1, 1) := by decide +kernel
theorem dX8_lineAfterCheck_31 : decode cX8_lineAfterCheck 31 = .ok (.iaload, 1) := by decide +kernel
theorem dX8_lineAfterCheck_32 : decode cX8_lineAfterCheck 32 = .ok (.bipush 10, 2) := by decide +kernel
theorem dX8_lineAfterCheck_34 : decode cX8_lineAfterCheck 34 = .ok (.idiv, 1) := by decide +kernel
theorem dX8_lineAfterCheck_35 : decode cX8_lineAfterCheck 35 = .ok (.istore 4, 2) := by decide +kernel
theorem dX8_lineAfterCheck_37 : decode cX8_lineAfterCheck 37 = .ok (.aload_n 0, 1) := by decide +kernel
theorem dX8_lineAfterCheck_38 : decode cX8_lineAfterCheck 38 = .ok (.getfield 46, 3) := by decide +kernel
theorem dX8_lineAfterCheck_41 : decode cX8_lineAfterCheck 41 = .ok (.getfield 194, 3) := by decide +kernel
theorem dX8_lineAfterCheck_44 : decode cX8_lineAfterCheck 44 = .ok (.iload_n 1, 1) := by decide +kernel
theorem dX8_lineAfterCheck_45 : decode cX8_lineAfterCheck 45 = .ok (.iaload, 1) := by decide +kernel
theorem dX8_lineAfterCheck_46 : decode cX8_lineAfterCheck 46 = .ok (.istore 5, 2) := by decide +kernel
theorem dX8_lineAfterCheck_48 : decode cX8_lineAfterCheck 48 = .ok (.aload_n 0, 1) := by decide +kernel
theorem dX8_lineAfterCheck_49 : decode cX8_lineAfterCheck 49 = .ok (.getfield 46, 3) := by decide +kernel
theorem dX8_lineAfterCheck_52 : decode cX8_lineAfterCheck 52 = .ok (.iload 5, 2) := by decide +kernel
theorem dX8_lineAfterCheck_54 : decode cX8_lineAfterCheck 54 = .ok (.invokevirtual 149, 3) := by decide +kernel
theorem dX8_lineAfterCheck_57 : decode cX8_lineAfterCheck 57 = .ok (.ifCond .eq 14, 3) := by decide +kernel
theorem dX8_lineAfterCheck_60 : decode cX8_lineAfterCheck 60 = .ok (.aload_n 0, 1) := by decide +kernel
theorem dX8_lineAfterCheck_61 : decode cX8_lineAfterCheck 61 = .ok (.iload_n 2, 1) := by decide +kernel
theorem dX8_lineAfterCheck_62 : decode cX8_lineAfterCheck 62 = .ok (.iload_n 3, 1) := by decide +kernel
theorem dX8_lineAfterCheck_63 : decode cX8_lineAfterCheck 63 = .ok (.iload 4, 2) := by decide +kernel
theorem dX8_lineAfterCheck_65 : decode cX8_lineAfterCheck 65 = .ok (.invokevirtual 201, 3) := by decide +kernel
theorem dX8_lineAfterCheck_68 : decode cX8_lineAfterCheck 68 = .ok (.ifCond .ne 5, 3) := by decide +kernel
theorem dX8_lineAfterCheck_71 : decode cX8_lineAfterCheck 71 = .ok (.iconst (-1), 1) := by decide +kernel
theorem dX8_lineAfterCheck_72 : decode cX8_lineAfterCheck 72 = .ok (.ireturn, 1) := by decide +kernel
theorem dX8_lineAfterCheck_73 : decode cX8_lineAfterCheck 73 = .ok (.aload_n 0, 1) := by decide +kernel
theorem dX8_lineAfterCheck_74 : decode cX8_lineAfterCheck 74 = .ok (.iload_n 2, 1) := by decide +kernel
theorem dX8_lineAfterCheck_75 : decode cX8_lineAfterCheck 75 = .ok (.iload_n 3, 1) := by decide +kernel
theorem dX8_lineAfterCheck_76 : decode cX8_lineAfterCheck 76 = .ok (.iload 4, 2) := by decide +kernel
theorem dX8_lineAfterCheck_78 : decode cX8_lineAfterCheck 78 = .ok (.invokevirtual 205, 3) := by decide +kernel
theorem dX8_lineAfterCheck_81 : decode cX8_lineAfterCheck 81 = .ok (.ifCond .eq 9, 3) := by decide +kernel
theorem dX8_lineAfterCheck_84 : decode cX8_lineAfterCheck 84 = .ok (.iload_n 1, 1) := by decide +kernel
theorem dX8_lineAfterCheck_85 : decode cX8_lineAfterCheck 85 = .ok (.iconst 1, 1) := by decide +kernel
theorem dX8_lineAfterCheck_86 : decode cX8_lineAfterCheck 86 = .ok (.iadd, 1) := by decide +kernel
theorem dX8_lineAfterCheck_87 : decode cX8_lineAfterCheck 87 = .ok (.goto 5, 3) := by decide +kernel
theorem dX8_lineAfterCheck_90 : decode cX8_lineAfterCheck 90 = .ok (.iload 5, 2) := by decide +kernel
theorem dX8_lineAfterCheck_92 : decode cX8_lineAfterCheck 92 = .ok (.ireturn, 1) := by decide +kernel
theorem dX8_isCheck_0 : decode cX8_isCheck 0 = .ok (.iload_n 1, 1) := by decide +kernel
theorem dX8_isCheck_1 : decode cX8_isCheck 1 = .ok (.tableswitch 65 5 7 #[27, 42, 44], 27) := by decide +kernel
theorem dX8_isCheck_28 : decode cX8_isCheck 28 = .ok (.iload_n 2, 1) := by decide +kernel
theorem dX8_isCheck_29 : decode cX8_isCheck 29 = .ok (.ifCond .lt 12, 3) := by decide +kernel
theorem dX8_isCheck_32 : decode cX8_isCheck 32 = .ok (.iload_n 2, 1) := by decide +kernel
theorem dX8_isCheck_33 : decode cX8_isCheck 33 = .ok (.iconst 4, 1) := by decide +kernel
theorem dX8_isCheck_34 : decode cX8_isCheck 34 = .ok (.if_icmp .ge 7, 3) := by decide +kernel
theorem dX8_isCheck_37 : decode cX8_isCheck 37 = .ok (.iconst 1, 1) := by decide +kernel
theorem dX8_isCheck_38 : decode cX8_isCheck 38 = .ok (.goto 4, 3) := by decide +kernel
theorem dX8_isCheck_41 : decode cX8_isCheck 41 = .ok (.iconst 0, 1) := by decide +kernel
theorem dX8_isCheck_42 : decode cX8_isCheck 42 = .ok (.ireturn, 1) := by decide +kernel
theorem dX8_isCheck_43 : decode cX8_isCheck 43 = .ok (.iconst 1, 1) := by decide +kernel
theorem dX8_isCheck_44 : decode cX8_isCheck 44 = .ok (.ireturn, 1) := by decide +kernel
theorem dX8_isCheck_45 : decode cX8_isCheck 45 = .ok (.iload_n 3, 1) := by decide +kernel
theorem dX8_isCheck_46 : decode cX8_isCheck 46 = .ok (.ifCond .ne 18, 3) := by decide +kernel
theorem dX8_isCheck_49 : decode cX8_isCheck 49 = .ok (.aload_n 0, 1) := by decide +kernel
theorem dX8_isCheck_50 : decode cX8_isCheck 50 = .ok (.getfield 28, 3) := by decide +kernel
theorem dX8_isCheck_53 : decode cX8_isCheck 53 = .ok (.iload_n 2, 1) := by decide +kernel
theorem dX8_isCheck_54 : decode cX8_isCheck 54 = .ok (.invokevirtual 116, 3) := by decide +kernel
theorem dX8_isCheck_57 : decode cX8_isCheck 57 = .ok (.ifCond .eq 7, 3) := by decide +kernel
theorem dX8_isCheck_60 : decode cX8_isCheck 60 = .ok (.iconst 1, 1) := by decide +kernel
theorem dX8_isCheck_61 : decode cX8_isCheck 61 = .ok (.goto 4, 3) := by decide +kernel
theorem dX8_isCheck_64 : decode cX8_isCheck 64 = .ok (.iconst 0, 1) := by decide +kernel
theorem dX8_isCheck_65 : decode cX8_isCheck 65 = .ok (.ireturn, 1) := by decide +kernel
theorem dX8_isCheck_66 : decode cX8_isCheck 66 = .ok (.iload_n 1, 1) := by decide +kernel
theorem dX8_isCheck_67 : decode cX8_isCheck 67 = .ok (.invokestatic 208, 3) := by decide +kernel
theorem dX8_isCheck_70 : decode cX8_isCheck 70 = .ok (.ifCond .eq 18, 3) := by decide +kernel
theorem dX8_isCheck_73 : decode cX8_isCheck 73 = .ok (.aload_n 0, 1) := by decide +kernel
theorem dX8_isCheck_74 : decode cX8_isCheck 74 = .ok (.getfield 12, 3) := by decide +kernel
theorem dX8_isCheck_77 : decode cX8_isCheck 77 = .ok (.iload_n 2, 1) := by decide +kernel
theorem dX8_isCheck_78 : decode cX8_isCheck 78 = .ok (.invokevirtual 100, 3) := by decide +kernel
theorem dX8_isCheck_81 : decode cX8_isCheck 81 = .ok (.ifCond .eq 7, 3) := by decide +kernel
theorem dX8_isCheck_84 : decode cX8_isCheck 84 = .ok (.iconst 1, 1) := by decide +kernel
theorem dX8_isCheck_85 : decode cX8_isCheck 85 = .ok (.goto 4, 3) := by decide +kernel
theorem dX8_isCheck_88 : decode cX8_isCheck 88 = .ok (.iconst 0, 1) := by decide +kernel
theorem dX8_isCheck_89 : decode cX8_isCheck 89 = .ok (.ireturn, 1) := by decide +kernel
theorem dX8_holds_0 : decode cX8_holds 0 = .ok (.iload_n 1, 1) := by decide +kernel
theorem dX8_holds_1 : decode cX8_holds 1 = .ok (.tableswitch 81 5 7 #[27, 46, 63], 27) := by decide +kernel
theorem dX8_holds_28 : decode cX8_holds 28 = .ok (.aload_n 0, 1) := by decide +kernel
theorem dX8_holds_29 : decode cX8_holds 29 = .ok (.getfield 12, 3) := by decide +kernel
theorem dX8_holds_32 : decode cX8_holds 32 = .ok (.getfield 211, 3) := by decide +kernel
theorem dX8_holds_35 : decode cX8_holds 35 = .ok (.iload_n 2, 1) := by decide +kernel
theorem dX8_holds_36 : decode cX8_holds 36 = .ok (.iaload, 1) := by decide +kernel
theorem dX8_holds_37 : decode cX8_holds 37 = .ok (.iload_n 3, 1) := by decide +kernel
theorem dX8_holds_38 : decode cX8_holds 38 = .ok (.if_icmp .lt 7, 3) := by decide +kernel
theorem dX8_holds_41 : decode cX8_holds 41 = .ok (.iconst 1, 1) := by decide +kernel
theorem dX8_holds_42 : decode cX8_holds 42 = .ok (.goto 4, 3) := by decide +kernel
theorem dX8_holds_45 : decode cX8_holds 45 = .ok (.iconst 0, 1) := by decide +kernel
theorem dX8_holds_46 : decode cX8_holds 46 = .ok (.ireturn, 1) := by decide +kernel
theorem dX8_holds_47 : decode cX8_holds 47 = .ok (.aload_n 0, 1) := by decide +kernel
theorem dX8_holds_48 : decode cX8_holds 48 = .ok (.getfield 28, 3) := by decide +kernel
theorem dX8_holds_51 : decode cX8_holds 51 = .ok (.getfield 214, 3) := by decide +kernel
theorem dX8_holds_54 : decode cX8_holds 54 = .ok (.iload_n 3, 1) := by decide +kernel
theorem dX8_holds_55 : decode cX8_holds 55 = .ok (.if_icmp .lt 7, 3) := by decide +kernel
theorem dX8_holds_58 : decode cX8_holds 58 = .ok (.iconst 1, 1) := by decide +kernel
theorem dX8_holds_59 : decode cX8_holds 59 = .ok (.goto 4, 3) := by decide +kernel
theorem dX8_holds_62 : decode cX8_holds 62 = .ok (.iconst 0, 1) := by decide +kernel
theorem dX8_holds_63 : decode cX8_holds 63 = .ok (.ireturn, 1) := by decide +kernel
theorem dX8_holds_64 : decode cX8_holds 64 = .ok (.aload_n 0, 1) := by decide +kernel
theorem dX8_holds_65 : decode cX8_holds 65 = .ok (.getfield 28, 3) := by decide +kernel
theorem dX8_holds_68 : decode cX8_holds 68 = .ok (.getfield 117, 3) := by decide +kernel
theorem dX8_holds_71 : decode cX8_holds 71 = .ok (.iload_n 2, 1) := by decide +kernel
theorem dX8_holds_72 : decode cX8_holds 72 = .ok (.baload, 1) := by decide +kernel
theorem dX8_holds_73 : decode cX8_holds 73 = .ok (.ifCond .ne 7, 3) := by decide +kernel
theorem dX8_holds_76 : decode cX8_holds 76 = .ok (.iconst 1, 1) := by decide +kernel
theorem dX8_holds_77 : decode cX8_holds 77 = .ok (.goto 4, 3) := by decide +kernel
theorem dX8_holds_80 : decode cX8_holds 80 = .ok (.iconst 0, 1) := by decide +kernel
theorem dX8_holds_81 : decode cX8_holds 81 = .ok (.ireturn, 1) := by decide +kernel
theorem dX8_holds_82 : decode cX8_holds 82 = .ok (.aload_n 0, 1) := by decide +kernel
theorem dX8_holds_83 : decode cX8_holds 83 = .ok (.getfield 12, 3) := by decide +kernel
theorem dX8_holds_86 : decode cX8_holds 86 = .ok (.iload_n 2, 1) := by decide +kernel
theorem dX8_holds_87 : decode cX8_holds 87 = .ok (.iload_n 1, 1) := by decide +kernel
theorem dX8_holds_88 : decode cX8_holds 88 = .ok (.invokevirtual 217, 3) := by decide +kernel
theorem dX8_holds_91 : decode cX8_holds 91 = .ok (.iload_n 3, 1) := by decide +kernel
theorem dX8_holds_92 : decode cX8_holds 92 = .ok (.if_icmp .lt 7, 3) := by decide +kernel
theorem dX8_holds_95 : decode cX8_holds 95 = .ok (.iconst 1, 1) := by decide +kernel
theorem dX8_holds_96 : decode cX8_holds 96 = .ok (.goto 4, 3) := by decide +kernel
theorem dX8_holds_99 : decode cX8_holds 99 = .ok (.iconst 0, 1) := by decide +kernel
theorem dX8_holds_100 : decode cX8_holds 100 = .ok (.ireturn, 1) := by decide +kernel
