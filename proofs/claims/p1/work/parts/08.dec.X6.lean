theorem dX6_init_0 : decode cX6_init 0 = .ok (.aload_n 0, 1) := by decide +kernel
theorem dX6_init_1 : decode cX6_init 1 = .ok (.invokespecial 3, 3) := by decide +kernel
theorem dX6_init_4 : decode cX6_init 4 = .ok (.aload_n 0, 1) := by decide +kernel
theorem dX6_init_5 : decode cX6_init 5 = .ok (.bipush 10, 2) := by decide +kernel
theorem dX6_init_7 : decode cX6_init 7 = .ok (.newarray .int, 2) := by decide +kernel
theorem dX6_init_9 : decode cX6_init 9 = .ok (.putfield 9, 3) := by decide +kernel
theorem dX6_init_12 : decode cX6_init 12 = .ok (.aload_n 0, 1) := by decide +kernel
theorem dX6_init_13 : decode cX6_init 13 = .ok (.bipush 10, 2) := by decide +kernel
theorem dX6_init_15 : decode cX6_init 15 = .ok (.newarray .int, 2) := by decide +kernel
theorem dX6_init_17 : decode cX6_init 17 = .ok (.putfield 15, 3) := by decide +kernel
theorem dX6_init_20 : decode cX6_init 20 = .ok (.aload_n 0, 1) := by decide +kernel
theorem dX6_init_21 : decode cX6_init 21 = .ok (.bipush 10, 2) := by decide +kernel
theorem dX6_init_23 : decode cX6_init 23 = .ok (.newarray .int, 2) := by decide +kernel
theorem dX6_init_25 : decode cX6_init 25 = .ok (.putfield 18, 3) := by decide +kernel
theorem dX6_init_28 : decode cX6_init 28 = .ok (.aload_n 0, 1) := by decide +kernel
theorem dX6_init_29 : decode cX6_init 29 = .ok (.bipush 10, 2) := by decide +kernel
theorem dX6_init_31 : decode cX6_init 31 = .ok (.newarray .int, 2) := by decide +kernel
theorem dX6_init_33 : decode cX6_init 33 = .ok (.putfield 21, 3) := by decide +kernel
theorem dX6_init_36 : decode cX6_init 36 = .ok (.aload_n 0, 1) := by decide +kernel
theorem dX6_init_37 : decode cX6_init 37 = .ok (.bipush 10, 2) := by decide +kernel
theorem dX6_init_39 : decode cX6_init 39 = .ok (.newarray .int, 2) := by decide +kernel
theorem dX6_init_41 : decode cX6_init 41 = .ok (.putfield 24, 3) := by decide +kernel
theorem dX6_init_44 : decode cX6_init 44 = .ok (.aload_n 0, 1) := by decide +kernel
theorem dX6_init_45 : decode cX6_init 45 = .ok (.bipush 10, 2) := by decide +kernel
theorem dX6_init_47 : decode cX6_init 47 = .ok (.newarray .int, 2) := by decide +kernel
theorem dX6_init_49 : decode cX6_init 49 = .ok (.putfield 27, 3) := by decide +kernel
theorem dX6_init_52 : decode cX6_init 52 = .ok (.aload_n 0, 1) := by decide +kernel
theorem dX6_init_53 : decode cX6_init 53 = .ok (.bipush 10, 2) := by decide +kernel
theorem dX6_init_55 : decode cX6_init 55 = .ok (.newarray .int, 2) := by decide +kernel
theorem dX6_init_57 : decode cX6_init 57 = .ok (.putfield 30, 3) := by decide +kernel
theorem dX6_init_60 : decode cX6_init 60 = .ok (.aload_n 0, 1) := by decide +kernel
theorem dX6_init_61 : decode cX6_init 61 = .ok (.bipush 10, 2) := by decide +kernel
theorem dX6_init_63 : decode cX6_init 63 = .ok (.newarray .boolean, 2) := by decide +kernel
theorem dX6_init_65 : decode cX6_init 65 = .ok (.putfield 33, 3) := by decide +kernel
theorem dX6_init_68 : decode cX6_init 68 = .ok (.aload_n 0, 1) := by decide +kernel
theorem dX6_init_69 : decode cX6_init 69 = .ok (.bipush 10, 2) := by decide +kernel
theorem dX6_init_71 : decode cX6_init 71 = .ok (.newarray .boolean, 2) := by decide +kernel
theorem dX6_init_73 : decode cX6_init 73 = .ok (.putfield 37, 3) := by decide +kernel
theorem dX6_init_76 : decode cX6_init 76 = .ok (.aload_n 0, 1) := by decide +kernel
theorem dX6_init_77 : decode cX6_init 77 = .ok (.bipush 10, 2) := by decide +kernel
theorem dX6_init_79 : decode cX6_init 79 = .ok (.newarray .boolean, 2) := by decide +kernel
theorem dX6_init_81 : decode cX6_init 81 = .ok (.putfield 40, 3) := by decide +kernel
theorem dX6_init_84 : decode cX6_init 84 = .ok (.aload_n 0, 1) := by decide +kernel
theorem dX6_init_85 : decode cX6_init 85 = .ok (.bipush 6, 2) := by decide +kernel
theorem dX6_init_87 : decode cX6_init 87 = .ok (.newarray .int, 2) := by decide +kernel
theorem dX6_init_89 : decode cX6_init 89 = .ok (.putfield 43, 3) := by decide +kernel
theorem dX6_init_92 : decode cX6_init 92 = .ok (.aload_n 0, 1) := by decide +kernel
theorem dX6_init_93 : decode cX6_init 93 = .ok (.sipush 1000, 3) := by decide +kernel
theorem dX6_init_96 : decode cX6_init 96 = .ok (.putfield 46, 3) := by decide +kernel
theorem dX6_init_99 : decode cX6_init 99 = .ok (.return_, 1) := by decide +kernel
theorem dX6_becomeLike_0 : decode cX6_becomeLike 0 = .ok (.aload_n 1, 1) := by decide +kernel
theorem dX6_becomeLike_1 : decode cX6_becomeLike 1 = .ok (.getfield 9, 3) := by decide +kernel
theorem dX6_becomeLike_4 : decode cX6_becomeLike 4 = .ok (.aload_n 0, 1) := by decide +kernel
theorem dX6_becomeLike_5 : decode cX6_becomeLike 5 = .ok (.getfield 9, 3) := by decide +kernel
theorem dX6_becomeLike_8 : decode cX6_becomeLike 8 = .ok (.invokestatic 50, 3) := by decide +kernel
theorem dX6_becomeLike_11 : decode cX6_becomeLike 11 = .ok (.aload_n 1, 1) := by decide +kernel
theorem dX6_becomeLike_12 : decode cX6_becomeLike 12 = .ok (.getfield 15, 3) := by decide +kernel
theorem dX6_becomeLike_15 : decode cX6_becomeLike 15 = .ok (.aload_n 0, 1) := by decide +kernel
theorem dX6_becomeLike_16 : decode cX6_becomeLike 16 = .ok (.getfield 15, 3) := by decide +kernel
theorem dX6_becomeLike_19 : decode cX6_becomeLike 19 = .ok (.invokestatic 50, 3) := by decide +kernel
theorem dX6_becomeLike_22 : decode cX6_becomeLike 22 = .ok (.aload_n 1, 1) := by decide +kernel
theorem dX6_becomeLike_23 : decode cX6_becomeLike 23 = .ok (.getfield 18, 3) := by decide +kernel
theorem dX6_becomeLike_26 : decode cX6_becomeLike 26 = .ok (.aload_n 0, 1) := by decide +kernel
theorem dX6_becomeLike_27 : decode cX6_becomeLike 27 = .ok (.getfield 18, 3) := by decide +kernel
theorem dX6_becomeLike_30 : decode cX6_becomeLike 30 = .ok (.invokestatic 50, 3) := by decide +kernel
theorem dX6_becomeLike_33 : decode cX6_becomeLike 33 = .ok (.aload_n 1, 1) := by decide +kernel
theorem dX6_becomeLike_34 : decode cX6_becomeLike 34 = .ok (.getfield 21, 3) := by decide +kernel
theorem dX6_becomeLike_37 : decode cX6_becomeLike 37 = .ok (.aload_n 0, 1) := by decide +kernel
theorem dX6_becomeLike_38 : decode cX6_becomeLike 38 = .ok (.getfield 21, 3) := by decide +kernel
theorem dX6_becomeLike_41 : decode cX6_becomeLike 41 = .ok (.invokestatic 50, 3) := by decide +kernel
theorem dX6_becomeLike_44 : decode cX6_becomeLike 44 = .ok (.aload_n 1, 1) := by decide +kernel
theorem dX6_becomeLike_45 : decode cX6_becomeLike 45 = .ok (.getfield 24, 3) := by decide +kernel
theorem dX6_becomeLike_48 : decode cX6_becomeLike 48 = .ok (.aload_n 0, 1) := by decide +kernel
theorem dX6_becomeLike_49 : decode cX6_becomeLike 49 = .ok (.getfield 24, 3) := by decide +kernel
theorem dX6_becomeLike_52 : decode cX6_becomeLike 52 = .ok (.invokestatic 50, 3) := by decide +kernel
theorem dX6_becomeLike_55 : decode cX6_becomeLike 55 = .ok (.aload_n 1, 1) := by decide +kernel
theorem dX6_becomeLike_56 : decode cX6_becomeLike 56 = .ok (.getfield 27, 3) := by decide +kernel
theorem dX6_becomeLike_59 : decode cX6_becomeLike 59 = .ok (.aload_n 0, 1) := by decide +kernel
theorem dX6_becomeLike_60 : decode cX6_becomeLike 60 = .ok (.getfield 27, 3) := by decide +kernel
theorem dX6_becomeLike_63 : decode cX6_becomeLike 63 = .ok (.invokestatic 50, 3) := by decide +kernel
theorem dX6_becomeLike_66 : decode cX6_becomeLike 66 = .ok (.aload_n 1, 1) := by decide +kernel
theorem dX6_becomeLike_67 : decode cX6_becomeLike 67 = .ok (.getfield 30, 3) := by decide +kernel
theorem dX6_becomeLike_70 : decode cX6_becomeLike 70 = .ok (.aload_n 0, 1) := by decide +kernel
theorem dX6_becomeLike_71 : decode cX6_becomeLike 71 = .ok (.getfield 30, 3) := by decide +kernel
theorem dX6_becomeLike_74 : decode cX6_becomeLike 74 = .ok (.invokestatic 50, 3) := by decide +kernel
theorem dX6_becomeLike_77 : decode cX6_becomeLike 77 = .ok (.aload_n 1, 1) := by decide +kernel
theorem dX6_becomeLike_78 : decode cX6_becomeLike 78 = .ok (.getfield 33, 3) := by decide +kernel
theorem dX6_becomeLike_81 : decode cX6_becomeLike 81 = .ok (.aload_n 0, 1) := by decide +kernel
theorem dX6_becomeLike_82 : decode cX6_becomeLike 82 = .ok (.getfield 33, 3) := by decide +kernel
theorem dX6_becomeLike_85 : decode cX6_becomeLike 85 = .ok (.invokestatic 54, 3) := by decide +kernel
theorem dX6_becomeLike_88 : decode cX6_becomeLike 88 = .ok (.aload_n 1, 1) := by decide +kernel
theorem dX6_becomeLike_89 : decode cX6_becomeLike 89 = .ok (.getfield 37, 3) := by decide +kernel
theorem dX6_becomeLike_92 : decode cX6_becomeLike 92 = .ok (.aload_n 0, 1) := by decide +kernel
theorem dX6_becomeLike_93 : decode cX6_becomeLike 93 = .ok (.getfield 37, 3) := by decide +kernel
theorem dX6_becomeLike_96 : decode cX6_becomeLike 96 = .ok (.invokestatic 54, 3) := by decide +kernel
theorem dX6_becomeLike_99 : decode cX6_becomeLike 99 = .ok (.aload_n 1, 1) := by decide +kernel
theorem dX6_becomeLike_100 : decode cX6_becomeLike 100 = .ok (.getfield 40, 3) := by decide +kernel
theorem dX6_becomeLike_103 : decode cX6_becomeLike 103 = .ok (.aload_n 0, 1) := by decide +kernel
theorem dX6_becomeLike_104 : decode cX6_becomeLike 104 = .ok (.getfield 40, 3) := by decide +kernel
theorem dX6_becomeLike_107 : decode cX6_becomeLike 107 = .ok (.invokestatic 54, 3) := by decide +kernel
theorem dX6_becomeLike_110 : decode cX6_becomeLike 110 = .ok (.aload_n 1, 1) := by decide +kernel
theorem dX6_becomeLike_111 : decode cX6_becomeLike 111 = .ok (.getfield 43, 3) := by decide +kernel
theorem dX6_becomeLike_114 : decode cX6_becomeLike 114 = .ok (.aload_n 0, 1) := by decide +kernel
theorem dX6_becomeLike_115 : decode cX6_becomeLike 115 = .ok (.getfield 43, 3) := by decide +kernel
theorem dX6_becomeLike_118 : decode cX6_becomeLike 118 = .ok (.invokestatic 50, 3) := by decide +kernel
theorem dX6_becomeLike_121 : decode cX6_becomeLike 121 = .ok (.aload_n 0, 1) := by decide +kernel
theorem dX6_becomeLike_122 : decode cX6_becomeLike 122 = .ok (.aload_n 1, 1) := by decide +kernel
theorem dX6_becomeLike_123 : decode cX6_becomeLike 123 = .ok (.getfield 58, 3) := by decide +kernel
theorem dX6_becomeLike_126 : decode cX6_becomeLike 126 = .ok (.putfield 58, 3) := by decide +kernel
theorem dX6_becomeLike_129 : decode cX6_becomeLike 129 = .ok (.aload_n 0, 1) := by decide +kernel
theorem dX6_becomeLike_130 : decode cX6_becomeLike 130 = .ok (.aload_n 1, 1) := by decide +kernel
theorem dX6_becomeLike_131 : decode cX6_becomeLike 131 = .ok (.getfield 61, 3) := by decide +kernel
theorem dX6_becomeLike_134 : decode cX6_becomeLike 134 = .ok (.putfield 61, 3) := by decide +kernel
theorem dX6_becomeLike_137 : decode cX6_becomeLike 137 = .ok (.aload_n 0, 1) := by decide +kernel
theorem dX6_becomeLike_138 : decode cX6_becomeLike 138 = .ok (.aload_n 1, 1) := by decide +kernel
theorem dX6_becomeLike_139 : decode cX6_becomeLike 139 = .ok (.getfield 46, 3) := by decide +kernel
theorem dX6_becomeLike_142 : decode cX6_becomeLike 142 = .ok (.putfield 46, 3) := by decide +kernel
theorem dX6_becomeLike_145 : decode cX6_becomeLike 145 = .ok (.aload_n 0, 1) := by decide +kernel
theorem dX6_becomeLike_146 : decode cX6_becomeLike 146 = .ok (.aload_n 1, 1) := by decide +kernel
theorem dX6_becomeLike_147 : decode cX6_becomeLike 147 = .ok (.getfield 64, 3) := by decide +kernel
theorem dX6_becomeLike_150 : decode cX6_becomeLike 150 = .ok (.putfield 64, 3) := by decide +kernel
theorem dX6_becomeLike_153 : decode cX6_becomeLike 153 = .ok (.return_, 1) := by decide +kernel
theorem dX6_isKind_0 : decode cX6_isKind 0 = .ok (.iload_n 0, 1) := by decide +kernel
theorem dX6_isKind_1 : decode cX6_isKind 1 = .ok (.ifCond .lt 13, 3) := by decide +kernel
theorem dX6_isKind_4 : decode cX6_isKind 4 = .ok (.iload_n 0, 1) := by decide +kernel
theorem dX6_isKind_5 : decode cX6_isKind 5 = .ok (.bipush 6, 2) := by decide +kernel
theorem dX6_isKind_7 : decode cX6_isKind 7 = .ok (.if_icmp .ge 7, 3) := by decide +kernel
theorem dX6_isKind_10 : decode cX6_isKind 10 = .ok (.iconst 1, 1) := by decide +kernel
theorem dX6_isKind_11 : decode cX6_isKind 11 = .ok (.goto 4, 3) := by decide +kernel
theorem dX6_isKind_14 : decode cX6_isKind 14 = .ok (.iconst 0, 1) := by decide +kernel
theorem dX6_isKind_15 : decode cX6_isKind 15 = .ok (.ireturn, 1) := by decide +kernel
theorem dX6_has_0 : decode cX6_has 0 = .ok (.iload_n 1, 1) := by decide +kernel
theorem dX6_has_1 : decode cX6_has 1 = .ok (.ifCond .lt 15, 3) := by decide +kernel
theorem dX6_has_4 : decode cX6_has 4 = .ok (.iload_n 1, 1) := by decide +kernel
theorem dX6_has_5 : decode cX6_has 5 = .ok (.aload_n 0, 1) := by decide +kernel
theorem dX6_has_6 : decode cX6_has 6 = .ok (.getfield 58, 3) := by decide +kernel
theorem dX6_has_9 : decode cX6_has 9 = .ok (.if_icmp .ge 7, 3) := by decide +kernel
theorem dX6_has_12 : decode cX6_has 12 = .ok (.iconst 1, 1) := by decide +kernel
theorem dX6_has_13 : decode cX6_has 13 = .ok (.goto 4, 3) := by decide +kernel
theorem dX6_has_16 : decode cX6_has 16 = .ok (.iconst 0, 1) := by decide +kernel
theorem dX6_has_17 : decode cX6_has 17 = .ok (.ireturn, 1) := by decide +kernel
theorem dX6_addMachine_0 : decode cX6_addMachine 0 = .ok (.iload_n 1, 1) := by decide +kernel
theorem dX6_addMachine_1 : decode cX6_addMachine 1 = .ok (.invokestatic 67, 3) := by decide +kernel
theorem dX6_addMachine_4 : decode cX6_addMachine 4 = .ok (.ifCond .eq 24, 3) := by decide +kernel
theorem dX6_addMachine_7 : decode cX6_addMachine 7 = .ok (.iload_n 3, 1) := by decide +kernel
theorem dX6_addMachine_8 : decode cX6_addMachine 8 = .ok (.invokestatic 71, 3) := by decide +kernel
theorem dX6_addMachine_11 : decode cX6_addMachine 11 = .ok (.ifCond .eq 17, 3) := by decide +kernel
theorem dX6_addMachine_14 : decode cX6_addMachine 14 = .ok (.iload 4, 2) := by decide +kernel
theorem dX6_addMachine_16 : decode cX6_addMachine 16 = .ok (.iconst 1, 1) := by decide +kernel
theorem dX6_addMachine_17 : decode cX6_addMachine 17 = .ok (.if_icmp .lt 11, 3) := by decide +kernel
theorem dX6_addMachine_20 : decode cX6_addMachine 20 = .ok (.iload 4, 2) := by decide +kernel
theorem dX6_addMachine_22 : decode cX6_addMachine 22 = .ok (.sipush 1000, 3) := by decide +kernel
theorem dX6_addMachine_25 : decode cX6_addMachine 25 = .ok (.if_icmp .le 6, 3) := by decide +kernel
theorem dX6_addMachine_28 : decode cX6_addMachine 28 = .ok (.ldc 74, 2) := by decide +kernel
theorem dX6_addMachine_30 : decode cX6_addMachine 30 = .ok (.ireturn, 1) := by decide +kernel
theorem dX6_addMachine_31 : decode cX6_addMachine 31 = .ok (.aload_n 0, 1) := by decide +kernel
theorem dX6_addMachine_32 : decode cX6_addMachine 32 = .ok (.getfield 58, 3) := by decide +kernel
theorem dX6_addMachine_35 : decode cX6_addMachine 35 = .ok (.bipush 10, 2) := by decide +kernel
theorem dX6_addMachine_37 : decode cX6_addMachine 37 = .ok (.if_icmp .lt 6, 3) := by decide +kernel
theorem dX6_addMachine_40 : decode cX6_addMachine 40 = .ok (.ldc 75, 2) := by decide +kernel
theorem dX6_addMachine_42 : decode cX6_addMachine 42 = .ok (.ireturn, 1) := by decide +kernel
theorem dX6_addMachine_43 : decode cX6_addMachine 43 = .ok (.aload_n 0, 1) := by decide +kernel
theorem dX6_addMachine_44 : decode cX6_addMachine 44 = .ok (.getfield 58, 3) := by decide +kernel
theorem dX6_addMachine_47 : decode cX6_addMachine 47 = .ok (.istore 5, 2) := by decide +kernel
theorem dX6_addMachine_49 : decode cX6_addMachine 49 = .ok (.aload_n 0, 1) := by decide +kernel
theorem dX6_addMachine_50 : decode cX6_addMachine 50 = .ok (.getfield 9, 3) := by decide +kernel
theorem dX6_addMachine_53 : decode cX6_addMachine 53 = .ok (.iload 5, 2) := by decide +kernel
theorem dX6_addMachine_55 : decode cX6_addMachine 55 = .ok (.iload_n 1, 1) := by decide +kernel
theorem dX6_addMachine_56 : decode cX6_addMachine 56 = .ok (.iastore, 1) := by decide +kernel
theorem dX6_addMachine_57 : decode cX6_addMachine 57 = .ok (.aload_n 0, 1) := by decide +kernel
theorem dX6_addMachine_58 : decode cX6_addMachine 58 = .ok (.getfield 15, 3) := by decide +kernel
theorem dX6_addMachine_61 : decode cX6_addMachine 61 = .ok (.iload 5, 2) := by decide +kernel
theorem dX6_addMachine_63 : decode cX6_addMachine 63 = .ok (.iload_n 2, 1) := by decide +kernel
theorem dX6_addMachine_64 : decode cX6_addMachine 64 = .ok (.iastore, 1) := by decide +kernel
theorem dX6_addMachine_65 : decode cX6_addMachine 65 = .ok (.aload_n 0, 1) := by decide +kernel
theorem dX6_addMachine_66 : decode cX6_addMachine 66 = .ok (.getfield 18, 3) := by decide +kernel
theorem dX6_addMachine_69 : decode cX6_addMachine 69 = .ok (.iload 5, 2) := by decide +kernel
theorem dX6_addMachine_71 : decode cX6_addMachine 71 = .ok (.iload_n 3, 1) := by decide +kernel
theorem dX6_addMachine_72 : decode cX6_addMachine 72 = .ok (.ldc 76, 2) := by decide +kernel
theorem dX6_addMachine_74 : decode cX6_addMachine 74 = .ok (.idiv, 1) := by decide +kernel
theorem dX6_addMachine_75 : decode cX6_addMachine 75 = .ok (.iastore, 1) := by decide +kernel
theorem dX6_addMachine_76 : decode cX6_addMachine 76 = .ok (.aload_n 0, 1) := by decide +kernel
theorem dX6_addMachine_77 : decode cX6_addMachine 77 = .ok (.getfield 21, 3) := by decide +kernel
theorem dX6_addMachine_80 : decode cX6_addMachine 80 = .ok (.iload 5, 2) := by decide +kernel
theorem dX6_addMachine_82 : decode cX6_addMachine 82 = .ok (.iload_n 3, 1) := by decide +kernel
theorem dX6_addMachine_83 : decode cX6_addMachine 83 = .ok (.sipush 1000, 3) := by decide +kernel
theorem dX6_addMachine_86 : decode cX6_addMachine 86 = .ok (.idiv, 1) := by decide +kernel
theorem dX6_addMachine_87 : decode cX6_addMachine 87 = .ok (.sipush 1000, 3) := by decide +kernel
theorem dX6_addMachine_90 : decode cX6_addMachine 90 = .ok (.irem, 1) := by decide +kernel
theorem dX6_addMachine_91 : decode cX6_addMachine 91 = .ok (.iastore, 1) := by decide +kernel
theorem dX6_addMachine_92 : decode cX6_addMachine 92 = .ok (.aload_n 0, 1) := by decide +kernel
theorem dX6_addMachine_93 : decode cX6_addMachine 93 = .ok (.getfield 24, 3) := by decide +kernel
theorem dX6_addMachine_96 : decode cX6_addMachine 96 = .ok (.iload 5, 2) := by decide +kernel
theorem dX6_addMachine_98 : decode cX6_addMachine 98 = .ok (.iload_n 3, 1) := by decide +kernel
theorem dX6_addMachine_99 : decode cX6_addMachine 99 = .ok (.sipush 1000, 3) := by decide +kernel
theorem dX6_addMachine_102 : decode cX6_addMachine 102 = .ok (.irem, 1) := by decide +kernel
theorem dX6_addMachine_103 : decode cX6_addMachine 103 = .ok (.iastore, 1) := by decide +kernel
theorem dX6_addMachine_104 : decode cX6_addMachine 104 = .ok (.aload_n 0, 1) := by decide +kernel
theorem dX6_addMachine_105 : decode cX6_addMachine 105 = .ok (.getfield 27, 3) := by decide +kernel
theorem dX6_addMachine_108 : decode cX6_addMachine 108 = .ok (.iload 5, 2) := by decide +kernel
theorem dX6_addMachine_110 : decode cX6_addMachine 110 = .ok (.iload 4, 2) := by decide +kernel
theorem dX6_addMachine_112 : decode cX6_addMachine 112 = .ok (.iastore, 1) := by decide +kernel
theorem dX6_addMachine_113 : decode cX6_addMachine 113 = .ok (.aload_n 0, 1) := by decide +kernel
theorem dX6_addMachine_114 : decode cX6_addMachine 114 = .ok (.getfield 33, 3) := by decide +kernel
theorem dX6_addMachine_117 : decode cX6_addMachine 117 = .ok (.iload 5, 2) := by decide +kernel
theorem dX6_addMachine_119 : decode cX6_addMachine 119 = .ok (.iconst 1, 1) := by decide +kernel
theorem dX6_addMachine_120 : decode cX6_addMachine 120 = .ok (.bastore, 1) := by decide +kernel
theorem dX6_addMachine_121 : decode cX6_addMachine 121 = .ok (.aload_n 0, 1) := by decide +kernel
theorem dX6_addMachine_122 : decode cX6_addMachine 122 = .ok (.dup, 1) := by decide +kernel
theorem dX6_addMachine_123 : decode cX6_addMachine 123 = .ok (.getfield 58, 3) := by decide +kernel
theorem dX6_addMachine_126 : decode cX6_addMachine 126 = .ok (.iconst 1, 1) := by decide +kernel
theorem dX6_addMachine_127 : decode cX6_addMachine 127 = .ok (.iadd, 1) := by decide +kernel
theorem dX6_addMachine_128 : decode cX6_addMachine 128 = .ok (.putfield 58, 3) := by decide +kernel
theorem dX6_addMachine_131 : decode cX6_addMachine 131 = .ok (.iload 5, 2) := by decide +kernel
theorem dX6_addMachine_133 : decode cX6_addMachine 133 = .ok (.ireturn, 1) := by decide +kernel
theorem dX6_isUse_0 : decode cX6_isUse 0 = .ok (.iload_n 0, 1) := by decide +kernel
theorem dX6_isUse_1 : decode cX6_isUse 1 = .ok (.ifCond .lt 40, 3) := by decide +kernel
theorem dX6_isUse_4 : decode cX6_isUse 4 = .ok (.iload_n 0, 1) := by decide +kernel
theorem dX6_isUse_5 : decode cX6_isUse 5 = .ok (.ldc 76, 2) := by decide +kernel
theorem dX6_isUse_7 : decode cX6_isUse 7 = .ok (.idiv, 1) := by decide +kernel
theorem dX6_isUse_8 : decode cX6_isUse 8 = .ok (.bipush 100, 2) := by decide +kernel
theorem dX6_isUse_10 : decode cX6_isUse 10 = .ok (.if_icmp .gt 31, 3) := by decide +kernel
theorem dX6_isUse_13 : decode cX6_isUse 13 = .ok (.iload_n 0, 1) := by decide +kernel
theorem dX6_isUse_14 : decode cX6_isUse 14 = .ok (.sipush 1000, 3) := by decide +kernel
theorem dX6_isUse_17 : decode cX6_isUse 17 = .ok (.idiv, 1) := by decide +kernel
theorem dX6_isUse_18 : decode cX6_isUse 18 = .ok (.sipush 1000, 3) := by decide +kernel
theorem dX6_isUse_21 : decode cX6_isUse 21 = .ok (.irem, 1) := by decide +kernel
theorem dX6_isUse_22 : decode cX6_isUse 22 = .ok (.bipush 100, 2) := by decide +kernel
theorem dX6_isUse_24 : decode cX6_isUse 24 = .ok (.if_icmp .gt 17, 3) := by decide +kernel
theorem dX6_isUse_27 : decode cX6_isUse 27 = .ok (.iload_n 0, 1) := by decide +kernel
theorem dX6_isUse_28 : decode cX6_isUse 28 = .ok (.sipush 1000, 3) := by decide +kernel
theorem dX6_isUse_31 : decode cX6_isUse 31 = .ok (.irem, 1) := by decide +kernel
theorem dX6_isUse_32 : decode cX6_isUse 32 = .ok (.bipush 100, 2) := by decide +kernel
theorem dX6_isUse_34 : decode cX6_isUse 34 = .ok (.if_icmp .gt 7, 3) := by decide +kernel
theorem dX6_isUse_37 : decode cX6_isUse 37 = .ok (.iconst 1, 1) := by decide +kernel
theorem dX6_isUse_38 : decode cX6_isUse 38 = .ok (.goto 4, 3) := by decide +kernel
theorem dX6_isUse_41 : decode cX6_isUse 41 = .ok (.iconst 0, 1) := by decide +kernel
theorem dX6_isUse_42 : decode cX6_isUse 42 = .ok (.ireturn, 1) := by decide +kernel
theorem dX6_rateAs_0 : decode cX6_rateAs 0 = .ok (.aload_n 0, 1) := by decide +kernel
theorem dX6_rateAs_1 : decode cX6_rateAs 1 = .ok (.iload_n 1, 1) := by decide +kernel
theorem dX6_rateAs_2 : decode cX6_rateAs 2 = .ok (.invokevirtual 77, 3) := by decide +kernel
theorem dX6_rateAs_5 : decode cX6_rateAs 5 = .ok (.ifCond .eq 10, 3) := by decide +kernel
theorem dX6_rateAs_8 : decode cX6_rateAs 8 = .ok (.iload_n 2, 1) := by decide +kernel
theorem dX6_rateAs_9 : decode cX6_rateAs 9 = .ok (.invokestatic 67, 3) := by decide +kernel
theorem dX6_rateAs_12 : decode cX6_rateAs 12 = .ok (.ifCond .ne 6, 3) := by decide +kernel
theorem dX6_rateAs_15 : decode cX6_rateAs 15 = .ok (.ldc 74, 2) := by decide +kernel
theorem dX6_rateAs_17 : decode cX6_rateAs 17 = .ok (.ireturn, 1) := by decide +kernel
theorem dX6_rateAs_18 : decode cX6_rateAs 18 = .ok (.aload_n 0, 1) := by decide +kernel
theorem dX6_rateAs_19 : decode cX6_rateAs 19 = .ok (.getfield 9, 3) := by decide +kernel
theorem dX6_rateAs_22 : decode cX6_rateAs 22 = .ok (.iload_n 1, 1) := by decide +kernel
theorem dX6_rateAs_23 : decode cX6_rateAs 23 = .ok (.iaload, 1) := by decide +kernel
theorem dX6_rateAs_24 : decode cX6_rateAs 24 = .ok (.iload_n 2, 1) := by decide +kernel
theorem dX6_rateAs_25 : decode cX6_rateAs 25 = .ok (.invokestatic 80, 3) := by decide +kernel
theorem dX6_rateAs_28 : decode cX6_rateAs 28 = .ok (.ifCond .eq 12, 3) := by decide +kernel
theorem dX6_rateAs_31 : decode cX6_rateAs 31 = .ok (.aload_n 0, 1) := by decide +kernel
theorem dX6_rateAs_32 : decode cX6_rateAs 32 = .ok (.getfield 18, 3) := by decide +kernel
theorem dX6_rateAs_35 : decode cX6_rateAs 35 = .ok (.iload_n 1, 1) := by decide +kernel
theorem dX6_rateAs_36 : decode cX6_rateAs 36 = .ok (.iaload, 1) := by decide +kernel
theorem dX6_rateAs_37 : decode cX6_rateAs 37 = .ok (.goto 5, 3) := by decide +kernel
theorem dX6_rateAs_40 : decode cX6_rateAs 40 = .ok (.ldc 84, 2) := by decide +kernel
theorem dX6_rateAs_42 : decode cX6_rateAs 42 = .ok (.ireturn, 1) := by decide +kernel
theorem dX6_isUnder_0 : decode cX6_isUnder 0 = .ok (.iload_n 0, 1) := by decide +kernel
theorem dX6_isUnder_1 : decode cX6_isUnder 1 = .ok (.istore_n 2, 1) := by decide +kernel
theorem dX6_isUnder_2 : decode cX6_isUnder 2 = .ok (.iconst 0, 1) := by decide +kernel
theorem dX6_isUnder_3 : decode cX6_isUnder 3 = .ok (.istore_n 3, 1) := by decide +kernel
theorem dX6_isUnder_4 : decode cX6_isUnder 4 = .ok (.iload_n 3, 1) := by decide +kernel
theorem dX6_isUnder_5 : decode cX6_isUnder 5 = .ok (.bipush 6, 2) := by decide +kernel
theorem dX6_isUnder_7 : decode cX6_isUnder 7 = .ok (.if_icmp .ge 29, 3) := by decide +kernel
theorem dX6_isUnder_10 : decode cX6_isUnder 10 = .ok (.iload_n 2, 1) := by decide +kernel
theorem dX6_isUnder_11 : decode cX6_isUnder 11 = .ok (.invokestatic 67, 3) := by decide +kernel
theorem dX6_isUnder_14 : decode cX6_isUnder 14 = .ok (.ifCond .eq 22, 3) := by decide +kernel
theorem dX6_isUnder_17 : decode cX6_isUnder 17 = .ok (.iload_n 2, 1) := by decide +kernel
theorem dX6_isUnder_18 : decode cX6_isUnder 18 = .ok (.iload_n 1, 1) := by decide +kernel
theorem dX6_isUnder_19 : decode cX6_isUnder 19 = .ok (.if_icmp .ne 5, 3) := by decide +kernel
theorem dX6_isUnder_22 : decode cX6_isUnder 22 = .ok (.iconst 1, 1) := by decide +kernel
theorem dX6_isUnder_23 : decode cX6_isUnder 23 = .ok (.ireturn, 1) := by decide +kernel
theorem dX6_isUnder_24 : decode cX6_isUnder 24 = .ok (.getstatic 85, 3) := by decide +kernel
theorem dX6_isUnder_27 : decode cX6_isUnder 27 = .ok (.iload_n 2, 1) := by decide +kernel
theorem dX6_isUnder_28 : decode cX6_isUnder 28 = .ok (.iaload, 1) := by decide +kernel
theorem dX6_isUnder_29 : decode cX6_isUnder 29 = .ok (.istore_n 2, 1) := by decide +kernel
theorem dX6_isUnder_30 : decode cX6_isUnder 30 = .ok (.iinc 3 1, 3) := by decide +kernel
theorem dX6_isUnder_33 : decode cX6_isUnder 33 = .ok (.goto (-29), 3) := by decide +kernel
theorem dX6_isUnder_36 : decode cX6_isUnder 36 = .ok (.iconst 0, 1) := by decide +kernel
theorem dX6_isUnder_37 : decode cX6_isUnder 37 = .ok (.ireturn, 1) := by decide +kernel
theorem dX6_setOn_0 : decode cX6_setOn 0 = .ok (.aload_n 0, 1) := by decide +kernel
theorem dX6_setOn_1 : decode cX6_setOn 1 = .ok (.iload_n 1, 1) := by decide +kernel
theorem dX6_setOn_2 : decode cX6_setOn 2 = .ok (.invokevirtual 77, 3) := by decide +kernel
theorem dX6_setOn_5 : decode cX6_setOn 5 = .ok (.ifCond .eq 10, 3) := by decide +kernel
theorem dX6_setOn_8 : decode cX6_setOn 8 = .ok (.iload_n 2, 1) := by decide +kernel
theorem dX6_setOn_9 : decode cX6_setOn 9 = .ok (.invokestatic 88, 3) := by decide +kernel
theorem dX6_setOn_12 : decode cX6_setOn 12 = .ok (.ifCond .ne 6, 3) := by decide +kernel
theorem dX6_setOn_15 : decode cX6_setOn 15 = .ok (.ldc 74, 2) := by decide +kernel
theorem dX6_setOn_17 : decode cX6_setOn 17 = .ok (.ireturn, 1) := by decide +kernel
theorem dX6_setOn_18 : decode cX6_setOn 18 = .ok (.aload_n 0, 1) := by decide +kernel
theorem dX6_setOn_19 : decode cX6_setOn 19 = .ok (.getfield 33, 3) := by decide +kernel
theorem dX6_setOn_22 : decode cX6_setOn 22 = .ok (.iload_n 1, 1) := by decide +kernel
theorem dX6_setOn_23 : decode cX6_setOn 23 = .ok (.baload, 1) := by decide +kernel
theorem dX6_setOn_24 : decode cX6_setOn 24 = .ok (.invokestatic 91, 3) := by decide +kernel
theorem dX6_setOn_27 : decode cX6_setOn 27 = .ok (.istore_n 3, 1) := by decide +kernel
theorem dX6_setOn_28 : decode cX6_setOn 28 = .ok (.aload_n 0, 1) := by decide +kernel
theorem dX6_setOn_29 : decode cX6_setOn 29 = .ok (.getfield 33, 3) := by decide +kernel
theorem dX6_setOn_32 : decode cX6_setOn 32 = .ok (.iload_n 1, 1) := by decide +kernel
theorem dX6_setOn_33 : decode cX6_setOn 33 = .ok (.iload_n 2, 1) := by decide +kernel
theorem dX6_setOn_34 : decode cX6_setOn 34 = .ok (.iconst 1, 1) := by decide +kernel
theorem dX6_setOn_35 : decode cX6_setOn 35 = .ok (.if_icmp .ne 7, 3) := by decide +kernel
theorem dX6_setOn_38 : decode cX6_setOn 38 = .ok (.iconst 1, 1) := by decide +kernel
theorem dX6_setOn_39 : decode cX6_setOn 39 = .ok (.goto 4, 3) := by decide +kernel
theorem dX6_setOn_42 : decode cX6_setOn 42 = .ok (.iconst 0, 1) := by decide +kernel
theorem dX6_setOn_43 : decode cX6_setOn 43 = .ok (.bastore, 1) := by decide +kernel
theorem dX6_setOn_44 : decode cX6_setOn 44 = .ok (.iload_n 3, 1) := by decide +kernel
theorem dX6_setOn_45 : decode cX6_setOn 45 = .ok (.ireturn, 1) := by decide +kernel
theorem dX6_tellOf_0 : decode cX6_tellOf 0 = .ok (.aload_n 0, 1) := by decide +kernel
theorem dX6_tellOf_1 : decode cX6_tellOf 1 = .ok (.iload_n 1, 1) := by decide +kernel
theorem dX6_tellOf_2 : decode cX6_tellOf 2 = .ok (.invokevirtual 77, 3) := by decide +kernel
theorem dX6_tellOf_5 : decode cX6_tellOf 5 = .ok (.ifCond .ne 6, 3) := by decide +kernel
theorem dX6_tellOf_8 : decode cX6_tellOf 8 = .ok (.ldc 74, 2) := by decide +kernel
theorem dX6_tellOf_10 : decode cX6_tellOf 10 = .ok (.ireturn, 1) := by decide +kernel
theorem dX6_tellOf_11 : decode cX6_tellOf 11 = .ok (.iload_n 2, 1) := by decide +kernel
theorem dX6_tellOf_12 : decode cX6_tellOf 12 = .ok (.tableswitch 124 0 8 #[52, 59, 66, 73, 80, 87, 97, 107, 117], 52) := by decide +kernel
theorem dX6_tellOf_64 : decode cX6_tellOf 64 = .ok (.aload_n 0, 1) := by decide +kernel
theorem dX6_tellOf_65 : decode cX6_tellOf 65 = .ok (.getfield 9, 3) := by decide +kernel
theorem dX6_tellOf_68 : decode cX6_tellOf 68 = .ok (.iload_n 1, 1) := by decide +kernel
theorem dX6_tellOf_69 : decode cX6_tellOf 69 = .ok (.iaload, 1) := by decide +kernel
theorem dX6_tellOf_70 : decode cX6_tellOf 70 = .ok (.ireturn, 1) := by decide +kernel
theorem dX6_tellOf_71 : decode cX6_tellOf 71 = .ok (.aload_n 0, 1) := by decide +kernel
theorem dX6_tellOf_72 : decode cX6_tellOf 72 = .ok (.getfield 15, 3) := by decide +kernel
theorem dX6_tellOf_75 : decode cX6_tellOf 75 = .ok (.iload_n 1, 1) := by decide +kernel
theorem dX6_tellOf_76 : decode cX6_tellOf 76 = .ok (.iaload, 1) := by decide +kernel
theorem dX6_tellOf_77 : decode cX6_tellOf 77 = .ok (.ireturn, 1) := by decide +kernel
theorem dX6_tellOf_78 : decode cX6_tellOf 78 = .ok (.aload_n 0, 1) := by decide +kernel
theorem dX6_tellOf_79 : decode cX6_tellOf 79 = .ok (.getfield 21, 3) := by decide +kernel
theorem dX6_tellOf_82 : decode cX6_tellOf 82 = .ok (.iload_n 1, 1) := by decide +kernel
theorem dX6_tellOf_83 : decode cX6_tellOf 83 = .ok (.iaload, 1) := by decide +kernel
theorem dX6_tellOf_84 : decode cX6_tellOf 84 = .ok (.ireturn, 1) := by decide +kernel
theorem dX6_tellOf_85 : decode cX6_tellOf 85 = .ok (.aload_n 0, 1) := by decide +kernel
theorem dX6_tellOf_86 : decode cX6_tellOf 86 = .ok (.getfield 24, 3) := by decide +kernel
theorem dX6_tellOf_89 : decode cX6_tellOf 89 = .ok (.iload_n 1, 1) := by decide +kernel
theorem dX6_tellOf_90 : decode cX6_tellOf 90 = .ok (.iaload, 1) := by decide +kernel
theorem dX6_tellOf_91 : decode cX6_tellOf 91 = .ok (.ireturn, 1) := by decide +kernel
theorem dX6_tellOf_92 : decode cX6_tellOf 92 = .ok (.aload_n 0, 1) := by decide +kernel
theorem dX6_tellOf_93 : decode cX6_tellOf 93 = .ok (.getfield 30, 3) := by decide +kernel
theorem dX6_tellOf_96 : decode cX6_tellOf 96 = .ok (.iload_n 1, 1) := by decide +kernel
theorem dX6_tellOf_97 : decode cX6_tellOf 97 = .ok (.iaload, 1) := by decide +kernel
theorem dX6_tellOf_98 : decode cX6_tellOf 98 = .ok (.ireturn, 1) := by decide +kernel
theorem dX6_tellOf_99 : decode cX6_tellOf 99 = .ok (.aload_n 0, 1) := by decide +kernel
theorem dX6_tellOf_100 : decode cX6_tellOf 100 = .ok (.getfield 33, 3) := by decide +kernel
theorem dX6_tellOf_103 : decode cX6_tellOf 103 = .ok (.iload_n 1, 1) := by decide +kernel
theorem dX6_tellOf_104 : decode cX6_tellOf 104 = .ok (.baload, 1) := by decide +kernel
theorem dX6_tellOf_105 : decode cX6_tellOf 105 = .ok (.invokestatic 91, 3) := by decide +kernel
theorem dX6_tellOf_108 : decode cX6_tellOf 108 = .ok (.ireturn, 1) := by decide +kernel
theorem dX6_tellOf_109 : decode cX6_tellOf 109 = .ok (.aload_n 0, 1) := by decide +kernel
theorem dX6_tellOf_110 : decode cX6_tellOf 110 = .ok (.getfield 37, 3) := by decide +kernel
theorem dX6_tellOf_113 : decode cX6_tellOf 113 = .ok (.iload_n 1, 1) := by decide +kernel
theorem dX6_tellOf_114 : decode cX6_tellOf 114 = .ok (.baload, 1) := by decide +kernel
theorem dX6_tellOf_115 : decode cX6_tellOf 115 = .ok (.invokestatic 91, 3) := by decide +kernel
theorem dX6_tellOf_118 : decode cX6_tellOf 118 = .ok (.ireturn, 1) := by decide +kernel
theorem dX6_tellOf_119 : decode cX6_tellOf 119 = .ok (.aload_n 0, 1) := by decide +kernel
theorem dX6_tellOf_120 : decode cX6_tellOf 120 = .ok (.getfield 40, 3) := by decide +kernel
theorem dX6_tellOf_123 : decode cX6_tellOf 123 = .ok (.iload_n 1, 1) := by decide +kernel
theorem dX6_tellOf_124 : decode cX6_tellOf 124 = .ok (.baload, 1) := by decide +kernel
theorem dX6_tellOf_125 : decode cX6_tellOf 125 = .ok (.invokestatic 91, 3) := by decide +kernel
theorem dX6_tellOf_128 : decode cX6_tellOf 128 = .ok (.ireturn, 1) := by decide +kernel
theorem dX6_tellOf_129 : decode cX6_tellOf 129 = .ok (.aload_n 0, 1) := by decide +kernel
theorem dX6_tellOf_130 : decode cX6_tellOf 130 = .ok (.getfield 27, 3) := by decide +kernel
theorem dX6_tellOf_133 : decode cX6_tellOf 133 = .ok (.iload_n 1, 1) := by decide +kernel
theorem dX6_tellOf_134 : decode cX6_tellOf 134 = .ok (.iaload, 1) := by decide +kernel
theorem dX6_tellOf_135 : decode cX6_tellOf 135 = .ok (.ireturn, 1) := by decide +kernel
theorem dX6_tellOf_136 : decode cX6_tellOf 136 = .ok (.ldc 74, 2) := by decide +kernel
theorem dX6_tellOf_138 : decode cX6_tellOf 138 = .ok (.ireturn, 1) := by decide +kernel
theorem dX6_setSpares_0 : decode cX6_setSpares 0 = .ok (.iload_n 1, 1) := by decide +kernel
theorem dX6_setSpares_1 : decode cX6_setSpares 1 = .ok (.invokestatic 67, 3) := by decide +kernel
theorem dX6_setSpares_4 : decode cX6_setSpares 4 = .ok (.ifCond .eq 14, 3) := by decide +kernel
theorem dX6_setSpares_7 : decode cX6_setSpares 7 = .ok (.iload_n 2, 1) := by decide +kernel
theorem dX6_setSpares_8 : decode cX6_setSpares 8 = .ok (.iconst (-1), 1) := by decide +kernel
theorem dX6_setSpares_9 : decode cX6_setSpares 9 = .ok (.if_icmp .lt 9, 3) := by decide +kernel
theorem dX6_setSpares_12 : decode cX6_setSpares 12 = .ok (.iload_n 2, 1) := by decide +kernel
theorem dX6_setSpares_13 : decode cX6_setSpares 13 = .ok (.bipush 20, 2) := by decide +kernel
theorem dX6_setSpares_15 : decode cX6_setSpares 15 = .ok (.if_icmp .le 6, 3) := by decide +kernel
theorem dX6_setSpares_18 : decode cX6_setSpares 18 = .ok (.ldc 74, 2) := by decide +kernel
theorem dX6_setSpares_20 : decode cX6_setSpares 20 = .ok (.ireturn, 1) := by decide +kernel
theorem dX6_setSpares_21 : decode cX6_setSpares 21 = .ok (.aload_n 0, 1) := by decide +kernel
theorem dX6_setSpares_22 : decode cX6_setSpares 22 = .ok (.getfield 43, 3) := by decide +kernel
theorem dX6_setSpares_25 : decode cX6_setSpares 25 = .ok (.iload_n 1, 1) := by decide +kernel
theorem dX6_setSpares_26 : decode cX6_setSpares 26 = .ok (.iaload, 1) := by decide +kernel
theorem dX6_setSpares_27 : decode cX6_setSpares 27 = .ok (.istore_n 3, 1) := by decide +kernel
theorem dX6_setSpares_28 : decode cX6_setSpares 28 = .ok (.iload_n 2, 1) := by decide +kernel
theorem dX6_setSpares_29 : decode cX6_setSpares 29 = .ok (.iconst (-1), 1) := by decide +kernel
theorem dX6_setSpares_30 : decode cX6_setSpares 30 = .ok (.if_icmp .eq 10, 3) := by decide +kernel
theorem dX6_setSpares_33 : decode cX6_setSpares 33 = .ok (.aload_n 0, 1) := by decide +kernel
theorem dX6_setSpares_34 : decode cX6_setSpares 34 = .ok (.getfield 43, 3) := by decide +kernel
theorem dX6_setSpares_37 : decode cX6_setSpares 37 = .ok (.iload_n 1, 1) := by decide +kernel
theorem dX6_setSpares_38 : decode cX6_setSpares 38 = .ok (.iload_n 2, 1) := by decide +kernel
theorem dX6_setSpares_39 : decode cX6_setSpares 39 = .ok (.iastore, 1) := by decide +kernel
theorem dX6_setSpares_40 : decode cX6_setSpares 40 = .ok (.iload_n 3, 1) := by decide +kernel
theorem dX6_setSpares_41 : decode cX6_setSpares 41 = .ok (.ireturn, 1) := by decide +kernel
theorem dX6_setSun_0 : decode cX6_setSun 0 = .ok (.iload_n 1, 1) := by decide +kernel
theorem dX6_setSun_1 : decode cX6_setSun 1 = .ok (.ifCond .lt 21, 3) := by decide +kernel
theorem dX6_setSun_4 : decode cX6_setSun 4 = .ok (.iload_n 1, 1) := by decide +kernel
theorem dX6_setSun_5 : decode cX6_setSun 5 = .ok (.sipush 500, 3) := by decide +kernel
theorem dX6_setSun_8 : decode cX6_setSun 8 = .ok (.if_icmp .gt 14, 3) := by decide +kernel
theorem dX6_setSun_11 : decode cX6_setSun 11 = .ok (.iload_n 2, 1) := by decide +kernel
theorem dX6_setSun_12 : decode cX6_setSun 12 = .ok (.ifCond .lt 10, 3) := by decide +kernel
theorem dX6_setSun_15 : decode cX6_setSun 15 = .ok (.iload_n 2, 1) := by decide +kernel
theorem dX6_setSun_16 : decode cX6_setSun 16 = .ok (.sipush 5000, 3) := by decide +kernel
theorem dX6_setSun_19 : decode cX6_setSun 19 = .ok (.if_icmp .le 6, 3) := by decide +kernel
theorem dX6_setSun_22 : decode cX6_setSun 22 = .ok (.ldc 74, 2) := by decide +kernel
theorem dX6_setSun_24 : decode cX6_setSun 24 = .ok (.ireturn, 1) := by decide +kernel
theorem dX6_setSun_25 : decode cX6_setSun 25 = .ok (.aload_n 0, 1) := by decide +kernel
theorem dX6_setSun_26 : decode cX6_setSun 26 = .ok (.iload_n 1, 1) := by decide +kernel
theorem dX6_setSun_27 : decode cX6_setSun 27 = .ok (.putfield 61, 3) := by decide +kernel
theorem dX6_setSun_30 : decode cX6_setSun 30 = .ok (.aload_n 0, 1) := by decide +kernel
theorem dX6_setSun_31 : decode cX6_setSun 31 = .ok (.iload_n 2, 1) := by decide +kernel
theorem dX6_setSun_32 : decode cX6_setSun 32 = .ok (.putfield 46, 3) := by decide +kernel
theorem dX6_setSun_35 : decode cX6_setSun 35 = .ok (.aload_n 0, 1) := by decide +kernel
theorem dX6_setSun_36 : decode cX6_setSun 36 = .ok (.aload_n 0, 1) := by decide +kernel
theorem dX6_setSun_37 : decode cX6_setSun 37 = .ok (.getfield 64, 3) := by decide +kernel
theorem dX6_setSun_40 : decode cX6_setSun 40 = .ok (.aload_n 0, 1) := by decide +kernel
theorem dX6_setSun_41 : decode cX6_setSun 41 = .ok (.getfield 46, 3) := by decide +kernel
theorem dX6_setSun_44 : decode cX6_setSun 44 = .ok (.invokestatic 95, 3) := by decide +kernel
theorem dX6_setSun_47 : decode cX6_setSun 47 = .ok (.putfield 64, 3) := by decide +kernel
theorem dX6_setSun_50 : decode cX6_setSun 50 = .ok (.aload_n 0, 1) := by decide +kernel
theorem dX6_setSun_51 : decode cX6_setSun 51 = .ok (.getfield 64, 3) := by decide +kernel
theorem dX6_setSun_54 : decode cX6_setSun 54 = .ok (.ireturn, 1) := by decide +kernel
theorem dX6_setBattery_0 : decode cX6_setBattery 0 = .ok (.iload_n 1, 1) := by decide +kernel
theorem dX6_setBattery_1 : decode cX6_setBattery 1 = .ok (.iconst (-1), 1) := by decide +kernel
theorem dX6_setBattery_2 : decode cX6_setBattery 2 = .ok (.if_icmp .lt 11, 3) := by decide +kernel
theorem dX6_setBattery_5 : decode cX6_setBattery 5 = .ok (.iload_n 1, 1) := by decide +kernel
theorem dX6_setBattery_6 : decode cX6_setBattery 6 = .ok (.aload_n 0, 1) := by decide +kernel
theorem dX6_setBattery_7 : decode cX6_setBattery 7 = .ok (.getfield 46, 3) := by decide +kernel
theorem dX6_setBattery_10 : decode cX6_setBattery 10 = .ok (.if_icmp .le 6, 3) := by decide +kernel
theorem dX6_setBattery_13 : decode cX6_setBattery 13 = .ok (.ldc 74, 2) := by decide +kernel
theorem dX6_setBattery_15 : decode cX6_setBattery 15 = .ok (.ireturn, 1) := by decide +kernel
theorem dX6_setBattery_16 : decode cX6_setBattery 16 = .ok (.aload_n 0, 1) := by decide +kernel
theorem dX6_setBattery_17 : decode cX6_setBattery 17 = .ok (.getfield 64, 3) := by decide +kernel
theorem dX6_setBattery_20 : decode cX6_setBattery 20 = .ok (.istore_n 2, 1) := by decide +kernel
theorem dX6_setBattery_21 : decode cX6_setBattery 21 = .ok (.iload_n 1, 1) := by decide +kernel
theorem dX6_setBattery_22 : decode cX6_setBattery 22 = .ok (.iconst (-1), 1) := by decide +kernel
theorem dX6_setBattery_23 : decode cX6_setBattery 23 = .ok (.if_icmp .eq 8, 3) := by decide +kernel
theorem dX6_setBattery_26 : decode cX6_setBattery 26 = .ok (.aload_n 0, 1) := by decide +kernel
theorem dX6_setBattery_27 : decode cX6_setBattery 27 = .ok (.iload_n 1, 1) := by decide +kernel
theorem dX6_setBattery_28 : decode cX6_setBattery 28 = .ok (.putfield 64, 3) := by decide +kernel
theorem dX6_setBattery_31 : decode cX6_setBattery 31 = .ok (.iload_n 2, 1) := by decide +kernel
theorem dX6_setBattery_32 : decode cX6_setBattery 32 = .ok (.ireturn, 1) := by decide +kernel
theorem dX6_makeNew_0 : decode cX6_makeNew 0 = .ok (.aload_n 0, 1) := by decide +kernel
theorem dX6_makeNew_1 : decode cX6_makeNew 1 = .ok (.iload_n 1, 1) := by decide +kernel
theorem dX6_makeNew_2 : decode cX6_makeNew 2 = .ok (.invokevirtual 77, 3) := by decide +kernel
theorem dX6_makeNew_5 : decode cX6_makeNew 5 = .ok (.ifCond .eq 17, 3) := by decide +kernel
theorem dX6_makeNew_8 : decode cX6_makeNew 8 = .ok (.aload_n 0, 1) := by decide +kernel
theorem dX6_makeNew_9 : decode cX6_makeNew 9 = .ok (.getfield 37, 3) := by decide +kernel
theorem dX6_makeNew_12 : decode cX6_makeNew 12 = .ok (.iload_n 1, 1) := by decide +kernel
theorem dX6_makeNew_13 : decode cX6_makeNew 13 = .ok (.iconst 0, 1) := by decide +kernel
theorem dX6_makeNew_14 : decode cX6_makeNew 14 = .ok (.bastore, 1) := by decide +kernel
theorem dX6_makeNew_15 : decode cX6_makeNew 15 = .ok (.aload_n 0, 1) := by decide +kernel
theorem dX6_makeNew_16 : decode cX6_makeNew 16 = .ok (.getfield 30, 3) := by decide +kernel
theorem dX6_makeNew_19 : decode cX6_makeNew 19 = .ok (.iload_n 1, 1) := by decide +kernel
theorem dX6_makeNew_20 : decode cX6_makeNew 20 = .ok (.iconst 0, 1) := by decide +kernel
theorem dX6_makeNew_21 : decode cX6_makeNew 21 = .ok (.iastore, 1) := by decide +kernel
theorem dX6_makeNew_22 : decode cX6_makeNew 22 = .ok (.return_, 1) := by decide +kernel
theorem dX6_isReady_0 : decode cX6_isReady 0 = .ok (.aload_n 0, 1) := by decide +kernel
theorem dX6_isReady_1 : decode cX6_isReady 1 = .ok (.getfield 33, 3) := by decide +kernel
theorem dX6_isReady_4 : decode cX6_isReady 4 = .ok (.iload_n 1, 1) := by decide +kernel
theorem dX6_isReady_5 : decode cX6_isReady 5 = .ok (.baload, 1) := by decide +kernel
theorem dX6_isReady_6 : decode cX6_isReady 6 = .ok (.ifCond .eq 16, 3) := by decide +kernel
theorem dX6_isReady_9 : decode cX6_isReady 9 = .ok (.aload_n 0, 1) := by decide +kernel
theorem dX6_isReady_10 : decode cX6_isReady 10 = .ok (.getfield 37, 3) := by decide +kernel
theorem dX6_isReady_13 : decode cX6_isReady 13 = .ok (.iload_n 1, 1) := by decide +kernel
theorem dX6_isReady_14 : decode cX6_isReady 14 = .ok (.baload, 1) := by decide +kernel
theorem dX6_isReady_15 : decode cX6_isReady 15 = .ok (.ifCond .ne 7, 3) := by decide +kernel
theorem dX6_isReady_18 : decode cX6_isReady 18 = .ok (.iconst 1, 1) := by decide +kernel
theorem dX6_isReady_19 : decode cX6_isReady 19 = .ok (.goto 4, 3) := by decide +kernel
theorem dX6_isReady_22 : decode cX6_isReady 22 = .ok (.iconst 0, 1) := by decide +kernel
theorem dX6_isReady_23 : decode cX6_isReady 23 = .ok (.ireturn, 1) := by decide +kernel
theorem dX6_sharePower_0 : decode cX6_sharePower 0 = .ok (.iload_n 1, 1) := by decide +kernel
theorem dX6_sharePower_1 : decode cX6_sharePower 1 = .ok (.bipush 9, 2) := by decide +kernel
theorem dX6_sharePower_3 : decode cX6_sharePower 3 = .ok (.irem, 1) := by decide +kernel
theorem dX6_sharePower_4 : decode cX6_sharePower 4 = .ok (.bipush 6, 2) := by decide +kernel
theorem dX6_sharePower_6 : decode cX6_sharePower 6 = .ok (.if_icmp .ge 7, 3) := by decide +kernel
theorem dX6_sharePower_9 : decode cX6_sharePower 9 = .ok (.iconst 1, 1) := by decide +kernel
theorem dX6_sharePower_10 : decode cX6_sharePower 10 = .ok (.goto 4, 3) := by decide +kernel
theorem dX6_sharePower_13 : decode cX6_sharePower 13 = .ok (.iconst 0, 1) := by decide +kernel
theorem dX6_sharePower_14 : decode cX6_sharePower 14 = .ok (.istore_n 2, 1) := by decide +kernel
theorem dX6_sharePower_15 : decode cX6_sharePower 15 = .ok (.aload_n 0, 1) := by decide +kernel
theorem dX6_sharePower_16 : decode cX6_sharePower 16 = .ok (.getfield 64, 3) := by decide +kernel
theorem dX6_sharePower_19 : decode cX6_sharePower 19 = .ok (.iload_n 2, 1) := by decide +kernel
theorem dX6_sharePower_20 : decode cX6_sharePower 20 = .ok (.ifCond .eq 10, 3) := by decide +kernel
theorem dX6_sharePower_23 : decode cX6_sharePower 23 = .ok (.aload_n 0, 1) := by decide +kernel
theorem dX6_sharePower_24 : decode cX6_sharePower 24 = .ok (.getfield 61, 3) := by decide +kernel
theorem dX6_sharePower_27 : decode cX6_sharePower 27 = .ok (.goto 4, 3) := by decide +kernel
theorem dX6_sharePower_30 : decode cX6_sharePower 30 = .ok (.iconst 0, 1) := by decide +kernel
theorem dX6_sharePower_31 : decode cX6_sharePower 31 = .ok (.iadd, 1) := by decide +kernel
theorem dX6_sharePower_32 : decode cX6_sharePower 32 = .ok (.istore_n 3, 1) := by decide +kernel
theorem dX6_sharePower_33 : decode cX6_sharePower 33 = .ok (.iconst 0, 1) := by decide +kernel
theorem dX6_sharePower_34 : decode cX6_sharePower 34 = .ok (.istore 4, 2) := by decide +kernel
theorem dX6_sharePower_36 : decode cX6_sharePower 36 = .ok (.iload 4, 2) := by decide +kernel
theorem dX6_sharePower_38 : decode cX6_sharePower 38 = .ok (.aload_n 0, 1) := by decide +kernel
theorem dX6_sharePower_39 : decode cX6_sharePower 39 = .ok (.getfield 58, 3) := by decide +kernel
theorem dX6_sharePower_42 : decode cX6_sharePower 42 = .ok (.if_icmp .ge 61, 3) := by decide +kernel
theorem dX6_sharePower_45 : decode cX6_sharePower 45 = .ok (.aload_n 0, 1) := by decide +kernel
theorem dX6_sharePower_46 : decode cX6_sharePower 46 = .ok (.getfield 40, 3) := by decide +kernel
theorem dX6_sharePower_49 : decode cX6_sharePower 49 = .ok (.iload 4, 2) := by decide +kernel
theorem dX6_sharePower_51 : decode cX6_sharePower 51 = .ok (.aload_n 0, 1) := by decide +kernel
theorem dX6_sharePower_52 : decode cX6_sharePower 52 = .ok (.iload 4, 2) := by decide +kernel
theorem dX6_sharePower_54 : decode cX6_sharePower 54 = .ok (.invokevirtual 101, 3) := by decide +kernel
theorem dX6_sharePower_57 : decode cX6_sharePower 57 = .ok (.ifCond .eq 18, 3) := by decide +kernel
theorem dX6_sharePower_60 : decode cX6_sharePower 60 = .ok (.iload_n 3, 1) := by decide +kernel
theorem dX6_sharePower_61 : decode cX6_sharePower 61 = .ok (.aload_n 0, 1) := by decide +kernel
theorem dX6_sharePower_62 : decode cX6_sharePower 62 = .ok (.getfield 21, 3) := by decide +kernel
theorem dX6_sharePower_65 : decode cX6_sharePower 65 = .ok (.iload 4, 2) := by decide +kernel
theorem dX6_sharePower_67 : decode cX6_sharePower 67 = .ok (.iaload, 1) := by decide +kernel
theorem dX6_sharePower_68 : decode cX6_sharePower 68 = .ok (.if_icmp .lt 7, 3) := by decide +kernel
theorem dX6_sharePower_71 : decode cX6_sharePower 71 = .ok (.iconst 1, 1) := by decide +kernel
theorem dX6_sharePower_72 : decode cX6_sharePower 72 = .ok (.goto 4, 3) := by decide +kernel
theorem dX6_sharePower_75 : decode cX6_sharePower 75 = .ok (.iconst 0, 1) := by decide +kernel
theorem dX6_sharePower_76 : decode cX6_sharePower 76 = .ok (.bastore, 1) := by decide +kernel
theorem dX6_sharePower_77 : decode cX6_sharePower 77 = .ok (.aload_n 0, 1) := by decide +kernel
theorem dX6_sharePower_78 : decode cX6_sharePower 78 = .ok (.getfield 40, 3) := by decide +kernel
theorem dX6_sharePower_81 : decode cX6_sharePower 81 = .ok (.iload 4, 2) := by decide +kernel
theorem dX6_sharePower_83 : decode cX6_sharePower 83 = .ok (.baload, 1) := by decide +kernel
theorem dX6_sharePower_84 : decode cX6_sharePower 84 = .ok (.ifCond .eq 13, 3) := by decide +kernel
theorem dX6_sharePower_87 : decode cX6_sharePower 87 = .ok (.iload_n 3, 1) := by decide +kernel
theorem dX6_sharePower_88 : decode cX6_sharePower 88 = .ok (.aload_n 0, 1) := by decide +kernel
theorem dX6_sharePower_89 : decode cX6_sharePower 89 = .ok (.getfield 21, 3) := by decide +kernel
theorem dX6_sharePower_92 : decode cX6_sharePower 92 = .ok (.iload 4, 2) := by decide +kernel
theorem dX6_sharePower_94 : decode cX6_sharePower 94 = .ok (.iaload, 1) := by decide +kernel
theorem dX6_sharePower_95 : decode cX6_sharePower 95 = .ok (.isub, 1) := by decide +kernel
theorem dX6_sharePower_96 : decode cX6_sharePower 96 = .ok (.istore_n 3, 1) := by decide +kernel
theorem dX6_sharePower_97 : decode cX6_sharePower 97 = .ok (.iinc 4 1, 3) := by decide +kernel
theorem dX6_sharePower_100 : decode cX6_sharePower 100 = .ok (.goto (-64), 3) := by decide +kernel
theorem dX6_sharePower_103 : decode cX6_sharePower 103 = .ok (.aload_n 0, 1) := by decide +kernel
theorem dX6_sharePower_104 : decode cX6_sharePower 104 = .ok (.iload_n 3, 1) := by decide +kernel
theorem dX6_sharePower_105 : decode cX6_sharePower 105 = .ok (.aload_n 0, 1) := by decide +kernel
theorem dX6_sharePower_106 : decode cX6_sharePower 106 = .ok (.getfield 46, 3) := by decide +kernel
theorem dX6_sharePower_109 : decode cX6_sharePower 109 = .ok (.invokestatic 95, 3) := by decide +kernel
theorem dX6_sharePower_112 : decode cX6_sharePower 112 = .ok (.putfield 64, 3) := by decide +kernel
theorem dX6_sharePower_115 : decode cX6_sharePower 115 = .ok (.return_, 1) := by decide +kernel
theorem dX6_workAll_0 : decode cX6_workAll 0 = .ok (.iconst 0, 1) := by decide +kernel
theorem dX6_workAll_1 : decode cX6_workAll 1 = .ok (.istore_n 2, 1) := by decide +kernel
theorem dX6_workAll_2 : decode cX6_workAll 2 = .ok (.iload_n 2, 1) := by decide +kernel
theorem dX6_workAll_3 : decode cX6_workAll 3 = .ok (.aload_n 0, 1) := by decide +kernel
theorem dX6_workAll_4 : decode cX6_workAll 4 = .ok (.getfield 58, 3) := by decide +kernel
theorem dX6_workAll_7 : decode cX6_workAll 7 = .ok (.if_icmp .ge 72, 3) := by decide +kernel
theorem dX6_workAll_10 : decode cX6_workAll 10 = .ok (.aload_n 0, 1) := by decide +kernel
theorem dX6_workAll_11 : decode cX6_workAll 11 = .ok (.getfield 40, 3) := by decide +kernel
theorem dX6_workAll_14 : decode cX6_workAll 14 = .ok (.iload_n 2, 1) := by decide +kernel
theorem dX6_workAll_15 : decode cX6_workAll 15 = .ok (.baload, 1) := by decide +kernel
theorem dX6_workAll_16 : decode cX6_workAll 16 = .ok (.ifCond .eq 57, 3) := by decide +kernel
theorem dX6_workAll_19 : decode cX6_workAll 19 = .ok (.aload_n 0, 1) := by decide +kernel
theorem dX6_workAll_20 : decode cX6_workAll 20 = .ok (.iload_n 2, 1) := by decide +kernel
theorem dX6_workAll_21 : decode cX6_workAll 21 = .ok (.aload_n 1, 1) := by decide +kernel
theorem dX6_workAll_22 : decode cX6_workAll 22 = .ok (.invokevirtual 104, 3) := by decide +kernel
theorem dX6_workAll_25 : decode cX6_workAll 25 = .ok (.aload_n 0, 1) := by decide +kernel
theorem dX6_workAll_26 : decode cX6_workAll 26 = .ok (.getfield 30, 3) := by decide +kernel
theorem dX6_workAll_29 : decode cX6_workAll 29 = .ok (.iload_n 2, 1) := by decide +kernel
theorem dX6_workAll_30 : decode cX6_workAll 30 = .ok (.dup2, 1) := by decide +kernel
theorem dX6_workAll_31 : decode cX6_workAll 31 = .ok (.iaload, 1) := by decide +kernel
theorem dX6_workAll_32 : decode cX6_workAll 32 = .ok (.iconst 1, 1) := by decide +kernel
theorem dX6_workAll_33 : decode cX6_workAll 33 = .ok (.iadd, 1) := by decide +kernel
theorem dX6_workAll_34 : decode cX6_workAll 34 = .ok (.iastore, 1) := by decide +kernel
theorem dX6_workAll_35 : decode cX6_workAll 35 = .ok (.aload_n 1, 1) := by decide +kernel
theorem dX6_workAll_36 : decode cX6_workAll 36 = .ok (.aload_n 0, 1) := by decide +kernel
theorem dX6_workAll_37 : decode cX6_workAll 37 = .ok (.getfield 15, 3) := by decide +kernel
theorem dX6_workAll_40 : decode cX6_workAll 40 = .ok (.iload_n 2, 1) := by decide +kernel
theorem dX6_workAll_41 : decode cX6_workAll 41 = .ok (.iaload, 1) := by decide +kernel
theorem dX6_workAll_42 : decode cX6_workAll 42 = .ok (.iconst 4, 1) := by decide +kernel
theorem dX6_workAll_43 : decode cX6_workAll 43 = .ok (.iconst 2, 1) := by decide +kernel
theorem dX6_workAll_44 : decode cX6_workAll 44 = .ok (.invokevirtual 108, 3) := by decide +kernel
theorem dX6_workAll_47 : decode cX6_workAll 47 = .ok (.aload_n 0, 1) := by decide +kernel
theorem dX6_workAll_48 : decode cX6_workAll 48 = .ok (.getfield 37, 3) := by decide +kernel
theorem dX6_workAll_51 : decode cX6_workAll 51 = .ok (.iload_n 2, 1) := by decide +kernel
theorem dX6_workAll_52 : decode cX6_workAll 52 = .ok (.aload_n 0, 1) := by decide +kernel
theorem dX6_workAll_53 : decode cX6_workAll 53 = .ok (.getfield 30, 3) := by decide +kernel
theorem dX6_workAll_56 : decode cX6_workAll 56 = .ok (.iload_n 2, 1) := by decide +kernel
theorem dX6_workAll_57 : decode cX6_workAll 57 = .ok (.iaload, 1) := by decide +kernel
theorem dX6_workAll_58 : decode cX6_workAll 58 = .ok (.aload_n 0, 1) := by decide +kernel
theorem dX6_workAll_59 : decode cX6_workAll 59 = .ok (.getfield 27, 3) := by decide +kernel
theorem dX6_workAll_62 : decode cX6_workAll 62 = .ok (.iload_n 2, 1) := by decide +kernel
theorem dX6_workAll_63 : decode cX6_workAll 63 = .ok (.iaload, 1) := by decide +kernel
theorem dX6_workAll_64 : decode cX6_workAll 64 = .ok (.if_icmp .lt 7, 3) := by decide +kernel
theorem dX6_workAll_67 : decode cX6_workAll 67 = .ok (.iconst 1, 1) := by decide +kernel
theorem dX6_workAll_68 : decode cX6_workAll 68 = .ok (.goto 4, 3) := by decide +kernel
theorem dX6_workAll_71 : decode cX6_workAll 71 = .ok (.iconst 0, 1) := by decide +kernel
theorem dX6_workAll_72 : decode cX6_workAll 72 = .ok (.bastore, 1) := by decide +kernel
theorem dX6_workAll_73 : decode cX6_workAll 73 = .ok (.iinc 2 1, 3) := by decide +kernel
theorem dX6_workAll_76 : decode cX6_workAll 76 = .ok (.goto (-74), 3) := by decide +kernel
theorem dX6_workAll_79 : decode cX6_workAll 79 = .ok (.return_, 1) := by decide +kernel
theorem dX6_work_0 : decode cX6_work 0 = .ok (.aload_n 0, 1) := by decide +kernel
theorem dX6_work_1 : decode cX6_work 1 = .ok (.getfield 9, 3) := by decide +kernel
theorem dX6_work_4 : decode cX6_work 4 = .ok (.iload_n 1, 1) := by decide +kernel
theorem dX6_work_5 : decode cX6_work 5 = .ok (.iaload, 1) := by decide +kernel
theorem dX6_work_6 : decode cX6_work 6 = .ok (.tableswitch 130 1 5 #[34, 59, 68, 93, 102], 34) := by decide +kernel
theorem dX6_work_40 : decode cX6_work 40 = .ok (.aload_n 2, 1) := by decide +kernel
theorem dX6_work_41 : decode cX6_work 41 = .ok (.iconst 3, 1) := by decide +kernel
theorem dX6_work_42 : decode cX6_work 42 = .ok (.aload_n 2, 1) := by decide +kernel
theorem dX6_work_43 : decode cX6_work 43 = .ok (.aload_n 0, 1) := by decide +kernel
theorem dX6_work_44 : decode cX6_work 44 = .ok (.getfield 15, 3) := by decide +kernel
theorem dX6_work_47 : decode cX6_work 47 = .ok (.iload_n 1, 1) := by decide +kernel
theorem dX6_work_48 : decode cX6_work 48 = .ok (.iaload, 1) := by decide +kernel
theorem dX6_work_49 : decode cX6_work 49 = .ok (.iconst 1, 1) := by decide +kernel
theorem dX6_work_50 : decode cX6_work 50 = .ok (.aload_n 0, 1) := by decide +kernel
theorem dX6_work_51 : decode cX6_work 51 = .ok (.getfield 18, 3) := by decide +kernel
theorem dX6_work_54 : decode cX6_work 54 = .ok (.iload_n 1, 1) := by decide +kernel
theorem dX6_work_55 : decode cX6_work 55 = .ok (.iaload, 1) := by decide +kernel
theorem dX6_work_56 : decode cX6_work 56 = .ok (.invokevirtual 114, 3) := by decide +kernel
theorem dX6_work_59 : decode cX6_work 59 = .ok (.invokevirtual 118, 3) := by decide +kernel
theorem dX6_work_62 : decode cX6_work 62 = .ok (.goto 74, 3) := by decide +kernel
theorem dX6_work_65 : decode cX6_work 65 = .ok (.aload_n 0, 1) := by decide +kernel
theorem dX6_work_66 : decode cX6_work 66 = .ok (.iload_n 1, 1) := by decide +kernel
theorem dX6_work_67 : decode cX6_work 67 = .ok (.aload_n 2, 1) := by decide +kernel
theorem dX6_work_68 : decode cX6_work 68 = .ok (.invokevirtual 122, 3) := by decide +kernel
theorem dX6_work_71 : decode cX6_work 71 = .ok (.goto 65, 3) := by decide +kernel
theorem dX6_work_74 : decode cX6_work 74 = .ok (.aload_n 2, 1) := by decide +kernel
theorem dX6_work_75 : decode cX6_work 75 = .ok (.iconst 0, 1) := by decide +kernel
theorem dX6_work_76 : decode cX6_work 76 = .ok (.aload_n 2, 1) := by decide +kernel
theorem dX6_work_77 : decode cX6_work 77 = .ok (.aload_n 0, 1) := by decide +kernel
theorem dX6_work_78 : decode cX6_work 78 = .ok (.getfield 15, 3) := by decide +kernel
theorem dX6_work_81 : decode cX6_work 81 = .ok (.iload_n 1, 1) := by decide +kernel
theorem dX6_work_82 : decode cX6_work 82 = .ok (.iaload, 1) := by decide +kernel
theorem dX6_work_83 : decode cX6_work 83 = .ok (.iconst 2, 1) := by decide +kernel
theorem dX6_work_84 : decode cX6_work 84 = .ok (.aload_n 0, 1) := by decide +kernel
theorem dX6_work_85 : decode cX6_work 85 = .ok (.getfield 18, 3) := by decide +kernel
theorem dX6_work_88 : decode cX6_work 88 = .ok (.iload_n 1, 1) := by decide +kernel
theorem dX6_work_89 : decode cX6_work 89 = .ok (.iaload, 1) := by decide +kernel
theorem dX6_work_90 : decode cX6_work 90 = .ok (.invokevirtual 114, 3) := by decide +kernel
theorem dX6_work_93 : decode cX6_work 93 = .ok (.invokevirtual 118, 3) := by decide +kernel
theorem dX6_work_96 : decode cX6_work 96 = .ok (.goto 40, 3) := by decide +kernel
theorem dX6_work_99 : decode cX6_work 99 = .ok (.aload_n 0, 1) := by decide +kernel
theorem dX6_work_100 : decode cX6_work 100 = .ok (.iload_n 1, 1) := by decide +kernel
theorem dX6_work_101 : decode cX6_work 101 = .ok (.aload_n 2, 1) := by decide +kernel
theorem dX6_work_102 : decode cX6_work 102 = .ok (.invokevirtual 125, 3) := by decide +kernel
theorem dX6_work_105 : decode cX6_work 105 = .ok (.goto 31, 3) := by decide +kernel
theorem dX6_work_108 : decode cX6_work 108 = .ok (.aload_n 2, 1) := by decide +kernel
theorem dX6_work_109 : decode cX6_work 109 = .ok (.iconst 5, 1) := by decide +kernel
theorem dX6_work_110 : decode cX6_work 110 = .ok (.aload_n 2, 1) := by decide +kernel
theorem dX6_work_111 : decode cX6_work 111 = .ok (.aload_n 0, 1) := by decide +kernel
theorem dX6_work_112 : decode cX6_work 112 = .ok (.getfield 15, 3) := by decide +kernel
theorem dX6_work_115 : decode cX6_work 115 = .ok (.iload_n 1, 1) := by decide +kernel
theorem dX6_work_116 : decode cX6_work 116 = .ok (.iaload, 1) := by decide +kernel
theorem dX6_work_117 : decode cX6_work 117 = .ok (.iconst 4, 1) := by decide +kernel
theorem dX6_work_118 : decode cX6_work 118 = .ok (.bipush 10, 2) := by decide +kernel
theorem dX6_work_120 : decode cX6_work 120 = .ok (.aload_n 0, 1) := by decide +kernel
theorem dX6_work_121 : decode cX6_work 121 = .ok (.getfield 18, 3) := by decide +kernel
theorem dX6_work_124 : decode cX6_work 124 = .ok (.iload_n 1, 1) := by decide +kernel
theorem dX6_work_125 : decode cX6_work 125 = .ok (.iaload, 1) := by decide +kernel
theorem dX6_work_126 : decode cX6_work 126 = .ok (.imul, 1) := by decide +kernel
theorem dX6_work_127 : decode cX6_work 127 = .ok (.invokevirtual 114, 3) := by decide +kernel
theorem dX6_work_130 : decode cX6_work 130 = .ok (.invokevirtual 118, 3) := by decide +kernel
theorem dX6_work_133 : decode cX6_work 133 = .ok (.goto 3, 3) := by decide +kernel
theorem dX6_work_136 : decode cX6_work 136 = .ok (.return_, 1) := by decide +kernel
theorem dX6_split_0 : decode cX6_split 0 = .ok (.aload_n 2, 1) := by decide +kernel
theorem dX6_split_1 : decode cX6_split 1 = .ok (.iconst 0, 1) := by decide +kernel
theorem dX6_split_2 : decode cX6_split 2 = .ok (.aload_n 0, 1) := by decide +kernel
theorem dX6_split_3 : decode cX6_split 3 = .ok (.getfield 18, 3) := by decide +kernel
theorem dX6_split_6 : decode cX6_split 6 = .ok (.iload_n 1, 1) := by decide +kernel
theorem dX6_split_7 : decode cX6_split 7 = .ok (.iaload, 1) := by decide +kernel
theorem dX6_split_8 : decode cX6_split 8 = .ok (.invokevirtual 128, 3) := by decide +kernel
theorem dX6_split_11 : decode cX6_split 11 = .ok (.istore_n 3, 1) := by decide +kernel
theorem dX6_split_12 : decode cX6_split 12 = .ok (.iload_n 3, 1) := by decide +kernel
theorem dX6_split_13 : decode cX6_split 13 = .ok (.bipush 8, 2) := by decide +kernel
theorem dX6_split_15 : decode cX6_split 15 = .ok (.imul, 1) := by decide +kernel
theorem dX6_split_16 : decode cX6_split 16 = .ok (.bipush 9, 2) := by decide +kernel
theorem dX6_split_18 : decode cX6_split 18 = .ok (.idiv, 1) := by decide +kernel
theorem dX6_split_19 : decode cX6_split 19 = .ok (.istore 4, 2) := by decide +kernel
theorem dX6_split_21 : decode cX6_split 21 = .ok (.aload_n 2, 1) := by decide +kernel
theorem dX6_split_22 : decode cX6_split 22 = .ok (.aload_n 0, 1) := by decide +kernel
theorem dX6_split_23 : decode cX6_split 23 = .ok (.getfield 15, 3) := by decide +kernel
theorem dX6_split_26 : decode cX6_split 26 = .ok (.iload_n 1, 1) := by decide +kernel
theorem dX6_split_27 : decode cX6_split 27 = .ok (.iaload, 1) := by decide +kernel
theorem dX6_split_28 : decode cX6_split 28 = .ok (.iconst 0, 1) := by decide +kernel
theorem dX6_split_29 : decode cX6_split 29 = .ok (.iload 4, 2) := by decide +kernel
theorem dX6_split_31 : decode cX6_split 31 = .ok (.invokevirtual 108, 3) := by decide +kernel
theorem dX6_split_34 : decode cX6_split 34 = .ok (.aload_n 2, 1) := by decide +kernel
theorem dX6_split_35 : decode cX6_split 35 = .ok (.iconst 4, 1) := by decide +kernel
theorem dX6_split_36 : decode cX6_split 36 = .ok (.iload_n 3, 1) := by decide +kernel
theorem dX6_split_37 : decode cX6_split 37 = .ok (.iload 4, 2) := by decide +kernel
theorem dX6_split_39 : decode cX6_split 39 = .ok (.isub, 1) := by decide +kernel
theorem dX6_split_40 : decode cX6_split 40 = .ok (.invokevirtual 118, 3) := by decide +kernel
theorem dX6_split_43 : decode cX6_split 43 = .ok (.return_, 1) := by decide +kernel
theorem dX6_distil_0 : decode cX6_distil 0 = .ok (.aload_n 2, 1) := by decide +kernel
theorem dX6_distil_1 : decode cX6_distil 1 = .ok (.iconst 1, 1) := by decide +kernel
theorem dX6_distil_2 : decode cX6_distil 2 = .ok (.aload_n 0, 1) := by decide +kernel
theorem dX6_distil_3 : decode cX6_distil 3 = .ok (.getfield 18, 3) := by decide +kernel
theorem dX6_distil_6 : decode cX6_distil 6 = .ok (.iload_n 1, 1) := by decide +kernel
theorem dX6_distil_7 : decode cX6_distil 7 = .ok (.iaload, 1) := by decide +kernel
theorem dX6_distil_8 : decode cX6_distil 8 = .ok (.invokevirtual 128, 3) := by decide +kernel
theorem dX6_distil_11 : decode cX6_distil 11 = .ok (.istore_n 3, 1) := by decide +kernel
theorem dX6_distil_12 : decode cX6_distil 12 = .ok (.iload_n 3, 1) := by decide +kernel
theorem dX6_distil_13 : decode cX6_distil 13 = .ok (.iconst 3, 1) := by decide +kernel
theorem dX6_distil_14 : decode cX6_distil 14 = .ok (.imul, 1) := by decide +kernel
theorem dX6_distil_15 : decode cX6_distil 15 = .ok (.iconst 4, 1) := by decide +kernel
theorem dX6_distil_16 : decode cX6_distil 16 = .ok (.idiv, 1) := by decide +kernel
theorem dX6_distil_17 : decode cX6_distil 17 = .ok (.istore 4, 2) := by decide +kernel
theorem dX6_distil_19 : decode cX6_distil 19 = .ok (.aload_n 2, 1) := by decide +kernel
theorem dX6_distil_20 : decode cX6_distil 20 = .ok (.iconst 0, 1) := by decide +kernel
theorem dX6_distil_21 : decode cX6_distil 21 = .ok (.iload 4, 2) := by decide +kernel
theorem dX6_distil_23 : decode cX6_distil 23 = .ok (.invokevirtual 118, 3) := by decide +kernel
theorem dX6_distil_26 : decode cX6_distil 26 = .ok (.aload_n 2, 1) := by decide +kernel
theorem dX6_distil_27 : decode cX6_distil 27 = .ok (.iconst 2, 1) := by decide +kernel
theorem dX6_distil_28 : decode cX6_distil 28 = .ok (.iload_n 3, 1) := by decide +kernel
theorem dX6_distil_29 : decode cX6_distil 29 = .ok (.iload 4, 2) := by decide +kernel
theorem dX6_distil_31 : decode cX6_distil 31 = .ok (.isub, 1) := by decide +kernel
theorem dX6_distil_32 : decode cX6_distil 32 = .ok (.invokevirtual 118, 3) := by decide +kernel
theorem dX6_distil_35 : decode cX6_distil 35 = .ok (.return_, 1) := by decide +kernel
theorem dX6_shedding_0 : decode cX6_shedding 0 = .ok (.iload_n 1, 1) := by decide +kernel
theorem dX6_shedding_1 : decode cX6_shedding 1 = .ok (.ifCond .lt 10, 3) := by decide +kernel
theorem dX6_shedding_4 : decode cX6_shedding 4 = .ok (.iload_n 1, 1) := by decide +kernel
theorem dX6_shedding_5 : decode cX6_shedding 5 = .ok (.sipush 1000, 3) := by decide +kernel
theorem dX6_shedding_8 : decode cX6_shedding 8 = .ok (.if_icmp .le 6, 3) := by decide +kernel
theorem dX6_shedding_11 : decode cX6_shedding 11 = .ok (.ldc 74, 2) := by decide +kernel
theorem dX6_shedding_13 : decode cX6_shedding 13 = .ok (.ireturn, 1) := by decide +kernel
theorem dX6_shedding_14 : decode cX6_shedding 14 = .ok (.iload_n 2, 1) := by decide +kernel
theorem dX6_shedding_15 : decode cX6_shedding 15 = .ok (.tableswitch 66 0 2 #[25, 31, 45], 25) := by decide +kernel
theorem dX6_shedding_40 : decode cX6_shedding 40 = .ok (.aload_n 0, 1) := by decide +kernel
theorem dX6_shedding_41 : decode cX6_shedding 41 = .ok (.iload_n 1, 1) := by decide +kernel
theorem dX6_shedding_42 : decode cX6_shedding 42 = .ok (.invokevirtual 131, 3) := by decide +kernel
theorem dX6_shedding_45 : decode cX6_shedding 45 = .ok (.ireturn, 1) := by decide +kernel
theorem dX6_shedding_46 : decode cX6_shedding 46 = .ok (.aload_n 0, 1) := by decide +kernel
theorem dX6_shedding_47 : decode cX6_shedding 47 = .ok (.aload_n 0, 1) := by decide +kernel
theorem dX6_shedding_48 : decode cX6_shedding 48 = .ok (.iload_n 1, 1) := by decide +kernel
theorem dX6_shedding_49 : decode cX6_shedding 49 = .ok (.invokevirtual 131, 3) := by decide +kernel
theorem dX6_shedding_52 : decode cX6_shedding 52 = .ok (.aload_n 0, 1) := by decide +kernel
theorem dX6_shedding_53 : decode cX6_shedding 53 = .ok (.getfield 24, 3) := by decide +kernel
theorem dX6_shedding_56 : decode cX6_shedding 56 = .ok (.invokevirtual 135, 3) := by decide +kernel
theorem dX6_shedding_59 : decode cX6_shedding 59 = .ok (.ireturn, 1) := by decide +kernel
theorem dX6_shedding_60 : decode cX6_shedding 60 = .ok (.aload_n 0, 1) := by decide +kernel
theorem dX6_shedding_61 : decode cX6_shedding 61 = .ok (.aload_n 0, 1) := by decide +kernel
theorem dX6_shedding_62 : decode cX6_shedding 62 = .ok (.invokevirtual 139, 3) := by decide +kernel
theorem dX6_shedding_65 : decode cX6_shedding 65 = .ok (.aload_n 0, 1) := by decide +kernel
theorem dX6_shedding_66 : decode cX6_shedding 66 = .ok (.iload_n 1, 1) := by decide +kernel
theorem dX6_shedding_67 : decode cX6_shedding 67 = .ok (.invokevirtual 131, 3) := by decide +kernel
theorem dX6_shedding_70 : decode cX6_shedding 70 = .ok (.iconst (-1), 1) := by decide +kernel
theorem dX6_shedding_71 : decode cX6_shedding 71 = .ok (.ixor, 1) := by decide +kernel
theorem dX6_shedding_72 : decode cX6_shedding 72 = .ok (.iand, 1) := by decide +kernel
theorem dX6_shedding_73 : decode cX6_shedding 73 = .ok (.aload_n 0, 1) := by decide +kernel
theorem dX6_shedding_74 : decode cX6_shedding 74 = .ok (.getfield 21, 3) := by decide +kernel
theorem dX6_shedding_77 : decode cX6_shedding 77 = .ok (.invokevirtual 135, 3) := by decide +kernel
theorem dX6_shedding_80 : decode cX6_shedding 80 = .ok (.ireturn, 1) := by decide +kernel
theorem dX6_shedding_81 : decode cX6_shedding 81 = .ok (.ldc 74, 2) := by decide +kernel
theorem dX6_shedding_83 : decode cX6_shedding 83 = .ok (.ireturn, 1) := by decide +kernel
theorem dX6_readySet_0 : decode cX6_readySet 0 = .ok (.iconst 0, 1) := by decide +kernel
theorem dX6_readySet_1 : decode cX6_readySet 1 = .ok (.istore_n 1, 1) := by decide +kernel
theorem dX6_readySet_2 : decode cX6_readySet 2 = .ok (.iconst 0, 1) := by decide +kernel
theorem dX6_readySet_3 : decode cX6_readySet 3 = .ok (.istore_n 2, 1) := by decide +kernel
theorem dX6_readySet_4 : decode cX6_readySet 4 = .ok (.iload_n 2, 1) := by decide +kernel
theorem dX6_readySet_5 : decode cX6_readySet 5 = .ok (.aload_n 0, 1) := by decide +kernel
theorem dX6_readySet_6 : decode cX6_readySet 6 = .ok (.getfield 58, 3) := by decide +kernel
theorem dX6_readySet_9 : decode cX6_readySet 9 = .ok (.if_icmp .ge 23, 3) := by decide +kernel
theorem dX6_readySet_12 : decode cX6_readySet 12 = .ok (.aload_n 0, 1) := by decide +kernel
theorem dX6_readySet_13 : decode cX6_readySet 13 = .ok (.iload_n 2, 1) := by decide +kernel
theorem dX6_readySet_14 : decode cX6_readySet 14 = .ok (.invokevirtual 101, 3) := by decide +kernel
theorem dX6_readySet_17 : decode cX6_readySet 17 = .ok (.ifCond .eq 9, 3) := by decide +kernel
theorem dX6_readySet_20 : decode cX6_readySet 20 = .ok (.iload_n 1, 1) := by decide +kernel
theorem dX6_readySet_21 : decode cX6_readySet 21 = .ok (.iconst 1, 1) := by decide +kernel
theorem dX6_readySet_22 : decode cX6_readySet 22 = .ok (.iload_n 2, 1) := by decide +kernel
theorem dX6_readySet_23 : decode cX6_readySet 23 = .ok (.ishl, 1) := by decide +kernel
theorem dX6_readySet_24 : decode cX6_readySet 24 = .ok (.ior, 1) := by decide +kernel
theorem dX6_readySet_25 : decode cX6_readySet 25 = .ok (.istore_n 1, 1) := by decide +kernel
theorem dX6_readySet_26 : decode cX6_readySet 26 = .ok (.iinc 2 1, 3) := by decide +kernel
theorem dX6_readySet_29 : decode cX6_readySet 29 = .ok (.goto (-25), 3) := by decide +kernel
theorem dX6_readySet_32 : decode cX6_readySet 32 = .ok (.iload_n 1, 1) := by decide +kernel
theorem dX6_readySet_33 : decode cX6_readySet 33 = .ok (.ireturn, 1) := by decide +kernel
theorem dX6_sumOver_0 : decode cX6_sumOver 0 = .ok (.iconst 0, 1) := by decide +kernel
theorem dX6_sumOver_1 : decode cX6_sumOver 1 = .ok (.istore_n 3, 1) := by decide +kernel
theorem dX6_sumOver_2 : decode cX6_sumOver 2 = .ok (.iconst 0, 1) := by decide +kernel
theorem dX6_sumOver_3 : decode cX6_sumOver 3 = .ok (.istore 4, 2) := by decide +kernel
theorem dX6_sumOver_5 : decode cX6_sumOver 5 = .ok (.iload 4, 2) := by decide +kernel
theorem dX6_sumOver_7 : decode cX6_sumOver 7 = .ok (.aload_n 0, 1) := by decide +kernel
theorem dX6_sumOver_8 : decode cX6_sumOver 8 = .ok (.getfield 58, 3) := by decide +kernel
theorem dX6_sumOver_11 : decode cX6_sumOver 11 = .ok (.if_icmp .ge 26, 3) := by decide +kernel
theorem dX6_sumOver_14 : decode cX6_sumOver 14 = .ok (.iload_n 1, 1) := by decide +kernel
theorem dX6_sumOver_15 : decode cX6_sumOver 15 = .ok (.iload 4, 2) := by decide +kernel
theorem dX6_sumOver_17 : decode cX6_sumOver 17 = .ok (.ishr, 1) := by decide +kernel
theorem dX6_sumOver_18 : decode cX6_sumOver 18 = .ok (.iconst 1, 1) := by decide +kernel
theorem dX6_sumOver_19 : decode cX6_sumOver 19 = .ok (.iand, 1) := by decide +kernel
theorem dX6_sumOver_20 : decode cX6_sumOver 20 = .ok (.iconst 1, 1) := by decide +kernel
theorem dX6_sumOver_21 : decode cX6_sumOver 21 = .ok (.if_icmp .ne 10, 3) := by decide +kernel
theorem dX6_sumOver_24 : decode cX6_sumOver 24 = .ok (.iload_n 3, 1) := by decide +kernel
theorem dX6_sumOver_25 : decode cX6_sumOver 25 = .ok (.aload_n 2, 1) := by decide +kernel
theorem dX6_sumOver_26 : decode cX6_sumOver 26 = .ok (.iload 4, 2) := by decide +kernel
theorem dX6_sumOver_28 : decode cX6_sumOver 28 = .ok (.iaload, 1) := by decide +kernel
theorem dX6_sumOver_29 : decode cX6_sumOver 29 = .ok (.iadd, 1) := by decide +kernel
theorem dX6_sumOver_30 : decode cX6_sumOver 30 = .ok (.istore_n 3, 1) := by decide +kernel
theorem dX6_sumOver_31 : decode cX6_sumOver 31 = .ok (.iinc 4 1, 3) := by decide +kernel
theorem dX6_sumOver_34 : decode cX6_sumOver 34 = .ok (.goto (-29), 3) := by decide +kernel
theorem dX6_sumOver_37 : decode cX6_sumOver 37 = .ok (.iload_n 3, 1) := by decide +kernel
theorem dX6_sumOver_38 : decode cX6_sumOver 38 = .ok (.ireturn, 1) := by decide +kernel
theorem dX6_leastHarm_0 : decode cX6_leastHarm 0 = .ok (.aload_n 0, 1) := by decide +kernel
theorem dX6_leastHarm_1 : decode cX6_leastHarm 1 = .ok (.invokevirtual 139, 3) := by decide +kernel
theorem dX6_leastHarm_4 : decode cX6_leastHarm 4 = .ok (.istore_n 2, 1) := by decide +kernel
theorem dX6_leastHarm_5 : decode cX6_leastHarm 5 = .ok (.iload_n 2, 1) := by decide +kernel
theorem dX6_leastHarm_6 : decode cX6_leastHarm 6 = .ok (.istore_n 3, 1) := by decide +kernel
theorem dX6_leastHarm_7 : decode cX6_leastHarm 7 = .ok (.aload_n 0, 1) := by decide +kernel
theorem dX6_leastHarm_8 : decode cX6_leastHarm 8 = .ok (.iload_n 2, 1) := by decide +kernel
theorem dX6_leastHarm_9 : decode cX6_leastHarm 9 = .ok (.aload_n 0, 1) := by decide +kernel
theorem dX6_leastHarm_10 : decode cX6_leastHarm 10 = .ok (.getfield 24, 3) := by decide +kernel
theorem dX6_leastHarm_13 : decode cX6_leastHarm 13 = .ok (.invokevirtual 135, 3) := by decide +kernel
theorem dX6_leastHarm_16 : decode cX6_leastHarm 16 = .ok (.istore 4, 2) := by decide +kernel
theorem dX6_leastHarm_18 : decode cX6_leastHarm 18 = .ok (.iconst 0, 1) := by decide +kernel
theorem dX6_leastHarm_19 : decode cX6_leastHarm 19 = .ok (.istore 5, 2) := by decide +kernel
theorem dX6_leastHarm_21 : decode cX6_leastHarm 21 = .ok (.iload 5, 2) := by decide +kernel
theorem dX6_leastHarm_23 : decode cX6_leastHarm 23 = .ok (.iload_n 2, 1) := by decide +kernel
theorem dX6_leastHarm_24 : decode cX6_leastHarm 24 = .ok (.if_icmp .ge 96, 3) := by decide +kernel
theorem dX6_leastHarm_27 : decode cX6_leastHarm 27 = .ok (.iload 5, 2) := by decide +kernel
theorem dX6_leastHarm_29 : decode cX6_leastHarm 29 = .ok (.iload_n 2, 1) := by decide +kernel
theorem dX6_leastHarm_30 : decode cX6_leastHarm 30 = .ok (.iconst (-1), 1) := by decide +kernel
theorem dX6_leastHarm_31 : decode cX6_leastHarm 31 = .ok (.ixor, 1) := by decide +kernel
theorem dX6_leastHarm_32 : decode cX6_leastHarm 32 = .ok (.iand, 1) := by decide +kernel
theorem dX6_leastHarm_33 : decode cX6_leastHarm 33 = .ok (.ifCond .ne 81, 3) := by decide +kernel
theorem dX6_leastHarm_36 : decode cX6_leastHarm 36 = .ok (.aload_n 0, 1) := by decide +kernel
theorem dX6_leastHarm_37 : decode cX6_leastHarm 37 = .ok (.iload_n 2, 1) := by decide +kernel
theorem dX6_leastHarm_38 : decode cX6_leastHarm 38 = .ok (.iload 5, 2) := by decide +kernel
theorem dX6_leastHarm_40 : decode cX6_leastHarm 40 = .ok (.iconst (-1), 1) := by decide +kernel
theorem dX6_leastHarm_41 : decode cX6_leastHarm 41 = .ok (.ixor, 1) := by decide +kernel
theorem dX6_leastHarm_42 : decode cX6_leastHarm 42 = .ok (.iand, 1) := by decide +kernel
theorem dX6_leastHarm_43 : decode cX6_leastHarm 43 = .ok (.aload_n 0, 1) := by decide +kernel
theorem dX6_leastHarm_44 : decode cX6_leastHarm 44 = .ok (.getfield 21, 3) := by decide +kernel
theorem dX6_leastHarm_47 : decode cX6_leastHarm 47 = .ok (.invokevirtual 135, 3) := by decide +kernel
theorem dX6_leastHarm_50 : decode cX6_leastHarm 50 = .ok (.iload_n 1, 1) := by decide +kernel
theorem dX6_leastHarm_51 : decode cX6_leastHarm 51 = .ok (.if_icmp .le 6, 3) := by decide +kernel
theorem dX6_leastHarm_54 : decode cX6_leastHarm 54 = .ok (.goto 60, 3) := by decide +kernel
theorem dX6_leastHarm_57 : decode cX6_leastHarm 57 = .ok (.aload_n 0, 1) := by decide +kernel
theorem dX6_leastHarm_58 : decode cX6_leastHarm 58 = .ok (.iload 5, 2) := by decide +kernel
theorem dX6_leastHarm_60 : decode cX6_leastHarm 60 = .ok (.aload_n 0, 1) := by decide +kernel
theorem dX6_leastHarm_61 : decode cX6_leastHarm 61 = .ok (.getfield 24, 3) := by decide +kernel
theorem dX6_leastHarm_64 : decode cX6_leastHarm 64 = .ok (.invokevirtual 135, 3) := by decide +kernel
theorem dX6_leastHarm_67 : decode cX6_leastHarm 67 = .ok (.istore 6, 2) := by decide +kernel
theorem dX6_leastHarm_69 : decode cX6_leastHarm 69 = .ok (.iload 5, 2) := by decide +kernel
theorem dX6_leastHarm_71 : decode cX6_leastHarm 71 = .ok (.invokestatic 143, 3) := by decide +kernel
theorem dX6_leastHarm_74 : decode cX6_leastHarm 74 = .ok (.iload_n 3, 1) := by decide +kernel
theorem dX6_leastHarm_75 : decode cX6_leastHarm 75 = .ok (.invokestatic 143, 3) := by decide +kernel
theorem dX6_leastHarm_78 : decode cX6_leastHarm 78 = .ok (.if_icmp .ge 7, 3) := by decide +kernel
theorem dX6_leastHarm_81 : decode cX6_leastHarm 81 = .ok (.iconst 1, 1) := by decide +kernel
theorem dX6_leastHarm_82 : decode cX6_leastHarm 82 = .ok (.goto 4, 3) := by decide +kernel
theorem dX6_leastHarm_85 : decode cX6_leastHarm 85 = .ok (.iconst 0, 1) := by decide +kernel
theorem dX6_leastHarm_86 : decode cX6_leastHarm 86 = .ok (.istore 7, 2) := by decide +kernel
theorem dX6_leastHarm_88 : decode cX6_leastHarm 88 = .ok (.iload 6, 2) := by decide +kernel
theorem dX6_leastHarm_90 : decode cX6_leastHarm 90 = .ok (.iload 4, 2) := by decide +kernel
theorem dX6_leastHarm_92 : decode cX6_leastHarm 92 = .ok (.if_icmp .lt 15, 3) := by decide +kernel
theorem dX6_leastHarm_95 : decode cX6_leastHarm 95 = .ok (.iload 6, 2) := by decide +kernel
theorem dX6_leastHarm_97 : decode cX6_leastHarm 97 = .ok (.iload 4, 2) := by decide +kernel
theorem dX6_leastHarm_99 : decode cX6_leastHarm 99 = .ok (.if_icmp .ne 15, 3) := by decide +kernel
theorem dX6_leastHarm_102 : decode cX6_leastHarm 102 = .ok (.iload 7, 2) := by decide +kernel
theorem dX6_leastHarm_104 : decode cX6_leastHarm 104 = .ok (.ifCond .eq 10, 3) := by decide +kernel
theorem dX6_leastHarm_107 : decode cX6_leastHarm 107 = .ok (.iload 5, 2) := by decide +kernel
theorem dX6_leastHarm_109 : decode cX6_leastHarm 109 = .ok (.istore_n 3, 1) := by decide +kernel
theorem dX6_leastHarm_110 : decode cX6_leastHarm 110 = .ok (.iload 6, 2) := by decide +kernel
theorem dX6_leastHarm_112 : decode cX6_leastHarm 112 = .ok (.istore 4, 2) := by decide +kernel
theorem dX6_leastHarm_114 : decode cX6_leastHarm 114 = .ok (.iinc 5 1, 3) := by decide +kernel
theorem dX6_leastHarm_117 : decode cX6_leastHarm 117 = .ok (.goto (-96), 3) := by decide +kernel
theorem dX6_leastHarm_120 : decode cX6_leastHarm 120 = .ok (.iload_n 3, 1) := by decide +kernel
theorem dX6_leastHarm_121 : decode cX6_leastHarm 121 = .ok (.ireturn, 1) := by decide +kernel
