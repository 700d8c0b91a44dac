theorem dX2_init_0 : decode cX2_init 0 = .ok (.aload_n 0, 1) := by decide +kernel
theorem dX2_init_1 : decode cX2_init 1 = .ok (.invokespecial 3, 3) := by decide +kernel
theorem dX2_init_4 : decode cX2_init 4 = .ok (.aload_n 0, 1) := by decide +kernel
theorem dX2_init_5 : decode cX2_init 5 = .ok (.iconst (-1), 1) := by decide +kernel
theorem dX2_init_6 : decode cX2_init 6 = .ok (.putfield 11, 3) := by decide +kernel
theorem dX2_init_9 : decode cX2_init 9 = .ok (.return_, 1) := by decide +kernel
theorem dX2_becomeLike_0 : decode cX2_becomeLike 0 = .ok (.aload_n 0, 1) := by decide +kernel
theorem dX2_becomeLike_1 : decode cX2_becomeLike 1 = .ok (.aload_n 1, 1) := by decide +kernel
theorem dX2_becomeLike_2 : decode cX2_becomeLike 2 = .ok (.getfield 15, 3) := by decide +kernel
theorem dX2_becomeLike_5 : decode cX2_becomeLike 5 = .ok (.putfield 15, 3) := by decide +kernel
theorem dX2_becomeLike_8 : decode cX2_becomeLike 8 = .ok (.aload_n 0, 1) := by decide +kernel
theorem dX2_becomeLike_9 : decode cX2_becomeLike 9 = .ok (.aload_n 1, 1) := by decide +kernel
theorem dX2_becomeLike_10 : decode cX2_becomeLike 10 = .ok (.getfield 19, 3) := by decide +kernel
theorem dX2_becomeLike_13 : decode cX2_becomeLike 13 = .ok (.putfield 19, 3) := by decide +kernel
theorem dX2_becomeLike_16 : decode cX2_becomeLike 16 = .ok (.aload_n 0, 1) := by decide +kernel
theorem dX2_becomeLike_17 : decode cX2_becomeLike 17 = .ok (.aload_n 1, 1) := by decide +kernel
theorem dX2_becomeLike_18 : decode cX2_becomeLike 18 = .ok (.getfield 22, 3) := by decide +kernel
theorem dX2_becomeLike_21 : decode cX2_becomeLike 21 = .ok (.putfield 22, 3) := by decide +kernel
theorem dX2_becomeLike_24 : decode cX2_becomeLike 24 = .ok (.aload_n 0, 1) := by decide +kernel
theorem dX2_becomeLike_25 : decode cX2_becomeLike 25 = .ok (.aload_n 1, 1) := by decide +kernel
theorem dX2_becomeLike_26 : decode cX2_becomeLike 26 = .ok (.getfield 25, 3) := by decide +kernel
theorem dX2_becomeLike_29 : decode cX2_becomeLike 29 = .ok (.putfield 25, 3) := by decide +kernel
theorem dX2_becomeLike_32 : decode cX2_becomeLike 32 = .ok (.aload_n 0, 1) := by decide +kernel
theorem dX2_becomeLike_33 : decode cX2_becomeLike 33 = .ok (.aload_n 1, 1) := by decide +kernel
theorem dX2_becomeLike_34 : decode cX2_becomeLike 34 = .ok (.getfield 11, 3) := by decide +kernel
theorem dX2_becomeLike_37 : decode cX2_becomeLike 37 = .ok (.putfield 11, 3) := by decide +kernel
theorem dX2_becomeLike_40 : decode cX2_becomeLike 40 = .ok (.aload_n 0, 1) := by decide +kernel
theorem dX2_becomeLike_41 : decode cX2_becomeLike 41 = .ok (.aload_n 1, 1) := by decide +kernel
theorem dX2_becomeLike_42 : decode cX2_becomeLike 42 = .ok (.getfield 28, 3) := by decide +kernel
theorem dX2_becomeLike_45 : decode cX2_becomeLike 45 = .ok (.putfield 28, 3) := by decide +kernel
theorem dX2_becomeLike_48 : decode cX2_becomeLike 48 = .ok (.aload_n 0, 1) := by decide +kernel
theorem dX2_becomeLike_49 : decode cX2_becomeLike 49 = .ok (.aload_n 1, 1) := by decide +kernel
theorem dX2_becomeLike_50 : decode cX2_becomeLike 50 = .ok (.getfield 31, 3) := by decide +kernel
theorem dX2_becomeLike_53 : decode cX2_becomeLike 53 = .ok (.putfield 31, 3) := by decide +kernel
theorem dX2_becomeLike_56 : decode cX2_becomeLike 56 = .ok (.return_, 1) := by decide +kernel
theorem dX2_start_0 : decode cX2_start 0 = .ok (.aload_n 0, 1) := by decide +kernel
theorem dX2_start_1 : decode cX2_start 1 = .ok (.iconst 1, 1) := by decide +kernel
theorem dX2_start_2 : decode cX2_start 2 = .ok (.putfield 15, 3) := by decide +kernel
theorem dX2_start_5 : decode cX2_start 5 = .ok (.aload_n 0, 1) := by decide +kernel
theorem dX2_start_6 : decode cX2_start 6 = .ok (.iconst 0, 1) := by decide +kernel
theorem dX2_start_7 : decode cX2_start 7 = .ok (.putfield 19, 3) := by decide +kernel
theorem dX2_start_10 : decode cX2_start 10 = .ok (.aload_n 0, 1) := by decide +kernel
theorem dX2_start_11 : decode cX2_start 11 = .ok (.iconst 0, 1) := by decide +kernel
theorem dX2_start_12 : decode cX2_start 12 = .ok (.putfield 22, 3) := by decide +kernel
theorem dX2_start_15 : decode cX2_start 15 = .ok (.aload_n 0, 1) := by decide +kernel
theorem dX2_start_16 : decode cX2_start 16 = .ok (.iconst 0, 1) := by decide +kernel
theorem dX2_start_17 : decode cX2_start 17 = .ok (.putfield 25, 3) := by decide +kernel
theorem dX2_start_20 : decode cX2_start 20 = .ok (.aload_n 0, 1) := by decide +kernel
theorem dX2_start_21 : decode cX2_start 21 = .ok (.iconst (-1), 1) := by decide +kernel
theorem dX2_start_22 : decode cX2_start 22 = .ok (.putfield 11, 3) := by decide +kernel
theorem dX2_start_25 : decode cX2_start 25 = .ok (.aload_n 0, 1) := by decide +kernel
theorem dX2_start_26 : decode cX2_start 26 = .ok (.iconst 0, 1) := by decide +kernel
theorem dX2_start_27 : decode cX2_start 27 = .ok (.putfield 28, 3) := by decide +kernel
theorem dX2_start_30 : decode cX2_start 30 = .ok (.return_, 1) := by decide +kernel
theorem dX2_finish_0 : decode cX2_finish 0 = .ok (.aload_n 0, 1) := by decide +kernel
theorem dX2_finish_1 : decode cX2_finish 1 = .ok (.iconst 0, 1) := by decide +kernel
theorem dX2_finish_2 : decode cX2_finish 2 = .ok (.putfield 15, 3) := by decide +kernel
theorem dX2_finish_5 : decode cX2_finish 5 = .ok (.aload_n 0, 1) := by decide +kernel
theorem dX2_finish_6 : decode cX2_finish 6 = .ok (.iload_n 1, 1) := by decide +kernel
theorem dX2_finish_7 : decode cX2_finish 7 = .ok (.putfield 31, 3) := by decide +kernel
theorem dX2_finish_10 : decode cX2_finish 10 = .ok (.return_, 1) := by decide +kernel
theorem dX2_goOnAt_0 : decode cX2_goOnAt 0 = .ok (.iload_n 1, 1) := by decide +kernel
theorem dX2_goOnAt_1 : decode cX2_goOnAt 1 = .ok (.iconst (-1), 1) := by decide +kernel
theorem dX2_goOnAt_2 : decode cX2_goOnAt 2 = .ok (.if_icmp .ne 10, 3) := by decide +kernel
theorem dX2_goOnAt_5 : decode cX2_goOnAt 5 = .ok (.aload_n 0, 1) := by decide +kernel
theorem dX2_goOnAt_6 : decode cX2_goOnAt 6 = .ok (.invokevirtual 34, 3) := by decide +kernel
theorem dX2_goOnAt_9 : decode cX2_goOnAt 9 = .ok (.goto 8, 3) := by decide +kernel
theorem dX2_goOnAt_12 : decode cX2_goOnAt 12 = .ok (.aload_n 0, 1) := by decide +kernel
theorem dX2_goOnAt_13 : decode cX2_goOnAt 13 = .ok (.iload_n 1, 1) := by decide +kernel
theorem dX2_goOnAt_14 : decode cX2_goOnAt 14 = .ok (.putfield 25, 3) := by decide +kernel
theorem dX2_goOnAt_17 : decode cX2_goOnAt 17 = .ok (.return_, 1) := by decide +kernel
theorem dX2_giveUp_0 : decode cX2_giveUp 0 = .ok (.aload_n 0, 1) := by decide +kernel
theorem dX2_giveUp_1 : decode cX2_giveUp 1 = .ok (.iconst 0, 1) := by decide +kernel
theorem dX2_giveUp_2 : decode cX2_giveUp 2 = .ok (.putfield 19, 3) := by decide +kernel
theorem dX2_giveUp_5 : decode cX2_giveUp 5 = .ok (.aload_n 0, 1) := by decide +kernel
theorem dX2_giveUp_6 : decode cX2_giveUp 6 = .ok (.iconst 0, 1) := by decide +kernel
theorem dX2_giveUp_7 : decode cX2_giveUp 7 = .ok (.putfield 28, 3) := by decide +kernel
theorem dX2_giveUp_10 : decode cX2_giveUp 10 = .ok (.aload_n 0, 1) := by decide +kernel
theorem dX2_giveUp_11 : decode cX2_giveUp 11 = .ok (.getfield 11, 3) := by decide +kernel
theorem dX2_giveUp_14 : decode cX2_giveUp 14 = .ok (.iconst (-1), 1) := by decide +kernel
theorem dX2_giveUp_15 : decode cX2_giveUp 15 = .ok (.if_icmp .eq 10, 3) := by decide +kernel
theorem dX2_giveUp_18 : decode cX2_giveUp 18 = .ok (.aload_n 0, 1) := by decide +kernel
theorem dX2_giveUp_19 : decode cX2_giveUp 19 = .ok (.getfield 22, 3) := by decide +kernel
theorem dX2_giveUp_22 : decode cX2_giveUp 22 = .ok (.ifCond .eq 9, 3) := by decide +kernel
theorem dX2_giveUp_25 : decode cX2_giveUp 25 = .ok (.aload_n 0, 1) := by decide +kernel
theorem dX2_giveUp_26 : decode cX2_giveUp 26 = .ok (.iconst 3, 1) := by decide +kernel
theorem dX2_giveUp_27 : decode cX2_giveUp 27 = .ok (.invokevirtual 37, 3) := by decide +kernel
theorem dX2_giveUp_30 : decode cX2_giveUp 30 = .ok (.return_, 1) := by decide +kernel
theorem dX2_giveUp_31 : decode cX2_giveUp 31 = .ok (.aload_n 0, 1) := by decide +kernel
theorem dX2_giveUp_32 : decode cX2_giveUp 32 = .ok (.iconst 1, 1) := by decide +kernel
theorem dX2_giveUp_33 : decode cX2_giveUp 33 = .ok (.putfield 22, 3) := by decide +kernel
theorem dX2_giveUp_36 : decode cX2_giveUp 36 = .ok (.aload_n 0, 1) := by decide +kernel
theorem dX2_giveUp_37 : decode cX2_giveUp 37 = .ok (.aload_n 0, 1) := by decide +kernel
theorem dX2_giveUp_38 : decode cX2_giveUp 38 = .ok (.getfield 11, 3) := by decide +kernel
theorem dX2_giveUp_41 : decode cX2_giveUp 41 = .ok (.putfield 25, 3) := by decide +kernel
theorem dX2_giveUp_44 : decode cX2_giveUp 44 = .ok (.return_, 1) := by decide +kernel
theorem dX2_setHalted_0 : decode cX2_setHalted 0 = .ok (.iload_n 1, 1) := by decide +kernel
theorem dX2_setHalted_1 : decode cX2_setHalted 1 = .ok (.invokestatic 41, 3) := by decide +kernel
theorem dX2_setHalted_4 : decode cX2_setHalted 4 = .ok (.ifCond .ne 6, 3) := by decide +kernel
theorem dX2_setHalted_7 : decode cX2_setHalted 7 = .ok (.ldc 45, 2) := by decide +kernel
theorem dX2_setHalted_9 : decode cX2_setHalted 9 = .ok (.ireturn, 1) := by decide +kernel
theorem dX2_setHalted_10 : decode cX2_setHalted 10 = .ok (.aload_n 0, 1) := by decide +kernel
theorem dX2_setHalted_11 : decode cX2_setHalted 11 = .ok (.getfield 15, 3) := by decide +kernel
theorem dX2_setHalted_14 : decode cX2_setHalted 14 = .ok (.ifCond .eq 20, 3) := by decide +kernel
theorem dX2_setHalted_17 : decode cX2_setHalted 17 = .ok (.aload_n 0, 1) := by decide +kernel
theorem dX2_setHalted_18 : decode cX2_setHalted 18 = .ok (.getfield 19, 3) := by decide +kernel
theorem dX2_setHalted_21 : decode cX2_setHalted 21 = .ok (.iload_n 1, 1) := by decide +kernel
theorem dX2_setHalted_22 : decode cX2_setHalted 22 = .ok (.iconst 1, 1) := by decide +kernel
theorem dX2_setHalted_23 : decode cX2_setHalted 23 = .ok (.if_icmp .ne 7, 3) := by decide +kernel
theorem dX2_setHalted_26 : decode cX2_setHalted 26 = .ok (.iconst 1, 1) := by decide +kernel
theorem dX2_setHalted_27 : decode cX2_setHalted 27 = .ok (.goto 4, 3) := by decide +kernel
theorem dX2_setHalted_30 : decode cX2_setHalted 30 = .ok (.iconst 0, 1) := by decide +kernel
theorem dX2_setHalted_31 : decode cX2_setHalted 31 = .ok (.if_icmp .ne 6, 3) := by decide +kernel
theorem dX2_setHalted_34 : decode cX2_setHalted 34 = .ok (.ldc 46, 2) := by decide +kernel
theorem dX2_setHalted_36 : decode cX2_setHalted 36 = .ok (.ireturn, 1) := by decide +kernel
theorem dX2_setHalted_37 : decode cX2_setHalted 37 = .ok (.aload_n 0, 1) := by decide +kernel
theorem dX2_setHalted_38 : decode cX2_setHalted 38 = .ok (.iload_n 1, 1) := by decide +kernel
theorem dX2_setHalted_39 : decode cX2_setHalted 39 = .ok (.iconst 1, 1) := by decide +kernel
theorem dX2_setHalted_40 : decode cX2_setHalted 40 = .ok (.if_icmp .ne 7, 3) := by decide +kernel
theorem dX2_setHalted_43 : decode cX2_setHalted 43 = .ok (.iconst 1, 1) := by decide +kernel
theorem dX2_setHalted_44 : decode cX2_setHalted 44 = .ok (.goto 4, 3) := by decide +kernel
theorem dX2_setHalted_47 : decode cX2_setHalted 47 = .ok (.iconst 0, 1) := by decide +kernel
theorem dX2_setHalted_48 : decode cX2_setHalted 48 = .ok (.putfield 19, 3) := by decide +kernel
theorem dX2_setHalted_51 : decode cX2_setHalted 51 = .ok (.iconst 1, 1) := by decide +kernel
theorem dX2_setHalted_52 : decode cX2_setHalted 52 = .ok (.ireturn, 1) := by decide +kernel
theorem dX2_tellOf_0 : decode cX2_tellOf 0 = .ok (.iload_n 1, 1) := by decide +kernel
theorem dX2_tellOf_1 : decode cX2_tellOf 1 = .ok (.tableswitch 98 0 6 #[43, 51, 67, 75, 83, 88, 93], 43) := by decide +kernel
theorem dX2_tellOf_44 : decode cX2_tellOf 44 = .ok (.aload_n 0, 1) := by decide +kernel
theorem dX2_tellOf_45 : decode cX2_tellOf 45 = .ok (.getfield 15, 3) := by decide +kernel
theorem dX2_tellOf_48 : decode cX2_tellOf 48 = .ok (.invokestatic 47, 3) := by decide +kernel
theorem dX2_tellOf_51 : decode cX2_tellOf 51 = .ok (.ireturn, 1) := by decide +kernel
theorem dX2_tellOf_52 : decode cX2_tellOf 52 = .ok (.aload_n 0, 1) := by decide +kernel
theorem dX2_tellOf_53 : decode cX2_tellOf 53 = .ok (.getfield 15, 3) := by decide +kernel
theorem dX2_tellOf_56 : decode cX2_tellOf 56 = .ok (.ifCond .eq 10, 3) := by decide +kernel
theorem dX2_tellOf_59 : decode cX2_tellOf 59 = .ok (.aload_n 0, 1) := by decide +kernel
theorem dX2_tellOf_60 : decode cX2_tellOf 60 = .ok (.getfield 25, 3) := by decide +kernel
theorem dX2_tellOf_63 : decode cX2_tellOf 63 = .ok (.goto 4, 3) := by decide +kernel
theorem dX2_tellOf_66 : decode cX2_tellOf 66 = .ok (.iconst (-1), 1) := by decide +kernel
theorem dX2_tellOf_67 : decode cX2_tellOf 67 = .ok (.ireturn, 1) := by decide +kernel
theorem dX2_tellOf_68 : decode cX2_tellOf 68 = .ok (.aload_n 0, 1) := by decide +kernel
theorem dX2_tellOf_69 : decode cX2_tellOf 69 = .ok (.getfield 19, 3) := by decide +kernel
theorem dX2_tellOf_72 : decode cX2_tellOf 72 = .ok (.invokestatic 47, 3) := by decide +kernel
theorem dX2_tellOf_75 : decode cX2_tellOf 75 = .ok (.ireturn, 1) := by decide +kernel
theorem dX2_tellOf_76 : decode cX2_tellOf 76 = .ok (.aload_n 0, 1) := by decide +kernel
theorem dX2_tellOf_77 : decode cX2_tellOf 77 = .ok (.getfield 22, 3) := by decide +kernel
theorem dX2_tellOf_80 : decode cX2_tellOf 80 = .ok (.invokestatic 47, 3) := by decide +kernel
theorem dX2_tellOf_83 : decode cX2_tellOf 83 = .ok (.ireturn, 1) := by decide +kernel
theorem dX2_tellOf_84 : decode cX2_tellOf 84 = .ok (.aload_n 0, 1) := by decide +kernel
theorem dX2_tellOf_85 : decode cX2_tellOf 85 = .ok (.getfield 11, 3) := by decide +kernel
theorem dX2_tellOf_88 : decode cX2_tellOf 88 = .ok (.ireturn, 1) := by decide +kernel
theorem dX2_tellOf_89 : decode cX2_tellOf 89 = .ok (.aload_n 0, 1) := by decide +kernel
theorem dX2_tellOf_90 : decode cX2_tellOf 90 = .ok (.getfield 28, 3) := by decide +kernel
theorem dX2_tellOf_93 : decode cX2_tellOf 93 = .ok (.ireturn, 1) := by decide +kernel
theorem dX2_tellOf_94 : decode cX2_tellOf 94 = .ok (.aload_n 0, 1) := by decide +kernel
theorem dX2_tellOf_95 : decode cX2_tellOf 95 = .ok (.getfield 31, 3) := by decide +kernel
theorem dX2_tellOf_98 : decode cX2_tellOf 98 = .ok (.ireturn, 1) := by decide +kernel
theorem dX2_tellOf_99 : decode cX2_tellOf 99 = .ok (.ldc 45, 2) := by decide +kernel
theorem dX2_tellOf_101 : decode cX2_tellOf 101 = .ok (.ireturn, 1) := by decide +kernel
