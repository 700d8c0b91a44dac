theorem dX3_init_0 : decode cX3_init 0 = .ok (.aload_n 0, 1) := by decide +kernel
theorem dX3_init_1 : decode cX3_init 1 = .ok (.invokespecial 3, 3) := by decide +kernel
theorem dX3_init_4 : decode cX3_init 4 = .ok (.aload_n 0, 1) := by decide +kernel
theorem dX3_init_5 : decode cX3_init 5 = .ok (.bipush 6, 2) := by decide +kernel
theorem dX3_init_7 : decode cX3_init 7 = .ok (.newarray .int, 2) := by decide +kernel
theorem dX3_init_9 : decode cX3_init 9 = .ok (.putfield 9, 3) := by decide +kernel
theorem dX3_init_12 : decode cX3_init 12 = .ok (.aload_n 0, 1) := by decide +kernel
theorem dX3_init_13 : decode cX3_init 13 = .ok (.bipush 6, 2) := by decide +kernel
theorem dX3_init_15 : decode cX3_init 15 = .ok (.newarray .int, 2) := by decide +kernel
theorem dX3_init_17 : decode cX3_init 17 = .ok (.putfield 15, 3) := by decide +kernel
theorem dX3_init_20 : decode cX3_init 20 = .ok (.aload_n 0, 1) := by decide +kernel
theorem dX3_init_21 : decode cX3_init 21 = .ok (.bipush 6, 2) := by decide +kernel
theorem dX3_init_23 : decode cX3_init 23 = .ok (.newarray .int, 2) := by decide +kernel
theorem dX3_init_25 : decode cX3_init 25 = .ok (.putfield 18, 3) := by decide +kernel
theorem dX3_init_28 : decode cX3_init 28 = .ok (.aload_n 0, 1) := by decide +kernel
theorem dX3_init_29 : decode cX3_init 29 = .ok (.bipush 6, 2) := by decide +kernel
theorem dX3_init_31 : decode cX3_init 31 = .ok (.newarray .int, 2) := by decide +kernel
theorem dX3_init_33 : decode cX3_init 33 = .ok (.putfield 21, 3) := by decide +kernel
theorem dX3_init_36 : decode cX3_init 36 = .ok (.aload_n 0, 1) := by decide +kernel
theorem dX3_init_37 : decode cX3_init 37 = .ok (.bipush 6, 2) := by decide +kernel
theorem dX3_init_39 : decode cX3_init 39 = .ok (.newarray .int, 2) := by decide +kernel
theorem dX3_init_41 : decode cX3_init 41 = .ok (.putfield 24, 3) := by decide +kernel
theorem dX3_init_44 : decode cX3_init 44 = .ok (.aload_n 0, 1) := by decide +kernel
theorem dX3_init_45 : decode cX3_init 45 = .ok (.bipush 6, 2) := by decide +kernel
theorem dX3_init_47 : decode cX3_init 47 = .ok (.newarray .int, 2) := by decide +kernel
theorem dX3_init_49 : decode cX3_init 49 = .ok (.putfield 27, 3) := by decide +kernel
theorem dX3_init_52 : decode cX3_init 52 = .ok (.return_, 1) := by decide +kernel
theorem dX3_becomeLike_0 : decode cX3_becomeLike 0 = .ok (.aload_n 1, 1) := by decide +kernel
theorem dX3_becomeLike_1 : decode cX3_becomeLike 1 = .ok (.getfield 9, 3) := by decide +kernel
theorem dX3_becomeLike_4 : decode cX3_becomeLike 4 = .ok (.aload_n 0, 1) := by decide +kernel
theorem dX3_becomeLike_5 : decode cX3_becomeLike 5 = .ok (.getfield 9, 3) := by decide +kernel
theorem dX3_becomeLike_8 : decode cX3_becomeLike 8 = .ok (.invokestatic 30, 3) := by decide +kernel
theorem dX3_becomeLike_11 : decode cX3_becomeLike 11 = .ok (.aload_n 1, 1) := by decide +kernel
theorem dX3_becomeLike_12 : decode cX3_becomeLike 12 = .ok (.getfield 15, 3) := by decide +kernel
theorem dX3_becomeLike_15 : decode cX3_becomeLike 15 = .ok (.aload_n 0, 1) := by decide +kernel
theorem dX3_becomeLike_16 : decode cX3_becomeLike 16 = .ok (.getfield 15, 3) := by decide +kernel
theorem dX3_becomeLike_19 : decode cX3_becomeLike 19 = .ok (.invokestatic 30, 3) := by decide +kernel
theorem dX3_becomeLike_22 : decode cX3_becomeLike 22 = .ok (.aload_n 1, 1) := by decide +kernel
theorem dX3_becomeLike_23 : decode cX3_becomeLike 23 = .ok (.getfield 18, 3) := by decide +kernel
theorem dX3_becomeLike_26 : decode cX3_becomeLike 26 = .ok (.aload_n 0, 1) := by decide +kernel
theorem dX3_becomeLike_27 : decode cX3_becomeLike 27 = .ok (.getfield 18, 3) := by decide +kernel
theorem dX3_becomeLike_30 : decode cX3_becomeLike 30 = .ok (.invokestatic 30, 3) := by decide +kernel
theorem dX3_becomeLike_33 : decode cX3_becomeLike 33 = .ok (.aload_n 1, 1) := by decide +kernel
theorem dX3_becomeLike_34 : decode cX3_becomeLike 34 = .ok (.getfield 21, 3) := by decide +kernel
theorem dX3_becomeLike_37 : decode cX3_becomeLike 37 = .ok (.aload_n 0, 1) := by decide +kernel
theorem dX3_becomeLike_38 : decode cX3_becomeLike 38 = .ok (.getfield 21, 3) := by decide +kernel
theorem dX3_becomeLike_41 : decode cX3_becomeLike 41 = .ok (.invokestatic 30, 3) := by decide +kernel
theorem dX3_becomeLike_44 : decode cX3_becomeLike 44 = .ok (.aload_n 1, 1) := by decide +kernel
theorem dX3_becomeLike_45 : decode cX3_becomeLike 45 = .ok (.getfield 24, 3) := by decide +kernel
theorem dX3_becomeLike_48 : decode cX3_becomeLike 48 = .ok (.aload_n 0, 1) := by decide +kernel
theorem dX3_becomeLike_49 : decode cX3_becomeLike 49 = .ok (.getfield 24, 3) := by decide +kernel
theorem dX3_becomeLike_52 : decode cX3_becomeLike 52 = .ok (.invokestatic 30, 3) := by decide +kernel
theorem dX3_becomeLike_55 : decode cX3_becomeLike 55 = .ok (.aload_n 1, 1) := by decide +kernel
theorem dX3_becomeLike_56 : decode cX3_becomeLike 56 = .ok (.getfield 27, 3) := by decide +kernel
theorem dX3_becomeLike_59 : decode cX3_becomeLike 59 = .ok (.aload_n 0, 1) := by decide +kernel
theorem dX3_becomeLike_60 : decode cX3_becomeLike 60 = .ok (.getfield 27, 3) := by decide +kernel
theorem dX3_becomeLike_63 : decode cX3_becomeLike 63 = .ok (.invokestatic 30, 3) := by decide +kernel
theorem dX3_becomeLike_66 : decode cX3_becomeLike 66 = .ok (.aload_n 0, 1) := by decide +kernel
theorem dX3_becomeLike_67 : decode cX3_becomeLike 67 = .ok (.aload_n 1, 1) := by decide +kernel
theorem dX3_becomeLike_68 : decode cX3_becomeLike 68 = .ok (.getfield 34, 3) := by decide +kernel
theorem dX3_becomeLike_71 : decode cX3_becomeLike 71 = .ok (.putfield 34, 3) := by decide +kernel
theorem dX3_becomeLike_74 : decode cX3_becomeLike 74 = .ok (.return_, 1) := by decide +kernel
theorem dX3_has_0 : decode cX3_has 0 = .ok (.iload_n 1, 1) := by decide +kernel
theorem dX3_has_1 : decode cX3_has 1 = .ok (.ifCond .lt 15, 3) := by decide +kernel
theorem dX3_has_4 : decode cX3_has 4 = .ok (.iload_n 1, 1) := by decide +kernel
theorem dX3_has_5 : decode cX3_has 5 = .ok (.aload_n 0, 1) := by decide +kernel
theorem dX3_has_6 : decode cX3_has 6 = .ok (.getfield 34, 3) := by decide +kernel
theorem dX3_has_9 : decode cX3_has 9 = .ok (.if_icmp .ge 7, 3) := by decide +kernel
theorem dX3_has_12 : decode cX3_has 12 = .ok (.iconst 1, 1) := by decide +kernel
theorem dX3_has_13 : decode cX3_has 13 = .ok (.goto 4, 3) := by decide +kernel
theorem dX3_has_16 : decode cX3_has 16 = .ok (.iconst 0, 1) := by decide +kernel
theorem dX3_has_17 : decode cX3_has 17 = .ok (.ireturn, 1) := by decide +kernel
theorem dX3_mends_0 : decode cX3_mends 0 = .ok (.aload_n 0, 1) := by decide +kernel
theorem dX3_mends_1 : decode cX3_mends 1 = .ok (.getfield 18, 3) := by decide +kernel
theorem dX3_mends_4 : decode cX3_mends 4 = .ok (.iload_n 1, 1) := by decide +kernel
theorem dX3_mends_5 : decode cX3_mends 5 = .ok (.iaload, 1) := by decide +kernel
theorem dX3_mends_6 : decode cX3_mends 6 = .ok (.iconst (-1), 1) := by decide +kernel
theorem dX3_mends_7 : decode cX3_mends 7 = .ok (.if_icmp .eq 7, 3) := by decide +kernel
theorem dX3_mends_10 : decode cX3_mends 10 = .ok (.iconst 1, 1) := by decide +kernel
theorem dX3_mends_11 : decode cX3_mends 11 = .ok (.goto 4, 3) := by decide +kernel
theorem dX3_mends_14 : decode cX3_mends 14 = .ok (.iconst 0, 1) := by decide +kernel
theorem dX3_mends_15 : decode cX3_mends 15 = .ok (.ireturn, 1) := by decide +kernel
theorem dX3_addPerson_0 : decode cX3_addPerson 0 = .ok (.aload_n 0, 1) := by decide +kernel
theorem dX3_addPerson_1 : decode cX3_addPerson 1 = .ok (.getfield 34, 3) := by decide +kernel
theorem dX3_addPerson_4 : decode cX3_addPerson 4 = .ok (.bipush 6, 2) := by decide +kernel
theorem dX3_addPerson_6 : decode cX3_addPerson 6 = .ok (.if_icmp .lt 6, 3) := by decide +kernel
theorem dX3_addPerson_9 : decode cX3_addPerson 9 = .ok (.ldc 38, 2) := by decide +kernel
theorem dX3_addPerson_11 : decode cX3_addPerson 11 = .ok (.ireturn, 1) := by decide +kernel
theorem dX3_addPerson_12 : decode cX3_addPerson 12 = .ok (.aload_n 0, 1) := by decide +kernel
theorem dX3_addPerson_13 : decode cX3_addPerson 13 = .ok (.getfield 9, 3) := by decide +kernel
theorem dX3_addPerson_16 : decode cX3_addPerson 16 = .ok (.aload_n 0, 1) := by decide +kernel
theorem dX3_addPerson_17 : decode cX3_addPerson 17 = .ok (.getfield 34, 3) := by decide +kernel
theorem dX3_addPerson_20 : decode cX3_addPerson 20 = .ok (.iload_n 1, 1) := by decide +kernel
theorem dX3_addPerson_21 : decode cX3_addPerson 21 = .ok (.iastore, 1) := by decide +kernel
theorem dX3_addPerson_22 : decode cX3_addPerson 22 = .ok (.aload_n 0, 1) := by decide +kernel
theorem dX3_addPerson_23 : decode cX3_addPerson 23 = .ok (.getfield 18, 3) := by decide +kernel
theorem dX3_addPerson_26 : decode cX3_addPerson 26 = .ok (.aload_n 0, 1) := by decide +kernel
theorem dX3_addPerson_27 : decode cX3_addPerson 27 = .ok (.getfield 34, 3) := by decide +kernel
theorem dX3_addPerson_30 : decode cX3_addPerson 30 = .ok (.iconst (-1), 1) := by decide +kernel
theorem dX3_addPerson_31 : decode cX3_addPerson 31 = .ok (.iastore, 1) := by decide +kernel
theorem dX3_addPerson_32 : decode cX3_addPerson 32 = .ok (.aload_n 0, 1) := by decide +kernel
theorem dX3_addPerson_33 : decode cX3_addPerson 33 = .ok (.dup, 1) := by decide +kernel
theorem dX3_addPerson_34 : decode cX3_addPerson 34 = .ok (.getfield 34, 3) := by decide +kernel
theorem dX3_addPerson_37 : decode cX3_addPerson 37 = .ok (.iconst 1, 1) := by decide +kernel
theorem dX3_addPerson_38 : decode cX3_addPerson 38 = .ok (.iadd, 1) := by decide +kernel
theorem dX3_addPerson_39 : decode cX3_addPerson 39 = .ok (.putfield 34, 3) := by decide +kernel
theorem dX3_addPerson_42 : decode cX3_addPerson 42 = .ok (.aload_n 0, 1) := by decide +kernel
theorem dX3_addPerson_43 : decode cX3_addPerson 43 = .ok (.getfield 34, 3) := by decide +kernel
theorem dX3_addPerson_46 : decode cX3_addPerson 46 = .ok (.iconst 1, 1) := by decide +kernel
theorem dX3_addPerson_47 : decode cX3_addPerson 47 = .ok (.isub, 1) := by decide +kernel
theorem dX3_addPerson_48 : decode cX3_addPerson 48 = .ok (.ireturn, 1) := by decide +kernel
theorem dX3_setDoing_0 : decode cX3_setDoing 0 = .ok (.aload_n 0, 1) := by decide +kernel
theorem dX3_setDoing_1 : decode cX3_setDoing 1 = .ok (.iload_n 1, 1) := by decide +kernel
theorem dX3_setDoing_2 : decode cX3_setDoing 2 = .ok (.invokevirtual 39, 3) := by decide +kernel
theorem dX3_setDoing_5 : decode cX3_setDoing 5 = .ok (.ifCond .eq 12, 3) := by decide +kernel
theorem dX3_setDoing_8 : decode cX3_setDoing 8 = .ok (.iload_n 2, 1) := by decide +kernel
theorem dX3_setDoing_9 : decode cX3_setDoing 9 = .ok (.ifCond .lt 8, 3) := by decide +kernel
theorem dX3_setDoing_12 : decode cX3_setDoing 12 = .ok (.iload_n 2, 1) := by decide +kernel
theorem dX3_setDoing_13 : decode cX3_setDoing 13 = .ok (.iconst 3, 1) := by decide +kernel
theorem dX3_setDoing_14 : decode cX3_setDoing 14 = .ok (.if_icmp .lt 6, 3) := by decide +kernel
theorem dX3_setDoing_17 : decode cX3_setDoing 17 = .ok (.ldc 43, 2) := by decide +kernel
theorem dX3_setDoing_19 : decode cX3_setDoing 19 = .ok (.ireturn, 1) := by decide +kernel
theorem dX3_setDoing_20 : decode cX3_setDoing 20 = .ok (.aload_n 0, 1) := by decide +kernel
theorem dX3_setDoing_21 : decode cX3_setDoing 21 = .ok (.iload_n 1, 1) := by decide +kernel
theorem dX3_setDoing_22 : decode cX3_setDoing 22 = .ok (.invokevirtual 44, 3) := by decide +kernel
theorem dX3_setDoing_25 : decode cX3_setDoing 25 = .ok (.ifCond .eq 6, 3) := by decide +kernel
theorem dX3_setDoing_28 : decode cX3_setDoing 28 = .ok (.ldc 47, 2) := by decide +kernel
theorem dX3_setDoing_30 : decode cX3_setDoing 30 = .ok (.ireturn, 1) := by decide +kernel
theorem dX3_setDoing_31 : decode cX3_setDoing 31 = .ok (.aload_n 0, 1) := by decide +kernel
theorem dX3_setDoing_32 : decode cX3_setDoing 32 = .ok (.getfield 15, 3) := by decide +kernel
theorem dX3_setDoing_35 : decode cX3_setDoing 35 = .ok (.iload_n 1, 1) := by decide +kernel
theorem dX3_setDoing_36 : decode cX3_setDoing 36 = .ok (.iaload, 1) := by decide +kernel
theorem dX3_setDoing_37 : decode cX3_setDoing 37 = .ok (.istore_n 3, 1) := by decide +kernel
theorem dX3_setDoing_38 : decode cX3_setDoing 38 = .ok (.aload_n 0, 1) := by decide +kernel
theorem dX3_setDoing_39 : decode cX3_setDoing 39 = .ok (.getfield 15, 3) := by decide +kernel
theorem dX3_setDoing_42 : decode cX3_setDoing 42 = .ok (.iload_n 1, 1) := by decide +kernel
theorem dX3_setDoing_43 : decode cX3_setDoing 43 = .ok (.iload_n 2, 1) := by decide +kernel
theorem dX3_setDoing_44 : decode cX3_setDoing 44 = .ok (.iastore, 1) := by decide +kernel
theorem dX3_setDoing_45 : decode cX3_setDoing 45 = .ok (.iload_n 3, 1) := by decide +kernel
theorem dX3_setDoing_46 : decode cX3_setDoing 46 = .ok (.ireturn, 1) := by decide +kernel
theorem dX3_tellOf_0 : decode cX3_tellOf 0 = .ok (.aload_n 0, 1) := by decide +kernel
theorem dX3_tellOf_1 : decode cX3_tellOf 1 = .ok (.iload_n 1, 1) := by decide +kernel
theorem dX3_tellOf_2 : decode cX3_tellOf 2 = .ok (.invokevirtual 39, 3) := by decide +kernel
theorem dX3_tellOf_5 : decode cX3_tellOf 5 = .ok (.ifCond .ne 6, 3) := by decide +kernel
theorem dX3_tellOf_8 : decode cX3_tellOf 8 = .ok (.ldc 43, 2) := by decide +kernel
theorem dX3_tellOf_10 : decode cX3_tellOf 10 = .ok (.ireturn, 1) := by decide +kernel
theorem dX3_tellOf_11 : decode cX3_tellOf 11 = .ok (.iload_n 2, 1) := by decide +kernel
theorem dX3_tellOf_12 : decode cX3_tellOf 12 = .ok (.tableswitch 82 0 5 #[40, 47, 54, 61, 68, 75], 40) := by decide +kernel
theorem dX3_tellOf_52 : decode cX3_tellOf 52 = .ok (.aload_n 0, 1) := by decide +kernel
theorem dX3_tellOf_53 : decode cX3_tellOf 53 = .ok (.getfield 9, 3) := by decide +kernel
theorem dX3_tellOf_56 : decode cX3_tellOf 56 = .ok (.iload_n 1, 1) := by decide +kernel
theorem dX3_tellOf_57 : decode cX3_tellOf 57 = .ok (.iaload, 1) := by decide +kernel
theorem dX3_tellOf_58 : decode cX3_tellOf 58 = .ok (.ireturn, 1) := by decide +kernel
theorem dX3_tellOf_59 : decode cX3_tellOf 59 = .ok (.aload_n 0, 1) := by decide +kernel
theorem dX3_tellOf_60 : decode cX3_tellOf 60 = .ok (.getfield 15, 3) := by decide +kernel
theorem dX3_tellOf_63 : decode cX3_tellOf 63 = .ok (.iload_n 1, 1) := by decide +kernel
theorem dX3_tellOf_64 : decode cX3_tellOf 64 = .ok (.iaload, 1) := by decide +kernel
theorem dX3_tellOf_65 : decode cX3_tellOf 65 = .ok (.ireturn, 1) := by decide +kernel
theorem dX3_tellOf_66 : decode cX3_tellOf 66 = .ok (.aload_n 0, 1) := by decide +kernel
theorem dX3_tellOf_67 : decode cX3_tellOf 67 = .ok (.getfield 18, 3) := by decide +kernel
theorem dX3_tellOf_70 : decode cX3_tellOf 70 = .ok (.iload_n 1, 1) := by decide +kernel
theorem dX3_tellOf_71 : decode cX3_tellOf 71 = .ok (.iaload, 1) := by decide +kernel
theorem dX3_tellOf_72 : decode cX3_tellOf 72 = .ok (.ireturn, 1) := by decide +kernel
theorem dX3_tellOf_73 : decode cX3_tellOf 73 = .ok (.aload_n 0, 1) := by decide +kernel
theorem dX3_tellOf_74 : decode cX3_tellOf 74 = .ok (.getfield 21, 3) := by decide +kernel
theorem dX3_tellOf_77 : decode cX3_tellOf 77 = .ok (.iload_n 1, 1) := by decide +kernel
theorem dX3_tellOf_78 : decode cX3_tellOf 78 = .ok (.iaload, 1) := by decide +kernel
theorem dX3_tellOf_79 : decode cX3_tellOf 79 = .ok (.ireturn, 1) := by decide +kernel
theorem dX3_tellOf_80 : decode cX3_tellOf 80 = .ok (.aload_n 0, 1) := by decide +kernel
theorem dX3_tellOf_81 : decode cX3_tellOf 81 = .ok (.getfield 24, 3) := by decide +kernel
theorem dX3_tellOf_84 : decode cX3_tellOf 84 = .ok (.iload_n 1, 1) := by decide +kernel
theorem dX3_tellOf_85 : decode cX3_tellOf 85 = .ok (.iaload, 1) := by decide +kernel
theorem dX3_tellOf_86 : decode cX3_tellOf 86 = .ok (.ireturn, 1) := by decide +kernel
theorem dX3_tellOf_87 : decode cX3_tellOf 87 = .ok (.aload_n 0, 1) := by decide +kernel
theorem dX3_tellOf_88 : decode cX3_tellOf 88 = .ok (.getfield 27, 3) := by decide +kernel
theorem dX3_tellOf_91 : decode cX3_tellOf 91 = .ok (.iload_n 1, 1) := by decide +kernel
theorem dX3_tellOf_92 : decode cX3_tellOf 92 = .ok (.iaload, 1) := by decide +kernel
theorem dX3_tellOf_93 : decode cX3_tellOf 93 = .ok (.ireturn, 1) := by decide +kernel
theorem dX3_tellOf_94 : decode cX3_tellOf 94 = .ok (.ldc 43, 2) := by decide +kernel
theorem dX3_tellOf_96 : decode cX3_tellOf 96 = .ok (.ireturn, 1) := by decide +kernel
theorem dX3_startMending_0 : decode cX3_startMending 0 = .ok (.aload_n 0, 1) := by decide +kernel
theorem dX3_startMending_1 : decode cX3_startMending 1 = .ok (.getfield 18, 3) := by decide +kernel
theorem dX3_startMending_4 : decode cX3_startMending 4 = .ok (.iload_n 1, 1) := by decide +kernel
theorem dX3_startMending_5 : decode cX3_startMending 5 = .ok (.iload_n 2, 1) := by decide +kernel
theorem dX3_startMending_6 : decode cX3_startMending 6 = .ok (.iastore, 1) := by decide +kernel
theorem dX3_startMending_7 : decode cX3_startMending 7 = .ok (.aload_n 0, 1) := by decide +kernel
theorem dX3_startMending_8 : decode cX3_startMending 8 = .ok (.getfield 21, 3) := by decide +kernel
theorem dX3_startMending_11 : decode cX3_startMending 11 = .ok (.iload_n 1, 1) := by decide +kernel
theorem dX3_startMending_12 : decode cX3_startMending 12 = .ok (.iload_n 3, 1) := by decide +kernel
theorem dX3_startMending_13 : decode cX3_startMending 13 = .ok (.iastore, 1) := by decide +kernel
theorem dX3_startMending_14 : decode cX3_startMending 14 = .ok (.aload_n 0, 1) := by decide +kernel
theorem dX3_startMending_15 : decode cX3_startMending 15 = .ok (.getfield 15, 3) := by decide +kernel
theorem dX3_startMending_18 : decode cX3_startMending 18 = .ok (.iload_n 1, 1) := by decide +kernel
theorem dX3_startMending_19 : decode cX3_startMending 19 = .ok (.iconst 1, 1) := by decide +kernel
theorem dX3_startMending_20 : decode cX3_startMending 20 = .ok (.iastore, 1) := by decide +kernel
theorem dX3_startMending_21 : decode cX3_startMending 21 = .ok (.return_, 1) := by decide +kernel
theorem dX3_isMended_0 : decode cX3_isMended 0 = .ok (.iconst 0, 1) := by decide +kernel
theorem dX3_isMended_1 : decode cX3_isMended 1 = .ok (.istore_n 2, 1) := by decide +kernel
theorem dX3_isMended_2 : decode cX3_isMended 2 = .ok (.iload_n 2, 1) := by decide +kernel
theorem dX3_isMended_3 : decode cX3_isMended 3 = .ok (.aload_n 0, 1) := by decide +kernel
theorem dX3_isMended_4 : decode cX3_isMended 4 = .ok (.getfield 34, 3) := by decide +kernel
theorem dX3_isMended_7 : decode cX3_isMended 7 = .ok (.if_icmp .ge 21, 3) := by decide +kernel
theorem dX3_isMended_10 : decode cX3_isMended 10 = .ok (.aload_n 0, 1) := by decide +kernel
theorem dX3_isMended_11 : decode cX3_isMended 11 = .ok (.getfield 18, 3) := by decide +kernel
theorem dX3_isMended_14 : decode cX3_isMended 14 = .ok (.iload_n 2, 1) := by decide +kernel
theorem dX3_isMended_15 : decode cX3_isMended 15 = .ok (.iaload, 1) := by decide +kernel
theorem dX3_isMended_16 : decode cX3_isMended 16 = .ok (.iload_n 1, 1) := by decide +kernel
theorem dX3_isMended_17 : decode cX3_isMended 17 = .ok (.if_icmp .ne 5, 3) := by decide +kernel
theorem dX3_isMended_20 : decode cX3_isMended 20 = .ok (.iconst 1, 1) := by decide +kernel
theorem dX3_isMended_21 : decode cX3_isMended 21 = .ok (.ireturn, 1) := by decide +kernel
theorem dX3_isMended_22 : decode cX3_isMended 22 = .ok (.iinc 2 1, 3) := by decide +kernel
theorem dX3_isMended_25 : decode cX3_isMended 25 = .ok (.goto (-23), 3) := by decide +kernel
theorem dX3_isMended_28 : decode cX3_isMended 28 = .ok (.iconst 0, 1) := by decide +kernel
theorem dX3_isMended_29 : decode cX3_isMended 29 = .ok (.ireturn, 1) := by decide +kernel
theorem dX3_menders_0 : decode cX3_menders 0 = .ok (.iconst 0, 1) := by decide +kernel
theorem dX3_menders_1 : decode cX3_menders 1 = .ok (.istore_n 1, 1) := by decide +kernel
theorem dX3_menders_2 : decode cX3_menders 2 = .ok (.iconst 0, 1) := by decide +kernel
theorem dX3_menders_3 : decode cX3_menders 3 = .ok (.istore_n 2, 1) := by decide +kernel
theorem dX3_menders_4 : decode cX3_menders 4 = .ok (.iload_n 2, 1) := by decide +kernel
theorem dX3_menders_5 : decode cX3_menders 5 = .ok (.aload_n 0, 1) := by decide +kernel
theorem dX3_menders_6 : decode cX3_menders 6 = .ok (.getfield 34, 3) := by decide +kernel
theorem dX3_menders_9 : decode cX3_menders 9 = .ok (.if_icmp .ge 20, 3) := by decide +kernel
theorem dX3_menders_12 : decode cX3_menders 12 = .ok (.iload_n 1, 1) := by decide +kernel
theorem dX3_menders_13 : decode cX3_menders 13 = .ok (.aload_n 0, 1) := by decide +kernel
theorem dX3_menders_14 : decode cX3_menders 14 = .ok (.iload_n 2, 1) := by decide +kernel
theorem dX3_menders_15 : decode cX3_menders 15 = .ok (.invokevirtual 44, 3) := by decide +kernel
theorem dX3_menders_18 : decode cX3_menders 18 = .ok (.invokestatic 48, 3) := by decide +kernel
theorem dX3_menders_21 : decode cX3_menders 21 = .ok (.iadd, 1) := by decide +kernel
theorem dX3_menders_22 : decode cX3_menders 22 = .ok (.istore_n 1, 1) := by decide +kernel
theorem dX3_menders_23 : decode cX3_menders 23 = .ok (.iinc 2 1, 3) := by decide +kernel
theorem dX3_menders_26 : decode cX3_menders 26 = .ok (.goto (-22), 3) := by decide +kernel
theorem dX3_menders_29 : decode cX3_menders 29 = .ok (.iload_n 1, 1) := by decide +kernel
theorem dX3_menders_30 : decode cX3_menders 30 = .ok (.ireturn, 1) := by decide +kernel
theorem dX3_anyoneIn_0 : decode cX3_anyoneIn 0 = .ok (.iconst 0, 1) := by decide +kernel
theorem dX3_anyoneIn_1 : decode cX3_anyoneIn 1 = .ok (.istore_n 2, 1) := by decide +kernel
theorem dX3_anyoneIn_2 : decode cX3_anyoneIn 2 = .ok (.iload_n 2, 1) := by decide +kernel
theorem dX3_anyoneIn_3 : decode cX3_anyoneIn 3 = .ok (.aload_n 0, 1) := by decide +kernel
theorem dX3_anyoneIn_4 : decode cX3_anyoneIn 4 = .ok (.getfield 34, 3) := by decide +kernel
theorem dX3_anyoneIn_7 : decode cX3_anyoneIn 7 = .ok (.if_icmp .ge 21, 3) := by decide +kernel
theorem dX3_anyoneIn_10 : decode cX3_anyoneIn 10 = .ok (.aload_n 0, 1) := by decide +kernel
theorem dX3_anyoneIn_11 : decode cX3_anyoneIn 11 = .ok (.getfield 9, 3) := by decide +kernel
theorem dX3_anyoneIn_14 : decode cX3_anyoneIn 14 = .ok (.iload_n 2, 1) := by decide +kernel
theorem dX3_anyoneIn_15 : decode cX3_anyoneIn 15 = .ok (.iaload, 1) := by decide +kernel
theorem dX3_anyoneIn_16 : decode cX3_anyoneIn 16 = .ok (.iload_n 1, 1) := by decide +kernel
theorem dX3_anyoneIn_17 : decode cX3_anyoneIn 17 = .ok (.if_icmp .ne 5, 3) := by decide +kernel
theorem dX3_anyoneIn_20 : decode cX3_anyoneIn 20 = .ok (.iconst 1, 1) := by decide +kernel
theorem dX3_anyoneIn_21 : decode cX3_anyoneIn 21 = .ok (.ireturn, 1) := by decide +kernel
theorem dX3_anyoneIn_22 : decode cX3_anyoneIn 22 = .ok (.iinc 2 1, 3) := by decide +kernel
theorem dX3_anyoneIn_25 : decode cX3_anyoneIn 25 = .ok (.goto (-23), 3) := by decide +kernel
theorem dX3_anyoneIn_28 : decode cX3_anyoneIn 28 = .ok (.iconst 0, 1) := by decide +kernel
theorem dX3_anyoneIn_29 : decode cX3_anyoneIn 29 = .ok (.ireturn, 1) := by decide +kernel
theorem dX3_mendOn_0 : decode cX3_mendOn 0 = .ok (.iconst 0, 1) := by decide +kernel
theorem dX3_mendOn_1 : decode cX3_mendOn 1 = .ok (.istore_n 2, 1) := by decide +kernel
theorem dX3_mendOn_2 : decode cX3_mendOn 2 = .ok (.iload_n 2, 1) := by decide +kernel
theorem dX3_mendOn_3 : decode cX3_mendOn 3 = .ok (.aload_n 0, 1) := by decide +kernel
theorem dX3_mendOn_4 : decode cX3_mendOn 4 = .ok (.getfield 34, 3) := by decide +kernel
theorem dX3_mendOn_7 : decode cX3_mendOn 7 = .ok (.if_icmp .ge 53, 3) := by decide +kernel
theorem dX3_mendOn_10 : decode cX3_mendOn 10 = .ok (.aload_n 0, 1) := by decide +kernel
theorem dX3_mendOn_11 : decode cX3_mendOn 11 = .ok (.iload_n 2, 1) := by decide +kernel
theorem dX3_mendOn_12 : decode cX3_mendOn 12 = .ok (.invokevirtual 44, 3) := by decide +kernel
theorem dX3_mendOn_15 : decode cX3_mendOn 15 = .ok (.ifCond .eq 39, 3) := by decide +kernel
theorem dX3_mendOn_18 : decode cX3_mendOn 18 = .ok (.aload_n 0, 1) := by decide +kernel
theorem dX3_mendOn_19 : decode cX3_mendOn 19 = .ok (.getfield 21, 3) := by decide +kernel
theorem dX3_mendOn_22 : decode cX3_mendOn 22 = .ok (.iload_n 2, 1) := by decide +kernel
theorem dX3_mendOn_23 : decode cX3_mendOn 23 = .ok (.dup2, 1) := by decide +kernel
theorem dX3_mendOn_24 : decode cX3_mendOn 24 = .ok (.iaload, 1) := by decide +kernel
theorem dX3_mendOn_25 : decode cX3_mendOn 25 = .ok (.iconst 1, 1) := by decide +kernel
theorem dX3_mendOn_26 : decode cX3_mendOn 26 = .ok (.isub, 1) := by decide +kernel
theorem dX3_mendOn_27 : decode cX3_mendOn 27 = .ok (.iastore, 1) := by decide +kernel
theorem dX3_mendOn_28 : decode cX3_mendOn 28 = .ok (.aload_n 0, 1) := by decide +kernel
theorem dX3_mendOn_29 : decode cX3_mendOn 29 = .ok (.getfield 21, 3) := by decide +kernel
theorem dX3_mendOn_32 : decode cX3_mendOn 32 = .ok (.iload_n 2, 1) := by decide +kernel
theorem dX3_mendOn_33 : decode cX3_mendOn 33 = .ok (.iaload, 1) := by decide +kernel
theorem dX3_mendOn_34 : decode cX3_mendOn 34 = .ok (.ifCond .ne 20, 3) := by decide +kernel
theorem dX3_mendOn_37 : decode cX3_mendOn 37 = .ok (.aload_n 1, 1) := by decide +kernel
theorem dX3_mendOn_38 : decode cX3_mendOn 38 = .ok (.aload_n 0, 1) := by decide +kernel
theorem dX3_mendOn_39 : decode cX3_mendOn 39 = .ok (.getfield 18, 3) := by decide +kernel
theorem dX3_mendOn_42 : decode cX3_mendOn 42 = .ok (.iload_n 2, 1) := by decide +kernel
theorem dX3_mendOn_43 : decode cX3_mendOn 43 = .ok (.iaload, 1) := by decide +kernel
theorem dX3_mendOn_44 : decode cX3_mendOn 44 = .ok (.invokevirtual 52, 3) := by decide +kernel
theorem dX3_mendOn_47 : decode cX3_mendOn 47 = .ok (.aload_n 0, 1) := by decide +kernel
theorem dX3_mendOn_48 : decode cX3_mendOn 48 = .ok (.getfield 18, 3) := by decide +kernel
theorem dX3_mendOn_51 : decode cX3_mendOn 51 = .ok (.iload_n 2, 1) := by decide +kernel
theorem dX3_mendOn_52 : decode cX3_mendOn 52 = .ok (.iconst (-1), 1) := by decide +kernel
theorem dX3_mendOn_53 : decode cX3_mendOn 53 = .ok (.iastore, 1) := by decide +kernel
theorem dX3_mendOn_54 : decode cX3_mendOn 54 = .ok (.iinc 2 1, 3) := by decide +kernel
theorem dX3_mendOn_57 : decode cX3_mendOn 57 = .ok (.goto (-55), 3) := by decide +kernel
theorem dX3_mendOn_60 : decode cX3_mendOn 60 = .ok (.return_, 1) := by decide +kernel
theorem dX3_live_0 : decode cX3_live 0 = .ok (.iconst 0, 1) := by decide +kernel
theorem dX3_live_1 : decode cX3_live 1 = .ok (.istore_n 2, 1) := by decide +kernel
theorem dX3_live_2 : decode cX3_live 2 = .ok (.iload_n 2, 1) := by decide +kernel
theorem dX3_live_3 : decode cX3_live 3 = .ok (.aload_n 0, 1) := by decide +kernel
theorem dX3_live_4 : decode cX3_live 4 = .ok (.getfield 34, 3) := by decide +kernel
theorem dX3_live_7 : decode cX3_live 7 = .ok (.if_icmp .ge 42, 3) := by decide +kernel
theorem dX3_live_10 : decode cX3_live 10 = .ok (.aload_n 0, 1) := by decide +kernel
theorem dX3_live_11 : decode cX3_live 11 = .ok (.iload_n 2, 1) := by decide +kernel
theorem dX3_live_12 : decode cX3_live 12 = .ok (.aload_n 1, 1) := by decide +kernel
theorem dX3_live_13 : decode cX3_live 13 = .ok (.invokevirtual 58, 3) := by decide +kernel
theorem dX3_live_16 : decode cX3_live 16 = .ok (.aload_n 0, 1) := by decide +kernel
theorem dX3_live_17 : decode cX3_live 17 = .ok (.iload_n 2, 1) := by decide +kernel
theorem dX3_live_18 : decode cX3_live 18 = .ok (.aload_n 1, 1) := by decide +kernel
theorem dX3_live_19 : decode cX3_live 19 = .ok (.invokevirtual 62, 3) := by decide +kernel
theorem dX3_live_22 : decode cX3_live 22 = .ok (.aload_n 1, 1) := by decide +kernel
theorem dX3_live_23 : decode cX3_live 23 = .ok (.aload_n 0, 1) := by decide +kernel
theorem dX3_live_24 : decode cX3_live 24 = .ok (.getfield 9, 3) := by decide +kernel
theorem dX3_live_27 : decode cX3_live 27 = .ok (.iload_n 2, 1) := by decide +kernel
theorem dX3_live_28 : decode cX3_live 28 = .ok (.iaload, 1) := by decide +kernel
theorem dX3_live_29 : decode cX3_live 29 = .ok (.iconst 4, 1) := by decide +kernel
theorem dX3_live_30 : decode cX3_live 30 = .ok (.getstatic 65, 3) := by decide +kernel
theorem dX3_live_33 : decode cX3_live 33 = .ok (.aload_n 0, 1) := by decide +kernel
theorem dX3_live_34 : decode cX3_live 34 = .ok (.getfield 15, 3) := by decide +kernel
theorem dX3_live_37 : decode cX3_live 37 = .ok (.iload_n 2, 1) := by decide +kernel
theorem dX3_live_38 : decode cX3_live 38 = .ok (.iaload, 1) := by decide +kernel
theorem dX3_live_39 : decode cX3_live 39 = .ok (.iaload, 1) := by decide +kernel
theorem dX3_live_40 : decode cX3_live 40 = .ok (.invokevirtual 68, 3) := by decide +kernel
theorem dX3_live_43 : decode cX3_live 43 = .ok (.iinc 2 1, 3) := by decide +kernel
theorem dX3_live_46 : decode cX3_live 46 = .ok (.goto (-44), 3) := by decide +kernel
theorem dX3_live_49 : decode cX3_live 49 = .ok (.return_, 1) := by decide +kernel
theorem dX3_breathe_0 : decode cX3_breathe 0 = .ok (.getstatic 74, 3) := by decide +kernel
theorem dX3_breathe_3 : decode cX3_breathe 3 = .ok (.aload_n 0, 1) := by decide +kernel
theorem dX3_breathe_4 : decode cX3_breathe 4 = .ok (.getfield 15, 3) := by decide +kernel
theorem dX3_breathe_7 : decode cX3_breathe 7 = .ok (.iload_n 1, 1) := by decide +kernel
theorem dX3_breathe_8 : decode cX3_breathe 8 = .ok (.iaload, 1) := by decide +kernel
theorem dX3_breathe_9 : decode cX3_breathe 9 = .ok (.iaload, 1) := by decide +kernel
theorem dX3_breathe_10 : decode cX3_breathe 10 = .ok (.istore_n 3, 1) := by decide +kernel
theorem dX3_breathe_11 : decode cX3_breathe 11 = .ok (.aload_n 2, 1) := by decide +kernel
theorem dX3_breathe_12 : decode cX3_breathe 12 = .ok (.aload_n 0, 1) := by decide +kernel
theorem dX3_breathe_13 : decode cX3_breathe 13 = .ok (.getfield 9, 3) := by decide +kernel
theorem dX3_breathe_16 : decode cX3_breathe 16 = .ok (.iload_n 1, 1) := by decide +kernel
theorem dX3_breathe_17 : decode cX3_breathe 17 = .ok (.iaload, 1) := by decide +kernel
theorem dX3_breathe_18 : decode cX3_breathe 18 = .ok (.iconst 0, 1) := by decide +kernel
theorem dX3_breathe_19 : decode cX3_breathe 19 = .ok (.iload_n 3, 1) := by decide +kernel
theorem dX3_breathe_20 : decode cX3_breathe 20 = .ok (.invokevirtual 77, 3) := by decide +kernel
theorem dX3_breathe_23 : decode cX3_breathe 23 = .ok (.istore 4, 2) := by decide +kernel
theorem dX3_breathe_25 : decode cX3_breathe 25 = .ok (.aload_n 2, 1) := by decide +kernel
theorem dX3_breathe_26 : decode cX3_breathe 26 = .ok (.aload_n 0, 1) := by decide +kernel
theorem dX3_breathe_27 : decode cX3_breathe 27 = .ok (.getfield 9, 3) := by decide +kernel
theorem dX3_breathe_30 : decode cX3_breathe 30 = .ok (.iload_n 1, 1) := by decide +kernel
theorem dX3_breathe_31 : decode cX3_breathe 31 = .ok (.iaload, 1) := by decide +kernel
theorem dX3_breathe_32 : decode cX3_breathe 32 = .ok (.iconst 1, 1) := by decide +kernel
theorem dX3_breathe_33 : decode cX3_breathe 33 = .ok (.iload 4, 2) := by decide +kernel
theorem dX3_breathe_35 : decode cX3_breathe 35 = .ok (.invokevirtual 68, 3) := by decide +kernel
theorem dX3_breathe_38 : decode cX3_breathe 38 = .ok (.aload_n 0, 1) := by decide +kernel
theorem dX3_breathe_39 : decode cX3_breathe 39 = .ok (.getfield 24, 3) := by decide +kernel
theorem dX3_breathe_42 : decode cX3_breathe 42 = .ok (.iload_n 1, 1) := by decide +kernel
theorem dX3_breathe_43 : decode cX3_breathe 43 = .ok (.dup2, 1) := by decide +kernel
theorem dX3_breathe_44 : decode cX3_breathe 44 = .ok (.iaload, 1) := by decide +kernel
theorem dX3_breathe_45 : decode cX3_breathe 45 = .ok (.iload 4, 2) := by decide +kernel
theorem dX3_breathe_47 : decode cX3_breathe 47 = .ok (.iload_n 3, 1) := by decide +kernel
theorem dX3_breathe_48 : decode cX3_breathe 48 = .ok (.if_icmp .ge 7, 3) := by decide +kernel
theorem dX3_breathe_51 : decode cX3_breathe 51 = .ok (.iconst 1, 1) := by decide +kernel
theorem dX3_breathe_52 : decode cX3_breathe 52 = .ok (.goto 4, 3) := by decide +kernel
theorem dX3_breathe_55 : decode cX3_breathe 55 = .ok (.iconst 0, 1) := by decide +kernel
theorem dX3_breathe_56 : decode cX3_breathe 56 = .ok (.invokestatic 48, 3) := by decide +kernel
theorem dX3_breathe_59 : decode cX3_breathe 59 = .ok (.iadd, 1) := by decide +kernel
theorem dX3_breathe_60 : decode cX3_breathe 60 = .ok (.iastore, 1) := by decide +kernel
theorem dX3_breathe_61 : decode cX3_breathe 61 = .ok (.return_, 1) := by decide +kernel
theorem dX3_drink_0 : decode cX3_drink 0 = .ok (.aload_n 2, 1) := by decide +kernel
theorem dX3_drink_1 : decode cX3_drink 1 = .ok (.iconst 0, 1) := by decide +kernel
theorem dX3_drink_2 : decode cX3_drink 2 = .ok (.bipush 10, 2) := by decide +kernel
theorem dX3_drink_4 : decode cX3_drink 4 = .ok (.invokevirtual 81, 3) := by decide +kernel
theorem dX3_drink_7 : decode cX3_drink 7 = .ok (.istore_n 3, 1) := by decide +kernel
theorem dX3_drink_8 : decode cX3_drink 8 = .ok (.iload_n 3, 1) := by decide +kernel
theorem dX3_drink_9 : decode cX3_drink 9 = .ok (.iconst 4, 1) := by decide +kernel
theorem dX3_drink_10 : decode cX3_drink 10 = .ok (.imul, 1) := by decide +kernel
theorem dX3_drink_11 : decode cX3_drink 11 = .ok (.bipush 10, 2) := by decide +kernel
theorem dX3_drink_13 : decode cX3_drink 13 = .ok (.idiv, 1) := by decide +kernel
theorem dX3_drink_14 : decode cX3_drink 14 = .ok (.istore 4, 2) := by decide +kernel
theorem dX3_drink_16 : decode cX3_drink 16 = .ok (.aload_n 2, 1) := by decide +kernel
theorem dX3_drink_17 : decode cX3_drink 17 = .ok (.aload_n 0, 1) := by decide +kernel
theorem dX3_drink_18 : decode cX3_drink 18 = .ok (.getfield 9, 3) := by decide +kernel
theorem dX3_drink_21 : decode cX3_drink 21 = .ok (.iload_n 1, 1) := by decide +kernel
theorem dX3_drink_22 : decode cX3_drink 22 = .ok (.iaload, 1) := by decide +kernel
theorem dX3_drink_23 : decode cX3_drink 23 = .ok (.iconst 2, 1) := by decide +kernel
theorem dX3_drink_24 : decode cX3_drink 24 = .ok (.iload 4, 2) := by decide +kernel
theorem dX3_drink_26 : decode cX3_drink 26 = .ok (.invokevirtual 68, 3) := by decide +kernel
theorem dX3_drink_29 : decode cX3_drink 29 = .ok (.aload_n 2, 1) := by decide +kernel
theorem dX3_drink_30 : decode cX3_drink 30 = .ok (.iconst 1, 1) := by decide +kernel
theorem dX3_drink_31 : decode cX3_drink 31 = .ok (.iload_n 3, 1) := by decide +kernel
theorem dX3_drink_32 : decode cX3_drink 32 = .ok (.iload 4, 2) := by decide +kernel
theorem dX3_drink_34 : decode cX3_drink 34 = .ok (.isub, 1) := by decide +kernel
theorem dX3_drink_35 : decode cX3_drink 35 = .ok (.invokevirtual 85, 3) := by decide +kernel
theorem dX3_drink_38 : decode cX3_drink 38 = .ok (.aload_n 0, 1) := by decide +kernel
theorem dX3_drink_39 : decode cX3_drink 39 = .ok (.getfield 27, 3) := by decide +kernel
theorem dX3_drink_42 : decode cX3_drink 42 = .ok (.iload_n 1, 1) := by decide +kernel
theorem dX3_drink_43 : decode cX3_drink 43 = .ok (.dup2, 1) := by decide +kernel
theorem dX3_drink_44 : decode cX3_drink 44 = .ok (.iaload, 1) := by decide +kernel
theorem dX3_drink_45 : decode cX3_drink 45 = .ok (.iload_n 3, 1) := by decide +kernel
theorem dX3_drink_46 : decode cX3_drink 46 = .ok (.bipush 10, 2) := by decide +kernel
theorem dX3_drink_48 : decode cX3_drink 48 = .ok (.if_icmp .ge 7, 3) := by decide +kernel
theorem dX3_drink_51 : decode cX3_drink 51 = .ok (.iconst 1, 1) := by decide +kernel
theorem dX3_drink_52 : decode cX3_drink 52 = .ok (.goto 4, 3) := by decide +kernel
theorem dX3_drink_55 : decode cX3_drink 55 = .ok (.iconst 0, 1) := by decide +kernel
theorem dX3_drink_56 : decode cX3_drink 56 = .ok (.invokestatic 48, 3) := by decide +kernel
theorem dX3_drink_59 : decode cX3_drink 59 = .ok (.iadd, 1) := by decide +kernel
theorem dX3_drink_60 : decode cX3_drink 60 = .ok (.iastore, 1) := by decide +kernel
theorem dX3_drink_61 : decode cX3_drink 61 = .ok (.return_, 1) := by decide +kernel
