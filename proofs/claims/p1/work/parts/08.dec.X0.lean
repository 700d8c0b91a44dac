theorem dX0_init_0 : decode cX0_init 0 = .ok (.aload_n 0, 1) := by decide +kernel
theorem dX0_init_1 : decode cX0_init 1 = .ok (.invokespecial 3, 3) := by decide +kernel
theorem dX0_init_4 : decode cX0_init 4 = .ok (.aload_n 0, 1) := by decide +kernel
theorem dX0_init_5 : decode cX0_init 5 = .ok (.bipush 30, 2) := by decide +kernel
theorem dX0_init_7 : decode cX0_init 7 = .ok (.newarray .int, 2) := by decide +kernel
theorem dX0_init_9 : decode cX0_init 9 = .ok (.putfield 9, 3) := by decide +kernel
theorem dX0_init_12 : decode cX0_init 12 = .ok (.aload_n 0, 1) := by decide +kernel
theorem dX0_init_13 : decode cX0_init 13 = .ok (.bipush 6, 2) := by decide +kernel
theorem dX0_init_15 : decode cX0_init 15 = .ok (.newarray .int, 2) := by decide +kernel
theorem dX0_init_17 : decode cX0_init 17 = .ok (.putfield 15, 3) := by decide +kernel
theorem dX0_init_20 : decode cX0_init 20 = .ok (.aload_n 0, 1) := by decide +kernel
theorem dX0_init_21 : decode cX0_init 21 = .ok (.bipush 8, 2) := by decide +kernel
theorem dX0_init_23 : decode cX0_init 23 = .ok (.newarray .int, 2) := by decide +kernel
theorem dX0_init_25 : decode cX0_init 25 = .ok (.putfield 18, 3) := by decide +kernel
theorem dX0_init_28 : decode cX0_init 28 = .ok (.aload_n 0, 1) := by decide +kernel
theorem dX0_init_29 : decode cX0_init 29 = .ok (.bipush 8, 2) := by decide +kernel
theorem dX0_init_31 : decode cX0_init 31 = .ok (.newarray .int, 2) := by decide +kernel
theorem dX0_init_33 : decode cX0_init 33 = .ok (.putfield 21, 3) := by decide +kernel
theorem dX0_init_36 : decode cX0_init 36 = .ok (.aload_n 0, 1) := by decide +kernel
theorem dX0_init_37 : decode cX0_init 37 = .ok (.bipush 8, 2) := by decide +kernel
theorem dX0_init_39 : decode cX0_init 39 = .ok (.newarray .boolean, 2) := by decide +kernel
theorem dX0_init_41 : decode cX0_init 41 = .ok (.putfield 24, 3) := by decide +kernel
theorem dX0_init_44 : decode cX0_init 44 = .ok (.aload_n 0, 1) := by decide +kernel
theorem dX0_init_45 : decode cX0_init 45 = .ok (.bipush 6, 2) := by decide +kernel
theorem dX0_init_47 : decode cX0_init 47 = .ok (.newarray .int, 2) := by decide +kernel
theorem dX0_init_49 : decode cX0_init 49 = .ok (.putfield 28, 3) := by decide +kernel
theorem dX0_init_52 : decode cX0_init 52 = .ok (.return_, 1) := by decide +kernel
theorem dX0_becomeLike_0 : decode cX0_becomeLike 0 = .ok (.aload_n 1, 1) := by decide +kernel
theorem dX0_becomeLike_1 : decode cX0_becomeLike 1 = .ok (.getfield 9, 3) := by decide +kernel
theorem dX0_becomeLike_4 : decode cX0_becomeLike 4 = .ok (.aload_n 0, 1) := by decide +kernel
theorem dX0_becomeLike_5 : decode cX0_becomeLike 5 = .ok (.getfield 9, 3) := by decide +kernel
theorem dX0_becomeLike_8 : decode cX0_becomeLike 8 = .ok (.invokestatic 31, 3) := by decide +kernel
theorem dX0_becomeLike_11 : decode cX0_becomeLike 11 = .ok (.aload_n 1, 1) := by decide +kernel
theorem dX0_becomeLike_12 : decode cX0_becomeLike 12 = .ok (.getfield 15, 3) := by decide +kernel
theorem dX0_becomeLike_15 : decode cX0_becomeLike 15 = .ok (.aload_n 0, 1) := by decide +kernel
theorem dX0_becomeLike_16 : decode cX0_becomeLike 16 = .ok (.getfield 15, 3) := by decide +kernel
theorem dX0_becomeLike_19 : decode cX0_becomeLike 19 = .ok (.invokestatic 31, 3) := by decide +kernel
theorem dX0_becomeLike_22 : decode cX0_becomeLike 22 = .ok (.aload_n 1, 1) := by decide +kernel
theorem dX0_becomeLike_23 : decode cX0_becomeLike 23 = .ok (.getfield 18, 3) := by decide +kernel
theorem dX0_becomeLike_26 : decode cX0_becomeLike 26 = .ok (.aload_n 0, 1) := by decide +kernel
theorem dX0_becomeLike_27 : decode cX0_becomeLike 27 = .ok (.getfield 18, 3) := by decide +kernel
theorem dX0_becomeLike_30 : decode cX0_becomeLike 30 = .ok (.invokestatic 31, 3) := by decide +kernel
theorem dX0_becomeLike_33 : decode cX0_becomeLike 33 = .ok (.aload_n 1, 1) := by decide +kernel
theorem dX0_becomeLike_34 : decode cX0_becomeLike 34 = .ok (.getfield 21, 3) := by decide +kernel
theorem dX0_becomeLike_37 : decode cX0_becomeLike 37 = .ok (.aload_n 0, 1) := by decide +kernel
theorem dX0_becomeLike_38 : decode cX0_becomeLike 38 = .ok (.getfield 21, 3) := by decide +kernel
theorem dX0_becomeLike_41 : decode cX0_becomeLike 41 = .ok (.invokestatic 31, 3) := by decide +kernel
theorem dX0_becomeLike_44 : decode cX0_becomeLike 44 = .ok (.aload_n 1, 1) := by decide +kernel
theorem dX0_becomeLike_45 : decode cX0_becomeLike 45 = .ok (.getfield 24, 3) := by decide +kernel
theorem dX0_becomeLike_48 : decode cX0_becomeLike 48 = .ok (.aload_n 0, 1) := by decide +kernel
theorem dX0_becomeLike_49 : decode cX0_becomeLike 49 = .ok (.getfield 24, 3) := by decide +kernel
theorem dX0_becomeLike_52 : decode cX0_becomeLike 52 = .ok (.invokestatic 35, 3) := by decide +kernel
theorem dX0_becomeLike_55 : decode cX0_becomeLike 55 = .ok (.aload_n 1, 1) := by decide +kernel
theorem dX0_becomeLike_56 : decode cX0_becomeLike 56 = .ok (.getfield 28, 3) := by decide +kernel
theorem dX0_becomeLike_59 : decode cX0_becomeLike 59 = .ok (.aload_n 0, 1) := by decide +kernel
theorem dX0_becomeLike_60 : decode cX0_becomeLike 60 = .ok (.getfield 28, 3) := by decide +kernel
theorem dX0_becomeLike_63 : decode cX0_becomeLike 63 = .ok (.invokestatic 31, 3) := by decide +kernel
theorem dX0_becomeLike_66 : decode cX0_becomeLike 66 = .ok (.aload_n 0, 1) := by decide +kernel
theorem dX0_becomeLike_67 : decode cX0_becomeLike 67 = .ok (.aload_n 1, 1) := by decide +kernel
theorem dX0_becomeLike_68 : decode cX0_becomeLike 68 = .ok (.getfield 39, 3) := by decide +kernel
theorem dX0_becomeLike_71 : decode cX0_becomeLike 71 = .ok (.putfield 39, 3) := by decide +kernel
theorem dX0_becomeLike_74 : decode cX0_becomeLike 74 = .ok (.aload_n 0, 1) := by decide +kernel
theorem dX0_becomeLike_75 : decode cX0_becomeLike 75 = .ok (.aload_n 1, 1) := by decide +kernel
theorem dX0_becomeLike_76 : decode cX0_becomeLike 76 = .ok (.getfield 43, 3) := by decide +kernel
theorem dX0_becomeLike_79 : decode cX0_becomeLike 79 = .ok (.putfield 43, 3) := by decide +kernel
theorem dX0_becomeLike_82 : decode cX0_becomeLike 82 = .ok (.return_, 1) := by decide +kernel
theorem dX0_isSort_0 : decode cX0_isSort 0 = .ok (.iload_n 0, 1) := by decide +kernel
theorem dX0_isSort_1 : decode cX0_isSort 1 = .ok (.ifCond .lt 12, 3) := by decide +kernel
theorem dX0_isSort_4 : decode cX0_isSort 4 = .ok (.iload_n 0, 1) := by decide +kernel
theorem dX0_isSort_5 : decode cX0_isSort 5 = .ok (.iconst 5, 1) := by decide +kernel
theorem dX0_isSort_6 : decode cX0_isSort 6 = .ok (.if_icmp .ge 7, 3) := by decide +kernel
theorem dX0_isSort_9 : decode cX0_isSort 9 = .ok (.iconst 1, 1) := by decide +kernel
theorem dX0_isSort_10 : decode cX0_isSort 10 = .ok (.goto 4, 3) := by decide +kernel
theorem dX0_isSort_13 : decode cX0_isSort 13 = .ok (.iconst 0, 1) := by decide +kernel
theorem dX0_isSort_14 : decode cX0_isSort 14 = .ok (.ireturn, 1) := by decide +kernel
theorem dX0_hasModule_0 : decode cX0_hasModule 0 = .ok (.iload_n 1, 1) := by decide +kernel
theorem dX0_hasModule_1 : decode cX0_hasModule 1 = .ok (.ifCond .lt 15, 3) := by decide +kernel
theorem dX0_hasModule_4 : decode cX0_hasModule 4 = .ok (.iload_n 1, 1) := by decide +kernel
theorem dX0_hasModule_5 : decode cX0_hasModule 5 = .ok (.aload_n 0, 1) := by decide +kernel
theorem dX0_hasModule_6 : decode cX0_hasModule 6 = .ok (.getfield 39, 3) := by decide +kernel
theorem dX0_hasModule_9 : decode cX0_hasModule 9 = .ok (.if_icmp .ge 7, 3) := by decide +kernel
theorem dX0_hasModule_12 : decode cX0_hasModule 12 = .ok (.iconst 1, 1) := by decide +kernel
theorem dX0_hasModule_13 : decode cX0_hasModule 13 = .ok (.goto 4, 3) := by decide +kernel
theorem dX0_hasModule_16 : decode cX0_hasModule 16 = .ok (.iconst 0, 1) := by decide +kernel
theorem dX0_hasModule_17 : decode cX0_hasModule 17 = .ok (.ireturn, 1) := by decide +kernel
theorem dX0_hasHatch_0 : decode cX0_hasHatch 0 = .ok (.iload_n 1, 1) := by decide +kernel
theorem dX0_hasHatch_1 : decode cX0_hasHatch 1 = .ok (.ifCond .lt 15, 3) := by decide +kernel
theorem dX0_hasHatch_4 : decode cX0_hasHatch 4 = .ok (.iload_n 1, 1) := by decide +kernel
theorem dX0_hasHatch_5 : decode cX0_hasHatch 5 = .ok (.aload_n 0, 1) := by decide +kernel
theorem dX0_hasHatch_6 : decode cX0_hasHatch 6 = .ok (.getfield 43, 3) := by decide +kernel
theorem dX0_hasHatch_9 : decode cX0_hasHatch 9 = .ok (.if_icmp .ge 7, 3) := by decide +kernel
theorem dX0_hasHatch_12 : decode cX0_hasHatch 12 = .ok (.iconst 1, 1) := by decide +kernel
theorem dX0_hasHatch_13 : decode cX0_hasHatch 13 = .ok (.goto 4, 3) := by decide +kernel
theorem dX0_hasHatch_16 : decode cX0_hasHatch 16 = .ok (.iconst 0, 1) := by decide +kernel
theorem dX0_hasHatch_17 : decode cX0_hasHatch 17 = .ok (.ireturn, 1) := by decide +kernel
theorem dX0_addModule_0 : decode cX0_addModule 0 = .ok (.aload_n 0, 1) := by decide +kernel
theorem dX0_addModule_1 : decode cX0_addModule 1 = .ok (.getfield 39, 3) := by decide +kernel
theorem dX0_addModule_4 : decode cX0_addModule 4 = .ok (.bipush 6, 2) := by decide +kernel
theorem dX0_addModule_6 : decode cX0_addModule 6 = .ok (.if_icmp .lt 6, 3) := by decide +kernel
theorem dX0_addModule_9 : decode cX0_addModule 9 = .ok (.ldc 46, 2) := by decide +kernel
theorem dX0_addModule_11 : decode cX0_addModule 11 = .ok (.ireturn, 1) := by decide +kernel
theorem dX0_addModule_12 : decode cX0_addModule 12 = .ok (.aload_n 0, 1) := by decide +kernel
theorem dX0_addModule_13 : decode cX0_addModule 13 = .ok (.dup, 1) := by decide +kernel
theorem dX0_addModule_14 : decode cX0_addModule 14 = .ok (.getfield 39, 3) := by decide +kernel
theorem dX0_addModule_17 : decode cX0_addModule 17 = .ok (.iconst 1, 1) := by decide +kernel
theorem dX0_addModule_18 : decode cX0_addModule 18 = .ok (.iadd, 1) := by decide +kernel
theorem dX0_addModule_19 : decode cX0_addModule 19 = .ok (.putfield 39, 3) := by decide +kernel
theorem dX0_addModule_22 : decode cX0_addModule 22 = .ok (.aload_n 0, 1) := by decide +kernel
theorem dX0_addModule_23 : decode cX0_addModule 23 = .ok (.getfield 39, 3) := by decide +kernel
theorem dX0_addModule_26 : decode cX0_addModule 26 = .ok (.iconst 1, 1) := by decide +kernel
theorem dX0_addModule_27 : decode cX0_addModule 27 = .ok (.isub, 1) := by decide +kernel
theorem dX0_addModule_28 : decode cX0_addModule 28 = .ok (.ireturn, 1) := by decide +kernel
theorem dX0_addHatch_0 : decode cX0_addHatch 0 = .ok (.aload_n 0, 1) := by decide +kernel
theorem dX0_addHatch_1 : decode cX0_addHatch 1 = .ok (.iload_n 1, 1) := by decide +kernel
theorem dX0_addHatch_2 : decode cX0_addHatch 2 = .ok (.invokevirtual 47, 3) := by decide +kernel
theorem dX0_addHatch_5 : decode cX0_addHatch 5 = .ok (.ifCond .eq 16, 3) := by decide +kernel
theorem dX0_addHatch_8 : decode cX0_addHatch 8 = .ok (.aload_n 0, 1) := by decide +kernel
theorem dX0_addHatch_9 : decode cX0_addHatch 9 = .ok (.iload_n 2, 1) := by decide +kernel
theorem dX0_addHatch_10 : decode cX0_addHatch 10 = .ok (.invokevirtual 47, 3) := by decide +kernel
theorem dX0_addHatch_13 : decode cX0_addHatch 13 = .ok (.ifCond .eq 8, 3) := by decide +kernel
theorem dX0_addHatch_16 : decode cX0_addHatch 16 = .ok (.iload_n 1, 1) := by decide +kernel
theorem dX0_addHatch_17 : decode cX0_addHatch 17 = .ok (.iload_n 2, 1) := by decide +kernel
theorem dX0_addHatch_18 : decode cX0_addHatch 18 = .ok (.if_icmp .ne 6, 3) := by decide +kernel
theorem dX0_addHatch_21 : decode cX0_addHatch 21 = .ok (.ldc 51, 2) := by decide +kernel
theorem dX0_addHatch_23 : decode cX0_addHatch 23 = .ok (.ireturn, 1) := by decide +kernel
theorem dX0_addHatch_24 : decode cX0_addHatch 24 = .ok (.aload_n 0, 1) := by decide +kernel
theorem dX0_addHatch_25 : decode cX0_addHatch 25 = .ok (.getfield 43, 3) := by decide +kernel
theorem dX0_addHatch_28 : decode cX0_addHatch 28 = .ok (.bipush 8, 2) := by decide +kernel
theorem dX0_addHatch_30 : decode cX0_addHatch 30 = .ok (.if_icmp .lt 6, 3) := by decide +kernel
theorem dX0_addHatch_33 : decode cX0_addHatch 33 = .ok (.ldc 46, 2) := by decide +kernel
theorem dX0_addHatch_35 : decode cX0_addHatch 35 = .ok (.ireturn, 1) := by decide +kernel
theorem dX0_addHatch_36 : decode cX0_addHatch 36 = .ok (.aload_n 0, 1) := by decide +kernel
theorem dX0_addHatch_37 : decode cX0_addHatch 37 = .ok (.getfield 18, 3) := by decide +kernel
theorem dX0_addHatch_40 : decode cX0_addHatch 40 = .ok (.aload_n 0, 1) := by decide +kernel
theorem dX0_addHatch_41 : decode cX0_addHatch 41 = .ok (.getfield 43, 3) := by decide +kernel
theorem dX0_addHatch_44 : decode cX0_addHatch 44 = .ok (.iload_n 1, 1) := by decide +kernel
theorem dX0_addHatch_45 : decode cX0_addHatch 45 = .ok (.iastore, 1) := by decide +kernel
theorem dX0_addHatch_46 : decode cX0_addHatch 46 = .ok (.aload_n 0, 1) := by decide +kernel
theorem dX0_addHatch_47 : decode cX0_addHatch 47 = .ok (.getfield 21, 3) := by decide +kernel
theorem dX0_addHatch_50 : decode cX0_addHatch 50 = .ok (.aload_n 0, 1) := by decide +kernel
theorem dX0_addHatch_51 : decode cX0_addHatch 51 = .ok (.getfield 43, 3) := by decide +kernel
theorem dX0_addHatch_54 : decode cX0_addHatch 54 = .ok (.iload_n 2, 1) := by decide +kernel
theorem dX0_addHatch_55 : decode cX0_addHatch 55 = .ok (.iastore, 1) := by decide +kernel
theorem dX0_addHatch_56 : decode cX0_addHatch 56 = .ok (.aload_n 0, 1) := by decide +kernel
theorem dX0_addHatch_57 : decode cX0_addHatch 57 = .ok (.getfield 24, 3) := by decide +kernel
theorem dX0_addHatch_60 : decode cX0_addHatch 60 = .ok (.aload_n 0, 1) := by decide +kernel
theorem dX0_addHatch_61 : decode cX0_addHatch 61 = .ok (.getfield 43, 3) := by decide +kernel
theorem dX0_addHatch_64 : decode cX0_addHatch 64 = .ok (.iconst 1, 1) := by decide +kernel
theorem dX0_addHatch_65 : decode cX0_addHatch 65 = .ok (.bastore, 1) := by decide +kernel
theorem dX0_addHatch_66 : decode cX0_addHatch 66 = .ok (.aload_n 0, 1) := by decide +kernel
theorem dX0_addHatch_67 : decode cX0_addHatch 67 = .ok (.dup, 1) := by decide +kernel
theorem dX0_addHatch_68 : decode cX0_addHatch 68 = .ok (.getfield 43, 3) := by decide +kernel
theorem dX0_addHatch_71 : decode cX0_addHatch 71 = .ok (.iconst 1, 1) := by decide +kernel
theorem dX0_addHatch_72 : decode cX0_addHatch 72 = .ok (.iadd, 1) := by decide +kernel
theorem dX0_addHatch_73 : decode cX0_addHatch 73 = .ok (.putfield 43, 3) := by decide +kernel
theorem dX0_addHatch_76 : decode cX0_addHatch 76 = .ok (.aload_n 0, 1) := by decide +kernel
theorem dX0_addHatch_77 : decode cX0_addHatch 77 = .ok (.getfield 43, 3) := by decide +kernel
theorem dX0_addHatch_80 : decode cX0_addHatch 80 = .ok (.iconst 1, 1) := by decide +kernel
theorem dX0_addHatch_81 : decode cX0_addHatch 81 = .ok (.isub, 1) := by decide +kernel
theorem dX0_addHatch_82 : decode cX0_addHatch 82 = .ok (.ireturn, 1) := by decide +kernel
theorem dX0_setOpen_0 : decode cX0_setOpen 0 = .ok (.aload_n 0, 1) := by decide +kernel
theorem dX0_setOpen_1 : decode cX0_setOpen 1 = .ok (.iload_n 1, 1) := by decide +kernel
theorem dX0_setOpen_2 : decode cX0_setOpen 2 = .ok (.invokevirtual 52, 3) := by decide +kernel
theorem dX0_setOpen_5 : decode cX0_setOpen 5 = .ok (.ifCond .eq 10, 3) := by decide +kernel
theorem dX0_setOpen_8 : decode cX0_setOpen 8 = .ok (.iload_n 2, 1) := by decide +kernel
theorem dX0_setOpen_9 : decode cX0_setOpen 9 = .ok (.invokestatic 55, 3) := by decide +kernel
theorem dX0_setOpen_12 : decode cX0_setOpen 12 = .ok (.ifCond .ne 6, 3) := by decide +kernel
theorem dX0_setOpen_15 : decode cX0_setOpen 15 = .ok (.ldc 51, 2) := by decide +kernel
theorem dX0_setOpen_17 : decode cX0_setOpen 17 = .ok (.ireturn, 1) := by decide +kernel
theorem dX0_setOpen_18 : decode cX0_setOpen 18 = .ok (.aload_n 0, 1) := by decide +kernel
theorem dX0_setOpen_19 : decode cX0_setOpen 19 = .ok (.getfield 24, 3) := by decide +kernel
theorem dX0_setOpen_22 : decode cX0_setOpen 22 = .ok (.iload_n 1, 1) := by decide +kernel
theorem dX0_setOpen_23 : decode cX0_setOpen 23 = .ok (.baload, 1) := by decide +kernel
theorem dX0_setOpen_24 : decode cX0_setOpen 24 = .ok (.invokestatic 58, 3) := by decide +kernel
theorem dX0_setOpen_27 : decode cX0_setOpen 27 = .ok (.istore_n 3, 1) := by decide +kernel
theorem dX0_setOpen_28 : decode cX0_setOpen 28 = .ok (.aload_n 0, 1) := by decide +kernel
theorem dX0_setOpen_29 : decode cX0_setOpen 29 = .ok (.getfield 24, 3) := by decide +kernel
theorem dX0_setOpen_32 : decode cX0_setOpen 32 = .ok (.iload_n 1, 1) := by decide +kernel
theorem dX0_setOpen_33 : decode cX0_setOpen 33 = .ok (.iload_n 2, 1) := by decide +kernel
theorem dX0_setOpen_34 : decode cX0_setOpen 34 = .ok (.iconst 1, 1) := by decide +kernel
theorem dX0_setOpen_35 : decode cX0_setOpen 35 = .ok (.if_icmp .ne 7, 3) := by decide +kernel
theorem dX0_setOpen_38 : decode cX0_setOpen 38 = .ok (.iconst 1, 1) := by decide +kernel
theorem dX0_setOpen_39 : decode cX0_setOpen 39 = .ok (.goto 4, 3) := by decide +kernel
theorem dX0_setOpen_42 : decode cX0_setOpen 42 = .ok (.iconst 0, 1) := by decide +kernel
theorem dX0_setOpen_43 : decode cX0_setOpen 43 = .ok (.bastore, 1) := by decide +kernel
theorem dX0_setOpen_44 : decode cX0_setOpen 44 = .ok (.iload_n 3, 1) := by decide +kernel
theorem dX0_setOpen_45 : decode cX0_setOpen 45 = .ok (.ireturn, 1) := by decide +kernel
theorem dX0_setHeld_0 : decode cX0_setHeld 0 = .ok (.aload_n 0, 1) := by decide +kernel
theorem dX0_setHeld_1 : decode cX0_setHeld 1 = .ok (.iload_n 1, 1) := by decide +kernel
theorem dX0_setHeld_2 : decode cX0_setHeld 2 = .ok (.invokevirtual 47, 3) := by decide +kernel
theorem dX0_setHeld_5 : decode cX0_setHeld 5 = .ok (.ifCond .eq 21, 3) := by decide +kernel
theorem dX0_setHeld_8 : decode cX0_setHeld 8 = .ok (.iload_n 2, 1) := by decide +kernel
theorem dX0_setHeld_9 : decode cX0_setHeld 9 = .ok (.invokestatic 62, 3) := by decide +kernel
theorem dX0_setHeld_12 : decode cX0_setHeld 12 = .ok (.ifCond .eq 14, 3) := by decide +kernel
theorem dX0_setHeld_15 : decode cX0_setHeld 15 = .ok (.iload_n 3, 1) := by decide +kernel
theorem dX0_setHeld_16 : decode cX0_setHeld 16 = .ok (.iconst (-1), 1) := by decide +kernel
theorem dX0_setHeld_17 : decode cX0_setHeld 17 = .ok (.if_icmp .lt 9, 3) := by decide +kernel
theorem dX0_setHeld_20 : decode cX0_setHeld 20 = .ok (.iload_n 3, 1) := by decide +kernel
theorem dX0_setHeld_21 : decode cX0_setHeld 21 = .ok (.ldc 65, 2) := by decide +kernel
theorem dX0_setHeld_23 : decode cX0_setHeld 23 = .ok (.if_icmp .le 6, 3) := by decide +kernel
theorem dX0_setHeld_26 : decode cX0_setHeld 26 = .ok (.ldc 51, 2) := by decide +kernel
theorem dX0_setHeld_28 : decode cX0_setHeld 28 = .ok (.ireturn, 1) := by decide +kernel
theorem dX0_setHeld_29 : decode cX0_setHeld 29 = .ok (.aload_n 0, 1) := by decide +kernel
theorem dX0_setHeld_30 : decode cX0_setHeld 30 = .ok (.getfield 9, 3) := by decide +kernel
theorem dX0_setHeld_33 : decode cX0_setHeld 33 = .ok (.iload_n 1, 1) := by decide +kernel
theorem dX0_setHeld_34 : decode cX0_setHeld 34 = .ok (.iconst 5, 1) := by decide +kernel
theorem dX0_setHeld_35 : decode cX0_setHeld 35 = .ok (.imul, 1) := by decide +kernel
theorem dX0_setHeld_36 : decode cX0_setHeld 36 = .ok (.iload_n 2, 1) := by decide +kernel
theorem dX0_setHeld_37 : decode cX0_setHeld 37 = .ok (.iadd, 1) := by decide +kernel
theorem dX0_setHeld_38 : decode cX0_setHeld 38 = .ok (.iaload, 1) := by decide +kernel
theorem dX0_setHeld_39 : decode cX0_setHeld 39 = .ok (.istore 4, 2) := by decide +kernel
theorem dX0_setHeld_41 : decode cX0_setHeld 41 = .ok (.iload_n 3, 1) := by decide +kernel
theorem dX0_setHeld_42 : decode cX0_setHeld 42 = .ok (.iconst (-1), 1) := by decide +kernel
theorem dX0_setHeld_43 : decode cX0_setHeld 43 = .ok (.if_icmp .eq 14, 3) := by decide +kernel
theorem dX0_setHeld_46 : decode cX0_setHeld 46 = .ok (.aload_n 0, 1) := by decide +kernel
theorem dX0_setHeld_47 : decode cX0_setHeld 47 = .ok (.getfield 9, 3) := by decide +kernel
theorem dX0_setHeld_50 : decode cX0_setHeld 50 = .ok (.iload_n 1, 1) := by decide +kernel
theorem dX0_setHeld_51 : decode cX0_setHeld 51 = .ok (.iconst 5, 1) := by decide +kernel
theorem dX0_setHeld_52 : decode cX0_setHeld 52 = .ok (.imul, 1) := by decide +kernel
theorem dX0_setHeld_53 : decode cX0_setHeld 53 = .ok (.iload_n 2, 1) := by decide +kernel
theorem dX0_setHeld_54 : decode cX0_setHeld 54 = .ok (.iadd, 1) := by decide +kernel
theorem dX0_setHeld_55 : decode cX0_setHeld 55 = .ok (.iload_n 3, 1) := by decide +kernel
theorem dX0_setHeld_56 : decode cX0_setHeld 56 = .ok (.iastore, 1) := by decide +kernel
theorem dX0_setHeld_57 : decode cX0_setHeld 57 = .ok (.iload 4, 2) := by decide +kernel
theorem dX0_setHeld_59 : decode cX0_setHeld 59 = .ok (.ireturn, 1) := by decide +kernel
theorem dX0_setLeak_0 : decode cX0_setLeak 0 = .ok (.aload_n 0, 1) := by decide +kernel
theorem dX0_setLeak_1 : decode cX0_setLeak 1 = .ok (.iload_n 1, 1) := by decide +kernel
theorem dX0_setLeak_2 : decode cX0_setLeak 2 = .ok (.invokevirtual 47, 3) := by decide +kernel
theorem dX0_setLeak_5 : decode cX0_setLeak 5 = .ok (.ifCond .eq 13, 3) := by decide +kernel
theorem dX0_setLeak_8 : decode cX0_setLeak 8 = .ok (.iload_n 2, 1) := by decide +kernel
theorem dX0_setLeak_9 : decode cX0_setLeak 9 = .ok (.ifCond .lt 9, 3) := by decide +kernel
theorem dX0_setLeak_12 : decode cX0_setLeak 12 = .ok (.iload_n 2, 1) := by decide +kernel
theorem dX0_setLeak_13 : decode cX0_setLeak 13 = .ok (.bipush 50, 2) := by decide +kernel
theorem dX0_setLeak_15 : decode cX0_setLeak 15 = .ok (.if_icmp .le 6, 3) := by decide +kernel
theorem dX0_setLeak_18 : decode cX0_setLeak 18 = .ok (.ldc 51, 2) := by decide +kernel
theorem dX0_setLeak_20 : decode cX0_setLeak 20 = .ok (.ireturn, 1) := by decide +kernel
theorem dX0_setLeak_21 : decode cX0_setLeak 21 = .ok (.aload_n 0, 1) := by decide +kernel
theorem dX0_setLeak_22 : decode cX0_setLeak 22 = .ok (.getfield 15, 3) := by decide +kernel
theorem dX0_setLeak_25 : decode cX0_setLeak 25 = .ok (.iload_n 1, 1) := by decide +kernel
theorem dX0_setLeak_26 : decode cX0_setLeak 26 = .ok (.iaload, 1) := by decide +kernel
theorem dX0_setLeak_27 : decode cX0_setLeak 27 = .ok (.istore_n 3, 1) := by decide +kernel
theorem dX0_setLeak_28 : decode cX0_setLeak 28 = .ok (.aload_n 0, 1) := by decide +kernel
theorem dX0_setLeak_29 : decode cX0_setLeak 29 = .ok (.getfield 15, 3) := by decide +kernel
theorem dX0_setLeak_32 : decode cX0_setLeak 32 = .ok (.iload_n 1, 1) := by decide +kernel
theorem dX0_setLeak_33 : decode cX0_setLeak 33 = .ok (.iload_n 2, 1) := by decide +kernel
theorem dX0_setLeak_34 : decode cX0_setLeak 34 = .ok (.iastore, 1) := by decide +kernel
theorem dX0_setLeak_35 : decode cX0_setLeak 35 = .ok (.iload_n 3, 1) := by decide +kernel
theorem dX0_setLeak_36 : decode cX0_setLeak 36 = .ok (.ireturn, 1) := by decide +kernel
theorem dX0_setStored_0 : decode cX0_setStored 0 = .ok (.iload_n 1, 1) := by decide +kernel
theorem dX0_setStored_1 : decode cX0_setStored 1 = .ok (.ifCond .lt 20, 3) := by decide +kernel
theorem dX0_setStored_4 : decode cX0_setStored 4 = .ok (.iload_n 1, 1) := by decide +kernel
theorem dX0_setStored_5 : decode cX0_setStored 5 = .ok (.bipush 6, 2) := by decide +kernel
theorem dX0_setStored_7 : decode cX0_setStored 7 = .ok (.if_icmp .ge 14, 3) := by decide +kernel
theorem dX0_setStored_10 : decode cX0_setStored 10 = .ok (.iload_n 2, 1) := by decide +kernel
theorem dX0_setStored_11 : decode cX0_setStored 11 = .ok (.iconst (-1), 1) := by decide +kernel
theorem dX0_setStored_12 : decode cX0_setStored 12 = .ok (.if_icmp .lt 9, 3) := by decide +kernel
theorem dX0_setStored_15 : decode cX0_setStored 15 = .ok (.iload_n 2, 1) := by decide +kernel
theorem dX0_setStored_16 : decode cX0_setStored 16 = .ok (.ldc 66, 2) := by decide +kernel
theorem dX0_setStored_18 : decode cX0_setStored 18 = .ok (.if_icmp .le 6, 3) := by decide +kernel
theorem dX0_setStored_21 : decode cX0_setStored 21 = .ok (.ldc 51, 2) := by decide +kernel
theorem dX0_setStored_23 : decode cX0_setStored 23 = .ok (.ireturn, 1) := by decide +kernel
theorem dX0_setStored_24 : decode cX0_setStored 24 = .ok (.aload_n 0, 1) := by decide +kernel
theorem dX0_setStored_25 : decode cX0_setStored 25 = .ok (.getfield 28, 3) := by decide +kernel
theorem dX0_setStored_28 : decode cX0_setStored 28 = .ok (.iload_n 1, 1) := by decide +kernel
theorem dX0_setStored_29 : decode cX0_setStored 29 = .ok (.iaload, 1) := by decide +kernel
theorem dX0_setStored_30 : decode cX0_setStored 30 = .ok (.istore_n 3, 1) := by decide +kernel
theorem dX0_setStored_31 : decode cX0_setStored 31 = .ok (.iload_n 2, 1) := by decide +kernel
theorem dX0_setStored_32 : decode cX0_setStored 32 = .ok (.iconst (-1), 1) := by decide +kernel
theorem dX0_setStored_33 : decode cX0_setStored 33 = .ok (.if_icmp .eq 10, 3) := by decide +kernel
theorem dX0_setStored_36 : decode cX0_setStored 36 = .ok (.aload_n 0, 1) := by decide +kernel
theorem dX0_setStored_37 : decode cX0_setStored 37 = .ok (.getfield 28, 3) := by decide +kernel
theorem dX0_setStored_40 : decode cX0_setStored 40 = .ok (.iload_n 1, 1) := by decide +kernel
theorem dX0_setStored_41 : decode cX0_setStored 41 = .ok (.iload_n 2, 1) := by decide +kernel
theorem dX0_setStored_42 : decode cX0_setStored 42 = .ok (.iastore, 1) := by decide +kernel
theorem dX0_setStored_43 : decode cX0_setStored 43 = .ok (.iload_n 3, 1) := by decide +kernel
theorem dX0_setStored_44 : decode cX0_setStored 44 = .ok (.ireturn, 1) := by decide +kernel
theorem dX0_allGrams_0 : decode cX0_allGrams 0 = .ok (.aload_n 0, 1) := by decide +kernel
theorem dX0_allGrams_1 : decode cX0_allGrams 1 = .ok (.getfield 28, 3) := by decide +kernel
theorem dX0_allGrams_4 : decode cX0_allGrams 4 = .ok (.iconst 4, 1) := by decide +kernel
theorem dX0_allGrams_5 : decode cX0_allGrams 5 = .ok (.iaload, 1) := by decide +kernel
theorem dX0_allGrams_6 : decode cX0_allGrams 6 = .ok (.istore_n 1, 1) := by decide +kernel
theorem dX0_allGrams_7 : decode cX0_allGrams 7 = .ok (.iconst 0, 1) := by decide +kernel
theorem dX0_allGrams_8 : decode cX0_allGrams 8 = .ok (.istore_n 2, 1) := by decide +kernel
theorem dX0_allGrams_9 : decode cX0_allGrams 9 = .ok (.iload_n 2, 1) := by decide +kernel
theorem dX0_allGrams_10 : decode cX0_allGrams 10 = .ok (.iconst 4, 1) := by decide +kernel
theorem dX0_allGrams_11 : decode cX0_allGrams 11 = .ok (.if_icmp .ge 18, 3) := by decide +kernel
theorem dX0_allGrams_14 : decode cX0_allGrams 14 = .ok (.iload_n 1, 1) := by decide +kernel
theorem dX0_allGrams_15 : decode cX0_allGrams 15 = .ok (.aload_n 0, 1) := by decide +kernel
theorem dX0_allGrams_16 : decode cX0_allGrams 16 = .ok (.getfield 28, 3) := by decide +kernel
theorem dX0_allGrams_19 : decode cX0_allGrams 19 = .ok (.iload_n 2, 1) := by decide +kernel
theorem dX0_allGrams_20 : decode cX0_allGrams 20 = .ok (.iaload, 1) := by decide +kernel
theorem dX0_allGrams_21 : decode cX0_allGrams 21 = .ok (.iadd, 1) := by decide +kernel
theorem dX0_allGrams_22 : decode cX0_allGrams 22 = .ok (.istore_n 1, 1) := by decide +kernel
theorem dX0_allGrams_23 : decode cX0_allGrams 23 = .ok (.iinc 2 1, 3) := by decide +kernel
theorem dX0_allGrams_26 : decode cX0_allGrams 26 = .ok (.goto (-17), 3) := by decide +kernel
theorem dX0_allGrams_29 : decode cX0_allGrams 29 = .ok (.iconst 0, 1) := by decide +kernel
theorem dX0_allGrams_30 : decode cX0_allGrams 30 = .ok (.istore_n 2, 1) := by decide +kernel
theorem dX0_allGrams_31 : decode cX0_allGrams 31 = .ok (.iload_n 2, 1) := by decide +kernel
theorem dX0_allGrams_32 : decode cX0_allGrams 32 = .ok (.aload_n 0, 1) := by decide +kernel
theorem dX0_allGrams_33 : decode cX0_allGrams 33 = .ok (.getfield 39, 3) := by decide +kernel
theorem dX0_allGrams_36 : decode cX0_allGrams 36 = .ok (.if_icmp .ge 35, 3) := by decide +kernel
theorem dX0_allGrams_39 : decode cX0_allGrams 39 = .ok (.iconst 0, 1) := by decide +kernel
theorem dX0_allGrams_40 : decode cX0_allGrams 40 = .ok (.istore_n 3, 1) := by decide +kernel
theorem dX0_allGrams_41 : decode cX0_allGrams 41 = .ok (.iload_n 3, 1) := by decide +kernel
theorem dX0_allGrams_42 : decode cX0_allGrams 42 = .ok (.iconst 4, 1) := by decide +kernel
theorem dX0_allGrams_43 : decode cX0_allGrams 43 = .ok (.if_icmp .ge 22, 3) := by decide +kernel
theorem dX0_allGrams_46 : decode cX0_allGrams 46 = .ok (.iload_n 1, 1) := by decide +kernel
theorem dX0_allGrams_47 : decode cX0_allGrams 47 = .ok (.aload_n 0, 1) := by decide +kernel
theorem dX0_allGrams_48 : decode cX0_allGrams 48 = .ok (.getfield 9, 3) := by decide +kernel
theorem dX0_allGrams_51 : decode cX0_allGrams 51 = .ok (.iload_n 2, 1) := by decide +kernel
theorem dX0_allGrams_52 : decode cX0_allGrams 52 = .ok (.iconst 5, 1) := by decide +kernel
theorem dX0_allGrams_53 : decode cX0_allGrams 53 = .ok (.imul, 1) := by decide +kernel
theorem dX0_allGrams_54 : decode cX0_allGrams 54 = .ok (.iload_n 3, 1) := by decide +kernel
theorem dX0_allGrams_55 : decode cX0_allGrams 55 = .ok (.iadd, 1) := by decide +kernel
theorem dX0_allGrams_56 : decode cX0_allGrams 56 = .ok (.iaload, 1) := by decide +kernel
theorem dX0_allGrams_57 : decode cX0_allGrams 57 = .ok (.iadd, 1) := by decide +kernel
theorem dX0_allGrams_58 : decode cX0_allGrams 58 = .ok (.istore_n 1, 1) := by decide +kernel
theorem dX0_allGrams_59 : decode cX0_allGrams 59 = .ok (.iinc 3 1, 3) := by decide +kernel
theorem dX0_allGrams_62 : decode cX0_allGrams 62 = .ok (.goto (-21), 3) := by decide +kernel
theorem dX0_allGrams_65 : decode cX0_allGrams 65 = .ok (.iinc 2 1, 3) := by decide +kernel
theorem dX0_allGrams_68 : decode cX0_allGrams 68 = .ok (.goto (-37), 3) := by decide +kernel
theorem dX0_allGrams_71 : decode cX0_allGrams 71 = .ok (.iload_n 1, 1) := by decide +kernel
theorem dX0_allGrams_72 : decode cX0_allGrams 72 = .ok (.ireturn, 1) := by decide +kernel
theorem dX0_amount_0 : decode cX0_amount 0 = .ok (.aload_n 0, 1) := by decide +kernel
theorem dX0_amount_1 : decode cX0_amount 1 = .ok (.getfield 9, 3) := by decide +kernel
theorem dX0_amount_4 : decode cX0_amount 4 = .ok (.iload_n 1, 1) := by decide +kernel
theorem dX0_amount_5 : decode cX0_amount 5 = .ok (.iconst 5, 1) := by decide +kernel
theorem dX0_amount_6 : decode cX0_amount 6 = .ok (.imul, 1) := by decide +kernel
theorem dX0_amount_7 : decode cX0_amount 7 = .ok (.iload_n 2, 1) := by decide +kernel
theorem dX0_amount_8 : decode cX0_amount 8 = .ok (.iadd, 1) := by decide +kernel
theorem dX0_amount_9 : decode cX0_amount 9 = .ok (.iaload, 1) := by decide +kernel
theorem dX0_amount_10 : decode cX0_amount 10 = .ok (.ireturn, 1) := by decide +kernel
theorem dX0_give_0 : decode cX0_give 0 = .ok (.aload_n 0, 1) := by decide +kernel
theorem dX0_give_1 : decode cX0_give 1 = .ok (.getfield 9, 3) := by decide +kernel
theorem dX0_give_4 : decode cX0_give 4 = .ok (.iload_n 1, 1) := by decide +kernel
theorem dX0_give_5 : decode cX0_give 5 = .ok (.iconst 5, 1) := by decide +kernel
theorem dX0_give_6 : decode cX0_give 6 = .ok (.imul, 1) := by decide +kernel
theorem dX0_give_7 : decode cX0_give 7 = .ok (.iload_n 2, 1) := by decide +kernel
theorem dX0_give_8 : decode cX0_give 8 = .ok (.iadd, 1) := by decide +kernel
theorem dX0_give_9 : decode cX0_give 9 = .ok (.dup2, 1) := by decide +kernel
theorem dX0_give_10 : decode cX0_give 10 = .ok (.iaload, 1) := by decide +kernel
theorem dX0_give_11 : decode cX0_give 11 = .ok (.iload_n 3, 1) := by decide +kernel
theorem dX0_give_12 : decode cX0_give 12 = .ok (.iadd, 1) := by decide +kernel
theorem dX0_give_13 : decode cX0_give 13 = .ok (.iastore, 1) := by decide +kernel
theorem dX0_give_14 : decode cX0_give 14 = .ok (.return_, 1) := by decide +kernel
theorem dX0_take_0 : decode cX0_take 0 = .ok (.iload_n 3, 1) := by decide +kernel
theorem dX0_take_1 : decode cX0_take 1 = .ok (.aload_n 0, 1) := by decide +kernel
theorem dX0_take_2 : decode cX0_take 2 = .ok (.getfield 9, 3) := by decide +kernel
theorem dX0_take_5 : decode cX0_take 5 = .ok (.iload_n 1, 1) := by decide +kernel
theorem dX0_take_6 : decode cX0_take 6 = .ok (.iconst 5, 1) := by decide +kernel
theorem dX0_take_7 : decode cX0_take 7 = .ok (.imul, 1) := by decide +kernel
theorem dX0_take_8 : decode cX0_take 8 = .ok (.iload_n 2, 1) := by decide +kernel
theorem dX0_take_9 : decode cX0_take 9 = .ok (.iadd, 1) := by decide +kernel
theorem dX0_take_10 : decode cX0_take 10 = .ok (.iaload, 1) := by decide +kernel
theorem dX0_take_11 : decode cX0_take 11 = .ok (.invokestatic 67, 3) := by decide +kernel
theorem dX0_take_14 : decode cX0_take 14 = .ok (.istore 4, 2) := by decide +kernel
theorem dX0_take_16 : decode cX0_take 16 = .ok (.aload_n 0, 1) := by decide +kernel
theorem dX0_take_17 : decode cX0_take 17 = .ok (.getfield 9, 3) := by decide +kernel
theorem dX0_take_20 : decode cX0_take 20 = .ok (.iload_n 1, 1) := by decide +kernel
theorem dX0_take_21 : decode cX0_take 21 = .ok (.iconst 5, 1) := by decide +kernel
theorem dX0_take_22 : decode cX0_take 22 = .ok (.imul, 1) := by decide +kernel
theorem dX0_take_23 : decode cX0_take 23 = .ok (.iload_n 2, 1) := by decide +kernel
theorem dX0_take_24 : decode cX0_take 24 = .ok (.iadd, 1) := by decide +kernel
theorem dX0_take_25 : decode cX0_take 25 = .ok (.dup2, 1) := by decide +kernel
theorem dX0_take_26 : decode cX0_take 26 = .ok (.iaload, 1) := by decide +kernel
theorem dX0_take_27 : decode cX0_take 27 = .ok (.iload 4, 2) := by decide +kernel
theorem dX0_take_29 : decode cX0_take 29 = .ok (.isub, 1) := by decide +kernel
theorem dX0_take_30 : decode cX0_take 30 = .ok (.iastore, 1) := by decide +kernel
theorem dX0_take_31 : decode cX0_take 31 = .ok (.iload 4, 2) := by decide +kernel
theorem dX0_take_33 : decode cX0_take 33 = .ok (.ireturn, 1) := by decide +kernel
theorem dX0_fill_0 : decode cX0_fill 0 = .ok (.aload_n 0, 1) := by decide +kernel
theorem dX0_fill_1 : decode cX0_fill 1 = .ok (.getfield 28, 3) := by decide +kernel
theorem dX0_fill_4 : decode cX0_fill 4 = .ok (.iload_n 1, 1) := by decide +kernel
theorem dX0_fill_5 : decode cX0_fill 5 = .ok (.dup2, 1) := by decide +kernel
theorem dX0_fill_6 : decode cX0_fill 6 = .ok (.iaload, 1) := by decide +kernel
theorem dX0_fill_7 : decode cX0_fill 7 = .ok (.iload_n 2, 1) := by decide +kernel
theorem dX0_fill_8 : decode cX0_fill 8 = .ok (.iadd, 1) := by decide +kernel
theorem dX0_fill_9 : decode cX0_fill 9 = .ok (.iastore, 1) := by decide +kernel
theorem dX0_fill_10 : decode cX0_fill 10 = .ok (.return_, 1) := by decide +kernel
theorem dX0_draw_0 : decode cX0_draw 0 = .ok (.iload_n 2, 1) := by decide +kernel
theorem dX0_draw_1 : decode cX0_draw 1 = .ok (.aload_n 0, 1) := by decide +kernel
theorem dX0_draw_2 : decode cX0_draw 2 = .ok (.getfield 28, 3) := by decide +kernel
theorem dX0_draw_5 : decode cX0_draw 5 = .ok (.iload_n 1, 1) := by decide +kernel
theorem dX0_draw_6 : decode cX0_draw 6 = .ok (.iaload, 1) := by decide +kernel
theorem dX0_draw_7 : decode cX0_draw 7 = .ok (.invokestatic 67, 3) := by decide +kernel
theorem dX0_draw_10 : decode cX0_draw 10 = .ok (.istore_n 3, 1) := by decide +kernel
theorem dX0_draw_11 : decode cX0_draw 11 = .ok (.aload_n 0, 1) := by decide +kernel
theorem dX0_draw_12 : decode cX0_draw 12 = .ok (.getfield 28, 3) := by decide +kernel
theorem dX0_draw_15 : decode cX0_draw 15 = .ok (.iload_n 1, 1) := by decide +kernel
theorem dX0_draw_16 : decode cX0_draw 16 = .ok (.dup2, 1) := by decide +kernel
theorem dX0_draw_17 : decode cX0_draw 17 = .ok (.iaload, 1) := by decide +kernel
theorem dX0_draw_18 : decode cX0_draw 18 = .ok (.iload_n 3, 1) := by decide +kernel
theorem dX0_draw_19 : decode cX0_draw 19 = .ok (.isub, 1) := by decide +kernel
theorem dX0_draw_20 : decode cX0_draw 20 = .ok (.iastore, 1) := by decide +kernel
theorem dX0_draw_21 : decode cX0_draw 21 = .ok (.iload_n 3, 1) := by decide +kernel
theorem dX0_draw_22 : decode cX0_draw 22 = .ok (.ireturn, 1) := by decide +kernel
theorem dX0_openBetween_0 : decode cX0_openBetween 0 = .ok (.iconst 0, 1) := by decide +kernel
theorem dX0_openBetween_1 : decode cX0_openBetween 1 = .ok (.istore_n 3, 1) := by decide +kernel
theorem dX0_openBetween_2 : decode cX0_openBetween 2 = .ok (.iload_n 3, 1) := by decide +kernel
theorem dX0_openBetween_3 : decode cX0_openBetween 3 = .ok (.aload_n 0, 1) := by decide +kernel
theorem dX0_openBetween_4 : decode cX0_openBetween 4 = .ok (.getfield 43, 3) := by decide +kernel
theorem dX0_openBetween_7 : decode cX0_openBetween 7 = .ok (.if_icmp .ge 72, 3) := by decide +kernel
theorem dX0_openBetween_10 : decode cX0_openBetween 10 = .ok (.aload_n 0, 1) := by decide +kernel
theorem dX0_openBetween_11 : decode cX0_openBetween 11 = .ok (.getfield 18, 3) := by decide +kernel
theorem dX0_openBetween_14 : decode cX0_openBetween 14 = .ok (.iload_n 3, 1) := by decide +kernel
theorem dX0_openBetween_15 : decode cX0_openBetween 15 = .ok (.iaload, 1) := by decide +kernel
theorem dX0_openBetween_16 : decode cX0_openBetween 16 = .ok (.iload_n 1, 1) := by decide +kernel
theorem dX0_openBetween_17 : decode cX0_openBetween 17 = .ok (.if_icmp .ne 13, 3) := by decide +kernel
theorem dX0_openBetween_20 : decode cX0_openBetween 20 = .ok (.aload_n 0, 1) := by decide +kernel
theorem dX0_openBetween_21 : decode cX0_openBetween 21 = .ok (.getfield 21, 3) := by decide +kernel
theorem dX0_openBetween_24 : decode cX0_openBetween 24 = .ok (.iload_n 3, 1) := by decide +kernel
theorem dX0_openBetween_25 : decode cX0_openBetween 25 = .ok (.iaload, 1) := by decide +kernel
theorem dX0_openBetween_26 : decode cX0_openBetween 26 = .ok (.iload_n 2, 1) := by decide +kernel
theorem dX0_openBetween_27 : decode cX0_openBetween 27 = .ok (.if_icmp .eq 23, 3) := by decide +kernel
theorem dX0_openBetween_30 : decode cX0_openBetween 30 = .ok (.aload_n 0, 1) := by decide +kernel
theorem dX0_openBetween_31 : decode cX0_openBetween 31 = .ok (.getfield 18, 3) := by decide +kernel
theorem dX0_openBetween_34 : decode cX0_openBetween 34 = .ok (.iload_n 3, 1) := by decide +kernel
theorem dX0_openBetween_35 : decode cX0_openBetween 35 = .ok (.iaload, 1) := by decide +kernel
theorem dX0_openBetween_36 : decode cX0_openBetween 36 = .ok (.iload_n 2, 1) := by decide +kernel
theorem dX0_openBetween_37 : decode cX0_openBetween 37 = .ok (.if_icmp .ne 17, 3) := by decide +kernel
theorem dX0_openBetween_40 : decode cX0_openBetween 40 = .ok (.aload_n 0, 1) := by decide +kernel
theorem dX0_openBetween_41 : decode cX0_openBetween 41 = .ok (.getfield 21, 3) := by decide +kernel
theorem dX0_openBetween_44 : decode cX0_openBetween 44 = .ok (.iload_n 3, 1) := by decide +kernel
theorem dX0_openBetween_45 : decode cX0_openBetween 45 = .ok (.iaload, 1) := by decide +kernel
theorem dX0_openBetween_46 : decode cX0_openBetween 46 = .ok (.iload_n 1, 1) := by decide +kernel
theorem dX0_openBetween_47 : decode cX0_openBetween 47 = .ok (.if_icmp .ne 7, 3) := by decide +kernel
theorem dX0_openBetween_50 : decode cX0_openBetween 50 = .ok (.iconst 1, 1) := by decide +kernel
theorem dX0_openBetween_51 : decode cX0_openBetween 51 = .ok (.goto 4, 3) := by decide +kernel
theorem dX0_openBetween_54 : decode cX0_openBetween 54 = .ok (.iconst 0, 1) := by decide +kernel
theorem dX0_openBetween_55 : decode cX0_openBetween 55 = .ok (.istore 4, 2) := by decide +kernel
theorem dX0_openBetween_57 : decode cX0_openBetween 57 = .ok (.iload 4, 2) := by decide +kernel
theorem dX0_openBetween_59 : decode cX0_openBetween 59 = .ok (.ifCond .eq 14, 3) := by decide +kernel
theorem dX0_openBetween_62 : decode cX0_openBetween 62 = .ok (.aload_n 0, 1) := by decide +kernel
theorem dX0_openBetween_63 : decode cX0_openBetween 63 = .ok (.getfield 24, 3) := by decide +kernel
theorem dX0_openBetween_66 : decode cX0_openBetween 66 = .ok (.iload_n 3, 1) := by decide +kernel
theorem dX0_openBetween_67 : decode cX0_openBetween 67 = .ok (.baload, 1) := by decide +kernel
theorem dX0_openBetween_68 : decode cX0_openBetween 68 = .ok (.ifCond .eq 5, 3) := by decide +kernel
theorem dX0_openBetween_71 : decode cX0_openBetween 71 = .ok (.iconst 1, 1) := by decide +kernel
theorem dX0_openBetween_72 : decode cX0_openBetween 72 = .ok (.ireturn, 1) := by decide +kernel
theorem dX0_openBetween_73 : decode cX0_openBetween 73 = .ok (.iinc 3 1, 3) := by decide +kernel
theorem dX0_openBetween_76 : decode cX0_openBetween 76 = .ok (.goto (-74), 3) := by decide +kernel
theorem dX0_openBetween_79 : decode cX0_openBetween 79 = .ok (.iconst 0, 1) := by decide +kernel
theorem dX0_openBetween_80 : decode cX0_openBetween 80 = .ok (.ireturn, 1) := by decide +kernel
theorem dX0_leakOut_0 : decode cX0_leakOut 0 = .ok (.iconst 0, 1) := by decide +kernel
theorem dX0_leakOut_1 : decode cX0_leakOut 1 = .ok (.istore_n 1, 1) := by decide +kernel
theorem dX0_leakOut_2 : decode cX0_leakOut 2 = .ok (.iload_n 1, 1) := by decide +kernel
theorem dX0_leakOut_3 : decode cX0_leakOut 3 = .ok (.aload_n 0, 1) := by decide +kernel
theorem dX0_leakOut_4 : decode cX0_leakOut 4 = .ok (.getfield 39, 3) := by decide +kernel
theorem dX0_leakOut_7 : decode cX0_leakOut 7 = .ok (.if_icmp .ge 54, 3) := by decide +kernel
theorem dX0_leakOut_10 : decode cX0_leakOut 10 = .ok (.iconst 0, 1) := by decide +kernel
theorem dX0_leakOut_11 : decode cX0_leakOut 11 = .ok (.istore_n 2, 1) := by decide +kernel
theorem dX0_leakOut_12 : decode cX0_leakOut 12 = .ok (.iload_n 2, 1) := by decide +kernel
theorem dX0_leakOut_13 : decode cX0_leakOut 13 = .ok (.iconst 4, 1) := by decide +kernel
theorem dX0_leakOut_14 : decode cX0_leakOut 14 = .ok (.if_icmp .ge 41, 3) := by decide +kernel
theorem dX0_leakOut_17 : decode cX0_leakOut 17 = .ok (.aload_n 0, 1) := by decide +kernel
theorem dX0_leakOut_18 : decode cX0_leakOut 18 = .ok (.iload_n 1, 1) := by decide +kernel
theorem dX0_leakOut_19 : decode cX0_leakOut 19 = .ok (.iload_n 2, 1) := by decide +kernel
theorem dX0_leakOut_20 : decode cX0_leakOut 20 = .ok (.invokevirtual 73, 3) := by decide +kernel
theorem dX0_leakOut_23 : decode cX0_leakOut 23 = .ok (.aload_n 0, 1) := by decide +kernel
theorem dX0_leakOut_24 : decode cX0_leakOut 24 = .ok (.getfield 15, 3) := by decide +kernel
theorem dX0_leakOut_27 : decode cX0_leakOut 27 = .ok (.iload_n 1, 1) := by decide +kernel
theorem dX0_leakOut_28 : decode cX0_leakOut 28 = .ok (.iaload, 1) := by decide +kernel
theorem dX0_leakOut_29 : decode cX0_leakOut 29 = .ok (.imul, 1) := by decide +kernel
theorem dX0_leakOut_30 : decode cX0_leakOut 30 = .ok (.sipush 1000, 3) := by decide +kernel
theorem dX0_leakOut_33 : decode cX0_leakOut 33 = .ok (.idiv, 1) := by decide +kernel
theorem dX0_leakOut_34 : decode cX0_leakOut 34 = .ok (.istore_n 3, 1) := by decide +kernel
theorem dX0_leakOut_35 : decode cX0_leakOut 35 = .ok (.aload_n 0, 1) := by decide +kernel
theorem dX0_leakOut_36 : decode cX0_leakOut 36 = .ok (.iload_n 1, 1) := by decide +kernel
theorem dX0_leakOut_37 : decode cX0_leakOut 37 = .ok (.iload_n 2, 1) := by decide +kernel
theorem dX0_leakOut_38 : decode cX0_leakOut 38 = .ok (.iload_n 3, 1) := by decide +kernel
theorem dX0_leakOut_39 : decode cX0_leakOut 39 = .ok (.ineg, 1) := by decide +kernel
theorem dX0_leakOut_40 : decode cX0_leakOut 40 = .ok (.invokevirtual 76, 3) := by decide +kernel
theorem dX0_leakOut_43 : decode cX0_leakOut 43 = .ok (.aload_n 0, 1) := by decide +kernel
theorem dX0_leakOut_44 : decode cX0_leakOut 44 = .ok (.iconst 4, 1) := by decide +kernel
theorem dX0_leakOut_45 : decode cX0_leakOut 45 = .ok (.iload_n 3, 1) := by decide +kernel
theorem dX0_leakOut_46 : decode cX0_leakOut 46 = .ok (.invokevirtual 80, 3) := by decide +kernel
theorem dX0_leakOut_49 : decode cX0_leakOut 49 = .ok (.iinc 2 1, 3) := by decide +kernel
theorem dX0_leakOut_52 : decode cX0_leakOut 52 = .ok (.goto (-40), 3) := by decide +kernel
theorem dX0_leakOut_55 : decode cX0_leakOut 55 = .ok (.iinc 1 1, 3) := by decide +kernel
theorem dX0_leakOut_58 : decode cX0_leakOut 58 = .ok (.goto (-56), 3) := by decide +kernel
theorem dX0_leakOut_61 : decode cX0_leakOut 61 = .ok (.return_, 1) := by decide +kernel
theorem dX0_mixThroughHatches_0 : decode cX0_mixThroughHatches 0 = .ok (.iconst 0, 1) := by decide +kernel
theorem dX0_mixThroughHatches_1 : decode cX0_mixThroughHatches 1 = .ok (.istore_n 1, 1) := by decide +kernel
theorem dX0_mixThroughHatches_2 : decode cX0_mixThroughHatches 2 = .ok (.iload_n 1, 1) := by decide +kernel
theorem dX0_mixThroughHatches_3 : decode cX0_mixThroughHatches 3 = .ok (.aload_n 0, 1) := by decide +kernel
theorem dX0_mixThroughHatches_4 : decode cX0_mixThroughHatches 4 = .ok (.getfield 43, 3) := by decide +kernel
theorem dX0_mixThroughHatches_7 : decode cX0_mixThroughHatches 7 = .ok (.if_icmp .ge 34, 3) := by decide +kernel
theorem dX0_mixThroughHatches_10 : decode cX0_mixThroughHatches 10 = .ok (.aload_n 0, 1) := by decide +kernel
theorem dX0_mixThroughHatches_11 : decode cX0_mixThroughHatches 11 = .ok (.getfield 24, 3) := by decide +kernel
theorem dX0_mixThroughHatches_14 : decode cX0_mixThroughHatches 14 = .ok (.iload_n 1, 1) := by decide +kernel
theorem dX0_mixThroughHatches_15 : decode cX0_mixThroughHatches 15 = .ok (.baload, 1) := by decide +kernel
theorem dX0_mixThroughHatches_16 : decode cX0_mixThroughHatches 16 = .ok (.ifCond .eq 19, 3) := by decide +kernel
theorem dX0_mixThroughHatches_19 : decode cX0_mixThroughHatches 19 = .ok (.aload_n 0, 1) := by decide +kernel
theorem dX0_mixThroughHatches_20 : decode cX0_mixThroughHatches 20 = .ok (.aload_n 0, 1) := by decide +kernel
theorem dX0_mixThroughHatches_21 : decode cX0_mixThroughHatches 21 = .ok (.getfield 18, 3) := by decide +kernel
theorem dX0_mixThroughHatches_24 : decode cX0_mixThroughHatches 24 = .ok (.iload_n 1, 1) := by decide +kernel
theorem dX0_mixThroughHatches_25 : decode cX0_mixThroughHatches 25 = .ok (.iaload, 1) := by decide +kernel
theorem dX0_mixThroughHatches_26 : decode cX0_mixThroughHatches 26 = .ok (.aload_n 0, 1) := by decide +kernel
theorem dX0_mixThroughHatches_27 : decode cX0_mixThroughHatches 27 = .ok (.getfield 21, 3) := by decide +kernel
theorem dX0_mixThroughHatches_30 : decode cX0_mixThroughHatches 30 = .ok (.iload_n 1, 1) := by decide +kernel
theorem dX0_mixThroughHatches_31 : decode cX0_mixThroughHatches 31 = .ok (.iaload, 1) := by decide +kernel
theorem dX0_mixThroughHatches_32 : decode cX0_mixThroughHatches 32 = .ok (.invokevirtual 84, 3) := by decide +kernel
theorem dX0_mixThroughHatches_35 : decode cX0_mixThroughHatches 35 = .ok (.iinc 1 1, 3) := by decide +kernel
theorem dX0_mixThroughHatches_38 : decode cX0_mixThroughHatches 38 = .ok (.goto (-36), 3) := by decide +kernel
theorem dX0_mixThroughHatches_41 : decode cX0_mixThroughHatches 41 = .ok (.return_, 1) := by decide +kernel
theorem dX0_mix_0 : decode cX0_mix 0 = .ok (.iconst 0, 1) := by decide +kernel
theorem dX0_mix_1 : decode cX0_mix 1 = .ok (.istore_n 3, 1) := by decide +kernel
theorem dX0_mix_2 : decode cX0_mix 2 = .ok (.iload_n 3, 1) := by decide +kernel
theorem dX0_mix_3 : decode cX0_mix 3 = .ok (.iconst 5, 1) := by decide +kernel
theorem dX0_mix_4 : decode cX0_mix 4 = .ok (.if_icmp .ge 43, 3) := by decide +kernel
theorem dX0_mix_7 : decode cX0_mix 7 = .ok (.aload_n 0, 1) := by decide +kernel
theorem dX0_mix_8 : decode cX0_mix 8 = .ok (.iload_n 1, 1) := by decide +kernel
theorem dX0_mix_9 : decode cX0_mix 9 = .ok (.iload_n 3, 1) := by decide +kernel
theorem dX0_mix_10 : decode cX0_mix 10 = .ok (.invokevirtual 73, 3) := by decide +kernel
theorem dX0_mix_13 : decode cX0_mix 13 = .ok (.aload_n 0, 1) := by decide +kernel
theorem dX0_mix_14 : decode cX0_mix 14 = .ok (.iload_n 2, 1) := by decide +kernel
theorem dX0_mix_15 : decode cX0_mix 15 = .ok (.iload_n 3, 1) := by decide +kernel
theorem dX0_mix_16 : decode cX0_mix 16 = .ok (.invokevirtual 73, 3) := by decide +kernel
theorem dX0_mix_19 : decode cX0_mix 19 = .ok (.isub, 1) := by decide +kernel
theorem dX0_mix_20 : decode cX0_mix 20 = .ok (.iconst 4, 1) := by decide +kernel
theorem dX0_mix_21 : decode cX0_mix 21 = .ok (.idiv, 1) := by decide +kernel
theorem dX0_mix_22 : decode cX0_mix 22 = .ok (.istore 4, 2) := by decide +kernel
theorem dX0_mix_24 : decode cX0_mix 24 = .ok (.aload_n 0, 1) := by decide +kernel
theorem dX0_mix_25 : decode cX0_mix 25 = .ok (.iload_n 1, 1) := by decide +kernel
theorem dX0_mix_26 : decode cX0_mix 26 = .ok (.iload_n 3, 1) := by decide +kernel
theorem dX0_mix_27 : decode cX0_mix 27 = .ok (.iload 4, 2) := by decide +kernel
theorem dX0_mix_29 : decode cX0_mix 29 = .ok (.ineg, 1) := by decide +kernel
theorem dX0_mix_30 : decode cX0_mix 30 = .ok (.invokevirtual 76, 3) := by decide +kernel
theorem dX0_mix_33 : decode cX0_mix 33 = .ok (.aload_n 0, 1) := by decide +kernel
theorem dX0_mix_34 : decode cX0_mix 34 = .ok (.iload_n 2, 1) := by decide +kernel
theorem dX0_mix_35 : decode cX0_mix 35 = .ok (.iload_n 3, 1) := by decide +kernel
theorem dX0_mix_36 : decode cX0_mix 36 = .ok (.iload 4, 2) := by decide +kernel
theorem dX0_mix_38 : decode cX0_mix 38 = .ok (.invokevirtual 76, 3) := by decide +kernel
theorem dX0_mix_41 : decode cX0_mix 41 = .ok (.iinc 3 1, 3) := by decide +kernel
theorem dX0_mix_44 : decode cX0_mix 44 = .ok (.goto (-42), 3) := by decide +kernel
theorem dX0_mix_47 : decode cX0_mix 47 = .ok (.return_, 1) := by decide +kernel
