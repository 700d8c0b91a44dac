theorem dX1_init_0 : decode cX1_init 0 = .ok (.aload_n 0, 1) := by decide +kernel
theorem dX1_init_1 : decode cX1_init 1 = .ok (.invokespecial 3, 3) := by decide +kernel
theorem dX1_init_4 : decode cX1_init 4 = .ok (.aload_n 0, 1) := by decide +kernel
theorem dX1_init_5 : decode cX1_init 5 = .ok (.sipush 200, 3) := by decide +kernel
theorem dX1_init_8 : decode cX1_init 8 = .ok (.putfield 9, 3) := by decide +kernel
theorem dX1_init_11 : decode cX1_init 11 = .ok (.aload_n 0, 1) := by decide +kernel
theorem dX1_init_12 : decode cX1_init 12 = .ok (.sipush 300, 3) := by decide +kernel
theorem dX1_init_15 : decode cX1_init 15 = .ok (.putfield 15, 3) := by decide +kernel
theorem dX1_init_18 : decode cX1_init 18 = .ok (.aload_n 0, 1) := by decide +kernel
theorem dX1_init_19 : decode cX1_init 19 = .ok (.sipush 5000, 3) := by decide +kernel
theorem dX1_init_22 : decode cX1_init 22 = .ok (.putfield 18, 3) := by decide +kernel
theorem dX1_init_25 : decode cX1_init 25 = .ok (.return_, 1) := by decide +kernel
theorem dX1_becomeLike_0 : decode cX1_becomeLike 0 = .ok (.aload_n 0, 1) := by decide +kernel
theorem dX1_becomeLike_1 : decode cX1_becomeLike 1 = .ok (.aload_n 1, 1) := by decide +kernel
theorem dX1_becomeLike_2 : decode cX1_becomeLike 2 = .ok (.getfield 9, 3) := by decide +kernel
theorem dX1_becomeLike_5 : decode cX1_becomeLike 5 = .ok (.putfield 9, 3) := by decide +kernel
theorem dX1_becomeLike_8 : decode cX1_becomeLike 8 = .ok (.aload_n 0, 1) := by decide +kernel
theorem dX1_becomeLike_9 : decode cX1_becomeLike 9 = .ok (.aload_n 1, 1) := by decide +kernel
theorem dX1_becomeLike_10 : decode cX1_becomeLike 10 = .ok (.getfield 15, 3) := by decide +kernel
theorem dX1_becomeLike_13 : decode cX1_becomeLike 13 = .ok (.putfield 15, 3) := by decide +kernel
theorem dX1_becomeLike_16 : decode cX1_becomeLike 16 = .ok (.aload_n 0, 1) := by decide +kernel
theorem dX1_becomeLike_17 : decode cX1_becomeLike 17 = .ok (.aload_n 1, 1) := by decide +kernel
theorem dX1_becomeLike_18 : decode cX1_becomeLike 18 = .ok (.getfield 18, 3) := by decide +kernel
theorem dX1_becomeLike_21 : decode cX1_becomeLike 21 = .ok (.putfield 18, 3) := by decide +kernel
theorem dX1_becomeLike_24 : decode cX1_becomeLike 24 = .ok (.aload_n 0, 1) := by decide +kernel
theorem dX1_becomeLike_25 : decode cX1_becomeLike 25 = .ok (.aload_n 1, 1) := by decide +kernel
theorem dX1_becomeLike_26 : decode cX1_becomeLike 26 = .ok (.getfield 21, 3) := by decide +kernel
theorem dX1_becomeLike_29 : decode cX1_becomeLike 29 = .ok (.putfield 21, 3) := by decide +kernel
theorem dX1_becomeLike_32 : decode cX1_becomeLike 32 = .ok (.aload_n 0, 1) := by decide +kernel
theorem dX1_becomeLike_33 : decode cX1_becomeLike 33 = .ok (.aload_n 1, 1) := by decide +kernel
theorem dX1_becomeLike_34 : decode cX1_becomeLike 34 = .ok (.getfield 25, 3) := by decide +kernel
theorem dX1_becomeLike_37 : decode cX1_becomeLike 37 = .ok (.putfield 25, 3) := by decide +kernel
theorem dX1_becomeLike_40 : decode cX1_becomeLike 40 = .ok (.aload_n 0, 1) := by decide +kernel
theorem dX1_becomeLike_41 : decode cX1_becomeLike 41 = .ok (.aload_n 1, 1) := by decide +kernel
theorem dX1_becomeLike_42 : decode cX1_becomeLike 42 = .ok (.getfield 28, 3) := by decide +kernel
theorem dX1_becomeLike_45 : decode cX1_becomeLike 45 = .ok (.putfield 28, 3) := by decide +kernel
theorem dX1_becomeLike_48 : decode cX1_becomeLike 48 = .ok (.return_, 1) := by decide +kernel
theorem dX1_setAll_0 : decode cX1_setAll 0 = .ok (.iload_n 1, 1) := by decide +kernel
theorem dX1_setAll_1 : decode cX1_setAll 1 = .ok (.invokestatic 31, 3) := by decide +kernel
theorem dX1_setAll_4 : decode cX1_setAll 4 = .ok (.ifCond .eq 17, 3) := by decide +kernel
theorem dX1_setAll_7 : decode cX1_setAll 7 = .ok (.iload_n 2, 1) := by decide +kernel
theorem dX1_setAll_8 : decode cX1_setAll 8 = .ok (.invokestatic 31, 3) := by decide +kernel
theorem dX1_setAll_11 : decode cX1_setAll 11 = .ok (.ifCond .eq 10, 3) := by decide +kernel
theorem dX1_setAll_14 : decode cX1_setAll 14 = .ok (.iload_n 3, 1) := by decide +kernel
theorem dX1_setAll_15 : decode cX1_setAll 15 = .ok (.invokestatic 31, 3) := by decide +kernel
theorem dX1_setAll_18 : decode cX1_setAll 18 = .ok (.ifCond .ne 6, 3) := by decide +kernel
theorem dX1_setAll_21 : decode cX1_setAll 21 = .ok (.ldc 35, 2) := by decide +kernel
theorem dX1_setAll_23 : decode cX1_setAll 23 = .ok (.ireturn, 1) := by decide +kernel
theorem dX1_setAll_24 : decode cX1_setAll 24 = .ok (.aload_n 0, 1) := by decide +kernel
theorem dX1_setAll_25 : decode cX1_setAll 25 = .ok (.iload_n 1, 1) := by decide +kernel
theorem dX1_setAll_26 : decode cX1_setAll 26 = .ok (.putfield 9, 3) := by decide +kernel
theorem dX1_setAll_29 : decode cX1_setAll 29 = .ok (.aload_n 0, 1) := by decide +kernel
theorem dX1_setAll_30 : decode cX1_setAll 30 = .ok (.iload_n 2, 1) := by decide +kernel
theorem dX1_setAll_31 : decode cX1_setAll 31 = .ok (.putfield 15, 3) := by decide +kernel
theorem dX1_setAll_34 : decode cX1_setAll 34 = .ok (.aload_n 0, 1) := by decide +kernel
theorem dX1_setAll_35 : decode cX1_setAll 35 = .ok (.iload_n 3, 1) := by decide +kernel
theorem dX1_setAll_36 : decode cX1_setAll 36 = .ok (.putfield 18, 3) := by decide +kernel
theorem dX1_setAll_39 : decode cX1_setAll 39 = .ok (.iconst 1, 1) := by decide +kernel
theorem dX1_setAll_40 : decode cX1_setAll 40 = .ok (.ireturn, 1) := by decide +kernel
theorem dX1_isBound_0 : decode cX1_isBound 0 = .ok (.iload_n 0, 1) := by decide +kernel
theorem dX1_isBound_1 : decode cX1_isBound 1 = .ok (.ifCond .lt 13, 3) := by decide +kernel
theorem dX1_isBound_4 : decode cX1_isBound 4 = .ok (.iload_n 0, 1) := by decide +kernel
theorem dX1_isBound_5 : decode cX1_isBound 5 = .ok (.ldc 36, 2) := by decide +kernel
theorem dX1_isBound_7 : decode cX1_isBound 7 = .ok (.if_icmp .gt 7, 3) := by decide +kernel
theorem dX1_isBound_10 : decode cX1_isBound 10 = .ok (.iconst 1, 1) := by decide +kernel
theorem dX1_isBound_11 : decode cX1_isBound 11 = .ok (.goto 4, 3) := by decide +kernel
theorem dX1_isBound_14 : decode cX1_isBound 14 = .ok (.iconst 0, 1) := by decide +kernel
theorem dX1_isBound_15 : decode cX1_isBound 15 = .ok (.ireturn, 1) := by decide +kernel
theorem dX1_tellFirstBreak_0 : decode cX1_tellFirstBreak 0 = .ok (.iload_n 1, 1) := by decide +kernel
theorem dX1_tellFirstBreak_1 : decode cX1_tellFirstBreak 1 = .ok (.ifCond .eq 11, 3) := by decide +kernel
theorem dX1_tellFirstBreak_4 : decode cX1_tellFirstBreak 4 = .ok (.iload_n 1, 1) := by decide +kernel
theorem dX1_tellFirstBreak_5 : decode cX1_tellFirstBreak 5 = .ok (.iconst 1, 1) := by decide +kernel
theorem dX1_tellFirstBreak_6 : decode cX1_tellFirstBreak 6 = .ok (.if_icmp .eq 6, 3) := by decide +kernel
theorem dX1_tellFirstBreak_9 : decode cX1_tellFirstBreak 9 = .ok (.ldc 35, 2) := by decide +kernel
theorem dX1_tellFirstBreak_11 : decode cX1_tellFirstBreak 11 = .ok (.ireturn, 1) := by decide +kernel
theorem dX1_tellFirstBreak_12 : decode cX1_tellFirstBreak 12 = .ok (.aload_n 0, 1) := by decide +kernel
theorem dX1_tellFirstBreak_13 : decode cX1_tellFirstBreak 13 = .ok (.getfield 21, 3) := by decide +kernel
theorem dX1_tellFirstBreak_16 : decode cX1_tellFirstBreak 16 = .ok (.ifCond .ne 6, 3) := by decide +kernel
theorem dX1_tellFirstBreak_19 : decode cX1_tellFirstBreak 19 = .ok (.ldc 37, 2) := by decide +kernel
theorem dX1_tellFirstBreak_21 : decode cX1_tellFirstBreak 21 = .ok (.ireturn, 1) := by decide +kernel
theorem dX1_tellFirstBreak_22 : decode cX1_tellFirstBreak 22 = .ok (.iload_n 1, 1) := by decide +kernel
theorem dX1_tellFirstBreak_23 : decode cX1_tellFirstBreak 23 = .ok (.ifCond .ne 10, 3) := by decide +kernel
theorem dX1_tellFirstBreak_26 : decode cX1_tellFirstBreak 26 = .ok (.aload_n 0, 1) := by decide +kernel
theorem dX1_tellFirstBreak_27 : decode cX1_tellFirstBreak 27 = .ok (.getfield 25, 3) := by decide +kernel
theorem dX1_tellFirstBreak_30 : decode cX1_tellFirstBreak 30 = .ok (.goto 7, 3) := by decide +kernel
theorem dX1_tellFirstBreak_33 : decode cX1_tellFirstBreak 33 = .ok (.aload_n 0, 1) := by decide +kernel
theorem dX1_tellFirstBreak_34 : decode cX1_tellFirstBreak 34 = .ok (.getfield 28, 3) := by decide +kernel
theorem dX1_tellFirstBreak_37 : decode cX1_tellFirstBreak 37 = .ok (.ireturn, 1) := by decide +kernel
theorem dX1_look_0 : decode cX1_look 0 = .ok (.iconst 0, 1) := by decide +kernel
theorem dX1_look_1 : decode cX1_look 1 = .ok (.istore 4, 2) := by decide +kernel
theorem dX1_look_3 : decode cX1_look 3 = .ok (.iload 4, 2) := by decide +kernel
theorem dX1_look_5 : decode cX1_look 5 = .ok (.aload_n 1, 1) := by decide +kernel
theorem dX1_look_6 : decode cX1_look 6 = .ok (.getfield 38, 3) := by decide +kernel
theorem dX1_look_9 : decode cX1_look 9 = .ok (.if_icmp .ge 37, 3) := by decide +kernel
theorem dX1_look_12 : decode cX1_look 12 = .ok (.aload_n 2, 1) := by decide +kernel
theorem dX1_look_13 : decode cX1_look 13 = .ok (.iload 4, 2) := by decide +kernel
theorem dX1_look_15 : decode cX1_look 15 = .ok (.invokevirtual 43, 3) := by decide +kernel
theorem dX1_look_18 : decode cX1_look 18 = .ok (.ifCond .eq 22, 3) := by decide +kernel
theorem dX1_look_21 : decode cX1_look 21 = .ok (.aload_n 0, 1) := by decide +kernel
theorem dX1_look_22 : decode cX1_look 22 = .ok (.iload 4, 2) := by decide +kernel
theorem dX1_look_24 : decode cX1_look 24 = .ok (.aload_n 1, 1) := by decide +kernel
theorem dX1_look_25 : decode cX1_look 25 = .ok (.invokevirtual 48, 3) := by decide +kernel
theorem dX1_look_28 : decode cX1_look 28 = .ok (.ifCond .eq 12, 3) := by decide +kernel
theorem dX1_look_31 : decode cX1_look 31 = .ok (.aload_n 0, 1) := by decide +kernel
theorem dX1_look_32 : decode cX1_look 32 = .ok (.iload_n 3, 1) := by decide +kernel
theorem dX1_look_33 : decode cX1_look 33 = .ok (.iload 4, 2) := by decide +kernel
theorem dX1_look_35 : decode cX1_look 35 = .ok (.invokevirtual 52, 3) := by decide +kernel
theorem dX1_look_38 : decode cX1_look 38 = .ok (.iconst 1, 1) := by decide +kernel
theorem dX1_look_39 : decode cX1_look 39 = .ok (.ireturn, 1) := by decide +kernel
theorem dX1_look_40 : decode cX1_look 40 = .ok (.iinc 4 1, 3) := by decide +kernel
theorem dX1_look_43 : decode cX1_look 43 = .ok (.goto (-40), 3) := by decide +kernel
theorem dX1_look_46 : decode cX1_look 46 = .ok (.iconst 0, 1) := by decide +kernel
theorem dX1_look_47 : decode cX1_look 47 = .ok (.ireturn, 1) := by decide +kernel
theorem dX1_breaksIn_0 : decode cX1_breaksIn 0 = .ok (.aload_n 2, 1) := by decide +kernel
theorem dX1_breaksIn_1 : decode cX1_breaksIn 1 = .ok (.iload_n 1, 1) := by decide +kernel
theorem dX1_breaksIn_2 : decode cX1_breaksIn 2 = .ok (.iconst 0, 1) := by decide +kernel
theorem dX1_breaksIn_3 : decode cX1_breaksIn 3 = .ok (.invokevirtual 56, 3) := by decide +kernel
theorem dX1_breaksIn_6 : decode cX1_breaksIn 6 = .ok (.aload_n 0, 1) := by decide +kernel
theorem dX1_breaksIn_7 : decode cX1_breaksIn 7 = .ok (.getfield 9, 3) := by decide +kernel
theorem dX1_breaksIn_10 : decode cX1_breaksIn 10 = .ok (.if_icmp .lt 29, 3) := by decide +kernel
theorem dX1_breaksIn_13 : decode cX1_breaksIn 13 = .ok (.aload_n 2, 1) := by decide +kernel
theorem dX1_breaksIn_14 : decode cX1_breaksIn 14 = .ok (.iload_n 1, 1) := by decide +kernel
theorem dX1_breaksIn_15 : decode cX1_breaksIn 15 = .ok (.iconst 1, 1) := by decide +kernel
theorem dX1_breaksIn_16 : decode cX1_breaksIn 16 = .ok (.invokevirtual 56, 3) := by decide +kernel
theorem dX1_breaksIn_19 : decode cX1_breaksIn 19 = .ok (.aload_n 0, 1) := by decide +kernel
theorem dX1_breaksIn_20 : decode cX1_breaksIn 20 = .ok (.getfield 15, 3) := by decide +kernel
theorem dX1_breaksIn_23 : decode cX1_breaksIn 23 = .ok (.if_icmp .gt 16, 3) := by decide +kernel
theorem dX1_breaksIn_26 : decode cX1_breaksIn 26 = .ok (.aload_n 2, 1) := by decide +kernel
theorem dX1_breaksIn_27 : decode cX1_breaksIn 27 = .ok (.iload_n 1, 1) := by decide +kernel
theorem dX1_breaksIn_28 : decode cX1_breaksIn 28 = .ok (.iconst 4, 1) := by decide +kernel
theorem dX1_breaksIn_29 : decode cX1_breaksIn 29 = .ok (.invokevirtual 56, 3) := by decide +kernel
theorem dX1_breaksIn_32 : decode cX1_breaksIn 32 = .ok (.aload_n 0, 1) := by decide +kernel
theorem dX1_breaksIn_33 : decode cX1_breaksIn 33 = .ok (.getfield 18, 3) := by decide +kernel
theorem dX1_breaksIn_36 : decode cX1_breaksIn 36 = .ok (.if_icmp .le 7, 3) := by decide +kernel
theorem dX1_breaksIn_39 : decode cX1_breaksIn 39 = .ok (.iconst 1, 1) := by decide +kernel
theorem dX1_breaksIn_40 : decode cX1_breaksIn 40 = .ok (.goto 4, 3) := by decide +kernel
theorem dX1_breaksIn_43 : decode cX1_breaksIn 43 = .ok (.iconst 0, 1) := by decide +kernel
theorem dX1_breaksIn_44 : decode cX1_breaksIn 44 = .ok (.ireturn, 1) := by decide +kernel
theorem dX1_keepFirst_0 : decode cX1_keepFirst 0 = .ok (.aload_n 0, 1) := by decide +kernel
theorem dX1_keepFirst_1 : decode cX1_keepFirst 1 = .ok (.getfield 21, 3) := by decide +kernel
theorem dX1_keepFirst_4 : decode cX1_keepFirst 4 = .ok (.ifCond .ne 18, 3) := by decide +kernel
theorem dX1_keepFirst_7 : decode cX1_keepFirst 7 = .ok (.aload_n 0, 1) := by decide +kernel
theorem dX1_keepFirst_8 : decode cX1_keepFirst 8 = .ok (.iconst 1, 1) := by decide +kernel
theorem dX1_keepFirst_9 : decode cX1_keepFirst 9 = .ok (.putfield 21, 3) := by decide +kernel
theorem dX1_keepFirst_12 : decode cX1_keepFirst 12 = .ok (.aload_n 0, 1) := by decide +kernel
theorem dX1_keepFirst_13 : decode cX1_keepFirst 13 = .ok (.iload_n 1, 1) := by decide +kernel
theorem dX1_keepFirst_14 : decode cX1_keepFirst 14 = .ok (.putfield 25, 3) := by decide +kernel
theorem dX1_keepFirst_17 : decode cX1_keepFirst 17 = .ok (.aload_n 0, 1) := by decide +kernel
theorem dX1_keepFirst_18 : decode cX1_keepFirst 18 = .ok (.iload_n 2, 1) := by decide +kernel
theorem dX1_keepFirst_19 : decode cX1_keepFirst 19 = .ok (.putfield 28, 3) := by decide +kernel
theorem dX1_keepFirst_22 : decode cX1_keepFirst 22 = .ok (.return_, 1) := by decide +kernel
