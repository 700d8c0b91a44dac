theorem dX9_init_0 : decode cX9_init 0 = .ok (.aload_n 0, 1) := by decide +kernel
theorem dX9_init_1 : decode cX9_init 1 = .ok (.invokespecial 3, 3) := by decide +kernel
theorem dX9_init_4 : decode cX9_init 4 = .ok (.aload_n 0, 1) := by decide +kernel
theorem dX9_init_5 : decode cX9_init 5 = .ok (.new 9, 3) := by decide +kernel
theorem dX9_init_8 : decode cX9_init 8 = .ok (.dup, 1) := by decide +kernel
theorem dX9_init_9 : decode cX9_init 9 = .ok (.invokespecial 11, 3) := by decide +kernel
theorem dX9_init_12 : decode cX9_init 12 = .ok (.putfield 12, 3) := by decide +kernel
theorem dX9_init_15 : decode cX9_init 15 = .ok (.aload_n 0, 1) := by decide +kernel
theorem dX9_init_16 : decode cX9_init 16 = .ok (.new 16, 3) := by decide +kernel
theorem dX9_init_19 : decode cX9_init 19 = .ok (.dup, 1) := by decide +kernel
theorem dX9_init_20 : decode cX9_init 20 = .ok (.aload_n 0, 1) := by decide +kernel
theorem dX9_init_21 : decode cX9_init 21 = .ok (.getfield 12, 3) := by decide +kernel
theorem dX9_init_24 : decode cX9_init 24 = .ok (.invokespecial 18, 3) := by decide +kernel
theorem dX9_init_27 : decode cX9_init 27 = .ok (.putfield 21, 3) := by decide +kernel
theorem dX9_init_30 : decode cX9_init 30 = .ok (.aload_n 0, 1) := by decide +kernel
theorem dX9_init_31 : decode cX9_init 31 = .ok (.new 16, 3) := by decide +kernel
theorem dX9_init_34 : decode cX9_init 34 = .ok (.dup, 1) := by decide +kernel
theorem dX9_init_35 : decode cX9_init 35 = .ok (.aload_n 0, 1) := by decide +kernel
theorem dX9_init_36 : decode cX9_init 36 = .ok (.getfield 12, 3) := by decide +kernel
theorem dX9_init_39 : decode cX9_init 39 = .ok (.invokespecial 18, 3) := by decide +kernel
theorem dX9_init_42 : decode cX9_init 42 = .ok (.putfield 25, 3) := by decide +kernel
theorem dX9_init_45 : decode cX9_init 45 = .ok (.aload_n 0, 1) := by decide +kernel
theorem dX9_init_46 : decode cX9_init 46 = .ok (.new 28, 3) := by decide +kernel
theorem dX9_init_49 : decode cX9_init 49 = .ok (.dup, 1) := by decide +kernel
theorem dX9_init_50 : decode cX9_init 50 = .ok (.invokespecial 30, 3) := by decide +kernel
theorem dX9_init_53 : decode cX9_init 53 = .ok (.putfield 31, 3) := by decide +kernel
theorem dX9_init_56 : decode cX9_init 56 = .ok (.aload_n 0, 1) := by decide +kernel
theorem dX9_init_57 : decode cX9_init 57 = .ok (.new 35, 3) := by decide +kernel
theorem dX9_init_60 : decode cX9_init 60 = .ok (.dup, 1) := by decide +kernel
theorem dX9_init_61 : decode cX9_init 61 = .ok (.invokespecial 37, 3) := by decide +kernel
theorem dX9_init_64 : decode cX9_init 64 = .ok (.putfield 38, 3) := by decide +kernel
theorem dX9_init_67 : decode cX9_init 67 = .ok (.aload_n 0, 1) := by decide +kernel
theorem dX9_init_68 : decode cX9_init 68 = .ok (.bipush 24, 2) := by decide +kernel
theorem dX9_init_70 : decode cX9_init 70 = .ok (.newarray .int, 2) := by decide +kernel
theorem dX9_init_72 : decode cX9_init 72 = .ok (.putfield 42, 3) := by decide +kernel
theorem dX9_init_75 : decode cX9_init 75 = .ok (.aload_n 0, 1) := by decide +kernel
theorem dX9_init_76 : decode cX9_init 76 = .ok (.bipush 6, 2) := by decide +kernel
theorem dX9_init_78 : decode cX9_init 78 = .ok (.newarray .int, 2) := by decide +kernel
theorem dX9_init_80 : decode cX9_init 80 = .ok (.putfield 46, 3) := by decide +kernel
theorem dX9_init_83 : decode cX9_init 83 = .ok (.aload_n 0, 1) := by decide +kernel
theorem dX9_init_84 : decode cX9_init 84 = .ok (.ldc 49, 2) := by decide +kernel
theorem dX9_init_86 : decode cX9_init 86 = .ok (.putfield 50, 3) := by decide +kernel
theorem dX9_init_89 : decode cX9_init 89 = .ok (.return_, 1) := by decide +kernel
theorem dX9_module_0 : decode cX9_module 0 = .ok (.aload_n 0, 1) := by decide +kernel
theorem dX9_module_1 : decode cX9_module 1 = .ok (.aload_n 0, 1) := by decide +kernel
theorem dX9_module_2 : decode cX9_module 2 = .ok (.getfield 21, 3) := by decide +kernel
theorem dX9_module_5 : decode cX9_module 5 = .ok (.getfield 54, 3) := by decide +kernel
theorem dX9_module_8 : decode cX9_module 8 = .ok (.invokevirtual 58, 3) := by decide +kernel
theorem dX9_module_11 : decode cX9_module 11 = .ok (.invokevirtual 64, 3) := by decide +kernel
theorem dX9_module_14 : decode cX9_module 14 = .ok (.ireturn, 1) := by decide +kernel
theorem dX9_hatch_0 : decode cX9_hatch 0 = .ok (.aload_n 0, 1) := by decide +kernel
theorem dX9_hatch_1 : decode cX9_hatch 1 = .ok (.aload_n 0, 1) := by decide +kernel
theorem dX9_hatch_2 : decode cX9_hatch 2 = .ok (.getfield 21, 3) := by decide +kernel
theorem dX9_hatch_5 : decode cX9_hatch 5 = .ok (.getfield 54, 3) := by decide +kernel
theorem dX9_hatch_8 : decode cX9_hatch 8 = .ok (.iload_n 1, 1) := by decide +kernel
theorem dX9_hatch_9 : decode cX9_hatch 9 = .ok (.iload_n 2, 1) := by decide +kernel
theorem dX9_hatch_10 : decode cX9_hatch 10 = .ok (.invokevirtual 68, 3) := by decide +kernel
theorem dX9_hatch_13 : decode cX9_hatch 13 = .ok (.invokevirtual 64, 3) := by decide +kernel
theorem dX9_hatch_16 : decode cX9_hatch 16 = .ok (.ireturn, 1) := by decide +kernel
theorem dX9_shut_0 : decode cX9_shut 0 = .ok (.aload_n 0, 1) := by decide +kernel
theorem dX9_shut_1 : decode cX9_shut 1 = .ok (.aload_n 0, 1) := by decide +kernel
theorem dX9_shut_2 : decode cX9_shut 2 = .ok (.getfield 21, 3) := by decide +kernel
theorem dX9_shut_5 : decode cX9_shut 5 = .ok (.getfield 54, 3) := by decide +kernel
theorem dX9_shut_8 : decode cX9_shut 8 = .ok (.iload_n 1, 1) := by decide +kernel
theorem dX9_shut_9 : decode cX9_shut 9 = .ok (.iload_n 2, 1) := by decide +kernel
theorem dX9_shut_10 : decode cX9_shut 10 = .ok (.invokevirtual 72, 3) := by decide +kernel
theorem dX9_shut_13 : decode cX9_shut 13 = .ok (.invokevirtual 64, 3) := by decide +kernel
theorem dX9_shut_16 : decode cX9_shut 16 = .ok (.ireturn, 1) := by decide +kernel
theorem dX9_gas_0 : decode cX9_gas 0 = .ok (.aload_n 0, 1) := by decide +kernel
theorem dX9_gas_1 : decode cX9_gas 1 = .ok (.aload_n 0, 1) := by decide +kernel
theorem dX9_gas_2 : decode cX9_gas 2 = .ok (.getfield 21, 3) := by decide +kernel
theorem dX9_gas_5 : decode cX9_gas 5 = .ok (.getfield 54, 3) := by decide +kernel
theorem dX9_gas_8 : decode cX9_gas 8 = .ok (.iload_n 1, 1) := by decide +kernel
theorem dX9_gas_9 : decode cX9_gas 9 = .ok (.iload_n 2, 1) := by decide +kernel
theorem dX9_gas_10 : decode cX9_gas 10 = .ok (.iload_n 3, 1) := by decide +kernel
theorem dX9_gas_11 : decode cX9_gas 11 = .ok (.invokevirtual 75, 3) := by decide +kernel
theorem dX9_gas_14 : decode cX9_gas 14 = .ok (.invokevirtual 64, 3) := by decide +kernel
theorem dX9_gas_17 : decode cX9_gas 17 = .ok (.ireturn, 1) := by decide +kernel
theorem dX9_leak_0 : decode cX9_leak 0 = .ok (.aload_n 0, 1) := by decide +kernel
theorem dX9_leak_1 : decode cX9_leak 1 = .ok (.aload_n 0, 1) := by decide +kernel
theorem dX9_leak_2 : decode cX9_leak 2 = .ok (.getfield 21, 3) := by decide +kernel
theorem dX9_leak_5 : decode cX9_leak 5 = .ok (.getfield 54, 3) := by decide +kernel
theorem dX9_leak_8 : decode cX9_leak 8 = .ok (.iload_n 1, 1) := by decide +kernel
theorem dX9_leak_9 : decode cX9_leak 9 = .ok (.iload_n 2, 1) := by decide +kernel
theorem dX9_leak_10 : decode cX9_leak 10 = .ok (.invokevirtual 79, 3) := by decide +kernel
theorem dX9_leak_13 : decode cX9_leak 13 = .ok (.invokevirtual 64, 3) := by decide +kernel
theorem dX9_leak_16 : decode cX9_leak 16 = .ok (.ireturn, 1) := by decide +kernel
theorem dX9_tank_0 : decode cX9_tank 0 = .ok (.aload_n 0, 1) := by decide +kernel
theorem dX9_tank_1 : decode cX9_tank 1 = .ok (.aload_n 0, 1) := by decide +kernel
theorem dX9_tank_2 : decode cX9_tank 2 = .ok (.getfield 21, 3) := by decide +kernel
theorem dX9_tank_5 : decode cX9_tank 5 = .ok (.getfield 54, 3) := by decide +kernel
theorem dX9_tank_8 : decode cX9_tank 8 = .ok (.iload_n 1, 1) := by decide +kernel
theorem dX9_tank_9 : decode cX9_tank 9 = .ok (.iload_n 2, 1) := by decide +kernel
theorem dX9_tank_10 : decode cX9_tank 10 = .ok (.invokevirtual 82, 3) := by decide +kernel
theorem dX9_tank_13 : decode cX9_tank 13 = .ok (.invokevirtual 64, 3) := by decide +kernel
theorem dX9_tank_16 : decode cX9_tank 16 = .ok (.ireturn, 1) := by decide +kernel
theorem dX9_grams_0 : decode cX9_grams 0 = .ok (.aload_n 0, 1) := by decide +kernel
theorem dX9_grams_1 : decode cX9_grams 1 = .ok (.getfield 21, 3) := by decide +kernel
theorem dX9_grams_4 : decode cX9_grams 4 = .ok (.getfield 54, 3) := by decide +kernel
theorem dX9_grams_7 : decode cX9_grams 7 = .ok (.invokevirtual 85, 3) := by decide +kernel
theorem dX9_grams_10 : decode cX9_grams 10 = .ok (.ireturn, 1) := by decide +kernel
theorem dX9_person_0 : decode cX9_person 0 = .ok (.aload_n 0, 1) := by decide +kernel
theorem dX9_person_1 : decode cX9_person 1 = .ok (.getfield 21, 3) := by decide +kernel
theorem dX9_person_4 : decode cX9_person 4 = .ok (.getfield 54, 3) := by decide +kernel
theorem dX9_person_7 : decode cX9_person 7 = .ok (.iload_n 1, 1) := by decide +kernel
theorem dX9_person_8 : decode cX9_person 8 = .ok (.invokevirtual 88, 3) := by decide +kernel
theorem dX9_person_11 : decode cX9_person 11 = .ok (.ifCond .ne 10, 3) := by decide +kernel
theorem dX9_person_14 : decode cX9_person 14 = .ok (.aload_n 0, 1) := by decide +kernel
theorem dX9_person_15 : decode cX9_person 15 = .ok (.ldc 92, 2) := by decide +kernel
theorem dX9_person_17 : decode cX9_person 17 = .ok (.invokevirtual 64, 3) := by decide +kernel
theorem dX9_person_20 : decode cX9_person 20 = .ok (.ireturn, 1) := by decide +kernel
theorem dX9_person_21 : decode cX9_person 21 = .ok (.aload_n 0, 1) := by decide +kernel
theorem dX9_person_22 : decode cX9_person 22 = .ok (.aload_n 0, 1) := by decide +kernel
theorem dX9_person_23 : decode cX9_person 23 = .ok (.getfield 21, 3) := by decide +kernel
theorem dX9_person_26 : decode cX9_person 26 = .ok (.getfield 93, 3) := by decide +kernel
theorem dX9_person_29 : decode cX9_person 29 = .ok (.iload_n 1, 1) := by decide +kernel
theorem dX9_person_30 : decode cX9_person 30 = .ok (.invokevirtual 97, 3) := by decide +kernel
theorem dX9_person_33 : decode cX9_person 33 = .ok (.invokevirtual 64, 3) := by decide +kernel
theorem dX9_person_36 : decode cX9_person 36 = .ok (.ireturn, 1) := by decide +kernel
theorem dX9_go_0 : decode cX9_go 0 = .ok (.aload_n 0, 1) := by decide +kernel
theorem dX9_go_1 : decode cX9_go 1 = .ok (.aload_n 0, 1) := by decide +kernel
theorem dX9_go_2 : decode cX9_go 2 = .ok (.getfield 21, 3) := by decide +kernel
theorem dX9_go_5 : decode cX9_go 5 = .ok (.iload_n 1, 1) := by decide +kernel
theorem dX9_go_6 : decode cX9_go 6 = .ok (.iload_n 2, 1) := by decide +kernel
theorem dX9_go_7 : decode cX9_go 7 = .ok (.invokevirtual 102, 3) := by decide +kernel
theorem dX9_go_10 : decode cX9_go 10 = .ok (.invokevirtual 64, 3) := by decide +kernel
theorem dX9_go_13 : decode cX9_go 13 = .ok (.ireturn, 1) := by decide +kernel
theorem dX9_doing_0 : decode cX9_doing 0 = .ok (.aload_n 0, 1) := by decide +kernel
theorem dX9_doing_1 : decode cX9_doing 1 = .ok (.aload_n 0, 1) := by decide +kernel
theorem dX9_doing_2 : decode cX9_doing 2 = .ok (.getfield 21, 3) := by decide +kernel
theorem dX9_doing_5 : decode cX9_doing 5 = .ok (.getfield 93, 3) := by decide +kernel
theorem dX9_doing_8 : decode cX9_doing 8 = .ok (.iload_n 1, 1) := by decide +kernel
theorem dX9_doing_9 : decode cX9_doing 9 = .ok (.iload_n 2, 1) := by decide +kernel
theorem dX9_doing_10 : decode cX9_doing 10 = .ok (.invokevirtual 105, 3) := by decide +kernel
theorem dX9_doing_13 : decode cX9_doing 13 = .ok (.invokevirtual 64, 3) := by decide +kernel
theorem dX9_doing_16 : decode cX9_doing 16 = .ok (.ireturn, 1) := by decide +kernel
theorem dX9_about_0 : decode cX9_about 0 = .ok (.aload_n 0, 1) := by decide +kernel
theorem dX9_about_1 : decode cX9_about 1 = .ok (.aload_n 0, 1) := by decide +kernel
theorem dX9_about_2 : decode cX9_about 2 = .ok (.getfield 21, 3) := by decide +kernel
theorem dX9_about_5 : decode cX9_about 5 = .ok (.getfield 93, 3) := by decide +kernel
theorem dX9_about_8 : decode cX9_about 8 = .ok (.iload_n 1, 1) := by decide +kernel
theorem dX9_about_9 : decode cX9_about 9 = .ok (.iload_n 2, 1) := by decide +kernel
theorem dX9_about_10 : decode cX9_about 10 = .ok (.invokevirtual 108, 3) := by decide +kernel
theorem dX9_about_13 : decode cX9_about 13 = .ok (.invokevirtual 64, 3) := by decide +kernel
theorem dX9_about_16 : decode cX9_about 16 = .ok (.ireturn, 1) := by decide +kernel
theorem dX9_machine_0 : decode cX9_machine 0 = .ok (.aload_n 0, 1) := by decide +kernel
theorem dX9_machine_1 : decode cX9_machine 1 = .ok (.getfield 21, 3) := by decide +kernel
theorem dX9_machine_4 : decode cX9_machine 4 = .ok (.getfield 54, 3) := by decide +kernel
theorem dX9_machine_7 : decode cX9_machine 7 = .ok (.iload_n 2, 1) := by decide +kernel
theorem dX9_machine_8 : decode cX9_machine 8 = .ok (.invokevirtual 88, 3) := by decide +kernel
theorem dX9_machine_11 : decode cX9_machine 11 = .ok (.ifCond .ne 10, 3) := by decide +kernel
theorem dX9_machine_14 : decode cX9_machine 14 = .ok (.aload_n 0, 1) := by decide +kernel
theorem dX9_machine_15 : decode cX9_machine 15 = .ok (.ldc 92, 2) := by decide +kernel
theorem dX9_machine_17 : decode cX9_machine 17 = .ok (.invokevirtual 64, 3) := by decide +kernel
theorem dX9_machine_20 : decode cX9_machine 20 = .ok (.ireturn, 1) := by decide +kernel
theorem dX9_machine_21 : decode cX9_machine 21 = .ok (.aload_n 0, 1) := by decide +kernel
theorem dX9_machine_22 : decode cX9_machine 22 = .ok (.aload_n 0, 1) := by decide +kernel
theorem dX9_machine_23 : decode cX9_machine 23 = .ok (.getfield 21, 3) := by decide +kernel
theorem dX9_machine_26 : decode cX9_machine 26 = .ok (.getfield 111, 3) := by decide +kernel
theorem dX9_machine_29 : decode cX9_machine 29 = .ok (.iload_n 1, 1) := by decide +kernel
theorem dX9_machine_30 : decode cX9_machine 30 = .ok (.iload_n 2, 1) := by decide +kernel
theorem dX9_machine_31 : decode cX9_machine 31 = .ok (.iload_n 3, 1) := by decide +kernel
theorem dX9_machine_32 : decode cX9_machine 32 = .ok (.iload 4, 2) := by decide +kernel
theorem dX9_machine_34 : decode cX9_machine 34 = .ok (.invokevirtual 115, 3) := by decide +kernel
theorem dX9_machine_37 : decode cX9_machine 37 = .ok (.invokevirtual 64, 3) := by decide +kernel
theorem dX9_machine_40 : decode cX9_machine 40 = .ok (.ireturn, 1) := by decide +kernel
theorem dX9_as_0 : decode cX9_as 0 = .ok (.aload_n 0, 1) := by decide +kernel
theorem dX9_as_1 : decode cX9_as 1 = .ok (.aload_n 0, 1) := by decide +kernel
theorem dX9_as_2 : decode cX9_as 2 = .ok (.getfield 21, 3) := by decide +kernel
theorem dX9_as_5 : decode cX9_as 5 = .ok (.getfield 111, 3) := by decide +kernel
theorem dX9_as_8 : decode cX9_as 8 = .ok (.iload_n 1, 1) := by decide +kernel
theorem dX9_as_9 : decode cX9_as 9 = .ok (.iload_n 2, 1) := by decide +kernel
theorem dX9_as_10 : decode cX9_as 10 = .ok (.invokevirtual 121, 3) := by decide +kernel
theorem dX9_as_13 : decode cX9_as 13 = .ok (.invokevirtual 64, 3) := by decide +kernel
theorem dX9_as_16 : decode cX9_as 16 = .ok (.ireturn, 1) := by decide +kernel
theorem dX9_turn_0 : decode cX9_turn 0 = .ok (.aload_n 0, 1) := by decide +kernel
theorem dX9_turn_1 : decode cX9_turn 1 = .ok (.aload_n 0, 1) := by decide +kernel
theorem dX9_turn_2 : decode cX9_turn 2 = .ok (.getfield 21, 3) := by decide +kernel
theorem dX9_turn_5 : decode cX9_turn 5 = .ok (.getfield 111, 3) := by decide +kernel
theorem dX9_turn_8 : decode cX9_turn 8 = .ok (.iload_n 1, 1) := by decide +kernel
theorem dX9_turn_9 : decode cX9_turn 9 = .ok (.iload_n 2, 1) := by decide +kernel
theorem dX9_turn_10 : decode cX9_turn 10 = .ok (.invokevirtual 124, 3) := by decide +kernel
theorem dX9_turn_13 : decode cX9_turn 13 = .ok (.invokevirtual 64, 3) := by decide +kernel
theorem dX9_turn_16 : decode cX9_turn 16 = .ok (.ireturn, 1) := by decide +kernel
theorem dX9_of_0 : decode cX9_of 0 = .ok (.aload_n 0, 1) := by decide +kernel
theorem dX9_of_1 : decode cX9_of 1 = .ok (.aload_n 0, 1) := by decide +kernel
theorem dX9_of_2 : decode cX9_of 2 = .ok (.getfield 21, 3) := by decide +kernel
theorem dX9_of_5 : decode cX9_of 5 = .ok (.getfield 111, 3) := by decide +kernel
theorem dX9_of_8 : decode cX9_of 8 = .ok (.iload_n 1, 1) := by decide +kernel
theorem dX9_of_9 : decode cX9_of 9 = .ok (.iload_n 2, 1) := by decide +kernel
theorem dX9_of_10 : decode cX9_of 10 = .ok (.invokevirtual 127, 3) := by decide +kernel
theorem dX9_of_13 : decode cX9_of 13 = .ok (.invokevirtual 64, 3) := by decide +kernel
theorem dX9_of_16 : decode cX9_of 16 = .ok (.ireturn, 1) := by decide +kernel
theorem dX9_spares_0 : decode cX9_spares 0 = .ok (.aload_n 0, 1) := by decide +kernel
theorem dX9_spares_1 : decode cX9_spares 1 = .ok (.aload_n 0, 1) := by decide +kernel
theorem dX9_spares_2 : decode cX9_spares 2 = .ok (.getfield 21, 3) := by decide +kernel
theorem dX9_spares_5 : decode cX9_spares 5 = .ok (.getfield 111, 3) := by decide +kernel
theorem dX9_spares_8 : decode cX9_spares 8 = .ok (.iload_n 1, 1) := by decide +kernel
theorem dX9_spares_9 : decode cX9_spares 9 = .ok (.iload_n 2, 1) := by decide +kernel
theorem dX9_spares_10 : decode cX9_spares 10 = .ok (.invokevirtual 128, 3) := by decide +kernel
theorem dX9_spares_13 : decode cX9_spares 13 = .ok (.invokevirtual 64, 3) := by decide +kernel
theorem dX9_spares_16 : decode cX9_spares 16 = .ok (.ireturn, 1) := by decide +kernel
theorem dX9_repair_0 : decode cX9_repair 0 = .ok (.aload_n 0, 1) := by decide +kernel
theorem dX9_repair_1 : decode cX9_repair 1 = .ok (.aload_n 0, 1) := by decide +kernel
theorem dX9_repair_2 : decode cX9_repair 2 = .ok (.getfield 21, 3) := by decide +kernel
theorem dX9_repair_5 : decode cX9_repair 5 = .ok (.iload_n 1, 1) := by decide +kernel
theorem dX9_repair_6 : decode cX9_repair 6 = .ok (.iload_n 2, 1) := by decide +kernel
theorem dX9_repair_7 : decode cX9_repair 7 = .ok (.iload_n 3, 1) := by decide +kernel
theorem dX9_repair_8 : decode cX9_repair 8 = .ok (.invokevirtual 131, 3) := by decide +kernel
theorem dX9_repair_11 : decode cX9_repair 11 = .ok (.invokevirtual 64, 3) := by decide +kernel
theorem dX9_repair_14 : decode cX9_repair 14 = .ok (.ireturn, 1) := by decide +kernel
theorem dX9_shed_0 : decode cX9_shed 0 = .ok (.aload_n 0, 1) := by decide +kernel
theorem dX9_shed_1 : decode cX9_shed 1 = .ok (.aload_n 0, 1) := by decide +kernel
theorem dX9_shed_2 : decode cX9_shed 2 = .ok (.getfield 21, 3) := by decide +kernel
theorem dX9_shed_5 : decode cX9_shed 5 = .ok (.getfield 111, 3) := by decide +kernel
theorem dX9_shed_8 : decode cX9_shed 8 = .ok (.iload_n 1, 1) := by decide +kernel
theorem dX9_shed_9 : decode cX9_shed 9 = .ok (.iload_n 2, 1) := by decide +kernel
theorem dX9_shed_10 : decode cX9_shed 10 = .ok (.invokevirtual 134, 3) := by decide +kernel
theorem dX9_shed_13 : decode cX9_shed 13 = .ok (.invokevirtual 64, 3) := by decide +kernel
theorem dX9_shed_16 : decode cX9_shed 16 = .ok (.ireturn, 1) := by decide +kernel
theorem dX9_sun_0 : decode cX9_sun 0 = .ok (.aload_n 0, 1) := by decide +kernel
theorem dX9_sun_1 : decode cX9_sun 1 = .ok (.aload_n 0, 1) := by decide +kernel
theorem dX9_sun_2 : decode cX9_sun 2 = .ok (.getfield 21, 3) := by decide +kernel
theorem dX9_sun_5 : decode cX9_sun 5 = .ok (.getfield 111, 3) := by decide +kernel
theorem dX9_sun_8 : decode cX9_sun 8 = .ok (.iload_n 1, 1) := by decide +kernel
theorem dX9_sun_9 : decode cX9_sun 9 = .ok (.iload_n 2, 1) := by decide +kernel
theorem dX9_sun_10 : decode cX9_sun 10 = .ok (.invokevirtual 137, 3) := by decide +kernel
theorem dX9_sun_13 : decode cX9_sun 13 = .ok (.invokevirtual 64, 3) := by decide +kernel
theorem dX9_sun_16 : decode cX9_sun 16 = .ok (.ireturn, 1) := by decide +kernel
theorem dX9_battery_0 : decode cX9_battery 0 = .ok (.aload_n 0, 1) := by decide +kernel
theorem dX9_battery_1 : decode cX9_battery 1 = .ok (.aload_n 0, 1) := by decide +kernel
theorem dX9_battery_2 : decode cX9_battery 2 = .ok (.getfield 21, 3) := by decide +kernel
theorem dX9_battery_5 : decode cX9_battery 5 = .ok (.getfield 111, 3) := by decide +kernel
theorem dX9_battery_8 : decode cX9_battery 8 = .ok (.iload_n 1, 1) := by decide +kernel
theorem dX9_battery_9 : decode cX9_battery 9 = .ok (.invokevirtual 140, 3) := by decide +kernel
theorem dX9_battery_12 : decode cX9_battery 12 = .ok (.invokevirtual 64, 3) := by decide +kernel
theorem dX9_battery_15 : decode cX9_battery 15 = .ok (.ireturn, 1) := by decide +kernel
theorem dX9_bounds_0 : decode cX9_bounds 0 = .ok (.aload_n 0, 1) := by decide +kernel
theorem dX9_bounds_1 : decode cX9_bounds 1 = .ok (.aload_n 0, 1) := by decide +kernel
theorem dX9_bounds_2 : decode cX9_bounds 2 = .ok (.getfield 21, 3) := by decide +kernel
theorem dX9_bounds_5 : decode cX9_bounds 5 = .ok (.getfield 143, 3) := by decide +kernel
theorem dX9_bounds_8 : decode cX9_bounds 8 = .ok (.iload_n 1, 1) := by decide +kernel
theorem dX9_bounds_9 : decode cX9_bounds 9 = .ok (.iload_n 2, 1) := by decide +kernel
theorem dX9_bounds_10 : decode cX9_bounds 10 = .ok (.iload_n 3, 1) := by decide +kernel
theorem dX9_bounds_11 : decode cX9_bounds 11 = .ok (.invokevirtual 147, 3) := by decide +kernel
theorem dX9_bounds_14 : decode cX9_bounds 14 = .ok (.invokevirtual 64, 3) := by decide +kernel
theorem dX9_bounds_17 : decode cX9_bounds 17 = .ok (.ireturn, 1) := by decide +kernel
theorem dX9_ticks_0 : decode cX9_ticks 0 = .ok (.iload_n 1, 1) := by decide +kernel
theorem dX9_ticks_1 : decode cX9_ticks 1 = .ok (.iconst 1, 1) := by decide +kernel
theorem dX9_ticks_2 : decode cX9_ticks 2 = .ok (.if_icmp .lt 9, 3) := by decide +kernel
theorem dX9_ticks_5 : decode cX9_ticks 5 = .ok (.iload_n 1, 1) := by decide +kernel
theorem dX9_ticks_6 : decode cX9_ticks 6 = .ok (.bipush 100, 2) := by decide +kernel
theorem dX9_ticks_8 : decode cX9_ticks 8 = .ok (.if_icmp .le 10, 3) := by decide +kernel
theorem dX9_ticks_11 : decode cX9_ticks 11 = .ok (.aload_n 0, 1) := by decide +kernel
theorem dX9_ticks_12 : decode cX9_ticks 12 = .ok (.ldc 92, 2) := by decide +kernel
theorem dX9_ticks_14 : decode cX9_ticks 14 = .ok (.invokevirtual 64, 3) := by decide +kernel
theorem dX9_ticks_17 : decode cX9_ticks 17 = .ok (.ireturn, 1) := by decide +kernel
theorem dX9_ticks_18 : decode cX9_ticks 18 = .ok (.aload_n 0, 1) := by decide +kernel
theorem dX9_ticks_19 : decode cX9_ticks 19 = .ok (.getfield 21, 3) := by decide +kernel
theorem dX9_ticks_22 : decode cX9_ticks 22 = .ok (.getfield 152, 3) := by decide +kernel
theorem dX9_ticks_25 : decode cX9_ticks 25 = .ok (.iload_n 1, 1) := by decide +kernel
theorem dX9_ticks_26 : decode cX9_ticks 26 = .ok (.iadd, 1) := by decide +kernel
theorem dX9_ticks_27 : decode cX9_ticks 27 = .ok (.sipush 3000, 3) := by decide +kernel
theorem dX9_ticks_30 : decode cX9_ticks 30 = .ok (.if_icmp .le 10, 3) := by decide +kernel
theorem dX9_ticks_33 : decode cX9_ticks 33 = .ok (.aload_n 0, 1) := by decide +kernel
theorem dX9_ticks_34 : decode cX9_ticks 34 = .ok (.ldc 155, 2) := by decide +kernel
theorem dX9_ticks_36 : decode cX9_ticks 36 = .ok (.invokevirtual 64, 3) := by decide +kernel
theorem dX9_ticks_39 : decode cX9_ticks 39 = .ok (.ireturn, 1) := by decide +kernel
theorem dX9_ticks_40 : decode cX9_ticks 40 = .ok (.iconst 0, 1) := by decide +kernel
theorem dX9_ticks_41 : decode cX9_ticks 41 = .ok (.istore_n 2, 1) := by decide +kernel
theorem dX9_ticks_42 : decode cX9_ticks 42 = .ok (.iload_n 2, 1) := by decide +kernel
theorem dX9_ticks_43 : decode cX9_ticks 43 = .ok (.iload_n 1, 1) := by decide +kernel
theorem dX9_ticks_44 : decode cX9_ticks 44 = .ok (.if_icmp .ge 17, 3) := by decide +kernel
theorem dX9_ticks_47 : decode cX9_ticks 47 = .ok (.aload_n 0, 1) := by decide +kernel
theorem dX9_ticks_48 : decode cX9_ticks 48 = .ok (.getfield 21, 3) := by decide +kernel
theorem dX9_ticks_51 : decode cX9_ticks 51 = .ok (.invokevirtual 156, 3) := by decide +kernel
theorem dX9_ticks_54 : decode cX9_ticks 54 = .ok (.pop, 1) := by decide +kernel
theorem dX9_ticks_55 : decode cX9_ticks 55 = .ok (.iinc 2 1, 3) := by decide +kernel
theorem dX9_ticks_58 : decode cX9_ticks 58 = .ok (.goto (-16), 3) := by decide +kernel
theorem dX9_ticks_61 : decode cX9_ticks 61 = .ok (.aload_n 0, 1) := by decide +kernel
theorem dX9_ticks_62 : decode cX9_ticks 62 = .ok (.getfield 21, 3) := by decide +kernel
theorem dX9_ticks_65 : decode cX9_ticks 65 = .ok (.getfield 152, 3) := by decide +kernel
theorem dX9_ticks_68 : decode cX9_ticks 68 = .ok (.ireturn, 1) := by decide +kernel
theorem dX9_broke_0 : decode cX9_broke 0 = .ok (.aload_n 0, 1) := by decide +kernel
theorem dX9_broke_1 : decode cX9_broke 1 = .ok (.aload_n 0, 1) := by decide +kernel
theorem dX9_broke_2 : decode cX9_broke 2 = .ok (.getfield 21, 3) := by decide +kernel
theorem dX9_broke_5 : decode cX9_broke 5 = .ok (.getfield 143, 3) := by decide +kernel
theorem dX9_broke_8 : decode cX9_broke 8 = .ok (.iload_n 1, 1) := by decide +kernel
theorem dX9_broke_9 : decode cX9_broke 9 = .ok (.invokevirtual 160, 3) := by decide +kernel
theorem dX9_broke_12 : decode cX9_broke 12 = .ok (.invokevirtual 64, 3) := by decide +kernel
theorem dX9_broke_15 : decode cX9_broke 15 = .ok (.ireturn, 1) := by decide +kernel
theorem dX9_ahead_0 : decode cX9_ahead 0 = .ok (.iload_n 1, 1) := by decide +kernel
theorem dX9_ahead_1 : decode cX9_ahead 1 = .ok (.iconst 1, 1) := by decide +kernel
theorem dX9_ahead_2 : decode cX9_ahead 2 = .ok (.if_icmp .lt 10, 3) := by decide +kernel
theorem dX9_ahead_5 : decode cX9_ahead 5 = .ok (.iload_n 1, 1) := by decide +kernel
theorem dX9_ahead_6 : decode cX9_ahead 6 = .ok (.sipush 200, 3) := by decide +kernel
theorem dX9_ahead_9 : decode cX9_ahead 9 = .ok (.if_icmp .le 10, 3) := by decide +kernel
theorem dX9_ahead_12 : decode cX9_ahead 12 = .ok (.aload_n 0, 1) := by decide +kernel
theorem dX9_ahead_13 : decode cX9_ahead 13 = .ok (.ldc 92, 2) := by decide +kernel
theorem dX9_ahead_15 : decode cX9_ahead 15 = .ok (.invokevirtual 64, 3) := by decide +kernel
theorem dX9_ahead_18 : decode cX9_ahead 18 = .ok (.ireturn, 1) := by decide +kernel
theorem dX9_ahead_19 : decode cX9_ahead 19 = .ok (.aload_n 0, 1) := by decide +kernel
theorem dX9_ahead_20 : decode cX9_ahead 20 = .ok (.getfield 25, 3) := by decide +kernel
theorem dX9_ahead_23 : decode cX9_ahead 23 = .ok (.aload_n 0, 1) := by decide +kernel
theorem dX9_ahead_24 : decode cX9_ahead 24 = .ok (.getfield 21, 3) := by decide +kernel
theorem dX9_ahead_27 : decode cX9_ahead 27 = .ok (.invokevirtual 163, 3) := by decide +kernel
theorem dX9_ahead_30 : decode cX9_ahead 30 = .ok (.iconst 1, 1) := by decide +kernel
theorem dX9_ahead_31 : decode cX9_ahead 31 = .ok (.istore_n 2, 1) := by decide +kernel
theorem dX9_ahead_32 : decode cX9_ahead 32 = .ok (.iload_n 2, 1) := by decide +kernel
theorem dX9_ahead_33 : decode cX9_ahead 33 = .ok (.iload_n 1, 1) := by decide +kernel
theorem dX9_ahead_34 : decode cX9_ahead 34 = .ok (.if_icmp .gt 21, 3) := by decide +kernel
theorem dX9_ahead_37 : decode cX9_ahead 37 = .ok (.aload_n 0, 1) := by decide +kernel
theorem dX9_ahead_38 : decode cX9_ahead 38 = .ok (.getfield 25, 3) := by decide +kernel
theorem dX9_ahead_41 : decode cX9_ahead 41 = .ok (.invokevirtual 156, 3) := by decide +kernel
theorem dX9_ahead_44 : decode cX9_ahead 44 = .ok (.ifCond .eq 5, 3) := by decide +kernel
theorem dX9_ahead_47 : decode cX9_ahead 47 = .ok (.iload_n 2, 1) := by decide +kernel
theorem dX9_ahead_48 : decode cX9_ahead 48 = .ok (.ireturn, 1) := by decide +kernel
theorem dX9_ahead_49 : decode cX9_ahead 49 = .ok (.iinc 2 1, 3) := by decide +kernel
theorem dX9_ahead_52 : decode cX9_ahead 52 = .ok (.goto (-20), 3) := by decide +kernel
theorem dX9_ahead_55 : decode cX9_ahead 55 = .ok (.iconst 0, 1) := by decide +kernel
theorem dX9_ahead_56 : decode cX9_ahead 56 = .ok (.ireturn, 1) := by decide +kernel
theorem dX9_line_0 : decode cX9_line 0 = .ok (.iload_n 1, 1) := by decide +kernel
theorem dX9_line_1 : decode cX9_line 1 = .ok (.ifCond .lt 9, 3) := by decide +kernel
theorem dX9_line_4 : decode cX9_line 4 = .ok (.iload_n 1, 1) := by decide +kernel
theorem dX9_line_5 : decode cX9_line 5 = .ok (.bipush 12, 2) := by decide +kernel
theorem dX9_line_7 : decode cX9_line 7 = .ok (.if_icmp .lt 10, 3) := by decide +kernel
theorem dX9_line_10 : decode cX9_line 10 = .ok (.aload_n 0, 1) := by decide +kernel
theorem dX9_line_11 : decode cX9_line 11 = .ok (.ldc 92, 2) := by decide +kernel
theorem dX9_line_13 : decode cX9_line 13 = .ok (.invokevirtual 64, 3) := by decide +kernel
theorem dX9_line_16 : decode cX9_line 16 = .ok (.ireturn, 1) := by decide +kernel
theorem dX9_line_17 : decode cX9_line 17 = .ok (.aload_n 0, 1) := by decide +kernel
theorem dX9_line_18 : decode cX9_line 18 = .ok (.getfield 21, 3) := by decide +kernel
theorem dX9_line_21 : decode cX9_line 21 = .ok (.getfield 167, 3) := by decide +kernel
theorem dX9_line_24 : decode cX9_line 24 = .ok (.getfield 171, 3) := by decide +kernel
theorem dX9_line_27 : decode cX9_line 27 = .ok (.ifCond .eq 10, 3) := by decide +kernel
theorem dX9_line_30 : decode cX9_line 30 = .ok (.aload_n 0, 1) := by decide +kernel
theorem dX9_line_31 : decode cX9_line 31 = .ok (.ldc 177, 2) := by decide +kernel
theorem dX9_line_33 : decode cX9_line 33 = .ok (.invokevirtual 64, 3) := by decide +kernel
theorem dX9_line_36 : decode cX9_line 36 = .ok (.ireturn, 1) := by decide +kernel
theorem dX9_line_37 : decode cX9_line 37 = .ok (.aload_n 0, 1) := by decide +kernel
theorem dX9_line_38 : decode cX9_line 38 = .ok (.aload_n 0, 1) := by decide +kernel
theorem dX9_line_39 : decode cX9_line 39 = .ok (.getfield 12, 3) := by decide +kernel
theorem dX9_line_42 : decode cX9_line 42 = .ok (.iload_n 1, 1) := by decide +kernel
theorem dX9_line_43 : decode cX9_line 43 = .ok (.iload_n 2, 1) := by decide +kernel
theorem dX9_line_44 : decode cX9_line 44 = .ok (.iload_n 3, 1) := by decide +kernel
theorem dX9_line_45 : decode cX9_line 45 = .ok (.iload 4, 2) := by decide +kernel
theorem dX9_line_47 : decode cX9_line 47 = .ok (.invokevirtual 178, 3) := by decide +kernel
theorem dX9_line_50 : decode cX9_line 50 = .ok (.invokevirtual 64, 3) := by decide +kernel
theorem dX9_line_53 : decode cX9_line 53 = .ok (.ireturn, 1) := by decide +kernel
theorem dX9_erase_0 : decode cX9_erase 0 = .ok (.aload_n 0, 1) := by decide +kernel
theorem dX9_erase_1 : decode cX9_erase 1 = .ok (.getfield 21, 3) := by decide +kernel
theorem dX9_erase_4 : decode cX9_erase 4 = .ok (.getfield 167, 3) := by decide +kernel
theorem dX9_erase_7 : decode cX9_erase 7 = .ok (.getfield 171, 3) := by decide +kernel
theorem dX9_erase_10 : decode cX9_erase 10 = .ok (.ifCond .eq 10, 3) := by decide +kernel
theorem dX9_erase_13 : decode cX9_erase 13 = .ok (.aload_n 0, 1) := by decide +kernel
theorem dX9_erase_14 : decode cX9_erase 14 = .ok (.ldc 177, 2) := by decide +kernel
theorem dX9_erase_16 : decode cX9_erase 16 = .ok (.invokevirtual 64, 3) := by decide +kernel
theorem dX9_erase_19 : decode cX9_erase 19 = .ok (.ireturn, 1) := by decide +kernel
theorem dX9_erase_20 : decode cX9_erase 20 = .ok (.aload_n 0, 1) := by decide +kernel
theorem dX9_erase_21 : decode cX9_erase 21 = .ok (.getfield 12, 3) := by decide +kernel
theorem dX9_erase_24 : decode cX9_erase 24 = .ok (.getfield 181, 3) := by decide +kernel
theorem dX9_erase_27 : decode cX9_erase 27 = .ok (.istore_n 1, 1) := by decide +kernel
theorem dX9_erase_28 : decode cX9_erase 28 = .ok (.aload_n 0, 1) := by decide +kernel
theorem dX9_erase_29 : decode cX9_erase 29 = .ok (.getfield 12, 3) := by decide +kernel
theorem dX9_erase_32 : decode cX9_erase 32 = .ok (.iconst 0, 1) := by decide +kernel
theorem dX9_erase_33 : decode cX9_erase 33 = .ok (.putfield 181, 3) := by decide +kernel
theorem dX9_erase_36 : decode cX9_erase 36 = .ok (.iload_n 1, 1) := by decide +kernel
theorem dX9_erase_37 : decode cX9_erase 37 = .ok (.ireturn, 1) := by decide +kernel
theorem dX9_begin_0 : decode cX9_begin 0 = .ok (.aload_n 0, 1) := by decide +kernel
theorem dX9_begin_1 : decode cX9_begin 1 = .ok (.getfield 21, 3) := by decide +kernel
theorem dX9_begin_4 : decode cX9_begin 4 = .ok (.getfield 167, 3) := by decide +kernel
theorem dX9_begin_7 : decode cX9_begin 7 = .ok (.getfield 171, 3) := by decide +kernel
theorem dX9_begin_10 : decode cX9_begin 10 = .ok (.ifCond .ne 13, 3) := by decide +kernel
theorem dX9_begin_13 : decode cX9_begin 13 = .ok (.aload_n 0, 1) := by decide +kernel
theorem dX9_begin_14 : decode cX9_begin 14 = .ok (.getfield 12, 3) := by decide +kernel
theorem dX9_begin_17 : decode cX9_begin 17 = .ok (.getfield 181, 3) := by decide +kernel
theorem dX9_begin_20 : decode cX9_begin 20 = .ok (.ifCond .ne 10, 3) := by decide +kernel
theorem dX9_begin_23 : decode cX9_begin 23 = .ok (.aload_n 0, 1) := by decide +kernel
theorem dX9_begin_24 : decode cX9_begin 24 = .ok (.ldc 177, 2) := by decide +kernel
theorem dX9_begin_26 : decode cX9_begin 26 = .ok (.invokevirtual 64, 3) := by decide +kernel
theorem dX9_begin_29 : decode cX9_begin 29 = .ok (.ireturn, 1) := by decide +kernel
theorem dX9_begin_30 : decode cX9_begin 30 = .ok (.aload_n 0, 1) := by decide +kernel
theorem dX9_begin_31 : decode cX9_begin 31 = .ok (.getfield 21, 3) := by decide +kernel
theorem dX9_begin_34 : decode cX9_begin 34 = .ok (.getfield 167, 3) := by decide +kernel
theorem dX9_begin_37 : decode cX9_begin 37 = .ok (.invokevirtual 184, 3) := by decide +kernel
theorem dX9_begin_40 : decode cX9_begin 40 = .ok (.iconst 1, 1) := by decide +kernel
theorem dX9_begin_41 : decode cX9_begin 41 = .ok (.ireturn, 1) := by decide +kernel
theorem dX9_halt_0 : decode cX9_halt 0 = .ok (.aload_n 0, 1) := by decide +kernel
theorem dX9_halt_1 : decode cX9_halt 1 = .ok (.aload_n 0, 1) := by decide +kernel
theorem dX9_halt_2 : decode cX9_halt 2 = .ok (.getfield 21, 3) := by decide +kernel
theorem dX9_halt_5 : decode cX9_halt 5 = .ok (.getfield 167, 3) := by decide +kernel
theorem dX9_halt_8 : decode cX9_halt 8 = .ok (.iload_n 1, 1) := by decide +kernel
theorem dX9_halt_9 : decode cX9_halt 9 = .ok (.invokevirtual 187, 3) := by decide +kernel
theorem dX9_halt_12 : decode cX9_halt 12 = .ok (.invokevirtual 64, 3) := by decide +kernel
theorem dX9_halt_15 : decode cX9_halt 15 = .ok (.ireturn, 1) := by decide +kernel
theorem dX9_abort_0 : decode cX9_abort 0 = .ok (.aload_n 0, 1) := by decide +kernel
theorem dX9_abort_1 : decode cX9_abort 1 = .ok (.getfield 21, 3) := by decide +kernel
theorem dX9_abort_4 : decode cX9_abort 4 = .ok (.getfield 167, 3) := by decide +kernel
theorem dX9_abort_7 : decode cX9_abort 7 = .ok (.getfield 171, 3) := by decide +kernel
theorem dX9_abort_10 : decode cX9_abort 10 = .ok (.ifCond .ne 10, 3) := by decide +kernel
theorem dX9_abort_13 : decode cX9_abort 13 = .ok (.aload_n 0, 1) := by decide +kernel
theorem dX9_abort_14 : decode cX9_abort 14 = .ok (.ldc 177, 2) := by decide +kernel
theorem dX9_abort_16 : decode cX9_abort 16 = .ok (.invokevirtual 64, 3) := by decide +kernel
theorem dX9_abort_19 : decode cX9_abort 19 = .ok (.ireturn, 1) := by decide +kernel
theorem dX9_abort_20 : decode cX9_abort 20 = .ok (.aload_n 0, 1) := by decide +kernel
theorem dX9_abort_21 : decode cX9_abort 21 = .ok (.getfield 21, 3) := by decide +kernel
theorem dX9_abort_24 : decode cX9_abort 24 = .ok (.getfield 167, 3) := by decide +kernel
theorem dX9_abort_27 : decode cX9_abort 27 = .ok (.invokevirtual 190, 3) := by decide +kernel
theorem dX9_abort_30 : decode cX9_abort 30 = .ok (.aload_n 0, 1) := by decide +kernel
theorem dX9_abort_31 : decode cX9_abort 31 = .ok (.getfield 21, 3) := by decide +kernel
theorem dX9_abort_34 : decode cX9_abort 34 = .ok (.getfield 167, 3) := by decide +kernel
theorem dX9_abort_37 : decode cX9_abort 37 = .ok (.getfield 171, 3) := by decide +kernel
theorem dX9_abort_40 : decode cX9_abort 40 = .ok (.invokestatic 193, 3) := by decide +kernel
theorem dX9_abort_43 : decode cX9_abort 43 = .ok (.ireturn, 1) := by decide +kernel
theorem dX9_text_0 : decode cX9_text 0 = .ok (.aload_n 0, 1) := by decide +kernel
theorem dX9_text_1 : decode cX9_text 1 = .ok (.aload_n 0, 1) := by decide +kernel
theorem dX9_text_2 : decode cX9_text 2 = .ok (.getfield 21, 3) := by decide +kernel
theorem dX9_text_5 : decode cX9_text 5 = .ok (.getfield 167, 3) := by decide +kernel
theorem dX9_text_8 : decode cX9_text 8 = .ok (.iload_n 1, 1) := by decide +kernel
theorem dX9_text_9 : decode cX9_text 9 = .ok (.invokevirtual 197, 3) := by decide +kernel
theorem dX9_text_12 : decode cX9_text 12 = .ok (.invokevirtual 64, 3) := by decide +kernel
theorem dX9_text_15 : decode cX9_text 15 = .ok (.ireturn, 1) := by decide +kernel
theorem dX9_hunt_0 : decode cX9_hunt 0 = .ok (.aload_n 0, 1) := by decide +kernel
theorem dX9_hunt_1 : decode cX9_hunt 1 = .ok (.getfield 31, 3) := by decide +kernel
theorem dX9_hunt_4 : decode cX9_hunt 4 = .ok (.aload_n 0, 1) := by decide +kernel
theorem dX9_hunt_5 : decode cX9_hunt 5 = .ok (.getfield 21, 3) := by decide +kernel
theorem dX9_hunt_8 : decode cX9_hunt 8 = .ok (.getfield 54, 3) := by decide +kernel
theorem dX9_hunt_11 : decode cX9_hunt 11 = .ok (.invokevirtual 199, 3) := by decide +kernel
theorem dX9_hunt_14 : decode cX9_hunt 14 = .ok (.ireturn, 1) := by decide +kernel
theorem dX9_test_0 : decode cX9_test 0 = .ok (.aload_n 0, 1) := by decide +kernel
theorem dX9_test_1 : decode cX9_test 1 = .ok (.aload_n 0, 1) := by decide +kernel
theorem dX9_test_2 : decode cX9_test 2 = .ok (.getfield 31, 3) := by decide +kernel
theorem dX9_test_5 : decode cX9_test 5 = .ok (.aload_n 0, 1) := by decide +kernel
theorem dX9_test_6 : decode cX9_test 6 = .ok (.getfield 21, 3) := by decide +kernel
theorem dX9_test_9 : decode cX9_test 9 = .ok (.getfield 54, 3) := by decide +kernel
theorem dX9_test_12 : decode cX9_test 12 = .ok (.iload_n 1, 1) := by decide +kernel
theorem dX9_test_13 : decode cX9_test 13 = .ok (.iload_n 2, 1) := by decide +kernel
theorem dX9_test_14 : decode cX9_test 14 = .ok (.invokevirtual 203, 3) := by decide +kernel
theorem dX9_test_17 : decode cX9_test 17 = .ok (.invokevirtual 64, 3) := by decide +kernel
theorem dX9_test_20 : decode cX9_test 20 = .ok (.ireturn, 1) := by decide +kernel
theorem dX9_best_0 : decode cX9_best 0 = .ok (.aload_n 0, 1) := by decide +kernel
theorem dX9_best_1 : decode cX9_best 1 = .ok (.aload_n 0, 1) := by decide +kernel
theorem dX9_best_2 : decode cX9_best 2 = .ok (.getfield 31, 3) := by decide +kernel
theorem dX9_best_5 : decode cX9_best 5 = .ok (.aload_n 0, 1) := by decide +kernel
theorem dX9_best_6 : decode cX9_best 6 = .ok (.getfield 21, 3) := by decide +kernel
theorem dX9_best_9 : decode cX9_best 9 = .ok (.getfield 54, 3) := by decide +kernel
theorem dX9_best_12 : decode cX9_best 12 = .ok (.iload_n 1, 1) := by decide +kernel
theorem dX9_best_13 : decode cX9_best 13 = .ok (.invokevirtual 207, 3) := by decide +kernel
theorem dX9_best_16 : decode cX9_best 16 = .ok (.invokevirtual 64, 3) := by decide +kernel
theorem dX9_best_19 : decode cX9_best 19 = .ok (.ireturn, 1) := by decide +kernel
theorem dX9_suspects_0 : decode cX9_suspects 0 = .ok (.aload_n 0, 1) := by decide +kernel
theorem dX9_suspects_1 : decode cX9_suspects 1 = .ok (.getfield 31, 3) := by decide +kernel
theorem dX9_suspects_4 : decode cX9_suspects 4 = .ok (.getfield 211, 3) := by decide +kernel
theorem dX9_suspects_7 : decode cX9_suspects 7 = .ok (.ireturn, 1) := by decide +kernel
theorem dX9_read_0 : decode cX9_read 0 = .ok (.aload_n 0, 1) := by decide +kernel
theorem dX9_read_1 : decode cX9_read 1 = .ok (.aload_n 0, 1) := by decide +kernel
theorem dX9_read_2 : decode cX9_read 2 = .ok (.getfield 38, 3) := by decide +kernel
theorem dX9_read_5 : decode cX9_read 5 = .ok (.iload_n 1, 1) := by decide +kernel
theorem dX9_read_6 : decode cX9_read 6 = .ok (.iload_n 2, 1) := by decide +kernel
theorem dX9_read_7 : decode cX9_read 7 = .ok (.aload_n 0, 1) := by decide +kernel
theorem dX9_read_8 : decode cX9_read 8 = .ok (.getfield 21, 3) := by decide +kernel
theorem dX9_read_11 : decode cX9_read 11 = .ok (.getfield 152, 3) := by decide +kernel
theorem dX9_read_14 : decode cX9_read 14 = .ok (.invokevirtual 214, 3) := by decide +kernel
theorem dX9_read_17 : decode cX9_read 17 = .ok (.invokevirtual 64, 3) := by decide +kernel
theorem dX9_read_20 : decode cX9_read 20 = .ok (.ireturn, 1) := by decide +kernel
theorem dX9_calibrate_0 : decode cX9_calibrate 0 = .ok (.aload_n 0, 1) := by decide +kernel
theorem dX9_calibrate_1 : decode cX9_calibrate 1 = .ok (.aload_n 0, 1) := by decide +kernel
theorem dX9_calibrate_2 : decode cX9_calibrate 2 = .ok (.getfield 38, 3) := by decide +kernel
theorem dX9_calibrate_5 : decode cX9_calibrate 5 = .ok (.iload_n 1, 1) := by decide +kernel
theorem dX9_calibrate_6 : decode cX9_calibrate 6 = .ok (.iload_n 2, 1) := by decide +kernel
theorem dX9_calibrate_7 : decode cX9_calibrate 7 = .ok (.aload_n 0, 1) := by decide +kernel
theorem dX9_calibrate_8 : decode cX9_calibrate 8 = .ok (.getfield 21, 3) := by decide +kernel
theorem dX9_calibrate_11 : decode cX9_calibrate 11 = .ok (.getfield 152, 3) := by decide +kernel
theorem dX9_calibrate_14 : decode cX9_calibrate 14 = .ok (.invokevirtual 217, 3) := by decide +kernel
theorem dX9_calibrate_17 : decode cX9_calibrate 17 = .ok (.invokevirtual 64, 3) := by decide +kernel
theorem dX9_calibrate_20 : decode cX9_calibrate 20 = .ok (.ireturn, 1) := by decide +kernel
theorem dX9_worked_0 : decode cX9_worked 0 = .ok (.aload_n 0, 1) := by decide +kernel
theorem dX9_worked_1 : decode cX9_worked 1 = .ok (.aload_n 0, 1) := by decide +kernel
theorem dX9_worked_2 : decode cX9_worked 2 = .ok (.getfield 38, 3) := by decide +kernel
theorem dX9_worked_5 : decode cX9_worked 5 = .ok (.iload_n 1, 1) := by decide +kernel
theorem dX9_worked_6 : decode cX9_worked 6 = .ok (.invokevirtual 220, 3) := by decide +kernel
theorem dX9_worked_9 : decode cX9_worked 9 = .ok (.invokevirtual 64, 3) := by decide +kernel
theorem dX9_worked_12 : decode cX9_worked 12 = .ok (.ireturn, 1) := by decide +kernel
theorem dX9_delay_0 : decode cX9_delay 0 = .ok (.aload_n 0, 1) := by decide +kernel
theorem dX9_delay_1 : decode cX9_delay 1 = .ok (.aload_n 0, 1) := by decide +kernel
theorem dX9_delay_2 : decode cX9_delay 2 = .ok (.getfield 38, 3) := by decide +kernel
theorem dX9_delay_5 : decode cX9_delay 5 = .ok (.iload_n 1, 1) := by decide +kernel
theorem dX9_delay_6 : decode cX9_delay 6 = .ok (.invokevirtual 223, 3) := by decide +kernel
theorem dX9_delay_9 : decode cX9_delay 9 = .ok (.invokevirtual 64, 3) := by decide +kernel
theorem dX9_delay_12 : decode cX9_delay 12 = .ok (.ireturn, 1) := by decide +kernel
theorem dX9_known_0 : decode cX9_known 0 = .ok (.aload_n 0, 1) := by decide +kernel
theorem dX9_known_1 : decode cX9_known 1 = .ok (.aload_n 0, 1) := by decide +kernel
theorem dX9_known_2 : decode cX9_known 2 = .ok (.getfield 38, 3) := by decide +kernel
theorem dX9_known_5 : decode cX9_known 5 = .ok (.iload_n 1, 1) := by decide +kernel
theorem dX9_known_6 : decode cX9_known 6 = .ok (.iload_n 2, 1) := by decide +kernel
theorem dX9_known_7 : decode cX9_known 7 = .ok (.invokevirtual 226, 3) := by decide +kernel
theorem dX9_known_10 : decode cX9_known 10 = .ok (.invokevirtual 64, 3) := by decide +kernel
theorem dX9_known_13 : decode cX9_known 13 = .ok (.ireturn, 1) := by decide +kernel
theorem dX9_mass_0 : decode cX9_mass 0 = .ok (.iload_n 1, 1) := by decide +kernel
theorem dX9_mass_1 : decode cX9_mass 1 = .ok (.ifCond .ne 13, 3) := by decide +kernel
theorem dX9_mass_4 : decode cX9_mass 4 = .ok (.aload_n 0, 1) := by decide +kernel
theorem dX9_mass_5 : decode cX9_mass 5 = .ok (.aload_n 0, 1) := by decide +kernel
theorem dX9_mass_6 : decode cX9_mass 6 = .ok (.iload_n 2, 1) := by decide +kernel
theorem dX9_mass_7 : decode cX9_mass 7 = .ok (.invokevirtual 229, 3) := by decide +kernel
theorem dX9_mass_10 : decode cX9_mass 10 = .ok (.invokevirtual 64, 3) := by decide +kernel
theorem dX9_mass_13 : decode cX9_mass 13 = .ok (.ireturn, 1) := by decide +kernel
theorem dX9_mass_14 : decode cX9_mass 14 = .ok (.iload_n 1, 1) := by decide +kernel
theorem dX9_mass_15 : decode cX9_mass 15 = .ok (.iconst 1, 1) := by decide +kernel
theorem dX9_mass_16 : decode cX9_mass 16 = .ok (.if_icmp .ne 13, 3) := by decide +kernel
theorem dX9_mass_19 : decode cX9_mass 19 = .ok (.aload_n 0, 1) := by decide +kernel
theorem dX9_mass_20 : decode cX9_mass 20 = .ok (.aload_n 0, 1) := by decide +kernel
theorem dX9_mass_21 : decode cX9_mass 21 = .ok (.iload_n 2, 1) := by decide +kernel
theorem dX9_mass_22 : decode cX9_mass 22 = .ok (.invokevirtual 232, 3) := by decide +kernel
theorem dX9_mass_25 : decode cX9_mass 25 = .ok (.invokevirtual 64, 3) := by decide +kernel
theorem dX9_mass_28 : decode cX9_mass 28 = .ok (.ireturn, 1) := by decide +kernel
theorem dX9_mass_29 : decode cX9_mass 29 = .ok (.aload_n 0, 1) := by decide +kernel
theorem dX9_mass_30 : decode cX9_mass 30 = .ok (.ldc 92, 2) := by decide +kernel
theorem dX9_mass_32 : decode cX9_mass 32 = .ok (.invokevirtual 64, 3) := by decide +kernel
theorem dX9_mass_35 : decode cX9_mass 35 = .ok (.ireturn, 1) := by decide +kernel
theorem dX9_dock_0 : decode cX9_dock 0 = .ok (.iload_n 1, 1) := by decide +kernel
theorem dX9_dock_1 : decode cX9_dock 1 = .ok (.invokestatic 235, 3) := by decide +kernel
theorem dX9_dock_4 : decode cX9_dock 4 = .ok (.ifCond .eq 10, 3) := by decide +kernel
theorem dX9_dock_7 : decode cX9_dock 7 = .ok (.iload_n 2, 1) := by decide +kernel
theorem dX9_dock_8 : decode cX9_dock 8 = .ok (.invokestatic 238, 3) := by decide +kernel
theorem dX9_dock_11 : decode cX9_dock 11 = .ok (.ifCond .ne 10, 3) := by decide +kernel
theorem dX9_dock_14 : decode cX9_dock 14 = .ok (.aload_n 0, 1) := by decide +kernel
theorem dX9_dock_15 : decode cX9_dock 15 = .ok (.ldc 92, 2) := by decide +kernel
theorem dX9_dock_17 : decode cX9_dock 17 = .ok (.invokevirtual 64, 3) := by decide +kernel
theorem dX9_dock_20 : decode cX9_dock 20 = .ok (.ireturn, 1) := by decide +kernel
theorem dX9_dock_21 : decode cX9_dock 21 = .ok (.aload_n 0, 1) := by decide +kernel
theorem dX9_dock_22 : decode cX9_dock 22 = .ok (.getfield 50, 3) := by decide +kernel
theorem dX9_dock_25 : decode cX9_dock 25 = .ok (.iload_n 1, 1) := by decide +kernel
theorem dX9_dock_26 : decode cX9_dock 26 = .ok (.iadd, 1) := by decide +kernel
theorem dX9_dock_27 : decode cX9_dock 27 = .ok (.istore_n 3, 1) := by decide +kernel
theorem dX9_dock_28 : decode cX9_dock 28 = .ok (.iload_n 3, 1) := by decide +kernel
theorem dX9_dock_29 : decode cX9_dock 29 = .ok (.ldc 241, 2) := by decide +kernel
theorem dX9_dock_31 : decode cX9_dock 31 = .ok (.if_icmp .le 10, 3) := by decide +kernel
theorem dX9_dock_34 : decode cX9_dock 34 = .ok (.aload_n 0, 1) := by decide +kernel
theorem dX9_dock_35 : decode cX9_dock 35 = .ok (.ldc 177, 2) := by decide +kernel
theorem dX9_dock_37 : decode cX9_dock 37 = .ok (.invokevirtual 64, 3) := by decide +kernel
theorem dX9_dock_40 : decode cX9_dock 40 = .ok (.ireturn, 1) := by decide +kernel
theorem dX9_dock_41 : decode cX9_dock 41 = .ok (.aload_n 0, 1) := by decide +kernel
theorem dX9_dock_42 : decode cX9_dock 42 = .ok (.getfield 50, 3) := by decide +kernel
theorem dX9_dock_45 : decode cX9_dock 45 = .ok (.i2l, 1) := by decide +kernel
theorem dX9_dock_46 : decode cX9_dock 46 = .ok (.aload_n 0, 1) := by decide +kernel
theorem dX9_dock_47 : decode cX9_dock 47 = .ok (.getfield 242, 3) := by decide +kernel
theorem dX9_dock_50 : decode cX9_dock 50 = .ok (.i2l, 1) := by decide +kernel
theorem dX9_dock_51 : decode cX9_dock 51 = .ok (.lmul, 1) := by decide +kernel
theorem dX9_dock_52 : decode cX9_dock 52 = .ok (.iload_n 1, 1) := by decide +kernel
theorem dX9_dock_53 : decode cX9_dock 53 = .ok (.i2l, 1) := by decide +kernel
theorem dX9_dock_54 : decode cX9_dock 54 = .ok (.iload_n 2, 1) := by decide +kernel
theorem dX9_dock_55 : decode cX9_dock 55 = .ok (.i2l, 1) := by decide +kernel
theorem dX9_dock_56 : decode cX9_dock 56 = .ok (.lmul, 1) := by decide +kernel
theorem dX9_dock_57 : decode cX9_dock 57 = .ok (.ladd, 1) := by decide +kernel
theorem dX9_dock_58 : decode cX9_dock 58 = .ok (.lstore 4, 2) := by decide +kernel
theorem dX9_dock_60 : decode cX9_dock 60 = .ok (.aload_n 0, 1) := by decide +kernel
theorem dX9_dock_61 : decode cX9_dock 61 = .ok (.lload 4, 2) := by decide +kernel
theorem dX9_dock_63 : decode cX9_dock 63 = .ok (.iload_n 3, 1) := by decide +kernel
theorem dX9_dock_64 : decode cX9_dock 64 = .ok (.i2l, 1) := by decide +kernel
theorem dX9_dock_65 : decode cX9_dock 65 = .ok (.ldiv, 1) := by decide +kernel
theorem dX9_dock_66 : decode cX9_dock 66 = .ok (.l2i, 1) := by decide +kernel
theorem dX9_dock_67 : decode cX9_dock 67 = .ok (.putfield 242, 3) := by decide +kernel
theorem dX9_dock_70 : decode cX9_dock 70 = .ok (.aload_n 0, 1) := by decide +kernel
theorem dX9_dock_71 : decode cX9_dock 71 = .ok (.iload_n 3, 1) := by decide +kernel
theorem dX9_dock_72 : decode cX9_dock 72 = .ok (.putfield 50, 3) := by decide +kernel
theorem dX9_dock_75 : decode cX9_dock 75 = .ok (.aload_n 0, 1) := by decide +kernel
theorem dX9_dock_76 : decode cX9_dock 76 = .ok (.getfield 242, 3) := by decide +kernel
theorem dX9_dock_79 : decode cX9_dock 79 = .ok (.ireturn, 1) := by decide +kernel
theorem dX9_undock_0 : decode cX9_undock 0 = .ok (.iload_n 1, 1) := by decide +kernel
theorem dX9_undock_1 : decode cX9_undock 1 = .ok (.invokestatic 235, 3) := by decide +kernel
theorem dX9_undock_4 : decode cX9_undock 4 = .ok (.ifCond .ne 10, 3) := by decide +kernel
theorem dX9_undock_7 : decode cX9_undock 7 = .ok (.aload_n 0, 1) := by decide +kernel
theorem dX9_undock_8 : decode cX9_undock 8 = .ok (.ldc 92, 2) := by decide +kernel
theorem dX9_undock_10 : decode cX9_undock 10 = .ok (.invokevirtual 64, 3) := by decide +kernel
theorem dX9_undock_13 : decode cX9_undock 13 = .ok (.ireturn, 1) := by decide +kernel
theorem dX9_undock_14 : decode cX9_undock 14 = .ok (.aload_n 0, 1) := by decide +kernel
theorem dX9_undock_15 : decode cX9_undock 15 = .ok (.getfield 50, 3) := by decide +kernel
theorem dX9_undock_18 : decode cX9_undock 18 = .ok (.iload_n 1, 1) := by decide +kernel
theorem dX9_undock_19 : decode cX9_undock 19 = .ok (.isub, 1) := by decide +kernel
theorem dX9_undock_20 : decode cX9_undock 20 = .ok (.iconst 1, 1) := by decide +kernel
theorem dX9_undock_21 : decode cX9_undock 21 = .ok (.if_icmp .ge 10, 3) := by decide +kernel
theorem dX9_undock_24 : decode cX9_undock 24 = .ok (.aload_n 0, 1) := by decide +kernel
theorem dX9_undock_25 : decode cX9_undock 25 = .ok (.ldc 177, 2) := by decide +kernel
theorem dX9_undock_27 : decode cX9_undock 27 = .ok (.invokevirtual 64, 3) := by decide +kernel
theorem dX9_undock_30 : decode cX9_undock 30 = .ok (.ireturn, 1) := by decide +kernel
theorem dX9_undock_31 : decode cX9_undock 31 = .ok (.aload_n 0, 1) := by decide +kernel
theorem dX9_undock_32 : decode cX9_undock 32 = .ok (.dup, 1) := by decide +kernel
theorem dX9_undock_33 : decode cX9_undock 33 = .ok (.getfield 50, 3) := by decide +kernel
theorem dX9_undock_36 : decode cX9_undock 36 = .ok (.iload_n 1, 1) := by decide +kernel
theorem dX9_undock_37 : decode cX9_undock 37 = .ok (.isub, 1) := by decide +kernel
theorem dX9_undock_38 : decode cX9_undock 38 = .ok (.putfield 50, 3) := by decide +kernel
theorem dX9_undock_41 : decode cX9_undock 41 = .ok (.aload_n 0, 1) := by decide +kernel
theorem dX9_undock_42 : decode cX9_undock 42 = .ok (.getfield 50, 3) := by decide +kernel
theorem dX9_undock_45 : decode cX9_undock 45 = .ok (.ireturn, 1) := by decide +kernel
theorem dX9_tell_0 : decode cX9_tell 0 = .ok (.aload_n 0, 1) := by decide +kernel
theorem dX9_tell_1 : decode cX9_tell 1 = .ok (.getfield 245, 3) := by decide +kernel
theorem dX9_tell_4 : decode cX9_tell 4 = .ok (.bipush 24, 2) := by decide +kernel
theorem dX9_tell_6 : decode cX9_tell 6 = .ok (.if_icmp .lt 10, 3) := by decide +kernel
theorem dX9_tell_9 : decode cX9_tell 9 = .ok (.aload_n 0, 1) := by decide +kernel
theorem dX9_tell_10 : decode cX9_tell 10 = .ok (.ldc 155, 2) := by decide +kernel
theorem dX9_tell_12 : decode cX9_tell 12 = .ok (.invokevirtual 64, 3) := by decide +kernel
theorem dX9_tell_15 : decode cX9_tell 15 = .ok (.ireturn, 1) := by decide +kernel
theorem dX9_tell_16 : decode cX9_tell 16 = .ok (.aload_n 0, 1) := by decide +kernel
theorem dX9_tell_17 : decode cX9_tell 17 = .ok (.getfield 42, 3) := by decide +kernel
theorem dX9_tell_20 : decode cX9_tell 20 = .ok (.aload_n 0, 1) := by decide +kernel
theorem dX9_tell_21 : decode cX9_tell 21 = .ok (.getfield 245, 3) := by decide +kernel
theorem dX9_tell_24 : decode cX9_tell 24 = .ok (.iload_n 1, 1) := by decide +kernel
theorem dX9_tell_25 : decode cX9_tell 25 = .ok (.iastore, 1) := by decide +kernel
theorem dX9_tell_26 : decode cX9_tell 26 = .ok (.aload_n 0, 1) := by decide +kernel
theorem dX9_tell_27 : decode cX9_tell 27 = .ok (.dup, 1) := by decide +kernel
theorem dX9_tell_28 : decode cX9_tell 28 = .ok (.getfield 245, 3) := by decide +kernel
theorem dX9_tell_31 : decode cX9_tell 31 = .ok (.iconst 1, 1) := by decide +kernel
theorem dX9_tell_32 : decode cX9_tell 32 = .ok (.iadd, 1) := by decide +kernel
theorem dX9_tell_33 : decode cX9_tell 33 = .ok (.putfield 245, 3) := by decide +kernel
theorem dX9_tell_36 : decode cX9_tell 36 = .ok (.aload_n 0, 1) := by decide +kernel
theorem dX9_tell_37 : decode cX9_tell 37 = .ok (.getfield 245, 3) := by decide +kernel
theorem dX9_tell_40 : decode cX9_tell 40 = .ok (.ireturn, 1) := by decide +kernel
theorem dX9_check_0 : decode cX9_check 0 = .ok (.aload_n 0, 1) := by decide +kernel
theorem dX9_check_1 : decode cX9_check 1 = .ok (.getfield 245, 3) := by decide +kernel
theorem dX9_check_4 : decode cX9_check 4 = .ok (.istore_n 3, 1) := by decide +kernel
theorem dX9_check_5 : decode cX9_check 5 = .ok (.aload_n 0, 1) := by decide +kernel
theorem dX9_check_6 : decode cX9_check 6 = .ok (.iconst 0, 1) := by decide +kernel
theorem dX9_check_7 : decode cX9_check 7 = .ok (.putfield 245, 3) := by decide +kernel
theorem dX9_check_10 : decode cX9_check 10 = .ok (.aload_n 0, 1) := by decide +kernel
theorem dX9_check_11 : decode cX9_check 11 = .ok (.getfield 21, 3) := by decide +kernel
theorem dX9_check_14 : decode cX9_check 14 = .ok (.getfield 54, 3) := by decide +kernel
theorem dX9_check_17 : decode cX9_check 17 = .ok (.iload_n 1, 1) := by decide +kernel
theorem dX9_check_18 : decode cX9_check 18 = .ok (.invokevirtual 88, 3) := by decide +kernel
theorem dX9_check_21 : decode cX9_check 21 = .ok (.ifCond .eq 10, 3) := by decide +kernel
theorem dX9_check_24 : decode cX9_check 24 = .ok (.iload_n 2, 1) := by decide +kernel
theorem dX9_check_25 : decode cX9_check 25 = .ok (.invokestatic 248, 3) := by decide +kernel
theorem dX9_check_28 : decode cX9_check 28 = .ok (.ifCond .ne 10, 3) := by decide +kernel
theorem dX9_check_31 : decode cX9_check 31 = .ok (.aload_n 0, 1) := by decide +kernel
theorem dX9_check_32 : decode cX9_check 32 = .ok (.ldc 92, 2) := by decide +kernel
theorem dX9_check_34 : decode cX9_check 34 = .ok (.invokevirtual 64, 3) := by decide +kernel
theorem dX9_check_37 : decode cX9_check 37 = .ok (.ireturn, 1) := by decide +kernel
theorem dX9_check_38 : decode cX9_check 38 = .ok (.aload_n 0, 1) := by decide +kernel
theorem dX9_check_39 : decode cX9_check 39 = .ok (.getfield 25, 3) := by decide +kernel
theorem dX9_check_42 : decode cX9_check 42 = .ok (.aload_n 0, 1) := by decide +kernel
theorem dX9_check_43 : decode cX9_check 43 = .ok (.getfield 21, 3) := by decide +kernel
theorem dX9_check_46 : decode cX9_check 46 = .ok (.invokevirtual 163, 3) := by decide +kernel
theorem dX9_check_49 : decode cX9_check 49 = .ok (.iconst 0, 1) := by decide +kernel
theorem dX9_check_50 : decode cX9_check 50 = .ok (.istore 4, 2) := by decide +kernel
theorem dX9_check_52 : decode cX9_check 52 = .ok (.iload 4, 2) := by decide +kernel
theorem dX9_check_54 : decode cX9_check 54 = .ok (.iload_n 3, 1) := by decide +kernel
theorem dX9_check_55 : decode cX9_check 55 = .ok (.if_icmp .ge 44, 3) := by decide +kernel
theorem dX9_check_58 : decode cX9_check 58 = .ok (.aload_n 0, 1) := by decide +kernel
theorem dX9_check_59 : decode cX9_check 59 = .ok (.getfield 25, 3) := by decide +kernel
theorem dX9_check_62 : decode cX9_check 62 = .ok (.invokevirtual 156, 3) := by decide +kernel
theorem dX9_check_65 : decode cX9_check 65 = .ok (.pop, 1) := by decide +kernel
theorem dX9_check_66 : decode cX9_check 66 = .ok (.aload_n 0, 1) := by decide +kernel
theorem dX9_check_67 : decode cX9_check 67 = .ok (.getfield 25, 3) := by decide +kernel
theorem dX9_check_70 : decode cX9_check 70 = .ok (.getfield 54, 3) := by decide +kernel
theorem dX9_check_73 : decode cX9_check 73 = .ok (.iload_n 1, 1) := by decide +kernel
theorem dX9_check_74 : decode cX9_check 74 = .ok (.iload_n 2, 1) := by decide +kernel
theorem dX9_check_75 : decode cX9_check 75 = .ok (.invokevirtual 251, 3) := by decide +kernel
theorem dX9_check_78 : decode cX9_check 78 = .ok (.aload_n 0, 1) := by decide +kernel
theorem dX9_check_79 : decode cX9_check 79 = .ok (.getfield 42, 3) := by decide +kernel
theorem dX9_check_82 : decode cX9_check 82 = .ok (.iload 4, 2) := by decide +kernel
theorem dX9_check_84 : decode cX9_check 84 = .ok (.iaload, 1) := by decide +kernel
theorem dX9_check_85 : decode cX9_check 85 = .ok (.if_icmp .eq 8, 3) := by decide +kernel
theorem dX9_check_88 : decode cX9_check 88 = .ok (.iconst 1, 1) := by decide +kernel
theorem dX9_check_89 : decode cX9_check 89 = .ok (.iload 4, 2) := by decide +kernel
theorem dX9_check_91 : decode cX9_check 91 = .ok (.iadd, 1) := by decide +kernel
theorem dX9_check_92 : decode cX9_check 92 = .ok (.ireturn, 1) := by decide +kernel
theorem dX9_check_93 : decode cX9_check 93 = .ok (.iinc 4 1, 3) := by decide +kernel
theorem dX9_check_96 : decode cX9_check 96 = .ok (.goto (-44), 3) := by decide +kernel
theorem dX9_check_99 : decode cX9_check 99 = .ok (.iconst 0, 1) := by decide +kernel
theorem dX9_check_100 : decode cX9_check 100 = .ok (.ireturn, 1) := by decide +kernel
theorem dX9_count_0 : decode cX9_count 0 = .ok (.iload_n 1, 1) := by decide +kernel
theorem dX9_count_1 : decode cX9_count 1 = .ok (.tableswitch 147 0 9 #[55, 66, 77, 88, 99, 107, 115, 123, 131, 136], 55) := by decide +kernel
theorem dX9_count_56 : decode cX9_count 56 = .ok (.aload_n 0, 1) := by decide +kernel
theorem dX9_count_57 : decode cX9_count 57 = .ok (.getfield 21, 3) := by decide +kernel
theorem dX9_count_60 : decode cX9_count 60 = .ok (.getfield 54, 3) := by decide +kernel
theorem dX9_count_63 : decode cX9_count 63 = .ok (.getfield 254, 3) := by decide +kernel
theorem dX9_count_66 : decode cX9_count 66 = .ok (.ireturn, 1) := by decide +kernel
theorem dX9_count_67 : decode cX9_count 67 = .ok (.aload_n 0, 1) := by decide +kernel
theorem dX9_count_68 : decode cX9_count 68 = .ok (.getfield 21, 3) := by decide +kernel
theorem dX9_count_71 : decode cX9_count 71 = .ok (.getfield 54, 3) := by decide +kernel
theorem dX9_count_74 : decode cX9_count 74 = .ok (.getfield 257, 3) := by decide +kernel
theorem dX9_count_77 : decode cX9_count 77 = .ok (.ireturn, 1) := by decide +kernel
theorem dX9_count_78 : decode cX9_count 78 = .ok (.aload_n 0, 1) := by decide +kernel
theorem dX9_count_79 : decode cX9_count 79 = .ok (.getfield 21, 3) := by decide +kernel
theorem dX9_count_82 : decode cX9_count 82 = .ok (.getfield 93, 3) := by decide +kernel
theorem dX9_count_85 : decode cX9_count 85 = .ok (.getfield 260, 3) := by decide +kernel
theorem dX9_count_88 : decode cX9_count 88 = .ok (.ireturn, 1) := by decide +kernel
theorem dX9_count_89 : decode cX9_count 89 = .ok (.aload_n 0, 1) := by decide +kernel
theorem dX9_count_90 : decode cX9_count 90 = .ok (.getfield 21, 3) := by decide +kernel
theorem dX9_count_93 : decode cX9_count 93 = .ok (.getfield 111, 3) := by decide +kernel
theorem dX9_count_96 : decode cX9_count 96 = .ok (.getfield 263, 3) := by decide +kernel
theorem dX9_count_99 : decode cX9_count 99 = .ok (.ireturn, 1) := by decide +kernel
theorem dX9_count_100 : decode cX9_count 100 = .ok (.aload_n 0, 1) := by decide +kernel
theorem dX9_count_101 : decode cX9_count 101 = .ok (.getfield 21, 3) := by decide +kernel
theorem dX9_count_104 : decode cX9_count 104 = .ok (.getfield 152, 3) := by decide +kernel
theorem dX9_count_107 : decode cX9_count 107 = .ok (.ireturn, 1) := by decide +kernel
theorem dX9_count_108 : decode cX9_count 108 = .ok (.aload_n 0, 1) := by decide +kernel
theorem dX9_count_109 : decode cX9_count 109 = .ok (.getfield 12, 3) := by decide +kernel
theorem dX9_count_112 : decode cX9_count 112 = .ok (.getfield 181, 3) := by decide +kernel
theorem dX9_count_115 : decode cX9_count 115 = .ok (.ireturn, 1) := by decide +kernel
theorem dX9_count_116 : decode cX9_count 116 = .ok (.aload_n 0, 1) := by decide +kernel
theorem dX9_count_117 : decode cX9_count 117 = .ok (.getfield 38, 3) := by decide +kernel
theorem dX9_count_120 : decode cX9_count 120 = .ok (.getfield 266, 3) := by decide +kernel
theorem dX9_count_123 : decode cX9_count 123 = .ok (.ireturn, 1) := by decide +kernel
theorem dX9_count_124 : decode cX9_count 124 = .ok (.aload_n 0, 1) := by decide +kernel
theorem dX9_count_125 : decode cX9_count 125 = .ok (.getfield 38, 3) := by decide +kernel
theorem dX9_count_128 : decode cX9_count 128 = .ok (.getfield 269, 3) := by decide +kernel
theorem dX9_count_131 : decode cX9_count 131 = .ok (.ireturn, 1) := by decide +kernel
theorem dX9_count_132 : decode cX9_count 132 = .ok (.aload_n 0, 1) := by decide +kernel
theorem dX9_count_133 : decode cX9_count 133 = .ok (.getfield 245, 3) := by decide +kernel
theorem dX9_count_136 : decode cX9_count 136 = .ok (.ireturn, 1) := by decide +kernel
theorem dX9_count_137 : decode cX9_count 137 = .ok (.aload_n 0, 1) := by decide +kernel
theorem dX9_count_138 : decode cX9_count 138 = .ok (.getfield 21, 3) := by decide +kernel
theorem dX9_count_141 : decode cX9_count 141 = .ok (.getfield 93, 3) := by decide +kernel
theorem dX9_count_144 : decode cX9_count 144 = .ok (.invokevirtual 272, 3) := by decide +kernel
theorem dX9_count_147 : decode cX9_count 147 = .ok (.ireturn, 1) := by decide +kernel
theorem dX9_count_148 : decode cX9_count 148 = .ok (.aload_n 0, 1) := by decide +kernel
theorem dX9_count_149 : decode cX9_count 149 = .ok (.ldc 92, 2) := by decide +kernel
theorem dX9_count_151 : decode cX9_count 151 = .ok (.invokevirtual 64, 3) := by decide +kernel
theorem dX9_count_154 : decode cX9_count 154 = .ok (.ireturn, 1) := by decide +kernel
theorem dX9_found_0 : decode cX9_found 0 = .ok (.iload_n 1, 1) := by decide +kernel
theorem dX9_found_1 : decode cX9_found 1 = .ok (.iconst 1, 1) := by decide +kernel
theorem dX9_found_2 : decode cX9_found 2 = .ok (.if_icmp .lt 8, 3) := by decide +kernel
theorem dX9_found_5 : decode cX9_found 5 = .ok (.iload_n 1, 1) := by decide +kernel
theorem dX9_found_6 : decode cX9_found 6 = .ok (.iconst 5, 1) := by decide +kernel
theorem dX9_found_7 : decode cX9_found 7 = .ok (.if_icmp .le 10, 3) := by decide +kernel
theorem dX9_found_10 : decode cX9_found 10 = .ok (.aload_n 0, 1) := by decide +kernel
theorem dX9_found_11 : decode cX9_found 11 = .ok (.ldc 92, 2) := by decide +kernel
theorem dX9_found_13 : decode cX9_found 13 = .ok (.invokevirtual 64, 3) := by decide +kernel
theorem dX9_found_16 : decode cX9_found 16 = .ok (.ireturn, 1) := by decide +kernel
theorem dX9_found_17 : decode cX9_found 17 = .ok (.aload_n 0, 1) := by decide +kernel
theorem dX9_found_18 : decode cX9_found 18 = .ok (.getfield 46, 3) := by decide +kernel
theorem dX9_found_21 : decode cX9_found 21 = .ok (.iload_n 1, 1) := by decide +kernel
theorem dX9_found_22 : decode cX9_found 22 = .ok (.iaload, 1) := by decide +kernel
theorem dX9_found_23 : decode cX9_found 23 = .ok (.ireturn, 1) := by decide +kernel
theorem dX9_counted_0 : decode cX9_counted 0 = .ok (.iload_n 1, 1) := by decide +kernel
theorem dX9_counted_1 : decode cX9_counted 1 = .ok (.ldc_w 275, 3) := by decide +kernel
theorem dX9_counted_4 : decode cX9_counted 4 = .ok (.if_icmp .ge 24, 3) := by decide +kernel
theorem dX9_counted_7 : decode cX9_counted 7 = .ok (.iload_n 1, 1) := by decide +kernel
theorem dX9_counted_8 : decode cX9_counted 8 = .ok (.ldc_w 276, 3) := by decide +kernel
theorem dX9_counted_11 : decode cX9_counted 11 = .ok (.if_icmp .lt 17, 3) := by decide +kernel
theorem dX9_counted_14 : decode cX9_counted 14 = .ok (.aload_n 0, 1) := by decide +kernel
theorem dX9_counted_15 : decode cX9_counted 15 = .ok (.getfield 46, 3) := by decide +kernel
theorem dX9_counted_18 : decode cX9_counted 18 = .ok (.ldc_w 275, 3) := by decide +kernel
theorem dX9_counted_21 : decode cX9_counted 21 = .ok (.iload_n 1, 1) := by decide +kernel
theorem dX9_counted_22 : decode cX9_counted 22 = .ok (.isub, 1) := by decide +kernel
theorem dX9_counted_23 : decode cX9_counted 23 = .ok (.dup2, 1) := by decide +kernel
theorem dX9_counted_24 : decode cX9_counted 24 = .ok (.iaload, 1) := by decide +kernel
theorem dX9_counted_25 : decode cX9_counted 25 = .ok (.iconst 1, 1) := by decide +kernel
theorem dX9_counted_26 : decode cX9_counted 26 = .ok (.iadd, 1) := by decide +kernel
theorem dX9_counted_27 : decode cX9_counted 27 = .ok (.iastore, 1) := by decide +kernel
theorem dX9_counted_28 : decode cX9_counted 28 = .ok (.iload_n 1, 1) := by decide +kernel
theorem dX9_counted_29 : decode cX9_counted 29 = .ok (.ireturn, 1) := by decide +kernel
theorem dX9_setMass_0 : decode cX9_setMass 0 = .ok (.iload_n 1, 1) := by decide +kernel
theorem dX9_setMass_1 : decode cX9_setMass 1 = .ok (.ldc_w 275, 3) := by decide +kernel
theorem dX9_setMass_4 : decode cX9_setMass 4 = .ok (.if_icmp .eq 13, 3) := by decide +kernel
theorem dX9_setMass_7 : decode cX9_setMass 7 = .ok (.iload_n 1, 1) := by decide +kernel
theorem dX9_setMass_8 : decode cX9_setMass 8 = .ok (.invokestatic 235, 3) := by decide +kernel
theorem dX9_setMass_11 : decode cX9_setMass 11 = .ok (.ifCond .ne 6, 3) := by decide +kernel
theorem dX9_setMass_14 : decode cX9_setMass 14 = .ok (.ldc 92, 2) := by decide +kernel
theorem dX9_setMass_16 : decode cX9_setMass 16 = .ok (.ireturn, 1) := by decide +kernel
theorem dX9_setMass_17 : decode cX9_setMass 17 = .ok (.aload_n 0, 1) := by decide +kernel
theorem dX9_setMass_18 : decode cX9_setMass 18 = .ok (.getfield 50, 3) := by decide +kernel
theorem dX9_setMass_21 : decode cX9_setMass 21 = .ok (.istore_n 2, 1) := by decide +kernel
theorem dX9_setMass_22 : decode cX9_setMass 22 = .ok (.iload_n 1, 1) := by decide +kernel
theorem dX9_setMass_23 : decode cX9_setMass 23 = .ok (.ldc_w 275, 3) := by decide +kernel
theorem dX9_setMass_26 : decode cX9_setMass 26 = .ok (.if_icmp .eq 8, 3) := by decide +kernel
theorem dX9_setMass_29 : decode cX9_setMass 29 = .ok (.aload_n 0, 1) := by decide +kernel
theorem dX9_setMass_30 : decode cX9_setMass 30 = .ok (.iload_n 1, 1) := by decide +kernel
theorem dX9_setMass_31 : decode cX9_setMass 31 = .ok (.putfield 50, 3) := by decide +kernel
theorem dX9_setMass_34 : decode cX9_setMass 34 = .ok (.iload_n 2, 1) := by decide +kernel
theorem dX9_setMass_35 : decode cX9_setMass 35 = .ok (.ireturn, 1) := by decide +kernel
theorem dX9_setSpeed_0 : decode cX9_setSpeed 0 = .ok (.iload_n 1, 1) := by decide +kernel
theorem dX9_setSpeed_1 : decode cX9_setSpeed 1 = .ok (.ldc_w 275, 3) := by decide +kernel
theorem dX9_setSpeed_4 : decode cX9_setSpeed 4 = .ok (.if_icmp .eq 13, 3) := by decide +kernel
theorem dX9_setSpeed_7 : decode cX9_setSpeed 7 = .ok (.iload_n 1, 1) := by decide +kernel
theorem dX9_setSpeed_8 : decode cX9_setSpeed 8 = .ok (.invokestatic 238, 3) := by decide +kernel
theorem dX9_setSpeed_11 : decode cX9_setSpeed 11 = .ok (.ifCond .ne 6, 3) := by decide +kernel
theorem dX9_setSpeed_14 : decode cX9_setSpeed 14 = .ok (.ldc 92, 2) := by decide +kernel
theorem dX9_setSpeed_16 : decode cX9_setSpeed 16 = .ok (.ireturn, 1) := by decide +kernel
theorem dX9_setSpeed_17 : decode cX9_setSpeed 17 = .ok (.aload_n 0, 1) := by decide +kernel
theorem dX9_setSpeed_18 : decode cX9_setSpeed 18 = .ok (.getfield 242, 3) := by decide +kernel
theorem dX9_setSpeed_21 : decode cX9_setSpeed 21 = .ok (.istore_n 2, 1) := by decide +kernel
theorem dX9_setSpeed_22 : decode cX9_setSpeed 22 = .ok (.iload_n 1, 1) := by decide +kernel
theorem dX9_setSpeed_23 : decode cX9_setSpeed 23 = .ok (.ldc_w 275, 3) := by decide +kernel
theorem dX9_setSpeed_26 : decode cX9_setSpeed 26 = .ok (.if_icmp .eq 8, 3) := by decide +kernel
theorem dX9_setSpeed_29 : decode cX9_setSpeed 29 = .ok (.aload_n 0, 1) := by decide +kernel
theorem dX9_setSpeed_30 : decode cX9_setSpeed 30 = .ok (.iload_n 1, 1) := by decide +kernel
theorem dX9_setSpeed_31 : decode cX9_setSpeed 31 = .ok (.putfield 242, 3) := by decide +kernel
theorem dX9_setSpeed_34 : decode cX9_setSpeed 34 = .ok (.iload_n 2, 1) := by decide +kernel
theorem dX9_setSpeed_35 : decode cX9_setSpeed 35 = .ok (.ireturn, 1) := by decide +kernel
theorem dX9_isMass_0 : decode cX9_isMass 0 = .ok (.iload_n 0, 1) := by decide +kernel
theorem dX9_isMass_1 : decode cX9_isMass 1 = .ok (.iconst 1, 1) := by decide +kernel
theorem dX9_isMass_2 : decode cX9_isMass 2 = .ok (.if_icmp .lt 13, 3) := by decide +kernel
theorem dX9_isMass_5 : decode cX9_isMass 5 = .ok (.iload_n 0, 1) := by decide +kernel
theorem dX9_isMass_6 : decode cX9_isMass 6 = .ok (.ldc 241, 2) := by decide +kernel
theorem dX9_isMass_8 : decode cX9_isMass 8 = .ok (.if_icmp .gt 7, 3) := by decide +kernel
theorem dX9_isMass_11 : decode cX9_isMass 11 = .ok (.iconst 1, 1) := by decide +kernel
theorem dX9_isMass_12 : decode cX9_isMass 12 = .ok (.goto 4, 3) := by decide +kernel
theorem dX9_isMass_15 : decode cX9_isMass 15 = .ok (.iconst 0, 1) := by decide +kernel
theorem dX9_isMass_16 : decode cX9_isMass 16 = .ok (.ireturn, 1) := by decide +kernel
theorem dX9_isSpeed_0 : decode cX9_isSpeed 0 = .ok (.iload_n 0, 1) := by decide +kernel
theorem dX9_isSpeed_1 : decode cX9_isSpeed 1 = .ok (.sipush (-1000), 3) := by decide +kernel
theorem dX9_isSpeed_4 : decode cX9_isSpeed 4 = .ok (.if_icmp .lt 14, 3) := by decide +kernel
theorem dX9_isSpeed_7 : decode cX9_isSpeed 7 = .ok (.iload_n 0, 1) := by decide +kernel
theorem dX9_isSpeed_8 : decode cX9_isSpeed 8 = .ok (.sipush 1000, 3) := by decide +kernel
theorem dX9_isSpeed_11 : decode cX9_isSpeed 11 = .ok (.if_icmp .gt 7, 3) := by decide +kernel
theorem dX9_isSpeed_14 : decode cX9_isSpeed 14 = .ok (.iconst 1, 1) := by decide +kernel
theorem dX9_isSpeed_15 : decode cX9_isSpeed 15 = .ok (.goto 4, 3) := by decide +kernel
theorem dX9_isSpeed_18 : decode cX9_isSpeed 18 = .ok (.iconst 0, 1) := by decide +kernel
theorem dX9_isSpeed_19 : decode cX9_isSpeed 19 = .ok (.ireturn, 1) := by decide +kernel
theorem dX9_isSwitch_0 : decode cX9_isSwitch 0 = .ok (.iload_n 0, 1) := by decide +kernel
theorem dX9_isSwitch_1 : decode cX9_isSwitch 1 = .ok (.ifCond .eq 8, 3) := by decide +kernel
theorem dX9_isSwitch_4 : decode cX9_isSwitch 4 = .ok (.iload_n 0, 1) := by decide +kernel
theorem dX9_isSwitch_5 : decode cX9_isSwitch 5 = .ok (.iconst 1, 1) := by decide +kernel
theorem dX9_isSwitch_6 : decode cX9_isSwitch 6 = .ok (.if_icmp .ne 7, 3) := by decide +kernel
theorem dX9_isSwitch_9 : decode cX9_isSwitch 9 = .ok (.iconst 1, 1) := by decide +kernel
theorem dX9_isSwitch_10 : decode cX9_isSwitch 10 = .ok (.goto 4, 3) := by decide +kernel
theorem dX9_isSwitch_13 : decode cX9_isSwitch 13 = .ok (.iconst 0, 1) := by decide +kernel
theorem dX9_isSwitch_14 : decode cX9_isSwitch 14 = .ok (.ireturn, 1) := by decide +kernel
theorem dX9_one_0 : decode cX9_one 0 = .ok (.iload_n 0, 1) := by decide +kernel
theorem dX9_one_1 : decode cX9_one 1 = .ok (.ifCond .eq 7, 3) := by decide +kernel
theorem dX9_one_4 : decode cX9_one 4 = .ok (.iconst 1, 1) := by decide +kernel
theorem dX9_one_5 : decode cX9_one 5 = .ok (.goto 4, 3) := by decide +kernel
theorem dX9_one_8 : decode cX9_one 8 = .ok (.iconst 0, 1) := by decide +kernel
theorem dX9_one_9 : decode cX9_one 9 = .ok (.ireturn, 1) := by decide +kernel
theorem dX9_copy_0 : decode cX9_copy 0 = .ok (.aload_n 0, 1) := by decide +kernel
theorem dX9_copy_1 : decode cX9_copy 1 = .ok (.iconst 0, 1) := by decide +kernel
theorem dX9_copy_2 : decode cX9_copy 2 = .ok (.aload_n 1, 1) := by decide +kernel
theorem dX9_copy_3 : decode cX9_copy 3 = .ok (.iconst 0, 1) := by decide +kernel
theorem dX9_copy_4 : decode cX9_copy 4 = .ok (.aload_n 0, 1) := by decide +kernel
theorem dX9_copy_5 : decode cX9_copy 5 = .ok (.arraylength, 1) := by decide +kernel
theorem dX9_copy_6 : decode cX9_copy 6 = .ok (.aload_n 1, 1) := by decide +kernel
theorem dX9_copy_7 : decode cX9_copy 7 = .ok (.arraylength, 1) := by decide +kernel
theorem dX9_copy_8 : decode cX9_copy 8 = .ok (.invokestatic 277, 3) := by decide +kernel
theorem dX9_copy_11 : decode cX9_copy 11 = .ok (.invokestatic 282, 3) := by decide +kernel
theorem dX9_copy_14 : decode cX9_copy 14 = .ok (.return_, 1) := by decide +kernel
theorem dX9_copyFlags_0 : decode cX9_copyFlags 0 = .ok (.iconst 0, 1) := by decide +kernel
theorem dX9_copyFlags_1 : decode cX9_copyFlags 1 = .ok (.istore_n 2, 1) := by decide +kernel
theorem dX9_copyFlags_2 : decode cX9_copyFlags 2 = .ok (.iload_n 2, 1) := by decide +kernel
theorem dX9_copyFlags_3 : decode cX9_copyFlags 3 = .ok (.aload_n 0, 1) := by decide +kernel
theorem dX9_copyFlags_4 : decode cX9_copyFlags 4 = .ok (.arraylength, 1) := by decide +kernel
theorem dX9_copyFlags_5 : decode cX9_copyFlags 5 = .ok (.if_icmp .ge 21, 3) := by decide +kernel
theorem dX9_copyFlags_8 : decode cX9_copyFlags 8 = .ok (.iload_n 2, 1) := by decide +kernel
theorem dX9_copyFlags_9 : decode cX9_copyFlags 9 = .ok (.aload_n 1, 1) := by decide +kernel
theorem dX9_copyFlags_10 : decode cX9_copyFlags 10 = .ok (.arraylength, 1) := by decide +kernel
theorem dX9_copyFlags_11 : decode cX9_copyFlags 11 = .ok (.if_icmp .ge 15, 3) := by decide +kernel
theorem dX9_copyFlags_14 : decode cX9_copyFlags 14 = .ok (.aload_n 1, 1) := by decide +kernel
theorem dX9_copyFlags_15 : decode cX9_copyFlags 15 = .ok (.iload_n 2, 1) := by decide +kernel
theorem dX9_copyFlags_16 : decode cX9_copyFlags 16 = .ok (.aload_n 0, 1) := by decide +kernel
theorem dX9_copyFlags_17 : decode cX9_copyFlags 17 = .ok (.iload_n 2, 1) := by decide +kernel
theorem dX9_copyFlags_18 : decode cX9_copyFlags 18 = .ok (.baload, 1) := by decide +kernel
theorem dX9_copyFlags_19 : decode cX9_copyFlags 19 = .ok (.bastore, 1) := by decide +kernel
theorem dX9_copyFlags_20 : decode cX9_copyFlags 20 = .ok (.iinc 2 1, 3) := by decide +kernel
theorem dX9_copyFlags_23 : decode cX9_copyFlags 23 = .ok (.goto (-21), 3) := by decide +kernel
theorem dX9_copyFlags_26 : decode cX9_copyFlags 26 = .ok (.return_, 1) := by decide +kernel
