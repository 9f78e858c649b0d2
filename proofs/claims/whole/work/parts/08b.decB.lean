/-! ===== what each instruction is ===== -/
theorem dX4_init_0 : decode cX4_init 0 = .ok (.aload_n 0, 1) := by decide +kernel
theorem dX4_init_1 : decode cX4_init 1 = .ok (.invokespecial 1, 3) := by decide +kernel
theorem dX4_init_4 : decode cX4_init 4 = .ok (.aload_n 0, 1) := by decide +kernel
theorem dX4_init_5 : decode cX4_init 5 = .ok (.new 7, 3) := by decide +kernel
theorem dX4_init_8 : decode cX4_init 8 = .ok (.dup, 1) := by decide +kernel
theorem dX4_init_9 : decode cX4_init 9 = .ok (.invokespecial 9, 3) := by decide +kernel
theorem dX4_init_12 : decode cX4_init 12 = .ok (.putfield 10, 3) := by decide +kernel
theorem dX4_init_15 : decode cX4_init 15 = .ok (.aload_n 0, 1) := by decide +kernel
theorem dX4_init_16 : decode cX4_init 16 = .ok (.new 7, 3) := by decide +kernel
theorem dX4_init_19 : decode cX4_init 19 = .ok (.dup, 1) := by decide +kernel
theorem dX4_init_20 : decode cX4_init 20 = .ok (.invokespecial 9, 3) := by decide +kernel
theorem dX4_init_23 : decode cX4_init 23 = .ok (.putfield 16, 3) := by decide +kernel
theorem dX4_init_26 : decode cX4_init 26 = .ok (.aload_n 0, 1) := by decide +kernel
theorem dX4_init_27 : decode cX4_init 27 = .ok (.iconst 2, 1) := by decide +kernel
theorem dX4_init_28 : decode cX4_init 28 = .ok (.anewarray 7, 3) := by decide +kernel
theorem dX4_init_31 : decode cX4_init 31 = .ok (.putfield 19, 3) := by decide +kernel
theorem dX4_init_34 : decode cX4_init 34 = .ok (.aload_n 0, 1) := by decide +kernel
theorem dX4_init_35 : decode cX4_init 35 = .ok (.new 23, 3) := by decide +kernel
theorem dX4_init_38 : decode cX4_init 38 = .ok (.dup, 1) := by decide +kernel
theorem dX4_init_39 : decode cX4_init 39 = .ok (.invokespecial 25, 3) := by decide +kernel
theorem dX4_init_42 : decode cX4_init 42 = .ok (.putfield 26, 3) := by decide +kernel
theorem dX4_init_45 : decode cX4_init 45 = .ok (.aload_n 0, 1) := by decide +kernel
theorem dX4_init_46 : decode cX4_init 46 = .ok (.new 23, 3) := by decide +kernel
theorem dX4_init_49 : decode cX4_init 49 = .ok (.dup, 1) := by decide +kernel
theorem dX4_init_50 : decode cX4_init 50 = .ok (.invokespecial 25, 3) := by decide +kernel
theorem dX4_init_53 : decode cX4_init 53 = .ok (.putfield 30, 3) := by decide +kernel
theorem dX4_init_56 : decode cX4_init 56 = .ok (.aload_n 0, 1) := by decide +kernel
theorem dX4_init_57 : decode cX4_init 57 = .ok (.new 33, 3) := by decide +kernel
theorem dX4_init_60 : decode cX4_init 60 = .ok (.dup, 1) := by decide +kernel
theorem dX4_init_61 : decode cX4_init 61 = .ok (.invokespecial 35, 3) := by decide +kernel
theorem dX4_init_64 : decode cX4_init 64 = .ok (.putfield 36, 3) := by decide +kernel
theorem dX4_init_67 : decode cX4_init 67 = .ok (.aload_n 0, 1) := by decide +kernel
theorem dX4_init_68 : decode cX4_init 68 = .ok (.new 40, 3) := by decide +kernel
theorem dX4_init_71 : decode cX4_init 71 = .ok (.dup, 1) := by decide +kernel
theorem dX4_init_72 : decode cX4_init 72 = .ok (.invokespecial 42, 3) := by decide +kernel
theorem dX4_init_75 : decode cX4_init 75 = .ok (.putfield 43, 3) := by decide +kernel
theorem dX4_init_78 : decode cX4_init 78 = .ok (.aload_n 0, 1) := by decide +kernel
theorem dX4_init_79 : decode cX4_init 79 = .ok (.bipush 90, 2) := by decide +kernel
theorem dX4_init_81 : decode cX4_init 81 = .ok (.newarray .int, 2) := by decide +kernel
theorem dX4_init_83 : decode cX4_init 83 = .ok (.putfield 47, 3) := by decide +kernel
theorem dX4_init_86 : decode cX4_init 86 = .ok (.aload_n 0, 1) := by decide +kernel
theorem dX4_init_87 : decode cX4_init 87 = .ok (.iconst 3, 1) := by decide +kernel
theorem dX4_init_88 : decode cX4_init 88 = .ok (.newarray .int, 2) := by decide +kernel
theorem dX4_init_90 : decode cX4_init 90 = .ok (.putfield 51, 3) := by decide +kernel
theorem dX4_init_93 : decode cX4_init 93 = .ok (.aload_n 0, 1) := by decide +kernel
theorem dX4_init_94 : decode cX4_init 94 = .ok (.sipush 375, 3) := by decide +kernel
theorem dX4_init_97 : decode cX4_init 97 = .ok (.newarray .int, 2) := by decide +kernel
theorem dX4_init_99 : decode cX4_init 99 = .ok (.putfield 54, 3) := by decide +kernel
theorem dX4_init_102 : decode cX4_init 102 = .ok (.aload_n 0, 1) := by decide +kernel
theorem dX4_init_103 : decode cX4_init 103 = .ok (.sipush 450, 3) := by decide +kernel
theorem dX4_init_106 : decode cX4_init 106 = .ok (.newarray .int, 2) := by decide +kernel
theorem dX4_init_108 : decode cX4_init 108 = .ok (.putfield 57, 3) := by decide +kernel
theorem dX4_init_111 : decode cX4_init 111 = .ok (.return_, 1) := by decide +kernel
theorem dX4_farms_0 : decode cX4_farms 0 = .ok (.iload_n 1, 1) := by decide +kernel
theorem dX4_farms_1 : decode cX4_farms 1 = .ok (.iconst 1, 1) := by decide +kernel
theorem dX4_farms_2 : decode cX4_farms 2 = .ok (.if_icmp .lt 9, 3) := by decide +kernel
theorem dX4_farms_5 : decode cX4_farms 5 = .ok (.iload_n 1, 1) := by decide +kernel
theorem dX4_farms_6 : decode cX4_farms 6 = .ok (.bipush 9, 2) := by decide +kernel
theorem dX4_farms_8 : decode cX4_farms 8 = .ok (.if_icmp .le 6, 3) := by decide +kernel
theorem dX4_farms_11 : decode cX4_farms 11 = .ok (.bipush (-2), 2) := by decide +kernel
theorem dX4_farms_13 : decode cX4_farms 13 = .ok (.ireturn, 1) := by decide +kernel
theorem dX4_farms_14 : decode cX4_farms 14 = .ok (.aload_n 0, 1) := by decide +kernel
theorem dX4_farms_15 : decode cX4_farms 15 = .ok (.getfield 10, 3) := by decide +kernel
theorem dX4_farms_18 : decode cX4_farms 18 = .ok (.getfield 60, 3) := by decide +kernel
theorem dX4_farms_21 : decode cX4_farms 21 = .ok (.istore_n 2, 1) := by decide +kernel
theorem dX4_farms_22 : decode cX4_farms 22 = .ok (.aload_n 0, 1) := by decide +kernel
theorem dX4_farms_23 : decode cX4_farms 23 = .ok (.getfield 10, 3) := by decide +kernel
theorem dX4_farms_26 : decode cX4_farms 26 = .ok (.iload_n 1, 1) := by decide +kernel
theorem dX4_farms_27 : decode cX4_farms 27 = .ok (.invokevirtual 64, 3) := by decide +kernel
theorem dX4_farms_30 : decode cX4_farms 30 = .ok (.iload_n 2, 1) := by decide +kernel
theorem dX4_farms_31 : decode cX4_farms 31 = .ok (.ireturn, 1) := by decide +kernel
theorem dX4_farm_0 : decode cX4_farm 0 = .ok (.aload_n 0, 1) := by decide +kernel
theorem dX4_farm_1 : decode cX4_farm 1 = .ok (.getfield 10, 3) := by decide +kernel
theorem dX4_farm_4 : decode cX4_farm 4 = .ok (.iload_n 1, 1) := by decide +kernel
theorem dX4_farm_5 : decode cX4_farm 5 = .ok (.invokevirtual 68, 3) := by decide +kernel
theorem dX4_farm_8 : decode cX4_farm 8 = .ok (.ifCond .ne 5, 3) := by decide +kernel
theorem dX4_farm_11 : decode cX4_farm 11 = .ok (.iconst (-1), 1) := by decide +kernel
theorem dX4_farm_12 : decode cX4_farm 12 = .ok (.ireturn, 1) := by decide +kernel
theorem dX4_farm_13 : decode cX4_farm 13 = .ok (.iload_n 2, 1) := by decide +kernel
theorem dX4_farm_14 : decode cX4_farm 14 = .ok (.bipush 6, 2) := by decide +kernel
theorem dX4_farm_16 : decode cX4_farm 16 = .ok (.invokestatic 72, 3) := by decide +kernel
theorem dX4_farm_19 : decode cX4_farm 19 = .ok (.ifCond .eq 15, 3) := by decide +kernel
theorem dX4_farm_22 : decode cX4_farm 22 = .ok (.iload_n 3, 1) := by decide +kernel
theorem dX4_farm_23 : decode cX4_farm 23 = .ok (.getstatic 76, 3) := by decide +kernel
theorem dX4_farm_26 : decode cX4_farm 26 = .ok (.iload_n 2, 1) := by decide +kernel
theorem dX4_farm_27 : decode cX4_farm 27 = .ok (.iaload, 1) := by decide +kernel
theorem dX4_farm_28 : decode cX4_farm 28 = .ok (.invokestatic 72, 3) := by decide +kernel
theorem dX4_farm_31 : decode cX4_farm 31 = .ok (.ifCond .ne 6, 3) := by decide +kernel
theorem dX4_farm_34 : decode cX4_farm 34 = .ok (.bipush (-2), 2) := by decide +kernel
theorem dX4_farm_36 : decode cX4_farm 36 = .ok (.ireturn, 1) := by decide +kernel
theorem dX4_farm_37 : decode cX4_farm 37 = .ok (.aload_n 0, 1) := by decide +kernel
theorem dX4_farm_38 : decode cX4_farm 38 = .ok (.getfield 10, 3) := by decide +kernel
theorem dX4_farm_41 : decode cX4_farm 41 = .ok (.iload_n 1, 1) := by decide +kernel
theorem dX4_farm_42 : decode cX4_farm 42 = .ok (.iload_n 2, 1) := by decide +kernel
theorem dX4_farm_43 : decode cX4_farm 43 = .ok (.invokevirtual 79, 3) := by decide +kernel
theorem dX4_farm_46 : decode cX4_farm 46 = .ok (.istore 4, 2) := by decide +kernel
theorem dX4_farm_48 : decode cX4_farm 48 = .ok (.aload_n 0, 1) := by decide +kernel
theorem dX4_farm_49 : decode cX4_farm 49 = .ok (.getfield 10, 3) := by decide +kernel
theorem dX4_farm_52 : decode cX4_farm 52 = .ok (.iload_n 1, 1) := by decide +kernel
theorem dX4_farm_53 : decode cX4_farm 53 = .ok (.iload_n 2, 1) := by decide +kernel
theorem dX4_farm_54 : decode cX4_farm 54 = .ok (.iload_n 3, 1) := by decide +kernel
theorem dX4_farm_55 : decode cX4_farm 55 = .ok (.invokevirtual 83, 3) := by decide +kernel
theorem dX4_farm_58 : decode cX4_farm 58 = .ok (.iload 4, 2) := by decide +kernel
theorem dX4_farm_60 : decode cX4_farm 60 = .ok (.ireturn, 1) := by decide +kernel
theorem dX4_set_0 : decode cX4_set 0 = .ok (.iload_n 1, 1) := by decide +kernel
theorem dX4_set_1 : decode cX4_set 1 = .ok (.iconst 2, 1) := by decide +kernel
theorem dX4_set_2 : decode cX4_set 2 = .ok (.invokestatic 72, 3) := by decide +kernel
theorem dX4_set_5 : decode cX4_set 5 = .ok (.ifCond .eq 15, 3) := by decide +kernel
theorem dX4_set_8 : decode cX4_set 8 = .ok (.iload_n 2, 1) := by decide +kernel
theorem dX4_set_9 : decode cX4_set 9 = .ok (.getstatic 87, 3) := by decide +kernel
theorem dX4_set_12 : decode cX4_set 12 = .ok (.iload_n 1, 1) := by decide +kernel
theorem dX4_set_13 : decode cX4_set 13 = .ok (.iaload, 1) := by decide +kernel
theorem dX4_set_14 : decode cX4_set 14 = .ok (.invokestatic 72, 3) := by decide +kernel
theorem dX4_set_17 : decode cX4_set 17 = .ok (.ifCond .ne 6, 3) := by decide +kernel
theorem dX4_set_20 : decode cX4_set 20 = .ok (.bipush (-2), 2) := by decide +kernel
theorem dX4_set_22 : decode cX4_set 22 = .ok (.ireturn, 1) := by decide +kernel
theorem dX4_set_23 : decode cX4_set 23 = .ok (.aload_n 0, 1) := by decide +kernel
theorem dX4_set_24 : decode cX4_set 24 = .ok (.getfield 10, 3) := by decide +kernel
theorem dX4_set_27 : decode cX4_set 27 = .ok (.getfield 90, 3) := by decide +kernel
theorem dX4_set_30 : decode cX4_set 30 = .ok (.iload_n 1, 1) := by decide +kernel
theorem dX4_set_31 : decode cX4_set 31 = .ok (.iaload, 1) := by decide +kernel
theorem dX4_set_32 : decode cX4_set 32 = .ok (.istore_n 3, 1) := by decide +kernel
theorem dX4_set_33 : decode cX4_set 33 = .ok (.aload_n 0, 1) := by decide +kernel
theorem dX4_set_34 : decode cX4_set 34 = .ok (.getfield 10, 3) := by decide +kernel
theorem dX4_set_37 : decode cX4_set 37 = .ok (.getfield 90, 3) := by decide +kernel
theorem dX4_set_40 : decode cX4_set 40 = .ok (.iload_n 1, 1) := by decide +kernel
theorem dX4_set_41 : decode cX4_set 41 = .ok (.iload_n 2, 1) := by decide +kernel
theorem dX4_set_42 : decode cX4_set 42 = .ok (.iastore, 1) := by decide +kernel
theorem dX4_set_43 : decode cX4_set 43 = .ok (.iload_n 3, 1) := by decide +kernel
theorem dX4_set_44 : decode cX4_set 44 = .ok (.ireturn, 1) := by decide +kernel
theorem dX4_say_0 : decode cX4_say 0 = .ok (.iload_n 1, 1) := by decide +kernel
theorem dX4_say_1 : decode cX4_say 1 = .ok (.bipush 33, 2) := by decide +kernel
theorem dX4_say_3 : decode cX4_say 3 = .ok (.if_icmp .lt 9, 3) := by decide +kernel
theorem dX4_say_6 : decode cX4_say 6 = .ok (.iload_n 1, 1) := by decide +kernel
theorem dX4_say_7 : decode cX4_say 7 = .ok (.bipush 126, 2) := by decide +kernel
theorem dX4_say_9 : decode cX4_say 9 = .ok (.if_icmp .le 6, 3) := by decide +kernel
theorem dX4_say_12 : decode cX4_say 12 = .ok (.bipush (-2), 2) := by decide +kernel
theorem dX4_say_14 : decode cX4_say 14 = .ok (.ireturn, 1) := by decide +kernel
theorem dX4_say_15 : decode cX4_say 15 = .ok (.aload_n 0, 1) := by decide +kernel
theorem dX4_say_16 : decode cX4_say 16 = .ok (.getfield 36, 3) := by decide +kernel
theorem dX4_say_19 : decode cX4_say 19 = .ok (.getfield 93, 3) := by decide +kernel
theorem dX4_say_22 : decode cX4_say 22 = .ok (.bipush 60, 2) := by decide +kernel
theorem dX4_say_24 : decode cX4_say 24 = .ok (.if_icmp .lt 6, 3) := by decide +kernel
theorem dX4_say_27 : decode cX4_say 27 = .ok (.bipush (-4), 2) := by decide +kernel
theorem dX4_say_29 : decode cX4_say 29 = .ok (.ireturn, 1) := by decide +kernel
theorem dX4_say_30 : decode cX4_say 30 = .ok (.aload_n 0, 1) := by decide +kernel
theorem dX4_say_31 : decode cX4_say 31 = .ok (.getfield 36, 3) := by decide +kernel
theorem dX4_say_34 : decode cX4_say 34 = .ok (.iload_n 1, 1) := by decide +kernel
theorem dX4_say_35 : decode cX4_say 35 = .ok (.invokevirtual 96, 3) := by decide +kernel
theorem dX4_say_38 : decode cX4_say 38 = .ok (.aload_n 0, 1) := by decide +kernel
theorem dX4_say_39 : decode cX4_say 39 = .ok (.getfield 36, 3) := by decide +kernel
theorem dX4_say_42 : decode cX4_say 42 = .ok (.getfield 93, 3) := by decide +kernel
theorem dX4_say_45 : decode cX4_say 45 = .ok (.ireturn, 1) := by decide +kernel
theorem dX4_wipe_0 : decode cX4_wipe 0 = .ok (.aload_n 0, 1) := by decide +kernel
theorem dX4_wipe_1 : decode cX4_wipe 1 = .ok (.getfield 36, 3) := by decide +kernel
theorem dX4_wipe_4 : decode cX4_wipe 4 = .ok (.getfield 93, 3) := by decide +kernel
theorem dX4_wipe_7 : decode cX4_wipe 7 = .ok (.istore_n 1, 1) := by decide +kernel
theorem dX4_wipe_8 : decode cX4_wipe 8 = .ok (.aload_n 0, 1) := by decide +kernel
theorem dX4_wipe_9 : decode cX4_wipe 9 = .ok (.getfield 36, 3) := by decide +kernel
theorem dX4_wipe_12 : decode cX4_wipe 12 = .ok (.iconst 0, 1) := by decide +kernel
theorem dX4_wipe_13 : decode cX4_wipe 13 = .ok (.putfield 93, 3) := by decide +kernel
theorem dX4_wipe_16 : decode cX4_wipe 16 = .ok (.iload_n 1, 1) := by decide +kernel
theorem dX4_wipe_17 : decode cX4_wipe 17 = .ok (.ireturn, 1) := by decide +kernel
theorem dX4_fault_0 : decode cX4_fault 0 = .ok (.aload_n 0, 1) := by decide +kernel
theorem dX4_fault_1 : decode cX4_fault 1 = .ok (.getfield 36, 3) := by decide +kernel
theorem dX4_fault_4 : decode cX4_fault 4 = .ok (.aload_n 0, 1) := by decide +kernel
theorem dX4_fault_5 : decode cX4_fault 5 = .ok (.getfield 10, 3) := by decide +kernel
theorem dX4_fault_8 : decode cX4_fault 8 = .ok (.getfield 60, 3) := by decide +kernel
theorem dX4_fault_11 : decode cX4_fault 11 = .ok (.invokevirtual 99, 3) := by decide +kernel
theorem dX4_fault_14 : decode cX4_fault 14 = .ok (.ireturn, 1) := by decide +kernel
theorem dX4_judge_0 : decode cX4_judge 0 = .ok (.iload_n 1, 1) := by decide +kernel
theorem dX4_judge_1 : decode cX4_judge 1 = .ok (.iconst 2, 1) := by decide +kernel
theorem dX4_judge_2 : decode cX4_judge 2 = .ok (.invokestatic 72, 3) := by decide +kernel
theorem dX4_judge_5 : decode cX4_judge 5 = .ok (.ifCond .ne 6, 3) := by decide +kernel
theorem dX4_judge_8 : decode cX4_judge 8 = .ok (.bipush (-2), 2) := by decide +kernel
theorem dX4_judge_10 : decode cX4_judge 10 = .ok (.ireturn, 1) := by decide +kernel
theorem dX4_judge_11 : decode cX4_judge 11 = .ok (.aload_n 0, 1) := by decide +kernel
theorem dX4_judge_12 : decode cX4_judge 12 = .ok (.invokevirtual 103, 3) := by decide +kernel
theorem dX4_judge_15 : decode cX4_judge 15 = .ok (.istore_n 2, 1) := by decide +kernel
theorem dX4_judge_16 : decode cX4_judge 16 = .ok (.iload_n 2, 1) := by decide +kernel
theorem dX4_judge_17 : decode cX4_judge 17 = .ok (.bipush (-5), 2) := by decide +kernel
theorem dX4_judge_19 : decode cX4_judge 19 = .ok (.if_icmp .ne 6, 3) := by decide +kernel
theorem dX4_judge_22 : decode cX4_judge 22 = .ok (.bipush (-5), 2) := by decide +kernel
theorem dX4_judge_24 : decode cX4_judge 24 = .ok (.ireturn, 1) := by decide +kernel
theorem dX4_judge_25 : decode cX4_judge 25 = .ok (.iload_n 1, 1) := by decide +kernel
theorem dX4_judge_26 : decode cX4_judge 26 = .ok (.ifCond .ne 11, 3) := by decide +kernel
theorem dX4_judge_29 : decode cX4_judge 29 = .ok (.aload_n 0, 1) := by decide +kernel
theorem dX4_judge_30 : decode cX4_judge 30 = .ok (.getfield 43, 3) := by decide +kernel
theorem dX4_judge_33 : decode cX4_judge 33 = .ok (.getfield 107, 3) := by decide +kernel
theorem dX4_judge_36 : decode cX4_judge 36 = .ok (.ireturn, 1) := by decide +kernel
theorem dX4_judge_37 : decode cX4_judge 37 = .ok (.iload_n 1, 1) := by decide +kernel
theorem dX4_judge_38 : decode cX4_judge 38 = .ok (.iconst 1, 1) := by decide +kernel
theorem dX4_judge_39 : decode cX4_judge 39 = .ok (.if_icmp .ne 11, 3) := by decide +kernel
theorem dX4_judge_42 : decode cX4_judge 42 = .ok (.aload_n 0, 1) := by decide +kernel
theorem dX4_judge_43 : decode cX4_judge 43 = .ok (.getfield 43, 3) := by decide +kernel
theorem dX4_judge_46 : decode cX4_judge 46 = .ok (.getfield 110, 3) := by decide +kernel
theorem dX4_judge_49 : decode cX4_judge 49 = .ok (.ireturn, 1) := by decide +kernel
theorem dX4_judge_50 : decode cX4_judge 50 = .ok (.iload_n 2, 1) := by decide +kernel
theorem dX4_judge_51 : decode cX4_judge 51 = .ok (.bipush (-3), 2) := by decide +kernel
theorem dX4_judge_53 : decode cX4_judge 53 = .ok (.if_icmp .ne 8, 3) := by decide +kernel
theorem dX4_judge_56 : decode cX4_judge 56 = .ok (.bipush (-3), 2) := by decide +kernel
theorem dX4_judge_58 : decode cX4_judge 58 = .ok (.goto 10, 3) := by decide +kernel
theorem dX4_judge_61 : decode cX4_judge 61 = .ok (.aload_n 0, 1) := by decide +kernel
theorem dX4_judge_62 : decode cX4_judge 62 = .ok (.getfield 43, 3) := by decide +kernel
theorem dX4_judge_65 : decode cX4_judge 65 = .ok (.getfield 113, 3) := by decide +kernel
theorem dX4_judge_68 : decode cX4_judge 68 = .ok (.ireturn, 1) := by decide +kernel
theorem dX4_behind_0 : decode cX4_behind 0 = .ok (.aload_n 0, 1) := by decide +kernel
theorem dX4_behind_1 : decode cX4_behind 1 = .ok (.getfield 10, 3) := by decide +kernel
theorem dX4_behind_4 : decode cX4_behind 4 = .ok (.iload_n 1, 1) := by decide +kernel
theorem dX4_behind_5 : decode cX4_behind 5 = .ok (.invokevirtual 68, 3) := by decide +kernel
theorem dX4_behind_8 : decode cX4_behind 8 = .ok (.ifCond .ne 5, 3) := by decide +kernel
theorem dX4_behind_11 : decode cX4_behind 11 = .ok (.iconst (-1), 1) := by decide +kernel
theorem dX4_behind_12 : decode cX4_behind 12 = .ok (.ireturn, 1) := by decide +kernel
theorem dX4_behind_13 : decode cX4_behind 13 = .ok (.iload_n 2, 1) := by decide +kernel
theorem dX4_behind_14 : decode cX4_behind 14 = .ok (.getstatic 116, 3) := by decide +kernel
theorem dX4_behind_17 : decode cX4_behind 17 = .ok (.arraylength, 1) := by decide +kernel
theorem dX4_behind_18 : decode cX4_behind 18 = .ok (.iconst 1, 1) := by decide +kernel
theorem dX4_behind_19 : decode cX4_behind 19 = .ok (.isub, 1) := by decide +kernel
theorem dX4_behind_20 : decode cX4_behind 20 = .ok (.invokestatic 72, 3) := by decide +kernel
theorem dX4_behind_23 : decode cX4_behind 23 = .ok (.ifCond .ne 6, 3) := by decide +kernel
theorem dX4_behind_26 : decode cX4_behind 26 = .ok (.bipush (-2), 2) := by decide +kernel
theorem dX4_behind_28 : decode cX4_behind 28 = .ok (.ireturn, 1) := by decide +kernel
theorem dX4_behind_29 : decode cX4_behind 29 = .ok (.aload_n 0, 1) := by decide +kernel
theorem dX4_behind_30 : decode cX4_behind 30 = .ok (.invokevirtual 103, 3) := by decide +kernel
theorem dX4_behind_33 : decode cX4_behind 33 = .ok (.istore_n 3, 1) := by decide +kernel
theorem dX4_behind_34 : decode cX4_behind 34 = .ok (.iload_n 3, 1) := by decide +kernel
theorem dX4_behind_35 : decode cX4_behind 35 = .ok (.ifCond .eq 7, 3) := by decide +kernel
theorem dX4_behind_38 : decode cX4_behind 38 = .ok (.iload_n 3, 1) := by decide +kernel
theorem dX4_behind_39 : decode cX4_behind 39 = .ok (.goto 19, 3) := by decide +kernel
theorem dX4_behind_42 : decode cX4_behind 42 = .ok (.aload_n 0, 1) := by decide +kernel
theorem dX4_behind_43 : decode cX4_behind 43 = .ok (.getfield 43, 3) := by decide +kernel
theorem dX4_behind_46 : decode cX4_behind 46 = .ok (.getfield 119, 3) := by decide +kernel
theorem dX4_behind_49 : decode cX4_behind 49 = .ok (.iload_n 1, 1) := by decide +kernel
theorem dX4_behind_50 : decode cX4_behind 50 = .ok (.getstatic 116, 3) := by decide +kernel
theorem dX4_behind_53 : decode cX4_behind 53 = .ok (.iload_n 2, 1) := by decide +kernel
theorem dX4_behind_54 : decode cX4_behind 54 = .ok (.iaload, 1) := by decide +kernel
theorem dX4_behind_55 : decode cX4_behind 55 = .ok (.invokevirtual 79, 3) := by decide +kernel
theorem dX4_behind_58 : decode cX4_behind 58 = .ok (.ireturn, 1) := by decide +kernel
theorem dX4_ditch_0 : decode cX4_ditch 0 = .ok (.aload_n 0, 1) := by decide +kernel
theorem dX4_ditch_1 : decode cX4_ditch 1 = .ok (.invokevirtual 103, 3) := by decide +kernel
theorem dX4_ditch_4 : decode cX4_ditch 4 = .ok (.istore_n 1, 1) := by decide +kernel
theorem dX4_ditch_5 : decode cX4_ditch 5 = .ok (.iload_n 1, 1) := by decide +kernel
theorem dX4_ditch_6 : decode cX4_ditch 6 = .ok (.ifCond .eq 7, 3) := by decide +kernel
theorem dX4_ditch_9 : decode cX4_ditch 9 = .ok (.iload_n 1, 1) := by decide +kernel
theorem dX4_ditch_10 : decode cX4_ditch 10 = .ok (.goto 13, 3) := by decide +kernel
theorem dX4_ditch_13 : decode cX4_ditch 13 = .ok (.aload_n 0, 1) := by decide +kernel
theorem dX4_ditch_14 : decode cX4_ditch 14 = .ok (.getfield 43, 3) := by decide +kernel
theorem dX4_ditch_17 : decode cX4_ditch 17 = .ok (.getfield 119, 3) := by decide +kernel
theorem dX4_ditch_20 : decode cX4_ditch 20 = .ok (.getfield 122, 3) := by decide +kernel
theorem dX4_ditch_23 : decode cX4_ditch 23 = .ok (.ireturn, 1) := by decide +kernel
theorem dX4_done_0 : decode cX4_done 0 = .ok (.aload_n 0, 1) := by decide +kernel
theorem dX4_done_1 : decode cX4_done 1 = .ok (.invokevirtual 103, 3) := by decide +kernel
theorem dX4_done_4 : decode cX4_done 4 = .ok (.istore_n 1, 1) := by decide +kernel
theorem dX4_done_5 : decode cX4_done 5 = .ok (.iload_n 1, 1) := by decide +kernel
theorem dX4_done_6 : decode cX4_done 6 = .ok (.ifCond .eq 5, 3) := by decide +kernel
theorem dX4_done_9 : decode cX4_done 9 = .ok (.iload_n 1, 1) := by decide +kernel
theorem dX4_done_10 : decode cX4_done 10 = .ok (.ireturn, 1) := by decide +kernel
theorem dX4_done_11 : decode cX4_done 11 = .ok (.aload_n 0, 1) := by decide +kernel
theorem dX4_done_12 : decode cX4_done 12 = .ok (.getfield 10, 3) := by decide +kernel
theorem dX4_done_15 : decode cX4_done 15 = .ok (.aload_n 0, 1) := by decide +kernel
theorem dX4_done_16 : decode cX4_done 16 = .ok (.getfield 43, 3) := by decide +kernel
theorem dX4_done_19 : decode cX4_done 19 = .ok (.getfield 119, 3) := by decide +kernel
theorem dX4_done_22 : decode cX4_done 22 = .ok (.invokevirtual 125, 3) := by decide +kernel
theorem dX4_done_25 : decode cX4_done 25 = .ok (.aload_n 0, 1) := by decide +kernel
theorem dX4_done_26 : decode cX4_done 26 = .ok (.getfield 36, 3) := by decide +kernel
theorem dX4_done_29 : decode cX4_done 29 = .ok (.iconst 0, 1) := by decide +kernel
theorem dX4_done_30 : decode cX4_done 30 = .ok (.putfield 93, 3) := by decide +kernel
theorem dX4_done_33 : decode cX4_done 33 = .ok (.aload_n 0, 1) := by decide +kernel
theorem dX4_done_34 : decode cX4_done 34 = .ok (.getfield 36, 3) := by decide +kernel
theorem dX4_done_37 : decode cX4_done 37 = .ok (.getfield 129, 3) := by decide +kernel
theorem dX4_done_40 : decode cX4_done 40 = .ok (.ireturn, 1) := by decide +kernel
theorem dX4_first_0 : decode cX4_first 0 = .ok (.aload_n 0, 1) := by decide +kernel
theorem dX4_first_1 : decode cX4_first 1 = .ok (.getfield 10, 3) := by decide +kernel
theorem dX4_first_4 : decode cX4_first 4 = .ok (.iload_n 1, 1) := by decide +kernel
theorem dX4_first_5 : decode cX4_first 5 = .ok (.invokevirtual 68, 3) := by decide +kernel
theorem dX4_first_8 : decode cX4_first 8 = .ok (.ifCond .ne 5, 3) := by decide +kernel
theorem dX4_first_11 : decode cX4_first 11 = .ok (.iconst (-1), 1) := by decide +kernel
theorem dX4_first_12 : decode cX4_first 12 = .ok (.ireturn, 1) := by decide +kernel
theorem dX4_first_13 : decode cX4_first 13 = .ok (.aload_n 0, 1) := by decide +kernel
theorem dX4_first_14 : decode cX4_first 14 = .ok (.invokevirtual 103, 3) := by decide +kernel
theorem dX4_first_17 : decode cX4_first 17 = .ok (.istore_n 2, 1) := by decide +kernel
theorem dX4_first_18 : decode cX4_first 18 = .ok (.iload_n 2, 1) := by decide +kernel
theorem dX4_first_19 : decode cX4_first 19 = .ok (.ifCond .eq 7, 3) := by decide +kernel
theorem dX4_first_22 : decode cX4_first 22 = .ok (.iload_n 2, 1) := by decide +kernel
theorem dX4_first_23 : decode cX4_first 23 = .ok (.goto 12, 3) := by decide +kernel
theorem dX4_first_26 : decode cX4_first 26 = .ok (.aload_n 0, 1) := by decide +kernel
theorem dX4_first_27 : decode cX4_first 27 = .ok (.getfield 43, 3) := by decide +kernel
theorem dX4_first_30 : decode cX4_first 30 = .ok (.getfield 132, 3) := by decide +kernel
theorem dX4_first_33 : decode cX4_first 33 = .ok (.iload_n 1, 1) := by decide +kernel
theorem dX4_first_34 : decode cX4_first 34 = .ok (.iaload, 1) := by decide +kernel
theorem dX4_first_35 : decode cX4_first 35 = .ok (.ireturn, 1) := by decide +kernel
theorem dX4_takes_0 : decode cX4_takes 0 = .ok (.aload_n 0, 1) := by decide +kernel
theorem dX4_takes_1 : decode cX4_takes 1 = .ok (.getfield 10, 3) := by decide +kernel
theorem dX4_takes_4 : decode cX4_takes 4 = .ok (.iload_n 1, 1) := by decide +kernel
theorem dX4_takes_5 : decode cX4_takes 5 = .ok (.invokevirtual 68, 3) := by decide +kernel
theorem dX4_takes_8 : decode cX4_takes 8 = .ok (.ifCond .ne 5, 3) := by decide +kernel
theorem dX4_takes_11 : decode cX4_takes 11 = .ok (.iconst (-1), 1) := by decide +kernel
theorem dX4_takes_12 : decode cX4_takes 12 = .ok (.ireturn, 1) := by decide +kernel
theorem dX4_takes_13 : decode cX4_takes 13 = .ok (.iload_n 2, 1) := by decide +kernel
theorem dX4_takes_14 : decode cX4_takes 14 = .ok (.iconst 1, 1) := by decide +kernel
theorem dX4_takes_15 : decode cX4_takes 15 = .ok (.invokestatic 72, 3) := by decide +kernel
theorem dX4_takes_18 : decode cX4_takes 18 = .ok (.ifCond .ne 6, 3) := by decide +kernel
theorem dX4_takes_21 : decode cX4_takes 21 = .ok (.bipush (-2), 2) := by decide +kernel
theorem dX4_takes_23 : decode cX4_takes 23 = .ok (.ireturn, 1) := by decide +kernel
theorem dX4_takes_24 : decode cX4_takes 24 = .ok (.aload_n 0, 1) := by decide +kernel
theorem dX4_takes_25 : decode cX4_takes 25 = .ok (.getfield 26, 3) := by decide +kernel
theorem dX4_takes_28 : decode cX4_takes 28 = .ok (.aload_n 0, 1) := by decide +kernel
theorem dX4_takes_29 : decode cX4_takes 29 = .ok (.getfield 10, 3) := by decide +kernel
theorem dX4_takes_32 : decode cX4_takes 32 = .ok (.iconst 0, 1) := by decide +kernel
theorem dX4_takes_33 : decode cX4_takes 33 = .ok (.invokevirtual 135, 3) := by decide +kernel
theorem dX4_takes_36 : decode cX4_takes 36 = .ok (.iload_n 2, 1) := by decide +kernel
theorem dX4_takes_37 : decode cX4_takes 37 = .ok (.ifCond .ne 15, 3) := by decide +kernel
theorem dX4_takes_40 : decode cX4_takes 40 = .ok (.aload_n 0, 1) := by decide +kernel
theorem dX4_takes_41 : decode cX4_takes 41 = .ok (.getfield 26, 3) := by decide +kernel
theorem dX4_takes_44 : decode cX4_takes 44 = .ok (.getfield 139, 3) := by decide +kernel
theorem dX4_takes_47 : decode cX4_takes 47 = .ok (.iload_n 1, 1) := by decide +kernel
theorem dX4_takes_48 : decode cX4_takes 48 = .ok (.iaload, 1) := by decide +kernel
theorem dX4_takes_49 : decode cX4_takes 49 = .ok (.goto 12, 3) := by decide +kernel
theorem dX4_takes_52 : decode cX4_takes 52 = .ok (.aload_n 0, 1) := by decide +kernel
theorem dX4_takes_53 : decode cX4_takes 53 = .ok (.getfield 26, 3) := by decide +kernel
theorem dX4_takes_56 : decode cX4_takes 56 = .ok (.getfield 142, 3) := by decide +kernel
theorem dX4_takes_59 : decode cX4_takes 59 = .ok (.iload_n 1, 1) := by decide +kernel
theorem dX4_takes_60 : decode cX4_takes 60 = .ok (.iaload, 1) := by decide +kernel
theorem dX4_takes_61 : decode cX4_takes 61 = .ok (.ireturn, 1) := by decide +kernel
theorem dX4_takesIf_0 : decode cX4_takesIf 0 = .ok (.aload_n 0, 1) := by decide +kernel
theorem dX4_takesIf_1 : decode cX4_takesIf 1 = .ok (.getfield 10, 3) := by decide +kernel
theorem dX4_takesIf_4 : decode cX4_takesIf 4 = .ok (.iload_n 1, 1) := by decide +kernel
theorem dX4_takesIf_5 : decode cX4_takesIf 5 = .ok (.invokevirtual 68, 3) := by decide +kernel
theorem dX4_takesIf_8 : decode cX4_takesIf 8 = .ok (.ifCond .eq 14, 3) := by decide +kernel
theorem dX4_takesIf_11 : decode cX4_takesIf 11 = .ok (.aload_n 0, 1) := by decide +kernel
theorem dX4_takesIf_12 : decode cX4_takesIf 12 = .ok (.getfield 10, 3) := by decide +kernel
theorem dX4_takesIf_15 : decode cX4_takesIf 15 = .ok (.iload_n 2, 1) := by decide +kernel
theorem dX4_takesIf_16 : decode cX4_takesIf 16 = .ok (.invokevirtual 68, 3) := by decide +kernel
theorem dX4_takesIf_19 : decode cX4_takesIf 19 = .ok (.ifCond .ne 5, 3) := by decide +kernel
theorem dX4_takesIf_22 : decode cX4_takesIf 22 = .ok (.iconst (-1), 1) := by decide +kernel
theorem dX4_takesIf_23 : decode cX4_takesIf 23 = .ok (.ireturn, 1) := by decide +kernel
theorem dX4_takesIf_24 : decode cX4_takesIf 24 = .ok (.aload_n 0, 1) := by decide +kernel
theorem dX4_takesIf_25 : decode cX4_takesIf 25 = .ok (.getfield 16, 3) := by decide +kernel
theorem dX4_takesIf_28 : decode cX4_takesIf 28 = .ok (.aload_n 0, 1) := by decide +kernel
theorem dX4_takesIf_29 : decode cX4_takesIf 29 = .ok (.getfield 10, 3) := by decide +kernel
theorem dX4_takesIf_32 : decode cX4_takesIf 32 = .ok (.invokevirtual 125, 3) := by decide +kernel
theorem dX4_takesIf_35 : decode cX4_takesIf 35 = .ok (.aload_n 0, 1) := by decide +kernel
theorem dX4_takesIf_36 : decode cX4_takesIf 36 = .ok (.getfield 16, 3) := by decide +kernel
theorem dX4_takesIf_39 : decode cX4_takesIf 39 = .ok (.iload_n 2, 1) := by decide +kernel
theorem dX4_takesIf_40 : decode cX4_takesIf 40 = .ok (.invokevirtual 145, 3) := by decide +kernel
theorem dX4_takesIf_43 : decode cX4_takesIf 43 = .ok (.aload_n 0, 1) := by decide +kernel
theorem dX4_takesIf_44 : decode cX4_takesIf 44 = .ok (.getfield 30, 3) := by decide +kernel
theorem dX4_takesIf_47 : decode cX4_takesIf 47 = .ok (.aload_n 0, 1) := by decide +kernel
theorem dX4_takesIf_48 : decode cX4_takesIf 48 = .ok (.getfield 16, 3) := by decide +kernel
theorem dX4_takesIf_51 : decode cX4_takesIf 51 = .ok (.iconst 0, 1) := by decide +kernel
theorem dX4_takesIf_52 : decode cX4_takesIf 52 = .ok (.invokevirtual 135, 3) := by decide +kernel
theorem dX4_takesIf_55 : decode cX4_takesIf 55 = .ok (.aload_n 0, 1) := by decide +kernel
theorem dX4_takesIf_56 : decode cX4_takesIf 56 = .ok (.getfield 30, 3) := by decide +kernel
theorem dX4_takesIf_59 : decode cX4_takesIf 59 = .ok (.getfield 139, 3) := by decide +kernel
theorem dX4_takesIf_62 : decode cX4_takesIf 62 = .ok (.iload_n 1, 1) := by decide +kernel
theorem dX4_takesIf_63 : decode cX4_takesIf 63 = .ok (.iaload, 1) := by decide +kernel
theorem dX4_takesIf_64 : decode cX4_takesIf 64 = .ok (.ireturn, 1) := by decide +kernel
theorem dX4_robbed_0 : decode cX4_robbed 0 = .ok (.aload_n 0, 1) := by decide +kernel
theorem dX4_robbed_1 : decode cX4_robbed 1 = .ok (.getfield 10, 3) := by decide +kernel
theorem dX4_robbed_4 : decode cX4_robbed 4 = .ok (.iload_n 1, 1) := by decide +kernel
theorem dX4_robbed_5 : decode cX4_robbed 5 = .ok (.invokevirtual 68, 3) := by decide +kernel
theorem dX4_robbed_8 : decode cX4_robbed 8 = .ok (.ifCond .ne 5, 3) := by decide +kernel
theorem dX4_robbed_11 : decode cX4_robbed 11 = .ok (.iconst (-1), 1) := by decide +kernel
theorem dX4_robbed_12 : decode cX4_robbed 12 = .ok (.ireturn, 1) := by decide +kernel
theorem dX4_robbed_13 : decode cX4_robbed 13 = .ok (.aload_n 0, 1) := by decide +kernel
theorem dX4_robbed_14 : decode cX4_robbed 14 = .ok (.getfield 26, 3) := by decide +kernel
theorem dX4_robbed_17 : decode cX4_robbed 17 = .ok (.aload_n 0, 1) := by decide +kernel
theorem dX4_robbed_18 : decode cX4_robbed 18 = .ok (.getfield 10, 3) := by decide +kernel
theorem dX4_robbed_21 : decode cX4_robbed 21 = .ok (.iconst 0, 1) := by decide +kernel
theorem dX4_robbed_22 : decode cX4_robbed 22 = .ok (.invokevirtual 135, 3) := by decide +kernel
theorem dX4_robbed_25 : decode cX4_robbed 25 = .ok (.aload_n 0, 1) := by decide +kernel
theorem dX4_robbed_26 : decode cX4_robbed 26 = .ok (.getfield 16, 3) := by decide +kernel
theorem dX4_robbed_29 : decode cX4_robbed 29 = .ok (.aload_n 0, 1) := by decide +kernel
theorem dX4_robbed_30 : decode cX4_robbed 30 = .ok (.getfield 10, 3) := by decide +kernel
theorem dX4_robbed_33 : decode cX4_robbed 33 = .ok (.invokevirtual 125, 3) := by decide +kernel
theorem dX4_robbed_36 : decode cX4_robbed 36 = .ok (.aload_n 0, 1) := by decide +kernel
theorem dX4_robbed_37 : decode cX4_robbed 37 = .ok (.getfield 16, 3) := by decide +kernel
theorem dX4_robbed_40 : decode cX4_robbed 40 = .ok (.iload_n 1, 1) := by decide +kernel
theorem dX4_robbed_41 : decode cX4_robbed 41 = .ok (.iconst 4, 1) := by decide +kernel
theorem dX4_robbed_42 : decode cX4_robbed 42 = .ok (.iconst 1, 1) := by decide +kernel
theorem dX4_robbed_43 : decode cX4_robbed 43 = .ok (.invokevirtual 83, 3) := by decide +kernel
theorem dX4_robbed_46 : decode cX4_robbed 46 = .ok (.aload_n 0, 1) := by decide +kernel
theorem dX4_robbed_47 : decode cX4_robbed 47 = .ok (.getfield 30, 3) := by decide +kernel
theorem dX4_robbed_50 : decode cX4_robbed 50 = .ok (.aload_n 0, 1) := by decide +kernel
theorem dX4_robbed_51 : decode cX4_robbed 51 = .ok (.getfield 16, 3) := by decide +kernel
theorem dX4_robbed_54 : decode cX4_robbed 54 = .ok (.iconst 0, 1) := by decide +kernel
theorem dX4_robbed_55 : decode cX4_robbed 55 = .ok (.invokevirtual 135, 3) := by decide +kernel
theorem dX4_robbed_58 : decode cX4_robbed 58 = .ok (.iconst 0, 1) := by decide +kernel
theorem dX4_robbed_59 : decode cX4_robbed 59 = .ok (.istore_n 2, 1) := by decide +kernel
theorem dX4_robbed_60 : decode cX4_robbed 60 = .ok (.iconst 0, 1) := by decide +kernel
theorem dX4_robbed_61 : decode cX4_robbed 61 = .ok (.istore_n 3, 1) := by decide +kernel
theorem dX4_robbed_62 : decode cX4_robbed 62 = .ok (.iload_n 3, 1) := by decide +kernel
theorem dX4_robbed_63 : decode cX4_robbed 63 = .ok (.aload_n 0, 1) := by decide +kernel
theorem dX4_robbed_64 : decode cX4_robbed 64 = .ok (.getfield 10, 3) := by decide +kernel
theorem dX4_robbed_67 : decode cX4_robbed 67 = .ok (.getfield 60, 3) := by decide +kernel
theorem dX4_robbed_70 : decode cX4_robbed 70 = .ok (.if_icmp .ge 36, 3) := by decide +kernel
theorem dX4_robbed_73 : decode cX4_robbed 73 = .ok (.aload_n 0, 1) := by decide +kernel
theorem dX4_robbed_74 : decode cX4_robbed 74 = .ok (.getfield 30, 3) := by decide +kernel
theorem dX4_robbed_77 : decode cX4_robbed 77 = .ok (.getfield 139, 3) := by decide +kernel
theorem dX4_robbed_80 : decode cX4_robbed 80 = .ok (.iload_n 3, 1) := by decide +kernel
theorem dX4_robbed_81 : decode cX4_robbed 81 = .ok (.iaload, 1) := by decide +kernel
theorem dX4_robbed_82 : decode cX4_robbed 82 = .ok (.aload_n 0, 1) := by decide +kernel
theorem dX4_robbed_83 : decode cX4_robbed 83 = .ok (.getfield 26, 3) := by decide +kernel
theorem dX4_robbed_86 : decode cX4_robbed 86 = .ok (.getfield 139, 3) := by decide +kernel
theorem dX4_robbed_89 : decode cX4_robbed 89 = .ok (.iload_n 3, 1) := by decide +kernel
theorem dX4_robbed_90 : decode cX4_robbed 90 = .ok (.iaload, 1) := by decide +kernel
theorem dX4_robbed_91 : decode cX4_robbed 91 = .ok (.if_icmp .le 9, 3) := by decide +kernel
theorem dX4_robbed_94 : decode cX4_robbed 94 = .ok (.iload_n 2, 1) := by decide +kernel
theorem dX4_robbed_95 : decode cX4_robbed 95 = .ok (.iconst 1, 1) := by decide +kernel
theorem dX4_robbed_96 : decode cX4_robbed 96 = .ok (.iload_n 3, 1) := by decide +kernel
theorem dX4_robbed_97 : decode cX4_robbed 97 = .ok (.ishl, 1) := by decide +kernel
theorem dX4_robbed_98 : decode cX4_robbed 98 = .ok (.ior, 1) := by decide +kernel
theorem dX4_robbed_99 : decode cX4_robbed 99 = .ok (.istore_n 2, 1) := by decide +kernel
theorem dX4_robbed_100 : decode cX4_robbed 100 = .ok (.iinc 3 1, 3) := by decide +kernel
theorem dX4_robbed_103 : decode cX4_robbed 103 = .ok (.goto (-41), 3) := by decide +kernel
theorem dX4_robbed_106 : decode cX4_robbed 106 = .ok (.iload_n 2, 1) := by decide +kernel
theorem dX4_robbed_107 : decode cX4_robbed 107 = .ok (.ireturn, 1) := by decide +kernel
theorem dX4_liveDay_0 : decode cX4_liveDay 0 = .ok (.aload_n 0, 1) := by decide +kernel
theorem dX4_liveDay_1 : decode cX4_liveDay 1 = .ok (.getfield 36, 3) := by decide +kernel
theorem dX4_liveDay_4 : decode cX4_liveDay 4 = .ok (.aload_n 0, 1) := by decide +kernel
theorem dX4_liveDay_5 : decode cX4_liveDay 5 = .ok (.getfield 10, 3) := by decide +kernel
theorem dX4_liveDay_8 : decode cX4_liveDay 8 = .ok (.getfield 60, 3) := by decide +kernel
theorem dX4_liveDay_11 : decode cX4_liveDay 11 = .ok (.invokevirtual 99, 3) := by decide +kernel
theorem dX4_liveDay_14 : decode cX4_liveDay 14 = .ok (.bipush (-6), 2) := by decide +kernel
theorem dX4_liveDay_16 : decode cX4_liveDay 16 = .ok (.if_icmp .eq 6, 3) := by decide +kernel
theorem dX4_liveDay_19 : decode cX4_liveDay 19 = .ok (.bipush (-5), 2) := by decide +kernel
theorem dX4_liveDay_21 : decode cX4_liveDay 21 = .ok (.ireturn, 1) := by decide +kernel
theorem dX4_liveDay_22 : decode cX4_liveDay 22 = .ok (.aload_n 0, 1) := by decide +kernel
theorem dX4_liveDay_23 : decode cX4_liveDay 23 = .ok (.getfield 43, 3) := by decide +kernel
theorem dX4_liveDay_26 : decode cX4_liveDay 26 = .ok (.aload_n 0, 1) := by decide +kernel
theorem dX4_liveDay_27 : decode cX4_liveDay 27 = .ok (.getfield 10, 3) := by decide +kernel
theorem dX4_liveDay_30 : decode cX4_liveDay 30 = .ok (.aload_n 0, 1) := by decide +kernel
theorem dX4_liveDay_31 : decode cX4_liveDay 31 = .ok (.getfield 36, 3) := by decide +kernel
theorem dX4_liveDay_34 : decode cX4_liveDay 34 = .ok (.invokevirtual 148, 3) := by decide +kernel
theorem dX4_liveDay_37 : decode cX4_liveDay 37 = .ok (.aload_n 0, 1) := by decide +kernel
theorem dX4_liveDay_38 : decode cX4_liveDay 38 = .ok (.getfield 43, 3) := by decide +kernel
theorem dX4_liveDay_41 : decode cX4_liveDay 41 = .ok (.getfield 107, 3) := by decide +kernel
theorem dX4_liveDay_44 : decode cX4_liveDay 44 = .ok (.bipush (-6), 2) := by decide +kernel
theorem dX4_liveDay_46 : decode cX4_liveDay 46 = .ok (.if_icmp .ne 7, 3) := by decide +kernel
theorem dX4_liveDay_49 : decode cX4_liveDay 49 = .ok (.iconst 0, 1) := by decide +kernel
theorem dX4_liveDay_50 : decode cX4_liveDay 50 = .ok (.goto 5, 3) := by decide +kernel
theorem dX4_liveDay_53 : decode cX4_liveDay 53 = .ok (.bipush (-3), 2) := by decide +kernel
theorem dX4_liveDay_55 : decode cX4_liveDay 55 = .ok (.ireturn, 1) := by decide +kernel
theorem dX4_hours_0 : decode cX4_hours 0 = .ok (.aload_n 0, 1) := by decide +kernel
theorem dX4_hours_1 : decode cX4_hours 1 = .ok (.getfield 26, 3) := by decide +kernel
theorem dX4_hours_4 : decode cX4_hours 4 = .ok (.aload_n 0, 1) := by decide +kernel
theorem dX4_hours_5 : decode cX4_hours 5 = .ok (.getfield 10, 3) := by decide +kernel
theorem dX4_hours_8 : decode cX4_hours 8 = .ok (.iconst 0, 1) := by decide +kernel
theorem dX4_hours_9 : decode cX4_hours 9 = .ok (.invokevirtual 135, 3) := by decide +kernel
theorem dX4_hours_12 : decode cX4_hours 12 = .ok (.iconst 0, 1) := by decide +kernel
theorem dX4_hours_13 : decode cX4_hours 13 = .ok (.istore_n 1, 1) := by decide +kernel
theorem dX4_hours_14 : decode cX4_hours 14 = .ok (.iconst 0, 1) := by decide +kernel
theorem dX4_hours_15 : decode cX4_hours 15 = .ok (.istore_n 2, 1) := by decide +kernel
theorem dX4_hours_16 : decode cX4_hours 16 = .ok (.iload_n 2, 1) := by decide +kernel
theorem dX4_hours_17 : decode cX4_hours 17 = .ok (.aload_n 0, 1) := by decide +kernel
theorem dX4_hours_18 : decode cX4_hours 18 = .ok (.getfield 10, 3) := by decide +kernel
theorem dX4_hours_21 : decode cX4_hours 21 = .ok (.getfield 60, 3) := by decide +kernel
theorem dX4_hours_24 : decode cX4_hours 24 = .ok (.if_icmp .ge 55, 3) := by decide +kernel
theorem dX4_hours_27 : decode cX4_hours 27 = .ok (.aload_n 0, 1) := by decide +kernel
theorem dX4_hours_28 : decode cX4_hours 28 = .ok (.getfield 10, 3) := by decide +kernel
theorem dX4_hours_31 : decode cX4_hours 31 = .ok (.iload_n 2, 1) := by decide +kernel
theorem dX4_hours_32 : decode cX4_hours 32 = .ok (.invokevirtual 152, 3) := by decide +kernel
theorem dX4_hours_35 : decode cX4_hours 35 = .ok (.istore_n 3, 1) := by decide +kernel
theorem dX4_hours_36 : decode cX4_hours 36 = .ok (.aload_n 0, 1) := by decide +kernel
theorem dX4_hours_37 : decode cX4_hours 37 = .ok (.getfield 26, 3) := by decide +kernel
theorem dX4_hours_40 : decode cX4_hours 40 = .ok (.getfield 139, 3) := by decide +kernel
theorem dX4_hours_43 : decode cX4_hours 43 = .ok (.iload_n 2, 1) := by decide +kernel
theorem dX4_hours_44 : decode cX4_hours 44 = .ok (.iaload, 1) := by decide +kernel
theorem dX4_hours_45 : decode cX4_hours 45 = .ok (.istore 4, 2) := by decide +kernel
theorem dX4_hours_47 : decode cX4_hours 47 = .ok (.iload_n 3, 1) := by decide +kernel
theorem dX4_hours_48 : decode cX4_hours 48 = .ok (.ifCond .le 25, 3) := by decide +kernel
theorem dX4_hours_51 : decode cX4_hours 51 = .ok (.iload 4, 2) := by decide +kernel
theorem dX4_hours_53 : decode cX4_hours 53 = .ok (.ifCond .gt 6, 3) := by decide +kernel
theorem dX4_hours_56 : decode cX4_hours 56 = .ok (.bipush (-6), 2) := by decide +kernel
theorem dX4_hours_58 : decode cX4_hours 58 = .ok (.ireturn, 1) := by decide +kernel
theorem dX4_hours_59 : decode cX4_hours 59 = .ok (.iload_n 1, 1) := by decide +kernel
theorem dX4_hours_60 : decode cX4_hours 60 = .ok (.iload_n 3, 1) := by decide +kernel
theorem dX4_hours_61 : decode cX4_hours 61 = .ok (.iload 4, 2) := by decide +kernel
theorem dX4_hours_63 : decode cX4_hours 63 = .ok (.iadd, 1) := by decide +kernel
theorem dX4_hours_64 : decode cX4_hours 64 = .ok (.iconst 1, 1) := by decide +kernel
theorem dX4_hours_65 : decode cX4_hours 65 = .ok (.isub, 1) := by decide +kernel
theorem dX4_hours_66 : decode cX4_hours 66 = .ok (.iload 4, 2) := by decide +kernel
theorem dX4_hours_68 : decode cX4_hours 68 = .ok (.idiv, 1) := by decide +kernel
theorem dX4_hours_69 : decode cX4_hours 69 = .ok (.invokestatic 155, 3) := by decide +kernel
theorem dX4_hours_72 : decode cX4_hours 72 = .ok (.istore_n 1, 1) := by decide +kernel
theorem dX4_hours_73 : decode cX4_hours 73 = .ok (.iinc 2 1, 3) := by decide +kernel
theorem dX4_hours_76 : decode cX4_hours 76 = .ok (.goto (-60), 3) := by decide +kernel
theorem dX4_hours_79 : decode cX4_hours 79 = .ok (.iload_n 1, 1) := by decide +kernel
theorem dX4_hours_80 : decode cX4_hours 80 = .ok (.ireturn, 1) := by decide +kernel
theorem dX4_spring_0 : decode cX4_spring 0 = .ok (.iload_n 1, 1) := by decide +kernel
theorem dX4_spring_1 : decode cX4_spring 1 = .ok (.invokestatic 160, 3) := by decide +kernel
theorem dX4_spring_4 : decode cX4_spring 4 = .ok (.ifCond .ne 6, 3) := by decide +kernel
theorem dX4_spring_7 : decode cX4_spring 7 = .ok (.bipush (-2), 2) := by decide +kernel
theorem dX4_spring_9 : decode cX4_spring 9 = .ok (.ireturn, 1) := by decide +kernel
theorem dX4_spring_10 : decode cX4_spring 10 = .ok (.aload_n 0, 1) := by decide +kernel
theorem dX4_spring_11 : decode cX4_spring 11 = .ok (.getfield 16, 3) := by decide +kernel
theorem dX4_spring_14 : decode cX4_spring 14 = .ok (.aload_n 0, 1) := by decide +kernel
theorem dX4_spring_15 : decode cX4_spring 15 = .ok (.getfield 10, 3) := by decide +kernel
theorem dX4_spring_18 : decode cX4_spring 18 = .ok (.invokevirtual 125, 3) := by decide +kernel
theorem dX4_spring_21 : decode cX4_spring 21 = .ok (.iconst 0, 1) := by decide +kernel
theorem dX4_spring_22 : decode cX4_spring 22 = .ok (.istore_n 2, 1) := by decide +kernel
theorem dX4_spring_23 : decode cX4_spring 23 = .ok (.iload_n 2, 1) := by decide +kernel
theorem dX4_spring_24 : decode cX4_spring 24 = .ok (.getstatic 87, 3) := by decide +kernel
theorem dX4_spring_27 : decode cX4_spring 27 = .ok (.iconst 0, 1) := by decide +kernel
theorem dX4_spring_28 : decode cX4_spring 28 = .ok (.iaload, 1) := by decide +kernel
theorem dX4_spring_29 : decode cX4_spring 29 = .ok (.if_icmp .gt 29, 3) := by decide +kernel
theorem dX4_spring_32 : decode cX4_spring 32 = .ok (.aload_n 0, 1) := by decide +kernel
theorem dX4_spring_33 : decode cX4_spring 33 = .ok (.getfield 16, 3) := by decide +kernel
theorem dX4_spring_36 : decode cX4_spring 36 = .ok (.getfield 90, 3) := by decide +kernel
theorem dX4_spring_39 : decode cX4_spring 39 = .ok (.iconst 0, 1) := by decide +kernel
theorem dX4_spring_40 : decode cX4_spring 40 = .ok (.iload_n 2, 1) := by decide +kernel
theorem dX4_spring_41 : decode cX4_spring 41 = .ok (.iastore, 1) := by decide +kernel
theorem dX4_spring_42 : decode cX4_spring 42 = .ok (.aload_n 0, 1) := by decide +kernel
theorem dX4_spring_43 : decode cX4_spring 43 = .ok (.iload_n 1, 1) := by decide +kernel
theorem dX4_spring_44 : decode cX4_spring 44 = .ok (.invokevirtual 163, 3) := by decide +kernel
theorem dX4_spring_47 : decode cX4_spring 47 = .ok (.ifCond .eq 5, 3) := by decide +kernel
theorem dX4_spring_50 : decode cX4_spring 50 = .ok (.iload_n 2, 1) := by decide +kernel
theorem dX4_spring_51 : decode cX4_spring 51 = .ok (.ireturn, 1) := by decide +kernel
theorem dX4_spring_52 : decode cX4_spring 52 = .ok (.iinc 2 1, 3) := by decide +kernel
theorem dX4_spring_55 : decode cX4_spring 55 = .ok (.goto (-32), 3) := by decide +kernel
theorem dX4_spring_58 : decode cX4_spring 58 = .ok (.bipush (-6), 2) := by decide +kernel
theorem dX4_spring_60 : decode cX4_spring 60 = .ok (.ireturn, 1) := by decide +kernel
theorem dX4_narrow_0 : decode cX4_narrow 0 = .ok (.iload_n 2, 1) := by decide +kernel
theorem dX4_narrow_1 : decode cX4_narrow 1 = .ok (.iconst (-1), 1) := by decide +kernel
theorem dX4_narrow_2 : decode cX4_narrow 2 = .ok (.if_icmp .eq 16, 3) := by decide +kernel
theorem dX4_narrow_5 : decode cX4_narrow 5 = .ok (.aload_n 0, 1) := by decide +kernel
theorem dX4_narrow_6 : decode cX4_narrow 6 = .ok (.getfield 10, 3) := by decide +kernel
theorem dX4_narrow_9 : decode cX4_narrow 9 = .ok (.iload_n 2, 1) := by decide +kernel
theorem dX4_narrow_10 : decode cX4_narrow 10 = .ok (.invokevirtual 68, 3) := by decide +kernel
theorem dX4_narrow_13 : decode cX4_narrow 13 = .ok (.ifCond .ne 5, 3) := by decide +kernel
theorem dX4_narrow_16 : decode cX4_narrow 16 = .ok (.iconst (-1), 1) := by decide +kernel
theorem dX4_narrow_17 : decode cX4_narrow 17 = .ok (.ireturn, 1) := by decide +kernel
theorem dX4_narrow_18 : decode cX4_narrow 18 = .ok (.iload_n 1, 1) := by decide +kernel
theorem dX4_narrow_19 : decode cX4_narrow 19 = .ok (.invokestatic 160, 3) := by decide +kernel
theorem dX4_narrow_22 : decode cX4_narrow 22 = .ok (.ifCond .ne 6, 3) := by decide +kernel
theorem dX4_narrow_25 : decode cX4_narrow 25 = .ok (.bipush (-2), 2) := by decide +kernel
theorem dX4_narrow_27 : decode cX4_narrow 27 = .ok (.ireturn, 1) := by decide +kernel
theorem dX4_narrow_28 : decode cX4_narrow 28 = .ok (.aload_n 0, 1) := by decide +kernel
theorem dX4_narrow_29 : decode cX4_narrow 29 = .ok (.getfield 16, 3) := by decide +kernel
theorem dX4_narrow_32 : decode cX4_narrow 32 = .ok (.aload_n 0, 1) := by decide +kernel
theorem dX4_narrow_33 : decode cX4_narrow 33 = .ok (.getfield 10, 3) := by decide +kernel
theorem dX4_narrow_36 : decode cX4_narrow 36 = .ok (.invokevirtual 125, 3) := by decide +kernel
theorem dX4_narrow_39 : decode cX4_narrow 39 = .ok (.iconst 0, 1) := by decide +kernel
theorem dX4_narrow_40 : decode cX4_narrow 40 = .ok (.istore_n 3, 1) := by decide +kernel
theorem dX4_narrow_41 : decode cX4_narrow 41 = .ok (.iconst 0, 1) := by decide +kernel
theorem dX4_narrow_42 : decode cX4_narrow 42 = .ok (.istore 4, 2) := by decide +kernel
theorem dX4_narrow_44 : decode cX4_narrow 44 = .ok (.iload 4, 2) := by decide +kernel
theorem dX4_narrow_46 : decode cX4_narrow 46 = .ok (.aload_n 0, 1) := by decide +kernel
theorem dX4_narrow_47 : decode cX4_narrow 47 = .ok (.getfield 10, 3) := by decide +kernel
theorem dX4_narrow_50 : decode cX4_narrow 50 = .ok (.getfield 60, 3) := by decide +kernel
theorem dX4_narrow_53 : decode cX4_narrow 53 = .ok (.if_icmp .ge 56, 3) := by decide +kernel
theorem dX4_narrow_56 : decode cX4_narrow 56 = .ok (.aload_n 0, 1) := by decide +kernel
theorem dX4_narrow_57 : decode cX4_narrow 57 = .ok (.getfield 10, 3) := by decide +kernel
theorem dX4_narrow_60 : decode cX4_narrow 60 = .ok (.iload 4, 2) := by decide +kernel
theorem dX4_narrow_62 : decode cX4_narrow 62 = .ok (.invokevirtual 152, 3) := by decide +kernel
theorem dX4_narrow_65 : decode cX4_narrow 65 = .ok (.iload_n 1, 1) := by decide +kernel
theorem dX4_narrow_66 : decode cX4_narrow 66 = .ok (.iadd, 1) := by decide +kernel
theorem dX4_narrow_67 : decode cX4_narrow 67 = .ok (.iconst 1, 1) := by decide +kernel
theorem dX4_narrow_68 : decode cX4_narrow 68 = .ok (.isub, 1) := by decide +kernel
theorem dX4_narrow_69 : decode cX4_narrow 69 = .ok (.iload_n 1, 1) := by decide +kernel
theorem dX4_narrow_70 : decode cX4_narrow 70 = .ok (.idiv, 1) := by decide +kernel
theorem dX4_narrow_71 : decode cX4_narrow 71 = .ok (.istore 5, 2) := by decide +kernel
theorem dX4_narrow_73 : decode cX4_narrow 73 = .ok (.iload 5, 2) := by decide +kernel
theorem dX4_narrow_75 : decode cX4_narrow 75 = .ok (.getstatic 76, 3) := by decide +kernel
theorem dX4_narrow_78 : decode cX4_narrow 78 = .ok (.iconst 1, 1) := by decide +kernel
theorem dX4_narrow_79 : decode cX4_narrow 79 = .ok (.iaload, 1) := by decide +kernel
theorem dX4_narrow_80 : decode cX4_narrow 80 = .ok (.if_icmp .le 6, 3) := by decide +kernel
theorem dX4_narrow_83 : decode cX4_narrow 83 = .ok (.bipush (-6), 2) := by decide +kernel
theorem dX4_narrow_85 : decode cX4_narrow 85 = .ok (.ireturn, 1) := by decide +kernel
theorem dX4_narrow_86 : decode cX4_narrow 86 = .ok (.aload_n 0, 1) := by decide +kernel
theorem dX4_narrow_87 : decode cX4_narrow 87 = .ok (.getfield 16, 3) := by decide +kernel
theorem dX4_narrow_90 : decode cX4_narrow 90 = .ok (.iload 4, 2) := by decide +kernel
theorem dX4_narrow_92 : decode cX4_narrow 92 = .ok (.iconst 1, 1) := by decide +kernel
theorem dX4_narrow_93 : decode cX4_narrow 93 = .ok (.iload 5, 2) := by decide +kernel
theorem dX4_narrow_95 : decode cX4_narrow 95 = .ok (.invokevirtual 83, 3) := by decide +kernel
theorem dX4_narrow_98 : decode cX4_narrow 98 = .ok (.iload_n 3, 1) := by decide +kernel
theorem dX4_narrow_99 : decode cX4_narrow 99 = .ok (.iload 5, 2) := by decide +kernel
theorem dX4_narrow_101 : decode cX4_narrow 101 = .ok (.iadd, 1) := by decide +kernel
theorem dX4_narrow_102 : decode cX4_narrow 102 = .ok (.istore_n 3, 1) := by decide +kernel
theorem dX4_narrow_103 : decode cX4_narrow 103 = .ok (.iinc 4 1, 3) := by decide +kernel
theorem dX4_narrow_106 : decode cX4_narrow 106 = .ok (.goto (-62), 3) := by decide +kernel
theorem dX4_narrow_109 : decode cX4_narrow 109 = .ok (.aload_n 0, 1) := by decide +kernel
theorem dX4_narrow_110 : decode cX4_narrow 110 = .ok (.iload_n 1, 1) := by decide +kernel
theorem dX4_narrow_111 : decode cX4_narrow 111 = .ok (.invokevirtual 163, 3) := by decide +kernel
theorem dX4_narrow_114 : decode cX4_narrow 114 = .ok (.ifCond .ne 6, 3) := by decide +kernel
theorem dX4_narrow_117 : decode cX4_narrow 117 = .ok (.bipush (-6), 2) := by decide +kernel
theorem dX4_narrow_119 : decode cX4_narrow 119 = .ok (.ireturn, 1) := by decide +kernel
theorem dX4_narrow_120 : decode cX4_narrow 120 = .ok (.iload_n 2, 1) := by decide +kernel
theorem dX4_narrow_121 : decode cX4_narrow 121 = .ok (.iconst (-1), 1) := by decide +kernel
theorem dX4_narrow_122 : decode cX4_narrow 122 = .ok (.if_icmp .ne 7, 3) := by decide +kernel
theorem dX4_narrow_125 : decode cX4_narrow 125 = .ok (.iload_n 3, 1) := by decide +kernel
theorem dX4_narrow_126 : decode cX4_narrow 126 = .ok (.goto 12, 3) := by decide +kernel
theorem dX4_narrow_129 : decode cX4_narrow 129 = .ok (.aload_n 0, 1) := by decide +kernel
theorem dX4_narrow_130 : decode cX4_narrow 130 = .ok (.getfield 16, 3) := by decide +kernel
theorem dX4_narrow_133 : decode cX4_narrow 133 = .ok (.iload_n 2, 1) := by decide +kernel
theorem dX4_narrow_134 : decode cX4_narrow 134 = .ok (.iconst 1, 1) := by decide +kernel
theorem dX4_narrow_135 : decode cX4_narrow 135 = .ok (.invokevirtual 79, 3) := by decide +kernel
theorem dX4_narrow_138 : decode cX4_narrow 138 = .ok (.ireturn, 1) := by decide +kernel
theorem dX4_highest_0 : decode cX4_highest 0 = .ok (.aload_n 0, 1) := by decide +kernel
theorem dX4_highest_1 : decode cX4_highest 1 = .ok (.getfield 10, 3) := by decide +kernel
theorem dX4_highest_4 : decode cX4_highest 4 = .ok (.iload_n 1, 1) := by decide +kernel
theorem dX4_highest_5 : decode cX4_highest 5 = .ok (.invokevirtual 68, 3) := by decide +kernel
theorem dX4_highest_8 : decode cX4_highest 8 = .ok (.ifCond .ne 5, 3) := by decide +kernel
theorem dX4_highest_11 : decode cX4_highest 11 = .ok (.iconst (-1), 1) := by decide +kernel
theorem dX4_highest_12 : decode cX4_highest 12 = .ok (.ireturn, 1) := by decide +kernel
theorem dX4_highest_13 : decode cX4_highest 13 = .ok (.iload_n 2, 1) := by decide +kernel
theorem dX4_highest_14 : decode cX4_highest 14 = .ok (.invokestatic 160, 3) := by decide +kernel
theorem dX4_highest_17 : decode cX4_highest 17 = .ok (.ifCond .ne 6, 3) := by decide +kernel
theorem dX4_highest_20 : decode cX4_highest 20 = .ok (.bipush (-2), 2) := by decide +kernel
theorem dX4_highest_22 : decode cX4_highest 22 = .ok (.ireturn, 1) := by decide +kernel
theorem dX4_highest_23 : decode cX4_highest 23 = .ok (.aload_n 0, 1) := by decide +kernel
theorem dX4_highest_24 : decode cX4_highest 24 = .ok (.getfield 16, 3) := by decide +kernel
theorem dX4_highest_27 : decode cX4_highest 27 = .ok (.aload_n 0, 1) := by decide +kernel
theorem dX4_highest_28 : decode cX4_highest 28 = .ok (.getfield 10, 3) := by decide +kernel
theorem dX4_highest_31 : decode cX4_highest 31 = .ok (.invokevirtual 125, 3) := by decide +kernel
theorem dX4_highest_34 : decode cX4_highest 34 = .ok (.getstatic 76, 3) := by decide +kernel
theorem dX4_highest_37 : decode cX4_highest 37 = .ok (.iconst 0, 1) := by decide +kernel
theorem dX4_highest_38 : decode cX4_highest 38 = .ok (.iaload, 1) := by decide +kernel
theorem dX4_highest_39 : decode cX4_highest 39 = .ok (.istore_n 3, 1) := by decide +kernel
theorem dX4_highest_40 : decode cX4_highest 40 = .ok (.iload_n 3, 1) := by decide +kernel
theorem dX4_highest_41 : decode cX4_highest 41 = .ok (.ifCond .lt 29, 3) := by decide +kernel
theorem dX4_highest_44 : decode cX4_highest 44 = .ok (.aload_n 0, 1) := by decide +kernel
theorem dX4_highest_45 : decode cX4_highest 45 = .ok (.getfield 16, 3) := by decide +kernel
theorem dX4_highest_48 : decode cX4_highest 48 = .ok (.iload_n 1, 1) := by decide +kernel
theorem dX4_highest_49 : decode cX4_highest 49 = .ok (.iconst 0, 1) := by decide +kernel
theorem dX4_highest_50 : decode cX4_highest 50 = .ok (.iload_n 3, 1) := by decide +kernel
theorem dX4_highest_51 : decode cX4_highest 51 = .ok (.invokevirtual 83, 3) := by decide +kernel
theorem dX4_highest_54 : decode cX4_highest 54 = .ok (.aload_n 0, 1) := by decide +kernel
theorem dX4_highest_55 : decode cX4_highest 55 = .ok (.iload_n 2, 1) := by decide +kernel
theorem dX4_highest_56 : decode cX4_highest 56 = .ok (.invokevirtual 163, 3) := by decide +kernel
theorem dX4_highest_59 : decode cX4_highest 59 = .ok (.ifCond .eq 5, 3) := by decide +kernel
theorem dX4_highest_62 : decode cX4_highest 62 = .ok (.iload_n 3, 1) := by decide +kernel
theorem dX4_highest_63 : decode cX4_highest 63 = .ok (.ireturn, 1) := by decide +kernel
theorem dX4_highest_64 : decode cX4_highest 64 = .ok (.iinc 3 (-1), 3) := by decide +kernel
theorem dX4_highest_67 : decode cX4_highest 67 = .ok (.goto (-27), 3) := by decide +kernel
theorem dX4_highest_70 : decode cX4_highest 70 = .ok (.bipush (-6), 2) := by decide +kernel
theorem dX4_highest_72 : decode cX4_highest 72 = .ok (.ireturn, 1) := by decide +kernel
theorem dX4_bored_0 : decode cX4_bored 0 = .ok (.iload_n 1, 1) := by decide +kernel
theorem dX4_bored_1 : decode cX4_bored 1 = .ok (.getstatic 76, 3) := by decide +kernel
theorem dX4_bored_4 : decode cX4_bored 4 = .ok (.iconst 0, 1) := by decide +kernel
theorem dX4_bored_5 : decode cX4_bored 5 = .ok (.iaload, 1) := by decide +kernel
theorem dX4_bored_6 : decode cX4_bored 6 = .ok (.invokestatic 72, 3) := by decide +kernel
theorem dX4_bored_9 : decode cX4_bored 9 = .ok (.ifCond .eq 23, 3) := by decide +kernel
theorem dX4_bored_12 : decode cX4_bored 12 = .ok (.iload_n 2, 1) := by decide +kernel
theorem dX4_bored_13 : decode cX4_bored 13 = .ok (.getstatic 76, 3) := by decide +kernel
theorem dX4_bored_16 : decode cX4_bored 16 = .ok (.iconst 1, 1) := by decide +kernel
theorem dX4_bored_17 : decode cX4_bored 17 = .ok (.iaload, 1) := by decide +kernel
theorem dX4_bored_18 : decode cX4_bored 18 = .ok (.invokestatic 72, 3) := by decide +kernel
theorem dX4_bored_21 : decode cX4_bored 21 = .ok (.ifCond .eq 11, 3) := by decide +kernel
theorem dX4_bored_24 : decode cX4_bored 24 = .ok (.iload_n 3, 1) := by decide +kernel
theorem dX4_bored_25 : decode cX4_bored 25 = .ok (.iconst 1, 1) := by decide +kernel
theorem dX4_bored_26 : decode cX4_bored 26 = .ok (.invokestatic 72, 3) := by decide +kernel
theorem dX4_bored_29 : decode cX4_bored 29 = .ok (.ifCond .ne 6, 3) := by decide +kernel
theorem dX4_bored_32 : decode cX4_bored 32 = .ok (.bipush (-2), 2) := by decide +kernel
theorem dX4_bored_34 : decode cX4_bored 34 = .ok (.ireturn, 1) := by decide +kernel
theorem dX4_bored_35 : decode cX4_bored 35 = .ok (.aload_n 0, 1) := by decide +kernel
theorem dX4_bored_36 : decode cX4_bored 36 = .ok (.getfield 10, 3) := by decide +kernel
theorem dX4_bored_39 : decode cX4_bored 39 = .ok (.getfield 60, 3) := by decide +kernel
theorem dX4_bored_42 : decode cX4_bored 42 = .ok (.bipush 9, 2) := by decide +kernel
theorem dX4_bored_44 : decode cX4_bored 44 = .ok (.if_icmp .lt 6, 3) := by decide +kernel
theorem dX4_bored_47 : decode cX4_bored 47 = .ok (.bipush (-3), 2) := by decide +kernel
theorem dX4_bored_49 : decode cX4_bored 49 = .ok (.ireturn, 1) := by decide +kernel
theorem dX4_bored_50 : decode cX4_bored 50 = .ok (.aload_n 0, 1) := by decide +kernel
theorem dX4_bored_51 : decode cX4_bored 51 = .ok (.getfield 26, 3) := by decide +kernel
theorem dX4_bored_54 : decode cX4_bored 54 = .ok (.aload_n 0, 1) := by decide +kernel
theorem dX4_bored_55 : decode cX4_bored 55 = .ok (.getfield 10, 3) := by decide +kernel
theorem dX4_bored_58 : decode cX4_bored 58 = .ok (.iconst 0, 1) := by decide +kernel
theorem dX4_bored_59 : decode cX4_bored 59 = .ok (.invokevirtual 135, 3) := by decide +kernel
theorem dX4_bored_62 : decode cX4_bored 62 = .ok (.bipush (-6), 2) := by decide +kernel
theorem dX4_bored_64 : decode cX4_bored 64 = .ok (.istore 4, 2) := by decide +kernel
theorem dX4_bored_66 : decode cX4_bored 66 = .ok (.iconst 0, 1) := by decide +kernel
theorem dX4_bored_67 : decode cX4_bored 67 = .ok (.istore 5, 2) := by decide +kernel
theorem dX4_bored_69 : decode cX4_bored 69 = .ok (.iconst 0, 1) := by decide +kernel
theorem dX4_bored_70 : decode cX4_bored 70 = .ok (.istore 6, 2) := by decide +kernel
theorem dX4_bored_72 : decode cX4_bored 72 = .ok (.iload 6, 2) := by decide +kernel
theorem dX4_bored_74 : decode cX4_bored 74 = .ok (.aload_n 0, 1) := by decide +kernel
theorem dX4_bored_75 : decode cX4_bored 75 = .ok (.getfield 10, 3) := by decide +kernel
theorem dX4_bored_78 : decode cX4_bored 78 = .ok (.getfield 60, 3) := by decide +kernel
theorem dX4_bored_81 : decode cX4_bored 81 = .ok (.if_icmp .gt 34, 3) := by decide +kernel
theorem dX4_bored_84 : decode cX4_bored 84 = .ok (.aload_n 0, 1) := by decide +kernel
theorem dX4_bored_85 : decode cX4_bored 85 = .ok (.iload 6, 2) := by decide +kernel
theorem dX4_bored_87 : decode cX4_bored 87 = .ok (.iload_n 1, 1) := by decide +kernel
theorem dX4_bored_88 : decode cX4_bored 88 = .ok (.iload_n 2, 1) := by decide +kernel
theorem dX4_bored_89 : decode cX4_bored 89 = .ok (.invokevirtual 166, 3) := by decide +kernel
theorem dX4_bored_92 : decode cX4_bored 92 = .ok (.istore 7, 2) := by decide +kernel
theorem dX4_bored_94 : decode cX4_bored 94 = .ok (.iload 7, 2) := by decide +kernel
theorem dX4_bored_96 : decode cX4_bored 96 = .ok (.iload 5, 2) := by decide +kernel
theorem dX4_bored_98 : decode cX4_bored 98 = .ok (.if_icmp .le 11, 3) := by decide +kernel
theorem dX4_bored_101 : decode cX4_bored 101 = .ok (.iload 7, 2) := by decide +kernel
theorem dX4_bored_103 : decode cX4_bored 103 = .ok (.istore 5, 2) := by decide +kernel
theorem dX4_bored_105 : decode cX4_bored 105 = .ok (.iload 6, 2) := by decide +kernel
theorem dX4_bored_107 : decode cX4_bored 107 = .ok (.istore 4, 2) := by decide +kernel
theorem dX4_bored_109 : decode cX4_bored 109 = .ok (.iinc 6 1, 3) := by decide +kernel
theorem dX4_bored_112 : decode cX4_bored 112 = .ok (.goto (-40), 3) := by decide +kernel
theorem dX4_bored_115 : decode cX4_bored 115 = .ok (.iload 4, 2) := by decide +kernel
theorem dX4_bored_117 : decode cX4_bored 117 = .ok (.bipush (-6), 2) := by decide +kernel
theorem dX4_bored_119 : decode cX4_bored 119 = .ok (.if_icmp .ne 6, 3) := by decide +kernel
theorem dX4_bored_122 : decode cX4_bored 122 = .ok (.bipush (-6), 2) := by decide +kernel
theorem dX4_bored_124 : decode cX4_bored 124 = .ok (.ireturn, 1) := by decide +kernel
theorem dX4_bored_125 : decode cX4_bored 125 = .ok (.iload_n 3, 1) := by decide +kernel
theorem dX4_bored_126 : decode cX4_bored 126 = .ok (.ifCond .ne 8, 3) := by decide +kernel
theorem dX4_bored_129 : decode cX4_bored 129 = .ok (.iload 4, 2) := by decide +kernel
theorem dX4_bored_131 : decode cX4_bored 131 = .ok (.goto 5, 3) := by decide +kernel
theorem dX4_bored_134 : decode cX4_bored 134 = .ok (.iload 5, 2) := by decide +kernel
theorem dX4_bored_136 : decode cX4_bored 136 = .ok (.ireturn, 1) := by decide +kernel
theorem dX4_fair_0 : decode cX4_fair 0 = .ok (.aload_n 0, 1) := by decide +kernel
theorem dX4_fair_1 : decode cX4_fair 1 = .ok (.getfield 16, 3) := by decide +kernel
theorem dX4_fair_4 : decode cX4_fair 4 = .ok (.aload_n 0, 1) := by decide +kernel
theorem dX4_fair_5 : decode cX4_fair 5 = .ok (.getfield 10, 3) := by decide +kernel
theorem dX4_fair_8 : decode cX4_fair 8 = .ok (.invokevirtual 125, 3) := by decide +kernel
theorem dX4_fair_11 : decode cX4_fair 11 = .ok (.getstatic 76, 3) := by decide +kernel
theorem dX4_fair_14 : decode cX4_fair 14 = .ok (.iconst 1, 1) := by decide +kernel
theorem dX4_fair_15 : decode cX4_fair 15 = .ok (.iaload, 1) := by decide +kernel
theorem dX4_fair_16 : decode cX4_fair 16 = .ok (.istore_n 1, 1) := by decide +kernel
theorem dX4_fair_17 : decode cX4_fair 17 = .ok (.iload_n 1, 1) := by decide +kernel
theorem dX4_fair_18 : decode cX4_fair 18 = .ok (.ifCond .le 19, 3) := by decide +kernel
theorem dX4_fair_21 : decode cX4_fair 21 = .ok (.aload_n 0, 1) := by decide +kernel
theorem dX4_fair_22 : decode cX4_fair 22 = .ok (.iload_n 1, 1) := by decide +kernel
theorem dX4_fair_23 : decode cX4_fair 23 = .ok (.invokevirtual 170, 3) := by decide +kernel
theorem dX4_fair_26 : decode cX4_fair 26 = .ok (.ifCond .eq 5, 3) := by decide +kernel
theorem dX4_fair_29 : decode cX4_fair 29 = .ok (.iload_n 1, 1) := by decide +kernel
theorem dX4_fair_30 : decode cX4_fair 30 = .ok (.ireturn, 1) := by decide +kernel
theorem dX4_fair_31 : decode cX4_fair 31 = .ok (.iinc 1 (-1), 3) := by decide +kernel
theorem dX4_fair_34 : decode cX4_fair 34 = .ok (.goto (-17), 3) := by decide +kernel
theorem dX4_fair_37 : decode cX4_fair 37 = .ok (.iconst 0, 1) := by decide +kernel
theorem dX4_fair_38 : decode cX4_fair 38 = .ok (.ireturn, 1) := by decide +kernel
theorem dX4_dry_0 : decode cX4_dry 0 = .ok (.iload_n 1, 1) := by decide +kernel
theorem dX4_dry_1 : decode cX4_dry 1 = .ok (.getstatic 87, 3) := by decide +kernel
theorem dX4_dry_4 : decode cX4_dry 4 = .ok (.iconst 0, 1) := by decide +kernel
theorem dX4_dry_5 : decode cX4_dry 5 = .ok (.iaload, 1) := by decide +kernel
theorem dX4_dry_6 : decode cX4_dry 6 = .ok (.invokestatic 72, 3) := by decide +kernel
theorem dX4_dry_9 : decode cX4_dry 9 = .ok (.ifCond .ne 6, 3) := by decide +kernel
theorem dX4_dry_12 : decode cX4_dry 12 = .ok (.bipush (-2), 2) := by decide +kernel
theorem dX4_dry_14 : decode cX4_dry 14 = .ok (.ireturn, 1) := by decide +kernel
theorem dX4_dry_15 : decode cX4_dry 15 = .ok (.aload_n 0, 1) := by decide +kernel
theorem dX4_dry_16 : decode cX4_dry 16 = .ok (.getfield 26, 3) := by decide +kernel
theorem dX4_dry_19 : decode cX4_dry 19 = .ok (.aload_n 0, 1) := by decide +kernel
theorem dX4_dry_20 : decode cX4_dry 20 = .ok (.getfield 10, 3) := by decide +kernel
theorem dX4_dry_23 : decode cX4_dry 23 = .ok (.iconst 0, 1) := by decide +kernel
theorem dX4_dry_24 : decode cX4_dry 24 = .ok (.invokevirtual 135, 3) := by decide +kernel
theorem dX4_dry_27 : decode cX4_dry 27 = .ok (.aload_n 0, 1) := by decide +kernel
theorem dX4_dry_28 : decode cX4_dry 28 = .ok (.getfield 16, 3) := by decide +kernel
theorem dX4_dry_31 : decode cX4_dry 31 = .ok (.aload_n 0, 1) := by decide +kernel
theorem dX4_dry_32 : decode cX4_dry 32 = .ok (.getfield 10, 3) := by decide +kernel
theorem dX4_dry_35 : decode cX4_dry 35 = .ok (.invokevirtual 125, 3) := by decide +kernel
theorem dX4_dry_38 : decode cX4_dry 38 = .ok (.aload_n 0, 1) := by decide +kernel
theorem dX4_dry_39 : decode cX4_dry 39 = .ok (.getfield 16, 3) := by decide +kernel
theorem dX4_dry_42 : decode cX4_dry 42 = .ok (.getfield 90, 3) := by decide +kernel
theorem dX4_dry_45 : decode cX4_dry 45 = .ok (.iconst 0, 1) := by decide +kernel
theorem dX4_dry_46 : decode cX4_dry 46 = .ok (.iconst 0, 1) := by decide +kernel
theorem dX4_dry_47 : decode cX4_dry 47 = .ok (.aload_n 0, 1) := by decide +kernel
theorem dX4_dry_48 : decode cX4_dry 48 = .ok (.getfield 10, 3) := by decide +kernel
theorem dX4_dry_51 : decode cX4_dry 51 = .ok (.getfield 90, 3) := by decide +kernel
theorem dX4_dry_54 : decode cX4_dry 54 = .ok (.iconst 0, 1) := by decide +kernel
theorem dX4_dry_55 : decode cX4_dry 55 = .ok (.iaload, 1) := by decide +kernel
theorem dX4_dry_56 : decode cX4_dry 56 = .ok (.iload_n 1, 1) := by decide +kernel
theorem dX4_dry_57 : decode cX4_dry 57 = .ok (.isub, 1) := by decide +kernel
theorem dX4_dry_58 : decode cX4_dry 58 = .ok (.invokestatic 155, 3) := by decide +kernel
theorem dX4_dry_61 : decode cX4_dry 61 = .ok (.iastore, 1) := by decide +kernel
theorem dX4_dry_62 : decode cX4_dry 62 = .ok (.aload_n 0, 1) := by decide +kernel
theorem dX4_dry_63 : decode cX4_dry 63 = .ok (.getfield 30, 3) := by decide +kernel
theorem dX4_dry_66 : decode cX4_dry 66 = .ok (.aload_n 0, 1) := by decide +kernel
theorem dX4_dry_67 : decode cX4_dry 67 = .ok (.getfield 16, 3) := by decide +kernel
theorem dX4_dry_70 : decode cX4_dry 70 = .ok (.iconst 0, 1) := by decide +kernel
theorem dX4_dry_71 : decode cX4_dry 71 = .ok (.invokevirtual 135, 3) := by decide +kernel
theorem dX4_dry_74 : decode cX4_dry 74 = .ok (.iconst 0, 1) := by decide +kernel
theorem dX4_dry_75 : decode cX4_dry 75 = .ok (.istore_n 2, 1) := by decide +kernel
theorem dX4_dry_76 : decode cX4_dry 76 = .ok (.iload_n 2, 1) := by decide +kernel
theorem dX4_dry_77 : decode cX4_dry 77 = .ok (.aload_n 0, 1) := by decide +kernel
theorem dX4_dry_78 : decode cX4_dry 78 = .ok (.getfield 10, 3) := by decide +kernel
theorem dX4_dry_81 : decode cX4_dry 81 = .ok (.getfield 60, 3) := by decide +kernel
theorem dX4_dry_84 : decode cX4_dry 84 = .ok (.if_icmp .ge 32, 3) := by decide +kernel
theorem dX4_dry_87 : decode cX4_dry 87 = .ok (.aload_n 0, 1) := by decide +kernel
theorem dX4_dry_88 : decode cX4_dry 88 = .ok (.getfield 30, 3) := by decide +kernel
theorem dX4_dry_91 : decode cX4_dry 91 = .ok (.getfield 139, 3) := by decide +kernel
theorem dX4_dry_94 : decode cX4_dry 94 = .ok (.iload_n 2, 1) := by decide +kernel
theorem dX4_dry_95 : decode cX4_dry 95 = .ok (.iaload, 1) := by decide +kernel
theorem dX4_dry_96 : decode cX4_dry 96 = .ok (.aload_n 0, 1) := by decide +kernel
theorem dX4_dry_97 : decode cX4_dry 97 = .ok (.getfield 26, 3) := by decide +kernel
theorem dX4_dry_100 : decode cX4_dry 100 = .ok (.getfield 139, 3) := by decide +kernel
theorem dX4_dry_103 : decode cX4_dry 103 = .ok (.iload_n 2, 1) := by decide +kernel
theorem dX4_dry_104 : decode cX4_dry 104 = .ok (.iaload, 1) := by decide +kernel
theorem dX4_dry_105 : decode cX4_dry 105 = .ok (.if_icmp .ge 5, 3) := by decide +kernel
theorem dX4_dry_108 : decode cX4_dry 108 = .ok (.iload_n 2, 1) := by decide +kernel
theorem dX4_dry_109 : decode cX4_dry 109 = .ok (.ireturn, 1) := by decide +kernel
theorem dX4_dry_110 : decode cX4_dry 110 = .ok (.iinc 2 1, 3) := by decide +kernel
theorem dX4_dry_113 : decode cX4_dry 113 = .ok (.goto (-37), 3) := by decide +kernel
theorem dX4_dry_116 : decode cX4_dry 116 = .ok (.bipush (-6), 2) := by decide +kernel
theorem dX4_dry_118 : decode cX4_dry 118 = .ok (.ireturn, 1) := by decide +kernel
theorem dX4_within_0 : decode cX4_within 0 = .ok (.iload_n 0, 1) := by decide +kernel
theorem dX4_within_1 : decode cX4_within 1 = .ok (.ifCond .lt 12, 3) := by decide +kernel
theorem dX4_within_4 : decode cX4_within 4 = .ok (.iload_n 0, 1) := by decide +kernel
theorem dX4_within_5 : decode cX4_within 5 = .ok (.iload_n 1, 1) := by decide +kernel
theorem dX4_within_6 : decode cX4_within 6 = .ok (.if_icmp .gt 7, 3) := by decide +kernel
theorem dX4_within_9 : decode cX4_within 9 = .ok (.iconst 1, 1) := by decide +kernel
theorem dX4_within_10 : decode cX4_within 10 = .ok (.goto 4, 3) := by decide +kernel
theorem dX4_within_13 : decode cX4_within 13 = .ok (.iconst 0, 1) := by decide +kernel
theorem dX4_within_14 : decode cX4_within 14 = .ok (.ireturn, 1) := by decide +kernel
theorem dX4_isHours_0 : decode cX4_isHours 0 = .ok (.iload_n 0, 1) := by decide +kernel
theorem dX4_isHours_1 : decode cX4_isHours 1 = .ok (.iconst 1, 1) := by decide +kernel
theorem dX4_isHours_2 : decode cX4_isHours 2 = .ok (.if_icmp .lt 13, 3) := by decide +kernel
theorem dX4_isHours_5 : decode cX4_isHours 5 = .ok (.iload_n 0, 1) := by decide +kernel
theorem dX4_isHours_6 : decode cX4_isHours 6 = .ok (.bipush 24, 2) := by decide +kernel
theorem dX4_isHours_8 : decode cX4_isHours 8 = .ok (.if_icmp .gt 7, 3) := by decide +kernel
theorem dX4_isHours_11 : decode cX4_isHours 11 = .ok (.iconst 1, 1) := by decide +kernel
theorem dX4_isHours_12 : decode cX4_isHours 12 = .ok (.goto 4, 3) := by decide +kernel
theorem dX4_isHours_15 : decode cX4_isHours 15 = .ok (.iconst 0, 1) := by decide +kernel
theorem dX4_isHours_16 : decode cX4_isHours 16 = .ok (.ireturn, 1) := by decide +kernel
theorem dX4_allHaveIn_0 : decode cX4_allHaveIn 0 = .ok (.aload_n 0, 1) := by decide +kernel
theorem dX4_allHaveIn_1 : decode cX4_allHaveIn 1 = .ok (.getfield 30, 3) := by decide +kernel
theorem dX4_allHaveIn_4 : decode cX4_allHaveIn 4 = .ok (.aload_n 0, 1) := by decide +kernel
theorem dX4_allHaveIn_5 : decode cX4_allHaveIn 5 = .ok (.getfield 16, 3) := by decide +kernel
theorem dX4_allHaveIn_8 : decode cX4_allHaveIn 8 = .ok (.iconst 0, 1) := by decide +kernel
theorem dX4_allHaveIn_9 : decode cX4_allHaveIn 9 = .ok (.invokevirtual 135, 3) := by decide +kernel
theorem dX4_allHaveIn_12 : decode cX4_allHaveIn 12 = .ok (.iconst 0, 1) := by decide +kernel
theorem dX4_allHaveIn_13 : decode cX4_allHaveIn 13 = .ok (.istore_n 2, 1) := by decide +kernel
theorem dX4_allHaveIn_14 : decode cX4_allHaveIn 14 = .ok (.iload_n 2, 1) := by decide +kernel
theorem dX4_allHaveIn_15 : decode cX4_allHaveIn 15 = .ok (.aload_n 0, 1) := by decide +kernel
theorem dX4_allHaveIn_16 : decode cX4_allHaveIn 16 = .ok (.getfield 16, 3) := by decide +kernel
theorem dX4_allHaveIn_19 : decode cX4_allHaveIn 19 = .ok (.getfield 60, 3) := by decide +kernel
theorem dX4_allHaveIn_22 : decode cX4_allHaveIn 22 = .ok (.if_icmp .ge 33, 3) := by decide +kernel
theorem dX4_allHaveIn_25 : decode cX4_allHaveIn 25 = .ok (.iload_n 1, 1) := by decide +kernel
theorem dX4_allHaveIn_26 : decode cX4_allHaveIn 26 = .ok (.aload_n 0, 1) := by decide +kernel
theorem dX4_allHaveIn_27 : decode cX4_allHaveIn 27 = .ok (.getfield 30, 3) := by decide +kernel
theorem dX4_allHaveIn_30 : decode cX4_allHaveIn 30 = .ok (.getfield 139, 3) := by decide +kernel
theorem dX4_allHaveIn_33 : decode cX4_allHaveIn 33 = .ok (.iload_n 2, 1) := by decide +kernel
theorem dX4_allHaveIn_34 : decode cX4_allHaveIn 34 = .ok (.iaload, 1) := by decide +kernel
theorem dX4_allHaveIn_35 : decode cX4_allHaveIn 35 = .ok (.imul, 1) := by decide +kernel
theorem dX4_allHaveIn_36 : decode cX4_allHaveIn 36 = .ok (.aload_n 0, 1) := by decide +kernel
theorem dX4_allHaveIn_37 : decode cX4_allHaveIn 37 = .ok (.getfield 16, 3) := by decide +kernel
theorem dX4_allHaveIn_40 : decode cX4_allHaveIn 40 = .ok (.iload_n 2, 1) := by decide +kernel
theorem dX4_allHaveIn_41 : decode cX4_allHaveIn 41 = .ok (.invokevirtual 152, 3) := by decide +kernel
theorem dX4_allHaveIn_44 : decode cX4_allHaveIn 44 = .ok (.if_icmp .ge 5, 3) := by decide +kernel
theorem dX4_allHaveIn_47 : decode cX4_allHaveIn 47 = .ok (.iconst 0, 1) := by decide +kernel
theorem dX4_allHaveIn_48 : decode cX4_allHaveIn 48 = .ok (.ireturn, 1) := by decide +kernel
theorem dX4_allHaveIn_49 : decode cX4_allHaveIn 49 = .ok (.iinc 2 1, 3) := by decide +kernel
theorem dX4_allHaveIn_52 : decode cX4_allHaveIn 52 = .ok (.goto (-38), 3) := by decide +kernel
theorem dX4_allHaveIn_55 : decode cX4_allHaveIn 55 = .ok (.iconst 1, 1) := by decide +kernel
theorem dX4_allHaveIn_56 : decode cX4_allHaveIn 56 = .ok (.ireturn, 1) := by decide +kernel
theorem dX4_takenIfBoredAt_0 : decode cX4_takenIfBoredAt 0 = .ok (.aload_n 0, 1) := by decide +kernel
theorem dX4_takenIfBoredAt_1 : decode cX4_takenIfBoredAt 1 = .ok (.getfield 16, 3) := by decide +kernel
theorem dX4_takenIfBoredAt_4 : decode cX4_takenIfBoredAt 4 = .ok (.aload_n 0, 1) := by decide +kernel
theorem dX4_takenIfBoredAt_5 : decode cX4_takenIfBoredAt 5 = .ok (.getfield 10, 3) := by decide +kernel
theorem dX4_takenIfBoredAt_8 : decode cX4_takenIfBoredAt 8 = .ok (.iload_n 1, 1) := by decide +kernel
theorem dX4_takenIfBoredAt_9 : decode cX4_takenIfBoredAt 9 = .ok (.iload_n 2, 1) := by decide +kernel
theorem dX4_takenIfBoredAt_10 : decode cX4_takenIfBoredAt 10 = .ok (.iload_n 3, 1) := by decide +kernel
theorem dX4_takenIfBoredAt_11 : decode cX4_takenIfBoredAt 11 = .ok (.invokevirtual 173, 3) := by decide +kernel
theorem dX4_takenIfBoredAt_14 : decode cX4_takenIfBoredAt 14 = .ok (.aload_n 0, 1) := by decide +kernel
theorem dX4_takenIfBoredAt_15 : decode cX4_takenIfBoredAt 15 = .ok (.getfield 30, 3) := by decide +kernel
theorem dX4_takenIfBoredAt_18 : decode cX4_takenIfBoredAt 18 = .ok (.aload_n 0, 1) := by decide +kernel
theorem dX4_takenIfBoredAt_19 : decode cX4_takenIfBoredAt 19 = .ok (.getfield 16, 3) := by decide +kernel
theorem dX4_takenIfBoredAt_22 : decode cX4_takenIfBoredAt 22 = .ok (.iconst 0, 1) := by decide +kernel
theorem dX4_takenIfBoredAt_23 : decode cX4_takenIfBoredAt 23 = .ok (.invokevirtual 135, 3) := by decide +kernel
theorem dX4_takenIfBoredAt_26 : decode cX4_takenIfBoredAt 26 = .ok (.iconst 0, 1) := by decide +kernel
theorem dX4_takenIfBoredAt_27 : decode cX4_takenIfBoredAt 27 = .ok (.istore 4, 2) := by decide +kernel
theorem dX4_takenIfBoredAt_29 : decode cX4_takenIfBoredAt 29 = .ok (.iload 4, 2) := by decide +kernel
theorem dX4_takenIfBoredAt_31 : decode cX4_takenIfBoredAt 31 = .ok (.aload_n 0, 1) := by decide +kernel
theorem dX4_takenIfBoredAt_32 : decode cX4_takenIfBoredAt 32 = .ok (.getfield 10, 3) := by decide +kernel
theorem dX4_takenIfBoredAt_35 : decode cX4_takenIfBoredAt 35 = .ok (.getfield 60, 3) := by decide +kernel
theorem dX4_takenIfBoredAt_38 : decode cX4_takenIfBoredAt 38 = .ok (.if_icmp .ge 51, 3) := by decide +kernel
theorem dX4_takenIfBoredAt_41 : decode cX4_takenIfBoredAt 41 = .ok (.iload 4, 2) := by decide +kernel
theorem dX4_takenIfBoredAt_43 : decode cX4_takenIfBoredAt 43 = .ok (.iload_n 1, 1) := by decide +kernel
theorem dX4_takenIfBoredAt_44 : decode cX4_takenIfBoredAt 44 = .ok (.if_icmp .ge 8, 3) := by decide +kernel
theorem dX4_takenIfBoredAt_47 : decode cX4_takenIfBoredAt 47 = .ok (.iload 4, 2) := by decide +kernel
theorem dX4_takenIfBoredAt_49 : decode cX4_takenIfBoredAt 49 = .ok (.goto 7, 3) := by decide +kernel
theorem dX4_takenIfBoredAt_52 : decode cX4_takenIfBoredAt 52 = .ok (.iload 4, 2) := by decide +kernel
theorem dX4_takenIfBoredAt_54 : decode cX4_takenIfBoredAt 54 = .ok (.iconst 1, 1) := by decide +kernel
theorem dX4_takenIfBoredAt_55 : decode cX4_takenIfBoredAt 55 = .ok (.iadd, 1) := by decide +kernel
theorem dX4_takenIfBoredAt_56 : decode cX4_takenIfBoredAt 56 = .ok (.istore 5, 2) := by decide +kernel
theorem dX4_takenIfBoredAt_58 : decode cX4_takenIfBoredAt 58 = .ok (.aload_n 0, 1) := by decide +kernel
theorem dX4_takenIfBoredAt_59 : decode cX4_takenIfBoredAt 59 = .ok (.getfield 30, 3) := by decide +kernel
theorem dX4_takenIfBoredAt_62 : decode cX4_takenIfBoredAt 62 = .ok (.getfield 139, 3) := by decide +kernel
theorem dX4_takenIfBoredAt_65 : decode cX4_takenIfBoredAt 65 = .ok (.iload 5, 2) := by decide +kernel
theorem dX4_takenIfBoredAt_67 : decode cX4_takenIfBoredAt 67 = .ok (.iaload, 1) := by decide +kernel
theorem dX4_takenIfBoredAt_68 : decode cX4_takenIfBoredAt 68 = .ok (.aload_n 0, 1) := by decide +kernel
theorem dX4_takenIfBoredAt_69 : decode cX4_takenIfBoredAt 69 = .ok (.getfield 26, 3) := by decide +kernel
theorem dX4_takenIfBoredAt_72 : decode cX4_takenIfBoredAt 72 = .ok (.getfield 139, 3) := by decide +kernel
theorem dX4_takenIfBoredAt_75 : decode cX4_takenIfBoredAt 75 = .ok (.iload 4, 2) := by decide +kernel
theorem dX4_takenIfBoredAt_77 : decode cX4_takenIfBoredAt 77 = .ok (.iaload, 1) := by decide +kernel
theorem dX4_takenIfBoredAt_78 : decode cX4_takenIfBoredAt 78 = .ok (.if_icmp .ge 5, 3) := by decide +kernel
theorem dX4_takenIfBoredAt_81 : decode cX4_takenIfBoredAt 81 = .ok (.iconst 0, 1) := by decide +kernel
theorem dX4_takenIfBoredAt_82 : decode cX4_takenIfBoredAt 82 = .ok (.ireturn, 1) := by decide +kernel
theorem dX4_takenIfBoredAt_83 : decode cX4_takenIfBoredAt 83 = .ok (.iinc 4 1, 3) := by decide +kernel
theorem dX4_takenIfBoredAt_86 : decode cX4_takenIfBoredAt 86 = .ok (.goto (-57), 3) := by decide +kernel
theorem dX4_takenIfBoredAt_89 : decode cX4_takenIfBoredAt 89 = .ok (.aload_n 0, 1) := by decide +kernel
theorem dX4_takenIfBoredAt_90 : decode cX4_takenIfBoredAt 90 = .ok (.getfield 30, 3) := by decide +kernel
theorem dX4_takenIfBoredAt_93 : decode cX4_takenIfBoredAt 93 = .ok (.getfield 139, 3) := by decide +kernel
theorem dX4_takenIfBoredAt_96 : decode cX4_takenIfBoredAt 96 = .ok (.iload_n 1, 1) := by decide +kernel
theorem dX4_takenIfBoredAt_97 : decode cX4_takenIfBoredAt 97 = .ok (.iaload, 1) := by decide +kernel
theorem dX4_takenIfBoredAt_98 : decode cX4_takenIfBoredAt 98 = .ok (.ireturn, 1) := by decide +kernel
theorem dX4_isFair_0 : decode cX4_isFair 0 = .ok (.iconst 0, 1) := by decide +kernel
theorem dX4_isFair_1 : decode cX4_isFair 1 = .ok (.istore_n 2, 1) := by decide +kernel
theorem dX4_isFair_2 : decode cX4_isFair 2 = .ok (.iload_n 2, 1) := by decide +kernel
theorem dX4_isFair_3 : decode cX4_isFair 3 = .ok (.aload_n 0, 1) := by decide +kernel
theorem dX4_isFair_4 : decode cX4_isFair 4 = .ok (.getfield 16, 3) := by decide +kernel
theorem dX4_isFair_7 : decode cX4_isFair 7 = .ok (.getfield 60, 3) := by decide +kernel
theorem dX4_isFair_10 : decode cX4_isFair 10 = .ok (.if_icmp .ge 19, 3) := by decide +kernel
theorem dX4_isFair_13 : decode cX4_isFair 13 = .ok (.aload_n 0, 1) := by decide +kernel
theorem dX4_isFair_14 : decode cX4_isFair 14 = .ok (.getfield 16, 3) := by decide +kernel
theorem dX4_isFair_17 : decode cX4_isFair 17 = .ok (.iload_n 2, 1) := by decide +kernel
theorem dX4_isFair_18 : decode cX4_isFair 18 = .ok (.iconst 1, 1) := by decide +kernel
theorem dX4_isFair_19 : decode cX4_isFair 19 = .ok (.iload_n 1, 1) := by decide +kernel
theorem dX4_isFair_20 : decode cX4_isFair 20 = .ok (.invokevirtual 83, 3) := by decide +kernel
theorem dX4_isFair_23 : decode cX4_isFair 23 = .ok (.iinc 2 1, 3) := by decide +kernel
theorem dX4_isFair_26 : decode cX4_isFair 26 = .ok (.goto (-24), 3) := by decide +kernel
theorem dX4_isFair_29 : decode cX4_isFair 29 = .ok (.aload_n 0, 1) := by decide +kernel
theorem dX4_isFair_30 : decode cX4_isFair 30 = .ok (.getfield 30, 3) := by decide +kernel
theorem dX4_isFair_33 : decode cX4_isFair 33 = .ok (.aload_n 0, 1) := by decide +kernel
theorem dX4_isFair_34 : decode cX4_isFair 34 = .ok (.getfield 16, 3) := by decide +kernel
theorem dX4_isFair_37 : decode cX4_isFair 37 = .ok (.iconst 0, 1) := by decide +kernel
theorem dX4_isFair_38 : decode cX4_isFair 38 = .ok (.invokevirtual 135, 3) := by decide +kernel
theorem dX4_isFair_41 : decode cX4_isFair 41 = .ok (.iconst 0, 1) := by decide +kernel
theorem dX4_isFair_42 : decode cX4_isFair 42 = .ok (.istore_n 2, 1) := by decide +kernel
theorem dX4_isFair_43 : decode cX4_isFair 43 = .ok (.iload_n 2, 1) := by decide +kernel
theorem dX4_isFair_44 : decode cX4_isFair 44 = .ok (.aload_n 0, 1) := by decide +kernel
theorem dX4_isFair_45 : decode cX4_isFair 45 = .ok (.getfield 16, 3) := by decide +kernel
theorem dX4_isFair_48 : decode cX4_isFair 48 = .ok (.getfield 60, 3) := by decide +kernel
theorem dX4_isFair_51 : decode cX4_isFair 51 = .ok (.if_icmp .ge 36, 3) := by decide +kernel
theorem dX4_isFair_54 : decode cX4_isFair 54 = .ok (.aload_n 0, 1) := by decide +kernel
theorem dX4_isFair_55 : decode cX4_isFair 55 = .ok (.getfield 16, 3) := by decide +kernel
theorem dX4_isFair_58 : decode cX4_isFair 58 = .ok (.iload_n 2, 1) := by decide +kernel
theorem dX4_isFair_59 : decode cX4_isFair 59 = .ok (.iconst 4, 1) := by decide +kernel
theorem dX4_isFair_60 : decode cX4_isFair 60 = .ok (.invokevirtual 79, 3) := by decide +kernel
theorem dX4_isFair_63 : decode cX4_isFair 63 = .ok (.ifCond .ne 18, 3) := by decide +kernel
theorem dX4_isFair_66 : decode cX4_isFair 66 = .ok (.aload_n 0, 1) := by decide +kernel
theorem dX4_isFair_67 : decode cX4_isFair 67 = .ok (.getfield 30, 3) := by decide +kernel
theorem dX4_isFair_70 : decode cX4_isFair 70 = .ok (.getfield 139, 3) := by decide +kernel
theorem dX4_isFair_73 : decode cX4_isFair 73 = .ok (.iload_n 2, 1) := by decide +kernel
theorem dX4_isFair_74 : decode cX4_isFair 74 = .ok (.iaload, 1) := by decide +kernel
theorem dX4_isFair_75 : decode cX4_isFair 75 = .ok (.iload_n 1, 1) := by decide +kernel
theorem dX4_isFair_76 : decode cX4_isFair 76 = .ok (.if_icmp .eq 5, 3) := by decide +kernel
theorem dX4_isFair_79 : decode cX4_isFair 79 = .ok (.iconst 0, 1) := by decide +kernel
theorem dX4_isFair_80 : decode cX4_isFair 80 = .ok (.ireturn, 1) := by decide +kernel
theorem dX4_isFair_81 : decode cX4_isFair 81 = .ok (.iinc 2 1, 3) := by decide +kernel
theorem dX4_isFair_84 : decode cX4_isFair 84 = .ok (.goto (-41), 3) := by decide +kernel
theorem dX4_isFair_87 : decode cX4_isFair 87 = .ok (.iconst 1, 1) := by decide +kernel
theorem dX4_isFair_88 : decode cX4_isFair 88 = .ok (.ireturn, 1) := by decide +kernel
theorem dX4_seen_0 : decode cX4_seen 0 = .ok (.aload_n 0, 1) := by decide +kernel
theorem dX4_seen_1 : decode cX4_seen 1 = .ok (.getfield 10, 3) := by decide +kernel
theorem dX4_seen_4 : decode cX4_seen 4 = .ok (.iload_n 1, 1) := by decide +kernel
theorem dX4_seen_5 : decode cX4_seen 5 = .ok (.invokevirtual 68, 3) := by decide +kernel
theorem dX4_seen_8 : decode cX4_seen 8 = .ok (.ifCond .ne 5, 3) := by decide +kernel
theorem dX4_seen_11 : decode cX4_seen 11 = .ok (.iconst (-1), 1) := by decide +kernel
theorem dX4_seen_12 : decode cX4_seen 12 = .ok (.ireturn, 1) := by decide +kernel
theorem dX4_seen_13 : decode cX4_seen 13 = .ok (.iload_n 2, 1) := by decide +kernel
theorem dX4_seen_14 : decode cX4_seen 14 = .ok (.getstatic 76, 3) := by decide +kernel
theorem dX4_seen_17 : decode cX4_seen 17 = .ok (.iconst 1, 1) := by decide +kernel
theorem dX4_seen_18 : decode cX4_seen 18 = .ok (.iaload, 1) := by decide +kernel
theorem dX4_seen_19 : decode cX4_seen 19 = .ok (.invokestatic 72, 3) := by decide +kernel
theorem dX4_seen_22 : decode cX4_seen 22 = .ok (.ifCond .ne 6, 3) := by decide +kernel
theorem dX4_seen_25 : decode cX4_seen 25 = .ok (.bipush (-2), 2) := by decide +kernel
theorem dX4_seen_27 : decode cX4_seen 27 = .ok (.ireturn, 1) := by decide +kernel
theorem dX4_seen_28 : decode cX4_seen 28 = .ok (.aload_n 0, 1) := by decide +kernel
theorem dX4_seen_29 : decode cX4_seen 29 = .ok (.getfield 10, 3) := by decide +kernel
theorem dX4_seen_32 : decode cX4_seen 32 = .ok (.getfield 177, 3) := by decide +kernel
theorem dX4_seen_35 : decode cX4_seen 35 = .ok (.bipush 8, 2) := by decide +kernel
theorem dX4_seen_37 : decode cX4_seen 37 = .ok (.if_icmp .lt 6, 3) := by decide +kernel
theorem dX4_seen_40 : decode cX4_seen 40 = .ok (.bipush (-4), 2) := by decide +kernel
theorem dX4_seen_42 : decode cX4_seen 42 = .ok (.ireturn, 1) := by decide +kernel
theorem dX4_seen_43 : decode cX4_seen 43 = .ok (.aload_n 0, 1) := by decide +kernel
theorem dX4_seen_44 : decode cX4_seen 44 = .ok (.getfield 10, 3) := by decide +kernel
theorem dX4_seen_47 : decode cX4_seen 47 = .ok (.iload_n 1, 1) := by decide +kernel
theorem dX4_seen_48 : decode cX4_seen 48 = .ok (.iload_n 2, 1) := by decide +kernel
theorem dX4_seen_49 : decode cX4_seen 49 = .ok (.invokevirtual 180, 3) := by decide +kernel
theorem dX4_seen_52 : decode cX4_seen 52 = .ok (.aload_n 0, 1) := by decide +kernel
theorem dX4_seen_53 : decode cX4_seen 53 = .ok (.getfield 10, 3) := by decide +kernel
theorem dX4_seen_56 : decode cX4_seen 56 = .ok (.getfield 177, 3) := by decide +kernel
theorem dX4_seen_59 : decode cX4_seen 59 = .ok (.ireturn, 1) := by decide +kernel
theorem dX4_forget_0 : decode cX4_forget 0 = .ok (.aload_n 0, 1) := by decide +kernel
theorem dX4_forget_1 : decode cX4_forget 1 = .ok (.getfield 10, 3) := by decide +kernel
theorem dX4_forget_4 : decode cX4_forget 4 = .ok (.getfield 177, 3) := by decide +kernel
theorem dX4_forget_7 : decode cX4_forget 7 = .ok (.istore_n 1, 1) := by decide +kernel
theorem dX4_forget_8 : decode cX4_forget 8 = .ok (.aload_n 0, 1) := by decide +kernel
theorem dX4_forget_9 : decode cX4_forget 9 = .ok (.getfield 10, 3) := by decide +kernel
theorem dX4_forget_12 : decode cX4_forget 12 = .ok (.iconst 0, 1) := by decide +kernel
theorem dX4_forget_13 : decode cX4_forget 13 = .ok (.putfield 177, 3) := by decide +kernel
theorem dX4_forget_16 : decode cX4_forget 16 = .ok (.iload_n 1, 1) := by decide +kernel
theorem dX4_forget_17 : decode cX4_forget 17 = .ok (.ireturn, 1) := by decide +kernel
theorem dX4_leak_0 : decode cX4_leak 0 = .ok (.aload_n 0, 1) := by decide +kernel
theorem dX4_leak_1 : decode cX4_leak 1 = .ok (.invokevirtual 184, 3) := by decide +kernel
theorem dX4_leak_4 : decode cX4_leak 4 = .ok (.aload_n 0, 1) := by decide +kernel
theorem dX4_leak_5 : decode cX4_leak 5 = .ok (.iload_n 1, 1) := by decide +kernel
theorem dX4_leak_6 : decode cX4_leak 6 = .ok (.invokevirtual 187, 3) := by decide +kernel
theorem dX4_leak_9 : decode cX4_leak 9 = .ok (.ireturn, 1) := by decide +kernel
theorem dX4_borer_0 : decode cX4_borer 0 = .ok (.aload_n 0, 1) := by decide +kernel
theorem dX4_borer_1 : decode cX4_borer 1 = .ok (.iconst 0, 1) := by decide +kernel
theorem dX4_borer_2 : decode cX4_borer 2 = .ok (.putfield 190, 3) := by decide +kernel
theorem dX4_borer_5 : decode cX4_borer 5 = .ok (.aload_n 0, 1) := by decide +kernel
theorem dX4_borer_6 : decode cX4_borer 6 = .ok (.getfield 16, 3) := by decide +kernel
theorem dX4_borer_9 : decode cX4_borer 9 = .ok (.aload_n 0, 1) := by decide +kernel
theorem dX4_borer_10 : decode cX4_borer 10 = .ok (.getfield 10, 3) := by decide +kernel
theorem dX4_borer_13 : decode cX4_borer 13 = .ok (.invokevirtual 125, 3) := by decide +kernel
theorem dX4_borer_16 : decode cX4_borer 16 = .ok (.iconst 0, 1) := by decide +kernel
theorem dX4_borer_17 : decode cX4_borer 17 = .ok (.istore_n 2, 1) := by decide +kernel
theorem dX4_borer_18 : decode cX4_borer 18 = .ok (.iload_n 2, 1) := by decide +kernel
theorem dX4_borer_19 : decode cX4_borer 19 = .ok (.aload_n 0, 1) := by decide +kernel
theorem dX4_borer_20 : decode cX4_borer 20 = .ok (.getfield 10, 3) := by decide +kernel
theorem dX4_borer_23 : decode cX4_borer 23 = .ok (.getfield 60, 3) := by decide +kernel
theorem dX4_borer_26 : decode cX4_borer 26 = .ok (.if_icmp .ge 50, 3) := by decide +kernel
theorem dX4_borer_29 : decode cX4_borer 29 = .ok (.iconst 0, 1) := by decide +kernel
theorem dX4_borer_30 : decode cX4_borer 30 = .ok (.istore_n 3, 1) := by decide +kernel
theorem dX4_borer_31 : decode cX4_borer 31 = .ok (.iload_n 3, 1) := by decide +kernel
theorem dX4_borer_32 : decode cX4_borer 32 = .ok (.aload_n 0, 1) := by decide +kernel
theorem dX4_borer_33 : decode cX4_borer 33 = .ok (.getfield 10, 3) := by decide +kernel
theorem dX4_borer_36 : decode cX4_borer 36 = .ok (.iload_n 2, 1) := by decide +kernel
theorem dX4_borer_37 : decode cX4_borer 37 = .ok (.iconst 0, 1) := by decide +kernel
theorem dX4_borer_38 : decode cX4_borer 38 = .ok (.invokevirtual 79, 3) := by decide +kernel
theorem dX4_borer_41 : decode cX4_borer 41 = .ok (.if_icmp .ge 29, 3) := by decide +kernel
theorem dX4_borer_44 : decode cX4_borer 44 = .ok (.aload_n 0, 1) := by decide +kernel
theorem dX4_borer_45 : decode cX4_borer 45 = .ok (.iload_n 2, 1) := by decide +kernel
theorem dX4_borer_46 : decode cX4_borer 46 = .ok (.iconst 0, 1) := by decide +kernel
theorem dX4_borer_47 : decode cX4_borer 47 = .ok (.iload_n 3, 1) := by decide +kernel
theorem dX4_borer_48 : decode cX4_borer 48 = .ok (.invokevirtual 193, 3) := by decide +kernel
theorem dX4_borer_51 : decode cX4_borer 51 = .ok (.ifCond .eq 13, 3) := by decide +kernel
theorem dX4_borer_54 : decode cX4_borer 54 = .ok (.aload_n 0, 1) := by decide +kernel
theorem dX4_borer_55 : decode cX4_borer 55 = .ok (.bipush 100, 2) := by decide +kernel
theorem dX4_borer_57 : decode cX4_borer 57 = .ok (.iload_n 2, 1) := by decide +kernel
theorem dX4_borer_58 : decode cX4_borer 58 = .ok (.imul, 1) := by decide +kernel
theorem dX4_borer_59 : decode cX4_borer 59 = .ok (.iload_n 3, 1) := by decide +kernel
theorem dX4_borer_60 : decode cX4_borer 60 = .ok (.iadd, 1) := by decide +kernel
theorem dX4_borer_61 : decode cX4_borer 61 = .ok (.invokevirtual 197, 3) := by decide +kernel
theorem dX4_borer_64 : decode cX4_borer 64 = .ok (.iinc 3 1, 3) := by decide +kernel
theorem dX4_borer_67 : decode cX4_borer 67 = .ok (.goto (-36), 3) := by decide +kernel
theorem dX4_borer_70 : decode cX4_borer 70 = .ok (.iinc 2 1, 3) := by decide +kernel
theorem dX4_borer_73 : decode cX4_borer 73 = .ok (.goto (-55), 3) := by decide +kernel
theorem dX4_borer_76 : decode cX4_borer 76 = .ok (.aload_n 0, 1) := by decide +kernel
theorem dX4_borer_77 : decode cX4_borer 77 = .ok (.iload_n 1, 1) := by decide +kernel
theorem dX4_borer_78 : decode cX4_borer 78 = .ok (.invokevirtual 187, 3) := by decide +kernel
theorem dX4_borer_81 : decode cX4_borer 81 = .ok (.ireturn, 1) := by decide +kernel
theorem dX4_listen_0 : decode cX4_listen 0 = .ok (.iload_n 1, 1) := by decide +kernel
theorem dX4_listen_1 : decode cX4_listen 1 = .ok (.iconst 1, 1) := by decide +kernel
theorem dX4_listen_2 : decode cX4_listen 2 = .ok (.invokestatic 72, 3) := by decide +kernel
theorem dX4_listen_5 : decode cX4_listen 5 = .ok (.ifCond .ne 6, 3) := by decide +kernel
theorem dX4_listen_8 : decode cX4_listen 8 = .ok (.bipush (-2), 2) := by decide +kernel
theorem dX4_listen_10 : decode cX4_listen 10 = .ok (.ireturn, 1) := by decide +kernel
theorem dX4_listen_11 : decode cX4_listen 11 = .ok (.aload_n 0, 1) := by decide +kernel
theorem dX4_listen_12 : decode cX4_listen 12 = .ok (.invokevirtual 184, 3) := by decide +kernel
theorem dX4_listen_15 : decode cX4_listen 15 = .ok (.aload_n 0, 1) := by decide +kernel
theorem dX4_listen_16 : decode cX4_listen 16 = .ok (.getfield 190, 3) := by decide +kernel
theorem dX4_listen_19 : decode cX4_listen 19 = .ok (.ifCond .ne 6, 3) := by decide +kernel
theorem dX4_listen_22 : decode cX4_listen 22 = .ok (.bipush (-6), 2) := by decide +kernel
theorem dX4_listen_24 : decode cX4_listen 24 = .ok (.ireturn, 1) := by decide +kernel
theorem dX4_listen_25 : decode cX4_listen 25 = .ok (.iconst 0, 1) := by decide +kernel
theorem dX4_listen_26 : decode cX4_listen 26 = .ok (.istore_n 2, 1) := by decide +kernel
theorem dX4_listen_27 : decode cX4_listen 27 = .ok (.iconst 1, 1) := by decide +kernel
theorem dX4_listen_28 : decode cX4_listen 28 = .ok (.istore_n 3, 1) := by decide +kernel
theorem dX4_listen_29 : decode cX4_listen 29 = .ok (.iload_n 3, 1) := by decide +kernel
theorem dX4_listen_30 : decode cX4_listen 30 = .ok (.aload_n 0, 1) := by decide +kernel
theorem dX4_listen_31 : decode cX4_listen 31 = .ok (.getfield 10, 3) := by decide +kernel
theorem dX4_listen_34 : decode cX4_listen 34 = .ok (.getfield 60, 3) := by decide +kernel
theorem dX4_listen_37 : decode cX4_listen 37 = .ok (.if_icmp .ge 24, 3) := by decide +kernel
theorem dX4_listen_40 : decode cX4_listen 40 = .ok (.aload_n 0, 1) := by decide +kernel
theorem dX4_listen_41 : decode cX4_listen 41 = .ok (.iload_n 3, 1) := by decide +kernel
theorem dX4_listen_42 : decode cX4_listen 42 = .ok (.invokevirtual 200, 3) := by decide +kernel
theorem dX4_listen_45 : decode cX4_listen 45 = .ok (.aload_n 0, 1) := by decide +kernel
theorem dX4_listen_46 : decode cX4_listen 46 = .ok (.iload_n 2, 1) := by decide +kernel
theorem dX4_listen_47 : decode cX4_listen 47 = .ok (.invokevirtual 200, 3) := by decide +kernel
theorem dX4_listen_50 : decode cX4_listen 50 = .ok (.if_icmp .ge 5, 3) := by decide +kernel
theorem dX4_listen_53 : decode cX4_listen 53 = .ok (.iload_n 3, 1) := by decide +kernel
theorem dX4_listen_54 : decode cX4_listen 54 = .ok (.istore_n 2, 1) := by decide +kernel
theorem dX4_listen_55 : decode cX4_listen 55 = .ok (.iinc 3 1, 3) := by decide +kernel
theorem dX4_listen_58 : decode cX4_listen 58 = .ok (.goto (-29), 3) := by decide +kernel
theorem dX4_listen_61 : decode cX4_listen 61 = .ok (.iload_n 1, 1) := by decide +kernel
theorem dX4_listen_62 : decode cX4_listen 62 = .ok (.ifCond .ne 7, 3) := by decide +kernel
theorem dX4_listen_65 : decode cX4_listen 65 = .ok (.iload_n 2, 1) := by decide +kernel
theorem dX4_listen_66 : decode cX4_listen 66 = .ok (.goto 8, 3) := by decide +kernel
theorem dX4_listen_69 : decode cX4_listen 69 = .ok (.aload_n 0, 1) := by decide +kernel
theorem dX4_listen_70 : decode cX4_listen 70 = .ok (.iload_n 2, 1) := by decide +kernel
theorem dX4_listen_71 : decode cX4_listen 71 = .ok (.invokevirtual 200, 3) := by decide +kernel
theorem dX4_listen_74 : decode cX4_listen 74 = .ok (.ireturn, 1) := by decide +kernel
theorem dX4_rests_0 : decode cX4_rests 0 = .ok (.iload_n 1, 1) := by decide +kernel
theorem dX4_rests_1 : decode cX4_rests 1 = .ok (.ifCond .le 16, 3) := by decide +kernel
theorem dX4_rests_4 : decode cX4_rests 4 = .ok (.iload_n 1, 1) := by decide +kernel
theorem dX4_rests_5 : decode cX4_rests 5 = .ok (.iconst 1, 1) := by decide +kernel
theorem dX4_rests_6 : decode cX4_rests 6 = .ok (.aload_n 0, 1) := by decide +kernel
theorem dX4_rests_7 : decode cX4_rests 7 = .ok (.getfield 10, 3) := by decide +kernel
theorem dX4_rests_10 : decode cX4_rests 10 = .ok (.getfield 60, 3) := by decide +kernel
theorem dX4_rests_13 : decode cX4_rests 13 = .ok (.ishl, 1) := by decide +kernel
theorem dX4_rests_14 : decode cX4_rests 14 = .ok (.if_icmp .lt 6, 3) := by decide +kernel
theorem dX4_rests_17 : decode cX4_rests 17 = .ok (.bipush (-2), 2) := by decide +kernel
theorem dX4_rests_19 : decode cX4_rests 19 = .ok (.ireturn, 1) := by decide +kernel
theorem dX4_rests_20 : decode cX4_rests 20 = .ok (.iload_n 1, 1) := by decide +kernel
theorem dX4_rests_21 : decode cX4_rests 21 = .ok (.invokestatic 203, 3) := by decide +kernel
theorem dX4_rests_24 : decode cX4_rests 24 = .ok (.iconst 3, 1) := by decide +kernel
theorem dX4_rests_25 : decode cX4_rests 25 = .ok (.if_icmp .le 6, 3) := by decide +kernel
theorem dX4_rests_28 : decode cX4_rests 28 = .ok (.bipush (-4), 2) := by decide +kernel
theorem dX4_rests_30 : decode cX4_rests 30 = .ok (.ireturn, 1) := by decide +kernel
theorem dX4_rests_31 : decode cX4_rests 31 = .ok (.aload_n 0, 1) := by decide +kernel
theorem dX4_rests_32 : decode cX4_rests 32 = .ok (.iload_n 1, 1) := by decide +kernel
theorem dX4_rests_33 : decode cX4_rests 33 = .ok (.invokevirtual 208, 3) := by decide +kernel
theorem dX4_rests_36 : decode cX4_rests 36 = .ok (.istore_n 3, 1) := by decide +kernel
theorem dX4_rests_37 : decode cX4_rests 37 = .ok (.aload_n 0, 1) := by decide +kernel
theorem dX4_rests_38 : decode cX4_rests 38 = .ok (.iload_n 3, 1) := by decide +kernel
theorem dX4_rests_39 : decode cX4_rests 39 = .ok (.invokevirtual 211, 3) := by decide +kernel
theorem dX4_rests_42 : decode cX4_rests 42 = .ok (.istore 4, 2) := by decide +kernel
theorem dX4_rests_44 : decode cX4_rests 44 = .ok (.aload_n 0, 1) := by decide +kernel
theorem dX4_rests_45 : decode cX4_rests 45 = .ok (.iconst 0, 1) := by decide +kernel
theorem dX4_rests_46 : decode cX4_rests 46 = .ok (.putfield 190, 3) := by decide +kernel
theorem dX4_rests_49 : decode cX4_rests 49 = .ok (.iconst 0, 1) := by decide +kernel
theorem dX4_rests_50 : decode cX4_rests 50 = .ok (.istore 5, 2) := by decide +kernel
theorem dX4_rests_52 : decode cX4_rests 52 = .ok (.iload 5, 2) := by decide +kernel
theorem dX4_rests_54 : decode cX4_rests 54 = .ok (.iload 4, 2) := by decide +kernel
theorem dX4_rests_56 : decode cX4_rests 56 = .ok (.if_icmp .ge 28, 3) := by decide +kernel
theorem dX4_rests_59 : decode cX4_rests 59 = .ok (.aload_n 0, 1) := by decide +kernel
theorem dX4_rests_60 : decode cX4_rests 60 = .ok (.iload 5, 2) := by decide +kernel
theorem dX4_rests_62 : decode cX4_rests 62 = .ok (.iload_n 3, 1) := by decide +kernel
theorem dX4_rests_63 : decode cX4_rests 63 = .ok (.invokevirtual 214, 3) := by decide +kernel
theorem dX4_rests_66 : decode cX4_rests 66 = .ok (.ifCond .eq 12, 3) := by decide +kernel
theorem dX4_rests_69 : decode cX4_rests 69 = .ok (.aload_n 0, 1) := by decide +kernel
theorem dX4_rests_70 : decode cX4_rests 70 = .ok (.iload 5, 2) := by decide +kernel
theorem dX4_rests_72 : decode cX4_rests 72 = .ok (.invokestatic 217, 3) := by decide +kernel
theorem dX4_rests_75 : decode cX4_rests 75 = .ok (.invokevirtual 197, 3) := by decide +kernel
theorem dX4_rests_78 : decode cX4_rests 78 = .ok (.iinc 5 1, 3) := by decide +kernel
theorem dX4_rests_81 : decode cX4_rests 81 = .ok (.goto (-29), 3) := by decide +kernel
theorem dX4_rests_84 : decode cX4_rests 84 = .ok (.aload_n 0, 1) := by decide +kernel
theorem dX4_rests_85 : decode cX4_rests 85 = .ok (.iload_n 2, 1) := by decide +kernel
theorem dX4_rests_86 : decode cX4_rests 86 = .ok (.invokevirtual 187, 3) := by decide +kernel
theorem dX4_rests_89 : decode cX4_rests 89 = .ok (.ireturn, 1) := by decide +kernel
theorem dX4_frost_0 : decode cX4_frost 0 = .ok (.aload_n 0, 1) := by decide +kernel
theorem dX4_frost_1 : decode cX4_frost 1 = .ok (.getfield 10, 3) := by decide +kernel
theorem dX4_frost_4 : decode cX4_frost 4 = .ok (.iload_n 1, 1) := by decide +kernel
theorem dX4_frost_5 : decode cX4_frost 5 = .ok (.invokevirtual 68, 3) := by decide +kernel
theorem dX4_frost_8 : decode cX4_frost 8 = .ok (.ifCond .ne 7, 3) := by decide +kernel
theorem dX4_frost_11 : decode cX4_frost 11 = .ok (.ldc2_w 220, 3) := by decide +kernel
theorem dX4_frost_14 : decode cX4_frost 14 = .ok (.lreturn, 1) := by decide +kernel
theorem dX4_frost_15 : decode cX4_frost 15 = .ok (.iload_n 2, 1) := by decide +kernel
theorem dX4_frost_16 : decode cX4_frost 16 = .ok (.bipush 99, 2) := by decide +kernel
theorem dX4_frost_18 : decode cX4_frost 18 = .ok (.invokestatic 72, 3) := by decide +kernel
theorem dX4_frost_21 : decode cX4_frost 21 = .ok (.ifCond .eq 31, 3) := by decide +kernel
theorem dX4_frost_24 : decode cX4_frost 24 = .ok (.iload_n 3, 1) := by decide +kernel
theorem dX4_frost_25 : decode cX4_frost 25 = .ok (.bipush 10, 2) := by decide +kernel
theorem dX4_frost_27 : decode cX4_frost 27 = .ok (.invokestatic 72, 3) := by decide +kernel
theorem dX4_frost_30 : decode cX4_frost 30 = .ok (.ifCond .eq 22, 3) := by decide +kernel
theorem dX4_frost_33 : decode cX4_frost 33 = .ok (.iload 4, 2) := by decide +kernel
theorem dX4_frost_35 : decode cX4_frost 35 = .ok (.bipush 12, 2) := by decide +kernel
theorem dX4_frost_37 : decode cX4_frost 37 = .ok (.invokestatic 72, 3) := by decide +kernel
theorem dX4_frost_40 : decode cX4_frost 40 = .ok (.ifCond .eq 12, 3) := by decide +kernel
theorem dX4_frost_43 : decode cX4_frost 43 = .ok (.iload 5, 2) := by decide +kernel
theorem dX4_frost_45 : decode cX4_frost 45 = .ok (.iconst 1, 1) := by decide +kernel
theorem dX4_frost_46 : decode cX4_frost 46 = .ok (.invokestatic 72, 3) := by decide +kernel
theorem dX4_frost_49 : decode cX4_frost 49 = .ok (.ifCond .ne 7, 3) := by decide +kernel
theorem dX4_frost_52 : decode cX4_frost 52 = .ok (.ldc2_w 222, 3) := by decide +kernel
theorem dX4_frost_55 : decode cX4_frost 55 = .ok (.lreturn, 1) := by decide +kernel
theorem dX4_frost_56 : decode cX4_frost 56 = .ok (.aload_n 0, 1) := by decide +kernel
theorem dX4_frost_57 : decode cX4_frost 57 = .ok (.getfield 26, 3) := by decide +kernel
theorem dX4_frost_60 : decode cX4_frost 60 = .ok (.aload_n 0, 1) := by decide +kernel
theorem dX4_frost_61 : decode cX4_frost 61 = .ok (.getfield 10, 3) := by decide +kernel
theorem dX4_frost_64 : decode cX4_frost 64 = .ok (.iconst 0, 1) := by decide +kernel
theorem dX4_frost_65 : decode cX4_frost 65 = .ok (.invokevirtual 135, 3) := by decide +kernel
theorem dX4_frost_68 : decode cX4_frost 68 = .ok (.aload_n 0, 1) := by decide +kernel
theorem dX4_frost_69 : decode cX4_frost 69 = .ok (.getfield 30, 3) := by decide +kernel
theorem dX4_frost_72 : decode cX4_frost 72 = .ok (.aload_n 0, 1) := by decide +kernel
theorem dX4_frost_73 : decode cX4_frost 73 = .ok (.getfield 10, 3) := by decide +kernel
theorem dX4_frost_76 : decode cX4_frost 76 = .ok (.iconst 2, 1) := by decide +kernel
theorem dX4_frost_77 : decode cX4_frost 77 = .ok (.invokevirtual 135, 3) := by decide +kernel
theorem dX4_frost_80 : decode cX4_frost 80 = .ok (.lconst 0, 1) := by decide +kernel
theorem dX4_frost_81 : decode cX4_frost 81 = .ok (.lstore 6, 2) := by decide +kernel
theorem dX4_frost_83 : decode cX4_frost 83 = .ok (.lconst 1, 1) := by decide +kernel
theorem dX4_frost_84 : decode cX4_frost 84 = .ok (.lstore 8, 2) := by decide +kernel
theorem dX4_frost_86 : decode cX4_frost 86 = .ok (.iconst 0, 1) := by decide +kernel
theorem dX4_frost_87 : decode cX4_frost 87 = .ok (.istore 10, 2) := by decide +kernel
theorem dX4_frost_89 : decode cX4_frost 89 = .ok (.iload 10, 2) := by decide +kernel
theorem dX4_frost_91 : decode cX4_frost 91 = .ok (.iload 4, 2) := by decide +kernel
theorem dX4_frost_93 : decode cX4_frost 93 = .ok (.if_icmp .gt 85, 3) := by decide +kernel
theorem dX4_frost_96 : decode cX4_frost 96 = .ok (.iload 10, 2) := by decide +kernel
theorem dX4_frost_98 : decode cX4_frost 98 = .ok (.aload_n 0, 1) := by decide +kernel
theorem dX4_frost_99 : decode cX4_frost 99 = .ok (.getfield 30, 3) := by decide +kernel
theorem dX4_frost_102 : decode cX4_frost 102 = .ok (.getfield 139, 3) := by decide +kernel
theorem dX4_frost_105 : decode cX4_frost 105 = .ok (.iload_n 1, 1) := by decide +kernel
theorem dX4_frost_106 : decode cX4_frost 106 = .ok (.iaload, 1) := by decide +kernel
theorem dX4_frost_107 : decode cX4_frost 107 = .ok (.imul, 1) := by decide +kernel
theorem dX4_frost_108 : decode cX4_frost 108 = .ok (.iload 4, 2) := by decide +kernel
theorem dX4_frost_110 : decode cX4_frost 110 = .ok (.iload 10, 2) := by decide +kernel
theorem dX4_frost_112 : decode cX4_frost 112 = .ok (.isub, 1) := by decide +kernel
theorem dX4_frost_113 : decode cX4_frost 113 = .ok (.aload_n 0, 1) := by decide +kernel
theorem dX4_frost_114 : decode cX4_frost 114 = .ok (.getfield 26, 3) := by decide +kernel
theorem dX4_frost_117 : decode cX4_frost 117 = .ok (.getfield 139, 3) := by decide +kernel
theorem dX4_frost_120 : decode cX4_frost 120 = .ok (.iload_n 1, 1) := by decide +kernel
theorem dX4_frost_121 : decode cX4_frost 121 = .ok (.iaload, 1) := by decide +kernel
theorem dX4_frost_122 : decode cX4_frost 122 = .ok (.imul, 1) := by decide +kernel
theorem dX4_frost_123 : decode cX4_frost 123 = .ok (.iadd, 1) := by decide +kernel
theorem dX4_frost_124 : decode cX4_frost 124 = .ok (.iload_n 2, 1) := by decide +kernel
theorem dX4_frost_125 : decode cX4_frost 125 = .ok (.if_icmp .lt 30, 3) := by decide +kernel
theorem dX4_frost_128 : decode cX4_frost 128 = .ok (.lload 6, 2) := by decide +kernel
theorem dX4_frost_130 : decode cX4_frost 130 = .ok (.lload 8, 2) := by decide +kernel
theorem dX4_frost_132 : decode cX4_frost 132 = .ok (.iload_n 3, 1) := by decide +kernel
theorem dX4_frost_133 : decode cX4_frost 133 = .ok (.iload 10, 2) := by decide +kernel
theorem dX4_frost_135 : decode cX4_frost 135 = .ok (.invokestatic 224, 3) := by decide +kernel
theorem dX4_frost_138 : decode cX4_frost 138 = .ok (.lmul, 1) := by decide +kernel
theorem dX4_frost_139 : decode cX4_frost 139 = .ok (.bipush 10, 2) := by decide +kernel
theorem dX4_frost_141 : decode cX4_frost 141 = .ok (.iload_n 3, 1) := by decide +kernel
theorem dX4_frost_142 : decode cX4_frost 142 = .ok (.isub, 1) := by decide +kernel
theorem dX4_frost_143 : decode cX4_frost 143 = .ok (.iload 4, 2) := by decide +kernel
theorem dX4_frost_145 : decode cX4_frost 145 = .ok (.iload 10, 2) := by decide +kernel
theorem dX4_frost_147 : decode cX4_frost 147 = .ok (.isub, 1) := by decide +kernel
theorem dX4_frost_148 : decode cX4_frost 148 = .ok (.invokestatic 224, 3) := by decide +kernel
theorem dX4_frost_151 : decode cX4_frost 151 = .ok (.lmul, 1) := by decide +kernel
theorem dX4_frost_152 : decode cX4_frost 152 = .ok (.ladd, 1) := by decide +kernel
theorem dX4_frost_153 : decode cX4_frost 153 = .ok (.lstore 6, 2) := by decide +kernel
theorem dX4_frost_155 : decode cX4_frost 155 = .ok (.lload 8, 2) := by decide +kernel
theorem dX4_frost_157 : decode cX4_frost 157 = .ok (.iload 4, 2) := by decide +kernel
theorem dX4_frost_159 : decode cX4_frost 159 = .ok (.iload 10, 2) := by decide +kernel
theorem dX4_frost_161 : decode cX4_frost 161 = .ok (.isub, 1) := by decide +kernel
theorem dX4_frost_162 : decode cX4_frost 162 = .ok (.i2l, 1) := by decide +kernel
theorem dX4_frost_163 : decode cX4_frost 163 = .ok (.lmul, 1) := by decide +kernel
theorem dX4_frost_164 : decode cX4_frost 164 = .ok (.iload 10, 2) := by decide +kernel
theorem dX4_frost_166 : decode cX4_frost 166 = .ok (.iconst 1, 1) := by decide +kernel
theorem dX4_frost_167 : decode cX4_frost 167 = .ok (.iadd, 1) := by decide +kernel
theorem dX4_frost_168 : decode cX4_frost 168 = .ok (.i2l, 1) := by decide +kernel
theorem dX4_frost_169 : decode cX4_frost 169 = .ok (.ldiv, 1) := by decide +kernel
theorem dX4_frost_170 : decode cX4_frost 170 = .ok (.lstore 8, 2) := by decide +kernel
theorem dX4_frost_172 : decode cX4_frost 172 = .ok (.iinc 10 1, 3) := by decide +kernel
theorem dX4_frost_175 : decode cX4_frost 175 = .ok (.goto (-86), 3) := by decide +kernel
theorem dX4_frost_178 : decode cX4_frost 178 = .ok (.bipush 10, 2) := by decide +kernel
theorem dX4_frost_180 : decode cX4_frost 180 = .ok (.iload 4, 2) := by decide +kernel
theorem dX4_frost_182 : decode cX4_frost 182 = .ok (.invokestatic 224, 3) := by decide +kernel
theorem dX4_frost_185 : decode cX4_frost 185 = .ok (.lstore 10, 2) := by decide +kernel
theorem dX4_frost_187 : decode cX4_frost 187 = .ok (.lload 6, 2) := by decide +kernel
theorem dX4_frost_189 : decode cX4_frost 189 = .ok (.lload 10, 2) := by decide +kernel
theorem dX4_frost_191 : decode cX4_frost 191 = .ok (.invokestatic 228, 3) := by decide +kernel
theorem dX4_frost_194 : decode cX4_frost 194 = .ok (.lstore 12, 2) := by decide +kernel
theorem dX4_frost_196 : decode cX4_frost 196 = .ok (.iload 5, 2) := by decide +kernel
theorem dX4_frost_198 : decode cX4_frost 198 = .ok (.ifCond .ne 8, 3) := by decide +kernel
theorem dX4_frost_201 : decode cX4_frost 201 = .ok (.lload 6, 2) := by decide +kernel
theorem dX4_frost_203 : decode cX4_frost 203 = .ok (.goto 5, 3) := by decide +kernel
theorem dX4_frost_206 : decode cX4_frost 206 = .ok (.lload 10, 2) := by decide +kernel
theorem dX4_frost_208 : decode cX4_frost 208 = .ok (.lload 12, 2) := by decide +kernel
theorem dX4_frost_210 : decode cX4_frost 210 = .ok (.ldiv, 1) := by decide +kernel
theorem dX4_frost_211 : decode cX4_frost 211 = .ok (.lreturn, 1) := by decide +kernel
theorem dX4_year_0 : decode cX4_year 0 = .ok (.iload_n 1, 1) := by decide +kernel
theorem dX4_year_1 : decode cX4_year 1 = .ok (.sipush 9999, 3) := by decide +kernel
theorem dX4_year_4 : decode cX4_year 4 = .ok (.invokestatic 72, 3) := by decide +kernel
theorem dX4_year_7 : decode cX4_year 7 = .ok (.ifCond .eq 22, 3) := by decide +kernel
theorem dX4_year_10 : decode cX4_year 10 = .ok (.iload_n 2, 1) := by decide +kernel
theorem dX4_year_11 : decode cX4_year 11 = .ok (.iconst 1, 1) := by decide +kernel
theorem dX4_year_12 : decode cX4_year 12 = .ok (.if_icmp .lt 17, 3) := by decide +kernel
theorem dX4_year_15 : decode cX4_year 15 = .ok (.iload_n 2, 1) := by decide +kernel
theorem dX4_year_16 : decode cX4_year 16 = .ok (.bipush 99, 2) := by decide +kernel
theorem dX4_year_18 : decode cX4_year 18 = .ok (.if_icmp .gt 11, 3) := by decide +kernel
theorem dX4_year_21 : decode cX4_year 21 = .ok (.iload_n 3, 1) := by decide +kernel
theorem dX4_year_22 : decode cX4_year 22 = .ok (.iconst 2, 1) := by decide +kernel
theorem dX4_year_23 : decode cX4_year 23 = .ok (.invokestatic 72, 3) := by decide +kernel
theorem dX4_year_26 : decode cX4_year 26 = .ok (.ifCond .ne 6, 3) := by decide +kernel
theorem dX4_year_29 : decode cX4_year 29 = .ok (.bipush (-2), 2) := by decide +kernel
theorem dX4_year_31 : decode cX4_year 31 = .ok (.ireturn, 1) := by decide +kernel
theorem dX4_year_32 : decode cX4_year 32 = .ok (.iconst 0, 1) := by decide +kernel
theorem dX4_year_33 : decode cX4_year 33 = .ok (.istore 4, 2) := by decide +kernel
theorem dX4_year_35 : decode cX4_year 35 = .ok (.iconst 0, 1) := by decide +kernel
theorem dX4_year_36 : decode cX4_year 36 = .ok (.istore 5, 2) := by decide +kernel
theorem dX4_year_38 : decode cX4_year 38 = .ok (.iconst 0, 1) := by decide +kernel
theorem dX4_year_39 : decode cX4_year 39 = .ok (.istore 6, 2) := by decide +kernel
theorem dX4_year_41 : decode cX4_year 41 = .ok (.iload_n 1, 1) := by decide +kernel
theorem dX4_year_42 : decode cX4_year 42 = .ok (.istore 7, 2) := by decide +kernel
theorem dX4_year_44 : decode cX4_year 44 = .ok (.iconst 0, 1) := by decide +kernel
theorem dX4_year_45 : decode cX4_year 45 = .ok (.istore 8, 2) := by decide +kernel
theorem dX4_year_47 : decode cX4_year 47 = .ok (.iload 8, 2) := by decide +kernel
theorem dX4_year_49 : decode cX4_year 49 = .ok (.iload_n 2, 1) := by decide +kernel
theorem dX4_year_50 : decode cX4_year 50 = .ok (.if_icmp .ge 99, 3) := by decide +kernel
theorem dX4_year_53 : decode cX4_year 53 = .ok (.bipush 75, 2) := by decide +kernel
theorem dX4_year_55 : decode cX4_year 55 = .ok (.iload 7, 2) := by decide +kernel
theorem dX4_year_57 : decode cX4_year 57 = .ok (.imul, 1) := by decide +kernel
theorem dX4_year_58 : decode cX4_year 58 = .ok (.bipush 74, 2) := by decide +kernel
theorem dX4_year_60 : decode cX4_year 60 = .ok (.iadd, 1) := by decide +kernel
theorem dX4_year_61 : decode cX4_year 61 = .ok (.ldc 232, 2) := by decide +kernel
theorem dX4_year_63 : decode cX4_year 63 = .ok (.irem, 1) := by decide +kernel
theorem dX4_year_64 : decode cX4_year 64 = .ok (.istore 7, 2) := by decide +kernel
theorem dX4_year_66 : decode cX4_year 66 = .ok (.aload_n 0, 1) := by decide +kernel
theorem dX4_year_67 : decode cX4_year 67 = .ok (.getfield 30, 3) := by decide +kernel
theorem dX4_year_70 : decode cX4_year 70 = .ok (.aload_n 0, 1) := by decide +kernel
theorem dX4_year_71 : decode cX4_year 71 = .ok (.getfield 10, 3) := by decide +kernel
theorem dX4_year_74 : decode cX4_year 74 = .ok (.iload 7, 2) := by decide +kernel
theorem dX4_year_76 : decode cX4_year 76 = .ok (.bipush 10, 2) := by decide +kernel
theorem dX4_year_78 : decode cX4_year 78 = .ok (.irem, 1) := by decide +kernel
theorem dX4_year_79 : decode cX4_year 79 = .ok (.invokestatic 233, 3) := by decide +kernel
theorem dX4_year_82 : decode cX4_year 82 = .ok (.invokevirtual 135, 3) := by decide +kernel
theorem dX4_year_85 : decode cX4_year 85 = .ok (.iload 4, 2) := by decide +kernel
theorem dX4_year_87 : decode cX4_year 87 = .ok (.aload_n 0, 1) := by decide +kernel
theorem dX4_year_88 : decode cX4_year 88 = .ok (.getfield 30, 3) := by decide +kernel
theorem dX4_year_91 : decode cX4_year 91 = .ok (.aload_n 0, 1) := by decide +kernel
theorem dX4_year_92 : decode cX4_year 92 = .ok (.getfield 10, 3) := by decide +kernel
theorem dX4_year_95 : decode cX4_year 95 = .ok (.getfield 60, 3) := by decide +kernel
theorem dX4_year_98 : decode cX4_year 98 = .ok (.invokevirtual 236, 3) := by decide +kernel
theorem dX4_year_101 : decode cX4_year 101 = .ok (.iadd, 1) := by decide +kernel
theorem dX4_year_102 : decode cX4_year 102 = .ok (.istore 4, 2) := by decide +kernel
theorem dX4_year_104 : decode cX4_year 104 = .ok (.iload 5, 2) := by decide +kernel
theorem dX4_year_106 : decode cX4_year 106 = .ok (.aload_n 0, 1) := by decide +kernel
theorem dX4_year_107 : decode cX4_year 107 = .ok (.getfield 30, 3) := by decide +kernel
theorem dX4_year_110 : decode cX4_year 110 = .ok (.getfield 239, 3) := by decide +kernel
theorem dX4_year_113 : decode cX4_year 113 = .ok (.iadd, 1) := by decide +kernel
theorem dX4_year_114 : decode cX4_year 114 = .ok (.istore 5, 2) := by decide +kernel
theorem dX4_year_116 : decode cX4_year 116 = .ok (.iload 6, 2) := by decide +kernel
theorem dX4_year_118 : decode cX4_year 118 = .ok (.aload_n 0, 1) := by decide +kernel
theorem dX4_year_119 : decode cX4_year 119 = .ok (.getfield 30, 3) := by decide +kernel
theorem dX4_year_122 : decode cX4_year 122 = .ok (.aload_n 0, 1) := by decide +kernel
theorem dX4_year_123 : decode cX4_year 123 = .ok (.getfield 10, 3) := by decide +kernel
theorem dX4_year_126 : decode cX4_year 126 = .ok (.getfield 60, 3) := by decide +kernel
theorem dX4_year_129 : decode cX4_year 129 = .ok (.invokevirtual 242, 3) := by decide +kernel
theorem dX4_year_132 : decode cX4_year 132 = .ok (.ifCond .eq 7, 3) := by decide +kernel
theorem dX4_year_135 : decode cX4_year 135 = .ok (.iconst 1, 1) := by decide +kernel
theorem dX4_year_136 : decode cX4_year 136 = .ok (.goto 4, 3) := by decide +kernel
theorem dX4_year_139 : decode cX4_year 139 = .ok (.iconst 0, 1) := by decide +kernel
theorem dX4_year_140 : decode cX4_year 140 = .ok (.iadd, 1) := by decide +kernel
theorem dX4_year_141 : decode cX4_year 141 = .ok (.istore 6, 2) := by decide +kernel
theorem dX4_year_143 : decode cX4_year 143 = .ok (.iinc 8 1, 3) := by decide +kernel
theorem dX4_year_146 : decode cX4_year 146 = .ok (.goto (-99), 3) := by decide +kernel
theorem dX4_year_149 : decode cX4_year 149 = .ok (.iload_n 3, 1) := by decide +kernel
theorem dX4_year_150 : decode cX4_year 150 = .ok (.ifCond .ne 6, 3) := by decide +kernel
theorem dX4_year_153 : decode cX4_year 153 = .ok (.iload 4, 2) := by decide +kernel
theorem dX4_year_155 : decode cX4_year 155 = .ok (.ireturn, 1) := by decide +kernel
theorem dX4_year_156 : decode cX4_year 156 = .ok (.iload_n 3, 1) := by decide +kernel
theorem dX4_year_157 : decode cX4_year 157 = .ok (.iconst 1, 1) := by decide +kernel
theorem dX4_year_158 : decode cX4_year 158 = .ok (.if_icmp .ne 8, 3) := by decide +kernel
theorem dX4_year_161 : decode cX4_year 161 = .ok (.iload 5, 2) := by decide +kernel
theorem dX4_year_163 : decode cX4_year 163 = .ok (.goto 5, 3) := by decide +kernel
theorem dX4_year_166 : decode cX4_year 166 = .ok (.iload 6, 2) := by decide +kernel
theorem dX4_year_168 : decode cX4_year 168 = .ok (.ireturn, 1) := by decide +kernel
theorem dX4_image_0 : decode cX4_image 0 = .ok (.iload_n 1, 1) := by decide +kernel
theorem dX4_image_1 : decode cX4_image 1 = .ok (.iconst 1, 1) := by decide +kernel
theorem dX4_image_2 : decode cX4_image 2 = .ok (.invokestatic 72, 3) := by decide +kernel
theorem dX4_image_5 : decode cX4_image 5 = .ok (.ifCond .ne 6, 3) := by decide +kernel
theorem dX4_image_8 : decode cX4_image 8 = .ok (.bipush (-2), 2) := by decide +kernel
theorem dX4_image_10 : decode cX4_image 10 = .ok (.ireturn, 1) := by decide +kernel
theorem dX4_image_11 : decode cX4_image 11 = .ok (.aload_n 0, 1) := by decide +kernel
theorem dX4_image_12 : decode cX4_image 12 = .ok (.getfield 19, 3) := by decide +kernel
theorem dX4_image_15 : decode cX4_image 15 = .ok (.iload_n 1, 1) := by decide +kernel
theorem dX4_image_16 : decode cX4_image 16 = .ok (.aaload, 1) := by decide +kernel
theorem dX4_image_17 : decode cX4_image 17 = .ok (.astore_n 2, 1) := by decide +kernel
theorem dX4_image_18 : decode cX4_image 18 = .ok (.aload_n 2, 1) := by decide +kernel
theorem dX4_image_19 : decode cX4_image 19 = .ok (.ifnonnull 18, 3) := by decide +kernel
theorem dX4_image_22 : decode cX4_image 22 = .ok (.new 7, 3) := by decide +kernel
theorem dX4_image_25 : decode cX4_image 25 = .ok (.dup, 1) := by decide +kernel
theorem dX4_image_26 : decode cX4_image 26 = .ok (.invokespecial 9, 3) := by decide +kernel
theorem dX4_image_29 : decode cX4_image 29 = .ok (.astore_n 2, 1) := by decide +kernel
theorem dX4_image_30 : decode cX4_image 30 = .ok (.aload_n 0, 1) := by decide +kernel
theorem dX4_image_31 : decode cX4_image 31 = .ok (.getfield 19, 3) := by decide +kernel
theorem dX4_image_34 : decode cX4_image 34 = .ok (.iload_n 1, 1) := by decide +kernel
theorem dX4_image_35 : decode cX4_image 35 = .ok (.aload_n 2, 1) := by decide +kernel
theorem dX4_image_36 : decode cX4_image 36 = .ok (.aastore, 1) := by decide +kernel
theorem dX4_image_37 : decode cX4_image 37 = .ok (.aload_n 2, 1) := by decide +kernel
theorem dX4_image_38 : decode cX4_image 38 = .ok (.aload_n 0, 1) := by decide +kernel
theorem dX4_image_39 : decode cX4_image 39 = .ok (.getfield 10, 3) := by decide +kernel
theorem dX4_image_42 : decode cX4_image 42 = .ok (.invokevirtual 125, 3) := by decide +kernel
theorem dX4_image_45 : decode cX4_image 45 = .ok (.iconst 1, 1) := by decide +kernel
theorem dX4_image_46 : decode cX4_image 46 = .ok (.ireturn, 1) := by decide +kernel
theorem dX4_restore_0 : decode cX4_restore 0 = .ok (.iload_n 1, 1) := by decide +kernel
theorem dX4_restore_1 : decode cX4_restore 1 = .ok (.iconst 1, 1) := by decide +kernel
theorem dX4_restore_2 : decode cX4_restore 2 = .ok (.invokestatic 72, 3) := by decide +kernel
theorem dX4_restore_5 : decode cX4_restore 5 = .ok (.ifCond .ne 6, 3) := by decide +kernel
theorem dX4_restore_8 : decode cX4_restore 8 = .ok (.bipush (-2), 2) := by decide +kernel
theorem dX4_restore_10 : decode cX4_restore 10 = .ok (.ireturn, 1) := by decide +kernel
theorem dX4_restore_11 : decode cX4_restore 11 = .ok (.aload_n 0, 1) := by decide +kernel
theorem dX4_restore_12 : decode cX4_restore 12 = .ok (.getfield 19, 3) := by decide +kernel
theorem dX4_restore_15 : decode cX4_restore 15 = .ok (.iload_n 1, 1) := by decide +kernel
theorem dX4_restore_16 : decode cX4_restore 16 = .ok (.aaload, 1) := by decide +kernel
theorem dX4_restore_17 : decode cX4_restore 17 = .ok (.astore_n 2, 1) := by decide +kernel
theorem dX4_restore_18 : decode cX4_restore 18 = .ok (.aload_n 2, 1) := by decide +kernel
theorem dX4_restore_19 : decode cX4_restore 19 = .ok (.ifnonnull 6, 3) := by decide +kernel
theorem dX4_restore_22 : decode cX4_restore 22 = .ok (.bipush (-3), 2) := by decide +kernel
theorem dX4_restore_24 : decode cX4_restore 24 = .ok (.ireturn, 1) := by decide +kernel
theorem dX4_restore_25 : decode cX4_restore 25 = .ok (.aload_n 0, 1) := by decide +kernel
theorem dX4_restore_26 : decode cX4_restore 26 = .ok (.getfield 10, 3) := by decide +kernel
theorem dX4_restore_29 : decode cX4_restore 29 = .ok (.aload_n 2, 1) := by decide +kernel
theorem dX4_restore_30 : decode cX4_restore 30 = .ok (.invokevirtual 125, 3) := by decide +kernel
theorem dX4_restore_33 : decode cX4_restore 33 = .ok (.iconst 1, 1) := by decide +kernel
theorem dX4_restore_34 : decode cX4_restore 34 = .ok (.ireturn, 1) := by decide +kernel
theorem dX4_told_0 : decode cX4_told 0 = .ok (.iload_n 1, 1) := by decide +kernel
theorem dX4_told_1 : decode cX4_told 1 = .ok (.tableswitch 105 0 6 #[43, 51, 59, 69, 79, 89, 97], 43) := by decide +kernel
theorem dX4_told_44 : decode cX4_told 44 = .ok (.aload_n 0, 1) := by decide +kernel
theorem dX4_told_45 : decode cX4_told 45 = .ok (.getfield 36, 3) := by decide +kernel
theorem dX4_told_48 : decode cX4_told 48 = .ok (.getfield 93, 3) := by decide +kernel
theorem dX4_told_51 : decode cX4_told 51 = .ok (.ireturn, 1) := by decide +kernel
theorem dX4_told_52 : decode cX4_told 52 = .ok (.aload_n 0, 1) := by decide +kernel
theorem dX4_told_53 : decode cX4_told 53 = .ok (.getfield 10, 3) := by decide +kernel
theorem dX4_told_56 : decode cX4_told 56 = .ok (.getfield 60, 3) := by decide +kernel
theorem dX4_told_59 : decode cX4_told 59 = .ok (.ireturn, 1) := by decide +kernel
theorem dX4_told_60 : decode cX4_told 60 = .ok (.aload_n 0, 1) := by decide +kernel
theorem dX4_told_61 : decode cX4_told 61 = .ok (.getfield 10, 3) := by decide +kernel
theorem dX4_told_64 : decode cX4_told 64 = .ok (.getfield 90, 3) := by decide +kernel
theorem dX4_told_67 : decode cX4_told 67 = .ok (.iconst 0, 1) := by decide +kernel
theorem dX4_told_68 : decode cX4_told 68 = .ok (.iaload, 1) := by decide +kernel
theorem dX4_told_69 : decode cX4_told 69 = .ok (.ireturn, 1) := by decide +kernel
theorem dX4_told_70 : decode cX4_told 70 = .ok (.aload_n 0, 1) := by decide +kernel
theorem dX4_told_71 : decode cX4_told 71 = .ok (.getfield 10, 3) := by decide +kernel
theorem dX4_told_74 : decode cX4_told 74 = .ok (.getfield 90, 3) := by decide +kernel
theorem dX4_told_77 : decode cX4_told 77 = .ok (.iconst 1, 1) := by decide +kernel
theorem dX4_told_78 : decode cX4_told 78 = .ok (.iaload, 1) := by decide +kernel
theorem dX4_told_79 : decode cX4_told 79 = .ok (.ireturn, 1) := by decide +kernel
theorem dX4_told_80 : decode cX4_told 80 = .ok (.aload_n 0, 1) := by decide +kernel
theorem dX4_told_81 : decode cX4_told 81 = .ok (.getfield 10, 3) := by decide +kernel
theorem dX4_told_84 : decode cX4_told 84 = .ok (.getfield 90, 3) := by decide +kernel
theorem dX4_told_87 : decode cX4_told 87 = .ok (.iconst 2, 1) := by decide +kernel
theorem dX4_told_88 : decode cX4_told 88 = .ok (.iaload, 1) := by decide +kernel
theorem dX4_told_89 : decode cX4_told 89 = .ok (.ireturn, 1) := by decide +kernel
theorem dX4_told_90 : decode cX4_told 90 = .ok (.aload_n 0, 1) := by decide +kernel
theorem dX4_told_91 : decode cX4_told 91 = .ok (.getfield 10, 3) := by decide +kernel
theorem dX4_told_94 : decode cX4_told 94 = .ok (.getfield 122, 3) := by decide +kernel
theorem dX4_told_97 : decode cX4_told 97 = .ok (.ireturn, 1) := by decide +kernel
theorem dX4_told_98 : decode cX4_told 98 = .ok (.aload_n 0, 1) := by decide +kernel
theorem dX4_told_99 : decode cX4_told 99 = .ok (.getfield 10, 3) := by decide +kernel
theorem dX4_told_102 : decode cX4_told 102 = .ok (.getfield 177, 3) := by decide +kernel
theorem dX4_told_105 : decode cX4_told 105 = .ok (.ireturn, 1) := by decide +kernel
theorem dX4_told_106 : decode cX4_told 106 = .ok (.aload_n 0, 1) := by decide +kernel
theorem dX4_told_107 : decode cX4_told 107 = .ok (.iload_n 1, 1) := by decide +kernel
theorem dX4_told_108 : decode cX4_told 108 = .ok (.invokevirtual 245, 3) := by decide +kernel
theorem dX4_told_111 : decode cX4_told 111 = .ok (.ireturn, 1) := by decide +kernel
theorem dX4_toldOfFarm_0 : decode cX4_toldOfFarm 0 = .ok (.iload_n 1, 1) := by decide +kernel
theorem dX4_toldOfFarm_1 : decode cX4_toldOfFarm 1 = .ok (.bipush 10, 2) := by decide +kernel
theorem dX4_toldOfFarm_3 : decode cX4_toldOfFarm 3 = .ok (.if_icmp .ge 6, 3) := by decide +kernel
theorem dX4_toldOfFarm_6 : decode cX4_toldOfFarm 6 = .ok (.bipush (-2), 2) := by decide +kernel
theorem dX4_toldOfFarm_8 : decode cX4_toldOfFarm 8 = .ok (.ireturn, 1) := by decide +kernel
theorem dX4_toldOfFarm_9 : decode cX4_toldOfFarm 9 = .ok (.iload_n 1, 1) := by decide +kernel
theorem dX4_toldOfFarm_10 : decode cX4_toldOfFarm 10 = .ok (.bipush 10, 2) := by decide +kernel
theorem dX4_toldOfFarm_12 : decode cX4_toldOfFarm 12 = .ok (.idiv, 1) := by decide +kernel
theorem dX4_toldOfFarm_13 : decode cX4_toldOfFarm 13 = .ok (.iconst 1, 1) := by decide +kernel
theorem dX4_toldOfFarm_14 : decode cX4_toldOfFarm 14 = .ok (.isub, 1) := by decide +kernel
theorem dX4_toldOfFarm_15 : decode cX4_toldOfFarm 15 = .ok (.istore_n 2, 1) := by decide +kernel
theorem dX4_toldOfFarm_16 : decode cX4_toldOfFarm 16 = .ok (.iload_n 1, 1) := by decide +kernel
theorem dX4_toldOfFarm_17 : decode cX4_toldOfFarm 17 = .ok (.bipush 10, 2) := by decide +kernel
theorem dX4_toldOfFarm_19 : decode cX4_toldOfFarm 19 = .ok (.irem, 1) := by decide +kernel
theorem dX4_toldOfFarm_20 : decode cX4_toldOfFarm 20 = .ok (.istore_n 3, 1) := by decide +kernel
theorem dX4_toldOfFarm_21 : decode cX4_toldOfFarm 21 = .ok (.aload_n 0, 1) := by decide +kernel
theorem dX4_toldOfFarm_22 : decode cX4_toldOfFarm 22 = .ok (.getfield 10, 3) := by decide +kernel
theorem dX4_toldOfFarm_25 : decode cX4_toldOfFarm 25 = .ok (.iload_n 2, 1) := by decide +kernel
theorem dX4_toldOfFarm_26 : decode cX4_toldOfFarm 26 = .ok (.invokevirtual 68, 3) := by decide +kernel
theorem dX4_toldOfFarm_29 : decode cX4_toldOfFarm 29 = .ok (.ifCond .eq 21, 3) := by decide +kernel
theorem dX4_toldOfFarm_32 : decode cX4_toldOfFarm 32 = .ok (.iload_n 3, 1) := by decide +kernel
theorem dX4_toldOfFarm_33 : decode cX4_toldOfFarm 33 = .ok (.bipush 7, 2) := by decide +kernel
theorem dX4_toldOfFarm_35 : decode cX4_toldOfFarm 35 = .ok (.if_icmp .ge 15, 3) := by decide +kernel
theorem dX4_toldOfFarm_38 : decode cX4_toldOfFarm 38 = .ok (.aload_n 0, 1) := by decide +kernel
theorem dX4_toldOfFarm_39 : decode cX4_toldOfFarm 39 = .ok (.getfield 10, 3) := by decide +kernel
theorem dX4_toldOfFarm_42 : decode cX4_toldOfFarm 42 = .ok (.iload_n 2, 1) := by decide +kernel
theorem dX4_toldOfFarm_43 : decode cX4_toldOfFarm 43 = .ok (.iload_n 3, 1) := by decide +kernel
theorem dX4_toldOfFarm_44 : decode cX4_toldOfFarm 44 = .ok (.invokevirtual 79, 3) := by decide +kernel
theorem dX4_toldOfFarm_47 : decode cX4_toldOfFarm 47 = .ok (.goto 5, 3) := by decide +kernel
theorem dX4_toldOfFarm_50 : decode cX4_toldOfFarm 50 = .ok (.bipush (-2), 2) := by decide +kernel
theorem dX4_toldOfFarm_52 : decode cX4_toldOfFarm 52 = .ok (.ireturn, 1) := by decide +kernel
theorem dX4_fitsIf_0 : decode cX4_fitsIf 0 = .ok (.aload_n 0, 1) := by decide +kernel
theorem dX4_fitsIf_1 : decode cX4_fitsIf 1 = .ok (.getfield 16, 3) := by decide +kernel
theorem dX4_fitsIf_4 : decode cX4_fitsIf 4 = .ok (.iload_n 1, 1) := by decide +kernel
theorem dX4_fitsIf_5 : decode cX4_fitsIf 5 = .ok (.iload_n 2, 1) := by decide +kernel
theorem dX4_fitsIf_6 : decode cX4_fitsIf 6 = .ok (.iload_n 3, 1) := by decide +kernel
theorem dX4_fitsIf_7 : decode cX4_fitsIf 7 = .ok (.invokevirtual 83, 3) := by decide +kernel
theorem dX4_fitsIf_10 : decode cX4_fitsIf 10 = .ok (.aload_n 0, 1) := by decide +kernel
theorem dX4_fitsIf_11 : decode cX4_fitsIf 11 = .ok (.getfield 30, 3) := by decide +kernel
theorem dX4_fitsIf_14 : decode cX4_fitsIf 14 = .ok (.aload_n 0, 1) := by decide +kernel
theorem dX4_fitsIf_15 : decode cX4_fitsIf 15 = .ok (.getfield 16, 3) := by decide +kernel
theorem dX4_fitsIf_18 : decode cX4_fitsIf 18 = .ok (.iconst 0, 1) := by decide +kernel
theorem dX4_fitsIf_19 : decode cX4_fitsIf 19 = .ok (.invokevirtual 135, 3) := by decide +kernel
theorem dX4_fitsIf_22 : decode cX4_fitsIf 22 = .ok (.aload_n 0, 1) := by decide +kernel
theorem dX4_fitsIf_23 : decode cX4_fitsIf 23 = .ok (.getfield 16, 3) := by decide +kernel
theorem dX4_fitsIf_26 : decode cX4_fitsIf 26 = .ok (.iload_n 1, 1) := by decide +kernel
theorem dX4_fitsIf_27 : decode cX4_fitsIf 27 = .ok (.iload_n 2, 1) := by decide +kernel
theorem dX4_fitsIf_28 : decode cX4_fitsIf 28 = .ok (.aload_n 0, 1) := by decide +kernel
theorem dX4_fitsIf_29 : decode cX4_fitsIf 29 = .ok (.getfield 10, 3) := by decide +kernel
theorem dX4_fitsIf_32 : decode cX4_fitsIf 32 = .ok (.iload_n 1, 1) := by decide +kernel
theorem dX4_fitsIf_33 : decode cX4_fitsIf 33 = .ok (.iload_n 2, 1) := by decide +kernel
theorem dX4_fitsIf_34 : decode cX4_fitsIf 34 = .ok (.invokevirtual 79, 3) := by decide +kernel
theorem dX4_fitsIf_37 : decode cX4_fitsIf 37 = .ok (.invokevirtual 83, 3) := by decide +kernel
theorem dX4_fitsIf_40 : decode cX4_fitsIf 40 = .ok (.iconst 0, 1) := by decide +kernel
theorem dX4_fitsIf_41 : decode cX4_fitsIf 41 = .ok (.istore 4, 2) := by decide +kernel
theorem dX4_fitsIf_43 : decode cX4_fitsIf 43 = .ok (.iload 4, 2) := by decide +kernel
theorem dX4_fitsIf_45 : decode cX4_fitsIf 45 = .ok (.aload_n 0, 1) := by decide +kernel
theorem dX4_fitsIf_46 : decode cX4_fitsIf 46 = .ok (.getfield 10, 3) := by decide +kernel
theorem dX4_fitsIf_49 : decode cX4_fitsIf 49 = .ok (.getfield 177, 3) := by decide +kernel
theorem dX4_fitsIf_52 : decode cX4_fitsIf 52 = .ok (.if_icmp .ge 42, 3) := by decide +kernel
theorem dX4_fitsIf_55 : decode cX4_fitsIf 55 = .ok (.aload_n 0, 1) := by decide +kernel
theorem dX4_fitsIf_56 : decode cX4_fitsIf 56 = .ok (.getfield 30, 3) := by decide +kernel
theorem dX4_fitsIf_59 : decode cX4_fitsIf 59 = .ok (.getfield 139, 3) := by decide +kernel
theorem dX4_fitsIf_62 : decode cX4_fitsIf 62 = .ok (.aload_n 0, 1) := by decide +kernel
theorem dX4_fitsIf_63 : decode cX4_fitsIf 63 = .ok (.getfield 10, 3) := by decide +kernel
theorem dX4_fitsIf_66 : decode cX4_fitsIf 66 = .ok (.getfield 248, 3) := by decide +kernel
theorem dX4_fitsIf_69 : decode cX4_fitsIf 69 = .ok (.iload 4, 2) := by decide +kernel
theorem dX4_fitsIf_71 : decode cX4_fitsIf 71 = .ok (.iaload, 1) := by decide +kernel
theorem dX4_fitsIf_72 : decode cX4_fitsIf 72 = .ok (.iaload, 1) := by decide +kernel
theorem dX4_fitsIf_73 : decode cX4_fitsIf 73 = .ok (.aload_n 0, 1) := by decide +kernel
theorem dX4_fitsIf_74 : decode cX4_fitsIf 74 = .ok (.getfield 10, 3) := by decide +kernel
theorem dX4_fitsIf_77 : decode cX4_fitsIf 77 = .ok (.getfield 251, 3) := by decide +kernel
theorem dX4_fitsIf_80 : decode cX4_fitsIf 80 = .ok (.iload 4, 2) := by decide +kernel
theorem dX4_fitsIf_82 : decode cX4_fitsIf 82 = .ok (.iaload, 1) := by decide +kernel
theorem dX4_fitsIf_83 : decode cX4_fitsIf 83 = .ok (.if_icmp .eq 5, 3) := by decide +kernel
theorem dX4_fitsIf_86 : decode cX4_fitsIf 86 = .ok (.iconst 0, 1) := by decide +kernel
theorem dX4_fitsIf_87 : decode cX4_fitsIf 87 = .ok (.ireturn, 1) := by decide +kernel
theorem dX4_fitsIf_88 : decode cX4_fitsIf 88 = .ok (.iinc 4 1, 3) := by decide +kernel
theorem dX4_fitsIf_91 : decode cX4_fitsIf 91 = .ok (.goto (-48), 3) := by decide +kernel
theorem dX4_fitsIf_94 : decode cX4_fitsIf 94 = .ok (.iconst 1, 1) := by decide +kernel
theorem dX4_fitsIf_95 : decode cX4_fitsIf 95 = .ok (.ireturn, 1) := by decide +kernel
theorem dX4_note_0 : decode cX4_note 0 = .ok (.aload_n 0, 1) := by decide +kernel
theorem dX4_note_1 : decode cX4_note 1 = .ok (.getfield 190, 3) := by decide +kernel
theorem dX4_note_4 : decode cX4_note 4 = .ok (.aload_n 0, 1) := by decide +kernel
theorem dX4_note_5 : decode cX4_note 5 = .ok (.getfield 57, 3) := by decide +kernel
theorem dX4_note_8 : decode cX4_note 8 = .ok (.arraylength, 1) := by decide +kernel
theorem dX4_note_9 : decode cX4_note 9 = .ok (.if_icmp .ge 23, 3) := by decide +kernel
theorem dX4_note_12 : decode cX4_note 12 = .ok (.aload_n 0, 1) := by decide +kernel
theorem dX4_note_13 : decode cX4_note 13 = .ok (.getfield 57, 3) := by decide +kernel
theorem dX4_note_16 : decode cX4_note 16 = .ok (.aload_n 0, 1) := by decide +kernel
theorem dX4_note_17 : decode cX4_note 17 = .ok (.getfield 190, 3) := by decide +kernel
theorem dX4_note_20 : decode cX4_note 20 = .ok (.iload_n 1, 1) := by decide +kernel
theorem dX4_note_21 : decode cX4_note 21 = .ok (.iastore, 1) := by decide +kernel
theorem dX4_note_22 : decode cX4_note 22 = .ok (.aload_n 0, 1) := by decide +kernel
theorem dX4_note_23 : decode cX4_note 23 = .ok (.dup, 1) := by decide +kernel
theorem dX4_note_24 : decode cX4_note 24 = .ok (.getfield 190, 3) := by decide +kernel
theorem dX4_note_27 : decode cX4_note 27 = .ok (.iconst 1, 1) := by decide +kernel
theorem dX4_note_28 : decode cX4_note 28 = .ok (.iadd, 1) := by decide +kernel
theorem dX4_note_29 : decode cX4_note 29 = .ok (.putfield 190, 3) := by decide +kernel
theorem dX4_note_32 : decode cX4_note 32 = .ok (.return_, 1) := by decide +kernel
theorem dX4_foundAt_0 : decode cX4_foundAt 0 = .ok (.iload_n 1, 1) := by decide +kernel
theorem dX4_foundAt_1 : decode cX4_foundAt 1 = .ok (.iconst (-1), 1) := by decide +kernel
theorem dX4_foundAt_2 : decode cX4_foundAt 2 = .ok (.if_icmp .ne 8, 3) := by decide +kernel
theorem dX4_foundAt_5 : decode cX4_foundAt 5 = .ok (.aload_n 0, 1) := by decide +kernel
theorem dX4_foundAt_6 : decode cX4_foundAt 6 = .ok (.getfield 190, 3) := by decide +kernel
theorem dX4_foundAt_9 : decode cX4_foundAt 9 = .ok (.ireturn, 1) := by decide +kernel
theorem dX4_foundAt_10 : decode cX4_foundAt 10 = .ok (.iload_n 1, 1) := by decide +kernel
theorem dX4_foundAt_11 : decode cX4_foundAt 11 = .ok (.ifCond .lt 20, 3) := by decide +kernel
theorem dX4_foundAt_14 : decode cX4_foundAt 14 = .ok (.iload_n 1, 1) := by decide +kernel
theorem dX4_foundAt_15 : decode cX4_foundAt 15 = .ok (.aload_n 0, 1) := by decide +kernel
theorem dX4_foundAt_16 : decode cX4_foundAt 16 = .ok (.getfield 190, 3) := by decide +kernel
theorem dX4_foundAt_19 : decode cX4_foundAt 19 = .ok (.if_icmp .ge 12, 3) := by decide +kernel
theorem dX4_foundAt_22 : decode cX4_foundAt 22 = .ok (.aload_n 0, 1) := by decide +kernel
theorem dX4_foundAt_23 : decode cX4_foundAt 23 = .ok (.getfield 57, 3) := by decide +kernel
theorem dX4_foundAt_26 : decode cX4_foundAt 26 = .ok (.iload_n 1, 1) := by decide +kernel
theorem dX4_foundAt_27 : decode cX4_foundAt 27 = .ok (.iaload, 1) := by decide +kernel
theorem dX4_foundAt_28 : decode cX4_foundAt 28 = .ok (.goto 5, 3) := by decide +kernel
theorem dX4_foundAt_31 : decode cX4_foundAt 31 = .ok (.bipush (-6), 2) := by decide +kernel
theorem dX4_foundAt_33 : decode cX4_foundAt 33 = .ok (.ireturn, 1) := by decide +kernel
theorem dX4_findLeaks_0 : decode cX4_findLeaks 0 = .ok (.aload_n 0, 1) := by decide +kernel
theorem dX4_findLeaks_1 : decode cX4_findLeaks 1 = .ok (.iconst 0, 1) := by decide +kernel
theorem dX4_findLeaks_2 : decode cX4_findLeaks 2 = .ok (.putfield 190, 3) := by decide +kernel
theorem dX4_findLeaks_5 : decode cX4_findLeaks 5 = .ok (.iconst 0, 1) := by decide +kernel
theorem dX4_findLeaks_6 : decode cX4_findLeaks 6 = .ok (.istore_n 1, 1) := by decide +kernel
theorem dX4_findLeaks_7 : decode cX4_findLeaks 7 = .ok (.iload_n 1, 1) := by decide +kernel
theorem dX4_findLeaks_8 : decode cX4_findLeaks 8 = .ok (.aload_n 0, 1) := by decide +kernel
theorem dX4_findLeaks_9 : decode cX4_findLeaks 9 = .ok (.getfield 47, 3) := by decide +kernel
theorem dX4_findLeaks_12 : decode cX4_findLeaks 12 = .ok (.arraylength, 1) := by decide +kernel
theorem dX4_findLeaks_13 : decode cX4_findLeaks 13 = .ok (.if_icmp .ge 16, 3) := by decide +kernel
theorem dX4_findLeaks_16 : decode cX4_findLeaks 16 = .ok (.aload_n 0, 1) := by decide +kernel
theorem dX4_findLeaks_17 : decode cX4_findLeaks 17 = .ok (.getfield 47, 3) := by decide +kernel
theorem dX4_findLeaks_20 : decode cX4_findLeaks 20 = .ok (.iload_n 1, 1) := by decide +kernel
theorem dX4_findLeaks_21 : decode cX4_findLeaks 21 = .ok (.iconst 0, 1) := by decide +kernel
theorem dX4_findLeaks_22 : decode cX4_findLeaks 22 = .ok (.iastore, 1) := by decide +kernel
theorem dX4_findLeaks_23 : decode cX4_findLeaks 23 = .ok (.iinc 1 1, 3) := by decide +kernel
theorem dX4_findLeaks_26 : decode cX4_findLeaks 26 = .ok (.goto (-19), 3) := by decide +kernel
theorem dX4_findLeaks_29 : decode cX4_findLeaks 29 = .ok (.aload_n 0, 1) := by decide +kernel
theorem dX4_findLeaks_30 : decode cX4_findLeaks 30 = .ok (.getfield 16, 3) := by decide +kernel
theorem dX4_findLeaks_33 : decode cX4_findLeaks 33 = .ok (.aload_n 0, 1) := by decide +kernel
theorem dX4_findLeaks_34 : decode cX4_findLeaks 34 = .ok (.getfield 10, 3) := by decide +kernel
theorem dX4_findLeaks_37 : decode cX4_findLeaks 37 = .ok (.invokevirtual 125, 3) := by decide +kernel
theorem dX4_findLeaks_40 : decode cX4_findLeaks 40 = .ok (.iconst 0, 1) := by decide +kernel
theorem dX4_findLeaks_41 : decode cX4_findLeaks 41 = .ok (.istore_n 1, 1) := by decide +kernel
theorem dX4_findLeaks_42 : decode cX4_findLeaks 42 = .ok (.iload_n 1, 1) := by decide +kernel
theorem dX4_findLeaks_43 : decode cX4_findLeaks 43 = .ok (.aload_n 0, 1) := by decide +kernel
theorem dX4_findLeaks_44 : decode cX4_findLeaks 44 = .ok (.getfield 10, 3) := by decide +kernel
theorem dX4_findLeaks_47 : decode cX4_findLeaks 47 = .ok (.getfield 60, 3) := by decide +kernel
theorem dX4_findLeaks_50 : decode cX4_findLeaks 50 = .ok (.if_icmp .ge 64, 3) := by decide +kernel
theorem dX4_findLeaks_53 : decode cX4_findLeaks 53 = .ok (.aload_n 0, 1) := by decide +kernel
theorem dX4_findLeaks_54 : decode cX4_findLeaks 54 = .ok (.getfield 10, 3) := by decide +kernel
theorem dX4_findLeaks_57 : decode cX4_findLeaks 57 = .ok (.iload_n 1, 1) := by decide +kernel
theorem dX4_findLeaks_58 : decode cX4_findLeaks 58 = .ok (.iconst 5, 1) := by decide +kernel
theorem dX4_findLeaks_59 : decode cX4_findLeaks 59 = .ok (.invokevirtual 79, 3) := by decide +kernel
theorem dX4_findLeaks_62 : decode cX4_findLeaks 62 = .ok (.istore_n 2, 1) := by decide +kernel
theorem dX4_findLeaks_63 : decode cX4_findLeaks 63 = .ok (.iconst 1, 1) := by decide +kernel
theorem dX4_findLeaks_64 : decode cX4_findLeaks 64 = .ok (.istore_n 3, 1) := by decide +kernel
theorem dX4_findLeaks_65 : decode cX4_findLeaks 65 = .ok (.iload_n 2, 1) := by decide +kernel
theorem dX4_findLeaks_66 : decode cX4_findLeaks 66 = .ok (.iload_n 3, 1) := by decide +kernel
theorem dX4_findLeaks_67 : decode cX4_findLeaks 67 = .ok (.iadd, 1) := by decide +kernel
theorem dX4_findLeaks_68 : decode cX4_findLeaks 68 = .ok (.getstatic 76, 3) := by decide +kernel
theorem dX4_findLeaks_71 : decode cX4_findLeaks 71 = .ok (.iconst 5, 1) := by decide +kernel
theorem dX4_findLeaks_72 : decode cX4_findLeaks 72 = .ok (.iaload, 1) := by decide +kernel
theorem dX4_findLeaks_73 : decode cX4_findLeaks 73 = .ok (.if_icmp .gt 35, 3) := by decide +kernel
theorem dX4_findLeaks_76 : decode cX4_findLeaks 76 = .ok (.aload_n 0, 1) := by decide +kernel
theorem dX4_findLeaks_77 : decode cX4_findLeaks 77 = .ok (.iload_n 1, 1) := by decide +kernel
theorem dX4_findLeaks_78 : decode cX4_findLeaks 78 = .ok (.iconst 5, 1) := by decide +kernel
theorem dX4_findLeaks_79 : decode cX4_findLeaks 79 = .ok (.iload_n 2, 1) := by decide +kernel
theorem dX4_findLeaks_80 : decode cX4_findLeaks 80 = .ok (.iload_n 3, 1) := by decide +kernel
theorem dX4_findLeaks_81 : decode cX4_findLeaks 81 = .ok (.iadd, 1) := by decide +kernel
theorem dX4_findLeaks_82 : decode cX4_findLeaks 82 = .ok (.invokevirtual 193, 3) := by decide +kernel
theorem dX4_findLeaks_85 : decode cX4_findLeaks 85 = .ok (.ifCond .eq 17, 3) := by decide +kernel
theorem dX4_findLeaks_88 : decode cX4_findLeaks 88 = .ok (.aload_n 0, 1) := by decide +kernel
theorem dX4_findLeaks_89 : decode cX4_findLeaks 89 = .ok (.bipush 10, 2) := by decide +kernel
theorem dX4_findLeaks_91 : decode cX4_findLeaks 91 = .ok (.iload_n 1, 1) := by decide +kernel
theorem dX4_findLeaks_92 : decode cX4_findLeaks 92 = .ok (.imul, 1) := by decide +kernel
theorem dX4_findLeaks_93 : decode cX4_findLeaks 93 = .ok (.iload_n 3, 1) := by decide +kernel
theorem dX4_findLeaks_94 : decode cX4_findLeaks 94 = .ok (.iadd, 1) := by decide +kernel
theorem dX4_findLeaks_95 : decode cX4_findLeaks 95 = .ok (.invokevirtual 197, 3) := by decide +kernel
theorem dX4_findLeaks_98 : decode cX4_findLeaks 98 = .ok (.aload_n 0, 1) := by decide +kernel
theorem dX4_findLeaks_99 : decode cX4_findLeaks 99 = .ok (.invokevirtual 254, 3) := by decide +kernel
theorem dX4_findLeaks_102 : decode cX4_findLeaks 102 = .ok (.iinc 3 1, 3) := by decide +kernel
theorem dX4_findLeaks_105 : decode cX4_findLeaks 105 = .ok (.goto (-40), 3) := by decide +kernel
theorem dX4_findLeaks_108 : decode cX4_findLeaks 108 = .ok (.iinc 1 1, 3) := by decide +kernel
theorem dX4_findLeaks_111 : decode cX4_findLeaks 111 = .ok (.goto (-69), 3) := by decide +kernel
theorem dX4_findLeaks_114 : decode cX4_findLeaks 114 = .ok (.return_, 1) := by decide +kernel
theorem dX4_tallyTaken_0 : decode cX4_tallyTaken 0 = .ok (.iconst 0, 1) := by decide +kernel
theorem dX4_tallyTaken_1 : decode cX4_tallyTaken 1 = .ok (.istore_n 1, 1) := by decide +kernel
theorem dX4_tallyTaken_2 : decode cX4_tallyTaken 2 = .ok (.iload_n 1, 1) := by decide +kernel
theorem dX4_tallyTaken_3 : decode cX4_tallyTaken 3 = .ok (.aload_n 0, 1) := by decide +kernel
theorem dX4_tallyTaken_4 : decode cX4_tallyTaken 4 = .ok (.getfield 10, 3) := by decide +kernel
theorem dX4_tallyTaken_7 : decode cX4_tallyTaken 7 = .ok (.getfield 60, 3) := by decide +kernel
theorem dX4_tallyTaken_10 : decode cX4_tallyTaken 10 = .ok (.if_icmp .ge 32, 3) := by decide +kernel
theorem dX4_tallyTaken_13 : decode cX4_tallyTaken 13 = .ok (.aload_n 0, 1) := by decide +kernel
theorem dX4_tallyTaken_14 : decode cX4_tallyTaken 14 = .ok (.getfield 47, 3) := by decide +kernel
theorem dX4_tallyTaken_17 : decode cX4_tallyTaken 17 = .ok (.iload_n 1, 1) := by decide +kernel
theorem dX4_tallyTaken_18 : decode cX4_tallyTaken 18 = .ok (.bipush 10, 2) := by decide +kernel
theorem dX4_tallyTaken_20 : decode cX4_tallyTaken 20 = .ok (.imul, 1) := by decide +kernel
theorem dX4_tallyTaken_21 : decode cX4_tallyTaken 21 = .ok (.aload_n 0, 1) := by decide +kernel
theorem dX4_tallyTaken_22 : decode cX4_tallyTaken 22 = .ok (.getfield 30, 3) := by decide +kernel
theorem dX4_tallyTaken_25 : decode cX4_tallyTaken 25 = .ok (.getfield 139, 3) := by decide +kernel
theorem dX4_tallyTaken_28 : decode cX4_tallyTaken 28 = .ok (.iload_n 1, 1) := by decide +kernel
theorem dX4_tallyTaken_29 : decode cX4_tallyTaken 29 = .ok (.iaload, 1) := by decide +kernel
theorem dX4_tallyTaken_30 : decode cX4_tallyTaken 30 = .ok (.iadd, 1) := by decide +kernel
theorem dX4_tallyTaken_31 : decode cX4_tallyTaken 31 = .ok (.dup2, 1) := by decide +kernel
theorem dX4_tallyTaken_32 : decode cX4_tallyTaken 32 = .ok (.iaload, 1) := by decide +kernel
theorem dX4_tallyTaken_33 : decode cX4_tallyTaken 33 = .ok (.iconst 1, 1) := by decide +kernel
theorem dX4_tallyTaken_34 : decode cX4_tallyTaken 34 = .ok (.iadd, 1) := by decide +kernel
theorem dX4_tallyTaken_35 : decode cX4_tallyTaken 35 = .ok (.iastore, 1) := by decide +kernel
theorem dX4_tallyTaken_36 : decode cX4_tallyTaken 36 = .ok (.iinc 1 1, 3) := by decide +kernel
theorem dX4_tallyTaken_39 : decode cX4_tallyTaken 39 = .ok (.goto (-37), 3) := by decide +kernel
theorem dX4_tallyTaken_42 : decode cX4_tallyTaken 42 = .ok (.return_, 1) := by decide +kernel
theorem dX4_mostLeft_0 : decode cX4_mostLeft 0 = .ok (.iconst 0, 1) := by decide +kernel
theorem dX4_mostLeft_1 : decode cX4_mostLeft 1 = .ok (.istore_n 2, 1) := by decide +kernel
theorem dX4_mostLeft_2 : decode cX4_mostLeft 2 = .ok (.iconst 0, 1) := by decide +kernel
theorem dX4_mostLeft_3 : decode cX4_mostLeft 3 = .ok (.istore_n 3, 1) := by decide +kernel
theorem dX4_mostLeft_4 : decode cX4_mostLeft 4 = .ok (.iload_n 3, 1) := by decide +kernel
theorem dX4_mostLeft_5 : decode cX4_mostLeft 5 = .ok (.bipush 10, 2) := by decide +kernel
theorem dX4_mostLeft_7 : decode cX4_mostLeft 7 = .ok (.if_icmp .ge 25, 3) := by decide +kernel
theorem dX4_mostLeft_10 : decode cX4_mostLeft 10 = .ok (.iload_n 2, 1) := by decide +kernel
theorem dX4_mostLeft_11 : decode cX4_mostLeft 11 = .ok (.aload_n 0, 1) := by decide +kernel
theorem dX4_mostLeft_12 : decode cX4_mostLeft 12 = .ok (.getfield 47, 3) := by decide +kernel
theorem dX4_mostLeft_15 : decode cX4_mostLeft 15 = .ok (.iload_n 1, 1) := by decide +kernel
theorem dX4_mostLeft_16 : decode cX4_mostLeft 16 = .ok (.bipush 10, 2) := by decide +kernel
theorem dX4_mostLeft_18 : decode cX4_mostLeft 18 = .ok (.imul, 1) := by decide +kernel
theorem dX4_mostLeft_19 : decode cX4_mostLeft 19 = .ok (.iload_n 3, 1) := by decide +kernel
theorem dX4_mostLeft_20 : decode cX4_mostLeft 20 = .ok (.iadd, 1) := by decide +kernel
theorem dX4_mostLeft_21 : decode cX4_mostLeft 21 = .ok (.iaload, 1) := by decide +kernel
theorem dX4_mostLeft_22 : decode cX4_mostLeft 22 = .ok (.invokestatic 155, 3) := by decide +kernel
theorem dX4_mostLeft_25 : decode cX4_mostLeft 25 = .ok (.istore_n 2, 1) := by decide +kernel
theorem dX4_mostLeft_26 : decode cX4_mostLeft 26 = .ok (.iinc 3 1, 3) := by decide +kernel
theorem dX4_mostLeft_29 : decode cX4_mostLeft 29 = .ok (.goto (-25), 3) := by decide +kernel
theorem dX4_mostLeft_32 : decode cX4_mostLeft 32 = .ok (.iload_n 2, 1) := by decide +kernel
theorem dX4_mostLeft_33 : decode cX4_mostLeft 33 = .ok (.ireturn, 1) := by decide +kernel
theorem dX4_gather_0 : decode cX4_gather 0 = .ok (.iconst 0, 1) := by decide +kernel
theorem dX4_gather_1 : decode cX4_gather 1 = .ok (.istore_n 2, 1) := by decide +kernel
theorem dX4_gather_2 : decode cX4_gather 2 = .ok (.iconst 0, 1) := by decide +kernel
theorem dX4_gather_3 : decode cX4_gather 3 = .ok (.istore_n 3, 1) := by decide +kernel
theorem dX4_gather_4 : decode cX4_gather 4 = .ok (.iload_n 3, 1) := by decide +kernel
theorem dX4_gather_5 : decode cX4_gather 5 = .ok (.aload_n 0, 1) := by decide +kernel
theorem dX4_gather_6 : decode cX4_gather 6 = .ok (.getfield 10, 3) := by decide +kernel
theorem dX4_gather_9 : decode cX4_gather 9 = .ok (.getfield 60, 3) := by decide +kernel
theorem dX4_gather_12 : decode cX4_gather 12 = .ok (.if_icmp .ge 32, 3) := by decide +kernel
theorem dX4_gather_15 : decode cX4_gather 15 = .ok (.iload_n 2, 1) := by decide +kernel
theorem dX4_gather_16 : decode cX4_gather 16 = .ok (.iconst 3, 1) := by decide +kernel
theorem dX4_gather_17 : decode cX4_gather 17 = .ok (.if_icmp .ge 27, 3) := by decide +kernel
theorem dX4_gather_20 : decode cX4_gather 20 = .ok (.iload_n 1, 1) := by decide +kernel
theorem dX4_gather_21 : decode cX4_gather 21 = .ok (.iload_n 3, 1) := by decide +kernel
theorem dX4_gather_22 : decode cX4_gather 22 = .ok (.ishr, 1) := by decide +kernel
theorem dX4_gather_23 : decode cX4_gather 23 = .ok (.iconst 1, 1) := by decide +kernel
theorem dX4_gather_24 : decode cX4_gather 24 = .ok (.iand, 1) := by decide +kernel
theorem dX4_gather_25 : decode cX4_gather 25 = .ok (.ifCond .eq 13, 3) := by decide +kernel
theorem dX4_gather_28 : decode cX4_gather 28 = .ok (.aload_n 0, 1) := by decide +kernel
theorem dX4_gather_29 : decode cX4_gather 29 = .ok (.getfield 51, 3) := by decide +kernel
theorem dX4_gather_32 : decode cX4_gather 32 = .ok (.iload_n 2, 1) := by decide +kernel
theorem dX4_gather_33 : decode cX4_gather 33 = .ok (.iload_n 3, 1) := by decide +kernel
theorem dX4_gather_34 : decode cX4_gather 34 = .ok (.iastore, 1) := by decide +kernel
theorem dX4_gather_35 : decode cX4_gather 35 = .ok (.iinc 2 1, 3) := by decide +kernel
theorem dX4_gather_38 : decode cX4_gather 38 = .ok (.iinc 3 1, 3) := by decide +kernel
theorem dX4_gather_41 : decode cX4_gather 41 = .ok (.goto (-37), 3) := by decide +kernel
theorem dX4_gather_44 : decode cX4_gather 44 = .ok (.iload_n 2, 1) := by decide +kernel
theorem dX4_gather_45 : decode cX4_gather 45 = .ok (.ireturn, 1) := by decide +kernel
theorem dX4_stride_0 : decode cX4_stride 0 = .ok (.iconst 1, 1) := by decide +kernel
theorem dX4_stride_1 : decode cX4_stride 1 = .ok (.istore_n 2, 1) := by decide +kernel
theorem dX4_stride_2 : decode cX4_stride 2 = .ok (.iload_n 0, 1) := by decide +kernel
theorem dX4_stride_3 : decode cX4_stride 3 = .ok (.iconst 1, 1) := by decide +kernel
theorem dX4_stride_4 : decode cX4_stride 4 = .ok (.iadd, 1) := by decide +kernel
theorem dX4_stride_5 : decode cX4_stride 5 = .ok (.istore_n 3, 1) := by decide +kernel
theorem dX4_stride_6 : decode cX4_stride 6 = .ok (.iload_n 3, 1) := by decide +kernel
theorem dX4_stride_7 : decode cX4_stride 7 = .ok (.iload_n 1, 1) := by decide +kernel
theorem dX4_stride_8 : decode cX4_stride 8 = .ok (.if_icmp .ge 13, 3) := by decide +kernel
theorem dX4_stride_11 : decode cX4_stride 11 = .ok (.iload_n 2, 1) := by decide +kernel
theorem dX4_stride_12 : decode cX4_stride 12 = .ok (.iconst 5, 1) := by decide +kernel
theorem dX4_stride_13 : decode cX4_stride 13 = .ok (.imul, 1) := by decide +kernel
theorem dX4_stride_14 : decode cX4_stride 14 = .ok (.istore_n 2, 1) := by decide +kernel
theorem dX4_stride_15 : decode cX4_stride 15 = .ok (.iinc 3 1, 3) := by decide +kernel
theorem dX4_stride_18 : decode cX4_stride 18 = .ok (.goto (-12), 3) := by decide +kernel
theorem dX4_stride_21 : decode cX4_stride 21 = .ok (.iload_n 2, 1) := by decide +kernel
theorem dX4_stride_22 : decode cX4_stride 22 = .ok (.ireturn, 1) := by decide +kernel
theorem dX4_choice_0 : decode cX4_choice 0 = .ok (.iload_n 1, 1) := by decide +kernel
theorem dX4_choice_1 : decode cX4_choice 1 = .ok (.iconst 1, 1) := by decide +kernel
theorem dX4_choice_2 : decode cX4_choice 2 = .ok (.if_icmp .ge 7, 3) := by decide +kernel
theorem dX4_choice_5 : decode cX4_choice 5 = .ok (.iconst 0, 1) := by decide +kernel
theorem dX4_choice_6 : decode cX4_choice 6 = .ok (.goto 8, 3) := by decide +kernel
theorem dX4_choice_9 : decode cX4_choice 9 = .ok (.iload_n 0, 1) := by decide +kernel
theorem dX4_choice_10 : decode cX4_choice 10 = .ok (.iload_n 1, 1) := by decide +kernel
theorem dX4_choice_11 : decode cX4_choice 11 = .ok (.idiv, 1) := by decide +kernel
theorem dX4_choice_12 : decode cX4_choice 12 = .ok (.iconst 5, 1) := by decide +kernel
theorem dX4_choice_13 : decode cX4_choice 13 = .ok (.irem, 1) := by decide +kernel
theorem dX4_choice_14 : decode cX4_choice 14 = .ok (.ireturn, 1) := by decide +kernel
theorem dX4_weighRows_0 : decode cX4_weighRows 0 = .ok (.aload_n 0, 1) := by decide +kernel
theorem dX4_weighRows_1 : decode cX4_weighRows 1 = .ok (.getfield 16, 3) := by decide +kernel
theorem dX4_weighRows_4 : decode cX4_weighRows 4 = .ok (.aload_n 0, 1) := by decide +kernel
theorem dX4_weighRows_5 : decode cX4_weighRows 5 = .ok (.getfield 10, 3) := by decide +kernel
theorem dX4_weighRows_8 : decode cX4_weighRows 8 = .ok (.invokevirtual 125, 3) := by decide +kernel
theorem dX4_weighRows_11 : decode cX4_weighRows 11 = .ok (.bipush 125, 2) := by decide +kernel
theorem dX4_weighRows_13 : decode cX4_weighRows 13 = .ok (.iconst 5, 1) := by decide +kernel
theorem dX4_weighRows_14 : decode cX4_weighRows 14 = .ok (.iconst 0, 1) := by decide +kernel
theorem dX4_weighRows_15 : decode cX4_weighRows 15 = .ok (.iload_n 1, 1) := by decide +kernel
theorem dX4_weighRows_16 : decode cX4_weighRows 16 = .ok (.invokestatic 257, 3) := by decide +kernel
theorem dX4_weighRows_19 : decode cX4_weighRows 19 = .ok (.imul, 1) := by decide +kernel
theorem dX4_weighRows_20 : decode cX4_weighRows 20 = .ok (.invokestatic 260, 3) := by decide +kernel
theorem dX4_weighRows_23 : decode cX4_weighRows 23 = .ok (.istore_n 2, 1) := by decide +kernel
theorem dX4_weighRows_24 : decode cX4_weighRows 24 = .ok (.iconst 0, 1) := by decide +kernel
theorem dX4_weighRows_25 : decode cX4_weighRows 25 = .ok (.istore_n 3, 1) := by decide +kernel
theorem dX4_weighRows_26 : decode cX4_weighRows 26 = .ok (.iload_n 3, 1) := by decide +kernel
theorem dX4_weighRows_27 : decode cX4_weighRows 27 = .ok (.iload_n 2, 1) := by decide +kernel
theorem dX4_weighRows_28 : decode cX4_weighRows 28 = .ok (.if_icmp .ge 121, 3) := by decide +kernel
theorem dX4_weighRows_31 : decode cX4_weighRows 31 = .ok (.iconst 0, 1) := by decide +kernel
theorem dX4_weighRows_32 : decode cX4_weighRows 32 = .ok (.istore 4, 2) := by decide +kernel
theorem dX4_weighRows_34 : decode cX4_weighRows 34 = .ok (.iload 4, 2) := by decide +kernel
theorem dX4_weighRows_36 : decode cX4_weighRows 36 = .ok (.iload_n 1, 1) := by decide +kernel
theorem dX4_weighRows_37 : decode cX4_weighRows 37 = .ok (.if_icmp .ge 34, 3) := by decide +kernel
theorem dX4_weighRows_40 : decode cX4_weighRows 40 = .ok (.aload_n 0, 1) := by decide +kernel
theorem dX4_weighRows_41 : decode cX4_weighRows 41 = .ok (.getfield 16, 3) := by decide +kernel
theorem dX4_weighRows_44 : decode cX4_weighRows 44 = .ok (.aload_n 0, 1) := by decide +kernel
theorem dX4_weighRows_45 : decode cX4_weighRows 45 = .ok (.getfield 51, 3) := by decide +kernel
theorem dX4_weighRows_48 : decode cX4_weighRows 48 = .ok (.iload 4, 2) := by decide +kernel
theorem dX4_weighRows_50 : decode cX4_weighRows 50 = .ok (.iaload, 1) := by decide +kernel
theorem dX4_weighRows_51 : decode cX4_weighRows 51 = .ok (.iconst 1, 1) := by decide +kernel
theorem dX4_weighRows_52 : decode cX4_weighRows 52 = .ok (.iload_n 3, 1) := by decide +kernel
theorem dX4_weighRows_53 : decode cX4_weighRows 53 = .ok (.iload 4, 2) := by decide +kernel
theorem dX4_weighRows_55 : decode cX4_weighRows 55 = .ok (.iload_n 1, 1) := by decide +kernel
theorem dX4_weighRows_56 : decode cX4_weighRows 56 = .ok (.invokestatic 257, 3) := by decide +kernel
theorem dX4_weighRows_59 : decode cX4_weighRows 59 = .ok (.invokestatic 263, 3) := by decide +kernel
theorem dX4_weighRows_62 : decode cX4_weighRows 62 = .ok (.invokevirtual 83, 3) := by decide +kernel
theorem dX4_weighRows_65 : decode cX4_weighRows 65 = .ok (.iinc 4 1, 3) := by decide +kernel
theorem dX4_weighRows_68 : decode cX4_weighRows 68 = .ok (.goto (-34), 3) := by decide +kernel
theorem dX4_weighRows_71 : decode cX4_weighRows 71 = .ok (.aload_n 0, 1) := by decide +kernel
theorem dX4_weighRows_72 : decode cX4_weighRows 72 = .ok (.getfield 30, 3) := by decide +kernel
theorem dX4_weighRows_75 : decode cX4_weighRows 75 = .ok (.aload_n 0, 1) := by decide +kernel
theorem dX4_weighRows_76 : decode cX4_weighRows 76 = .ok (.getfield 16, 3) := by decide +kernel
theorem dX4_weighRows_79 : decode cX4_weighRows 79 = .ok (.iconst 0, 1) := by decide +kernel
theorem dX4_weighRows_80 : decode cX4_weighRows 80 = .ok (.invokevirtual 135, 3) := by decide +kernel
theorem dX4_weighRows_83 : decode cX4_weighRows 83 = .ok (.iconst 0, 1) := by decide +kernel
theorem dX4_weighRows_84 : decode cX4_weighRows 84 = .ok (.istore 4, 2) := by decide +kernel
theorem dX4_weighRows_86 : decode cX4_weighRows 86 = .ok (.iload 4, 2) := by decide +kernel
theorem dX4_weighRows_88 : decode cX4_weighRows 88 = .ok (.iload_n 1, 1) := by decide +kernel
theorem dX4_weighRows_89 : decode cX4_weighRows 89 = .ok (.if_icmp .ge 54, 3) := by decide +kernel
theorem dX4_weighRows_92 : decode cX4_weighRows 92 = .ok (.aload_n 0, 1) := by decide +kernel
theorem dX4_weighRows_93 : decode cX4_weighRows 93 = .ok (.getfield 51, 3) := by decide +kernel
theorem dX4_weighRows_96 : decode cX4_weighRows 96 = .ok (.iload 4, 2) := by decide +kernel
theorem dX4_weighRows_98 : decode cX4_weighRows 98 = .ok (.iaload, 1) := by decide +kernel
theorem dX4_weighRows_99 : decode cX4_weighRows 99 = .ok (.istore 5, 2) := by decide +kernel
theorem dX4_weighRows_101 : decode cX4_weighRows 101 = .ok (.aload_n 0, 1) := by decide +kernel
theorem dX4_weighRows_102 : decode cX4_weighRows 102 = .ok (.getfield 54, 3) := by decide +kernel
theorem dX4_weighRows_105 : decode cX4_weighRows 105 = .ok (.iload_n 3, 1) := by decide +kernel
theorem dX4_weighRows_106 : decode cX4_weighRows 106 = .ok (.iconst 3, 1) := by decide +kernel
theorem dX4_weighRows_107 : decode cX4_weighRows 107 = .ok (.imul, 1) := by decide +kernel
theorem dX4_weighRows_108 : decode cX4_weighRows 108 = .ok (.iload 4, 2) := by decide +kernel
theorem dX4_weighRows_110 : decode cX4_weighRows 110 = .ok (.iadd, 1) := by decide +kernel
theorem dX4_weighRows_111 : decode cX4_weighRows 111 = .ok (.iconst 4, 1) := by decide +kernel
theorem dX4_weighRows_112 : decode cX4_weighRows 112 = .ok (.aload_n 0, 1) := by decide +kernel
theorem dX4_weighRows_113 : decode cX4_weighRows 113 = .ok (.getfield 30, 3) := by decide +kernel
theorem dX4_weighRows_116 : decode cX4_weighRows 116 = .ok (.getfield 139, 3) := by decide +kernel
theorem dX4_weighRows_119 : decode cX4_weighRows 119 = .ok (.iload 5, 2) := by decide +kernel
theorem dX4_weighRows_121 : decode cX4_weighRows 121 = .ok (.iaload, 1) := by decide +kernel
theorem dX4_weighRows_122 : decode cX4_weighRows 122 = .ok (.imul, 1) := by decide +kernel
theorem dX4_weighRows_123 : decode cX4_weighRows 123 = .ok (.iconst 3, 1) := by decide +kernel
theorem dX4_weighRows_124 : decode cX4_weighRows 124 = .ok (.aload_n 0, 1) := by decide +kernel
theorem dX4_weighRows_125 : decode cX4_weighRows 125 = .ok (.getfield 16, 3) := by decide +kernel
theorem dX4_weighRows_128 : decode cX4_weighRows 128 = .ok (.iload 5, 2) := by decide +kernel
theorem dX4_weighRows_130 : decode cX4_weighRows 130 = .ok (.iconst 1, 1) := by decide +kernel
theorem dX4_weighRows_131 : decode cX4_weighRows 131 = .ok (.invokevirtual 79, 3) := by decide +kernel
theorem dX4_weighRows_134 : decode cX4_weighRows 134 = .ok (.imul, 1) := by decide +kernel
theorem dX4_weighRows_135 : decode cX4_weighRows 135 = .ok (.isub, 1) := by decide +kernel
theorem dX4_weighRows_136 : decode cX4_weighRows 136 = .ok (.iastore, 1) := by decide +kernel
theorem dX4_weighRows_137 : decode cX4_weighRows 137 = .ok (.iinc 4 1, 3) := by decide +kernel
theorem dX4_weighRows_140 : decode cX4_weighRows 140 = .ok (.goto (-54), 3) := by decide +kernel
theorem dX4_weighRows_143 : decode cX4_weighRows 143 = .ok (.iinc 3 1, 3) := by decide +kernel
theorem dX4_weighRows_146 : decode cX4_weighRows 146 = .ok (.goto (-120), 3) := by decide +kernel
theorem dX4_weighRows_149 : decode cX4_weighRows 149 = .ok (.iload_n 2, 1) := by decide +kernel
theorem dX4_weighRows_150 : decode cX4_weighRows 150 = .ok (.ireturn, 1) := by decide +kernel
theorem dX4_isAtRest_0 : decode cX4_isAtRest 0 = .ok (.iconst 0, 1) := by decide +kernel
theorem dX4_isAtRest_1 : decode cX4_isAtRest 1 = .ok (.istore_n 3, 1) := by decide +kernel
theorem dX4_isAtRest_2 : decode cX4_isAtRest 2 = .ok (.iload_n 3, 1) := by decide +kernel
theorem dX4_isAtRest_3 : decode cX4_isAtRest 3 = .ok (.iload_n 2, 1) := by decide +kernel
theorem dX4_isAtRest_4 : decode cX4_isAtRest 4 = .ok (.if_icmp .ge 80, 3) := by decide +kernel
theorem dX4_isAtRest_7 : decode cX4_isAtRest 7 = .ok (.iload_n 3, 1) := by decide +kernel
theorem dX4_isAtRest_8 : decode cX4_isAtRest 8 = .ok (.iload_n 2, 1) := by decide +kernel
theorem dX4_isAtRest_9 : decode cX4_isAtRest 9 = .ok (.invokestatic 257, 3) := by decide +kernel
theorem dX4_isAtRest_12 : decode cX4_isAtRest 12 = .ok (.istore 4, 2) := by decide +kernel
theorem dX4_isAtRest_14 : decode cX4_isAtRest 14 = .ok (.iload_n 1, 1) := by decide +kernel
theorem dX4_isAtRest_15 : decode cX4_isAtRest 15 = .ok (.iload_n 1, 1) := by decide +kernel
theorem dX4_isAtRest_16 : decode cX4_isAtRest 16 = .ok (.iload 4, 2) := by decide +kernel
theorem dX4_isAtRest_18 : decode cX4_isAtRest 18 = .ok (.invokestatic 263, 3) := by decide +kernel
theorem dX4_isAtRest_21 : decode cX4_isAtRest 21 = .ok (.iload 4, 2) := by decide +kernel
theorem dX4_isAtRest_23 : decode cX4_isAtRest 23 = .ok (.imul, 1) := by decide +kernel
theorem dX4_isAtRest_24 : decode cX4_isAtRest 24 = .ok (.isub, 1) := by decide +kernel
theorem dX4_isAtRest_25 : decode cX4_isAtRest 25 = .ok (.istore 5, 2) := by decide +kernel
theorem dX4_isAtRest_27 : decode cX4_isAtRest 27 = .ok (.iconst 0, 1) := by decide +kernel
theorem dX4_isAtRest_28 : decode cX4_isAtRest 28 = .ok (.istore 6, 2) := by decide +kernel
theorem dX4_isAtRest_30 : decode cX4_isAtRest 30 = .ok (.iload 6, 2) := by decide +kernel
theorem dX4_isAtRest_32 : decode cX4_isAtRest 32 = .ok (.iconst 5, 1) := by decide +kernel
theorem dX4_isAtRest_33 : decode cX4_isAtRest 33 = .ok (.if_icmp .ge 45, 3) := by decide +kernel
theorem dX4_isAtRest_36 : decode cX4_isAtRest 36 = .ok (.iload 5, 2) := by decide +kernel
theorem dX4_isAtRest_38 : decode cX4_isAtRest 38 = .ok (.iload 6, 2) := by decide +kernel
theorem dX4_isAtRest_40 : decode cX4_isAtRest 40 = .ok (.iload 4, 2) := by decide +kernel
theorem dX4_isAtRest_42 : decode cX4_isAtRest 42 = .ok (.imul, 1) := by decide +kernel
theorem dX4_isAtRest_43 : decode cX4_isAtRest 43 = .ok (.iadd, 1) := by decide +kernel
theorem dX4_isAtRest_44 : decode cX4_isAtRest 44 = .ok (.istore 7, 2) := by decide +kernel
theorem dX4_isAtRest_46 : decode cX4_isAtRest 46 = .ok (.aload_n 0, 1) := by decide +kernel
theorem dX4_isAtRest_47 : decode cX4_isAtRest 47 = .ok (.getfield 54, 3) := by decide +kernel
theorem dX4_isAtRest_50 : decode cX4_isAtRest 50 = .ok (.iload 7, 2) := by decide +kernel
theorem dX4_isAtRest_52 : decode cX4_isAtRest 52 = .ok (.iconst 3, 1) := by decide +kernel
theorem dX4_isAtRest_53 : decode cX4_isAtRest 53 = .ok (.imul, 1) := by decide +kernel
theorem dX4_isAtRest_54 : decode cX4_isAtRest 54 = .ok (.iload_n 3, 1) := by decide +kernel
theorem dX4_isAtRest_55 : decode cX4_isAtRest 55 = .ok (.iadd, 1) := by decide +kernel
theorem dX4_isAtRest_56 : decode cX4_isAtRest 56 = .ok (.iaload, 1) := by decide +kernel
theorem dX4_isAtRest_57 : decode cX4_isAtRest 57 = .ok (.aload_n 0, 1) := by decide +kernel
theorem dX4_isAtRest_58 : decode cX4_isAtRest 58 = .ok (.getfield 54, 3) := by decide +kernel
theorem dX4_isAtRest_61 : decode cX4_isAtRest 61 = .ok (.iload_n 1, 1) := by decide +kernel
theorem dX4_isAtRest_62 : decode cX4_isAtRest 62 = .ok (.iconst 3, 1) := by decide +kernel
theorem dX4_isAtRest_63 : decode cX4_isAtRest 63 = .ok (.imul, 1) := by decide +kernel
theorem dX4_isAtRest_64 : decode cX4_isAtRest 64 = .ok (.iload_n 3, 1) := by decide +kernel
theorem dX4_isAtRest_65 : decode cX4_isAtRest 65 = .ok (.iadd, 1) := by decide +kernel
theorem dX4_isAtRest_66 : decode cX4_isAtRest 66 = .ok (.iaload, 1) := by decide +kernel
theorem dX4_isAtRest_67 : decode cX4_isAtRest 67 = .ok (.if_icmp .le 5, 3) := by decide +kernel
theorem dX4_isAtRest_70 : decode cX4_isAtRest 70 = .ok (.iconst 0, 1) := by decide +kernel
theorem dX4_isAtRest_71 : decode cX4_isAtRest 71 = .ok (.ireturn, 1) := by decide +kernel
theorem dX4_isAtRest_72 : decode cX4_isAtRest 72 = .ok (.iinc 6 1, 3) := by decide +kernel
theorem dX4_isAtRest_75 : decode cX4_isAtRest 75 = .ok (.goto (-45), 3) := by decide +kernel
theorem dX4_isAtRest_78 : decode cX4_isAtRest 78 = .ok (.iinc 3 1, 3) := by decide +kernel
theorem dX4_isAtRest_81 : decode cX4_isAtRest 81 = .ok (.goto (-79), 3) := by decide +kernel
theorem dX4_isAtRest_84 : decode cX4_isAtRest 84 = .ok (.iconst 1, 1) := by decide +kernel
theorem dX4_isAtRest_85 : decode cX4_isAtRest 85 = .ok (.ireturn, 1) := by decide +kernel
theorem dX4_asDigits_0 : decode cX4_asDigits 0 = .ok (.iload_n 0, 1) := by decide +kernel
theorem dX4_asDigits_1 : decode cX4_asDigits 1 = .ok (.bipush 25, 2) := by decide +kernel
theorem dX4_asDigits_3 : decode cX4_asDigits 3 = .ok (.idiv, 1) := by decide +kernel
theorem dX4_asDigits_4 : decode cX4_asDigits 4 = .ok (.bipush 100, 2) := by decide +kernel
theorem dX4_asDigits_6 : decode cX4_asDigits 6 = .ok (.imul, 1) := by decide +kernel
theorem dX4_asDigits_7 : decode cX4_asDigits 7 = .ok (.iload_n 0, 1) := by decide +kernel
theorem dX4_asDigits_8 : decode cX4_asDigits 8 = .ok (.iconst 5, 1) := by decide +kernel
theorem dX4_asDigits_9 : decode cX4_asDigits 9 = .ok (.idiv, 1) := by decide +kernel
theorem dX4_asDigits_10 : decode cX4_asDigits 10 = .ok (.iconst 5, 1) := by decide +kernel
theorem dX4_asDigits_11 : decode cX4_asDigits 11 = .ok (.irem, 1) := by decide +kernel
theorem dX4_asDigits_12 : decode cX4_asDigits 12 = .ok (.bipush 10, 2) := by decide +kernel
theorem dX4_asDigits_14 : decode cX4_asDigits 14 = .ok (.imul, 1) := by decide +kernel
theorem dX4_asDigits_15 : decode cX4_asDigits 15 = .ok (.iadd, 1) := by decide +kernel
theorem dX4_asDigits_16 : decode cX4_asDigits 16 = .ok (.iload_n 0, 1) := by decide +kernel
theorem dX4_asDigits_17 : decode cX4_asDigits 17 = .ok (.iconst 5, 1) := by decide +kernel
theorem dX4_asDigits_18 : decode cX4_asDigits 18 = .ok (.irem, 1) := by decide +kernel
theorem dX4_asDigits_19 : decode cX4_asDigits 19 = .ok (.iadd, 1) := by decide +kernel
theorem dX4_asDigits_20 : decode cX4_asDigits 20 = .ok (.ireturn, 1) := by decide +kernel
theorem dX4_power_0 : decode cX4_power 0 = .ok (.lconst 1, 1) := by decide +kernel
theorem dX4_power_1 : decode cX4_power 1 = .ok (.lstore_n 2, 1) := by decide +kernel
theorem dX4_power_2 : decode cX4_power 2 = .ok (.iconst 0, 1) := by decide +kernel
theorem dX4_power_3 : decode cX4_power 3 = .ok (.istore 4, 2) := by decide +kernel
theorem dX4_power_5 : decode cX4_power 5 = .ok (.iload 4, 2) := by decide +kernel
theorem dX4_power_7 : decode cX4_power 7 = .ok (.iload_n 1, 1) := by decide +kernel
theorem dX4_power_8 : decode cX4_power 8 = .ok (.if_icmp .ge 14, 3) := by decide +kernel
theorem dX4_power_11 : decode cX4_power 11 = .ok (.lload_n 2, 1) := by decide +kernel
theorem dX4_power_12 : decode cX4_power 12 = .ok (.iload_n 0, 1) := by decide +kernel
theorem dX4_power_13 : decode cX4_power 13 = .ok (.i2l, 1) := by decide +kernel
theorem dX4_power_14 : decode cX4_power 14 = .ok (.lmul, 1) := by decide +kernel
theorem dX4_power_15 : decode cX4_power 15 = .ok (.lstore_n 2, 1) := by decide +kernel
theorem dX4_power_16 : decode cX4_power 16 = .ok (.iinc 4 1, 3) := by decide +kernel
theorem dX4_power_19 : decode cX4_power 19 = .ok (.goto (-14), 3) := by decide +kernel
theorem dX4_power_22 : decode cX4_power 22 = .ok (.lload_n 2, 1) := by decide +kernel
theorem dX4_power_23 : decode cX4_power 23 = .ok (.lreturn, 1) := by decide +kernel
theorem dX4_commonDivisor_0 : decode cX4_commonDivisor 0 = .ok (.lload_n 0, 1) := by decide +kernel
theorem dX4_commonDivisor_1 : decode cX4_commonDivisor 1 = .ok (.lstore 4, 2) := by decide +kernel
theorem dX4_commonDivisor_3 : decode cX4_commonDivisor 3 = .ok (.lload_n 2, 1) := by decide +kernel
theorem dX4_commonDivisor_4 : decode cX4_commonDivisor 4 = .ok (.lstore 6, 2) := by decide +kernel
theorem dX4_commonDivisor_6 : decode cX4_commonDivisor 6 = .ok (.iconst 0, 1) := by decide +kernel
theorem dX4_commonDivisor_7 : decode cX4_commonDivisor 7 = .ok (.istore 8, 2) := by decide +kernel
theorem dX4_commonDivisor_9 : decode cX4_commonDivisor 9 = .ok (.iload 8, 2) := by decide +kernel
theorem dX4_commonDivisor_11 : decode cX4_commonDivisor 11 = .ok (.bipush 100, 2) := by decide +kernel
theorem dX4_commonDivisor_13 : decode cX4_commonDivisor 13 = .ok (.if_icmp .ge 31, 3) := by decide +kernel
theorem dX4_commonDivisor_16 : decode cX4_commonDivisor 16 = .ok (.lload 4, 2) := by decide +kernel
theorem dX4_commonDivisor_18 : decode cX4_commonDivisor 18 = .ok (.lconst 0, 1) := by decide +kernel
theorem dX4_commonDivisor_19 : decode cX4_commonDivisor 19 = .ok (.lcmp, 1) := by decide +kernel
theorem dX4_commonDivisor_20 : decode cX4_commonDivisor 20 = .ok (.ifCond .le 24, 3) := by decide +kernel
theorem dX4_commonDivisor_23 : decode cX4_commonDivisor 23 = .ok (.lload 6, 2) := by decide +kernel
theorem dX4_commonDivisor_25 : decode cX4_commonDivisor 25 = .ok (.lload 4, 2) := by decide +kernel
theorem dX4_commonDivisor_27 : decode cX4_commonDivisor 27 = .ok (.lrem, 1) := by decide +kernel
theorem dX4_commonDivisor_28 : decode cX4_commonDivisor 28 = .ok (.lstore 9, 2) := by decide +kernel
theorem dX4_commonDivisor_30 : decode cX4_commonDivisor 30 = .ok (.lload 4, 2) := by decide +kernel
theorem dX4_commonDivisor_32 : decode cX4_commonDivisor 32 = .ok (.lstore 6, 2) := by decide +kernel
theorem dX4_commonDivisor_34 : decode cX4_commonDivisor 34 = .ok (.lload 9, 2) := by decide +kernel
theorem dX4_commonDivisor_36 : decode cX4_commonDivisor 36 = .ok (.lstore 4, 2) := by decide +kernel
theorem dX4_commonDivisor_38 : decode cX4_commonDivisor 38 = .ok (.iinc 8 1, 3) := by decide +kernel
theorem dX4_commonDivisor_41 : decode cX4_commonDivisor 41 = .ok (.goto (-32), 3) := by decide +kernel
theorem dX4_commonDivisor_44 : decode cX4_commonDivisor 44 = .ok (.lconst 1, 1) := by decide +kernel
theorem dX4_commonDivisor_45 : decode cX4_commonDivisor 45 = .ok (.lload 6, 2) := by decide +kernel
theorem dX4_commonDivisor_47 : decode cX4_commonDivisor 47 = .ok (.invokestatic 266, 3) := by decide +kernel
theorem dX4_commonDivisor_50 : decode cX4_commonDivisor 50 = .ok (.lreturn, 1) := by decide +kernel
theorem dX4_kindOfDraw_0 : decode cX4_kindOfDraw 0 = .ok (.iload_n 0, 1) := by decide +kernel
theorem dX4_kindOfDraw_1 : decode cX4_kindOfDraw 1 = .ok (.tableswitch 37 0 3 #[31, 33, 33, 35], 31) := by decide +kernel
theorem dX4_kindOfDraw_32 : decode cX4_kindOfDraw 32 = .ok (.iconst 2, 1) := by decide +kernel
theorem dX4_kindOfDraw_33 : decode cX4_kindOfDraw 33 = .ok (.ireturn, 1) := by decide +kernel
theorem dX4_kindOfDraw_34 : decode cX4_kindOfDraw 34 = .ok (.iconst 3, 1) := by decide +kernel
theorem dX4_kindOfDraw_35 : decode cX4_kindOfDraw 35 = .ok (.ireturn, 1) := by decide +kernel
theorem dX4_kindOfDraw_36 : decode cX4_kindOfDraw 36 = .ok (.iconst 1, 1) := by decide +kernel
theorem dX4_kindOfDraw_37 : decode cX4_kindOfDraw 37 = .ok (.ireturn, 1) := by decide +kernel
theorem dX4_kindOfDraw_38 : decode cX4_kindOfDraw 38 = .ok (.iconst 0, 1) := by decide +kernel
theorem dX4_kindOfDraw_39 : decode cX4_kindOfDraw 39 = .ok (.ireturn, 1) := by decide +kernel
