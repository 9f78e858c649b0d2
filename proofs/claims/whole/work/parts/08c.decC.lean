/-! ===== what each instruction is ===== -/
theorem dX5_init_0 : decode cX5_init 0 = .ok (.aload_n 0, 1) := by decide +kernel
theorem dX5_init_1 : decode cX5_init 1 = .ok (.invokespecial 1, 3) := by decide +kernel
theorem dX5_init_4 : decode cX5_init 4 = .ok (.aload_n 0, 1) := by decide +kernel
theorem dX5_init_5 : decode cX5_init 5 = .ok (.bipush 63, 2) := by decide +kernel
theorem dX5_init_7 : decode cX5_init 7 = .ok (.newarray .int, 2) := by decide +kernel
theorem dX5_init_9 : decode cX5_init 9 = .ok (.putfield 7, 3) := by decide +kernel
theorem dX5_init_12 : decode cX5_init 12 = .ok (.aload_n 0, 1) := by decide +kernel
theorem dX5_init_13 : decode cX5_init 13 = .ok (.bipush 8, 2) := by decide +kernel
theorem dX5_init_15 : decode cX5_init 15 = .ok (.newarray .int, 2) := by decide +kernel
theorem dX5_init_17 : decode cX5_init 17 = .ok (.putfield 13, 3) := by decide +kernel
theorem dX5_init_20 : decode cX5_init 20 = .ok (.aload_n 0, 1) := by decide +kernel
theorem dX5_init_21 : decode cX5_init 21 = .ok (.bipush 8, 2) := by decide +kernel
theorem dX5_init_23 : decode cX5_init 23 = .ok (.newarray .int, 2) := by decide +kernel
theorem dX5_init_25 : decode cX5_init 25 = .ok (.putfield 16, 3) := by decide +kernel
theorem dX5_init_28 : decode cX5_init 28 = .ok (.aload_n 0, 1) := by decide +kernel
theorem dX5_init_29 : decode cX5_init 29 = .ok (.bipush 60, 2) := by decide +kernel
theorem dX5_init_31 : decode cX5_init 31 = .ok (.newarray .int, 2) := by decide +kernel
theorem dX5_init_33 : decode cX5_init 33 = .ok (.putfield 19, 3) := by decide +kernel
theorem dX5_init_36 : decode cX5_init 36 = .ok (.aload_n 0, 1) := by decide +kernel
theorem dX5_init_37 : decode cX5_init 37 = .ok (.bipush 60, 2) := by decide +kernel
theorem dX5_init_39 : decode cX5_init 39 = .ok (.newarray .int, 2) := by decide +kernel
theorem dX5_init_41 : decode cX5_init 41 = .ok (.putfield 22, 3) := by decide +kernel
theorem dX5_init_44 : decode cX5_init 44 = .ok (.aload_n 0, 1) := by decide +kernel
theorem dX5_init_45 : decode cX5_init 45 = .ok (.bipush 60, 2) := by decide +kernel
theorem dX5_init_47 : decode cX5_init 47 = .ok (.newarray .int, 2) := by decide +kernel
theorem dX5_init_49 : decode cX5_init 49 = .ok (.putfield 25, 3) := by decide +kernel
theorem dX5_init_52 : decode cX5_init 52 = .ok (.aload_n 0, 1) := by decide +kernel
theorem dX5_init_53 : decode cX5_init 53 = .ok (.bipush 9, 2) := by decide +kernel
theorem dX5_init_55 : decode cX5_init 55 = .ok (.newarray .int, 2) := by decide +kernel
theorem dX5_init_57 : decode cX5_init 57 = .ok (.putfield 28, 3) := by decide +kernel
theorem dX5_init_60 : decode cX5_init 60 = .ok (.aload_n 0, 1) := by decide +kernel
theorem dX5_init_61 : decode cX5_init 61 = .ok (.bipush 9, 2) := by decide +kernel
theorem dX5_init_63 : decode cX5_init 63 = .ok (.newarray .int, 2) := by decide +kernel
theorem dX5_init_65 : decode cX5_init 65 = .ok (.putfield 31, 3) := by decide +kernel
theorem dX5_init_68 : decode cX5_init 68 = .ok (.aload_n 0, 1) := by decide +kernel
theorem dX5_init_69 : decode cX5_init 69 = .ok (.bipush 63, 2) := by decide +kernel
theorem dX5_init_71 : decode cX5_init 71 = .ok (.newarray .int, 2) := by decide +kernel
theorem dX5_init_73 : decode cX5_init 73 = .ok (.putfield 34, 3) := by decide +kernel
theorem dX5_init_76 : decode cX5_init 76 = .ok (.aload_n 0, 1) := by decide +kernel
theorem dX5_init_77 : decode cX5_init 77 = .ok (.bipush 9, 2) := by decide +kernel
theorem dX5_init_79 : decode cX5_init 79 = .ok (.newarray .int, 2) := by decide +kernel
theorem dX5_init_81 : decode cX5_init 81 = .ok (.putfield 37, 3) := by decide +kernel
theorem dX5_init_84 : decode cX5_init 84 = .ok (.aload_n 0, 1) := by decide +kernel
theorem dX5_init_85 : decode cX5_init 85 = .ok (.bipush 9, 2) := by decide +kernel
theorem dX5_init_87 : decode cX5_init 87 = .ok (.newarray .int, 2) := by decide +kernel
theorem dX5_init_89 : decode cX5_init 89 = .ok (.putfield 40, 3) := by decide +kernel
theorem dX5_init_92 : decode cX5_init 92 = .ok (.aload_n 0, 1) := by decide +kernel
theorem dX5_init_93 : decode cX5_init 93 = .ok (.bipush 9, 2) := by decide +kernel
theorem dX5_init_95 : decode cX5_init 95 = .ok (.newarray .int, 2) := by decide +kernel
theorem dX5_init_97 : decode cX5_init 97 = .ok (.putfield 43, 3) := by decide +kernel
theorem dX5_init_100 : decode cX5_init 100 = .ok (.aload_n 0, 1) := by decide +kernel
theorem dX5_init_101 : decode cX5_init 101 = .ok (.bipush 90, 2) := by decide +kernel
theorem dX5_init_103 : decode cX5_init 103 = .ok (.newarray .int, 2) := by decide +kernel
theorem dX5_init_105 : decode cX5_init 105 = .ok (.putfield 46, 3) := by decide +kernel
theorem dX5_init_108 : decode cX5_init 108 = .ok (.aload_n 0, 1) := by decide +kernel
theorem dX5_init_109 : decode cX5_init 109 = .ok (.bipush 9, 2) := by decide +kernel
theorem dX5_init_111 : decode cX5_init 111 = .ok (.newarray .int, 2) := by decide +kernel
theorem dX5_init_113 : decode cX5_init 113 = .ok (.putfield 49, 3) := by decide +kernel
theorem dX5_init_116 : decode cX5_init 116 = .ok (.aload_n 0, 1) := by decide +kernel
theorem dX5_init_117 : decode cX5_init 117 = .ok (.sipush 200, 3) := by decide +kernel
theorem dX5_init_120 : decode cX5_init 120 = .ok (.newarray .int, 2) := by decide +kernel
theorem dX5_init_122 : decode cX5_init 122 = .ok (.putfield 52, 3) := by decide +kernel
theorem dX5_init_125 : decode cX5_init 125 = .ok (.aload_n 0, 1) := by decide +kernel
theorem dX5_init_126 : decode cX5_init 126 = .ok (.iconst 2, 1) := by decide +kernel
theorem dX5_init_127 : decode cX5_init 127 = .ok (.newarray .boolean, 2) := by decide +kernel
theorem dX5_init_129 : decode cX5_init 129 = .ok (.putfield 55, 3) := by decide +kernel
theorem dX5_init_132 : decode cX5_init 132 = .ok (.aload_n 0, 1) := by decide +kernel
theorem dX5_init_133 : decode cX5_init 133 = .ok (.bipush 10, 2) := by decide +kernel
theorem dX5_init_135 : decode cX5_init 135 = .ok (.putfield 59, 3) := by decide +kernel
theorem dX5_init_138 : decode cX5_init 138 = .ok (.aload_n 0, 1) := by decide +kernel
theorem dX5_init_139 : decode cX5_init 139 = .ok (.iconst 5, 1) := by decide +kernel
theorem dX5_init_140 : decode cX5_init 140 = .ok (.putfield 63, 3) := by decide +kernel
theorem dX5_init_143 : decode cX5_init 143 = .ok (.aload_n 0, 1) := by decide +kernel
theorem dX5_init_144 : decode cX5_init 144 = .ok (.bipush 20, 2) := by decide +kernel
theorem dX5_init_146 : decode cX5_init 146 = .ok (.putfield 66, 3) := by decide +kernel
theorem dX5_init_149 : decode cX5_init 149 = .ok (.aload_n 0, 1) := by decide +kernel
theorem dX5_init_150 : decode cX5_init 150 = .ok (.bipush 9, 2) := by decide +kernel
theorem dX5_init_152 : decode cX5_init 152 = .ok (.invokevirtual 69, 3) := by decide +kernel
theorem dX5_init_155 : decode cX5_init 155 = .ok (.return_, 1) := by decide +kernel
theorem dX5_in_0 : decode cX5_in 0 = .ok (.lload_n 0, 1) := by decide +kernel
theorem dX5_in_1 : decode cX5_in 1 = .ok (.lload_n 2, 1) := by decide +kernel
theorem dX5_in_2 : decode cX5_in 2 = .ok (.lcmp, 1) := by decide +kernel
theorem dX5_in_3 : decode cX5_in 3 = .ok (.ifCond .lt 14, 3) := by decide +kernel
theorem dX5_in_6 : decode cX5_in 6 = .ok (.lload_n 0, 1) := by decide +kernel
theorem dX5_in_7 : decode cX5_in 7 = .ok (.lload 4, 2) := by decide +kernel
theorem dX5_in_9 : decode cX5_in 9 = .ok (.lcmp, 1) := by decide +kernel
theorem dX5_in_10 : decode cX5_in 10 = .ok (.ifCond .gt 7, 3) := by decide +kernel
theorem dX5_in_13 : decode cX5_in 13 = .ok (.iconst 1, 1) := by decide +kernel
theorem dX5_in_14 : decode cX5_in 14 = .ok (.goto 4, 3) := by decide +kernel
theorem dX5_in_17 : decode cX5_in 17 = .ok (.iconst 0, 1) := by decide +kernel
theorem dX5_in_18 : decode cX5_in 18 = .ok (.ireturn, 1) := by decide +kernel
theorem dX5_ones_0 : decode cX5_ones 0 = .ok (.iconst 0, 1) := by decide +kernel
theorem dX5_ones_1 : decode cX5_ones 1 = .ok (.istore_n 1, 1) := by decide +kernel
theorem dX5_ones_2 : decode cX5_ones 2 = .ok (.iload_n 0, 1) := by decide +kernel
theorem dX5_ones_3 : decode cX5_ones 3 = .ok (.istore_n 2, 1) := by decide +kernel
theorem dX5_ones_4 : decode cX5_ones 4 = .ok (.iload_n 2, 1) := by decide +kernel
theorem dX5_ones_5 : decode cX5_ones 5 = .ok (.ifCond .eq 15, 3) := by decide +kernel
theorem dX5_ones_8 : decode cX5_ones 8 = .ok (.iinc 1 1, 3) := by decide +kernel
theorem dX5_ones_11 : decode cX5_ones 11 = .ok (.iload_n 2, 1) := by decide +kernel
theorem dX5_ones_12 : decode cX5_ones 12 = .ok (.iload_n 2, 1) := by decide +kernel
theorem dX5_ones_13 : decode cX5_ones 13 = .ok (.iconst 1, 1) := by decide +kernel
theorem dX5_ones_14 : decode cX5_ones 14 = .ok (.isub, 1) := by decide +kernel
theorem dX5_ones_15 : decode cX5_ones 15 = .ok (.iand, 1) := by decide +kernel
theorem dX5_ones_16 : decode cX5_ones 16 = .ok (.istore_n 2, 1) := by decide +kernel
theorem dX5_ones_17 : decode cX5_ones 17 = .ok (.goto (-13), 3) := by decide +kernel
theorem dX5_ones_20 : decode cX5_ones 20 = .ok (.iload_n 1, 1) := by decide +kernel
theorem dX5_ones_21 : decode cX5_ones 21 = .ok (.ireturn, 1) := by decide +kernel
theorem dX5_at_0 : decode cX5_at 0 = .ok (.bipush 9, 2) := by decide +kernel
theorem dX5_at_2 : decode cX5_at 2 = .ok (.iload_n 0, 1) := by decide +kernel
theorem dX5_at_3 : decode cX5_at 3 = .ok (.imul, 1) := by decide +kernel
theorem dX5_at_4 : decode cX5_at 4 = .ok (.iload_n 1, 1) := by decide +kernel
theorem dX5_at_5 : decode cX5_at 5 = .ok (.iadd, 1) := by decide +kernel
theorem dX5_at_6 : decode cX5_at 6 = .ok (.ireturn, 1) := by decide +kernel
theorem dX5_begin_0 : decode cX5_begin 0 = .ok (.aload_n 0, 1) := by decide +kernel
theorem dX5_begin_1 : decode cX5_begin 1 = .ok (.iload_n 1, 1) := by decide +kernel
theorem dX5_begin_2 : decode cX5_begin 2 = .ok (.putfield 73, 3) := by decide +kernel
theorem dX5_begin_5 : decode cX5_begin 5 = .ok (.aload_n 0, 1) := by decide +kernel
theorem dX5_begin_6 : decode cX5_begin 6 = .ok (.iconst 0, 1) := by decide +kernel
theorem dX5_begin_7 : decode cX5_begin 7 = .ok (.putfield 76, 3) := by decide +kernel
theorem dX5_begin_10 : decode cX5_begin 10 = .ok (.aload_n 0, 1) := by decide +kernel
theorem dX5_begin_11 : decode cX5_begin 11 = .ok (.iconst 0, 1) := by decide +kernel
theorem dX5_begin_12 : decode cX5_begin 12 = .ok (.putfield 79, 3) := by decide +kernel
theorem dX5_begin_15 : decode cX5_begin 15 = .ok (.iconst 0, 1) := by decide +kernel
theorem dX5_begin_16 : decode cX5_begin 16 = .ok (.istore_n 2, 1) := by decide +kernel
theorem dX5_begin_17 : decode cX5_begin 17 = .ok (.iload_n 2, 1) := by decide +kernel
theorem dX5_begin_18 : decode cX5_begin 18 = .ok (.bipush 7, 2) := by decide +kernel
theorem dX5_begin_20 : decode cX5_begin 20 = .ok (.if_icmp .ge 52, 3) := by decide +kernel
theorem dX5_begin_23 : decode cX5_begin 23 = .ok (.iconst 0, 1) := by decide +kernel
theorem dX5_begin_24 : decode cX5_begin 24 = .ok (.istore_n 3, 1) := by decide +kernel
theorem dX5_begin_25 : decode cX5_begin 25 = .ok (.iload_n 3, 1) := by decide +kernel
theorem dX5_begin_26 : decode cX5_begin 26 = .ok (.bipush 9, 2) := by decide +kernel
theorem dX5_begin_28 : decode cX5_begin 28 = .ok (.if_icmp .ge 38, 3) := by decide +kernel
theorem dX5_begin_31 : decode cX5_begin 31 = .ok (.aload_n 0, 1) := by decide +kernel
theorem dX5_begin_32 : decode cX5_begin 32 = .ok (.getfield 7, 3) := by decide +kernel
theorem dX5_begin_35 : decode cX5_begin 35 = .ok (.iload_n 2, 1) := by decide +kernel
theorem dX5_begin_36 : decode cX5_begin 36 = .ok (.iload_n 3, 1) := by decide +kernel
theorem dX5_begin_37 : decode cX5_begin 37 = .ok (.invokestatic 82, 3) := by decide +kernel
theorem dX5_begin_40 : decode cX5_begin 40 = .ok (.iload_n 2, 1) := by decide +kernel
theorem dX5_begin_41 : decode cX5_begin 41 = .ok (.iconst 1, 1) := by decide +kernel
theorem dX5_begin_42 : decode cX5_begin 42 = .ok (.if_icmp .ne 7, 3) := by decide +kernel
theorem dX5_begin_45 : decode cX5_begin 45 = .ok (.iconst 1, 1) := by decide +kernel
theorem dX5_begin_46 : decode cX5_begin 46 = .ok (.goto 13, 3) := by decide +kernel
theorem dX5_begin_49 : decode cX5_begin 49 = .ok (.iload_n 2, 1) := by decide +kernel
theorem dX5_begin_50 : decode cX5_begin 50 = .ok (.iconst 2, 1) := by decide +kernel
theorem dX5_begin_51 : decode cX5_begin 51 = .ok (.if_icmp .ne 7, 3) := by decide +kernel
theorem dX5_begin_54 : decode cX5_begin 54 = .ok (.iconst 5, 1) := by decide +kernel
theorem dX5_begin_55 : decode cX5_begin 55 = .ok (.goto 4, 3) := by decide +kernel
theorem dX5_begin_58 : decode cX5_begin 58 = .ok (.iconst 0, 1) := by decide +kernel
theorem dX5_begin_59 : decode cX5_begin 59 = .ok (.iastore, 1) := by decide +kernel
theorem dX5_begin_60 : decode cX5_begin 60 = .ok (.iinc 3 1, 3) := by decide +kernel
theorem dX5_begin_63 : decode cX5_begin 63 = .ok (.goto (-38), 3) := by decide +kernel
theorem dX5_begin_66 : decode cX5_begin 66 = .ok (.iinc 2 1, 3) := by decide +kernel
theorem dX5_begin_69 : decode cX5_begin 69 = .ok (.goto (-52), 3) := by decide +kernel
theorem dX5_begin_72 : decode cX5_begin 72 = .ok (.return_, 1) := by decide +kernel
theorem dX5_isFarm_0 : decode cX5_isFarm 0 = .ok (.iload_n 1, 1) := by decide +kernel
theorem dX5_isFarm_1 : decode cX5_isFarm 1 = .ok (.i2l, 1) := by decide +kernel
theorem dX5_isFarm_2 : decode cX5_isFarm 2 = .ok (.lconst 0, 1) := by decide +kernel
theorem dX5_isFarm_3 : decode cX5_isFarm 3 = .ok (.aload_n 0, 1) := by decide +kernel
theorem dX5_isFarm_4 : decode cX5_isFarm 4 = .ok (.getfield 73, 3) := by decide +kernel
theorem dX5_isFarm_7 : decode cX5_isFarm 7 = .ok (.iconst 1, 1) := by decide +kernel
theorem dX5_isFarm_8 : decode cX5_isFarm 8 = .ok (.isub, 1) := by decide +kernel
theorem dX5_isFarm_9 : decode cX5_isFarm 9 = .ok (.i2l, 1) := by decide +kernel
theorem dX5_isFarm_10 : decode cX5_isFarm 10 = .ok (.invokestatic 86, 3) := by decide +kernel
theorem dX5_isFarm_13 : decode cX5_isFarm 13 = .ok (.ireturn, 1) := by decide +kernel
theorem dX5_farms_0 : decode cX5_farms 0 = .ok (.iload_n 1, 1) := by decide +kernel
theorem dX5_farms_1 : decode cX5_farms 1 = .ok (.i2l, 1) := by decide +kernel
theorem dX5_farms_2 : decode cX5_farms 2 = .ok (.lconst 1, 1) := by decide +kernel
theorem dX5_farms_3 : decode cX5_farms 3 = .ok (.ldc2_w 90, 3) := by decide +kernel
theorem dX5_farms_6 : decode cX5_farms 6 = .ok (.invokestatic 86, 3) := by decide +kernel
theorem dX5_farms_9 : decode cX5_farms 9 = .ok (.ifCond .ne 6, 3) := by decide +kernel
theorem dX5_farms_12 : decode cX5_farms 12 = .ok (.bipush (-2), 2) := by decide +kernel
theorem dX5_farms_14 : decode cX5_farms 14 = .ok (.ireturn, 1) := by decide +kernel
theorem dX5_farms_15 : decode cX5_farms 15 = .ok (.aload_n 0, 1) := by decide +kernel
theorem dX5_farms_16 : decode cX5_farms 16 = .ok (.getfield 73, 3) := by decide +kernel
theorem dX5_farms_19 : decode cX5_farms 19 = .ok (.istore_n 2, 1) := by decide +kernel
theorem dX5_farms_20 : decode cX5_farms 20 = .ok (.aload_n 0, 1) := by decide +kernel
theorem dX5_farms_21 : decode cX5_farms 21 = .ok (.iload_n 1, 1) := by decide +kernel
theorem dX5_farms_22 : decode cX5_farms 22 = .ok (.invokevirtual 69, 3) := by decide +kernel
theorem dX5_farms_25 : decode cX5_farms 25 = .ok (.iload_n 2, 1) := by decide +kernel
theorem dX5_farms_26 : decode cX5_farms 26 = .ok (.ireturn, 1) := by decide +kernel
theorem dX5_greatest_0 : decode cX5_greatest 0 = .ok (.iload_n 0, 1) := by decide +kernel
theorem dX5_greatest_1 : decode cX5_greatest 1 = .ok (.tableswitch 55 0 6 #[43, 55, 46, 49, 49, 55, 51], 43) := by decide +kernel
theorem dX5_greatest_44 : decode cX5_greatest 44 = .ok (.bipush 50, 2) := by decide +kernel
theorem dX5_greatest_46 : decode cX5_greatest 46 = .ok (.ireturn, 1) := by decide +kernel
theorem dX5_greatest_47 : decode cX5_greatest 47 = .ok (.bipush 99, 2) := by decide +kernel
theorem dX5_greatest_49 : decode cX5_greatest 49 = .ok (.ireturn, 1) := by decide +kernel
theorem dX5_greatest_50 : decode cX5_greatest 50 = .ok (.iconst 1, 1) := by decide +kernel
theorem dX5_greatest_51 : decode cX5_greatest 51 = .ok (.ireturn, 1) := by decide +kernel
theorem dX5_greatest_52 : decode cX5_greatest 52 = .ok (.sipush 999, 3) := by decide +kernel
theorem dX5_greatest_55 : decode cX5_greatest 55 = .ok (.ireturn, 1) := by decide +kernel
theorem dX5_greatest_56 : decode cX5_greatest 56 = .ok (.bipush 9, 2) := by decide +kernel
theorem dX5_greatest_58 : decode cX5_greatest 58 = .ok (.ireturn, 1) := by decide +kernel
theorem dX5_farm_0 : decode cX5_farm 0 = .ok (.aload_n 0, 1) := by decide +kernel
theorem dX5_farm_1 : decode cX5_farm 1 = .ok (.iload_n 1, 1) := by decide +kernel
theorem dX5_farm_2 : decode cX5_farm 2 = .ok (.invokevirtual 92, 3) := by decide +kernel
theorem dX5_farm_5 : decode cX5_farm 5 = .ok (.ifCond .ne 5, 3) := by decide +kernel
theorem dX5_farm_8 : decode cX5_farm 8 = .ok (.iconst (-1), 1) := by decide +kernel
theorem dX5_farm_9 : decode cX5_farm 9 = .ok (.ireturn, 1) := by decide +kernel
theorem dX5_farm_10 : decode cX5_farm 10 = .ok (.iload_n 2, 1) := by decide +kernel
theorem dX5_farm_11 : decode cX5_farm 11 = .ok (.i2l, 1) := by decide +kernel
theorem dX5_farm_12 : decode cX5_farm 12 = .ok (.lconst 0, 1) := by decide +kernel
theorem dX5_farm_13 : decode cX5_farm 13 = .ok (.ldc2_w 96, 3) := by decide +kernel
theorem dX5_farm_16 : decode cX5_farm 16 = .ok (.invokestatic 86, 3) := by decide +kernel
theorem dX5_farm_19 : decode cX5_farm 19 = .ok (.ifCond .eq 17, 3) := by decide +kernel
theorem dX5_farm_22 : decode cX5_farm 22 = .ok (.iload_n 3, 1) := by decide +kernel
theorem dX5_farm_23 : decode cX5_farm 23 = .ok (.i2l, 1) := by decide +kernel
theorem dX5_farm_24 : decode cX5_farm 24 = .ok (.lconst 0, 1) := by decide +kernel
theorem dX5_farm_25 : decode cX5_farm 25 = .ok (.iload_n 2, 1) := by decide +kernel
theorem dX5_farm_26 : decode cX5_farm 26 = .ok (.invokestatic 98, 3) := by decide +kernel
theorem dX5_farm_29 : decode cX5_farm 29 = .ok (.i2l, 1) := by decide +kernel
theorem dX5_farm_30 : decode cX5_farm 30 = .ok (.invokestatic 86, 3) := by decide +kernel
theorem dX5_farm_33 : decode cX5_farm 33 = .ok (.ifCond .ne 6, 3) := by decide +kernel
theorem dX5_farm_36 : decode cX5_farm 36 = .ok (.bipush (-2), 2) := by decide +kernel
theorem dX5_farm_38 : decode cX5_farm 38 = .ok (.ireturn, 1) := by decide +kernel
theorem dX5_farm_39 : decode cX5_farm 39 = .ok (.aload_n 0, 1) := by decide +kernel
theorem dX5_farm_40 : decode cX5_farm 40 = .ok (.getfield 7, 3) := by decide +kernel
theorem dX5_farm_43 : decode cX5_farm 43 = .ok (.iload_n 2, 1) := by decide +kernel
theorem dX5_farm_44 : decode cX5_farm 44 = .ok (.iload_n 1, 1) := by decide +kernel
theorem dX5_farm_45 : decode cX5_farm 45 = .ok (.invokestatic 82, 3) := by decide +kernel
theorem dX5_farm_48 : decode cX5_farm 48 = .ok (.iaload, 1) := by decide +kernel
theorem dX5_farm_49 : decode cX5_farm 49 = .ok (.istore 4, 2) := by decide +kernel
theorem dX5_farm_51 : decode cX5_farm 51 = .ok (.aload_n 0, 1) := by decide +kernel
theorem dX5_farm_52 : decode cX5_farm 52 = .ok (.getfield 7, 3) := by decide +kernel
theorem dX5_farm_55 : decode cX5_farm 55 = .ok (.iload_n 2, 1) := by decide +kernel
theorem dX5_farm_56 : decode cX5_farm 56 = .ok (.iload_n 1, 1) := by decide +kernel
theorem dX5_farm_57 : decode cX5_farm 57 = .ok (.invokestatic 82, 3) := by decide +kernel
theorem dX5_farm_60 : decode cX5_farm 60 = .ok (.iload_n 3, 1) := by decide +kernel
theorem dX5_farm_61 : decode cX5_farm 61 = .ok (.iastore, 1) := by decide +kernel
theorem dX5_farm_62 : decode cX5_farm 62 = .ok (.iload 4, 2) := by decide +kernel
theorem dX5_farm_64 : decode cX5_farm 64 = .ok (.ireturn, 1) := by decide +kernel
theorem dX5_set_0 : decode cX5_set 0 = .ok (.iload_n 1, 1) := by decide +kernel
theorem dX5_set_1 : decode cX5_set 1 = .ok (.i2l, 1) := by decide +kernel
theorem dX5_set_2 : decode cX5_set 2 = .ok (.lconst 0, 1) := by decide +kernel
theorem dX5_set_3 : decode cX5_set 3 = .ok (.ldc2_w 102, 3) := by decide +kernel
theorem dX5_set_6 : decode cX5_set 6 = .ok (.invokestatic 86, 3) := by decide +kernel
theorem dX5_set_9 : decode cX5_set 9 = .ok (.ifCond .eq 25, 3) := by decide +kernel
theorem dX5_set_12 : decode cX5_set 12 = .ok (.iload_n 2, 1) := by decide +kernel
theorem dX5_set_13 : decode cX5_set 13 = .ok (.i2l, 1) := by decide +kernel
theorem dX5_set_14 : decode cX5_set 14 = .ok (.lconst 0, 1) := by decide +kernel
theorem dX5_set_15 : decode cX5_set 15 = .ok (.iload_n 1, 1) := by decide +kernel
theorem dX5_set_16 : decode cX5_set 16 = .ok (.ifCond .ne 9, 3) := by decide +kernel
theorem dX5_set_19 : decode cX5_set 19 = .ok (.ldc2_w 104, 3) := by decide +kernel
theorem dX5_set_22 : decode cX5_set 22 = .ok (.goto 6, 3) := by decide +kernel
theorem dX5_set_25 : decode cX5_set 25 = .ok (.ldc2_w 106, 3) := by decide +kernel
theorem dX5_set_28 : decode cX5_set 28 = .ok (.invokestatic 86, 3) := by decide +kernel
theorem dX5_set_31 : decode cX5_set 31 = .ok (.ifCond .ne 6, 3) := by decide +kernel
theorem dX5_set_34 : decode cX5_set 34 = .ok (.bipush (-2), 2) := by decide +kernel
theorem dX5_set_36 : decode cX5_set 36 = .ok (.ireturn, 1) := by decide +kernel
theorem dX5_set_37 : decode cX5_set 37 = .ok (.iload_n 1, 1) := by decide +kernel
theorem dX5_set_38 : decode cX5_set 38 = .ok (.ifCond .ne 10, 3) := by decide +kernel
theorem dX5_set_41 : decode cX5_set 41 = .ok (.aload_n 0, 1) := by decide +kernel
theorem dX5_set_42 : decode cX5_set 42 = .ok (.getfield 66, 3) := by decide +kernel
theorem dX5_set_45 : decode cX5_set 45 = .ok (.goto 19, 3) := by decide +kernel
theorem dX5_set_48 : decode cX5_set 48 = .ok (.iload_n 1, 1) := by decide +kernel
theorem dX5_set_49 : decode cX5_set 49 = .ok (.iconst 1, 1) := by decide +kernel
theorem dX5_set_50 : decode cX5_set 50 = .ok (.if_icmp .ne 10, 3) := by decide +kernel
theorem dX5_set_53 : decode cX5_set 53 = .ok (.aload_n 0, 1) := by decide +kernel
theorem dX5_set_54 : decode cX5_set 54 = .ok (.getfield 59, 3) := by decide +kernel
theorem dX5_set_57 : decode cX5_set 57 = .ok (.goto 7, 3) := by decide +kernel
theorem dX5_set_60 : decode cX5_set 60 = .ok (.aload_n 0, 1) := by decide +kernel
theorem dX5_set_61 : decode cX5_set 61 = .ok (.getfield 63, 3) := by decide +kernel
theorem dX5_set_64 : decode cX5_set 64 = .ok (.istore_n 3, 1) := by decide +kernel
theorem dX5_set_65 : decode cX5_set 65 = .ok (.aload_n 0, 1) := by decide +kernel
theorem dX5_set_66 : decode cX5_set 66 = .ok (.iload_n 1, 1) := by decide +kernel
theorem dX5_set_67 : decode cX5_set 67 = .ok (.ifCond .ne 7, 3) := by decide +kernel
theorem dX5_set_70 : decode cX5_set 70 = .ok (.iload_n 2, 1) := by decide +kernel
theorem dX5_set_71 : decode cX5_set 71 = .ok (.goto 7, 3) := by decide +kernel
theorem dX5_set_74 : decode cX5_set 74 = .ok (.aload_n 0, 1) := by decide +kernel
theorem dX5_set_75 : decode cX5_set 75 = .ok (.getfield 66, 3) := by decide +kernel
theorem dX5_set_78 : decode cX5_set 78 = .ok (.putfield 66, 3) := by decide +kernel
theorem dX5_set_81 : decode cX5_set 81 = .ok (.aload_n 0, 1) := by decide +kernel
theorem dX5_set_82 : decode cX5_set 82 = .ok (.iload_n 1, 1) := by decide +kernel
theorem dX5_set_83 : decode cX5_set 83 = .ok (.iconst 1, 1) := by decide +kernel
theorem dX5_set_84 : decode cX5_set 84 = .ok (.if_icmp .ne 7, 3) := by decide +kernel
theorem dX5_set_87 : decode cX5_set 87 = .ok (.iload_n 2, 1) := by decide +kernel
theorem dX5_set_88 : decode cX5_set 88 = .ok (.goto 7, 3) := by decide +kernel
theorem dX5_set_91 : decode cX5_set 91 = .ok (.aload_n 0, 1) := by decide +kernel
theorem dX5_set_92 : decode cX5_set 92 = .ok (.getfield 59, 3) := by decide +kernel
theorem dX5_set_95 : decode cX5_set 95 = .ok (.putfield 59, 3) := by decide +kernel
theorem dX5_set_98 : decode cX5_set 98 = .ok (.aload_n 0, 1) := by decide +kernel
theorem dX5_set_99 : decode cX5_set 99 = .ok (.iload_n 1, 1) := by decide +kernel
theorem dX5_set_100 : decode cX5_set 100 = .ok (.iconst 2, 1) := by decide +kernel
theorem dX5_set_101 : decode cX5_set 101 = .ok (.if_icmp .ne 7, 3) := by decide +kernel
theorem dX5_set_104 : decode cX5_set 104 = .ok (.iload_n 2, 1) := by decide +kernel
theorem dX5_set_105 : decode cX5_set 105 = .ok (.goto 7, 3) := by decide +kernel
theorem dX5_set_108 : decode cX5_set 108 = .ok (.aload_n 0, 1) := by decide +kernel
theorem dX5_set_109 : decode cX5_set 109 = .ok (.getfield 63, 3) := by decide +kernel
theorem dX5_set_112 : decode cX5_set 112 = .ok (.putfield 63, 3) := by decide +kernel
theorem dX5_set_115 : decode cX5_set 115 = .ok (.iload_n 3, 1) := by decide +kernel
theorem dX5_set_116 : decode cX5_set 116 = .ok (.ireturn, 1) := by decide +kernel
theorem dX5_say_0 : decode cX5_say 0 = .ok (.iload_n 1, 1) := by decide +kernel
theorem dX5_say_1 : decode cX5_say 1 = .ok (.i2l, 1) := by decide +kernel
theorem dX5_say_2 : decode cX5_say 2 = .ok (.ldc2_w 108, 3) := by decide +kernel
theorem dX5_say_5 : decode cX5_say 5 = .ok (.ldc2_w 110, 3) := by decide +kernel
theorem dX5_say_8 : decode cX5_say 8 = .ok (.invokestatic 86, 3) := by decide +kernel
theorem dX5_say_11 : decode cX5_say 11 = .ok (.ifCond .ne 6, 3) := by decide +kernel
theorem dX5_say_14 : decode cX5_say 14 = .ok (.bipush (-2), 2) := by decide +kernel
theorem dX5_say_16 : decode cX5_say 16 = .ok (.ireturn, 1) := by decide +kernel
theorem dX5_say_17 : decode cX5_say 17 = .ok (.aload_n 0, 1) := by decide +kernel
theorem dX5_say_18 : decode cX5_say 18 = .ok (.getfield 112, 3) := by decide +kernel
theorem dX5_say_21 : decode cX5_say 21 = .ok (.bipush 60, 2) := by decide +kernel
theorem dX5_say_23 : decode cX5_say 23 = .ok (.if_icmp .ne 6, 3) := by decide +kernel
theorem dX5_say_26 : decode cX5_say 26 = .ok (.bipush (-4), 2) := by decide +kernel
theorem dX5_say_28 : decode cX5_say 28 = .ok (.ireturn, 1) := by decide +kernel
theorem dX5_say_29 : decode cX5_say 29 = .ok (.aload_n 0, 1) := by decide +kernel
theorem dX5_say_30 : decode cX5_say 30 = .ok (.getfield 19, 3) := by decide +kernel
theorem dX5_say_33 : decode cX5_say 33 = .ok (.aload_n 0, 1) := by decide +kernel
theorem dX5_say_34 : decode cX5_say 34 = .ok (.getfield 112, 3) := by decide +kernel
theorem dX5_say_37 : decode cX5_say 37 = .ok (.iload_n 1, 1) := by decide +kernel
theorem dX5_say_38 : decode cX5_say 38 = .ok (.iastore, 1) := by decide +kernel
theorem dX5_say_39 : decode cX5_say 39 = .ok (.aload_n 0, 1) := by decide +kernel
theorem dX5_say_40 : decode cX5_say 40 = .ok (.dup, 1) := by decide +kernel
theorem dX5_say_41 : decode cX5_say 41 = .ok (.getfield 112, 3) := by decide +kernel
theorem dX5_say_44 : decode cX5_say 44 = .ok (.iconst 1, 1) := by decide +kernel
theorem dX5_say_45 : decode cX5_say 45 = .ok (.iadd, 1) := by decide +kernel
theorem dX5_say_46 : decode cX5_say 46 = .ok (.putfield 112, 3) := by decide +kernel
theorem dX5_say_49 : decode cX5_say 49 = .ok (.aload_n 0, 1) := by decide +kernel
theorem dX5_say_50 : decode cX5_say 50 = .ok (.getfield 112, 3) := by decide +kernel
theorem dX5_say_53 : decode cX5_say 53 = .ok (.ireturn, 1) := by decide +kernel
theorem dX5_wipe_0 : decode cX5_wipe 0 = .ok (.aload_n 0, 1) := by decide +kernel
theorem dX5_wipe_1 : decode cX5_wipe 1 = .ok (.getfield 112, 3) := by decide +kernel
theorem dX5_wipe_4 : decode cX5_wipe 4 = .ok (.istore_n 1, 1) := by decide +kernel
theorem dX5_wipe_5 : decode cX5_wipe 5 = .ok (.aload_n 0, 1) := by decide +kernel
theorem dX5_wipe_6 : decode cX5_wipe 6 = .ok (.iconst 0, 1) := by decide +kernel
theorem dX5_wipe_7 : decode cX5_wipe 7 = .ok (.putfield 112, 3) := by decide +kernel
theorem dX5_wipe_10 : decode cX5_wipe 10 = .ok (.iload_n 1, 1) := by decide +kernel
theorem dX5_wipe_11 : decode cX5_wipe 11 = .ok (.ireturn, 1) := by decide +kernel
theorem dX5_kindOf_0 : decode cX5_kindOf 0 = .ok (.iload_n 0, 1) := by decide +kernel
theorem dX5_kindOf_1 : decode cX5_kindOf 1 = .ok (.bipush 46, 2) := by decide +kernel
theorem dX5_kindOf_3 : decode cX5_kindOf 3 = .ok (.if_icmp .ne 7, 3) := by decide +kernel
theorem dX5_kindOf_6 : decode cX5_kindOf 6 = .ok (.iconst 0, 1) := by decide +kernel
theorem dX5_kindOf_7 : decode cX5_kindOf 7 = .ok (.goto 35, 3) := by decide +kernel
theorem dX5_kindOf_10 : decode cX5_kindOf 10 = .ok (.iload_n 0, 1) := by decide +kernel
theorem dX5_kindOf_11 : decode cX5_kindOf 11 = .ok (.bipush 110, 2) := by decide +kernel
theorem dX5_kindOf_13 : decode cX5_kindOf 13 = .ok (.if_icmp .ne 7, 3) := by decide +kernel
theorem dX5_kindOf_16 : decode cX5_kindOf 16 = .ok (.iconst 1, 1) := by decide +kernel
theorem dX5_kindOf_17 : decode cX5_kindOf 17 = .ok (.goto 25, 3) := by decide +kernel
theorem dX5_kindOf_20 : decode cX5_kindOf 20 = .ok (.iload_n 0, 1) := by decide +kernel
theorem dX5_kindOf_21 : decode cX5_kindOf 21 = .ok (.bipush 42, 2) := by decide +kernel
theorem dX5_kindOf_23 : decode cX5_kindOf 23 = .ok (.if_icmp .ne 7, 3) := by decide +kernel
theorem dX5_kindOf_26 : decode cX5_kindOf 26 = .ok (.iconst 2, 1) := by decide +kernel
theorem dX5_kindOf_27 : decode cX5_kindOf 27 = .ok (.goto 15, 3) := by decide +kernel
theorem dX5_kindOf_30 : decode cX5_kindOf 30 = .ok (.iload_n 0, 1) := by decide +kernel
theorem dX5_kindOf_31 : decode cX5_kindOf 31 = .ok (.bipush 43, 2) := by decide +kernel
theorem dX5_kindOf_33 : decode cX5_kindOf 33 = .ok (.if_icmp .ne 7, 3) := by decide +kernel
theorem dX5_kindOf_36 : decode cX5_kindOf 36 = .ok (.iconst 3, 1) := by decide +kernel
theorem dX5_kindOf_37 : decode cX5_kindOf 37 = .ok (.goto 5, 3) := by decide +kernel
theorem dX5_kindOf_40 : decode cX5_kindOf 40 = .ok (.bipush (-6), 2) := by decide +kernel
theorem dX5_kindOf_42 : decode cX5_kindOf 42 = .ok (.ireturn, 1) := by decide +kernel
theorem dX5_isDeed_0 : decode cX5_isDeed 0 = .ok (.iload_n 0, 1) := by decide +kernel
theorem dX5_isDeed_1 : decode cX5_isDeed 1 = .ok (.bipush 60, 2) := by decide +kernel
theorem dX5_isDeed_3 : decode cX5_isDeed 3 = .ok (.if_icmp .eq 15, 3) := by decide +kernel
theorem dX5_isDeed_6 : decode cX5_isDeed 6 = .ok (.iload_n 0, 1) := by decide +kernel
theorem dX5_isDeed_7 : decode cX5_isDeed 7 = .ok (.bipush 62, 2) := by decide +kernel
theorem dX5_isDeed_9 : decode cX5_isDeed 9 = .ok (.if_icmp .eq 9, 3) := by decide +kernel
theorem dX5_isDeed_12 : decode cX5_isDeed 12 = .ok (.iload_n 0, 1) := by decide +kernel
theorem dX5_isDeed_13 : decode cX5_isDeed 13 = .ok (.bipush 119, 2) := by decide +kernel
theorem dX5_isDeed_15 : decode cX5_isDeed 15 = .ok (.if_icmp .ne 7, 3) := by decide +kernel
theorem dX5_isDeed_18 : decode cX5_isDeed 18 = .ok (.iconst 1, 1) := by decide +kernel
theorem dX5_isDeed_19 : decode cX5_isDeed 19 = .ok (.goto 4, 3) := by decide +kernel
theorem dX5_isDeed_22 : decode cX5_isDeed 22 = .ok (.iconst 0, 1) := by decide +kernel
theorem dX5_isDeed_23 : decode cX5_isDeed 23 = .ok (.ireturn, 1) := by decide +kernel
theorem dX5_fault_0 : decode cX5_fault 0 = .ok (.aload_n 0, 1) := by decide +kernel
theorem dX5_fault_1 : decode cX5_fault 1 = .ok (.iconst 0, 1) := by decide +kernel
theorem dX5_fault_2 : decode cX5_fault 2 = .ok (.putfield 115, 3) := by decide +kernel
theorem dX5_fault_5 : decode cX5_fault 5 = .ok (.iconst 0, 1) := by decide +kernel
theorem dX5_fault_6 : decode cX5_fault 6 = .ok (.istore_n 1, 1) := by decide +kernel
theorem dX5_fault_7 : decode cX5_fault 7 = .ok (.iconst 0, 1) := by decide +kernel
theorem dX5_fault_8 : decode cX5_fault 8 = .ok (.istore_n 2, 1) := by decide +kernel
theorem dX5_fault_9 : decode cX5_fault 9 = .ok (.iload_n 2, 1) := by decide +kernel
theorem dX5_fault_10 : decode cX5_fault 10 = .ok (.aload_n 0, 1) := by decide +kernel
theorem dX5_fault_11 : decode cX5_fault 11 = .ok (.getfield 112, 3) := by decide +kernel
theorem dX5_fault_14 : decode cX5_fault 14 = .ok (.if_icmp .ge 168, 3) := by decide +kernel
theorem dX5_fault_17 : decode cX5_fault 17 = .ok (.aload_n 0, 1) := by decide +kernel
theorem dX5_fault_18 : decode cX5_fault 18 = .ok (.getfield 19, 3) := by decide +kernel
theorem dX5_fault_21 : decode cX5_fault 21 = .ok (.iload_n 2, 1) := by decide +kernel
theorem dX5_fault_22 : decode cX5_fault 22 = .ok (.iaload, 1) := by decide +kernel
theorem dX5_fault_23 : decode cX5_fault 23 = .ok (.istore_n 3, 1) := by decide +kernel
theorem dX5_fault_24 : decode cX5_fault 24 = .ok (.iload_n 1, 1) := by decide +kernel
theorem dX5_fault_25 : decode cX5_fault 25 = .ok (.ifCond .eq 14, 3) := by decide +kernel
theorem dX5_fault_28 : decode cX5_fault 28 = .ok (.iload_n 3, 1) := by decide +kernel
theorem dX5_fault_29 : decode cX5_fault 29 = .ok (.invokestatic 118, 3) := by decide +kernel
theorem dX5_fault_32 : decode cX5_fault 32 = .ok (.ifCond .eq 7, 3) := by decide +kernel
theorem dX5_fault_35 : decode cX5_fault 35 = .ok (.iconst 1, 1) := by decide +kernel
theorem dX5_fault_36 : decode cX5_fault 36 = .ok (.goto 4, 3) := by decide +kernel
theorem dX5_fault_39 : decode cX5_fault 39 = .ok (.iconst 0, 1) := by decide +kernel
theorem dX5_fault_40 : decode cX5_fault 40 = .ok (.istore 4, 2) := by decide +kernel
theorem dX5_fault_42 : decode cX5_fault 42 = .ok (.iload 4, 2) := by decide +kernel
theorem dX5_fault_44 : decode cX5_fault 44 = .ok (.ifCond .ne 21, 3) := by decide +kernel
theorem dX5_fault_47 : decode cX5_fault 47 = .ok (.iload_n 3, 1) := by decide +kernel
theorem dX5_fault_48 : decode cX5_fault 48 = .ok (.invokestatic 121, 3) := by decide +kernel
theorem dX5_fault_51 : decode cX5_fault 51 = .ok (.ifCond .ge 14, 3) := by decide +kernel
theorem dX5_fault_54 : decode cX5_fault 54 = .ok (.aload_n 0, 1) := by decide +kernel
theorem dX5_fault_55 : decode cX5_fault 55 = .ok (.iload_n 3, 1) := by decide +kernel
theorem dX5_fault_56 : decode cX5_fault 56 = .ok (.bipush 65, 2) := by decide +kernel
theorem dX5_fault_58 : decode cX5_fault 58 = .ok (.isub, 1) := by decide +kernel
theorem dX5_fault_59 : decode cX5_fault 59 = .ok (.invokevirtual 92, 3) := by decide +kernel
theorem dX5_fault_62 : decode cX5_fault 62 = .ok (.ifCond .eq 7, 3) := by decide +kernel
theorem dX5_fault_65 : decode cX5_fault 65 = .ok (.iconst 1, 1) := by decide +kernel
theorem dX5_fault_66 : decode cX5_fault 66 = .ok (.goto 4, 3) := by decide +kernel
theorem dX5_fault_69 : decode cX5_fault 69 = .ok (.iconst 0, 1) := by decide +kernel
theorem dX5_fault_70 : decode cX5_fault 70 = .ok (.istore 5, 2) := by decide +kernel
theorem dX5_fault_72 : decode cX5_fault 72 = .ok (.iload 5, 2) := by decide +kernel
theorem dX5_fault_74 : decode cX5_fault 74 = .ok (.ifCond .ne 5, 3) := by decide +kernel
theorem dX5_fault_77 : decode cX5_fault 77 = .ok (.iload_n 2, 1) := by decide +kernel
theorem dX5_fault_78 : decode cX5_fault 78 = .ok (.ireturn, 1) := by decide +kernel
theorem dX5_fault_79 : decode cX5_fault 79 = .ok (.iload 4, 2) := by decide +kernel
theorem dX5_fault_81 : decode cX5_fault 81 = .ok (.ifCond .eq 18, 3) := by decide +kernel
theorem dX5_fault_84 : decode cX5_fault 84 = .ok (.aload_n 0, 1) := by decide +kernel
theorem dX5_fault_85 : decode cX5_fault 85 = .ok (.getfield 22, 3) := by decide +kernel
theorem dX5_fault_88 : decode cX5_fault 88 = .ok (.aload_n 0, 1) := by decide +kernel
theorem dX5_fault_89 : decode cX5_fault 89 = .ok (.getfield 115, 3) := by decide +kernel
theorem dX5_fault_92 : decode cX5_fault 92 = .ok (.iconst 1, 1) := by decide +kernel
theorem dX5_fault_93 : decode cX5_fault 93 = .ok (.isub, 1) := by decide +kernel
theorem dX5_fault_94 : decode cX5_fault 94 = .ok (.iload_n 3, 1) := by decide +kernel
theorem dX5_fault_95 : decode cX5_fault 95 = .ok (.iastore, 1) := by decide +kernel
theorem dX5_fault_96 : decode cX5_fault 96 = .ok (.goto 62, 3) := by decide +kernel
theorem dX5_fault_99 : decode cX5_fault 99 = .ok (.aload_n 0, 1) := by decide +kernel
theorem dX5_fault_100 : decode cX5_fault 100 = .ok (.getfield 25, 3) := by decide +kernel
theorem dX5_fault_103 : decode cX5_fault 103 = .ok (.aload_n 0, 1) := by decide +kernel
theorem dX5_fault_104 : decode cX5_fault 104 = .ok (.getfield 115, 3) := by decide +kernel
theorem dX5_fault_107 : decode cX5_fault 107 = .ok (.iload_n 3, 1) := by decide +kernel
theorem dX5_fault_108 : decode cX5_fault 108 = .ok (.invokestatic 121, 3) := by decide +kernel
theorem dX5_fault_111 : decode cX5_fault 111 = .ok (.ifCond .lt 8, 3) := by decide +kernel
theorem dX5_fault_114 : decode cX5_fault 114 = .ok (.bipush (-6), 2) := by decide +kernel
theorem dX5_fault_116 : decode cX5_fault 116 = .ok (.goto 7, 3) := by decide +kernel
theorem dX5_fault_119 : decode cX5_fault 119 = .ok (.iload_n 3, 1) := by decide +kernel
theorem dX5_fault_120 : decode cX5_fault 120 = .ok (.bipush 65, 2) := by decide +kernel
theorem dX5_fault_122 : decode cX5_fault 122 = .ok (.isub, 1) := by decide +kernel
theorem dX5_fault_123 : decode cX5_fault 123 = .ok (.iastore, 1) := by decide +kernel
theorem dX5_fault_124 : decode cX5_fault 124 = .ok (.aload_n 0, 1) := by decide +kernel
theorem dX5_fault_125 : decode cX5_fault 125 = .ok (.getfield 22, 3) := by decide +kernel
theorem dX5_fault_128 : decode cX5_fault 128 = .ok (.aload_n 0, 1) := by decide +kernel
theorem dX5_fault_129 : decode cX5_fault 129 = .ok (.getfield 115, 3) := by decide +kernel
theorem dX5_fault_132 : decode cX5_fault 132 = .ok (.iload_n 3, 1) := by decide +kernel
theorem dX5_fault_133 : decode cX5_fault 133 = .ok (.invokestatic 121, 3) := by decide +kernel
theorem dX5_fault_136 : decode cX5_fault 136 = .ok (.ifCond .lt 10, 3) := by decide +kernel
theorem dX5_fault_139 : decode cX5_fault 139 = .ok (.iload_n 3, 1) := by decide +kernel
theorem dX5_fault_140 : decode cX5_fault 140 = .ok (.invokestatic 121, 3) := by decide +kernel
theorem dX5_fault_143 : decode cX5_fault 143 = .ok (.goto 4, 3) := by decide +kernel
theorem dX5_fault_146 : decode cX5_fault 146 = .ok (.iconst 0, 1) := by decide +kernel
theorem dX5_fault_147 : decode cX5_fault 147 = .ok (.iastore, 1) := by decide +kernel
theorem dX5_fault_148 : decode cX5_fault 148 = .ok (.aload_n 0, 1) := by decide +kernel
theorem dX5_fault_149 : decode cX5_fault 149 = .ok (.dup, 1) := by decide +kernel
theorem dX5_fault_150 : decode cX5_fault 150 = .ok (.getfield 115, 3) := by decide +kernel
theorem dX5_fault_153 : decode cX5_fault 153 = .ok (.iconst 1, 1) := by decide +kernel
theorem dX5_fault_154 : decode cX5_fault 154 = .ok (.iadd, 1) := by decide +kernel
theorem dX5_fault_155 : decode cX5_fault 155 = .ok (.putfield 115, 3) := by decide +kernel
theorem dX5_fault_158 : decode cX5_fault 158 = .ok (.iload 4, 2) := by decide +kernel
theorem dX5_fault_160 : decode cX5_fault 160 = .ok (.ifCond .ne 14, 3) := by decide +kernel
theorem dX5_fault_163 : decode cX5_fault 163 = .ok (.iload_n 3, 1) := by decide +kernel
theorem dX5_fault_164 : decode cX5_fault 164 = .ok (.invokestatic 121, 3) := by decide +kernel
theorem dX5_fault_167 : decode cX5_fault 167 = .ok (.ifCond .ge 7, 3) := by decide +kernel
theorem dX5_fault_170 : decode cX5_fault 170 = .ok (.iconst 1, 1) := by decide +kernel
theorem dX5_fault_171 : decode cX5_fault 171 = .ok (.goto 4, 3) := by decide +kernel
theorem dX5_fault_174 : decode cX5_fault 174 = .ok (.iconst 0, 1) := by decide +kernel
theorem dX5_fault_175 : decode cX5_fault 175 = .ok (.istore_n 1, 1) := by decide +kernel
theorem dX5_fault_176 : decode cX5_fault 176 = .ok (.iinc 2 1, 3) := by decide +kernel
theorem dX5_fault_179 : decode cX5_fault 179 = .ok (.goto (-170), 3) := by decide +kernel
theorem dX5_fault_182 : decode cX5_fault 182 = .ok (.bipush (-6), 2) := by decide +kernel
theorem dX5_fault_184 : decode cX5_fault 184 = .ok (.ireturn, 1) := by decide +kernel
theorem dX5_takenAt_0 : decode cX5_takenAt 0 = .ok (.iload_n 2, 1) := by decide +kernel
theorem dX5_takenAt_1 : decode cX5_takenAt 1 = .ok (.aload_n 0, 1) := by decide +kernel
theorem dX5_takenAt_2 : decode cX5_takenAt 2 = .ok (.getfield 7, 3) := by decide +kernel
theorem dX5_takenAt_5 : decode cX5_takenAt 5 = .ok (.iconst 0, 1) := by decide +kernel
theorem dX5_takenAt_6 : decode cX5_takenAt 6 = .ok (.iload_n 1, 1) := by decide +kernel
theorem dX5_takenAt_7 : decode cX5_takenAt 7 = .ok (.invokestatic 82, 3) := by decide +kernel
theorem dX5_takenAt_10 : decode cX5_takenAt 10 = .ok (.iaload, 1) := by decide +kernel
theorem dX5_takenAt_11 : decode cX5_takenAt 11 = .ok (.isub, 1) := by decide +kernel
theorem dX5_takenAt_12 : decode cX5_takenAt 12 = .ok (.istore 4, 2) := by decide +kernel
theorem dX5_takenAt_14 : decode cX5_takenAt 14 = .ok (.aload_n 0, 1) := by decide +kernel
theorem dX5_takenAt_15 : decode cX5_takenAt 15 = .ok (.getfield 7, 3) := by decide +kernel
theorem dX5_takenAt_18 : decode cX5_takenAt 18 = .ok (.iconst 4, 1) := by decide +kernel
theorem dX5_takenAt_19 : decode cX5_takenAt 19 = .ok (.iload_n 1, 1) := by decide +kernel
theorem dX5_takenAt_20 : decode cX5_takenAt 20 = .ok (.invokestatic 82, 3) := by decide +kernel
theorem dX5_takenAt_23 : decode cX5_takenAt 23 = .ok (.iaload, 1) := by decide +kernel
theorem dX5_takenAt_24 : decode cX5_takenAt 24 = .ok (.iconst 1, 1) := by decide +kernel
theorem dX5_takenAt_25 : decode cX5_takenAt 25 = .ok (.if_icmp .eq 22, 3) := by decide +kernel
theorem dX5_takenAt_28 : decode cX5_takenAt 28 = .ok (.iload_n 3, 1) := by decide +kernel
theorem dX5_takenAt_29 : decode cX5_takenAt 29 = .ok (.iconst 2, 1) := by decide +kernel
theorem dX5_takenAt_30 : decode cX5_takenAt 30 = .ok (.if_icmp .ne 21, 3) := by decide +kernel
theorem dX5_takenAt_33 : decode cX5_takenAt 33 = .ok (.aload_n 0, 1) := by decide +kernel
theorem dX5_takenAt_34 : decode cX5_takenAt 34 = .ok (.getfield 7, 3) := by decide +kernel
theorem dX5_takenAt_37 : decode cX5_takenAt 37 = .ok (.iconst 3, 1) := by decide +kernel
theorem dX5_takenAt_38 : decode cX5_takenAt 38 = .ok (.iload_n 1, 1) := by decide +kernel
theorem dX5_takenAt_39 : decode cX5_takenAt 39 = .ok (.invokestatic 82, 3) := by decide +kernel
theorem dX5_takenAt_42 : decode cX5_takenAt 42 = .ok (.iaload, 1) := by decide +kernel
theorem dX5_takenAt_43 : decode cX5_takenAt 43 = .ok (.iconst 1, 1) := by decide +kernel
theorem dX5_takenAt_44 : decode cX5_takenAt 44 = .ok (.if_icmp .ne 7, 3) := by decide +kernel
theorem dX5_takenAt_47 : decode cX5_takenAt 47 = .ok (.iconst 1, 1) := by decide +kernel
theorem dX5_takenAt_48 : decode cX5_takenAt 48 = .ok (.goto 4, 3) := by decide +kernel
theorem dX5_takenAt_51 : decode cX5_takenAt 51 = .ok (.iconst 0, 1) := by decide +kernel
theorem dX5_takenAt_52 : decode cX5_takenAt 52 = .ok (.istore 5, 2) := by decide +kernel
theorem dX5_takenAt_54 : decode cX5_takenAt 54 = .ok (.iload 5, 2) := by decide +kernel
theorem dX5_takenAt_56 : decode cX5_takenAt 56 = .ok (.ifCond .ne 8, 3) := by decide +kernel
theorem dX5_takenAt_59 : decode cX5_takenAt 59 = .ok (.iload 4, 2) := by decide +kernel
theorem dX5_takenAt_61 : decode cX5_takenAt 61 = .ok (.ifCond .gt 7, 3) := by decide +kernel
theorem dX5_takenAt_64 : decode cX5_takenAt 64 = .ok (.iconst 0, 1) := by decide +kernel
theorem dX5_takenAt_65 : decode cX5_takenAt 65 = .ok (.goto 33, 3) := by decide +kernel
theorem dX5_takenAt_68 : decode cX5_takenAt 68 = .ok (.iload 4, 2) := by decide +kernel
theorem dX5_takenAt_70 : decode cX5_takenAt 70 = .ok (.aload_n 0, 1) := by decide +kernel
theorem dX5_takenAt_71 : decode cX5_takenAt 71 = .ok (.getfield 7, 3) := by decide +kernel
theorem dX5_takenAt_74 : decode cX5_takenAt 74 = .ok (.iconst 1, 1) := by decide +kernel
theorem dX5_takenAt_75 : decode cX5_takenAt 75 = .ok (.iload_n 1, 1) := by decide +kernel
theorem dX5_takenAt_76 : decode cX5_takenAt 76 = .ok (.invokestatic 82, 3) := by decide +kernel
theorem dX5_takenAt_79 : decode cX5_takenAt 79 = .ok (.iaload, 1) := by decide +kernel
theorem dX5_takenAt_80 : decode cX5_takenAt 80 = .ok (.if_icmp .ge 8, 3) := by decide +kernel
theorem dX5_takenAt_83 : decode cX5_takenAt 83 = .ok (.iload 4, 2) := by decide +kernel
theorem dX5_takenAt_85 : decode cX5_takenAt 85 = .ok (.goto 13, 3) := by decide +kernel
theorem dX5_takenAt_88 : decode cX5_takenAt 88 = .ok (.aload_n 0, 1) := by decide +kernel
theorem dX5_takenAt_89 : decode cX5_takenAt 89 = .ok (.getfield 7, 3) := by decide +kernel
theorem dX5_takenAt_92 : decode cX5_takenAt 92 = .ok (.iconst 1, 1) := by decide +kernel
theorem dX5_takenAt_93 : decode cX5_takenAt 93 = .ok (.iload_n 1, 1) := by decide +kernel
theorem dX5_takenAt_94 : decode cX5_takenAt 94 = .ok (.invokestatic 82, 3) := by decide +kernel
theorem dX5_takenAt_97 : decode cX5_takenAt 97 = .ok (.iaload, 1) := by decide +kernel
theorem dX5_takenAt_98 : decode cX5_takenAt 98 = .ok (.ireturn, 1) := by decide +kernel
theorem dX5_flow_0 : decode cX5_flow 0 = .ok (.aload_n 0, 1) := by decide +kernel
theorem dX5_flow_1 : decode cX5_flow 1 = .ok (.getfield 66, 3) := by decide +kernel
theorem dX5_flow_4 : decode cX5_flow 4 = .ok (.iload_n 1, 1) := by decide +kernel
theorem dX5_flow_5 : decode cX5_flow 5 = .ok (.iconst 3, 1) := by decide +kernel
theorem dX5_flow_6 : decode cX5_flow 6 = .ok (.if_icmp .ne 10, 3) := by decide +kernel
theorem dX5_flow_9 : decode cX5_flow 9 = .ok (.aload_n 0, 1) := by decide +kernel
theorem dX5_flow_10 : decode cX5_flow 10 = .ok (.getfield 59, 3) := by decide +kernel
theorem dX5_flow_13 : decode cX5_flow 13 = .ok (.goto 4, 3) := by decide +kernel
theorem dX5_flow_16 : decode cX5_flow 16 = .ok (.iconst 0, 1) := by decide +kernel
theorem dX5_flow_17 : decode cX5_flow 17 = .ok (.iadd, 1) := by decide +kernel
theorem dX5_flow_18 : decode cX5_flow 18 = .ok (.iload_n 1, 1) := by decide +kernel
theorem dX5_flow_19 : decode cX5_flow 19 = .ok (.iconst 1, 1) := by decide +kernel
theorem dX5_flow_20 : decode cX5_flow 20 = .ok (.if_icmp .ne 10, 3) := by decide +kernel
theorem dX5_flow_23 : decode cX5_flow 23 = .ok (.aload_n 0, 1) := by decide +kernel
theorem dX5_flow_24 : decode cX5_flow 24 = .ok (.getfield 63, 3) := by decide +kernel
theorem dX5_flow_27 : decode cX5_flow 27 = .ok (.goto 4, 3) := by decide +kernel
theorem dX5_flow_30 : decode cX5_flow 30 = .ok (.iconst 0, 1) := by decide +kernel
theorem dX5_flow_31 : decode cX5_flow 31 = .ok (.isub, 1) := by decide +kernel
theorem dX5_flow_32 : decode cX5_flow 32 = .ok (.istore_n 2, 1) := by decide +kernel
theorem dX5_flow_33 : decode cX5_flow 33 = .ok (.iload_n 2, 1) := by decide +kernel
theorem dX5_flow_34 : decode cX5_flow 34 = .ok (.ifCond .ge 7, 3) := by decide +kernel
theorem dX5_flow_37 : decode cX5_flow 37 = .ok (.iconst 0, 1) := by decide +kernel
theorem dX5_flow_38 : decode cX5_flow 38 = .ok (.goto 4, 3) := by decide +kernel
theorem dX5_flow_41 : decode cX5_flow 41 = .ok (.iload_n 2, 1) := by decide +kernel
theorem dX5_flow_42 : decode cX5_flow 42 = .ok (.istore_n 2, 1) := by decide +kernel
theorem dX5_flow_43 : decode cX5_flow 43 = .ok (.iconst 0, 1) := by decide +kernel
theorem dX5_flow_44 : decode cX5_flow 44 = .ok (.istore_n 3, 1) := by decide +kernel
theorem dX5_flow_45 : decode cX5_flow 45 = .ok (.iload_n 3, 1) := by decide +kernel
theorem dX5_flow_46 : decode cX5_flow 46 = .ok (.aload_n 0, 1) := by decide +kernel
theorem dX5_flow_47 : decode cX5_flow 47 = .ok (.getfield 73, 3) := by decide +kernel
theorem dX5_flow_50 : decode cX5_flow 50 = .ok (.if_icmp .ge 69, 3) := by decide +kernel
theorem dX5_flow_53 : decode cX5_flow 53 = .ok (.iload_n 2, 1) := by decide +kernel
theorem dX5_flow_54 : decode cX5_flow 54 = .ok (.iload_n 2, 1) := by decide +kernel
theorem dX5_flow_55 : decode cX5_flow 55 = .ok (.aload_n 0, 1) := by decide +kernel
theorem dX5_flow_56 : decode cX5_flow 56 = .ok (.getfield 7, 3) := by decide +kernel
theorem dX5_flow_59 : decode cX5_flow 59 = .ok (.iconst 5, 1) := by decide +kernel
theorem dX5_flow_60 : decode cX5_flow 60 = .ok (.iload_n 3, 1) := by decide +kernel
theorem dX5_flow_61 : decode cX5_flow 61 = .ok (.invokestatic 82, 3) := by decide +kernel
theorem dX5_flow_64 : decode cX5_flow 64 = .ok (.iaload, 1) := by decide +kernel
theorem dX5_flow_65 : decode cX5_flow 65 = .ok (.if_icmp .ge 7, 3) := by decide +kernel
theorem dX5_flow_68 : decode cX5_flow 68 = .ok (.iload_n 2, 1) := by decide +kernel
theorem dX5_flow_69 : decode cX5_flow 69 = .ok (.goto 13, 3) := by decide +kernel
theorem dX5_flow_72 : decode cX5_flow 72 = .ok (.aload_n 0, 1) := by decide +kernel
theorem dX5_flow_73 : decode cX5_flow 73 = .ok (.getfield 7, 3) := by decide +kernel
theorem dX5_flow_76 : decode cX5_flow 76 = .ok (.iconst 5, 1) := by decide +kernel
theorem dX5_flow_77 : decode cX5_flow 77 = .ok (.iload_n 3, 1) := by decide +kernel
theorem dX5_flow_78 : decode cX5_flow 78 = .ok (.invokestatic 82, 3) := by decide +kernel
theorem dX5_flow_81 : decode cX5_flow 81 = .ok (.iaload, 1) := by decide +kernel
theorem dX5_flow_82 : decode cX5_flow 82 = .ok (.isub, 1) := by decide +kernel
theorem dX5_flow_83 : decode cX5_flow 83 = .ok (.istore_n 2, 1) := by decide +kernel
theorem dX5_flow_84 : decode cX5_flow 84 = .ok (.aload_n 0, 1) := by decide +kernel
theorem dX5_flow_85 : decode cX5_flow 85 = .ok (.getfield 31, 3) := by decide +kernel
theorem dX5_flow_88 : decode cX5_flow 88 = .ok (.iload_n 3, 1) := by decide +kernel
theorem dX5_flow_89 : decode cX5_flow 89 = .ok (.iload_n 2, 1) := by decide +kernel
theorem dX5_flow_90 : decode cX5_flow 90 = .ok (.iastore, 1) := by decide +kernel
theorem dX5_flow_91 : decode cX5_flow 91 = .ok (.aload_n 0, 1) := by decide +kernel
theorem dX5_flow_92 : decode cX5_flow 92 = .ok (.getfield 28, 3) := by decide +kernel
theorem dX5_flow_95 : decode cX5_flow 95 = .ok (.iload_n 3, 1) := by decide +kernel
theorem dX5_flow_96 : decode cX5_flow 96 = .ok (.aload_n 0, 1) := by decide +kernel
theorem dX5_flow_97 : decode cX5_flow 97 = .ok (.iload_n 3, 1) := by decide +kernel
theorem dX5_flow_98 : decode cX5_flow 98 = .ok (.iload_n 2, 1) := by decide +kernel
theorem dX5_flow_99 : decode cX5_flow 99 = .ok (.iload_n 1, 1) := by decide +kernel
theorem dX5_flow_100 : decode cX5_flow 100 = .ok (.invokevirtual 124, 3) := by decide +kernel
theorem dX5_flow_103 : decode cX5_flow 103 = .ok (.iastore, 1) := by decide +kernel
theorem dX5_flow_104 : decode cX5_flow 104 = .ok (.iload_n 2, 1) := by decide +kernel
theorem dX5_flow_105 : decode cX5_flow 105 = .ok (.aload_n 0, 1) := by decide +kernel
theorem dX5_flow_106 : decode cX5_flow 106 = .ok (.getfield 28, 3) := by decide +kernel
theorem dX5_flow_109 : decode cX5_flow 109 = .ok (.iload_n 3, 1) := by decide +kernel
theorem dX5_flow_110 : decode cX5_flow 110 = .ok (.iaload, 1) := by decide +kernel
theorem dX5_flow_111 : decode cX5_flow 111 = .ok (.isub, 1) := by decide +kernel
theorem dX5_flow_112 : decode cX5_flow 112 = .ok (.istore_n 2, 1) := by decide +kernel
theorem dX5_flow_113 : decode cX5_flow 113 = .ok (.iinc 3 1, 3) := by decide +kernel
theorem dX5_flow_116 : decode cX5_flow 116 = .ok (.goto (-71), 3) := by decide +kernel
theorem dX5_flow_119 : decode cX5_flow 119 = .ok (.aload_n 0, 1) := by decide +kernel
theorem dX5_flow_120 : decode cX5_flow 120 = .ok (.iload_n 2, 1) := by decide +kernel
theorem dX5_flow_121 : decode cX5_flow 121 = .ok (.putfield 128, 3) := by decide +kernel
theorem dX5_flow_124 : decode cX5_flow 124 = .ok (.return_, 1) := by decide +kernel
theorem dX5_passHour_0 : decode cX5_passHour 0 = .ok (.aload_n 0, 1) := by decide +kernel
theorem dX5_passHour_1 : decode cX5_passHour 1 = .ok (.iload_n 1, 1) := by decide +kernel
theorem dX5_passHour_2 : decode cX5_passHour 2 = .ok (.invokevirtual 131, 3) := by decide +kernel
theorem dX5_passHour_5 : decode cX5_passHour 5 = .ok (.iconst 0, 1) := by decide +kernel
theorem dX5_passHour_6 : decode cX5_passHour 6 = .ok (.istore_n 2, 1) := by decide +kernel
theorem dX5_passHour_7 : decode cX5_passHour 7 = .ok (.iload_n 2, 1) := by decide +kernel
theorem dX5_passHour_8 : decode cX5_passHour 8 = .ok (.aload_n 0, 1) := by decide +kernel
theorem dX5_passHour_9 : decode cX5_passHour 9 = .ok (.getfield 73, 3) := by decide +kernel
theorem dX5_passHour_12 : decode cX5_passHour 12 = .ok (.if_icmp .ge 29, 3) := by decide +kernel
theorem dX5_passHour_15 : decode cX5_passHour 15 = .ok (.aload_n 0, 1) := by decide +kernel
theorem dX5_passHour_16 : decode cX5_passHour 16 = .ok (.getfield 7, 3) := by decide +kernel
theorem dX5_passHour_19 : decode cX5_passHour 19 = .ok (.bipush 6, 2) := by decide +kernel
theorem dX5_passHour_21 : decode cX5_passHour 21 = .ok (.iload_n 2, 1) := by decide +kernel
theorem dX5_passHour_22 : decode cX5_passHour 22 = .ok (.invokestatic 82, 3) := by decide +kernel
theorem dX5_passHour_25 : decode cX5_passHour 25 = .ok (.dup2, 1) := by decide +kernel
theorem dX5_passHour_26 : decode cX5_passHour 26 = .ok (.iaload, 1) := by decide +kernel
theorem dX5_passHour_27 : decode cX5_passHour 27 = .ok (.aload_n 0, 1) := by decide +kernel
theorem dX5_passHour_28 : decode cX5_passHour 28 = .ok (.getfield 28, 3) := by decide +kernel
theorem dX5_passHour_31 : decode cX5_passHour 31 = .ok (.iload_n 2, 1) := by decide +kernel
theorem dX5_passHour_32 : decode cX5_passHour 32 = .ok (.iaload, 1) := by decide +kernel
theorem dX5_passHour_33 : decode cX5_passHour 33 = .ok (.iadd, 1) := by decide +kernel
theorem dX5_passHour_34 : decode cX5_passHour 34 = .ok (.iastore, 1) := by decide +kernel
theorem dX5_passHour_35 : decode cX5_passHour 35 = .ok (.iinc 2 1, 3) := by decide +kernel
theorem dX5_passHour_38 : decode cX5_passHour 38 = .ok (.goto (-31), 3) := by decide +kernel
theorem dX5_passHour_41 : decode cX5_passHour 41 = .ok (.aload_n 0, 1) := by decide +kernel
theorem dX5_passHour_42 : decode cX5_passHour 42 = .ok (.dup, 1) := by decide +kernel
theorem dX5_passHour_43 : decode cX5_passHour 43 = .ok (.getfield 76, 3) := by decide +kernel
theorem dX5_passHour_46 : decode cX5_passHour 46 = .ok (.aload_n 0, 1) := by decide +kernel
theorem dX5_passHour_47 : decode cX5_passHour 47 = .ok (.getfield 128, 3) := by decide +kernel
theorem dX5_passHour_50 : decode cX5_passHour 50 = .ok (.iadd, 1) := by decide +kernel
theorem dX5_passHour_51 : decode cX5_passHour 51 = .ok (.putfield 76, 3) := by decide +kernel
theorem dX5_passHour_54 : decode cX5_passHour 54 = .ok (.return_, 1) := by decide +kernel
theorem dX5_keepNow_0 : decode cX5_keepNow 0 = .ok (.iconst 0, 1) := by decide +kernel
theorem dX5_keepNow_1 : decode cX5_keepNow 1 = .ok (.istore_n 1, 1) := by decide +kernel
theorem dX5_keepNow_2 : decode cX5_keepNow 2 = .ok (.iload_n 1, 1) := by decide +kernel
theorem dX5_keepNow_3 : decode cX5_keepNow 3 = .ok (.bipush 63, 2) := by decide +kernel
theorem dX5_keepNow_5 : decode cX5_keepNow 5 = .ok (.if_icmp .ge 21, 3) := by decide +kernel
theorem dX5_keepNow_8 : decode cX5_keepNow 8 = .ok (.aload_n 0, 1) := by decide +kernel
theorem dX5_keepNow_9 : decode cX5_keepNow 9 = .ok (.getfield 34, 3) := by decide +kernel
theorem dX5_keepNow_12 : decode cX5_keepNow 12 = .ok (.iload_n 1, 1) := by decide +kernel
theorem dX5_keepNow_13 : decode cX5_keepNow 13 = .ok (.aload_n 0, 1) := by decide +kernel
theorem dX5_keepNow_14 : decode cX5_keepNow 14 = .ok (.getfield 7, 3) := by decide +kernel
theorem dX5_keepNow_17 : decode cX5_keepNow 17 = .ok (.iload_n 1, 1) := by decide +kernel
theorem dX5_keepNow_18 : decode cX5_keepNow 18 = .ok (.iaload, 1) := by decide +kernel
theorem dX5_keepNow_19 : decode cX5_keepNow 19 = .ok (.iastore, 1) := by decide +kernel
theorem dX5_keepNow_20 : decode cX5_keepNow 20 = .ok (.iinc 1 1, 3) := by decide +kernel
theorem dX5_keepNow_23 : decode cX5_keepNow 23 = .ok (.goto (-21), 3) := by decide +kernel
theorem dX5_keepNow_26 : decode cX5_keepNow 26 = .ok (.aload_n 0, 1) := by decide +kernel
theorem dX5_keepNow_27 : decode cX5_keepNow 27 = .ok (.aload_n 0, 1) := by decide +kernel
theorem dX5_keepNow_28 : decode cX5_keepNow 28 = .ok (.getfield 76, 3) := by decide +kernel
theorem dX5_keepNow_31 : decode cX5_keepNow 31 = .ok (.putfield 134, 3) := by decide +kernel
theorem dX5_keepNow_34 : decode cX5_keepNow 34 = .ok (.return_, 1) := by decide +kernel
theorem dX5_putBack_0 : decode cX5_putBack 0 = .ok (.iconst 0, 1) := by decide +kernel
theorem dX5_putBack_1 : decode cX5_putBack 1 = .ok (.istore_n 1, 1) := by decide +kernel
theorem dX5_putBack_2 : decode cX5_putBack 2 = .ok (.iload_n 1, 1) := by decide +kernel
theorem dX5_putBack_3 : decode cX5_putBack 3 = .ok (.bipush 63, 2) := by decide +kernel
theorem dX5_putBack_5 : decode cX5_putBack 5 = .ok (.if_icmp .ge 21, 3) := by decide +kernel
theorem dX5_putBack_8 : decode cX5_putBack 8 = .ok (.aload_n 0, 1) := by decide +kernel
theorem dX5_putBack_9 : decode cX5_putBack 9 = .ok (.getfield 7, 3) := by decide +kernel
theorem dX5_putBack_12 : decode cX5_putBack 12 = .ok (.iload_n 1, 1) := by decide +kernel
theorem dX5_putBack_13 : decode cX5_putBack 13 = .ok (.aload_n 0, 1) := by decide +kernel
theorem dX5_putBack_14 : decode cX5_putBack 14 = .ok (.getfield 34, 3) := by decide +kernel
theorem dX5_putBack_17 : decode cX5_putBack 17 = .ok (.iload_n 1, 1) := by decide +kernel
theorem dX5_putBack_18 : decode cX5_putBack 18 = .ok (.iaload, 1) := by decide +kernel
theorem dX5_putBack_19 : decode cX5_putBack 19 = .ok (.iastore, 1) := by decide +kernel
theorem dX5_putBack_20 : decode cX5_putBack 20 = .ok (.iinc 1 1, 3) := by decide +kernel
theorem dX5_putBack_23 : decode cX5_putBack 23 = .ok (.goto (-21), 3) := by decide +kernel
theorem dX5_putBack_26 : decode cX5_putBack 26 = .ok (.aload_n 0, 1) := by decide +kernel
theorem dX5_putBack_27 : decode cX5_putBack 27 = .ok (.aload_n 0, 1) := by decide +kernel
theorem dX5_putBack_28 : decode cX5_putBack 28 = .ok (.getfield 134, 3) := by decide +kernel
theorem dX5_putBack_31 : decode cX5_putBack 31 = .ok (.putfield 76, 3) := by decide +kernel
theorem dX5_putBack_34 : decode cX5_putBack 34 = .ok (.return_, 1) := by decide +kernel
theorem dX5_lookWhoHas_0 : decode cX5_lookWhoHas 0 = .ok (.iconst 0, 1) := by decide +kernel
theorem dX5_lookWhoHas_1 : decode cX5_lookWhoHas 1 = .ok (.istore_n 1, 1) := by decide +kernel
theorem dX5_lookWhoHas_2 : decode cX5_lookWhoHas 2 = .ok (.iload_n 1, 1) := by decide +kernel
theorem dX5_lookWhoHas_3 : decode cX5_lookWhoHas 3 = .ok (.aload_n 0, 1) := by decide +kernel
theorem dX5_lookWhoHas_4 : decode cX5_lookWhoHas 4 = .ok (.getfield 73, 3) := by decide +kernel
theorem dX5_lookWhoHas_7 : decode cX5_lookWhoHas 7 = .ok (.if_icmp .ge 71, 3) := by decide +kernel
theorem dX5_lookWhoHas_10 : decode cX5_lookWhoHas 10 = .ok (.aload_n 0, 1) := by decide +kernel
theorem dX5_lookWhoHas_11 : decode cX5_lookWhoHas 11 = .ok (.getfield 7, 3) := by decide +kernel
theorem dX5_lookWhoHas_14 : decode cX5_lookWhoHas 14 = .ok (.bipush 6, 2) := by decide +kernel
theorem dX5_lookWhoHas_16 : decode cX5_lookWhoHas 16 = .ok (.iload_n 1, 1) := by decide +kernel
theorem dX5_lookWhoHas_17 : decode cX5_lookWhoHas 17 = .ok (.invokestatic 82, 3) := by decide +kernel
theorem dX5_lookWhoHas_20 : decode cX5_lookWhoHas 20 = .ok (.iaload, 1) := by decide +kernel
theorem dX5_lookWhoHas_21 : decode cX5_lookWhoHas 21 = .ok (.aload_n 0, 1) := by decide +kernel
theorem dX5_lookWhoHas_22 : decode cX5_lookWhoHas 22 = .ok (.getfield 7, 3) := by decide +kernel
theorem dX5_lookWhoHas_25 : decode cX5_lookWhoHas 25 = .ok (.iconst 2, 1) := by decide +kernel
theorem dX5_lookWhoHas_26 : decode cX5_lookWhoHas 26 = .ok (.iload_n 1, 1) := by decide +kernel
theorem dX5_lookWhoHas_27 : decode cX5_lookWhoHas 27 = .ok (.invokestatic 82, 3) := by decide +kernel
theorem dX5_lookWhoHas_30 : decode cX5_lookWhoHas 30 = .ok (.iaload, 1) := by decide +kernel
theorem dX5_lookWhoHas_31 : decode cX5_lookWhoHas 31 = .ok (.if_icmp .lt 7, 3) := by decide +kernel
theorem dX5_lookWhoHas_34 : decode cX5_lookWhoHas 34 = .ok (.iconst 1, 1) := by decide +kernel
theorem dX5_lookWhoHas_35 : decode cX5_lookWhoHas 35 = .ok (.goto 4, 3) := by decide +kernel
theorem dX5_lookWhoHas_38 : decode cX5_lookWhoHas 38 = .ok (.iconst 0, 1) := by decide +kernel
theorem dX5_lookWhoHas_39 : decode cX5_lookWhoHas 39 = .ok (.istore_n 2, 1) := by decide +kernel
theorem dX5_lookWhoHas_40 : decode cX5_lookWhoHas 40 = .ok (.aload_n 0, 1) := by decide +kernel
theorem dX5_lookWhoHas_41 : decode cX5_lookWhoHas 41 = .ok (.getfield 37, 3) := by decide +kernel
theorem dX5_lookWhoHas_44 : decode cX5_lookWhoHas 44 = .ok (.iload_n 1, 1) := by decide +kernel
theorem dX5_lookWhoHas_45 : decode cX5_lookWhoHas 45 = .ok (.iload_n 2, 1) := by decide +kernel
theorem dX5_lookWhoHas_46 : decode cX5_lookWhoHas 46 = .ok (.ifCond .eq 19, 3) := by decide +kernel
theorem dX5_lookWhoHas_49 : decode cX5_lookWhoHas 49 = .ok (.aload_n 0, 1) := by decide +kernel
theorem dX5_lookWhoHas_50 : decode cX5_lookWhoHas 50 = .ok (.getfield 37, 3) := by decide +kernel
theorem dX5_lookWhoHas_53 : decode cX5_lookWhoHas 53 = .ok (.iload_n 1, 1) := by decide +kernel
theorem dX5_lookWhoHas_54 : decode cX5_lookWhoHas 54 = .ok (.iaload, 1) := by decide +kernel
theorem dX5_lookWhoHas_55 : decode cX5_lookWhoHas 55 = .ok (.ifCond .ge 10, 3) := by decide +kernel
theorem dX5_lookWhoHas_58 : decode cX5_lookWhoHas 58 = .ok (.aload_n 0, 1) := by decide +kernel
theorem dX5_lookWhoHas_59 : decode cX5_lookWhoHas 59 = .ok (.getfield 137, 3) := by decide +kernel
theorem dX5_lookWhoHas_62 : decode cX5_lookWhoHas 62 = .ok (.goto 9, 3) := by decide +kernel
theorem dX5_lookWhoHas_65 : decode cX5_lookWhoHas 65 = .ok (.aload_n 0, 1) := by decide +kernel
theorem dX5_lookWhoHas_66 : decode cX5_lookWhoHas 66 = .ok (.getfield 37, 3) := by decide +kernel
theorem dX5_lookWhoHas_69 : decode cX5_lookWhoHas 69 = .ok (.iload_n 1, 1) := by decide +kernel
theorem dX5_lookWhoHas_70 : decode cX5_lookWhoHas 70 = .ok (.iaload, 1) := by decide +kernel
theorem dX5_lookWhoHas_71 : decode cX5_lookWhoHas 71 = .ok (.iastore, 1) := by decide +kernel
theorem dX5_lookWhoHas_72 : decode cX5_lookWhoHas 72 = .ok (.iinc 1 1, 3) := by decide +kernel
theorem dX5_lookWhoHas_75 : decode cX5_lookWhoHas 75 = .ok (.goto (-73), 3) := by decide +kernel
theorem dX5_lookWhoHas_78 : decode cX5_lookWhoHas 78 = .ok (.return_, 1) := by decide +kernel
theorem dX5_deed_0 : decode cX5_deed 0 = .ok (.aload_n 0, 1) := by decide +kernel
theorem dX5_deed_1 : decode cX5_deed 1 = .ok (.getfield 7, 3) := by decide +kernel
theorem dX5_deed_4 : decode cX5_deed 4 = .ok (.iconst 0, 1) := by decide +kernel
theorem dX5_deed_5 : decode cX5_deed 5 = .ok (.iload_n 1, 1) := by decide +kernel
theorem dX5_deed_6 : decode cX5_deed 6 = .ok (.invokestatic 82, 3) := by decide +kernel
theorem dX5_deed_9 : decode cX5_deed 9 = .ok (.iaload, 1) := by decide +kernel
theorem dX5_deed_10 : decode cX5_deed 10 = .ok (.iload_n 2, 1) := by decide +kernel
theorem dX5_deed_11 : decode cX5_deed 11 = .ok (.bipush 60, 2) := by decide +kernel
theorem dX5_deed_13 : decode cX5_deed 13 = .ok (.if_icmp .ne 7, 3) := by decide +kernel
theorem dX5_deed_16 : decode cX5_deed 16 = .ok (.iconst (-1), 1) := by decide +kernel
theorem dX5_deed_17 : decode cX5_deed 17 = .ok (.goto 14, 3) := by decide +kernel
theorem dX5_deed_20 : decode cX5_deed 20 = .ok (.iload_n 2, 1) := by decide +kernel
theorem dX5_deed_21 : decode cX5_deed 21 = .ok (.bipush 62, 2) := by decide +kernel
theorem dX5_deed_23 : decode cX5_deed 23 = .ok (.if_icmp .ne 7, 3) := by decide +kernel
theorem dX5_deed_26 : decode cX5_deed 26 = .ok (.iconst 1, 1) := by decide +kernel
theorem dX5_deed_27 : decode cX5_deed 27 = .ok (.goto 4, 3) := by decide +kernel
theorem dX5_deed_30 : decode cX5_deed 30 = .ok (.iconst 0, 1) := by decide +kernel
theorem dX5_deed_31 : decode cX5_deed 31 = .ok (.iadd, 1) := by decide +kernel
theorem dX5_deed_32 : decode cX5_deed 32 = .ok (.istore_n 3, 1) := by decide +kernel
theorem dX5_deed_33 : decode cX5_deed 33 = .ok (.iload_n 3, 1) := by decide +kernel
theorem dX5_deed_34 : decode cX5_deed 34 = .ok (.i2l, 1) := by decide +kernel
theorem dX5_deed_35 : decode cX5_deed 35 = .ok (.lconst 0, 1) := by decide +kernel
theorem dX5_deed_36 : decode cX5_deed 36 = .ok (.ldc2_w 106, 3) := by decide +kernel
theorem dX5_deed_39 : decode cX5_deed 39 = .ok (.invokestatic 86, 3) := by decide +kernel
theorem dX5_deed_42 : decode cX5_deed 42 = .ok (.ifCond .ne 5, 3) := by decide +kernel
theorem dX5_deed_45 : decode cX5_deed 45 = .ok (.iconst 1, 1) := by decide +kernel
theorem dX5_deed_46 : decode cX5_deed 46 = .ok (.ireturn, 1) := by decide +kernel
theorem dX5_deed_47 : decode cX5_deed 47 = .ok (.iload_n 2, 1) := by decide +kernel
theorem dX5_deed_48 : decode cX5_deed 48 = .ok (.bipush 119, 2) := by decide +kernel
theorem dX5_deed_50 : decode cX5_deed 50 = .ok (.if_icmp .ne 20, 3) := by decide +kernel
theorem dX5_deed_53 : decode cX5_deed 53 = .ok (.aload_n 0, 1) := by decide +kernel
theorem dX5_deed_54 : decode cX5_deed 54 = .ok (.getfield 7, 3) := by decide +kernel
theorem dX5_deed_57 : decode cX5_deed 57 = .ok (.iconst 1, 1) := by decide +kernel
theorem dX5_deed_58 : decode cX5_deed 58 = .ok (.iload_n 1, 1) := by decide +kernel
theorem dX5_deed_59 : decode cX5_deed 59 = .ok (.invokestatic 82, 3) := by decide +kernel
theorem dX5_deed_62 : decode cX5_deed 62 = .ok (.iaload, 1) := by decide +kernel
theorem dX5_deed_63 : decode cX5_deed 63 = .ok (.bipush 9, 2) := by decide +kernel
theorem dX5_deed_65 : decode cX5_deed 65 = .ok (.if_icmp .ne 5, 3) := by decide +kernel
theorem dX5_deed_68 : decode cX5_deed 68 = .ok (.iconst 2, 1) := by decide +kernel
theorem dX5_deed_69 : decode cX5_deed 69 = .ok (.ireturn, 1) := by decide +kernel
theorem dX5_deed_70 : decode cX5_deed 70 = .ok (.aload_n 0, 1) := by decide +kernel
theorem dX5_deed_71 : decode cX5_deed 71 = .ok (.getfield 7, 3) := by decide +kernel
theorem dX5_deed_74 : decode cX5_deed 74 = .ok (.iconst 0, 1) := by decide +kernel
theorem dX5_deed_75 : decode cX5_deed 75 = .ok (.iload_n 1, 1) := by decide +kernel
theorem dX5_deed_76 : decode cX5_deed 76 = .ok (.invokestatic 82, 3) := by decide +kernel
theorem dX5_deed_79 : decode cX5_deed 79 = .ok (.iload_n 3, 1) := by decide +kernel
theorem dX5_deed_80 : decode cX5_deed 80 = .ok (.iastore, 1) := by decide +kernel
theorem dX5_deed_81 : decode cX5_deed 81 = .ok (.aload_n 0, 1) := by decide +kernel
theorem dX5_deed_82 : decode cX5_deed 82 = .ok (.getfield 7, 3) := by decide +kernel
theorem dX5_deed_85 : decode cX5_deed 85 = .ok (.iconst 1, 1) := by decide +kernel
theorem dX5_deed_86 : decode cX5_deed 86 = .ok (.iload_n 1, 1) := by decide +kernel
theorem dX5_deed_87 : decode cX5_deed 87 = .ok (.invokestatic 82, 3) := by decide +kernel
theorem dX5_deed_90 : decode cX5_deed 90 = .ok (.dup2, 1) := by decide +kernel
theorem dX5_deed_91 : decode cX5_deed 91 = .ok (.iaload, 1) := by decide +kernel
theorem dX5_deed_92 : decode cX5_deed 92 = .ok (.iload_n 2, 1) := by decide +kernel
theorem dX5_deed_93 : decode cX5_deed 93 = .ok (.bipush 119, 2) := by decide +kernel
theorem dX5_deed_95 : decode cX5_deed 95 = .ok (.if_icmp .ne 7, 3) := by decide +kernel
theorem dX5_deed_98 : decode cX5_deed 98 = .ok (.iconst 1, 1) := by decide +kernel
theorem dX5_deed_99 : decode cX5_deed 99 = .ok (.goto 4, 3) := by decide +kernel
theorem dX5_deed_102 : decode cX5_deed 102 = .ok (.iconst 0, 1) := by decide +kernel
theorem dX5_deed_103 : decode cX5_deed 103 = .ok (.iadd, 1) := by decide +kernel
theorem dX5_deed_104 : decode cX5_deed 104 = .ok (.iastore, 1) := by decide +kernel
theorem dX5_deed_105 : decode cX5_deed 105 = .ok (.aload_n 0, 1) := by decide +kernel
theorem dX5_deed_106 : decode cX5_deed 106 = .ok (.getfield 7, 3) := by decide +kernel
theorem dX5_deed_109 : decode cX5_deed 109 = .ok (.iconst 4, 1) := by decide +kernel
theorem dX5_deed_110 : decode cX5_deed 110 = .ok (.iload_n 1, 1) := by decide +kernel
theorem dX5_deed_111 : decode cX5_deed 111 = .ok (.invokestatic 82, 3) := by decide +kernel
theorem dX5_deed_114 : decode cX5_deed 114 = .ok (.dup2, 1) := by decide +kernel
theorem dX5_deed_115 : decode cX5_deed 115 = .ok (.iaload, 1) := by decide +kernel
theorem dX5_deed_116 : decode cX5_deed 116 = .ok (.iload_n 2, 1) := by decide +kernel
theorem dX5_deed_117 : decode cX5_deed 117 = .ok (.ifCond .ne 7, 3) := by decide +kernel
theorem dX5_deed_120 : decode cX5_deed 120 = .ok (.iconst 1, 1) := by decide +kernel
theorem dX5_deed_121 : decode cX5_deed 121 = .ok (.goto 4, 3) := by decide +kernel
theorem dX5_deed_124 : decode cX5_deed 124 = .ok (.iconst 0, 1) := by decide +kernel
theorem dX5_deed_125 : decode cX5_deed 125 = .ok (.ixor, 1) := by decide +kernel
theorem dX5_deed_126 : decode cX5_deed 126 = .ok (.iastore, 1) := by decide +kernel
theorem dX5_deed_127 : decode cX5_deed 127 = .ok (.iconst 0, 1) := by decide +kernel
theorem dX5_deed_128 : decode cX5_deed 128 = .ok (.ireturn, 1) := by decide +kernel
theorem dX5_goDay_0 : decode cX5_goDay 0 = .ok (.aload_n 0, 1) := by decide +kernel
theorem dX5_goDay_1 : decode cX5_goDay 1 = .ok (.bipush (-6), 2) := by decide +kernel
theorem dX5_goDay_3 : decode cX5_goDay 3 = .ok (.putfield 140, 3) := by decide +kernel
theorem dX5_goDay_6 : decode cX5_goDay 6 = .ok (.aload_n 0, 1) := by decide +kernel
theorem dX5_goDay_7 : decode cX5_goDay 7 = .ok (.bipush (-6), 2) := by decide +kernel
theorem dX5_goDay_9 : decode cX5_goDay 9 = .ok (.putfield 143, 3) := by decide +kernel
theorem dX5_goDay_12 : decode cX5_goDay 12 = .ok (.aload_n 0, 1) := by decide +kernel
theorem dX5_goDay_13 : decode cX5_goDay 13 = .ok (.iconst 0, 1) := by decide +kernel
theorem dX5_goDay_14 : decode cX5_goDay 14 = .ok (.putfield 137, 3) := by decide +kernel
theorem dX5_goDay_17 : decode cX5_goDay 17 = .ok (.iconst 0, 1) := by decide +kernel
theorem dX5_goDay_18 : decode cX5_goDay 18 = .ok (.istore_n 1, 1) := by decide +kernel
theorem dX5_goDay_19 : decode cX5_goDay 19 = .ok (.iload_n 1, 1) := by decide +kernel
theorem dX5_goDay_20 : decode cX5_goDay 20 = .ok (.aload_n 0, 1) := by decide +kernel
theorem dX5_goDay_21 : decode cX5_goDay 21 = .ok (.getfield 73, 3) := by decide +kernel
theorem dX5_goDay_24 : decode cX5_goDay 24 = .ok (.if_icmp .ge 17, 3) := by decide +kernel
theorem dX5_goDay_27 : decode cX5_goDay 27 = .ok (.aload_n 0, 1) := by decide +kernel
theorem dX5_goDay_28 : decode cX5_goDay 28 = .ok (.getfield 37, 3) := by decide +kernel
theorem dX5_goDay_31 : decode cX5_goDay 31 = .ok (.iload_n 1, 1) := by decide +kernel
theorem dX5_goDay_32 : decode cX5_goDay 32 = .ok (.bipush (-6), 2) := by decide +kernel
theorem dX5_goDay_34 : decode cX5_goDay 34 = .ok (.iastore, 1) := by decide +kernel
theorem dX5_goDay_35 : decode cX5_goDay 35 = .ok (.iinc 1 1, 3) := by decide +kernel
theorem dX5_goDay_38 : decode cX5_goDay 38 = .ok (.goto (-19), 3) := by decide +kernel
theorem dX5_goDay_41 : decode cX5_goDay 41 = .ok (.aload_n 0, 1) := by decide +kernel
theorem dX5_goDay_42 : decode cX5_goDay 42 = .ok (.invokevirtual 146, 3) := by decide +kernel
theorem dX5_goDay_45 : decode cX5_goDay 45 = .ok (.iconst 0, 1) := by decide +kernel
theorem dX5_goDay_46 : decode cX5_goDay 46 = .ok (.istore_n 1, 1) := by decide +kernel
theorem dX5_goDay_47 : decode cX5_goDay 47 = .ok (.iload_n 1, 1) := by decide +kernel
theorem dX5_goDay_48 : decode cX5_goDay 48 = .ok (.aload_n 0, 1) := by decide +kernel
theorem dX5_goDay_49 : decode cX5_goDay 49 = .ok (.getfield 115, 3) := by decide +kernel
theorem dX5_goDay_52 : decode cX5_goDay 52 = .ok (.if_icmp .ge 97, 3) := by decide +kernel
theorem dX5_goDay_55 : decode cX5_goDay 55 = .ok (.aload_n 0, 1) := by decide +kernel
theorem dX5_goDay_56 : decode cX5_goDay 56 = .ok (.getfield 140, 3) := by decide +kernel
theorem dX5_goDay_59 : decode cX5_goDay 59 = .ok (.ifCond .ge 90, 3) := by decide +kernel
theorem dX5_goDay_62 : decode cX5_goDay 62 = .ok (.aload_n 0, 1) := by decide +kernel
theorem dX5_goDay_63 : decode cX5_goDay 63 = .ok (.getfield 25, 3) := by decide +kernel
theorem dX5_goDay_66 : decode cX5_goDay 66 = .ok (.iload_n 1, 1) := by decide +kernel
theorem dX5_goDay_67 : decode cX5_goDay 67 = .ok (.iaload, 1) := by decide +kernel
theorem dX5_goDay_68 : decode cX5_goDay 68 = .ok (.ifCond .ge 30, 3) := by decide +kernel
theorem dX5_goDay_71 : decode cX5_goDay 71 = .ok (.aload_n 0, 1) := by decide +kernel
theorem dX5_goDay_72 : decode cX5_goDay 72 = .ok (.aload_n 0, 1) := by decide +kernel
theorem dX5_goDay_73 : decode cX5_goDay 73 = .ok (.getfield 22, 3) := by decide +kernel
theorem dX5_goDay_76 : decode cX5_goDay 76 = .ok (.iload_n 1, 1) := by decide +kernel
theorem dX5_goDay_77 : decode cX5_goDay 77 = .ok (.iaload, 1) := by decide +kernel
theorem dX5_goDay_78 : decode cX5_goDay 78 = .ok (.invokevirtual 149, 3) := by decide +kernel
theorem dX5_goDay_81 : decode cX5_goDay 81 = .ok (.aload_n 0, 1) := by decide +kernel
theorem dX5_goDay_82 : decode cX5_goDay 82 = .ok (.dup, 1) := by decide +kernel
theorem dX5_goDay_83 : decode cX5_goDay 83 = .ok (.getfield 137, 3) := by decide +kernel
theorem dX5_goDay_86 : decode cX5_goDay 86 = .ok (.iconst 1, 1) := by decide +kernel
theorem dX5_goDay_87 : decode cX5_goDay 87 = .ok (.iadd, 1) := by decide +kernel
theorem dX5_goDay_88 : decode cX5_goDay 88 = .ok (.putfield 137, 3) := by decide +kernel
theorem dX5_goDay_91 : decode cX5_goDay 91 = .ok (.aload_n 0, 1) := by decide +kernel
theorem dX5_goDay_92 : decode cX5_goDay 92 = .ok (.invokevirtual 146, 3) := by decide +kernel
theorem dX5_goDay_95 : decode cX5_goDay 95 = .ok (.goto 48, 3) := by decide +kernel
theorem dX5_goDay_98 : decode cX5_goDay 98 = .ok (.aload_n 0, 1) := by decide +kernel
theorem dX5_goDay_99 : decode cX5_goDay 99 = .ok (.aload_n 0, 1) := by decide +kernel
theorem dX5_goDay_100 : decode cX5_goDay 100 = .ok (.getfield 25, 3) := by decide +kernel
theorem dX5_goDay_103 : decode cX5_goDay 103 = .ok (.iload_n 1, 1) := by decide +kernel
theorem dX5_goDay_104 : decode cX5_goDay 104 = .ok (.iaload, 1) := by decide +kernel
theorem dX5_goDay_105 : decode cX5_goDay 105 = .ok (.aload_n 0, 1) := by decide +kernel
theorem dX5_goDay_106 : decode cX5_goDay 106 = .ok (.getfield 22, 3) := by decide +kernel
theorem dX5_goDay_109 : decode cX5_goDay 109 = .ok (.iload_n 1, 1) := by decide +kernel
theorem dX5_goDay_110 : decode cX5_goDay 110 = .ok (.iaload, 1) := by decide +kernel
theorem dX5_goDay_111 : decode cX5_goDay 111 = .ok (.invokevirtual 152, 3) := by decide +kernel
theorem dX5_goDay_114 : decode cX5_goDay 114 = .ok (.istore_n 2, 1) := by decide +kernel
theorem dX5_goDay_115 : decode cX5_goDay 115 = .ok (.aload_n 0, 1) := by decide +kernel
theorem dX5_goDay_116 : decode cX5_goDay 116 = .ok (.iload_n 2, 1) := by decide +kernel
theorem dX5_goDay_117 : decode cX5_goDay 117 = .ok (.ifCond .le 7, 3) := by decide +kernel
theorem dX5_goDay_120 : decode cX5_goDay 120 = .ok (.iload_n 1, 1) := by decide +kernel
theorem dX5_goDay_121 : decode cX5_goDay 121 = .ok (.goto 5, 3) := by decide +kernel
theorem dX5_goDay_124 : decode cX5_goDay 124 = .ok (.bipush (-6), 2) := by decide +kernel
theorem dX5_goDay_126 : decode cX5_goDay 126 = .ok (.putfield 140, 3) := by decide +kernel
theorem dX5_goDay_129 : decode cX5_goDay 129 = .ok (.aload_n 0, 1) := by decide +kernel
theorem dX5_goDay_130 : decode cX5_goDay 130 = .ok (.iload_n 2, 1) := by decide +kernel
theorem dX5_goDay_131 : decode cX5_goDay 131 = .ok (.ifCond .le 7, 3) := by decide +kernel
theorem dX5_goDay_134 : decode cX5_goDay 134 = .ok (.iload_n 2, 1) := by decide +kernel
theorem dX5_goDay_135 : decode cX5_goDay 135 = .ok (.goto 5, 3) := by decide +kernel
theorem dX5_goDay_138 : decode cX5_goDay 138 = .ok (.bipush (-6), 2) := by decide +kernel
theorem dX5_goDay_140 : decode cX5_goDay 140 = .ok (.putfield 143, 3) := by decide +kernel
theorem dX5_goDay_143 : decode cX5_goDay 143 = .ok (.iinc 1 1, 3) := by decide +kernel
theorem dX5_goDay_146 : decode cX5_goDay 146 = .ok (.goto (-99), 3) := by decide +kernel
theorem dX5_goDay_149 : decode cX5_goDay 149 = .ok (.return_, 1) := by decide +kernel
theorem dX5_refusal_0 : decode cX5_refusal 0 = .ok (.aload_n 0, 1) := by decide +kernel
theorem dX5_refusal_1 : decode cX5_refusal 1 = .ok (.invokevirtual 155, 3) := by decide +kernel
theorem dX5_refusal_4 : decode cX5_refusal 4 = .ok (.ifCond .lt 6, 3) := by decide +kernel
theorem dX5_refusal_7 : decode cX5_refusal 7 = .ok (.bipush (-5), 2) := by decide +kernel
theorem dX5_refusal_9 : decode cX5_refusal 9 = .ok (.ireturn, 1) := by decide +kernel
theorem dX5_refusal_10 : decode cX5_refusal 10 = .ok (.aload_n 0, 1) := by decide +kernel
theorem dX5_refusal_11 : decode cX5_refusal 11 = .ok (.invokevirtual 159, 3) := by decide +kernel
theorem dX5_refusal_14 : decode cX5_refusal 14 = .ok (.aload_n 0, 1) := by decide +kernel
theorem dX5_refusal_15 : decode cX5_refusal 15 = .ok (.invokevirtual 162, 3) := by decide +kernel
theorem dX5_refusal_18 : decode cX5_refusal 18 = .ok (.aload_n 0, 1) := by decide +kernel
theorem dX5_refusal_19 : decode cX5_refusal 19 = .ok (.invokevirtual 165, 3) := by decide +kernel
theorem dX5_refusal_22 : decode cX5_refusal 22 = .ok (.aload_n 0, 1) := by decide +kernel
theorem dX5_refusal_23 : decode cX5_refusal 23 = .ok (.getfield 140, 3) := by decide +kernel
theorem dX5_refusal_26 : decode cX5_refusal 26 = .ok (.ifCond .lt 8, 3) := by decide +kernel
theorem dX5_refusal_29 : decode cX5_refusal 29 = .ok (.bipush (-3), 2) := by decide +kernel
theorem dX5_refusal_31 : decode cX5_refusal 31 = .ok (.goto 5, 3) := by decide +kernel
theorem dX5_refusal_34 : decode cX5_refusal 34 = .ok (.bipush (-6), 2) := by decide +kernel
theorem dX5_refusal_36 : decode cX5_refusal 36 = .ok (.ireturn, 1) := by decide +kernel
theorem dX5_judge_0 : decode cX5_judge 0 = .ok (.iload_n 1, 1) := by decide +kernel
theorem dX5_judge_1 : decode cX5_judge 1 = .ok (.i2l, 1) := by decide +kernel
theorem dX5_judge_2 : decode cX5_judge 2 = .ok (.lconst 0, 1) := by decide +kernel
theorem dX5_judge_3 : decode cX5_judge 3 = .ok (.ldc2_w 102, 3) := by decide +kernel
theorem dX5_judge_6 : decode cX5_judge 6 = .ok (.invokestatic 86, 3) := by decide +kernel
theorem dX5_judge_9 : decode cX5_judge 9 = .ok (.ifCond .ne 6, 3) := by decide +kernel
theorem dX5_judge_12 : decode cX5_judge 12 = .ok (.bipush (-2), 2) := by decide +kernel
theorem dX5_judge_14 : decode cX5_judge 14 = .ok (.ireturn, 1) := by decide +kernel
theorem dX5_judge_15 : decode cX5_judge 15 = .ok (.aload_n 0, 1) := by decide +kernel
theorem dX5_judge_16 : decode cX5_judge 16 = .ok (.invokevirtual 168, 3) := by decide +kernel
theorem dX5_judge_19 : decode cX5_judge 19 = .ok (.istore_n 2, 1) := by decide +kernel
theorem dX5_judge_20 : decode cX5_judge 20 = .ok (.iload_n 2, 1) := by decide +kernel
theorem dX5_judge_21 : decode cX5_judge 21 = .ok (.bipush (-5), 2) := by decide +kernel
theorem dX5_judge_23 : decode cX5_judge 23 = .ok (.if_icmp .ne 6, 3) := by decide +kernel
theorem dX5_judge_26 : decode cX5_judge 26 = .ok (.bipush (-5), 2) := by decide +kernel
theorem dX5_judge_28 : decode cX5_judge 28 = .ok (.ireturn, 1) := by decide +kernel
theorem dX5_judge_29 : decode cX5_judge 29 = .ok (.iload_n 1, 1) := by decide +kernel
theorem dX5_judge_30 : decode cX5_judge 30 = .ok (.ifCond .ne 10, 3) := by decide +kernel
theorem dX5_judge_33 : decode cX5_judge 33 = .ok (.aload_n 0, 1) := by decide +kernel
theorem dX5_judge_34 : decode cX5_judge 34 = .ok (.getfield 140, 3) := by decide +kernel
theorem dX5_judge_37 : decode cX5_judge 37 = .ok (.goto 30, 3) := by decide +kernel
theorem dX5_judge_40 : decode cX5_judge 40 = .ok (.iload_n 1, 1) := by decide +kernel
theorem dX5_judge_41 : decode cX5_judge 41 = .ok (.iconst 1, 1) := by decide +kernel
theorem dX5_judge_42 : decode cX5_judge 42 = .ok (.if_icmp .ne 10, 3) := by decide +kernel
theorem dX5_judge_45 : decode cX5_judge 45 = .ok (.aload_n 0, 1) := by decide +kernel
theorem dX5_judge_46 : decode cX5_judge 46 = .ok (.getfield 143, 3) := by decide +kernel
theorem dX5_judge_49 : decode cX5_judge 49 = .ok (.goto 18, 3) := by decide +kernel
theorem dX5_judge_52 : decode cX5_judge 52 = .ok (.iload_n 2, 1) := by decide +kernel
theorem dX5_judge_53 : decode cX5_judge 53 = .ok (.bipush (-3), 2) := by decide +kernel
theorem dX5_judge_55 : decode cX5_judge 55 = .ok (.if_icmp .ne 8, 3) := by decide +kernel
theorem dX5_judge_58 : decode cX5_judge 58 = .ok (.bipush (-3), 2) := by decide +kernel
theorem dX5_judge_60 : decode cX5_judge 60 = .ok (.goto 7, 3) := by decide +kernel
theorem dX5_judge_63 : decode cX5_judge 63 = .ok (.aload_n 0, 1) := by decide +kernel
theorem dX5_judge_64 : decode cX5_judge 64 = .ok (.getfield 137, 3) := by decide +kernel
theorem dX5_judge_67 : decode cX5_judge 67 = .ok (.ireturn, 1) := by decide +kernel
theorem dX5_behind_0 : decode cX5_behind 0 = .ok (.aload_n 0, 1) := by decide +kernel
theorem dX5_behind_1 : decode cX5_behind 1 = .ok (.iload_n 1, 1) := by decide +kernel
theorem dX5_behind_2 : decode cX5_behind 2 = .ok (.invokevirtual 92, 3) := by decide +kernel
theorem dX5_behind_5 : decode cX5_behind 5 = .ok (.ifCond .ne 5, 3) := by decide +kernel
theorem dX5_behind_8 : decode cX5_behind 8 = .ok (.iconst (-1), 1) := by decide +kernel
theorem dX5_behind_9 : decode cX5_behind 9 = .ok (.ireturn, 1) := by decide +kernel
theorem dX5_behind_10 : decode cX5_behind 10 = .ok (.iload_n 2, 1) := by decide +kernel
theorem dX5_behind_11 : decode cX5_behind 11 = .ok (.i2l, 1) := by decide +kernel
theorem dX5_behind_12 : decode cX5_behind 12 = .ok (.lconst 0, 1) := by decide +kernel
theorem dX5_behind_13 : decode cX5_behind 13 = .ok (.ldc2_w 171, 3) := by decide +kernel
theorem dX5_behind_16 : decode cX5_behind 16 = .ok (.invokestatic 86, 3) := by decide +kernel
theorem dX5_behind_19 : decode cX5_behind 19 = .ok (.ifCond .ne 6, 3) := by decide +kernel
theorem dX5_behind_22 : decode cX5_behind 22 = .ok (.bipush (-2), 2) := by decide +kernel
theorem dX5_behind_24 : decode cX5_behind 24 = .ok (.ireturn, 1) := by decide +kernel
theorem dX5_behind_25 : decode cX5_behind 25 = .ok (.aload_n 0, 1) := by decide +kernel
theorem dX5_behind_26 : decode cX5_behind 26 = .ok (.invokevirtual 168, 3) := by decide +kernel
theorem dX5_behind_29 : decode cX5_behind 29 = .ok (.istore_n 3, 1) := by decide +kernel
theorem dX5_behind_30 : decode cX5_behind 30 = .ok (.iload_n 3, 1) := by decide +kernel
theorem dX5_behind_31 : decode cX5_behind 31 = .ok (.bipush (-6), 2) := by decide +kernel
theorem dX5_behind_33 : decode cX5_behind 33 = .ok (.if_icmp .eq 5, 3) := by decide +kernel
theorem dX5_behind_36 : decode cX5_behind 36 = .ok (.iload_n 3, 1) := by decide +kernel
theorem dX5_behind_37 : decode cX5_behind 37 = .ok (.ireturn, 1) := by decide +kernel
theorem dX5_behind_38 : decode cX5_behind 38 = .ok (.aload_n 0, 1) := by decide +kernel
theorem dX5_behind_39 : decode cX5_behind 39 = .ok (.invokevirtual 159, 3) := by decide +kernel
theorem dX5_behind_42 : decode cX5_behind 42 = .ok (.aload_n 0, 1) := by decide +kernel
theorem dX5_behind_43 : decode cX5_behind 43 = .ok (.invokevirtual 162, 3) := by decide +kernel
theorem dX5_behind_46 : decode cX5_behind 46 = .ok (.aload_n 0, 1) := by decide +kernel
theorem dX5_behind_47 : decode cX5_behind 47 = .ok (.getfield 7, 3) := by decide +kernel
theorem dX5_behind_50 : decode cX5_behind 50 = .ok (.iload_n 2, 1) := by decide +kernel
theorem dX5_behind_51 : decode cX5_behind 51 = .ok (.ifCond .ne 8, 3) := by decide +kernel
theorem dX5_behind_54 : decode cX5_behind 54 = .ok (.bipush 6, 2) := by decide +kernel
theorem dX5_behind_56 : decode cX5_behind 56 = .ok (.goto 22, 3) := by decide +kernel
theorem dX5_behind_59 : decode cX5_behind 59 = .ok (.iload_n 2, 1) := by decide +kernel
theorem dX5_behind_60 : decode cX5_behind 60 = .ok (.iconst 1, 1) := by decide +kernel
theorem dX5_behind_61 : decode cX5_behind 61 = .ok (.if_icmp .ne 7, 3) := by decide +kernel
theorem dX5_behind_64 : decode cX5_behind 64 = .ok (.iconst 0, 1) := by decide +kernel
theorem dX5_behind_65 : decode cX5_behind 65 = .ok (.goto 13, 3) := by decide +kernel
theorem dX5_behind_68 : decode cX5_behind 68 = .ok (.iload_n 2, 1) := by decide +kernel
theorem dX5_behind_69 : decode cX5_behind 69 = .ok (.iconst 2, 1) := by decide +kernel
theorem dX5_behind_70 : decode cX5_behind 70 = .ok (.if_icmp .ne 7, 3) := by decide +kernel
theorem dX5_behind_73 : decode cX5_behind 73 = .ok (.iconst 1, 1) := by decide +kernel
theorem dX5_behind_74 : decode cX5_behind 74 = .ok (.goto 4, 3) := by decide +kernel
theorem dX5_behind_77 : decode cX5_behind 77 = .ok (.iconst 4, 1) := by decide +kernel
theorem dX5_behind_78 : decode cX5_behind 78 = .ok (.iload_n 1, 1) := by decide +kernel
theorem dX5_behind_79 : decode cX5_behind 79 = .ok (.invokestatic 82, 3) := by decide +kernel
theorem dX5_behind_82 : decode cX5_behind 82 = .ok (.iaload, 1) := by decide +kernel
theorem dX5_behind_83 : decode cX5_behind 83 = .ok (.istore 4, 2) := by decide +kernel
theorem dX5_behind_85 : decode cX5_behind 85 = .ok (.aload_n 0, 1) := by decide +kernel
theorem dX5_behind_86 : decode cX5_behind 86 = .ok (.invokevirtual 165, 3) := by decide +kernel
theorem dX5_behind_89 : decode cX5_behind 89 = .ok (.iload 4, 2) := by decide +kernel
theorem dX5_behind_91 : decode cX5_behind 91 = .ok (.ireturn, 1) := by decide +kernel
theorem dX5_ditch_0 : decode cX5_ditch 0 = .ok (.aload_n 0, 1) := by decide +kernel
theorem dX5_ditch_1 : decode cX5_ditch 1 = .ok (.invokevirtual 168, 3) := by decide +kernel
theorem dX5_ditch_4 : decode cX5_ditch 4 = .ok (.istore_n 1, 1) := by decide +kernel
theorem dX5_ditch_5 : decode cX5_ditch 5 = .ok (.iload_n 1, 1) := by decide +kernel
theorem dX5_ditch_6 : decode cX5_ditch 6 = .ok (.bipush (-6), 2) := by decide +kernel
theorem dX5_ditch_8 : decode cX5_ditch 8 = .ok (.if_icmp .eq 5, 3) := by decide +kernel
theorem dX5_ditch_11 : decode cX5_ditch 11 = .ok (.iload_n 1, 1) := by decide +kernel
theorem dX5_ditch_12 : decode cX5_ditch 12 = .ok (.ireturn, 1) := by decide +kernel
theorem dX5_ditch_13 : decode cX5_ditch 13 = .ok (.aload_n 0, 1) := by decide +kernel
theorem dX5_ditch_14 : decode cX5_ditch 14 = .ok (.invokevirtual 159, 3) := by decide +kernel
theorem dX5_ditch_17 : decode cX5_ditch 17 = .ok (.aload_n 0, 1) := by decide +kernel
theorem dX5_ditch_18 : decode cX5_ditch 18 = .ok (.invokevirtual 162, 3) := by decide +kernel
theorem dX5_ditch_21 : decode cX5_ditch 21 = .ok (.aload_n 0, 1) := by decide +kernel
theorem dX5_ditch_22 : decode cX5_ditch 22 = .ok (.getfield 76, 3) := by decide +kernel
theorem dX5_ditch_25 : decode cX5_ditch 25 = .ok (.istore_n 2, 1) := by decide +kernel
theorem dX5_ditch_26 : decode cX5_ditch 26 = .ok (.aload_n 0, 1) := by decide +kernel
theorem dX5_ditch_27 : decode cX5_ditch 27 = .ok (.invokevirtual 165, 3) := by decide +kernel
theorem dX5_ditch_30 : decode cX5_ditch 30 = .ok (.iload_n 2, 1) := by decide +kernel
theorem dX5_ditch_31 : decode cX5_ditch 31 = .ok (.ireturn, 1) := by decide +kernel
theorem dX5_done_0 : decode cX5_done 0 = .ok (.aload_n 0, 1) := by decide +kernel
theorem dX5_done_1 : decode cX5_done 1 = .ok (.invokevirtual 168, 3) := by decide +kernel
theorem dX5_done_4 : decode cX5_done 4 = .ok (.istore_n 1, 1) := by decide +kernel
theorem dX5_done_5 : decode cX5_done 5 = .ok (.iload_n 1, 1) := by decide +kernel
theorem dX5_done_6 : decode cX5_done 6 = .ok (.bipush (-6), 2) := by decide +kernel
theorem dX5_done_8 : decode cX5_done 8 = .ok (.if_icmp .eq 5, 3) := by decide +kernel
theorem dX5_done_11 : decode cX5_done 11 = .ok (.iload_n 1, 1) := by decide +kernel
theorem dX5_done_12 : decode cX5_done 12 = .ok (.ireturn, 1) := by decide +kernel
theorem dX5_done_13 : decode cX5_done 13 = .ok (.aload_n 0, 1) := by decide +kernel
theorem dX5_done_14 : decode cX5_done 14 = .ok (.invokevirtual 162, 3) := by decide +kernel
theorem dX5_done_17 : decode cX5_done 17 = .ok (.aload_n 0, 1) := by decide +kernel
theorem dX5_done_18 : decode cX5_done 18 = .ok (.iconst 0, 1) := by decide +kernel
theorem dX5_done_19 : decode cX5_done 19 = .ok (.putfield 112, 3) := by decide +kernel
theorem dX5_done_22 : decode cX5_done 22 = .ok (.aload_n 0, 1) := by decide +kernel
theorem dX5_done_23 : decode cX5_done 23 = .ok (.getfield 115, 3) := by decide +kernel
theorem dX5_done_26 : decode cX5_done 26 = .ok (.ireturn, 1) := by decide +kernel
theorem dX5_first_0 : decode cX5_first 0 = .ok (.aload_n 0, 1) := by decide +kernel
theorem dX5_first_1 : decode cX5_first 1 = .ok (.iload_n 1, 1) := by decide +kernel
theorem dX5_first_2 : decode cX5_first 2 = .ok (.invokevirtual 92, 3) := by decide +kernel
theorem dX5_first_5 : decode cX5_first 5 = .ok (.ifCond .ne 5, 3) := by decide +kernel
theorem dX5_first_8 : decode cX5_first 8 = .ok (.iconst (-1), 1) := by decide +kernel
theorem dX5_first_9 : decode cX5_first 9 = .ok (.ireturn, 1) := by decide +kernel
theorem dX5_first_10 : decode cX5_first 10 = .ok (.aload_n 0, 1) := by decide +kernel
theorem dX5_first_11 : decode cX5_first 11 = .ok (.invokevirtual 168, 3) := by decide +kernel
theorem dX5_first_14 : decode cX5_first 14 = .ok (.istore_n 2, 1) := by decide +kernel
theorem dX5_first_15 : decode cX5_first 15 = .ok (.iload_n 2, 1) := by decide +kernel
theorem dX5_first_16 : decode cX5_first 16 = .ok (.bipush (-6), 2) := by decide +kernel
theorem dX5_first_18 : decode cX5_first 18 = .ok (.if_icmp .eq 7, 3) := by decide +kernel
theorem dX5_first_21 : decode cX5_first 21 = .ok (.iload_n 2, 1) := by decide +kernel
theorem dX5_first_22 : decode cX5_first 22 = .ok (.goto 9, 3) := by decide +kernel
theorem dX5_first_25 : decode cX5_first 25 = .ok (.aload_n 0, 1) := by decide +kernel
theorem dX5_first_26 : decode cX5_first 26 = .ok (.getfield 37, 3) := by decide +kernel
theorem dX5_first_29 : decode cX5_first 29 = .ok (.iload_n 1, 1) := by decide +kernel
theorem dX5_first_30 : decode cX5_first 30 = .ok (.iaload, 1) := by decide +kernel
theorem dX5_first_31 : decode cX5_first 31 = .ok (.ireturn, 1) := by decide +kernel
theorem dX5_takes_0 : decode cX5_takes 0 = .ok (.aload_n 0, 1) := by decide +kernel
theorem dX5_takes_1 : decode cX5_takes 1 = .ok (.iload_n 1, 1) := by decide +kernel
theorem dX5_takes_2 : decode cX5_takes 2 = .ok (.invokevirtual 92, 3) := by decide +kernel
theorem dX5_takes_5 : decode cX5_takes 5 = .ok (.ifCond .ne 5, 3) := by decide +kernel
theorem dX5_takes_8 : decode cX5_takes 8 = .ok (.iconst (-1), 1) := by decide +kernel
theorem dX5_takes_9 : decode cX5_takes 9 = .ok (.ireturn, 1) := by decide +kernel
theorem dX5_takes_10 : decode cX5_takes 10 = .ok (.iload_n 2, 1) := by decide +kernel
theorem dX5_takes_11 : decode cX5_takes 11 = .ok (.i2l, 1) := by decide +kernel
theorem dX5_takes_12 : decode cX5_takes 12 = .ok (.lconst 0, 1) := by decide +kernel
theorem dX5_takes_13 : decode cX5_takes 13 = .ok (.lconst 1, 1) := by decide +kernel
theorem dX5_takes_14 : decode cX5_takes 14 = .ok (.invokestatic 86, 3) := by decide +kernel
theorem dX5_takes_17 : decode cX5_takes 17 = .ok (.ifCond .ne 6, 3) := by decide +kernel
theorem dX5_takes_20 : decode cX5_takes 20 = .ok (.bipush (-2), 2) := by decide +kernel
theorem dX5_takes_22 : decode cX5_takes 22 = .ok (.ireturn, 1) := by decide +kernel
theorem dX5_takes_23 : decode cX5_takes 23 = .ok (.aload_n 0, 1) := by decide +kernel
theorem dX5_takes_24 : decode cX5_takes 24 = .ok (.iconst 0, 1) := by decide +kernel
theorem dX5_takes_25 : decode cX5_takes 25 = .ok (.invokevirtual 131, 3) := by decide +kernel
theorem dX5_takes_28 : decode cX5_takes 28 = .ok (.iload_n 2, 1) := by decide +kernel
theorem dX5_takes_29 : decode cX5_takes 29 = .ok (.ifCond .ne 12, 3) := by decide +kernel
theorem dX5_takes_32 : decode cX5_takes 32 = .ok (.aload_n 0, 1) := by decide +kernel
theorem dX5_takes_33 : decode cX5_takes 33 = .ok (.getfield 28, 3) := by decide +kernel
theorem dX5_takes_36 : decode cX5_takes 36 = .ok (.iload_n 1, 1) := by decide +kernel
theorem dX5_takes_37 : decode cX5_takes 37 = .ok (.iaload, 1) := by decide +kernel
theorem dX5_takes_38 : decode cX5_takes 38 = .ok (.goto 9, 3) := by decide +kernel
theorem dX5_takes_41 : decode cX5_takes 41 = .ok (.aload_n 0, 1) := by decide +kernel
theorem dX5_takes_42 : decode cX5_takes 42 = .ok (.getfield 31, 3) := by decide +kernel
theorem dX5_takes_45 : decode cX5_takes 45 = .ok (.iload_n 1, 1) := by decide +kernel
theorem dX5_takes_46 : decode cX5_takes 46 = .ok (.iaload, 1) := by decide +kernel
theorem dX5_takes_47 : decode cX5_takes 47 = .ok (.ireturn, 1) := by decide +kernel
theorem dX5_takesIf_0 : decode cX5_takesIf 0 = .ok (.aload_n 0, 1) := by decide +kernel
theorem dX5_takesIf_1 : decode cX5_takesIf 1 = .ok (.iload_n 1, 1) := by decide +kernel
theorem dX5_takesIf_2 : decode cX5_takesIf 2 = .ok (.invokevirtual 92, 3) := by decide +kernel
theorem dX5_takesIf_5 : decode cX5_takesIf 5 = .ok (.ifCond .eq 11, 3) := by decide +kernel
theorem dX5_takesIf_8 : decode cX5_takesIf 8 = .ok (.aload_n 0, 1) := by decide +kernel
theorem dX5_takesIf_9 : decode cX5_takesIf 9 = .ok (.iload_n 2, 1) := by decide +kernel
theorem dX5_takesIf_10 : decode cX5_takesIf 10 = .ok (.invokevirtual 92, 3) := by decide +kernel
theorem dX5_takesIf_13 : decode cX5_takesIf 13 = .ok (.ifCond .ne 5, 3) := by decide +kernel
theorem dX5_takesIf_16 : decode cX5_takesIf 16 = .ok (.iconst (-1), 1) := by decide +kernel
theorem dX5_takesIf_17 : decode cX5_takesIf 17 = .ok (.ireturn, 1) := by decide +kernel
theorem dX5_takesIf_18 : decode cX5_takesIf 18 = .ok (.aload_n 0, 1) := by decide +kernel
theorem dX5_takesIf_19 : decode cX5_takesIf 19 = .ok (.getfield 7, 3) := by decide +kernel
theorem dX5_takesIf_22 : decode cX5_takesIf 22 = .ok (.iconst 4, 1) := by decide +kernel
theorem dX5_takesIf_23 : decode cX5_takesIf 23 = .ok (.iload_n 2, 1) := by decide +kernel
theorem dX5_takesIf_24 : decode cX5_takesIf 24 = .ok (.invokestatic 82, 3) := by decide +kernel
theorem dX5_takesIf_27 : decode cX5_takesIf 27 = .ok (.dup2, 1) := by decide +kernel
theorem dX5_takesIf_28 : decode cX5_takesIf 28 = .ok (.iaload, 1) := by decide +kernel
theorem dX5_takesIf_29 : decode cX5_takesIf 29 = .ok (.iconst 1, 1) := by decide +kernel
theorem dX5_takesIf_30 : decode cX5_takesIf 30 = .ok (.ixor, 1) := by decide +kernel
theorem dX5_takesIf_31 : decode cX5_takesIf 31 = .ok (.iastore, 1) := by decide +kernel
theorem dX5_takesIf_32 : decode cX5_takesIf 32 = .ok (.aload_n 0, 1) := by decide +kernel
theorem dX5_takesIf_33 : decode cX5_takesIf 33 = .ok (.iconst 0, 1) := by decide +kernel
theorem dX5_takesIf_34 : decode cX5_takesIf 34 = .ok (.invokevirtual 131, 3) := by decide +kernel
theorem dX5_takesIf_37 : decode cX5_takesIf 37 = .ok (.aload_n 0, 1) := by decide +kernel
theorem dX5_takesIf_38 : decode cX5_takesIf 38 = .ok (.getfield 7, 3) := by decide +kernel
theorem dX5_takesIf_41 : decode cX5_takesIf 41 = .ok (.iconst 4, 1) := by decide +kernel
theorem dX5_takesIf_42 : decode cX5_takesIf 42 = .ok (.iload_n 2, 1) := by decide +kernel
theorem dX5_takesIf_43 : decode cX5_takesIf 43 = .ok (.invokestatic 82, 3) := by decide +kernel
theorem dX5_takesIf_46 : decode cX5_takesIf 46 = .ok (.dup2, 1) := by decide +kernel
theorem dX5_takesIf_47 : decode cX5_takesIf 47 = .ok (.iaload, 1) := by decide +kernel
theorem dX5_takesIf_48 : decode cX5_takesIf 48 = .ok (.iconst 1, 1) := by decide +kernel
theorem dX5_takesIf_49 : decode cX5_takesIf 49 = .ok (.ixor, 1) := by decide +kernel
theorem dX5_takesIf_50 : decode cX5_takesIf 50 = .ok (.iastore, 1) := by decide +kernel
theorem dX5_takesIf_51 : decode cX5_takesIf 51 = .ok (.aload_n 0, 1) := by decide +kernel
theorem dX5_takesIf_52 : decode cX5_takesIf 52 = .ok (.getfield 28, 3) := by decide +kernel
theorem dX5_takesIf_55 : decode cX5_takesIf 55 = .ok (.iload_n 1, 1) := by decide +kernel
theorem dX5_takesIf_56 : decode cX5_takesIf 56 = .ok (.iaload, 1) := by decide +kernel
theorem dX5_takesIf_57 : decode cX5_takesIf 57 = .ok (.ireturn, 1) := by decide +kernel
theorem dX5_layNow_0 : decode cX5_layNow 0 = .ok (.aload_n 0, 1) := by decide +kernel
theorem dX5_layNow_1 : decode cX5_layNow 1 = .ok (.iconst 0, 1) := by decide +kernel
theorem dX5_layNow_2 : decode cX5_layNow 2 = .ok (.invokevirtual 131, 3) := by decide +kernel
theorem dX5_layNow_5 : decode cX5_layNow 5 = .ok (.iconst 0, 1) := by decide +kernel
theorem dX5_layNow_6 : decode cX5_layNow 6 = .ok (.istore_n 1, 1) := by decide +kernel
theorem dX5_layNow_7 : decode cX5_layNow 7 = .ok (.iload_n 1, 1) := by decide +kernel
theorem dX5_layNow_8 : decode cX5_layNow 8 = .ok (.aload_n 0, 1) := by decide +kernel
theorem dX5_layNow_9 : decode cX5_layNow 9 = .ok (.getfield 73, 3) := by decide +kernel
theorem dX5_layNow_12 : decode cX5_layNow 12 = .ok (.if_icmp .ge 21, 3) := by decide +kernel
theorem dX5_layNow_15 : decode cX5_layNow 15 = .ok (.aload_n 0, 1) := by decide +kernel
theorem dX5_layNow_16 : decode cX5_layNow 16 = .ok (.getfield 40, 3) := by decide +kernel
theorem dX5_layNow_19 : decode cX5_layNow 19 = .ok (.iload_n 1, 1) := by decide +kernel
theorem dX5_layNow_20 : decode cX5_layNow 20 = .ok (.aload_n 0, 1) := by decide +kernel
theorem dX5_layNow_21 : decode cX5_layNow 21 = .ok (.getfield 28, 3) := by decide +kernel
theorem dX5_layNow_24 : decode cX5_layNow 24 = .ok (.iload_n 1, 1) := by decide +kernel
theorem dX5_layNow_25 : decode cX5_layNow 25 = .ok (.iaload, 1) := by decide +kernel
theorem dX5_layNow_26 : decode cX5_layNow 26 = .ok (.iastore, 1) := by decide +kernel
theorem dX5_layNow_27 : decode cX5_layNow 27 = .ok (.iinc 1 1, 3) := by decide +kernel
theorem dX5_layNow_30 : decode cX5_layNow 30 = .ok (.goto (-23), 3) := by decide +kernel
theorem dX5_layNow_33 : decode cX5_layNow 33 = .ok (.return_, 1) := by decide +kernel
theorem dX5_robbed_0 : decode cX5_robbed 0 = .ok (.aload_n 0, 1) := by decide +kernel
theorem dX5_robbed_1 : decode cX5_robbed 1 = .ok (.iload_n 1, 1) := by decide +kernel
theorem dX5_robbed_2 : decode cX5_robbed 2 = .ok (.invokevirtual 92, 3) := by decide +kernel
theorem dX5_robbed_5 : decode cX5_robbed 5 = .ok (.ifCond .ne 5, 3) := by decide +kernel
theorem dX5_robbed_8 : decode cX5_robbed 8 = .ok (.iconst (-1), 1) := by decide +kernel
theorem dX5_robbed_9 : decode cX5_robbed 9 = .ok (.ireturn, 1) := by decide +kernel
theorem dX5_robbed_10 : decode cX5_robbed 10 = .ok (.aload_n 0, 1) := by decide +kernel
theorem dX5_robbed_11 : decode cX5_robbed 11 = .ok (.invokevirtual 173, 3) := by decide +kernel
theorem dX5_robbed_14 : decode cX5_robbed 14 = .ok (.aload_n 0, 1) := by decide +kernel
theorem dX5_robbed_15 : decode cX5_robbed 15 = .ok (.getfield 7, 3) := by decide +kernel
theorem dX5_robbed_18 : decode cX5_robbed 18 = .ok (.iconst 4, 1) := by decide +kernel
theorem dX5_robbed_19 : decode cX5_robbed 19 = .ok (.iload_n 1, 1) := by decide +kernel
theorem dX5_robbed_20 : decode cX5_robbed 20 = .ok (.invokestatic 82, 3) := by decide +kernel
theorem dX5_robbed_23 : decode cX5_robbed 23 = .ok (.iaload, 1) := by decide +kernel
theorem dX5_robbed_24 : decode cX5_robbed 24 = .ok (.istore_n 2, 1) := by decide +kernel
theorem dX5_robbed_25 : decode cX5_robbed 25 = .ok (.aload_n 0, 1) := by decide +kernel
theorem dX5_robbed_26 : decode cX5_robbed 26 = .ok (.getfield 7, 3) := by decide +kernel
theorem dX5_robbed_29 : decode cX5_robbed 29 = .ok (.iconst 4, 1) := by decide +kernel
theorem dX5_robbed_30 : decode cX5_robbed 30 = .ok (.iload_n 1, 1) := by decide +kernel
theorem dX5_robbed_31 : decode cX5_robbed 31 = .ok (.invokestatic 82, 3) := by decide +kernel
theorem dX5_robbed_34 : decode cX5_robbed 34 = .ok (.iconst 1, 1) := by decide +kernel
theorem dX5_robbed_35 : decode cX5_robbed 35 = .ok (.iastore, 1) := by decide +kernel
theorem dX5_robbed_36 : decode cX5_robbed 36 = .ok (.aload_n 0, 1) := by decide +kernel
theorem dX5_robbed_37 : decode cX5_robbed 37 = .ok (.iconst 0, 1) := by decide +kernel
theorem dX5_robbed_38 : decode cX5_robbed 38 = .ok (.invokevirtual 131, 3) := by decide +kernel
theorem dX5_robbed_41 : decode cX5_robbed 41 = .ok (.aload_n 0, 1) := by decide +kernel
theorem dX5_robbed_42 : decode cX5_robbed 42 = .ok (.getfield 7, 3) := by decide +kernel
theorem dX5_robbed_45 : decode cX5_robbed 45 = .ok (.iconst 4, 1) := by decide +kernel
theorem dX5_robbed_46 : decode cX5_robbed 46 = .ok (.iload_n 1, 1) := by decide +kernel
theorem dX5_robbed_47 : decode cX5_robbed 47 = .ok (.invokestatic 82, 3) := by decide +kernel
theorem dX5_robbed_50 : decode cX5_robbed 50 = .ok (.iload_n 2, 1) := by decide +kernel
theorem dX5_robbed_51 : decode cX5_robbed 51 = .ok (.iastore, 1) := by decide +kernel
theorem dX5_robbed_52 : decode cX5_robbed 52 = .ok (.iconst 0, 1) := by decide +kernel
theorem dX5_robbed_53 : decode cX5_robbed 53 = .ok (.istore_n 3, 1) := by decide +kernel
theorem dX5_robbed_54 : decode cX5_robbed 54 = .ok (.iconst 0, 1) := by decide +kernel
theorem dX5_robbed_55 : decode cX5_robbed 55 = .ok (.istore 4, 2) := by decide +kernel
theorem dX5_robbed_57 : decode cX5_robbed 57 = .ok (.iload 4, 2) := by decide +kernel
theorem dX5_robbed_59 : decode cX5_robbed 59 = .ok (.aload_n 0, 1) := by decide +kernel
theorem dX5_robbed_60 : decode cX5_robbed 60 = .ok (.getfield 73, 3) := by decide +kernel
theorem dX5_robbed_63 : decode cX5_robbed 63 = .ok (.if_icmp .ge 37, 3) := by decide +kernel
theorem dX5_robbed_66 : decode cX5_robbed 66 = .ok (.iload_n 3, 1) := by decide +kernel
theorem dX5_robbed_67 : decode cX5_robbed 67 = .ok (.aload_n 0, 1) := by decide +kernel
theorem dX5_robbed_68 : decode cX5_robbed 68 = .ok (.getfield 28, 3) := by decide +kernel
theorem dX5_robbed_71 : decode cX5_robbed 71 = .ok (.iload 4, 2) := by decide +kernel
theorem dX5_robbed_73 : decode cX5_robbed 73 = .ok (.iaload, 1) := by decide +kernel
theorem dX5_robbed_74 : decode cX5_robbed 74 = .ok (.aload_n 0, 1) := by decide +kernel
theorem dX5_robbed_75 : decode cX5_robbed 75 = .ok (.getfield 40, 3) := by decide +kernel
theorem dX5_robbed_78 : decode cX5_robbed 78 = .ok (.iload 4, 2) := by decide +kernel
theorem dX5_robbed_80 : decode cX5_robbed 80 = .ok (.iaload, 1) := by decide +kernel
theorem dX5_robbed_81 : decode cX5_robbed 81 = .ok (.if_icmp .le 10, 3) := by decide +kernel
theorem dX5_robbed_84 : decode cX5_robbed 84 = .ok (.iconst 1, 1) := by decide +kernel
theorem dX5_robbed_85 : decode cX5_robbed 85 = .ok (.iload 4, 2) := by decide +kernel
theorem dX5_robbed_87 : decode cX5_robbed 87 = .ok (.ishl, 1) := by decide +kernel
theorem dX5_robbed_88 : decode cX5_robbed 88 = .ok (.goto 4, 3) := by decide +kernel
theorem dX5_robbed_91 : decode cX5_robbed 91 = .ok (.iconst 0, 1) := by decide +kernel
theorem dX5_robbed_92 : decode cX5_robbed 92 = .ok (.ior, 1) := by decide +kernel
theorem dX5_robbed_93 : decode cX5_robbed 93 = .ok (.istore_n 3, 1) := by decide +kernel
theorem dX5_robbed_94 : decode cX5_robbed 94 = .ok (.iinc 4 1, 3) := by decide +kernel
theorem dX5_robbed_97 : decode cX5_robbed 97 = .ok (.goto (-40), 3) := by decide +kernel
theorem dX5_robbed_100 : decode cX5_robbed 100 = .ok (.iload_n 3, 1) := by decide +kernel
theorem dX5_robbed_101 : decode cX5_robbed 101 = .ok (.ireturn, 1) := by decide +kernel
theorem dX5_wanting_0 : decode cX5_wanting 0 = .ok (.aload_n 0, 1) := by decide +kernel
theorem dX5_wanting_1 : decode cX5_wanting 1 = .ok (.getfield 7, 3) := by decide +kernel
theorem dX5_wanting_4 : decode cX5_wanting 4 = .ok (.iconst 2, 1) := by decide +kernel
theorem dX5_wanting_5 : decode cX5_wanting 5 = .ok (.iload_n 1, 1) := by decide +kernel
theorem dX5_wanting_6 : decode cX5_wanting 6 = .ok (.invokestatic 82, 3) := by decide +kernel
theorem dX5_wanting_9 : decode cX5_wanting 9 = .ok (.iaload, 1) := by decide +kernel
theorem dX5_wanting_10 : decode cX5_wanting 10 = .ok (.aload_n 0, 1) := by decide +kernel
theorem dX5_wanting_11 : decode cX5_wanting 11 = .ok (.getfield 7, 3) := by decide +kernel
theorem dX5_wanting_14 : decode cX5_wanting 14 = .ok (.bipush 6, 2) := by decide +kernel
theorem dX5_wanting_16 : decode cX5_wanting 16 = .ok (.iload_n 1, 1) := by decide +kernel
theorem dX5_wanting_17 : decode cX5_wanting 17 = .ok (.invokestatic 82, 3) := by decide +kernel
theorem dX5_wanting_20 : decode cX5_wanting 20 = .ok (.iaload, 1) := by decide +kernel
theorem dX5_wanting_21 : decode cX5_wanting 21 = .ok (.isub, 1) := by decide +kernel
theorem dX5_wanting_22 : decode cX5_wanting 22 = .ok (.istore_n 2, 1) := by decide +kernel
theorem dX5_wanting_23 : decode cX5_wanting 23 = .ok (.iload_n 2, 1) := by decide +kernel
theorem dX5_wanting_24 : decode cX5_wanting 24 = .ok (.ifCond .le 7, 3) := by decide +kernel
theorem dX5_wanting_27 : decode cX5_wanting 27 = .ok (.iload_n 2, 1) := by decide +kernel
theorem dX5_wanting_28 : decode cX5_wanting 28 = .ok (.goto 4, 3) := by decide +kernel
theorem dX5_wanting_31 : decode cX5_wanting 31 = .ok (.iconst 0, 1) := by decide +kernel
theorem dX5_wanting_32 : decode cX5_wanting 32 = .ok (.ireturn, 1) := by decide +kernel
theorem dX5_hoursNow_0 : decode cX5_hoursNow 0 = .ok (.aload_n 0, 1) := by decide +kernel
theorem dX5_hoursNow_1 : decode cX5_hoursNow 1 = .ok (.iconst 0, 1) := by decide +kernel
theorem dX5_hoursNow_2 : decode cX5_hoursNow 2 = .ok (.invokevirtual 131, 3) := by decide +kernel
theorem dX5_hoursNow_5 : decode cX5_hoursNow 5 = .ok (.iconst 0, 1) := by decide +kernel
theorem dX5_hoursNow_6 : decode cX5_hoursNow 6 = .ok (.istore_n 1, 1) := by decide +kernel
theorem dX5_hoursNow_7 : decode cX5_hoursNow 7 = .ok (.iconst 0, 1) := by decide +kernel
theorem dX5_hoursNow_8 : decode cX5_hoursNow 8 = .ok (.istore_n 2, 1) := by decide +kernel
theorem dX5_hoursNow_9 : decode cX5_hoursNow 9 = .ok (.iload_n 2, 1) := by decide +kernel
theorem dX5_hoursNow_10 : decode cX5_hoursNow 10 = .ok (.aload_n 0, 1) := by decide +kernel
theorem dX5_hoursNow_11 : decode cX5_hoursNow 11 = .ok (.getfield 73, 3) := by decide +kernel
theorem dX5_hoursNow_14 : decode cX5_hoursNow 14 = .ok (.if_icmp .ge 71, 3) := by decide +kernel
theorem dX5_hoursNow_17 : decode cX5_hoursNow 17 = .ok (.aload_n 0, 1) := by decide +kernel
theorem dX5_hoursNow_18 : decode cX5_hoursNow 18 = .ok (.iload_n 2, 1) := by decide +kernel
theorem dX5_hoursNow_19 : decode cX5_hoursNow 19 = .ok (.invokevirtual 176, 3) := by decide +kernel
theorem dX5_hoursNow_22 : decode cX5_hoursNow 22 = .ok (.istore_n 3, 1) := by decide +kernel
theorem dX5_hoursNow_23 : decode cX5_hoursNow 23 = .ok (.iload_n 3, 1) := by decide +kernel
theorem dX5_hoursNow_24 : decode cX5_hoursNow 24 = .ok (.ifCond .le 15, 3) := by decide +kernel
theorem dX5_hoursNow_27 : decode cX5_hoursNow 27 = .ok (.aload_n 0, 1) := by decide +kernel
theorem dX5_hoursNow_28 : decode cX5_hoursNow 28 = .ok (.getfield 28, 3) := by decide +kernel
theorem dX5_hoursNow_31 : decode cX5_hoursNow 31 = .ok (.iload_n 2, 1) := by decide +kernel
theorem dX5_hoursNow_32 : decode cX5_hoursNow 32 = .ok (.iaload, 1) := by decide +kernel
theorem dX5_hoursNow_33 : decode cX5_hoursNow 33 = .ok (.ifCond .ne 6, 3) := by decide +kernel
theorem dX5_hoursNow_36 : decode cX5_hoursNow 36 = .ok (.bipush (-6), 2) := by decide +kernel
theorem dX5_hoursNow_38 : decode cX5_hoursNow 38 = .ok (.ireturn, 1) := by decide +kernel
theorem dX5_hoursNow_39 : decode cX5_hoursNow 39 = .ok (.iload_n 3, 1) := by decide +kernel
theorem dX5_hoursNow_40 : decode cX5_hoursNow 40 = .ok (.ifCond .ne 7, 3) := by decide +kernel
theorem dX5_hoursNow_43 : decode cX5_hoursNow 43 = .ok (.iconst 0, 1) := by decide +kernel
theorem dX5_hoursNow_44 : decode cX5_hoursNow 44 = .ok (.goto 20, 3) := by decide +kernel
theorem dX5_hoursNow_47 : decode cX5_hoursNow 47 = .ok (.iload_n 3, 1) := by decide +kernel
theorem dX5_hoursNow_48 : decode cX5_hoursNow 48 = .ok (.aload_n 0, 1) := by decide +kernel
theorem dX5_hoursNow_49 : decode cX5_hoursNow 49 = .ok (.getfield 28, 3) := by decide +kernel
theorem dX5_hoursNow_52 : decode cX5_hoursNow 52 = .ok (.iload_n 2, 1) := by decide +kernel
theorem dX5_hoursNow_53 : decode cX5_hoursNow 53 = .ok (.iaload, 1) := by decide +kernel
theorem dX5_hoursNow_54 : decode cX5_hoursNow 54 = .ok (.iadd, 1) := by decide +kernel
theorem dX5_hoursNow_55 : decode cX5_hoursNow 55 = .ok (.iconst 1, 1) := by decide +kernel
theorem dX5_hoursNow_56 : decode cX5_hoursNow 56 = .ok (.isub, 1) := by decide +kernel
theorem dX5_hoursNow_57 : decode cX5_hoursNow 57 = .ok (.aload_n 0, 1) := by decide +kernel
theorem dX5_hoursNow_58 : decode cX5_hoursNow 58 = .ok (.getfield 28, 3) := by decide +kernel
theorem dX5_hoursNow_61 : decode cX5_hoursNow 61 = .ok (.iload_n 2, 1) := by decide +kernel
theorem dX5_hoursNow_62 : decode cX5_hoursNow 62 = .ok (.iaload, 1) := by decide +kernel
theorem dX5_hoursNow_63 : decode cX5_hoursNow 63 = .ok (.idiv, 1) := by decide +kernel
theorem dX5_hoursNow_64 : decode cX5_hoursNow 64 = .ok (.istore 4, 2) := by decide +kernel
theorem dX5_hoursNow_66 : decode cX5_hoursNow 66 = .ok (.iload 4, 2) := by decide +kernel
theorem dX5_hoursNow_68 : decode cX5_hoursNow 68 = .ok (.iload_n 1, 1) := by decide +kernel
theorem dX5_hoursNow_69 : decode cX5_hoursNow 69 = .ok (.if_icmp .le 8, 3) := by decide +kernel
theorem dX5_hoursNow_72 : decode cX5_hoursNow 72 = .ok (.iload 4, 2) := by decide +kernel
theorem dX5_hoursNow_74 : decode cX5_hoursNow 74 = .ok (.goto 4, 3) := by decide +kernel
theorem dX5_hoursNow_77 : decode cX5_hoursNow 77 = .ok (.iload_n 1, 1) := by decide +kernel
theorem dX5_hoursNow_78 : decode cX5_hoursNow 78 = .ok (.istore_n 1, 1) := by decide +kernel
theorem dX5_hoursNow_79 : decode cX5_hoursNow 79 = .ok (.iinc 2 1, 3) := by decide +kernel
theorem dX5_hoursNow_82 : decode cX5_hoursNow 82 = .ok (.goto (-73), 3) := by decide +kernel
theorem dX5_hoursNow_85 : decode cX5_hoursNow 85 = .ok (.iload_n 1, 1) := by decide +kernel
theorem dX5_hoursNow_86 : decode cX5_hoursNow 86 = .ok (.ireturn, 1) := by decide +kernel
theorem dX5_isEnoughIn_0 : decode cX5_isEnoughIn 0 = .ok (.aload_n 0, 1) := by decide +kernel
theorem dX5_isEnoughIn_1 : decode cX5_isEnoughIn 1 = .ok (.invokevirtual 179, 3) := by decide +kernel
theorem dX5_isEnoughIn_4 : decode cX5_isEnoughIn 4 = .ok (.istore_n 2, 1) := by decide +kernel
theorem dX5_isEnoughIn_5 : decode cX5_isEnoughIn 5 = .ok (.iload_n 2, 1) := by decide +kernel
theorem dX5_isEnoughIn_6 : decode cX5_isEnoughIn 6 = .ok (.ifCond .lt 12, 3) := by decide +kernel
theorem dX5_isEnoughIn_9 : decode cX5_isEnoughIn 9 = .ok (.iload_n 2, 1) := by decide +kernel
theorem dX5_isEnoughIn_10 : decode cX5_isEnoughIn 10 = .ok (.iload_n 1, 1) := by decide +kernel
theorem dX5_isEnoughIn_11 : decode cX5_isEnoughIn 11 = .ok (.if_icmp .gt 7, 3) := by decide +kernel
theorem dX5_isEnoughIn_14 : decode cX5_isEnoughIn 14 = .ok (.iconst 1, 1) := by decide +kernel
theorem dX5_isEnoughIn_15 : decode cX5_isEnoughIn 15 = .ok (.goto 4, 3) := by decide +kernel
theorem dX5_isEnoughIn_18 : decode cX5_isEnoughIn 18 = .ok (.iconst 0, 1) := by decide +kernel
theorem dX5_isEnoughIn_19 : decode cX5_isEnoughIn 19 = .ok (.ireturn, 1) := by decide +kernel
theorem dX5_hours_0 : decode cX5_hours 0 = .ok (.aload_n 0, 1) := by decide +kernel
theorem dX5_hours_1 : decode cX5_hours 1 = .ok (.invokevirtual 179, 3) := by decide +kernel
theorem dX5_hours_4 : decode cX5_hours 4 = .ok (.ireturn, 1) := by decide +kernel
theorem dX5_isTerm_0 : decode cX5_isTerm 0 = .ok (.iload_n 0, 1) := by decide +kernel
theorem dX5_isTerm_1 : decode cX5_isTerm 1 = .ok (.i2l, 1) := by decide +kernel
theorem dX5_isTerm_2 : decode cX5_isTerm 2 = .ok (.lconst 1, 1) := by decide +kernel
theorem dX5_isTerm_3 : decode cX5_isTerm 3 = .ok (.ldc2_w 182, 3) := by decide +kernel
theorem dX5_isTerm_6 : decode cX5_isTerm 6 = .ok (.invokestatic 86, 3) := by decide +kernel
theorem dX5_isTerm_9 : decode cX5_isTerm 9 = .ok (.ireturn, 1) := by decide +kernel
theorem dX5_spring_0 : decode cX5_spring 0 = .ok (.iload_n 1, 1) := by decide +kernel
theorem dX5_spring_1 : decode cX5_spring 1 = .ok (.invokestatic 184, 3) := by decide +kernel
theorem dX5_spring_4 : decode cX5_spring 4 = .ok (.ifCond .ne 6, 3) := by decide +kernel
theorem dX5_spring_7 : decode cX5_spring 7 = .ok (.bipush (-2), 2) := by decide +kernel
theorem dX5_spring_9 : decode cX5_spring 9 = .ok (.ireturn, 1) := by decide +kernel
theorem dX5_spring_10 : decode cX5_spring 10 = .ok (.aload_n 0, 1) := by decide +kernel
theorem dX5_spring_11 : decode cX5_spring 11 = .ok (.getfield 66, 3) := by decide +kernel
theorem dX5_spring_14 : decode cX5_spring 14 = .ok (.istore_n 2, 1) := by decide +kernel
theorem dX5_spring_15 : decode cX5_spring 15 = .ok (.bipush (-6), 2) := by decide +kernel
theorem dX5_spring_17 : decode cX5_spring 17 = .ok (.istore_n 3, 1) := by decide +kernel
theorem dX5_spring_18 : decode cX5_spring 18 = .ok (.bipush 99, 2) := by decide +kernel
theorem dX5_spring_20 : decode cX5_spring 20 = .ok (.istore 4, 2) := by decide +kernel
theorem dX5_spring_22 : decode cX5_spring 22 = .ok (.iload 4, 2) := by decide +kernel
theorem dX5_spring_24 : decode cX5_spring 24 = .ok (.ifCond .lt 30, 3) := by decide +kernel
theorem dX5_spring_27 : decode cX5_spring 27 = .ok (.aload_n 0, 1) := by decide +kernel
theorem dX5_spring_28 : decode cX5_spring 28 = .ok (.iload 4, 2) := by decide +kernel
theorem dX5_spring_30 : decode cX5_spring 30 = .ok (.putfield 66, 3) := by decide +kernel
theorem dX5_spring_33 : decode cX5_spring 33 = .ok (.aload_n 0, 1) := by decide +kernel
theorem dX5_spring_34 : decode cX5_spring 34 = .ok (.iload_n 1, 1) := by decide +kernel
theorem dX5_spring_35 : decode cX5_spring 35 = .ok (.invokevirtual 187, 3) := by decide +kernel
theorem dX5_spring_38 : decode cX5_spring 38 = .ok (.ifCond .eq 8, 3) := by decide +kernel
theorem dX5_spring_41 : decode cX5_spring 41 = .ok (.iload 4, 2) := by decide +kernel
theorem dX5_spring_43 : decode cX5_spring 43 = .ok (.goto 4, 3) := by decide +kernel
theorem dX5_spring_46 : decode cX5_spring 46 = .ok (.iload_n 3, 1) := by decide +kernel
theorem dX5_spring_47 : decode cX5_spring 47 = .ok (.istore_n 3, 1) := by decide +kernel
theorem dX5_spring_48 : decode cX5_spring 48 = .ok (.iinc 4 (-1), 3) := by decide +kernel
theorem dX5_spring_51 : decode cX5_spring 51 = .ok (.goto (-29), 3) := by decide +kernel
theorem dX5_spring_54 : decode cX5_spring 54 = .ok (.aload_n 0, 1) := by decide +kernel
theorem dX5_spring_55 : decode cX5_spring 55 = .ok (.iload_n 2, 1) := by decide +kernel
theorem dX5_spring_56 : decode cX5_spring 56 = .ok (.putfield 66, 3) := by decide +kernel
theorem dX5_spring_59 : decode cX5_spring 59 = .ok (.iload_n 3, 1) := by decide +kernel
theorem dX5_spring_60 : decode cX5_spring 60 = .ok (.ireturn, 1) := by decide +kernel
theorem dX5_narrow_0 : decode cX5_narrow 0 = .ok (.iload_n 2, 1) := by decide +kernel
theorem dX5_narrow_1 : decode cX5_narrow 1 = .ok (.iconst (-1), 1) := by decide +kernel
theorem dX5_narrow_2 : decode cX5_narrow 2 = .ok (.if_icmp .eq 13, 3) := by decide +kernel
theorem dX5_narrow_5 : decode cX5_narrow 5 = .ok (.aload_n 0, 1) := by decide +kernel
theorem dX5_narrow_6 : decode cX5_narrow 6 = .ok (.iload_n 2, 1) := by decide +kernel
theorem dX5_narrow_7 : decode cX5_narrow 7 = .ok (.invokevirtual 92, 3) := by decide +kernel
theorem dX5_narrow_10 : decode cX5_narrow 10 = .ok (.ifCond .ne 5, 3) := by decide +kernel
theorem dX5_narrow_13 : decode cX5_narrow 13 = .ok (.iconst (-1), 1) := by decide +kernel
theorem dX5_narrow_14 : decode cX5_narrow 14 = .ok (.ireturn, 1) := by decide +kernel
theorem dX5_narrow_15 : decode cX5_narrow 15 = .ok (.iload_n 1, 1) := by decide +kernel
theorem dX5_narrow_16 : decode cX5_narrow 16 = .ok (.invokestatic 184, 3) := by decide +kernel
theorem dX5_narrow_19 : decode cX5_narrow 19 = .ok (.ifCond .ne 6, 3) := by decide +kernel
theorem dX5_narrow_22 : decode cX5_narrow 22 = .ok (.bipush (-2), 2) := by decide +kernel
theorem dX5_narrow_24 : decode cX5_narrow 24 = .ok (.ireturn, 1) := by decide +kernel
theorem dX5_narrow_25 : decode cX5_narrow 25 = .ok (.aload_n 0, 1) := by decide +kernel
theorem dX5_narrow_26 : decode cX5_narrow 26 = .ok (.getfield 66, 3) := by decide +kernel
theorem dX5_narrow_29 : decode cX5_narrow 29 = .ok (.istore_n 3, 1) := by decide +kernel
theorem dX5_narrow_30 : decode cX5_narrow 30 = .ok (.iconst 0, 1) := by decide +kernel
theorem dX5_narrow_31 : decode cX5_narrow 31 = .ok (.istore 4, 2) := by decide +kernel
theorem dX5_narrow_33 : decode cX5_narrow 33 = .ok (.iconst 0, 1) := by decide +kernel
theorem dX5_narrow_34 : decode cX5_narrow 34 = .ok (.istore 5, 2) := by decide +kernel
theorem dX5_narrow_36 : decode cX5_narrow 36 = .ok (.iload 5, 2) := by decide +kernel
theorem dX5_narrow_38 : decode cX5_narrow 38 = .ok (.aload_n 0, 1) := by decide +kernel
theorem dX5_narrow_39 : decode cX5_narrow 39 = .ok (.getfield 73, 3) := by decide +kernel
theorem dX5_narrow_42 : decode cX5_narrow 42 = .ok (.if_icmp .ge 136, 3) := by decide +kernel
theorem dX5_narrow_45 : decode cX5_narrow 45 = .ok (.iload_n 3, 1) := by decide +kernel
theorem dX5_narrow_46 : decode cX5_narrow 46 = .ok (.iload_n 3, 1) := by decide +kernel
theorem dX5_narrow_47 : decode cX5_narrow 47 = .ok (.aload_n 0, 1) := by decide +kernel
theorem dX5_narrow_48 : decode cX5_narrow 48 = .ok (.getfield 7, 3) := by decide +kernel
theorem dX5_narrow_51 : decode cX5_narrow 51 = .ok (.iconst 5, 1) := by decide +kernel
theorem dX5_narrow_52 : decode cX5_narrow 52 = .ok (.iload 5, 2) := by decide +kernel
theorem dX5_narrow_54 : decode cX5_narrow 54 = .ok (.invokestatic 82, 3) := by decide +kernel
theorem dX5_narrow_57 : decode cX5_narrow 57 = .ok (.iaload, 1) := by decide +kernel
theorem dX5_narrow_58 : decode cX5_narrow 58 = .ok (.if_icmp .ge 7, 3) := by decide +kernel
theorem dX5_narrow_61 : decode cX5_narrow 61 = .ok (.iload_n 3, 1) := by decide +kernel
theorem dX5_narrow_62 : decode cX5_narrow 62 = .ok (.goto 14, 3) := by decide +kernel
theorem dX5_narrow_65 : decode cX5_narrow 65 = .ok (.aload_n 0, 1) := by decide +kernel
theorem dX5_narrow_66 : decode cX5_narrow 66 = .ok (.getfield 7, 3) := by decide +kernel
theorem dX5_narrow_69 : decode cX5_narrow 69 = .ok (.iconst 5, 1) := by decide +kernel
theorem dX5_narrow_70 : decode cX5_narrow 70 = .ok (.iload 5, 2) := by decide +kernel
theorem dX5_narrow_72 : decode cX5_narrow 72 = .ok (.invokestatic 82, 3) := by decide +kernel
theorem dX5_narrow_75 : decode cX5_narrow 75 = .ok (.iaload, 1) := by decide +kernel
theorem dX5_narrow_76 : decode cX5_narrow 76 = .ok (.isub, 1) := by decide +kernel
theorem dX5_narrow_77 : decode cX5_narrow 77 = .ok (.istore_n 3, 1) := by decide +kernel
theorem dX5_narrow_78 : decode cX5_narrow 78 = .ok (.aload_n 0, 1) := by decide +kernel
theorem dX5_narrow_79 : decode cX5_narrow 79 = .ok (.iload 5, 2) := by decide +kernel
theorem dX5_narrow_81 : decode cX5_narrow 81 = .ok (.invokevirtual 176, 3) := by decide +kernel
theorem dX5_narrow_84 : decode cX5_narrow 84 = .ok (.iload_n 1, 1) := by decide +kernel
theorem dX5_narrow_85 : decode cX5_narrow 85 = .ok (.iadd, 1) := by decide +kernel
theorem dX5_narrow_86 : decode cX5_narrow 86 = .ok (.iconst 1, 1) := by decide +kernel
theorem dX5_narrow_87 : decode cX5_narrow 87 = .ok (.isub, 1) := by decide +kernel
theorem dX5_narrow_88 : decode cX5_narrow 88 = .ok (.iload_n 1, 1) := by decide +kernel
theorem dX5_narrow_89 : decode cX5_narrow 89 = .ok (.idiv, 1) := by decide +kernel
theorem dX5_narrow_90 : decode cX5_narrow 90 = .ok (.istore 6, 2) := by decide +kernel
theorem dX5_narrow_92 : decode cX5_narrow 92 = .ok (.iload 6, 2) := by decide +kernel
theorem dX5_narrow_94 : decode cX5_narrow 94 = .ok (.bipush 9, 2) := by decide +kernel
theorem dX5_narrow_96 : decode cX5_narrow 96 = .ok (.if_icmp .gt 39, 3) := by decide +kernel
theorem dX5_narrow_99 : decode cX5_narrow 99 = .ok (.aload_n 0, 1) := by decide +kernel
theorem dX5_narrow_100 : decode cX5_narrow 100 = .ok (.getfield 7, 3) := by decide +kernel
theorem dX5_narrow_103 : decode cX5_narrow 103 = .ok (.iconst 4, 1) := by decide +kernel
theorem dX5_narrow_104 : decode cX5_narrow 104 = .ok (.iload 5, 2) := by decide +kernel
theorem dX5_narrow_106 : decode cX5_narrow 106 = .ok (.invokestatic 82, 3) := by decide +kernel
theorem dX5_narrow_109 : decode cX5_narrow 109 = .ok (.iaload, 1) := by decide +kernel
theorem dX5_narrow_110 : decode cX5_narrow 110 = .ok (.ifCond .ne 25, 3) := by decide +kernel
theorem dX5_narrow_113 : decode cX5_narrow 113 = .ok (.iload_n 3, 1) := by decide +kernel
theorem dX5_narrow_114 : decode cX5_narrow 114 = .ok (.aload_n 0, 1) := by decide +kernel
theorem dX5_narrow_115 : decode cX5_narrow 115 = .ok (.getfield 7, 3) := by decide +kernel
theorem dX5_narrow_118 : decode cX5_narrow 118 = .ok (.iconst 0, 1) := by decide +kernel
theorem dX5_narrow_119 : decode cX5_narrow 119 = .ok (.iload 5, 2) := by decide +kernel
theorem dX5_narrow_121 : decode cX5_narrow 121 = .ok (.invokestatic 82, 3) := by decide +kernel
theorem dX5_narrow_124 : decode cX5_narrow 124 = .ok (.iaload, 1) := by decide +kernel
theorem dX5_narrow_125 : decode cX5_narrow 125 = .ok (.isub, 1) := by decide +kernel
theorem dX5_narrow_126 : decode cX5_narrow 126 = .ok (.iload 6, 2) := by decide +kernel
theorem dX5_narrow_128 : decode cX5_narrow 128 = .ok (.if_icmp .lt 7, 3) := by decide +kernel
theorem dX5_narrow_131 : decode cX5_narrow 131 = .ok (.iconst 1, 1) := by decide +kernel
theorem dX5_narrow_132 : decode cX5_narrow 132 = .ok (.goto 4, 3) := by decide +kernel
theorem dX5_narrow_135 : decode cX5_narrow 135 = .ok (.iconst 0, 1) := by decide +kernel
theorem dX5_narrow_136 : decode cX5_narrow 136 = .ok (.istore 7, 2) := by decide +kernel
theorem dX5_narrow_138 : decode cX5_narrow 138 = .ok (.iload 6, 2) := by decide +kernel
theorem dX5_narrow_140 : decode cX5_narrow 140 = .ok (.ifCond .le 11, 3) := by decide +kernel
theorem dX5_narrow_143 : decode cX5_narrow 143 = .ok (.iload 7, 2) := by decide +kernel
theorem dX5_narrow_145 : decode cX5_narrow 145 = .ok (.ifCond .ne 6, 3) := by decide +kernel
theorem dX5_narrow_148 : decode cX5_narrow 148 = .ok (.bipush (-6), 2) := by decide +kernel
theorem dX5_narrow_150 : decode cX5_narrow 150 = .ok (.ireturn, 1) := by decide +kernel
theorem dX5_narrow_151 : decode cX5_narrow 151 = .ok (.aload_n 0, 1) := by decide +kernel
theorem dX5_narrow_152 : decode cX5_narrow 152 = .ok (.getfield 43, 3) := by decide +kernel
theorem dX5_narrow_155 : decode cX5_narrow 155 = .ok (.iload 5, 2) := by decide +kernel
theorem dX5_narrow_157 : decode cX5_narrow 157 = .ok (.iload 6, 2) := by decide +kernel
theorem dX5_narrow_159 : decode cX5_narrow 159 = .ok (.iastore, 1) := by decide +kernel
theorem dX5_narrow_160 : decode cX5_narrow 160 = .ok (.iload_n 3, 1) := by decide +kernel
theorem dX5_narrow_161 : decode cX5_narrow 161 = .ok (.iload 6, 2) := by decide +kernel
theorem dX5_narrow_163 : decode cX5_narrow 163 = .ok (.isub, 1) := by decide +kernel
theorem dX5_narrow_164 : decode cX5_narrow 164 = .ok (.istore_n 3, 1) := by decide +kernel
theorem dX5_narrow_165 : decode cX5_narrow 165 = .ok (.iload 4, 2) := by decide +kernel
theorem dX5_narrow_167 : decode cX5_narrow 167 = .ok (.iload 6, 2) := by decide +kernel
theorem dX5_narrow_169 : decode cX5_narrow 169 = .ok (.iadd, 1) := by decide +kernel
theorem dX5_narrow_170 : decode cX5_narrow 170 = .ok (.istore 4, 2) := by decide +kernel
theorem dX5_narrow_172 : decode cX5_narrow 172 = .ok (.iinc 5 1, 3) := by decide +kernel
theorem dX5_narrow_175 : decode cX5_narrow 175 = .ok (.goto (-139), 3) := by decide +kernel
theorem dX5_narrow_178 : decode cX5_narrow 178 = .ok (.iload_n 2, 1) := by decide +kernel
theorem dX5_narrow_179 : decode cX5_narrow 179 = .ok (.iconst (-1), 1) := by decide +kernel
theorem dX5_narrow_180 : decode cX5_narrow 180 = .ok (.if_icmp .ne 8, 3) := by decide +kernel
theorem dX5_narrow_183 : decode cX5_narrow 183 = .ok (.iload 4, 2) := by decide +kernel
theorem dX5_narrow_185 : decode cX5_narrow 185 = .ok (.goto 9, 3) := by decide +kernel
theorem dX5_narrow_188 : decode cX5_narrow 188 = .ok (.aload_n 0, 1) := by decide +kernel
theorem dX5_narrow_189 : decode cX5_narrow 189 = .ok (.getfield 43, 3) := by decide +kernel
theorem dX5_narrow_192 : decode cX5_narrow 192 = .ok (.iload_n 2, 1) := by decide +kernel
theorem dX5_narrow_193 : decode cX5_narrow 193 = .ok (.iaload, 1) := by decide +kernel
theorem dX5_narrow_194 : decode cX5_narrow 194 = .ok (.ireturn, 1) := by decide +kernel
theorem dX5_highest_0 : decode cX5_highest 0 = .ok (.aload_n 0, 1) := by decide +kernel
theorem dX5_highest_1 : decode cX5_highest 1 = .ok (.iload_n 1, 1) := by decide +kernel
theorem dX5_highest_2 : decode cX5_highest 2 = .ok (.invokevirtual 92, 3) := by decide +kernel
theorem dX5_highest_5 : decode cX5_highest 5 = .ok (.ifCond .ne 5, 3) := by decide +kernel
theorem dX5_highest_8 : decode cX5_highest 8 = .ok (.iconst (-1), 1) := by decide +kernel
theorem dX5_highest_9 : decode cX5_highest 9 = .ok (.ireturn, 1) := by decide +kernel
theorem dX5_highest_10 : decode cX5_highest 10 = .ok (.iload_n 2, 1) := by decide +kernel
theorem dX5_highest_11 : decode cX5_highest 11 = .ok (.invokestatic 184, 3) := by decide +kernel
theorem dX5_highest_14 : decode cX5_highest 14 = .ok (.ifCond .ne 6, 3) := by decide +kernel
theorem dX5_highest_17 : decode cX5_highest 17 = .ok (.bipush (-2), 2) := by decide +kernel
theorem dX5_highest_19 : decode cX5_highest 19 = .ok (.ireturn, 1) := by decide +kernel
theorem dX5_highest_20 : decode cX5_highest 20 = .ok (.aload_n 0, 1) := by decide +kernel
theorem dX5_highest_21 : decode cX5_highest 21 = .ok (.getfield 7, 3) := by decide +kernel
theorem dX5_highest_24 : decode cX5_highest 24 = .ok (.iconst 0, 1) := by decide +kernel
theorem dX5_highest_25 : decode cX5_highest 25 = .ok (.iload_n 1, 1) := by decide +kernel
theorem dX5_highest_26 : decode cX5_highest 26 = .ok (.invokestatic 82, 3) := by decide +kernel
theorem dX5_highest_29 : decode cX5_highest 29 = .ok (.iaload, 1) := by decide +kernel
theorem dX5_highest_30 : decode cX5_highest 30 = .ok (.istore_n 3, 1) := by decide +kernel
theorem dX5_highest_31 : decode cX5_highest 31 = .ok (.bipush (-6), 2) := by decide +kernel
theorem dX5_highest_33 : decode cX5_highest 33 = .ok (.istore 4, 2) := by decide +kernel
theorem dX5_highest_35 : decode cX5_highest 35 = .ok (.iconst 0, 1) := by decide +kernel
theorem dX5_highest_36 : decode cX5_highest 36 = .ok (.istore 5, 2) := by decide +kernel
theorem dX5_highest_38 : decode cX5_highest 38 = .ok (.iload 5, 2) := by decide +kernel
theorem dX5_highest_40 : decode cX5_highest 40 = .ok (.bipush 50, 2) := by decide +kernel
theorem dX5_highest_42 : decode cX5_highest 42 = .ok (.if_icmp .gt 38, 3) := by decide +kernel
theorem dX5_highest_45 : decode cX5_highest 45 = .ok (.aload_n 0, 1) := by decide +kernel
theorem dX5_highest_46 : decode cX5_highest 46 = .ok (.getfield 7, 3) := by decide +kernel
theorem dX5_highest_49 : decode cX5_highest 49 = .ok (.iconst 0, 1) := by decide +kernel
theorem dX5_highest_50 : decode cX5_highest 50 = .ok (.iload_n 1, 1) := by decide +kernel
theorem dX5_highest_51 : decode cX5_highest 51 = .ok (.invokestatic 82, 3) := by decide +kernel
theorem dX5_highest_54 : decode cX5_highest 54 = .ok (.iload 5, 2) := by decide +kernel
theorem dX5_highest_56 : decode cX5_highest 56 = .ok (.iastore, 1) := by decide +kernel
theorem dX5_highest_57 : decode cX5_highest 57 = .ok (.aload_n 0, 1) := by decide +kernel
theorem dX5_highest_58 : decode cX5_highest 58 = .ok (.iload_n 2, 1) := by decide +kernel
theorem dX5_highest_59 : decode cX5_highest 59 = .ok (.invokevirtual 187, 3) := by decide +kernel
theorem dX5_highest_62 : decode cX5_highest 62 = .ok (.ifCond .eq 8, 3) := by decide +kernel
theorem dX5_highest_65 : decode cX5_highest 65 = .ok (.iload 5, 2) := by decide +kernel
theorem dX5_highest_67 : decode cX5_highest 67 = .ok (.goto 5, 3) := by decide +kernel
theorem dX5_highest_70 : decode cX5_highest 70 = .ok (.iload 4, 2) := by decide +kernel
theorem dX5_highest_72 : decode cX5_highest 72 = .ok (.istore 4, 2) := by decide +kernel
theorem dX5_highest_74 : decode cX5_highest 74 = .ok (.iinc 5 1, 3) := by decide +kernel
theorem dX5_highest_77 : decode cX5_highest 77 = .ok (.goto (-39), 3) := by decide +kernel
theorem dX5_highest_80 : decode cX5_highest 80 = .ok (.aload_n 0, 1) := by decide +kernel
theorem dX5_highest_81 : decode cX5_highest 81 = .ok (.getfield 7, 3) := by decide +kernel
theorem dX5_highest_84 : decode cX5_highest 84 = .ok (.iconst 0, 1) := by decide +kernel
theorem dX5_highest_85 : decode cX5_highest 85 = .ok (.iload_n 1, 1) := by decide +kernel
theorem dX5_highest_86 : decode cX5_highest 86 = .ok (.invokestatic 82, 3) := by decide +kernel
theorem dX5_highest_89 : decode cX5_highest 89 = .ok (.iload_n 3, 1) := by decide +kernel
theorem dX5_highest_90 : decode cX5_highest 90 = .ok (.iastore, 1) := by decide +kernel
theorem dX5_highest_91 : decode cX5_highest 91 = .ok (.iload 4, 2) := by decide +kernel
theorem dX5_highest_93 : decode cX5_highest 93 = .ok (.ireturn, 1) := by decide +kernel
theorem dX5_takesNew_0 : decode cX5_takesNew 0 = .ok (.aload_n 0, 1) := by decide +kernel
theorem dX5_takesNew_1 : decode cX5_takesNew 1 = .ok (.getfield 66, 3) := by decide +kernel
theorem dX5_takesNew_4 : decode cX5_takesNew 4 = .ok (.istore 4, 2) := by decide +kernel
theorem dX5_takesNew_6 : decode cX5_takesNew 6 = .ok (.iconst 0, 1) := by decide +kernel
theorem dX5_takesNew_7 : decode cX5_takesNew 7 = .ok (.istore 5, 2) := by decide +kernel
theorem dX5_takesNew_9 : decode cX5_takesNew 9 = .ok (.iconst 1, 1) := by decide +kernel
theorem dX5_takesNew_10 : decode cX5_takesNew 10 = .ok (.istore 6, 2) := by decide +kernel
theorem dX5_takesNew_12 : decode cX5_takesNew 12 = .ok (.iconst 0, 1) := by decide +kernel
theorem dX5_takesNew_13 : decode cX5_takesNew 13 = .ok (.istore 7, 2) := by decide +kernel
theorem dX5_takesNew_15 : decode cX5_takesNew 15 = .ok (.iload 7, 2) := by decide +kernel
theorem dX5_takesNew_17 : decode cX5_takesNew 17 = .ok (.aload_n 0, 1) := by decide +kernel
theorem dX5_takesNew_18 : decode cX5_takesNew 18 = .ok (.getfield 73, 3) := by decide +kernel
theorem dX5_takesNew_21 : decode cX5_takesNew 21 = .ok (.if_icmp .gt 139, 3) := by decide +kernel
theorem dX5_takesNew_24 : decode cX5_takesNew 24 = .ok (.iload 7, 2) := by decide +kernel
theorem dX5_takesNew_26 : decode cX5_takesNew 26 = .ok (.iload_n 1, 1) := by decide +kernel
theorem dX5_takesNew_27 : decode cX5_takesNew 27 = .ok (.if_icmp .ne 39, 3) := by decide +kernel
theorem dX5_takesNew_30 : decode cX5_takesNew 30 = .ok (.iload 4, 2) := by decide +kernel
theorem dX5_takesNew_32 : decode cX5_takesNew 32 = .ok (.iload_n 2, 1) := by decide +kernel
theorem dX5_takesNew_33 : decode cX5_takesNew 33 = .ok (.isub, 1) := by decide +kernel
theorem dX5_takesNew_34 : decode cX5_takesNew 34 = .ok (.istore 8, 2) := by decide +kernel
theorem dX5_takesNew_36 : decode cX5_takesNew 36 = .ok (.iload 8, 2) := by decide +kernel
theorem dX5_takesNew_38 : decode cX5_takesNew 38 = .ok (.ifCond .gt 7, 3) := by decide +kernel
theorem dX5_takesNew_41 : decode cX5_takesNew 41 = .ok (.iconst 0, 1) := by decide +kernel
theorem dX5_takesNew_42 : decode cX5_takesNew 42 = .ok (.goto 15, 3) := by decide +kernel
theorem dX5_takesNew_45 : decode cX5_takesNew 45 = .ok (.iload 8, 2) := by decide +kernel
theorem dX5_takesNew_47 : decode cX5_takesNew 47 = .ok (.iload_n 3, 1) := by decide +kernel
theorem dX5_takesNew_48 : decode cX5_takesNew 48 = .ok (.if_icmp .ge 8, 3) := by decide +kernel
theorem dX5_takesNew_51 : decode cX5_takesNew 51 = .ok (.iload 8, 2) := by decide +kernel
theorem dX5_takesNew_53 : decode cX5_takesNew 53 = .ok (.goto 4, 3) := by decide +kernel
theorem dX5_takesNew_56 : decode cX5_takesNew 56 = .ok (.iload_n 3, 1) := by decide +kernel
theorem dX5_takesNew_57 : decode cX5_takesNew 57 = .ok (.istore 5, 2) := by decide +kernel
theorem dX5_takesNew_59 : decode cX5_takesNew 59 = .ok (.iload 4, 2) := by decide +kernel
theorem dX5_takesNew_61 : decode cX5_takesNew 61 = .ok (.iload 5, 2) := by decide +kernel
theorem dX5_takesNew_63 : decode cX5_takesNew 63 = .ok (.isub, 1) := by decide +kernel
theorem dX5_takesNew_64 : decode cX5_takesNew 64 = .ok (.istore 4, 2) := by decide +kernel
theorem dX5_takesNew_66 : decode cX5_takesNew 66 = .ok (.iload 7, 2) := by decide +kernel
theorem dX5_takesNew_68 : decode cX5_takesNew 68 = .ok (.aload_n 0, 1) := by decide +kernel
theorem dX5_takesNew_69 : decode cX5_takesNew 69 = .ok (.getfield 73, 3) := by decide +kernel
theorem dX5_takesNew_72 : decode cX5_takesNew 72 = .ok (.if_icmp .ge 82, 3) := by decide +kernel
theorem dX5_takesNew_75 : decode cX5_takesNew 75 = .ok (.iload 4, 2) := by decide +kernel
theorem dX5_takesNew_77 : decode cX5_takesNew 77 = .ok (.iload 4, 2) := by decide +kernel
theorem dX5_takesNew_79 : decode cX5_takesNew 79 = .ok (.aload_n 0, 1) := by decide +kernel
theorem dX5_takesNew_80 : decode cX5_takesNew 80 = .ok (.getfield 7, 3) := by decide +kernel
theorem dX5_takesNew_83 : decode cX5_takesNew 83 = .ok (.iconst 5, 1) := by decide +kernel
theorem dX5_takesNew_84 : decode cX5_takesNew 84 = .ok (.iload 7, 2) := by decide +kernel
theorem dX5_takesNew_86 : decode cX5_takesNew 86 = .ok (.invokestatic 82, 3) := by decide +kernel
theorem dX5_takesNew_89 : decode cX5_takesNew 89 = .ok (.iaload, 1) := by decide +kernel
theorem dX5_takesNew_90 : decode cX5_takesNew 90 = .ok (.if_icmp .ge 8, 3) := by decide +kernel
theorem dX5_takesNew_93 : decode cX5_takesNew 93 = .ok (.iload 4, 2) := by decide +kernel
theorem dX5_takesNew_95 : decode cX5_takesNew 95 = .ok (.goto 14, 3) := by decide +kernel
theorem dX5_takesNew_98 : decode cX5_takesNew 98 = .ok (.aload_n 0, 1) := by decide +kernel
theorem dX5_takesNew_99 : decode cX5_takesNew 99 = .ok (.getfield 7, 3) := by decide +kernel
theorem dX5_takesNew_102 : decode cX5_takesNew 102 = .ok (.iconst 5, 1) := by decide +kernel
theorem dX5_takesNew_103 : decode cX5_takesNew 103 = .ok (.iload 7, 2) := by decide +kernel
theorem dX5_takesNew_105 : decode cX5_takesNew 105 = .ok (.invokestatic 82, 3) := by decide +kernel
theorem dX5_takesNew_108 : decode cX5_takesNew 108 = .ok (.iaload, 1) := by decide +kernel
theorem dX5_takesNew_109 : decode cX5_takesNew 109 = .ok (.isub, 1) := by decide +kernel
theorem dX5_takesNew_110 : decode cX5_takesNew 110 = .ok (.istore 4, 2) := by decide +kernel
theorem dX5_takesNew_112 : decode cX5_takesNew 112 = .ok (.aload_n 0, 1) := by decide +kernel
theorem dX5_takesNew_113 : decode cX5_takesNew 113 = .ok (.iload 7, 2) := by decide +kernel
theorem dX5_takesNew_115 : decode cX5_takesNew 115 = .ok (.iload 4, 2) := by decide +kernel
theorem dX5_takesNew_117 : decode cX5_takesNew 117 = .ok (.iconst 0, 1) := by decide +kernel
theorem dX5_takesNew_118 : decode cX5_takesNew 118 = .ok (.invokevirtual 124, 3) := by decide +kernel
theorem dX5_takesNew_121 : decode cX5_takesNew 121 = .ok (.istore 8, 2) := by decide +kernel
theorem dX5_takesNew_123 : decode cX5_takesNew 123 = .ok (.iload 6, 2) := by decide +kernel
theorem dX5_takesNew_125 : decode cX5_takesNew 125 = .ok (.ifCond .eq 19, 3) := by decide +kernel
theorem dX5_takesNew_128 : decode cX5_takesNew 128 = .ok (.iload 8, 2) := by decide +kernel
theorem dX5_takesNew_130 : decode cX5_takesNew 130 = .ok (.aload_n 0, 1) := by decide +kernel
theorem dX5_takesNew_131 : decode cX5_takesNew 131 = .ok (.getfield 40, 3) := by decide +kernel
theorem dX5_takesNew_134 : decode cX5_takesNew 134 = .ok (.iload 7, 2) := by decide +kernel
theorem dX5_takesNew_136 : decode cX5_takesNew 136 = .ok (.iaload, 1) := by decide +kernel
theorem dX5_takesNew_137 : decode cX5_takesNew 137 = .ok (.if_icmp .lt 7, 3) := by decide +kernel
theorem dX5_takesNew_140 : decode cX5_takesNew 140 = .ok (.iconst 1, 1) := by decide +kernel
theorem dX5_takesNew_141 : decode cX5_takesNew 141 = .ok (.goto 4, 3) := by decide +kernel
theorem dX5_takesNew_144 : decode cX5_takesNew 144 = .ok (.iconst 0, 1) := by decide +kernel
theorem dX5_takesNew_145 : decode cX5_takesNew 145 = .ok (.istore 6, 2) := by decide +kernel
theorem dX5_takesNew_147 : decode cX5_takesNew 147 = .ok (.iload 4, 2) := by decide +kernel
theorem dX5_takesNew_149 : decode cX5_takesNew 149 = .ok (.iload 8, 2) := by decide +kernel
theorem dX5_takesNew_151 : decode cX5_takesNew 151 = .ok (.isub, 1) := by decide +kernel
theorem dX5_takesNew_152 : decode cX5_takesNew 152 = .ok (.istore 4, 2) := by decide +kernel
theorem dX5_takesNew_154 : decode cX5_takesNew 154 = .ok (.iinc 7 1, 3) := by decide +kernel
theorem dX5_takesNew_157 : decode cX5_takesNew 157 = .ok (.goto (-142), 3) := by decide +kernel
theorem dX5_takesNew_160 : decode cX5_takesNew 160 = .ok (.iload 6, 2) := by decide +kernel
theorem dX5_takesNew_162 : decode cX5_takesNew 162 = .ok (.ifCond .eq 8, 3) := by decide +kernel
theorem dX5_takesNew_165 : decode cX5_takesNew 165 = .ok (.iload 5, 2) := by decide +kernel
theorem dX5_takesNew_167 : decode cX5_takesNew 167 = .ok (.goto 5, 3) := by decide +kernel
theorem dX5_takesNew_170 : decode cX5_takesNew 170 = .ok (.bipush (-6), 2) := by decide +kernel
theorem dX5_takesNew_172 : decode cX5_takesNew 172 = .ok (.ireturn, 1) := by decide +kernel
theorem dX5_bored_0 : decode cX5_bored 0 = .ok (.iload_n 1, 1) := by decide +kernel
theorem dX5_bored_1 : decode cX5_bored 1 = .ok (.i2l, 1) := by decide +kernel
theorem dX5_bored_2 : decode cX5_bored 2 = .ok (.lconst 0, 1) := by decide +kernel
theorem dX5_bored_3 : decode cX5_bored 3 = .ok (.ldc2_w 106, 3) := by decide +kernel
theorem dX5_bored_6 : decode cX5_bored 6 = .ok (.invokestatic 86, 3) := by decide +kernel
theorem dX5_bored_9 : decode cX5_bored 9 = .ok (.ifCond .eq 25, 3) := by decide +kernel
theorem dX5_bored_12 : decode cX5_bored 12 = .ok (.iload_n 2, 1) := by decide +kernel
theorem dX5_bored_13 : decode cX5_bored 13 = .ok (.i2l, 1) := by decide +kernel
theorem dX5_bored_14 : decode cX5_bored 14 = .ok (.lconst 0, 1) := by decide +kernel
theorem dX5_bored_15 : decode cX5_bored 15 = .ok (.ldc2_w 90, 3) := by decide +kernel
theorem dX5_bored_18 : decode cX5_bored 18 = .ok (.invokestatic 86, 3) := by decide +kernel
theorem dX5_bored_21 : decode cX5_bored 21 = .ok (.ifCond .eq 13, 3) := by decide +kernel
theorem dX5_bored_24 : decode cX5_bored 24 = .ok (.iload_n 3, 1) := by decide +kernel
theorem dX5_bored_25 : decode cX5_bored 25 = .ok (.i2l, 1) := by decide +kernel
theorem dX5_bored_26 : decode cX5_bored 26 = .ok (.lconst 0, 1) := by decide +kernel
theorem dX5_bored_27 : decode cX5_bored 27 = .ok (.lconst 1, 1) := by decide +kernel
theorem dX5_bored_28 : decode cX5_bored 28 = .ok (.invokestatic 86, 3) := by decide +kernel
theorem dX5_bored_31 : decode cX5_bored 31 = .ok (.ifCond .ne 6, 3) := by decide +kernel
theorem dX5_bored_34 : decode cX5_bored 34 = .ok (.bipush (-2), 2) := by decide +kernel
theorem dX5_bored_36 : decode cX5_bored 36 = .ok (.ireturn, 1) := by decide +kernel
theorem dX5_bored_37 : decode cX5_bored 37 = .ok (.aload_n 0, 1) := by decide +kernel
theorem dX5_bored_38 : decode cX5_bored 38 = .ok (.getfield 73, 3) := by decide +kernel
theorem dX5_bored_41 : decode cX5_bored 41 = .ok (.bipush 9, 2) := by decide +kernel
theorem dX5_bored_43 : decode cX5_bored 43 = .ok (.if_icmp .ne 6, 3) := by decide +kernel
theorem dX5_bored_46 : decode cX5_bored 46 = .ok (.bipush (-3), 2) := by decide +kernel
theorem dX5_bored_48 : decode cX5_bored 48 = .ok (.ireturn, 1) := by decide +kernel
theorem dX5_bored_49 : decode cX5_bored 49 = .ok (.aload_n 0, 1) := by decide +kernel
theorem dX5_bored_50 : decode cX5_bored 50 = .ok (.invokevirtual 173, 3) := by decide +kernel
theorem dX5_bored_53 : decode cX5_bored 53 = .ok (.bipush (-6), 2) := by decide +kernel
theorem dX5_bored_55 : decode cX5_bored 55 = .ok (.istore 4, 2) := by decide +kernel
theorem dX5_bored_57 : decode cX5_bored 57 = .ok (.iconst 0, 1) := by decide +kernel
theorem dX5_bored_58 : decode cX5_bored 58 = .ok (.istore 5, 2) := by decide +kernel
theorem dX5_bored_60 : decode cX5_bored 60 = .ok (.iconst 0, 1) := by decide +kernel
theorem dX5_bored_61 : decode cX5_bored 61 = .ok (.istore 6, 2) := by decide +kernel
theorem dX5_bored_63 : decode cX5_bored 63 = .ok (.iload 6, 2) := by decide +kernel
theorem dX5_bored_65 : decode cX5_bored 65 = .ok (.aload_n 0, 1) := by decide +kernel
theorem dX5_bored_66 : decode cX5_bored 66 = .ok (.getfield 73, 3) := by decide +kernel
theorem dX5_bored_69 : decode cX5_bored 69 = .ok (.if_icmp .gt 51, 3) := by decide +kernel
theorem dX5_bored_72 : decode cX5_bored 72 = .ok (.aload_n 0, 1) := by decide +kernel
theorem dX5_bored_73 : decode cX5_bored 73 = .ok (.iload 6, 2) := by decide +kernel
theorem dX5_bored_75 : decode cX5_bored 75 = .ok (.iload_n 1, 1) := by decide +kernel
theorem dX5_bored_76 : decode cX5_bored 76 = .ok (.iload_n 2, 1) := by decide +kernel
theorem dX5_bored_77 : decode cX5_bored 77 = .ok (.invokevirtual 190, 3) := by decide +kernel
theorem dX5_bored_80 : decode cX5_bored 80 = .ok (.istore 7, 2) := by decide +kernel
theorem dX5_bored_82 : decode cX5_bored 82 = .ok (.iload 7, 2) := by decide +kernel
theorem dX5_bored_84 : decode cX5_bored 84 = .ok (.iload 5, 2) := by decide +kernel
theorem dX5_bored_86 : decode cX5_bored 86 = .ok (.if_icmp .le 8, 3) := by decide +kernel
theorem dX5_bored_89 : decode cX5_bored 89 = .ok (.iload 6, 2) := by decide +kernel
theorem dX5_bored_91 : decode cX5_bored 91 = .ok (.goto 5, 3) := by decide +kernel
theorem dX5_bored_94 : decode cX5_bored 94 = .ok (.iload 4, 2) := by decide +kernel
theorem dX5_bored_96 : decode cX5_bored 96 = .ok (.istore 4, 2) := by decide +kernel
theorem dX5_bored_98 : decode cX5_bored 98 = .ok (.iload 7, 2) := by decide +kernel
theorem dX5_bored_100 : decode cX5_bored 100 = .ok (.iload 5, 2) := by decide +kernel
theorem dX5_bored_102 : decode cX5_bored 102 = .ok (.if_icmp .le 8, 3) := by decide +kernel
theorem dX5_bored_105 : decode cX5_bored 105 = .ok (.iload 7, 2) := by decide +kernel
theorem dX5_bored_107 : decode cX5_bored 107 = .ok (.goto 5, 3) := by decide +kernel
theorem dX5_bored_110 : decode cX5_bored 110 = .ok (.iload 5, 2) := by decide +kernel
theorem dX5_bored_112 : decode cX5_bored 112 = .ok (.istore 5, 2) := by decide +kernel
theorem dX5_bored_114 : decode cX5_bored 114 = .ok (.iinc 6 1, 3) := by decide +kernel
theorem dX5_bored_117 : decode cX5_bored 117 = .ok (.goto (-54), 3) := by decide +kernel
theorem dX5_bored_120 : decode cX5_bored 120 = .ok (.iload 4, 2) := by decide +kernel
theorem dX5_bored_122 : decode cX5_bored 122 = .ok (.ifCond .lt 7, 3) := by decide +kernel
theorem dX5_bored_125 : decode cX5_bored 125 = .ok (.iload_n 3, 1) := by decide +kernel
theorem dX5_bored_126 : decode cX5_bored 126 = .ok (.ifCond .ne 8, 3) := by decide +kernel
theorem dX5_bored_129 : decode cX5_bored 129 = .ok (.iload 4, 2) := by decide +kernel
theorem dX5_bored_131 : decode cX5_bored 131 = .ok (.goto 5, 3) := by decide +kernel
theorem dX5_bored_134 : decode cX5_bored 134 = .ok (.iload 5, 2) := by decide +kernel
theorem dX5_bored_136 : decode cX5_bored 136 = .ok (.ireturn, 1) := by decide +kernel
theorem dX5_isFairBy_0 : decode cX5_isFairBy 0 = .ok (.aload_n 0, 1) := by decide +kernel
theorem dX5_isFairBy_1 : decode cX5_isFairBy 1 = .ok (.getfield 66, 3) := by decide +kernel
theorem dX5_isFairBy_4 : decode cX5_isFairBy 4 = .ok (.istore_n 2, 1) := by decide +kernel
theorem dX5_isFairBy_5 : decode cX5_isFairBy 5 = .ok (.iconst 1, 1) := by decide +kernel
theorem dX5_isFairBy_6 : decode cX5_isFairBy 6 = .ok (.istore_n 3, 1) := by decide +kernel
theorem dX5_isFairBy_7 : decode cX5_isFairBy 7 = .ok (.iconst 0, 1) := by decide +kernel
theorem dX5_isFairBy_8 : decode cX5_isFairBy 8 = .ok (.istore 4, 2) := by decide +kernel
theorem dX5_isFairBy_10 : decode cX5_isFairBy 10 = .ok (.iload 4, 2) := by decide +kernel
theorem dX5_isFairBy_12 : decode cX5_isFairBy 12 = .ok (.aload_n 0, 1) := by decide +kernel
theorem dX5_isFairBy_13 : decode cX5_isFairBy 13 = .ok (.getfield 73, 3) := by decide +kernel
theorem dX5_isFairBy_16 : decode cX5_isFairBy 16 = .ok (.if_icmp .ge 91, 3) := by decide +kernel
theorem dX5_isFairBy_19 : decode cX5_isFairBy 19 = .ok (.iload_n 2, 1) := by decide +kernel
theorem dX5_isFairBy_20 : decode cX5_isFairBy 20 = .ok (.iload_n 2, 1) := by decide +kernel
theorem dX5_isFairBy_21 : decode cX5_isFairBy 21 = .ok (.aload_n 0, 1) := by decide +kernel
theorem dX5_isFairBy_22 : decode cX5_isFairBy 22 = .ok (.getfield 7, 3) := by decide +kernel
theorem dX5_isFairBy_25 : decode cX5_isFairBy 25 = .ok (.iconst 5, 1) := by decide +kernel
theorem dX5_isFairBy_26 : decode cX5_isFairBy 26 = .ok (.iload 4, 2) := by decide +kernel
theorem dX5_isFairBy_28 : decode cX5_isFairBy 28 = .ok (.invokestatic 82, 3) := by decide +kernel
theorem dX5_isFairBy_31 : decode cX5_isFairBy 31 = .ok (.iaload, 1) := by decide +kernel
theorem dX5_isFairBy_32 : decode cX5_isFairBy 32 = .ok (.if_icmp .ge 7, 3) := by decide +kernel
theorem dX5_isFairBy_35 : decode cX5_isFairBy 35 = .ok (.iload_n 2, 1) := by decide +kernel
theorem dX5_isFairBy_36 : decode cX5_isFairBy 36 = .ok (.goto 14, 3) := by decide +kernel
theorem dX5_isFairBy_39 : decode cX5_isFairBy 39 = .ok (.aload_n 0, 1) := by decide +kernel
theorem dX5_isFairBy_40 : decode cX5_isFairBy 40 = .ok (.getfield 7, 3) := by decide +kernel
theorem dX5_isFairBy_43 : decode cX5_isFairBy 43 = .ok (.iconst 5, 1) := by decide +kernel
theorem dX5_isFairBy_44 : decode cX5_isFairBy 44 = .ok (.iload 4, 2) := by decide +kernel
theorem dX5_isFairBy_46 : decode cX5_isFairBy 46 = .ok (.invokestatic 82, 3) := by decide +kernel
theorem dX5_isFairBy_49 : decode cX5_isFairBy 49 = .ok (.iaload, 1) := by decide +kernel
theorem dX5_isFairBy_50 : decode cX5_isFairBy 50 = .ok (.isub, 1) := by decide +kernel
theorem dX5_isFairBy_51 : decode cX5_isFairBy 51 = .ok (.istore_n 2, 1) := by decide +kernel
theorem dX5_isFairBy_52 : decode cX5_isFairBy 52 = .ok (.aload_n 0, 1) := by decide +kernel
theorem dX5_isFairBy_53 : decode cX5_isFairBy 53 = .ok (.getfield 7, 3) := by decide +kernel
theorem dX5_isFairBy_56 : decode cX5_isFairBy 56 = .ok (.iconst 4, 1) := by decide +kernel
theorem dX5_isFairBy_57 : decode cX5_isFairBy 57 = .ok (.iload 4, 2) := by decide +kernel
theorem dX5_isFairBy_59 : decode cX5_isFairBy 59 = .ok (.invokestatic 82, 3) := by decide +kernel
theorem dX5_isFairBy_62 : decode cX5_isFairBy 62 = .ok (.iaload, 1) := by decide +kernel
theorem dX5_isFairBy_63 : decode cX5_isFairBy 63 = .ok (.ifCond .ne 38, 3) := by decide +kernel
theorem dX5_isFairBy_66 : decode cX5_isFairBy 66 = .ok (.iload_n 3, 1) := by decide +kernel
theorem dX5_isFairBy_67 : decode cX5_isFairBy 67 = .ok (.ifCond .eq 28, 3) := by decide +kernel
theorem dX5_isFairBy_70 : decode cX5_isFairBy 70 = .ok (.iload_n 1, 1) := by decide +kernel
theorem dX5_isFairBy_71 : decode cX5_isFairBy 71 = .ok (.ifCond .eq 20, 3) := by decide +kernel
theorem dX5_isFairBy_74 : decode cX5_isFairBy 74 = .ok (.iload_n 2, 1) := by decide +kernel
theorem dX5_isFairBy_75 : decode cX5_isFairBy 75 = .ok (.aload_n 0, 1) := by decide +kernel
theorem dX5_isFairBy_76 : decode cX5_isFairBy 76 = .ok (.getfield 7, 3) := by decide +kernel
theorem dX5_isFairBy_79 : decode cX5_isFairBy 79 = .ok (.iconst 0, 1) := by decide +kernel
theorem dX5_isFairBy_80 : decode cX5_isFairBy 80 = .ok (.iload 4, 2) := by decide +kernel
theorem dX5_isFairBy_82 : decode cX5_isFairBy 82 = .ok (.invokestatic 82, 3) := by decide +kernel
theorem dX5_isFairBy_85 : decode cX5_isFairBy 85 = .ok (.iaload, 1) := by decide +kernel
theorem dX5_isFairBy_86 : decode cX5_isFairBy 86 = .ok (.isub, 1) := by decide +kernel
theorem dX5_isFairBy_87 : decode cX5_isFairBy 87 = .ok (.iload_n 1, 1) := by decide +kernel
theorem dX5_isFairBy_88 : decode cX5_isFairBy 88 = .ok (.if_icmp .lt 7, 3) := by decide +kernel
theorem dX5_isFairBy_91 : decode cX5_isFairBy 91 = .ok (.iconst 1, 1) := by decide +kernel
theorem dX5_isFairBy_92 : decode cX5_isFairBy 92 = .ok (.goto 4, 3) := by decide +kernel
theorem dX5_isFairBy_95 : decode cX5_isFairBy 95 = .ok (.iconst 0, 1) := by decide +kernel
theorem dX5_isFairBy_96 : decode cX5_isFairBy 96 = .ok (.istore_n 3, 1) := by decide +kernel
theorem dX5_isFairBy_97 : decode cX5_isFairBy 97 = .ok (.iload_n 2, 1) := by decide +kernel
theorem dX5_isFairBy_98 : decode cX5_isFairBy 98 = .ok (.iload_n 1, 1) := by decide +kernel
theorem dX5_isFairBy_99 : decode cX5_isFairBy 99 = .ok (.isub, 1) := by decide +kernel
theorem dX5_isFairBy_100 : decode cX5_isFairBy 100 = .ok (.istore_n 2, 1) := by decide +kernel
theorem dX5_isFairBy_101 : decode cX5_isFairBy 101 = .ok (.iinc 4 1, 3) := by decide +kernel
theorem dX5_isFairBy_104 : decode cX5_isFairBy 104 = .ok (.goto (-94), 3) := by decide +kernel
theorem dX5_isFairBy_107 : decode cX5_isFairBy 107 = .ok (.iload_n 3, 1) := by decide +kernel
theorem dX5_isFairBy_108 : decode cX5_isFairBy 108 = .ok (.ireturn, 1) := by decide +kernel
theorem dX5_fair_0 : decode cX5_fair 0 = .ok (.iconst 0, 1) := by decide +kernel
theorem dX5_fair_1 : decode cX5_fair 1 = .ok (.istore_n 1, 1) := by decide +kernel
theorem dX5_fair_2 : decode cX5_fair 2 = .ok (.iconst 0, 1) := by decide +kernel
theorem dX5_fair_3 : decode cX5_fair 3 = .ok (.istore_n 2, 1) := by decide +kernel
theorem dX5_fair_4 : decode cX5_fair 4 = .ok (.iload_n 2, 1) := by decide +kernel
theorem dX5_fair_5 : decode cX5_fair 5 = .ok (.bipush 9, 2) := by decide +kernel
theorem dX5_fair_7 : decode cX5_fair 7 = .ok (.if_icmp .gt 23, 3) := by decide +kernel
theorem dX5_fair_10 : decode cX5_fair 10 = .ok (.aload_n 0, 1) := by decide +kernel
theorem dX5_fair_11 : decode cX5_fair 11 = .ok (.iload_n 2, 1) := by decide +kernel
theorem dX5_fair_12 : decode cX5_fair 12 = .ok (.invokevirtual 193, 3) := by decide +kernel
theorem dX5_fair_15 : decode cX5_fair 15 = .ok (.ifCond .eq 7, 3) := by decide +kernel
theorem dX5_fair_18 : decode cX5_fair 18 = .ok (.iload_n 2, 1) := by decide +kernel
theorem dX5_fair_19 : decode cX5_fair 19 = .ok (.goto 4, 3) := by decide +kernel
theorem dX5_fair_22 : decode cX5_fair 22 = .ok (.iload_n 1, 1) := by decide +kernel
theorem dX5_fair_23 : decode cX5_fair 23 = .ok (.istore_n 1, 1) := by decide +kernel
theorem dX5_fair_24 : decode cX5_fair 24 = .ok (.iinc 2 1, 3) := by decide +kernel
theorem dX5_fair_27 : decode cX5_fair 27 = .ok (.goto (-23), 3) := by decide +kernel
theorem dX5_fair_30 : decode cX5_fair 30 = .ok (.iload_n 1, 1) := by decide +kernel
theorem dX5_fair_31 : decode cX5_fair 31 = .ok (.ireturn, 1) := by decide +kernel
theorem dX5_dry_0 : decode cX5_dry 0 = .ok (.iload_n 1, 1) := by decide +kernel
theorem dX5_dry_1 : decode cX5_dry 1 = .ok (.i2l, 1) := by decide +kernel
theorem dX5_dry_2 : decode cX5_dry 2 = .ok (.lconst 0, 1) := by decide +kernel
theorem dX5_dry_3 : decode cX5_dry 3 = .ok (.ldc2_w 104, 3) := by decide +kernel
theorem dX5_dry_6 : decode cX5_dry 6 = .ok (.invokestatic 86, 3) := by decide +kernel
theorem dX5_dry_9 : decode cX5_dry 9 = .ok (.ifCond .ne 6, 3) := by decide +kernel
theorem dX5_dry_12 : decode cX5_dry 12 = .ok (.bipush (-2), 2) := by decide +kernel
theorem dX5_dry_14 : decode cX5_dry 14 = .ok (.ireturn, 1) := by decide +kernel
theorem dX5_dry_15 : decode cX5_dry 15 = .ok (.aload_n 0, 1) := by decide +kernel
theorem dX5_dry_16 : decode cX5_dry 16 = .ok (.invokevirtual 173, 3) := by decide +kernel
theorem dX5_dry_19 : decode cX5_dry 19 = .ok (.aload_n 0, 1) := by decide +kernel
theorem dX5_dry_20 : decode cX5_dry 20 = .ok (.getfield 66, 3) := by decide +kernel
theorem dX5_dry_23 : decode cX5_dry 23 = .ok (.istore_n 2, 1) := by decide +kernel
theorem dX5_dry_24 : decode cX5_dry 24 = .ok (.aload_n 0, 1) := by decide +kernel
theorem dX5_dry_25 : decode cX5_dry 25 = .ok (.aload_n 0, 1) := by decide +kernel
theorem dX5_dry_26 : decode cX5_dry 26 = .ok (.getfield 66, 3) := by decide +kernel
theorem dX5_dry_29 : decode cX5_dry 29 = .ok (.iload_n 1, 1) := by decide +kernel
theorem dX5_dry_30 : decode cX5_dry 30 = .ok (.if_icmp .le 12, 3) := by decide +kernel
theorem dX5_dry_33 : decode cX5_dry 33 = .ok (.aload_n 0, 1) := by decide +kernel
theorem dX5_dry_34 : decode cX5_dry 34 = .ok (.getfield 66, 3) := by decide +kernel
theorem dX5_dry_37 : decode cX5_dry 37 = .ok (.iload_n 1, 1) := by decide +kernel
theorem dX5_dry_38 : decode cX5_dry 38 = .ok (.isub, 1) := by decide +kernel
theorem dX5_dry_39 : decode cX5_dry 39 = .ok (.goto 4, 3) := by decide +kernel
theorem dX5_dry_42 : decode cX5_dry 42 = .ok (.iconst 0, 1) := by decide +kernel
theorem dX5_dry_43 : decode cX5_dry 43 = .ok (.putfield 66, 3) := by decide +kernel
theorem dX5_dry_46 : decode cX5_dry 46 = .ok (.aload_n 0, 1) := by decide +kernel
theorem dX5_dry_47 : decode cX5_dry 47 = .ok (.iconst 0, 1) := by decide +kernel
theorem dX5_dry_48 : decode cX5_dry 48 = .ok (.invokevirtual 131, 3) := by decide +kernel
theorem dX5_dry_51 : decode cX5_dry 51 = .ok (.aload_n 0, 1) := by decide +kernel
theorem dX5_dry_52 : decode cX5_dry 52 = .ok (.iload_n 2, 1) := by decide +kernel
theorem dX5_dry_53 : decode cX5_dry 53 = .ok (.putfield 66, 3) := by decide +kernel
theorem dX5_dry_56 : decode cX5_dry 56 = .ok (.iconst 0, 1) := by decide +kernel
theorem dX5_dry_57 : decode cX5_dry 57 = .ok (.istore_n 3, 1) := by decide +kernel
theorem dX5_dry_58 : decode cX5_dry 58 = .ok (.iload_n 3, 1) := by decide +kernel
theorem dX5_dry_59 : decode cX5_dry 59 = .ok (.aload_n 0, 1) := by decide +kernel
theorem dX5_dry_60 : decode cX5_dry 60 = .ok (.getfield 73, 3) := by decide +kernel
theorem dX5_dry_63 : decode cX5_dry 63 = .ok (.if_icmp .ge 26, 3) := by decide +kernel
theorem dX5_dry_66 : decode cX5_dry 66 = .ok (.aload_n 0, 1) := by decide +kernel
theorem dX5_dry_67 : decode cX5_dry 67 = .ok (.getfield 28, 3) := by decide +kernel
theorem dX5_dry_70 : decode cX5_dry 70 = .ok (.iload_n 3, 1) := by decide +kernel
theorem dX5_dry_71 : decode cX5_dry 71 = .ok (.iaload, 1) := by decide +kernel
theorem dX5_dry_72 : decode cX5_dry 72 = .ok (.aload_n 0, 1) := by decide +kernel
theorem dX5_dry_73 : decode cX5_dry 73 = .ok (.getfield 40, 3) := by decide +kernel
theorem dX5_dry_76 : decode cX5_dry 76 = .ok (.iload_n 3, 1) := by decide +kernel
theorem dX5_dry_77 : decode cX5_dry 77 = .ok (.iaload, 1) := by decide +kernel
theorem dX5_dry_78 : decode cX5_dry 78 = .ok (.if_icmp .ge 5, 3) := by decide +kernel
theorem dX5_dry_81 : decode cX5_dry 81 = .ok (.iload_n 3, 1) := by decide +kernel
theorem dX5_dry_82 : decode cX5_dry 82 = .ok (.ireturn, 1) := by decide +kernel
theorem dX5_dry_83 : decode cX5_dry 83 = .ok (.iinc 3 1, 3) := by decide +kernel
theorem dX5_dry_86 : decode cX5_dry 86 = .ok (.goto (-28), 3) := by decide +kernel
theorem dX5_dry_89 : decode cX5_dry 89 = .ok (.bipush (-6), 2) := by decide +kernel
theorem dX5_dry_91 : decode cX5_dry 91 = .ok (.ireturn, 1) := by decide +kernel
theorem dX5_seen_0 : decode cX5_seen 0 = .ok (.aload_n 0, 1) := by decide +kernel
theorem dX5_seen_1 : decode cX5_seen 1 = .ok (.iload_n 1, 1) := by decide +kernel
theorem dX5_seen_2 : decode cX5_seen 2 = .ok (.invokevirtual 92, 3) := by decide +kernel
theorem dX5_seen_5 : decode cX5_seen 5 = .ok (.ifCond .ne 5, 3) := by decide +kernel
theorem dX5_seen_8 : decode cX5_seen 8 = .ok (.iconst (-1), 1) := by decide +kernel
theorem dX5_seen_9 : decode cX5_seen 9 = .ok (.ireturn, 1) := by decide +kernel
theorem dX5_seen_10 : decode cX5_seen 10 = .ok (.iload_n 2, 1) := by decide +kernel
theorem dX5_seen_11 : decode cX5_seen 11 = .ok (.i2l, 1) := by decide +kernel
theorem dX5_seen_12 : decode cX5_seen 12 = .ok (.lconst 0, 1) := by decide +kernel
theorem dX5_seen_13 : decode cX5_seen 13 = .ok (.ldc2_w 90, 3) := by decide +kernel
theorem dX5_seen_16 : decode cX5_seen 16 = .ok (.invokestatic 86, 3) := by decide +kernel
theorem dX5_seen_19 : decode cX5_seen 19 = .ok (.ifCond .ne 6, 3) := by decide +kernel
theorem dX5_seen_22 : decode cX5_seen 22 = .ok (.bipush (-2), 2) := by decide +kernel
theorem dX5_seen_24 : decode cX5_seen 24 = .ok (.ireturn, 1) := by decide +kernel
theorem dX5_seen_25 : decode cX5_seen 25 = .ok (.aload_n 0, 1) := by decide +kernel
theorem dX5_seen_26 : decode cX5_seen 26 = .ok (.getfield 79, 3) := by decide +kernel
theorem dX5_seen_29 : decode cX5_seen 29 = .ok (.bipush 8, 2) := by decide +kernel
theorem dX5_seen_31 : decode cX5_seen 31 = .ok (.if_icmp .ne 6, 3) := by decide +kernel
theorem dX5_seen_34 : decode cX5_seen 34 = .ok (.bipush (-4), 2) := by decide +kernel
theorem dX5_seen_36 : decode cX5_seen 36 = .ok (.ireturn, 1) := by decide +kernel
theorem dX5_seen_37 : decode cX5_seen 37 = .ok (.aload_n 0, 1) := by decide +kernel
theorem dX5_seen_38 : decode cX5_seen 38 = .ok (.getfield 13, 3) := by decide +kernel
theorem dX5_seen_41 : decode cX5_seen 41 = .ok (.aload_n 0, 1) := by decide +kernel
theorem dX5_seen_42 : decode cX5_seen 42 = .ok (.getfield 79, 3) := by decide +kernel
theorem dX5_seen_45 : decode cX5_seen 45 = .ok (.iload_n 1, 1) := by decide +kernel
theorem dX5_seen_46 : decode cX5_seen 46 = .ok (.iastore, 1) := by decide +kernel
theorem dX5_seen_47 : decode cX5_seen 47 = .ok (.aload_n 0, 1) := by decide +kernel
theorem dX5_seen_48 : decode cX5_seen 48 = .ok (.getfield 16, 3) := by decide +kernel
theorem dX5_seen_51 : decode cX5_seen 51 = .ok (.aload_n 0, 1) := by decide +kernel
theorem dX5_seen_52 : decode cX5_seen 52 = .ok (.getfield 79, 3) := by decide +kernel
theorem dX5_seen_55 : decode cX5_seen 55 = .ok (.iload_n 2, 1) := by decide +kernel
theorem dX5_seen_56 : decode cX5_seen 56 = .ok (.iastore, 1) := by decide +kernel
theorem dX5_seen_57 : decode cX5_seen 57 = .ok (.aload_n 0, 1) := by decide +kernel
theorem dX5_seen_58 : decode cX5_seen 58 = .ok (.dup, 1) := by decide +kernel
theorem dX5_seen_59 : decode cX5_seen 59 = .ok (.getfield 79, 3) := by decide +kernel
theorem dX5_seen_62 : decode cX5_seen 62 = .ok (.iconst 1, 1) := by decide +kernel
theorem dX5_seen_63 : decode cX5_seen 63 = .ok (.iadd, 1) := by decide +kernel
theorem dX5_seen_64 : decode cX5_seen 64 = .ok (.putfield 79, 3) := by decide +kernel
theorem dX5_seen_67 : decode cX5_seen 67 = .ok (.aload_n 0, 1) := by decide +kernel
theorem dX5_seen_68 : decode cX5_seen 68 = .ok (.getfield 79, 3) := by decide +kernel
theorem dX5_seen_71 : decode cX5_seen 71 = .ok (.ireturn, 1) := by decide +kernel
theorem dX5_forget_0 : decode cX5_forget 0 = .ok (.aload_n 0, 1) := by decide +kernel
theorem dX5_forget_1 : decode cX5_forget 1 = .ok (.getfield 79, 3) := by decide +kernel
theorem dX5_forget_4 : decode cX5_forget 4 = .ok (.istore_n 1, 1) := by decide +kernel
theorem dX5_forget_5 : decode cX5_forget 5 = .ok (.aload_n 0, 1) := by decide +kernel
theorem dX5_forget_6 : decode cX5_forget 6 = .ok (.iconst 0, 1) := by decide +kernel
theorem dX5_forget_7 : decode cX5_forget 7 = .ok (.putfield 79, 3) := by decide +kernel
theorem dX5_forget_10 : decode cX5_forget 10 = .ok (.iload_n 1, 1) := by decide +kernel
theorem dX5_forget_11 : decode cX5_forget 11 = .ok (.ireturn, 1) := by decide +kernel
theorem dX5_isHeardSo_0 : decode cX5_isHeardSo 0 = .ok (.aload_n 0, 1) := by decide +kernel
theorem dX5_isHeardSo_1 : decode cX5_isHeardSo 1 = .ok (.iconst 0, 1) := by decide +kernel
theorem dX5_isHeardSo_2 : decode cX5_isHeardSo 2 = .ok (.invokevirtual 131, 3) := by decide +kernel
theorem dX5_isHeardSo_5 : decode cX5_isHeardSo 5 = .ok (.iconst 1, 1) := by decide +kernel
theorem dX5_isHeardSo_6 : decode cX5_isHeardSo 6 = .ok (.istore_n 1, 1) := by decide +kernel
theorem dX5_isHeardSo_7 : decode cX5_isHeardSo 7 = .ok (.iconst 0, 1) := by decide +kernel
theorem dX5_isHeardSo_8 : decode cX5_isHeardSo 8 = .ok (.istore_n 2, 1) := by decide +kernel
theorem dX5_isHeardSo_9 : decode cX5_isHeardSo 9 = .ok (.iload_n 2, 1) := by decide +kernel
theorem dX5_isHeardSo_10 : decode cX5_isHeardSo 10 = .ok (.aload_n 0, 1) := by decide +kernel
theorem dX5_isHeardSo_11 : decode cX5_isHeardSo 11 = .ok (.getfield 79, 3) := by decide +kernel
theorem dX5_isHeardSo_14 : decode cX5_isHeardSo 14 = .ok (.if_icmp .ge 39, 3) := by decide +kernel
theorem dX5_isHeardSo_17 : decode cX5_isHeardSo 17 = .ok (.iload_n 1, 1) := by decide +kernel
theorem dX5_isHeardSo_18 : decode cX5_isHeardSo 18 = .ok (.ifCond .eq 27, 3) := by decide +kernel
theorem dX5_isHeardSo_21 : decode cX5_isHeardSo 21 = .ok (.aload_n 0, 1) := by decide +kernel
theorem dX5_isHeardSo_22 : decode cX5_isHeardSo 22 = .ok (.getfield 28, 3) := by decide +kernel
theorem dX5_isHeardSo_25 : decode cX5_isHeardSo 25 = .ok (.aload_n 0, 1) := by decide +kernel
theorem dX5_isHeardSo_26 : decode cX5_isHeardSo 26 = .ok (.getfield 13, 3) := by decide +kernel
theorem dX5_isHeardSo_29 : decode cX5_isHeardSo 29 = .ok (.iload_n 2, 1) := by decide +kernel
theorem dX5_isHeardSo_30 : decode cX5_isHeardSo 30 = .ok (.iaload, 1) := by decide +kernel
theorem dX5_isHeardSo_31 : decode cX5_isHeardSo 31 = .ok (.iaload, 1) := by decide +kernel
theorem dX5_isHeardSo_32 : decode cX5_isHeardSo 32 = .ok (.aload_n 0, 1) := by decide +kernel
theorem dX5_isHeardSo_33 : decode cX5_isHeardSo 33 = .ok (.getfield 16, 3) := by decide +kernel
theorem dX5_isHeardSo_36 : decode cX5_isHeardSo 36 = .ok (.iload_n 2, 1) := by decide +kernel
theorem dX5_isHeardSo_37 : decode cX5_isHeardSo 37 = .ok (.iaload, 1) := by decide +kernel
theorem dX5_isHeardSo_38 : decode cX5_isHeardSo 38 = .ok (.if_icmp .ne 7, 3) := by decide +kernel
theorem dX5_isHeardSo_41 : decode cX5_isHeardSo 41 = .ok (.iconst 1, 1) := by decide +kernel
theorem dX5_isHeardSo_42 : decode cX5_isHeardSo 42 = .ok (.goto 4, 3) := by decide +kernel
theorem dX5_isHeardSo_45 : decode cX5_isHeardSo 45 = .ok (.iconst 0, 1) := by decide +kernel
theorem dX5_isHeardSo_46 : decode cX5_isHeardSo 46 = .ok (.istore_n 1, 1) := by decide +kernel
theorem dX5_isHeardSo_47 : decode cX5_isHeardSo 47 = .ok (.iinc 2 1, 3) := by decide +kernel
theorem dX5_isHeardSo_50 : decode cX5_isHeardSo 50 = .ok (.goto (-41), 3) := by decide +kernel
theorem dX5_isHeardSo_53 : decode cX5_isHeardSo 53 = .ok (.iload_n 1, 1) := by decide +kernel
theorem dX5_isHeardSo_54 : decode cX5_isHeardSo 54 = .ok (.ireturn, 1) := by decide +kernel
theorem dX5_leaksBy_0 : decode cX5_leaksBy 0 = .ok (.aload_n 0, 1) := by decide +kernel
theorem dX5_leaksBy_1 : decode cX5_leaksBy 1 = .ok (.getfield 7, 3) := by decide +kernel
theorem dX5_leaksBy_4 : decode cX5_leaksBy 4 = .ok (.iconst 5, 1) := by decide +kernel
theorem dX5_leaksBy_5 : decode cX5_leaksBy 5 = .ok (.iload_n 1, 1) := by decide +kernel
theorem dX5_leaksBy_6 : decode cX5_leaksBy 6 = .ok (.invokestatic 82, 3) := by decide +kernel
theorem dX5_leaksBy_9 : decode cX5_leaksBy 9 = .ok (.iaload, 1) := by decide +kernel
theorem dX5_leaksBy_10 : decode cX5_leaksBy 10 = .ok (.iload_n 2, 1) := by decide +kernel
theorem dX5_leaksBy_11 : decode cX5_leaksBy 11 = .ok (.iadd, 1) := by decide +kernel
theorem dX5_leaksBy_12 : decode cX5_leaksBy 12 = .ok (.bipush 9, 2) := by decide +kernel
theorem dX5_leaksBy_14 : decode cX5_leaksBy 14 = .ok (.if_icmp .le 5, 3) := by decide +kernel
theorem dX5_leaksBy_17 : decode cX5_leaksBy 17 = .ok (.iconst 0, 1) := by decide +kernel
theorem dX5_leaksBy_18 : decode cX5_leaksBy 18 = .ok (.ireturn, 1) := by decide +kernel
theorem dX5_leaksBy_19 : decode cX5_leaksBy 19 = .ok (.aload_n 0, 1) := by decide +kernel
theorem dX5_leaksBy_20 : decode cX5_leaksBy 20 = .ok (.getfield 7, 3) := by decide +kernel
theorem dX5_leaksBy_23 : decode cX5_leaksBy 23 = .ok (.iconst 5, 1) := by decide +kernel
theorem dX5_leaksBy_24 : decode cX5_leaksBy 24 = .ok (.iload_n 1, 1) := by decide +kernel
theorem dX5_leaksBy_25 : decode cX5_leaksBy 25 = .ok (.invokestatic 82, 3) := by decide +kernel
theorem dX5_leaksBy_28 : decode cX5_leaksBy 28 = .ok (.dup2, 1) := by decide +kernel
theorem dX5_leaksBy_29 : decode cX5_leaksBy 29 = .ok (.iaload, 1) := by decide +kernel
theorem dX5_leaksBy_30 : decode cX5_leaksBy 30 = .ok (.iload_n 2, 1) := by decide +kernel
theorem dX5_leaksBy_31 : decode cX5_leaksBy 31 = .ok (.iadd, 1) := by decide +kernel
theorem dX5_leaksBy_32 : decode cX5_leaksBy 32 = .ok (.iastore, 1) := by decide +kernel
theorem dX5_leaksBy_33 : decode cX5_leaksBy 33 = .ok (.aload_n 0, 1) := by decide +kernel
theorem dX5_leaksBy_34 : decode cX5_leaksBy 34 = .ok (.invokevirtual 196, 3) := by decide +kernel
theorem dX5_leaksBy_37 : decode cX5_leaksBy 37 = .ok (.istore_n 3, 1) := by decide +kernel
theorem dX5_leaksBy_38 : decode cX5_leaksBy 38 = .ok (.aload_n 0, 1) := by decide +kernel
theorem dX5_leaksBy_39 : decode cX5_leaksBy 39 = .ok (.getfield 7, 3) := by decide +kernel
theorem dX5_leaksBy_42 : decode cX5_leaksBy 42 = .ok (.iconst 5, 1) := by decide +kernel
theorem dX5_leaksBy_43 : decode cX5_leaksBy 43 = .ok (.iload_n 1, 1) := by decide +kernel
theorem dX5_leaksBy_44 : decode cX5_leaksBy 44 = .ok (.invokestatic 82, 3) := by decide +kernel
theorem dX5_leaksBy_47 : decode cX5_leaksBy 47 = .ok (.dup2, 1) := by decide +kernel
theorem dX5_leaksBy_48 : decode cX5_leaksBy 48 = .ok (.iaload, 1) := by decide +kernel
theorem dX5_leaksBy_49 : decode cX5_leaksBy 49 = .ok (.iload_n 2, 1) := by decide +kernel
theorem dX5_leaksBy_50 : decode cX5_leaksBy 50 = .ok (.isub, 1) := by decide +kernel
theorem dX5_leaksBy_51 : decode cX5_leaksBy 51 = .ok (.iastore, 1) := by decide +kernel
theorem dX5_leaksBy_52 : decode cX5_leaksBy 52 = .ok (.iload_n 3, 1) := by decide +kernel
theorem dX5_leaksBy_53 : decode cX5_leaksBy 53 = .ok (.ireturn, 1) := by decide +kernel
theorem dX5_leak_0 : decode cX5_leak 0 = .ok (.iconst 0, 1) := by decide +kernel
theorem dX5_leak_1 : decode cX5_leak 1 = .ok (.istore_n 2, 1) := by decide +kernel
theorem dX5_leak_2 : decode cX5_leak 2 = .ok (.iconst 0, 1) := by decide +kernel
theorem dX5_leak_3 : decode cX5_leak 3 = .ok (.istore_n 3, 1) := by decide +kernel
theorem dX5_leak_4 : decode cX5_leak 4 = .ok (.iload_n 3, 1) := by decide +kernel
theorem dX5_leak_5 : decode cX5_leak 5 = .ok (.aload_n 0, 1) := by decide +kernel
theorem dX5_leak_6 : decode cX5_leak 6 = .ok (.getfield 73, 3) := by decide +kernel
theorem dX5_leak_9 : decode cX5_leak 9 = .ok (.if_icmp .ge 51, 3) := by decide +kernel
theorem dX5_leak_12 : decode cX5_leak 12 = .ok (.iconst 1, 1) := by decide +kernel
theorem dX5_leak_13 : decode cX5_leak 13 = .ok (.istore 4, 2) := by decide +kernel
theorem dX5_leak_15 : decode cX5_leak 15 = .ok (.iload 4, 2) := by decide +kernel
theorem dX5_leak_17 : decode cX5_leak 17 = .ok (.bipush 9, 2) := by decide +kernel
theorem dX5_leak_19 : decode cX5_leak 19 = .ok (.if_icmp .gt 35, 3) := by decide +kernel
theorem dX5_leak_22 : decode cX5_leak 22 = .ok (.aload_n 0, 1) := by decide +kernel
theorem dX5_leak_23 : decode cX5_leak 23 = .ok (.iload_n 3, 1) := by decide +kernel
theorem dX5_leak_24 : decode cX5_leak 24 = .ok (.iload 4, 2) := by decide +kernel
theorem dX5_leak_26 : decode cX5_leak 26 = .ok (.invokevirtual 200, 3) := by decide +kernel
theorem dX5_leak_29 : decode cX5_leak 29 = .ok (.ifCond .eq 19, 3) := by decide +kernel
theorem dX5_leak_32 : decode cX5_leak 32 = .ok (.iload_n 2, 1) := by decide +kernel
theorem dX5_leak_33 : decode cX5_leak 33 = .ok (.iload_n 1, 1) := by decide +kernel
theorem dX5_leak_34 : decode cX5_leak 34 = .ok (.if_icmp .ne 11, 3) := by decide +kernel
theorem dX5_leak_37 : decode cX5_leak 37 = .ok (.bipush 10, 2) := by decide +kernel
theorem dX5_leak_39 : decode cX5_leak 39 = .ok (.iload_n 3, 1) := by decide +kernel
theorem dX5_leak_40 : decode cX5_leak 40 = .ok (.imul, 1) := by decide +kernel
theorem dX5_leak_41 : decode cX5_leak 41 = .ok (.iload 4, 2) := by decide +kernel
theorem dX5_leak_43 : decode cX5_leak 43 = .ok (.iadd, 1) := by decide +kernel
theorem dX5_leak_44 : decode cX5_leak 44 = .ok (.ireturn, 1) := by decide +kernel
theorem dX5_leak_45 : decode cX5_leak 45 = .ok (.iinc 2 1, 3) := by decide +kernel
theorem dX5_leak_48 : decode cX5_leak 48 = .ok (.iinc 4 1, 3) := by decide +kernel
theorem dX5_leak_51 : decode cX5_leak 51 = .ok (.goto (-36), 3) := by decide +kernel
theorem dX5_leak_54 : decode cX5_leak 54 = .ok (.iinc 3 1, 3) := by decide +kernel
theorem dX5_leak_57 : decode cX5_leak 57 = .ok (.goto (-53), 3) := by decide +kernel
theorem dX5_leak_60 : decode cX5_leak 60 = .ok (.iload_n 1, 1) := by decide +kernel
theorem dX5_leak_61 : decode cX5_leak 61 = .ok (.iconst (-1), 1) := by decide +kernel
theorem dX5_leak_62 : decode cX5_leak 62 = .ok (.if_icmp .ne 7, 3) := by decide +kernel
theorem dX5_leak_65 : decode cX5_leak 65 = .ok (.iload_n 2, 1) := by decide +kernel
theorem dX5_leak_66 : decode cX5_leak 66 = .ok (.goto 5, 3) := by decide +kernel
theorem dX5_leak_69 : decode cX5_leak 69 = .ok (.bipush (-6), 2) := by decide +kernel
theorem dX5_leak_71 : decode cX5_leak 71 = .ok (.ireturn, 1) := by decide +kernel
theorem dX5_borer_0 : decode cX5_borer 0 = .ok (.iconst 0, 1) := by decide +kernel
theorem dX5_borer_1 : decode cX5_borer 1 = .ok (.istore_n 2, 1) := by decide +kernel
theorem dX5_borer_2 : decode cX5_borer 2 = .ok (.iconst 0, 1) := by decide +kernel
theorem dX5_borer_3 : decode cX5_borer 3 = .ok (.istore_n 3, 1) := by decide +kernel
theorem dX5_borer_4 : decode cX5_borer 4 = .ok (.iload_n 3, 1) := by decide +kernel
theorem dX5_borer_5 : decode cX5_borer 5 = .ok (.aload_n 0, 1) := by decide +kernel
theorem dX5_borer_6 : decode cX5_borer 6 = .ok (.getfield 73, 3) := by decide +kernel
theorem dX5_borer_9 : decode cX5_borer 9 = .ok (.if_icmp .ge 88, 3) := by decide +kernel
theorem dX5_borer_12 : decode cX5_borer 12 = .ok (.aload_n 0, 1) := by decide +kernel
theorem dX5_borer_13 : decode cX5_borer 13 = .ok (.getfield 7, 3) := by decide +kernel
theorem dX5_borer_16 : decode cX5_borer 16 = .ok (.iconst 0, 1) := by decide +kernel
theorem dX5_borer_17 : decode cX5_borer 17 = .ok (.iload_n 3, 1) := by decide +kernel
theorem dX5_borer_18 : decode cX5_borer 18 = .ok (.invokestatic 82, 3) := by decide +kernel
theorem dX5_borer_21 : decode cX5_borer 21 = .ok (.iaload, 1) := by decide +kernel
theorem dX5_borer_22 : decode cX5_borer 22 = .ok (.istore 4, 2) := by decide +kernel
theorem dX5_borer_24 : decode cX5_borer 24 = .ok (.iconst 0, 1) := by decide +kernel
theorem dX5_borer_25 : decode cX5_borer 25 = .ok (.istore 5, 2) := by decide +kernel
theorem dX5_borer_27 : decode cX5_borer 27 = .ok (.iload 5, 2) := by decide +kernel
theorem dX5_borer_29 : decode cX5_borer 29 = .ok (.iload 4, 2) := by decide +kernel
theorem dX5_borer_31 : decode cX5_borer 31 = .ok (.if_icmp .ge 60, 3) := by decide +kernel
theorem dX5_borer_34 : decode cX5_borer 34 = .ok (.aload_n 0, 1) := by decide +kernel
theorem dX5_borer_35 : decode cX5_borer 35 = .ok (.getfield 7, 3) := by decide +kernel
theorem dX5_borer_38 : decode cX5_borer 38 = .ok (.iconst 0, 1) := by decide +kernel
theorem dX5_borer_39 : decode cX5_borer 39 = .ok (.iload_n 3, 1) := by decide +kernel
theorem dX5_borer_40 : decode cX5_borer 40 = .ok (.invokestatic 82, 3) := by decide +kernel
theorem dX5_borer_43 : decode cX5_borer 43 = .ok (.iload 5, 2) := by decide +kernel
theorem dX5_borer_45 : decode cX5_borer 45 = .ok (.iastore, 1) := by decide +kernel
theorem dX5_borer_46 : decode cX5_borer 46 = .ok (.aload_n 0, 1) := by decide +kernel
theorem dX5_borer_47 : decode cX5_borer 47 = .ok (.invokevirtual 196, 3) := by decide +kernel
theorem dX5_borer_50 : decode cX5_borer 50 = .ok (.istore 6, 2) := by decide +kernel
theorem dX5_borer_52 : decode cX5_borer 52 = .ok (.aload_n 0, 1) := by decide +kernel
theorem dX5_borer_53 : decode cX5_borer 53 = .ok (.getfield 7, 3) := by decide +kernel
theorem dX5_borer_56 : decode cX5_borer 56 = .ok (.iconst 0, 1) := by decide +kernel
theorem dX5_borer_57 : decode cX5_borer 57 = .ok (.iload_n 3, 1) := by decide +kernel
theorem dX5_borer_58 : decode cX5_borer 58 = .ok (.invokestatic 82, 3) := by decide +kernel
theorem dX5_borer_61 : decode cX5_borer 61 = .ok (.iload 4, 2) := by decide +kernel
theorem dX5_borer_63 : decode cX5_borer 63 = .ok (.iastore, 1) := by decide +kernel
theorem dX5_borer_64 : decode cX5_borer 64 = .ok (.iload 6, 2) := by decide +kernel
theorem dX5_borer_66 : decode cX5_borer 66 = .ok (.ifCond .eq 19, 3) := by decide +kernel
theorem dX5_borer_69 : decode cX5_borer 69 = .ok (.iload_n 2, 1) := by decide +kernel
theorem dX5_borer_70 : decode cX5_borer 70 = .ok (.iload_n 1, 1) := by decide +kernel
theorem dX5_borer_71 : decode cX5_borer 71 = .ok (.if_icmp .ne 11, 3) := by decide +kernel
theorem dX5_borer_74 : decode cX5_borer 74 = .ok (.bipush 100, 2) := by decide +kernel
theorem dX5_borer_76 : decode cX5_borer 76 = .ok (.iload_n 3, 1) := by decide +kernel
theorem dX5_borer_77 : decode cX5_borer 77 = .ok (.imul, 1) := by decide +kernel
theorem dX5_borer_78 : decode cX5_borer 78 = .ok (.iload 5, 2) := by decide +kernel
theorem dX5_borer_80 : decode cX5_borer 80 = .ok (.iadd, 1) := by decide +kernel
theorem dX5_borer_81 : decode cX5_borer 81 = .ok (.ireturn, 1) := by decide +kernel
theorem dX5_borer_82 : decode cX5_borer 82 = .ok (.iinc 2 1, 3) := by decide +kernel
theorem dX5_borer_85 : decode cX5_borer 85 = .ok (.iinc 5 1, 3) := by decide +kernel
theorem dX5_borer_88 : decode cX5_borer 88 = .ok (.goto (-61), 3) := by decide +kernel
theorem dX5_borer_91 : decode cX5_borer 91 = .ok (.iinc 3 1, 3) := by decide +kernel
theorem dX5_borer_94 : decode cX5_borer 94 = .ok (.goto (-90), 3) := by decide +kernel
theorem dX5_borer_97 : decode cX5_borer 97 = .ok (.iload_n 1, 1) := by decide +kernel
theorem dX5_borer_98 : decode cX5_borer 98 = .ok (.iconst (-1), 1) := by decide +kernel
theorem dX5_borer_99 : decode cX5_borer 99 = .ok (.if_icmp .ne 7, 3) := by decide +kernel
theorem dX5_borer_102 : decode cX5_borer 102 = .ok (.iload_n 2, 1) := by decide +kernel
theorem dX5_borer_103 : decode cX5_borer 103 = .ok (.goto 5, 3) := by decide +kernel
theorem dX5_borer_106 : decode cX5_borer 106 = .ok (.bipush (-6), 2) := by decide +kernel
theorem dX5_borer_108 : decode cX5_borer 108 = .ok (.ireturn, 1) := by decide +kernel
theorem dX5_mostLeftAt_0 : decode cX5_mostLeftAt 0 = .ok (.iconst 0, 1) := by decide +kernel
theorem dX5_mostLeftAt_1 : decode cX5_mostLeftAt 1 = .ok (.istore_n 2, 1) := by decide +kernel
theorem dX5_mostLeftAt_2 : decode cX5_mostLeftAt 2 = .ok (.iconst 0, 1) := by decide +kernel
theorem dX5_mostLeftAt_3 : decode cX5_mostLeftAt 3 = .ok (.istore_n 3, 1) := by decide +kernel
theorem dX5_mostLeftAt_4 : decode cX5_mostLeftAt 4 = .ok (.iload_n 3, 1) := by decide +kernel
theorem dX5_mostLeftAt_5 : decode cX5_mostLeftAt 5 = .ok (.bipush 10, 2) := by decide +kernel
theorem dX5_mostLeftAt_7 : decode cX5_mostLeftAt 7 = .ok (.if_icmp .ge 40, 3) := by decide +kernel
theorem dX5_mostLeftAt_10 : decode cX5_mostLeftAt 10 = .ok (.aload_n 0, 1) := by decide +kernel
theorem dX5_mostLeftAt_11 : decode cX5_mostLeftAt 11 = .ok (.getfield 46, 3) := by decide +kernel
theorem dX5_mostLeftAt_14 : decode cX5_mostLeftAt 14 = .ok (.bipush 10, 2) := by decide +kernel
theorem dX5_mostLeftAt_16 : decode cX5_mostLeftAt 16 = .ok (.iload_n 1, 1) := by decide +kernel
theorem dX5_mostLeftAt_17 : decode cX5_mostLeftAt 17 = .ok (.imul, 1) := by decide +kernel
theorem dX5_mostLeftAt_18 : decode cX5_mostLeftAt 18 = .ok (.iload_n 3, 1) := by decide +kernel
theorem dX5_mostLeftAt_19 : decode cX5_mostLeftAt 19 = .ok (.iadd, 1) := by decide +kernel
theorem dX5_mostLeftAt_20 : decode cX5_mostLeftAt 20 = .ok (.iaload, 1) := by decide +kernel
theorem dX5_mostLeftAt_21 : decode cX5_mostLeftAt 21 = .ok (.iload_n 2, 1) := by decide +kernel
theorem dX5_mostLeftAt_22 : decode cX5_mostLeftAt 22 = .ok (.if_icmp .le 17, 3) := by decide +kernel
theorem dX5_mostLeftAt_25 : decode cX5_mostLeftAt 25 = .ok (.aload_n 0, 1) := by decide +kernel
theorem dX5_mostLeftAt_26 : decode cX5_mostLeftAt 26 = .ok (.getfield 46, 3) := by decide +kernel
theorem dX5_mostLeftAt_29 : decode cX5_mostLeftAt 29 = .ok (.bipush 10, 2) := by decide +kernel
theorem dX5_mostLeftAt_31 : decode cX5_mostLeftAt 31 = .ok (.iload_n 1, 1) := by decide +kernel
theorem dX5_mostLeftAt_32 : decode cX5_mostLeftAt 32 = .ok (.imul, 1) := by decide +kernel
theorem dX5_mostLeftAt_33 : decode cX5_mostLeftAt 33 = .ok (.iload_n 3, 1) := by decide +kernel
theorem dX5_mostLeftAt_34 : decode cX5_mostLeftAt 34 = .ok (.iadd, 1) := by decide +kernel
theorem dX5_mostLeftAt_35 : decode cX5_mostLeftAt 35 = .ok (.iaload, 1) := by decide +kernel
theorem dX5_mostLeftAt_36 : decode cX5_mostLeftAt 36 = .ok (.goto 4, 3) := by decide +kernel
theorem dX5_mostLeftAt_39 : decode cX5_mostLeftAt 39 = .ok (.iload_n 2, 1) := by decide +kernel
theorem dX5_mostLeftAt_40 : decode cX5_mostLeftAt 40 = .ok (.istore_n 2, 1) := by decide +kernel
theorem dX5_mostLeftAt_41 : decode cX5_mostLeftAt 41 = .ok (.iinc 3 1, 3) := by decide +kernel
theorem dX5_mostLeftAt_44 : decode cX5_mostLeftAt 44 = .ok (.goto (-40), 3) := by decide +kernel
theorem dX5_mostLeftAt_47 : decode cX5_mostLeftAt 47 = .ok (.iload_n 2, 1) := by decide +kernel
theorem dX5_mostLeftAt_48 : decode cX5_mostLeftAt 48 = .ok (.ireturn, 1) := by decide +kernel
theorem dX5_listen_0 : decode cX5_listen 0 = .ok (.iload_n 1, 1) := by decide +kernel
theorem dX5_listen_1 : decode cX5_listen 1 = .ok (.i2l, 1) := by decide +kernel
theorem dX5_listen_2 : decode cX5_listen 2 = .ok (.lconst 0, 1) := by decide +kernel
theorem dX5_listen_3 : decode cX5_listen 3 = .ok (.lconst 1, 1) := by decide +kernel
theorem dX5_listen_4 : decode cX5_listen 4 = .ok (.invokestatic 86, 3) := by decide +kernel
theorem dX5_listen_7 : decode cX5_listen 7 = .ok (.ifCond .ne 6, 3) := by decide +kernel
theorem dX5_listen_10 : decode cX5_listen 10 = .ok (.bipush (-2), 2) := by decide +kernel
theorem dX5_listen_12 : decode cX5_listen 12 = .ok (.ireturn, 1) := by decide +kernel
theorem dX5_listen_13 : decode cX5_listen 13 = .ok (.iconst 0, 1) := by decide +kernel
theorem dX5_listen_14 : decode cX5_listen 14 = .ok (.istore_n 2, 1) := by decide +kernel
theorem dX5_listen_15 : decode cX5_listen 15 = .ok (.iload_n 2, 1) := by decide +kernel
theorem dX5_listen_16 : decode cX5_listen 16 = .ok (.bipush 90, 2) := by decide +kernel
theorem dX5_listen_18 : decode cX5_listen 18 = .ok (.if_icmp .ge 16, 3) := by decide +kernel
theorem dX5_listen_21 : decode cX5_listen 21 = .ok (.aload_n 0, 1) := by decide +kernel
theorem dX5_listen_22 : decode cX5_listen 22 = .ok (.getfield 46, 3) := by decide +kernel
theorem dX5_listen_25 : decode cX5_listen 25 = .ok (.iload_n 2, 1) := by decide +kernel
theorem dX5_listen_26 : decode cX5_listen 26 = .ok (.iconst 0, 1) := by decide +kernel
theorem dX5_listen_27 : decode cX5_listen 27 = .ok (.iastore, 1) := by decide +kernel
theorem dX5_listen_28 : decode cX5_listen 28 = .ok (.iinc 2 1, 3) := by decide +kernel
theorem dX5_listen_31 : decode cX5_listen 31 = .ok (.goto (-16), 3) := by decide +kernel
theorem dX5_listen_34 : decode cX5_listen 34 = .ok (.iconst 0, 1) := by decide +kernel
theorem dX5_listen_35 : decode cX5_listen 35 = .ok (.istore_n 2, 1) := by decide +kernel
theorem dX5_listen_36 : decode cX5_listen 36 = .ok (.iconst 0, 1) := by decide +kernel
theorem dX5_listen_37 : decode cX5_listen 37 = .ok (.istore_n 3, 1) := by decide +kernel
theorem dX5_listen_38 : decode cX5_listen 38 = .ok (.iload_n 3, 1) := by decide +kernel
theorem dX5_listen_39 : decode cX5_listen 39 = .ok (.bipush 9, 2) := by decide +kernel
theorem dX5_listen_41 : decode cX5_listen 41 = .ok (.aload_n 0, 1) := by decide +kernel
theorem dX5_listen_42 : decode cX5_listen 42 = .ok (.getfield 73, 3) := by decide +kernel
theorem dX5_listen_45 : decode cX5_listen 45 = .ok (.imul, 1) := by decide +kernel
theorem dX5_listen_46 : decode cX5_listen 46 = .ok (.if_icmp .ge 69, 3) := by decide +kernel
theorem dX5_listen_49 : decode cX5_listen 49 = .ok (.aload_n 0, 1) := by decide +kernel
theorem dX5_listen_50 : decode cX5_listen 50 = .ok (.iload_n 3, 1) := by decide +kernel
theorem dX5_listen_51 : decode cX5_listen 51 = .ok (.bipush 9, 2) := by decide +kernel
theorem dX5_listen_53 : decode cX5_listen 53 = .ok (.idiv, 1) := by decide +kernel
theorem dX5_listen_54 : decode cX5_listen 54 = .ok (.iconst 1, 1) := by decide +kernel
theorem dX5_listen_55 : decode cX5_listen 55 = .ok (.iload_n 3, 1) := by decide +kernel
theorem dX5_listen_56 : decode cX5_listen 56 = .ok (.bipush 9, 2) := by decide +kernel
theorem dX5_listen_58 : decode cX5_listen 58 = .ok (.irem, 1) := by decide +kernel
theorem dX5_listen_59 : decode cX5_listen 59 = .ok (.iadd, 1) := by decide +kernel
theorem dX5_listen_60 : decode cX5_listen 60 = .ok (.invokevirtual 200, 3) := by decide +kernel
theorem dX5_listen_63 : decode cX5_listen 63 = .ok (.ifCond .eq 46, 3) := by decide +kernel
theorem dX5_listen_66 : decode cX5_listen 66 = .ok (.iinc 2 1, 3) := by decide +kernel
theorem dX5_listen_69 : decode cX5_listen 69 = .ok (.iconst 0, 1) := by decide +kernel
theorem dX5_listen_70 : decode cX5_listen 70 = .ok (.istore 4, 2) := by decide +kernel
theorem dX5_listen_72 : decode cX5_listen 72 = .ok (.iload 4, 2) := by decide +kernel
theorem dX5_listen_74 : decode cX5_listen 74 = .ok (.aload_n 0, 1) := by decide +kernel
theorem dX5_listen_75 : decode cX5_listen 75 = .ok (.getfield 73, 3) := by decide +kernel
theorem dX5_listen_78 : decode cX5_listen 78 = .ok (.if_icmp .ge 31, 3) := by decide +kernel
theorem dX5_listen_81 : decode cX5_listen 81 = .ok (.aload_n 0, 1) := by decide +kernel
theorem dX5_listen_82 : decode cX5_listen 82 = .ok (.getfield 46, 3) := by decide +kernel
theorem dX5_listen_85 : decode cX5_listen 85 = .ok (.bipush 10, 2) := by decide +kernel
theorem dX5_listen_87 : decode cX5_listen 87 = .ok (.iload 4, 2) := by decide +kernel
theorem dX5_listen_89 : decode cX5_listen 89 = .ok (.imul, 1) := by decide +kernel
theorem dX5_listen_90 : decode cX5_listen 90 = .ok (.aload_n 0, 1) := by decide +kernel
theorem dX5_listen_91 : decode cX5_listen 91 = .ok (.getfield 28, 3) := by decide +kernel
theorem dX5_listen_94 : decode cX5_listen 94 = .ok (.iload 4, 2) := by decide +kernel
theorem dX5_listen_96 : decode cX5_listen 96 = .ok (.iaload, 1) := by decide +kernel
theorem dX5_listen_97 : decode cX5_listen 97 = .ok (.iadd, 1) := by decide +kernel
theorem dX5_listen_98 : decode cX5_listen 98 = .ok (.dup2, 1) := by decide +kernel
theorem dX5_listen_99 : decode cX5_listen 99 = .ok (.iaload, 1) := by decide +kernel
theorem dX5_listen_100 : decode cX5_listen 100 = .ok (.iconst 1, 1) := by decide +kernel
theorem dX5_listen_101 : decode cX5_listen 101 = .ok (.iadd, 1) := by decide +kernel
theorem dX5_listen_102 : decode cX5_listen 102 = .ok (.iastore, 1) := by decide +kernel
theorem dX5_listen_103 : decode cX5_listen 103 = .ok (.iinc 4 1, 3) := by decide +kernel
theorem dX5_listen_106 : decode cX5_listen 106 = .ok (.goto (-34), 3) := by decide +kernel
theorem dX5_listen_109 : decode cX5_listen 109 = .ok (.iinc 3 1, 3) := by decide +kernel
theorem dX5_listen_112 : decode cX5_listen 112 = .ok (.goto (-74), 3) := by decide +kernel
theorem dX5_listen_115 : decode cX5_listen 115 = .ok (.iload_n 2, 1) := by decide +kernel
theorem dX5_listen_116 : decode cX5_listen 116 = .ok (.ifCond .ne 6, 3) := by decide +kernel
theorem dX5_listen_119 : decode cX5_listen 119 = .ok (.bipush (-6), 2) := by decide +kernel
theorem dX5_listen_121 : decode cX5_listen 121 = .ok (.ireturn, 1) := by decide +kernel
theorem dX5_listen_122 : decode cX5_listen 122 = .ok (.iconst 0, 1) := by decide +kernel
theorem dX5_listen_123 : decode cX5_listen 123 = .ok (.istore_n 3, 1) := by decide +kernel
theorem dX5_listen_124 : decode cX5_listen 124 = .ok (.iconst 1, 1) := by decide +kernel
theorem dX5_listen_125 : decode cX5_listen 125 = .ok (.istore 4, 2) := by decide +kernel
theorem dX5_listen_127 : decode cX5_listen 127 = .ok (.iload 4, 2) := by decide +kernel
theorem dX5_listen_129 : decode cX5_listen 129 = .ok (.aload_n 0, 1) := by decide +kernel
theorem dX5_listen_130 : decode cX5_listen 130 = .ok (.getfield 73, 3) := by decide +kernel
theorem dX5_listen_133 : decode cX5_listen 133 = .ok (.if_icmp .ge 30, 3) := by decide +kernel
theorem dX5_listen_136 : decode cX5_listen 136 = .ok (.aload_n 0, 1) := by decide +kernel
theorem dX5_listen_137 : decode cX5_listen 137 = .ok (.iload 4, 2) := by decide +kernel
theorem dX5_listen_139 : decode cX5_listen 139 = .ok (.invokevirtual 204, 3) := by decide +kernel
theorem dX5_listen_142 : decode cX5_listen 142 = .ok (.aload_n 0, 1) := by decide +kernel
theorem dX5_listen_143 : decode cX5_listen 143 = .ok (.iload_n 3, 1) := by decide +kernel
theorem dX5_listen_144 : decode cX5_listen 144 = .ok (.invokevirtual 204, 3) := by decide +kernel
theorem dX5_listen_147 : decode cX5_listen 147 = .ok (.if_icmp .ge 8, 3) := by decide +kernel
theorem dX5_listen_150 : decode cX5_listen 150 = .ok (.iload 4, 2) := by decide +kernel
theorem dX5_listen_152 : decode cX5_listen 152 = .ok (.goto 4, 3) := by decide +kernel
theorem dX5_listen_155 : decode cX5_listen 155 = .ok (.iload_n 3, 1) := by decide +kernel
theorem dX5_listen_156 : decode cX5_listen 156 = .ok (.istore_n 3, 1) := by decide +kernel
theorem dX5_listen_157 : decode cX5_listen 157 = .ok (.iinc 4 1, 3) := by decide +kernel
theorem dX5_listen_160 : decode cX5_listen 160 = .ok (.goto (-33), 3) := by decide +kernel
theorem dX5_listen_163 : decode cX5_listen 163 = .ok (.iload_n 1, 1) := by decide +kernel
theorem dX5_listen_164 : decode cX5_listen 164 = .ok (.ifCond .ne 7, 3) := by decide +kernel
theorem dX5_listen_167 : decode cX5_listen 167 = .ok (.iload_n 3, 1) := by decide +kernel
theorem dX5_listen_168 : decode cX5_listen 168 = .ok (.goto 8, 3) := by decide +kernel
theorem dX5_listen_171 : decode cX5_listen 171 = .ok (.aload_n 0, 1) := by decide +kernel
theorem dX5_listen_172 : decode cX5_listen 172 = .ok (.iload_n 3, 1) := by decide +kernel
theorem dX5_listen_173 : decode cX5_listen 173 = .ok (.invokevirtual 204, 3) := by decide +kernel
theorem dX5_listen_176 : decode cX5_listen 176 = .ok (.ireturn, 1) := by decide +kernel
theorem dX5_layMembers_0 : decode cX5_layMembers 0 = .ok (.aload_n 0, 1) := by decide +kernel
theorem dX5_layMembers_1 : decode cX5_layMembers 1 = .ok (.iconst 0, 1) := by decide +kernel
theorem dX5_layMembers_2 : decode cX5_layMembers 2 = .ok (.putfield 207, 3) := by decide +kernel
theorem dX5_layMembers_5 : decode cX5_layMembers 5 = .ok (.iconst 0, 1) := by decide +kernel
theorem dX5_layMembers_6 : decode cX5_layMembers 6 = .ok (.istore_n 2, 1) := by decide +kernel
theorem dX5_layMembers_7 : decode cX5_layMembers 7 = .ok (.iload_n 2, 1) := by decide +kernel
theorem dX5_layMembers_8 : decode cX5_layMembers 8 = .ok (.aload_n 0, 1) := by decide +kernel
theorem dX5_layMembers_9 : decode cX5_layMembers 9 = .ok (.getfield 73, 3) := by decide +kernel
theorem dX5_layMembers_12 : decode cX5_layMembers 12 = .ok (.if_icmp .ge 38, 3) := by decide +kernel
theorem dX5_layMembers_15 : decode cX5_layMembers 15 = .ok (.iload_n 1, 1) := by decide +kernel
theorem dX5_layMembers_16 : decode cX5_layMembers 16 = .ok (.iload_n 2, 1) := by decide +kernel
theorem dX5_layMembers_17 : decode cX5_layMembers 17 = .ok (.ishr, 1) := by decide +kernel
theorem dX5_layMembers_18 : decode cX5_layMembers 18 = .ok (.iconst 1, 1) := by decide +kernel
theorem dX5_layMembers_19 : decode cX5_layMembers 19 = .ok (.iand, 1) := by decide +kernel
theorem dX5_layMembers_20 : decode cX5_layMembers 20 = .ok (.iconst 1, 1) := by decide +kernel
theorem dX5_layMembers_21 : decode cX5_layMembers 21 = .ok (.if_icmp .ne 23, 3) := by decide +kernel
theorem dX5_layMembers_24 : decode cX5_layMembers 24 = .ok (.aload_n 0, 1) := by decide +kernel
theorem dX5_layMembers_25 : decode cX5_layMembers 25 = .ok (.getfield 49, 3) := by decide +kernel
theorem dX5_layMembers_28 : decode cX5_layMembers 28 = .ok (.aload_n 0, 1) := by decide +kernel
theorem dX5_layMembers_29 : decode cX5_layMembers 29 = .ok (.getfield 207, 3) := by decide +kernel
theorem dX5_layMembers_32 : decode cX5_layMembers 32 = .ok (.iload_n 2, 1) := by decide +kernel
theorem dX5_layMembers_33 : decode cX5_layMembers 33 = .ok (.iastore, 1) := by decide +kernel
theorem dX5_layMembers_34 : decode cX5_layMembers 34 = .ok (.aload_n 0, 1) := by decide +kernel
theorem dX5_layMembers_35 : decode cX5_layMembers 35 = .ok (.dup, 1) := by decide +kernel
theorem dX5_layMembers_36 : decode cX5_layMembers 36 = .ok (.getfield 207, 3) := by decide +kernel
theorem dX5_layMembers_39 : decode cX5_layMembers 39 = .ok (.iconst 1, 1) := by decide +kernel
theorem dX5_layMembers_40 : decode cX5_layMembers 40 = .ok (.iadd, 1) := by decide +kernel
theorem dX5_layMembers_41 : decode cX5_layMembers 41 = .ok (.putfield 207, 3) := by decide +kernel
theorem dX5_layMembers_44 : decode cX5_layMembers 44 = .ok (.iinc 2 1, 3) := by decide +kernel
theorem dX5_layMembers_47 : decode cX5_layMembers 47 = .ok (.goto (-40), 3) := by decide +kernel
theorem dX5_layMembers_50 : decode cX5_layMembers 50 = .ok (.return_, 1) := by decide +kernel
theorem dX5_gainOf_0 : decode cX5_gainOf 0 = .ok (.aload_n 0, 1) := by decide +kernel
theorem dX5_gainOf_1 : decode cX5_gainOf 1 = .ok (.getfield 7, 3) := by decide +kernel
theorem dX5_gainOf_4 : decode cX5_gainOf 4 = .ok (.iconst 1, 1) := by decide +kernel
theorem dX5_gainOf_5 : decode cX5_gainOf 5 = .ok (.iload_n 1, 1) := by decide +kernel
theorem dX5_gainOf_6 : decode cX5_gainOf 6 = .ok (.invokestatic 82, 3) := by decide +kernel
theorem dX5_gainOf_9 : decode cX5_gainOf 9 = .ok (.iaload, 1) := by decide +kernel
theorem dX5_gainOf_10 : decode cX5_gainOf 10 = .ok (.istore_n 3, 1) := by decide +kernel
theorem dX5_gainOf_11 : decode cX5_gainOf 11 = .ok (.aload_n 0, 1) := by decide +kernel
theorem dX5_gainOf_12 : decode cX5_gainOf 12 = .ok (.getfield 7, 3) := by decide +kernel
theorem dX5_gainOf_15 : decode cX5_gainOf 15 = .ok (.iconst 1, 1) := by decide +kernel
theorem dX5_gainOf_16 : decode cX5_gainOf 16 = .ok (.iload_n 1, 1) := by decide +kernel
theorem dX5_gainOf_17 : decode cX5_gainOf 17 = .ok (.invokestatic 82, 3) := by decide +kernel
theorem dX5_gainOf_20 : decode cX5_gainOf 20 = .ok (.iload_n 2, 1) := by decide +kernel
theorem dX5_gainOf_21 : decode cX5_gainOf 21 = .ok (.iastore, 1) := by decide +kernel
theorem dX5_gainOf_22 : decode cX5_gainOf 22 = .ok (.aload_n 0, 1) := by decide +kernel
theorem dX5_gainOf_23 : decode cX5_gainOf 23 = .ok (.iconst 0, 1) := by decide +kernel
theorem dX5_gainOf_24 : decode cX5_gainOf 24 = .ok (.invokevirtual 131, 3) := by decide +kernel
theorem dX5_gainOf_27 : decode cX5_gainOf 27 = .ok (.aload_n 0, 1) := by decide +kernel
theorem dX5_gainOf_28 : decode cX5_gainOf 28 = .ok (.getfield 7, 3) := by decide +kernel
theorem dX5_gainOf_31 : decode cX5_gainOf 31 = .ok (.iconst 1, 1) := by decide +kernel
theorem dX5_gainOf_32 : decode cX5_gainOf 32 = .ok (.iload_n 1, 1) := by decide +kernel
theorem dX5_gainOf_33 : decode cX5_gainOf 33 = .ok (.invokestatic 82, 3) := by decide +kernel
theorem dX5_gainOf_36 : decode cX5_gainOf 36 = .ok (.iload_n 3, 1) := by decide +kernel
theorem dX5_gainOf_37 : decode cX5_gainOf 37 = .ok (.iastore, 1) := by decide +kernel
theorem dX5_gainOf_38 : decode cX5_gainOf 38 = .ok (.iconst 4, 1) := by decide +kernel
theorem dX5_gainOf_39 : decode cX5_gainOf 39 = .ok (.aload_n 0, 1) := by decide +kernel
theorem dX5_gainOf_40 : decode cX5_gainOf 40 = .ok (.getfield 28, 3) := by decide +kernel
theorem dX5_gainOf_43 : decode cX5_gainOf 43 = .ok (.iload_n 1, 1) := by decide +kernel
theorem dX5_gainOf_44 : decode cX5_gainOf 44 = .ok (.iaload, 1) := by decide +kernel
theorem dX5_gainOf_45 : decode cX5_gainOf 45 = .ok (.imul, 1) := by decide +kernel
theorem dX5_gainOf_46 : decode cX5_gainOf 46 = .ok (.iconst 3, 1) := by decide +kernel
theorem dX5_gainOf_47 : decode cX5_gainOf 47 = .ok (.iload_n 2, 1) := by decide +kernel
theorem dX5_gainOf_48 : decode cX5_gainOf 48 = .ok (.imul, 1) := by decide +kernel
theorem dX5_gainOf_49 : decode cX5_gainOf 49 = .ok (.isub, 1) := by decide +kernel
theorem dX5_gainOf_50 : decode cX5_gainOf 50 = .ok (.ireturn, 1) := by decide +kernel
theorem dX5_isRest_0 : decode cX5_isRest 0 = .ok (.iconst 1, 1) := by decide +kernel
theorem dX5_isRest_1 : decode cX5_isRest 1 = .ok (.istore_n 1, 1) := by decide +kernel
theorem dX5_isRest_2 : decode cX5_isRest 2 = .ok (.iconst 0, 1) := by decide +kernel
theorem dX5_isRest_3 : decode cX5_isRest 3 = .ok (.istore_n 2, 1) := by decide +kernel
theorem dX5_isRest_4 : decode cX5_isRest 4 = .ok (.iload_n 2, 1) := by decide +kernel
theorem dX5_isRest_5 : decode cX5_isRest 5 = .ok (.aload_n 0, 1) := by decide +kernel
theorem dX5_isRest_6 : decode cX5_isRest 6 = .ok (.getfield 207, 3) := by decide +kernel
theorem dX5_isRest_9 : decode cX5_isRest 9 = .ok (.if_icmp .ge 76, 3) := by decide +kernel
theorem dX5_isRest_12 : decode cX5_isRest 12 = .ok (.aload_n 0, 1) := by decide +kernel
theorem dX5_isRest_13 : decode cX5_isRest 13 = .ok (.aload_n 0, 1) := by decide +kernel
theorem dX5_isRest_14 : decode cX5_isRest 14 = .ok (.getfield 49, 3) := by decide +kernel
theorem dX5_isRest_17 : decode cX5_isRest 17 = .ok (.iload_n 2, 1) := by decide +kernel
theorem dX5_isRest_18 : decode cX5_isRest 18 = .ok (.iaload, 1) := by decide +kernel
theorem dX5_isRest_19 : decode cX5_isRest 19 = .ok (.aload_n 0, 1) := by decide +kernel
theorem dX5_isRest_20 : decode cX5_isRest 20 = .ok (.getfield 7, 3) := by decide +kernel
theorem dX5_isRest_23 : decode cX5_isRest 23 = .ok (.iconst 1, 1) := by decide +kernel
theorem dX5_isRest_24 : decode cX5_isRest 24 = .ok (.aload_n 0, 1) := by decide +kernel
theorem dX5_isRest_25 : decode cX5_isRest 25 = .ok (.getfield 49, 3) := by decide +kernel
theorem dX5_isRest_28 : decode cX5_isRest 28 = .ok (.iload_n 2, 1) := by decide +kernel
theorem dX5_isRest_29 : decode cX5_isRest 29 = .ok (.iaload, 1) := by decide +kernel
theorem dX5_isRest_30 : decode cX5_isRest 30 = .ok (.invokestatic 82, 3) := by decide +kernel
theorem dX5_isRest_33 : decode cX5_isRest 33 = .ok (.iaload, 1) := by decide +kernel
theorem dX5_isRest_34 : decode cX5_isRest 34 = .ok (.invokevirtual 210, 3) := by decide +kernel
theorem dX5_isRest_37 : decode cX5_isRest 37 = .ok (.istore_n 3, 1) := by decide +kernel
theorem dX5_isRest_38 : decode cX5_isRest 38 = .ok (.iconst 0, 1) := by decide +kernel
theorem dX5_isRest_39 : decode cX5_isRest 39 = .ok (.istore 4, 2) := by decide +kernel
theorem dX5_isRest_41 : decode cX5_isRest 41 = .ok (.iload 4, 2) := by decide +kernel
theorem dX5_isRest_43 : decode cX5_isRest 43 = .ok (.iconst 5, 1) := by decide +kernel
theorem dX5_isRest_44 : decode cX5_isRest 44 = .ok (.if_icmp .ge 35, 3) := by decide +kernel
theorem dX5_isRest_47 : decode cX5_isRest 47 = .ok (.iload_n 1, 1) := by decide +kernel
theorem dX5_isRest_48 : decode cX5_isRest 48 = .ok (.ifCond .eq 23, 3) := by decide +kernel
theorem dX5_isRest_51 : decode cX5_isRest 51 = .ok (.aload_n 0, 1) := by decide +kernel
theorem dX5_isRest_52 : decode cX5_isRest 52 = .ok (.aload_n 0, 1) := by decide +kernel
theorem dX5_isRest_53 : decode cX5_isRest 53 = .ok (.getfield 49, 3) := by decide +kernel
theorem dX5_isRest_56 : decode cX5_isRest 56 = .ok (.iload_n 2, 1) := by decide +kernel
theorem dX5_isRest_57 : decode cX5_isRest 57 = .ok (.iaload, 1) := by decide +kernel
theorem dX5_isRest_58 : decode cX5_isRest 58 = .ok (.iload 4, 2) := by decide +kernel
theorem dX5_isRest_60 : decode cX5_isRest 60 = .ok (.invokevirtual 210, 3) := by decide +kernel
theorem dX5_isRest_63 : decode cX5_isRest 63 = .ok (.iload_n 3, 1) := by decide +kernel
theorem dX5_isRest_64 : decode cX5_isRest 64 = .ok (.if_icmp .gt 7, 3) := by decide +kernel
theorem dX5_isRest_67 : decode cX5_isRest 67 = .ok (.iconst 1, 1) := by decide +kernel
theorem dX5_isRest_68 : decode cX5_isRest 68 = .ok (.goto 4, 3) := by decide +kernel
theorem dX5_isRest_71 : decode cX5_isRest 71 = .ok (.iconst 0, 1) := by decide +kernel
theorem dX5_isRest_72 : decode cX5_isRest 72 = .ok (.istore_n 1, 1) := by decide +kernel
theorem dX5_isRest_73 : decode cX5_isRest 73 = .ok (.iinc 4 1, 3) := by decide +kernel
theorem dX5_isRest_76 : decode cX5_isRest 76 = .ok (.goto (-35), 3) := by decide +kernel
theorem dX5_isRest_79 : decode cX5_isRest 79 = .ok (.iinc 2 1, 3) := by decide +kernel
theorem dX5_isRest_82 : decode cX5_isRest 82 = .ok (.goto (-78), 3) := by decide +kernel
theorem dX5_isRest_85 : decode cX5_isRest 85 = .ok (.iload_n 1, 1) := by decide +kernel
theorem dX5_isRest_86 : decode cX5_isRest 86 = .ok (.ireturn, 1) := by decide +kernel
theorem dX5_layWidths_0 : decode cX5_layWidths 0 = .ok (.iload_n 1, 1) := by decide +kernel
theorem dX5_layWidths_1 : decode cX5_layWidths 1 = .ok (.istore_n 2, 1) := by decide +kernel
theorem dX5_layWidths_2 : decode cX5_layWidths 2 = .ok (.iconst 0, 1) := by decide +kernel
theorem dX5_layWidths_3 : decode cX5_layWidths 3 = .ok (.istore_n 3, 1) := by decide +kernel
theorem dX5_layWidths_4 : decode cX5_layWidths 4 = .ok (.iconst 1, 1) := by decide +kernel
theorem dX5_layWidths_5 : decode cX5_layWidths 5 = .ok (.istore 4, 2) := by decide +kernel
theorem dX5_layWidths_7 : decode cX5_layWidths 7 = .ok (.aload_n 0, 1) := by decide +kernel
theorem dX5_layWidths_8 : decode cX5_layWidths 8 = .ok (.getfield 207, 3) := by decide +kernel
theorem dX5_layWidths_11 : decode cX5_layWidths 11 = .ok (.iconst 1, 1) := by decide +kernel
theorem dX5_layWidths_12 : decode cX5_layWidths 12 = .ok (.isub, 1) := by decide +kernel
theorem dX5_layWidths_13 : decode cX5_layWidths 13 = .ok (.istore 5, 2) := by decide +kernel
theorem dX5_layWidths_15 : decode cX5_layWidths 15 = .ok (.iload 5, 2) := by decide +kernel
theorem dX5_layWidths_17 : decode cX5_layWidths 17 = .ok (.ifCond .lt 48, 3) := by decide +kernel
theorem dX5_layWidths_20 : decode cX5_layWidths 20 = .ok (.aload_n 0, 1) := by decide +kernel
theorem dX5_layWidths_21 : decode cX5_layWidths 21 = .ok (.getfield 7, 3) := by decide +kernel
theorem dX5_layWidths_24 : decode cX5_layWidths 24 = .ok (.iconst 1, 1) := by decide +kernel
theorem dX5_layWidths_25 : decode cX5_layWidths 25 = .ok (.aload_n 0, 1) := by decide +kernel
theorem dX5_layWidths_26 : decode cX5_layWidths 26 = .ok (.getfield 49, 3) := by decide +kernel
theorem dX5_layWidths_29 : decode cX5_layWidths 29 = .ok (.iload 5, 2) := by decide +kernel
theorem dX5_layWidths_31 : decode cX5_layWidths 31 = .ok (.iaload, 1) := by decide +kernel
theorem dX5_layWidths_32 : decode cX5_layWidths 32 = .ok (.invokestatic 82, 3) := by decide +kernel
theorem dX5_layWidths_35 : decode cX5_layWidths 35 = .ok (.iload_n 2, 1) := by decide +kernel
theorem dX5_layWidths_36 : decode cX5_layWidths 36 = .ok (.iconst 5, 1) := by decide +kernel
theorem dX5_layWidths_37 : decode cX5_layWidths 37 = .ok (.irem, 1) := by decide +kernel
theorem dX5_layWidths_38 : decode cX5_layWidths 38 = .ok (.iastore, 1) := by decide +kernel
theorem dX5_layWidths_39 : decode cX5_layWidths 39 = .ok (.iload_n 3, 1) := by decide +kernel
theorem dX5_layWidths_40 : decode cX5_layWidths 40 = .ok (.iload 4, 2) := by decide +kernel
theorem dX5_layWidths_42 : decode cX5_layWidths 42 = .ok (.iload_n 2, 1) := by decide +kernel
theorem dX5_layWidths_43 : decode cX5_layWidths 43 = .ok (.iconst 5, 1) := by decide +kernel
theorem dX5_layWidths_44 : decode cX5_layWidths 44 = .ok (.irem, 1) := by decide +kernel
theorem dX5_layWidths_45 : decode cX5_layWidths 45 = .ok (.imul, 1) := by decide +kernel
theorem dX5_layWidths_46 : decode cX5_layWidths 46 = .ok (.iadd, 1) := by decide +kernel
theorem dX5_layWidths_47 : decode cX5_layWidths 47 = .ok (.istore_n 3, 1) := by decide +kernel
theorem dX5_layWidths_48 : decode cX5_layWidths 48 = .ok (.iload 4, 2) := by decide +kernel
theorem dX5_layWidths_50 : decode cX5_layWidths 50 = .ok (.bipush 10, 2) := by decide +kernel
theorem dX5_layWidths_52 : decode cX5_layWidths 52 = .ok (.imul, 1) := by decide +kernel
theorem dX5_layWidths_53 : decode cX5_layWidths 53 = .ok (.istore 4, 2) := by decide +kernel
theorem dX5_layWidths_55 : decode cX5_layWidths 55 = .ok (.iload_n 2, 1) := by decide +kernel
theorem dX5_layWidths_56 : decode cX5_layWidths 56 = .ok (.iconst 5, 1) := by decide +kernel
theorem dX5_layWidths_57 : decode cX5_layWidths 57 = .ok (.idiv, 1) := by decide +kernel
theorem dX5_layWidths_58 : decode cX5_layWidths 58 = .ok (.istore_n 2, 1) := by decide +kernel
theorem dX5_layWidths_59 : decode cX5_layWidths 59 = .ok (.iinc 5 (-1), 3) := by decide +kernel
theorem dX5_layWidths_62 : decode cX5_layWidths 62 = .ok (.goto (-47), 3) := by decide +kernel
theorem dX5_layWidths_65 : decode cX5_layWidths 65 = .ok (.iload_n 3, 1) := by decide +kernel
theorem dX5_layWidths_66 : decode cX5_layWidths 66 = .ok (.ireturn, 1) := by decide +kernel
theorem dX5_rests_0 : decode cX5_rests 0 = .ok (.iload_n 1, 1) := by decide +kernel
theorem dX5_rests_1 : decode cX5_rests 1 = .ok (.i2l, 1) := by decide +kernel
theorem dX5_rests_2 : decode cX5_rests 2 = .ok (.lconst 1, 1) := by decide +kernel
theorem dX5_rests_3 : decode cX5_rests 3 = .ok (.iconst 1, 1) := by decide +kernel
theorem dX5_rests_4 : decode cX5_rests 4 = .ok (.aload_n 0, 1) := by decide +kernel
theorem dX5_rests_5 : decode cX5_rests 5 = .ok (.getfield 73, 3) := by decide +kernel
theorem dX5_rests_8 : decode cX5_rests 8 = .ok (.ishl, 1) := by decide +kernel
theorem dX5_rests_9 : decode cX5_rests 9 = .ok (.iconst 1, 1) := by decide +kernel
theorem dX5_rests_10 : decode cX5_rests 10 = .ok (.isub, 1) := by decide +kernel
theorem dX5_rests_11 : decode cX5_rests 11 = .ok (.i2l, 1) := by decide +kernel
theorem dX5_rests_12 : decode cX5_rests 12 = .ok (.invokestatic 86, 3) := by decide +kernel
theorem dX5_rests_15 : decode cX5_rests 15 = .ok (.ifCond .ne 6, 3) := by decide +kernel
theorem dX5_rests_18 : decode cX5_rests 18 = .ok (.bipush (-2), 2) := by decide +kernel
theorem dX5_rests_20 : decode cX5_rests 20 = .ok (.ireturn, 1) := by decide +kernel
theorem dX5_rests_21 : decode cX5_rests 21 = .ok (.iload_n 1, 1) := by decide +kernel
theorem dX5_rests_22 : decode cX5_rests 22 = .ok (.invokestatic 213, 3) := by decide +kernel
theorem dX5_rests_25 : decode cX5_rests 25 = .ok (.iconst 3, 1) := by decide +kernel
theorem dX5_rests_26 : decode cX5_rests 26 = .ok (.if_icmp .le 6, 3) := by decide +kernel
theorem dX5_rests_29 : decode cX5_rests 29 = .ok (.bipush (-4), 2) := by decide +kernel
theorem dX5_rests_31 : decode cX5_rests 31 = .ok (.ireturn, 1) := by decide +kernel
theorem dX5_rests_32 : decode cX5_rests 32 = .ok (.aload_n 0, 1) := by decide +kernel
theorem dX5_rests_33 : decode cX5_rests 33 = .ok (.iload_n 1, 1) := by decide +kernel
theorem dX5_rests_34 : decode cX5_rests 34 = .ok (.invokevirtual 216, 3) := by decide +kernel
theorem dX5_rests_37 : decode cX5_rests 37 = .ok (.aload_n 0, 1) := by decide +kernel
theorem dX5_rests_38 : decode cX5_rests 38 = .ok (.invokevirtual 159, 3) := by decide +kernel
theorem dX5_rests_41 : decode cX5_rests 41 = .ok (.aload_n 0, 1) := by decide +kernel
theorem dX5_rests_42 : decode cX5_rests 42 = .ok (.getfield 207, 3) := by decide +kernel
theorem dX5_rests_45 : decode cX5_rests 45 = .ok (.iconst 1, 1) := by decide +kernel
theorem dX5_rests_46 : decode cX5_rests 46 = .ok (.if_icmp .ne 7, 3) := by decide +kernel
theorem dX5_rests_49 : decode cX5_rests 49 = .ok (.iconst 5, 1) := by decide +kernel
theorem dX5_rests_50 : decode cX5_rests 50 = .ok (.goto 18, 3) := by decide +kernel
theorem dX5_rests_53 : decode cX5_rests 53 = .ok (.aload_n 0, 1) := by decide +kernel
theorem dX5_rests_54 : decode cX5_rests 54 = .ok (.getfield 207, 3) := by decide +kernel
theorem dX5_rests_57 : decode cX5_rests 57 = .ok (.iconst 2, 1) := by decide +kernel
theorem dX5_rests_58 : decode cX5_rests 58 = .ok (.if_icmp .ne 8, 3) := by decide +kernel
theorem dX5_rests_61 : decode cX5_rests 61 = .ok (.bipush 25, 2) := by decide +kernel
theorem dX5_rests_63 : decode cX5_rests 63 = .ok (.goto 5, 3) := by decide +kernel
theorem dX5_rests_66 : decode cX5_rests 66 = .ok (.bipush 125, 2) := by decide +kernel
theorem dX5_rests_68 : decode cX5_rests 68 = .ok (.istore_n 3, 1) := by decide +kernel
theorem dX5_rests_69 : decode cX5_rests 69 = .ok (.iconst 0, 1) := by decide +kernel
theorem dX5_rests_70 : decode cX5_rests 70 = .ok (.istore 4, 2) := by decide +kernel
theorem dX5_rests_72 : decode cX5_rests 72 = .ok (.bipush (-6), 2) := by decide +kernel
theorem dX5_rests_74 : decode cX5_rests 74 = .ok (.istore 5, 2) := by decide +kernel
theorem dX5_rests_76 : decode cX5_rests 76 = .ok (.iconst 0, 1) := by decide +kernel
theorem dX5_rests_77 : decode cX5_rests 77 = .ok (.istore 6, 2) := by decide +kernel
theorem dX5_rests_79 : decode cX5_rests 79 = .ok (.iload 6, 2) := by decide +kernel
theorem dX5_rests_81 : decode cX5_rests 81 = .ok (.iload_n 3, 1) := by decide +kernel
theorem dX5_rests_82 : decode cX5_rests 82 = .ok (.if_icmp .ge 42, 3) := by decide +kernel
theorem dX5_rests_85 : decode cX5_rests 85 = .ok (.aload_n 0, 1) := by decide +kernel
theorem dX5_rests_86 : decode cX5_rests 86 = .ok (.iload 6, 2) := by decide +kernel
theorem dX5_rests_88 : decode cX5_rests 88 = .ok (.invokevirtual 219, 3) := by decide +kernel
theorem dX5_rests_91 : decode cX5_rests 91 = .ok (.istore 7, 2) := by decide +kernel
theorem dX5_rests_93 : decode cX5_rests 93 = .ok (.aload_n 0, 1) := by decide +kernel
theorem dX5_rests_94 : decode cX5_rests 94 = .ok (.invokevirtual 222, 3) := by decide +kernel
theorem dX5_rests_97 : decode cX5_rests 97 = .ok (.ifCond .eq 21, 3) := by decide +kernel
theorem dX5_rests_100 : decode cX5_rests 100 = .ok (.iload 4, 2) := by decide +kernel
theorem dX5_rests_102 : decode cX5_rests 102 = .ok (.iload_n 2, 1) := by decide +kernel
theorem dX5_rests_103 : decode cX5_rests 103 = .ok (.if_icmp .ne 8, 3) := by decide +kernel
theorem dX5_rests_106 : decode cX5_rests 106 = .ok (.iload 7, 2) := by decide +kernel
theorem dX5_rests_108 : decode cX5_rests 108 = .ok (.goto 5, 3) := by decide +kernel
theorem dX5_rests_111 : decode cX5_rests 111 = .ok (.iload 5, 2) := by decide +kernel
theorem dX5_rests_113 : decode cX5_rests 113 = .ok (.istore 5, 2) := by decide +kernel
theorem dX5_rests_115 : decode cX5_rests 115 = .ok (.iinc 4 1, 3) := by decide +kernel
theorem dX5_rests_118 : decode cX5_rests 118 = .ok (.iinc 6 1, 3) := by decide +kernel
theorem dX5_rests_121 : decode cX5_rests 121 = .ok (.goto (-42), 3) := by decide +kernel
theorem dX5_rests_124 : decode cX5_rests 124 = .ok (.aload_n 0, 1) := by decide +kernel
theorem dX5_rests_125 : decode cX5_rests 125 = .ok (.invokevirtual 165, 3) := by decide +kernel
theorem dX5_rests_128 : decode cX5_rests 128 = .ok (.iload_n 2, 1) := by decide +kernel
theorem dX5_rests_129 : decode cX5_rests 129 = .ok (.iconst (-1), 1) := by decide +kernel
theorem dX5_rests_130 : decode cX5_rests 130 = .ok (.if_icmp .ne 8, 3) := by decide +kernel
theorem dX5_rests_133 : decode cX5_rests 133 = .ok (.iload 4, 2) := by decide +kernel
theorem dX5_rests_135 : decode cX5_rests 135 = .ok (.goto 5, 3) := by decide +kernel
theorem dX5_rests_138 : decode cX5_rests 138 = .ok (.iload 5, 2) := by decide +kernel
theorem dX5_rests_140 : decode cX5_rests 140 = .ok (.ireturn, 1) := by decide +kernel
theorem dX5_lowest_0 : decode cX5_lowest 0 = .ok (.lload_n 2, 1) := by decide +kernel
theorem dX5_lowest_1 : decode cX5_lowest 1 = .ok (.lstore 5, 2) := by decide +kernel
theorem dX5_lowest_3 : decode cX5_lowest 3 = .ok (.lload_n 0, 1) := by decide +kernel
theorem dX5_lowest_4 : decode cX5_lowest 4 = .ok (.lstore 7, 2) := by decide +kernel
theorem dX5_lowest_6 : decode cX5_lowest 6 = .ok (.lload 7, 2) := by decide +kernel
theorem dX5_lowest_8 : decode cX5_lowest 8 = .ok (.lconst 0, 1) := by decide +kernel
theorem dX5_lowest_9 : decode cX5_lowest 9 = .ok (.lcmp, 1) := by decide +kernel
theorem dX5_lowest_10 : decode cX5_lowest 10 = .ok (.ifCond .eq 21, 3) := by decide +kernel
theorem dX5_lowest_13 : decode cX5_lowest 13 = .ok (.lload 5, 2) := by decide +kernel
theorem dX5_lowest_15 : decode cX5_lowest 15 = .ok (.lload 7, 2) := by decide +kernel
theorem dX5_lowest_17 : decode cX5_lowest 17 = .ok (.lrem, 1) := by decide +kernel
theorem dX5_lowest_18 : decode cX5_lowest 18 = .ok (.lstore 9, 2) := by decide +kernel
theorem dX5_lowest_20 : decode cX5_lowest 20 = .ok (.lload 7, 2) := by decide +kernel
theorem dX5_lowest_22 : decode cX5_lowest 22 = .ok (.lstore 5, 2) := by decide +kernel
theorem dX5_lowest_24 : decode cX5_lowest 24 = .ok (.lload 9, 2) := by decide +kernel
theorem dX5_lowest_26 : decode cX5_lowest 26 = .ok (.lstore 7, 2) := by decide +kernel
theorem dX5_lowest_28 : decode cX5_lowest 28 = .ok (.goto (-22), 3) := by decide +kernel
theorem dX5_lowest_31 : decode cX5_lowest 31 = .ok (.iload 4, 2) := by decide +kernel
theorem dX5_lowest_33 : decode cX5_lowest 33 = .ok (.ifCond .ne 10, 3) := by decide +kernel
theorem dX5_lowest_36 : decode cX5_lowest 36 = .ok (.lload_n 0, 1) := by decide +kernel
theorem dX5_lowest_37 : decode cX5_lowest 37 = .ok (.lload 5, 2) := by decide +kernel
theorem dX5_lowest_39 : decode cX5_lowest 39 = .ok (.ldiv, 1) := by decide +kernel
theorem dX5_lowest_40 : decode cX5_lowest 40 = .ok (.goto 7, 3) := by decide +kernel
theorem dX5_lowest_43 : decode cX5_lowest 43 = .ok (.lload_n 2, 1) := by decide +kernel
theorem dX5_lowest_44 : decode cX5_lowest 44 = .ok (.lload 5, 2) := by decide +kernel
theorem dX5_lowest_46 : decode cX5_lowest 46 = .ok (.ldiv, 1) := by decide +kernel
theorem dX5_lowest_47 : decode cX5_lowest 47 = .ok (.lreturn, 1) := by decide +kernel
theorem dX5_power_0 : decode cX5_power 0 = .ok (.lconst 1, 1) := by decide +kernel
theorem dX5_power_1 : decode cX5_power 1 = .ok (.lstore_n 2, 1) := by decide +kernel
theorem dX5_power_2 : decode cX5_power 2 = .ok (.iconst 0, 1) := by decide +kernel
theorem dX5_power_3 : decode cX5_power 3 = .ok (.istore 4, 2) := by decide +kernel
theorem dX5_power_5 : decode cX5_power 5 = .ok (.iload 4, 2) := by decide +kernel
theorem dX5_power_7 : decode cX5_power 7 = .ok (.iload_n 1, 1) := by decide +kernel
theorem dX5_power_8 : decode cX5_power 8 = .ok (.if_icmp .ge 14, 3) := by decide +kernel
theorem dX5_power_11 : decode cX5_power 11 = .ok (.lload_n 2, 1) := by decide +kernel
theorem dX5_power_12 : decode cX5_power 12 = .ok (.iload_n 0, 1) := by decide +kernel
theorem dX5_power_13 : decode cX5_power 13 = .ok (.i2l, 1) := by decide +kernel
theorem dX5_power_14 : decode cX5_power 14 = .ok (.lmul, 1) := by decide +kernel
theorem dX5_power_15 : decode cX5_power 15 = .ok (.lstore_n 2, 1) := by decide +kernel
theorem dX5_power_16 : decode cX5_power 16 = .ok (.iinc 4 1, 3) := by decide +kernel
theorem dX5_power_19 : decode cX5_power 19 = .ok (.goto (-14), 3) := by decide +kernel
theorem dX5_power_22 : decode cX5_power 22 = .ok (.lload_n 2, 1) := by decide +kernel
theorem dX5_power_23 : decode cX5_power 23 = .ok (.lreturn, 1) := by decide +kernel
theorem dX5_frost_0 : decode cX5_frost 0 = .ok (.aload_n 0, 1) := by decide +kernel
theorem dX5_frost_1 : decode cX5_frost 1 = .ok (.iload_n 1, 1) := by decide +kernel
theorem dX5_frost_2 : decode cX5_frost 2 = .ok (.invokevirtual 92, 3) := by decide +kernel
theorem dX5_frost_5 : decode cX5_frost 5 = .ok (.ifCond .ne 7, 3) := by decide +kernel
theorem dX5_frost_8 : decode cX5_frost 8 = .ok (.ldc2_w 225, 3) := by decide +kernel
theorem dX5_frost_11 : decode cX5_frost 11 = .ok (.lreturn, 1) := by decide +kernel
theorem dX5_frost_12 : decode cX5_frost 12 = .ok (.iload_n 2, 1) := by decide +kernel
theorem dX5_frost_13 : decode cX5_frost 13 = .ok (.i2l, 1) := by decide +kernel
theorem dX5_frost_14 : decode cX5_frost 14 = .ok (.lconst 0, 1) := by decide +kernel
theorem dX5_frost_15 : decode cX5_frost 15 = .ok (.ldc2_w 104, 3) := by decide +kernel
theorem dX5_frost_18 : decode cX5_frost 18 = .ok (.invokestatic 86, 3) := by decide +kernel
theorem dX5_frost_21 : decode cX5_frost 21 = .ok (.ifCond .eq 39, 3) := by decide +kernel
theorem dX5_frost_24 : decode cX5_frost 24 = .ok (.iload_n 3, 1) := by decide +kernel
theorem dX5_frost_25 : decode cX5_frost 25 = .ok (.i2l, 1) := by decide +kernel
theorem dX5_frost_26 : decode cX5_frost 26 = .ok (.lconst 0, 1) := by decide +kernel
theorem dX5_frost_27 : decode cX5_frost 27 = .ok (.ldc2_w 227, 3) := by decide +kernel
theorem dX5_frost_30 : decode cX5_frost 30 = .ok (.invokestatic 86, 3) := by decide +kernel
theorem dX5_frost_33 : decode cX5_frost 33 = .ok (.ifCond .eq 27, 3) := by decide +kernel
theorem dX5_frost_36 : decode cX5_frost 36 = .ok (.iload 4, 2) := by decide +kernel
theorem dX5_frost_38 : decode cX5_frost 38 = .ok (.i2l, 1) := by decide +kernel
theorem dX5_frost_39 : decode cX5_frost 39 = .ok (.lconst 0, 1) := by decide +kernel
theorem dX5_frost_40 : decode cX5_frost 40 = .ok (.ldc2_w 229, 3) := by decide +kernel
theorem dX5_frost_43 : decode cX5_frost 43 = .ok (.invokestatic 86, 3) := by decide +kernel
theorem dX5_frost_46 : decode cX5_frost 46 = .ok (.ifCond .eq 14, 3) := by decide +kernel
theorem dX5_frost_49 : decode cX5_frost 49 = .ok (.iload 5, 2) := by decide +kernel
theorem dX5_frost_51 : decode cX5_frost 51 = .ok (.i2l, 1) := by decide +kernel
theorem dX5_frost_52 : decode cX5_frost 52 = .ok (.lconst 0, 1) := by decide +kernel
theorem dX5_frost_53 : decode cX5_frost 53 = .ok (.lconst 1, 1) := by decide +kernel
theorem dX5_frost_54 : decode cX5_frost 54 = .ok (.invokestatic 86, 3) := by decide +kernel
theorem dX5_frost_57 : decode cX5_frost 57 = .ok (.ifCond .ne 7, 3) := by decide +kernel
theorem dX5_frost_60 : decode cX5_frost 60 = .ok (.ldc2_w 231, 3) := by decide +kernel
theorem dX5_frost_63 : decode cX5_frost 63 = .ok (.lreturn, 1) := by decide +kernel
theorem dX5_frost_64 : decode cX5_frost 64 = .ok (.aload_n 0, 1) := by decide +kernel
theorem dX5_frost_65 : decode cX5_frost 65 = .ok (.iconst 2, 1) := by decide +kernel
theorem dX5_frost_66 : decode cX5_frost 66 = .ok (.invokevirtual 131, 3) := by decide +kernel
theorem dX5_frost_69 : decode cX5_frost 69 = .ok (.aload_n 0, 1) := by decide +kernel
theorem dX5_frost_70 : decode cX5_frost 70 = .ok (.getfield 28, 3) := by decide +kernel
theorem dX5_frost_73 : decode cX5_frost 73 = .ok (.iload_n 1, 1) := by decide +kernel
theorem dX5_frost_74 : decode cX5_frost 74 = .ok (.iaload, 1) := by decide +kernel
theorem dX5_frost_75 : decode cX5_frost 75 = .ok (.istore 6, 2) := by decide +kernel
theorem dX5_frost_77 : decode cX5_frost 77 = .ok (.aload_n 0, 1) := by decide +kernel
theorem dX5_frost_78 : decode cX5_frost 78 = .ok (.iconst 0, 1) := by decide +kernel
theorem dX5_frost_79 : decode cX5_frost 79 = .ok (.invokevirtual 131, 3) := by decide +kernel
theorem dX5_frost_82 : decode cX5_frost 82 = .ok (.aload_n 0, 1) := by decide +kernel
theorem dX5_frost_83 : decode cX5_frost 83 = .ok (.getfield 28, 3) := by decide +kernel
theorem dX5_frost_86 : decode cX5_frost 86 = .ok (.iload_n 1, 1) := by decide +kernel
theorem dX5_frost_87 : decode cX5_frost 87 = .ok (.iaload, 1) := by decide +kernel
theorem dX5_frost_88 : decode cX5_frost 88 = .ok (.istore 7, 2) := by decide +kernel
theorem dX5_frost_90 : decode cX5_frost 90 = .ok (.lconst 0, 1) := by decide +kernel
theorem dX5_frost_91 : decode cX5_frost 91 = .ok (.lstore 8, 2) := by decide +kernel
theorem dX5_frost_93 : decode cX5_frost 93 = .ok (.lconst 1, 1) := by decide +kernel
theorem dX5_frost_94 : decode cX5_frost 94 = .ok (.lstore 10, 2) := by decide +kernel
theorem dX5_frost_96 : decode cX5_frost 96 = .ok (.iconst 0, 1) := by decide +kernel
theorem dX5_frost_97 : decode cX5_frost 97 = .ok (.istore 12, 2) := by decide +kernel
theorem dX5_frost_99 : decode cX5_frost 99 = .ok (.iload 12, 2) := by decide +kernel
theorem dX5_frost_101 : decode cX5_frost 101 = .ok (.iload 4, 2) := by decide +kernel
theorem dX5_frost_103 : decode cX5_frost 103 = .ok (.if_icmp .gt 87, 3) := by decide +kernel
theorem dX5_frost_106 : decode cX5_frost 106 = .ok (.iload 12, 2) := by decide +kernel
theorem dX5_frost_108 : decode cX5_frost 108 = .ok (.iload 6, 2) := by decide +kernel
theorem dX5_frost_110 : decode cX5_frost 110 = .ok (.imul, 1) := by decide +kernel
theorem dX5_frost_111 : decode cX5_frost 111 = .ok (.iload 4, 2) := by decide +kernel
theorem dX5_frost_113 : decode cX5_frost 113 = .ok (.iload 12, 2) := by decide +kernel
theorem dX5_frost_115 : decode cX5_frost 115 = .ok (.isub, 1) := by decide +kernel
theorem dX5_frost_116 : decode cX5_frost 116 = .ok (.iload 7, 2) := by decide +kernel
theorem dX5_frost_118 : decode cX5_frost 118 = .ok (.imul, 1) := by decide +kernel
theorem dX5_frost_119 : decode cX5_frost 119 = .ok (.iadd, 1) := by decide +kernel
theorem dX5_frost_120 : decode cX5_frost 120 = .ok (.iload_n 2, 1) := by decide +kernel
theorem dX5_frost_121 : decode cX5_frost 121 = .ok (.if_icmp .lt 7, 3) := by decide +kernel
theorem dX5_frost_124 : decode cX5_frost 124 = .ok (.iconst 1, 1) := by decide +kernel
theorem dX5_frost_125 : decode cX5_frost 125 = .ok (.goto 4, 3) := by decide +kernel
theorem dX5_frost_128 : decode cX5_frost 128 = .ok (.iconst 0, 1) := by decide +kernel
theorem dX5_frost_129 : decode cX5_frost 129 = .ok (.istore 13, 2) := by decide +kernel
theorem dX5_frost_131 : decode cX5_frost 131 = .ok (.lload 8, 2) := by decide +kernel
theorem dX5_frost_133 : decode cX5_frost 133 = .ok (.iload 13, 2) := by decide +kernel
theorem dX5_frost_135 : decode cX5_frost 135 = .ok (.ifCond .eq 28, 3) := by decide +kernel
theorem dX5_frost_138 : decode cX5_frost 138 = .ok (.lload 10, 2) := by decide +kernel
theorem dX5_frost_140 : decode cX5_frost 140 = .ok (.iload_n 3, 1) := by decide +kernel
theorem dX5_frost_141 : decode cX5_frost 141 = .ok (.iload 12, 2) := by decide +kernel
theorem dX5_frost_143 : decode cX5_frost 143 = .ok (.invokestatic 233, 3) := by decide +kernel
theorem dX5_frost_146 : decode cX5_frost 146 = .ok (.lmul, 1) := by decide +kernel
theorem dX5_frost_147 : decode cX5_frost 147 = .ok (.bipush 10, 2) := by decide +kernel
theorem dX5_frost_149 : decode cX5_frost 149 = .ok (.iload_n 3, 1) := by decide +kernel
theorem dX5_frost_150 : decode cX5_frost 150 = .ok (.isub, 1) := by decide +kernel
theorem dX5_frost_151 : decode cX5_frost 151 = .ok (.iload 4, 2) := by decide +kernel
theorem dX5_frost_153 : decode cX5_frost 153 = .ok (.iload 12, 2) := by decide +kernel
theorem dX5_frost_155 : decode cX5_frost 155 = .ok (.isub, 1) := by decide +kernel
theorem dX5_frost_156 : decode cX5_frost 156 = .ok (.invokestatic 233, 3) := by decide +kernel
theorem dX5_frost_159 : decode cX5_frost 159 = .ok (.lmul, 1) := by decide +kernel
theorem dX5_frost_160 : decode cX5_frost 160 = .ok (.goto 4, 3) := by decide +kernel
theorem dX5_frost_163 : decode cX5_frost 163 = .ok (.lconst 0, 1) := by decide +kernel
theorem dX5_frost_164 : decode cX5_frost 164 = .ok (.ladd, 1) := by decide +kernel
theorem dX5_frost_165 : decode cX5_frost 165 = .ok (.lstore 8, 2) := by decide +kernel
theorem dX5_frost_167 : decode cX5_frost 167 = .ok (.lload 10, 2) := by decide +kernel
theorem dX5_frost_169 : decode cX5_frost 169 = .ok (.iload 4, 2) := by decide +kernel
theorem dX5_frost_171 : decode cX5_frost 171 = .ok (.iload 12, 2) := by decide +kernel
theorem dX5_frost_173 : decode cX5_frost 173 = .ok (.isub, 1) := by decide +kernel
theorem dX5_frost_174 : decode cX5_frost 174 = .ok (.i2l, 1) := by decide +kernel
theorem dX5_frost_175 : decode cX5_frost 175 = .ok (.lmul, 1) := by decide +kernel
theorem dX5_frost_176 : decode cX5_frost 176 = .ok (.iload 12, 2) := by decide +kernel
theorem dX5_frost_178 : decode cX5_frost 178 = .ok (.iconst 1, 1) := by decide +kernel
theorem dX5_frost_179 : decode cX5_frost 179 = .ok (.iadd, 1) := by decide +kernel
theorem dX5_frost_180 : decode cX5_frost 180 = .ok (.i2l, 1) := by decide +kernel
theorem dX5_frost_181 : decode cX5_frost 181 = .ok (.ldiv, 1) := by decide +kernel
theorem dX5_frost_182 : decode cX5_frost 182 = .ok (.lstore 10, 2) := by decide +kernel
theorem dX5_frost_184 : decode cX5_frost 184 = .ok (.iinc 12 1, 3) := by decide +kernel
theorem dX5_frost_187 : decode cX5_frost 187 = .ok (.goto (-88), 3) := by decide +kernel
theorem dX5_frost_190 : decode cX5_frost 190 = .ok (.lload 8, 2) := by decide +kernel
theorem dX5_frost_192 : decode cX5_frost 192 = .ok (.bipush 10, 2) := by decide +kernel
theorem dX5_frost_194 : decode cX5_frost 194 = .ok (.iload 4, 2) := by decide +kernel
theorem dX5_frost_196 : decode cX5_frost 196 = .ok (.invokestatic 233, 3) := by decide +kernel
theorem dX5_frost_199 : decode cX5_frost 199 = .ok (.iload 5, 2) := by decide +kernel
theorem dX5_frost_201 : decode cX5_frost 201 = .ok (.invokestatic 237, 3) := by decide +kernel
theorem dX5_frost_204 : decode cX5_frost 204 = .ok (.lreturn, 1) := by decide +kernel
theorem dX5_kindBy_0 : decode cX5_kindBy 0 = .ok (.iload_n 0, 1) := by decide +kernel
theorem dX5_kindBy_1 : decode cX5_kindBy 1 = .ok (.ifCond .ne 7, 3) := by decide +kernel
theorem dX5_kindBy_4 : decode cX5_kindBy 4 = .ok (.iconst 2, 1) := by decide +kernel
theorem dX5_kindBy_5 : decode cX5_kindBy 5 = .ok (.goto 22, 3) := by decide +kernel
theorem dX5_kindBy_8 : decode cX5_kindBy 8 = .ok (.iload_n 0, 1) := by decide +kernel
theorem dX5_kindBy_9 : decode cX5_kindBy 9 = .ok (.iconst 3, 1) := by decide +kernel
theorem dX5_kindBy_10 : decode cX5_kindBy 10 = .ok (.if_icmp .ge 7, 3) := by decide +kernel
theorem dX5_kindBy_13 : decode cX5_kindBy 13 = .ok (.iconst 3, 1) := by decide +kernel
theorem dX5_kindBy_14 : decode cX5_kindBy 14 = .ok (.goto 13, 3) := by decide +kernel
theorem dX5_kindBy_17 : decode cX5_kindBy 17 = .ok (.iload_n 0, 1) := by decide +kernel
theorem dX5_kindBy_18 : decode cX5_kindBy 18 = .ok (.iconst 3, 1) := by decide +kernel
theorem dX5_kindBy_19 : decode cX5_kindBy 19 = .ok (.if_icmp .ne 7, 3) := by decide +kernel
theorem dX5_kindBy_22 : decode cX5_kindBy 22 = .ok (.iconst 1, 1) := by decide +kernel
theorem dX5_kindBy_23 : decode cX5_kindBy 23 = .ok (.goto 4, 3) := by decide +kernel
theorem dX5_kindBy_26 : decode cX5_kindBy 26 = .ok (.iconst 0, 1) := by decide +kernel
theorem dX5_kindBy_27 : decode cX5_kindBy 27 = .ok (.ireturn, 1) := by decide +kernel
theorem dX5_year_0 : decode cX5_year 0 = .ok (.iload_n 1, 1) := by decide +kernel
theorem dX5_year_1 : decode cX5_year 1 = .ok (.i2l, 1) := by decide +kernel
theorem dX5_year_2 : decode cX5_year 2 = .ok (.lconst 0, 1) := by decide +kernel
theorem dX5_year_3 : decode cX5_year 3 = .ok (.ldc2_w 241, 3) := by decide +kernel
theorem dX5_year_6 : decode cX5_year 6 = .ok (.invokestatic 86, 3) := by decide +kernel
theorem dX5_year_9 : decode cX5_year 9 = .ok (.ifCond .eq 27, 3) := by decide +kernel
theorem dX5_year_12 : decode cX5_year 12 = .ok (.iload_n 2, 1) := by decide +kernel
theorem dX5_year_13 : decode cX5_year 13 = .ok (.i2l, 1) := by decide +kernel
theorem dX5_year_14 : decode cX5_year 14 = .ok (.lconst 1, 1) := by decide +kernel
theorem dX5_year_15 : decode cX5_year 15 = .ok (.ldc2_w 104, 3) := by decide +kernel
theorem dX5_year_18 : decode cX5_year 18 = .ok (.invokestatic 86, 3) := by decide +kernel
theorem dX5_year_21 : decode cX5_year 21 = .ok (.ifCond .eq 15, 3) := by decide +kernel
theorem dX5_year_24 : decode cX5_year 24 = .ok (.iload_n 3, 1) := by decide +kernel
theorem dX5_year_25 : decode cX5_year 25 = .ok (.i2l, 1) := by decide +kernel
theorem dX5_year_26 : decode cX5_year 26 = .ok (.lconst 0, 1) := by decide +kernel
theorem dX5_year_27 : decode cX5_year 27 = .ok (.ldc2_w 102, 3) := by decide +kernel
theorem dX5_year_30 : decode cX5_year 30 = .ok (.invokestatic 86, 3) := by decide +kernel
theorem dX5_year_33 : decode cX5_year 33 = .ok (.ifCond .ne 6, 3) := by decide +kernel
theorem dX5_year_36 : decode cX5_year 36 = .ok (.bipush (-2), 2) := by decide +kernel
theorem dX5_year_38 : decode cX5_year 38 = .ok (.ireturn, 1) := by decide +kernel
theorem dX5_year_39 : decode cX5_year 39 = .ok (.iload_n 1, 1) := by decide +kernel
theorem dX5_year_40 : decode cX5_year 40 = .ok (.istore 4, 2) := by decide +kernel
theorem dX5_year_42 : decode cX5_year 42 = .ok (.iconst 0, 1) := by decide +kernel
theorem dX5_year_43 : decode cX5_year 43 = .ok (.istore 5, 2) := by decide +kernel
theorem dX5_year_45 : decode cX5_year 45 = .ok (.iconst 0, 1) := by decide +kernel
theorem dX5_year_46 : decode cX5_year 46 = .ok (.istore 6, 2) := by decide +kernel
theorem dX5_year_48 : decode cX5_year 48 = .ok (.iconst 0, 1) := by decide +kernel
theorem dX5_year_49 : decode cX5_year 49 = .ok (.istore 7, 2) := by decide +kernel
theorem dX5_year_51 : decode cX5_year 51 = .ok (.iconst 0, 1) := by decide +kernel
theorem dX5_year_52 : decode cX5_year 52 = .ok (.istore 8, 2) := by decide +kernel
theorem dX5_year_54 : decode cX5_year 54 = .ok (.iload 8, 2) := by decide +kernel
theorem dX5_year_56 : decode cX5_year 56 = .ok (.iload_n 2, 1) := by decide +kernel
theorem dX5_year_57 : decode cX5_year 57 = .ok (.if_icmp .ge 108, 3) := by decide +kernel
theorem dX5_year_60 : decode cX5_year 60 = .ok (.ldc2_w 243, 3) := by decide +kernel
theorem dX5_year_63 : decode cX5_year 63 = .ok (.iload 4, 2) := by decide +kernel
theorem dX5_year_65 : decode cX5_year 65 = .ok (.i2l, 1) := by decide +kernel
theorem dX5_year_66 : decode cX5_year 66 = .ok (.lmul, 1) := by decide +kernel
theorem dX5_year_67 : decode cX5_year 67 = .ok (.ldc2_w 245, 3) := by decide +kernel
theorem dX5_year_70 : decode cX5_year 70 = .ok (.ladd, 1) := by decide +kernel
theorem dX5_year_71 : decode cX5_year 71 = .ok (.ldc2_w 247, 3) := by decide +kernel
theorem dX5_year_74 : decode cX5_year 74 = .ok (.lrem, 1) := by decide +kernel
theorem dX5_year_75 : decode cX5_year 75 = .ok (.l2i, 1) := by decide +kernel
theorem dX5_year_76 : decode cX5_year 76 = .ok (.istore 4, 2) := by decide +kernel
theorem dX5_year_78 : decode cX5_year 78 = .ok (.aload_n 0, 1) := by decide +kernel
theorem dX5_year_79 : decode cX5_year 79 = .ok (.iload 4, 2) := by decide +kernel
theorem dX5_year_81 : decode cX5_year 81 = .ok (.bipush 10, 2) := by decide +kernel
theorem dX5_year_83 : decode cX5_year 83 = .ok (.irem, 1) := by decide +kernel
theorem dX5_year_84 : decode cX5_year 84 = .ok (.invokestatic 249, 3) := by decide +kernel
theorem dX5_year_87 : decode cX5_year 87 = .ok (.invokevirtual 131, 3) := by decide +kernel
theorem dX5_year_90 : decode cX5_year 90 = .ok (.iconst 0, 1) := by decide +kernel
theorem dX5_year_91 : decode cX5_year 91 = .ok (.istore 9, 2) := by decide +kernel
theorem dX5_year_93 : decode cX5_year 93 = .ok (.iconst 0, 1) := by decide +kernel
theorem dX5_year_94 : decode cX5_year 94 = .ok (.istore 10, 2) := by decide +kernel
theorem dX5_year_96 : decode cX5_year 96 = .ok (.iload 10, 2) := by decide +kernel
theorem dX5_year_98 : decode cX5_year 98 = .ok (.aload_n 0, 1) := by decide +kernel
theorem dX5_year_99 : decode cX5_year 99 = .ok (.getfield 73, 3) := by decide +kernel
theorem dX5_year_102 : decode cX5_year 102 = .ok (.if_icmp .ge 41, 3) := by decide +kernel
theorem dX5_year_105 : decode cX5_year 105 = .ok (.iload 5, 2) := by decide +kernel
theorem dX5_year_107 : decode cX5_year 107 = .ok (.aload_n 0, 1) := by decide +kernel
theorem dX5_year_108 : decode cX5_year 108 = .ok (.getfield 28, 3) := by decide +kernel
theorem dX5_year_111 : decode cX5_year 111 = .ok (.iload 10, 2) := by decide +kernel
theorem dX5_year_113 : decode cX5_year 113 = .ok (.iaload, 1) := by decide +kernel
theorem dX5_year_114 : decode cX5_year 114 = .ok (.iadd, 1) := by decide +kernel
theorem dX5_year_115 : decode cX5_year 115 = .ok (.istore 5, 2) := by decide +kernel
theorem dX5_year_117 : decode cX5_year 117 = .ok (.iload 9, 2) := by decide +kernel
theorem dX5_year_119 : decode cX5_year 119 = .ok (.aload_n 0, 1) := by decide +kernel
theorem dX5_year_120 : decode cX5_year 120 = .ok (.getfield 28, 3) := by decide +kernel
theorem dX5_year_123 : decode cX5_year 123 = .ok (.iload 10, 2) := by decide +kernel
theorem dX5_year_125 : decode cX5_year 125 = .ok (.iaload, 1) := by decide +kernel
theorem dX5_year_126 : decode cX5_year 126 = .ok (.ifCond .ne 7, 3) := by decide +kernel
theorem dX5_year_129 : decode cX5_year 129 = .ok (.iconst 1, 1) := by decide +kernel
theorem dX5_year_130 : decode cX5_year 130 = .ok (.goto 4, 3) := by decide +kernel
theorem dX5_year_133 : decode cX5_year 133 = .ok (.iconst 0, 1) := by decide +kernel
theorem dX5_year_134 : decode cX5_year 134 = .ok (.ior, 1) := by decide +kernel
theorem dX5_year_135 : decode cX5_year 135 = .ok (.istore 9, 2) := by decide +kernel
theorem dX5_year_137 : decode cX5_year 137 = .ok (.iinc 10 1, 3) := by decide +kernel
theorem dX5_year_140 : decode cX5_year 140 = .ok (.goto (-44), 3) := by decide +kernel
theorem dX5_year_143 : decode cX5_year 143 = .ok (.iload 6, 2) := by decide +kernel
theorem dX5_year_145 : decode cX5_year 145 = .ok (.aload_n 0, 1) := by decide +kernel
theorem dX5_year_146 : decode cX5_year 146 = .ok (.getfield 128, 3) := by decide +kernel
theorem dX5_year_149 : decode cX5_year 149 = .ok (.iadd, 1) := by decide +kernel
theorem dX5_year_150 : decode cX5_year 150 = .ok (.istore 6, 2) := by decide +kernel
theorem dX5_year_152 : decode cX5_year 152 = .ok (.iload 7, 2) := by decide +kernel
theorem dX5_year_154 : decode cX5_year 154 = .ok (.iload 9, 2) := by decide +kernel
theorem dX5_year_156 : decode cX5_year 156 = .ok (.iadd, 1) := by decide +kernel
theorem dX5_year_157 : decode cX5_year 157 = .ok (.istore 7, 2) := by decide +kernel
theorem dX5_year_159 : decode cX5_year 159 = .ok (.iinc 8 1, 3) := by decide +kernel
theorem dX5_year_162 : decode cX5_year 162 = .ok (.goto (-108), 3) := by decide +kernel
theorem dX5_year_165 : decode cX5_year 165 = .ok (.iload_n 3, 1) := by decide +kernel
theorem dX5_year_166 : decode cX5_year 166 = .ok (.ifCond .ne 8, 3) := by decide +kernel
theorem dX5_year_169 : decode cX5_year 169 = .ok (.iload 5, 2) := by decide +kernel
theorem dX5_year_171 : decode cX5_year 171 = .ok (.goto 15, 3) := by decide +kernel
theorem dX5_year_174 : decode cX5_year 174 = .ok (.iload_n 3, 1) := by decide +kernel
theorem dX5_year_175 : decode cX5_year 175 = .ok (.iconst 1, 1) := by decide +kernel
theorem dX5_year_176 : decode cX5_year 176 = .ok (.if_icmp .ne 8, 3) := by decide +kernel
theorem dX5_year_179 : decode cX5_year 179 = .ok (.iload 6, 2) := by decide +kernel
theorem dX5_year_181 : decode cX5_year 181 = .ok (.goto 5, 3) := by decide +kernel
theorem dX5_year_184 : decode cX5_year 184 = .ok (.iload 7, 2) := by decide +kernel
theorem dX5_year_186 : decode cX5_year 186 = .ok (.ireturn, 1) := by decide +kernel
theorem dX5_pass_0 : decode cX5_pass 0 = .ok (.aload_n 0, 1) := by decide +kernel
theorem dX5_pass_1 : decode cX5_pass 1 = .ok (.getfield 252, 3) := by decide +kernel
theorem dX5_pass_4 : decode cX5_pass 4 = .ok (.ifCond .eq 7, 3) := by decide +kernel
theorem dX5_pass_7 : decode cX5_pass 7 = .ok (.iload_n 1, 1) := by decide +kernel
theorem dX5_pass_8 : decode cX5_pass 8 = .ok (.goto 12, 3) := by decide +kernel
theorem dX5_pass_11 : decode cX5_pass 11 = .ok (.aload_n 0, 1) := by decide +kernel
theorem dX5_pass_12 : decode cX5_pass 12 = .ok (.getfield 52, 3) := by decide +kernel
theorem dX5_pass_15 : decode cX5_pass 15 = .ok (.aload_n 0, 1) := by decide +kernel
theorem dX5_pass_16 : decode cX5_pass 16 = .ok (.getfield 256, 3) := by decide +kernel
theorem dX5_pass_19 : decode cX5_pass 19 = .ok (.iaload, 1) := by decide +kernel
theorem dX5_pass_20 : decode cX5_pass 20 = .ok (.istore_n 2, 1) := by decide +kernel
theorem dX5_pass_21 : decode cX5_pass 21 = .ok (.aload_n 0, 1) := by decide +kernel
theorem dX5_pass_22 : decode cX5_pass 22 = .ok (.getfield 52, 3) := by decide +kernel
theorem dX5_pass_25 : decode cX5_pass 25 = .ok (.aload_n 0, 1) := by decide +kernel
theorem dX5_pass_26 : decode cX5_pass 26 = .ok (.getfield 256, 3) := by decide +kernel
theorem dX5_pass_29 : decode cX5_pass 29 = .ok (.iload_n 2, 1) := by decide +kernel
theorem dX5_pass_30 : decode cX5_pass 30 = .ok (.iastore, 1) := by decide +kernel
theorem dX5_pass_31 : decode cX5_pass 31 = .ok (.aload_n 0, 1) := by decide +kernel
theorem dX5_pass_32 : decode cX5_pass 32 = .ok (.dup, 1) := by decide +kernel
theorem dX5_pass_33 : decode cX5_pass 33 = .ok (.getfield 256, 3) := by decide +kernel
theorem dX5_pass_36 : decode cX5_pass 36 = .ok (.iconst 1, 1) := by decide +kernel
theorem dX5_pass_37 : decode cX5_pass 37 = .ok (.iadd, 1) := by decide +kernel
theorem dX5_pass_38 : decode cX5_pass 38 = .ok (.putfield 256, 3) := by decide +kernel
theorem dX5_pass_41 : decode cX5_pass 41 = .ok (.iload_n 2, 1) := by decide +kernel
theorem dX5_pass_42 : decode cX5_pass 42 = .ok (.ireturn, 1) := by decide +kernel
theorem dX5_passAll_0 : decode cX5_passAll 0 = .ok (.aload_n 0, 1) := by decide +kernel
theorem dX5_passAll_1 : decode cX5_passAll 1 = .ok (.aload_n 0, 1) := by decide +kernel
theorem dX5_passAll_2 : decode cX5_passAll 2 = .ok (.aload_n 0, 1) := by decide +kernel
theorem dX5_passAll_3 : decode cX5_passAll 3 = .ok (.getfield 73, 3) := by decide +kernel
theorem dX5_passAll_6 : decode cX5_passAll 6 = .ok (.invokevirtual 259, 3) := by decide +kernel
theorem dX5_passAll_9 : decode cX5_passAll 9 = .ok (.putfield 73, 3) := by decide +kernel
theorem dX5_passAll_12 : decode cX5_passAll 12 = .ok (.aload_n 0, 1) := by decide +kernel
theorem dX5_passAll_13 : decode cX5_passAll 13 = .ok (.aload_n 0, 1) := by decide +kernel
theorem dX5_passAll_14 : decode cX5_passAll 14 = .ok (.aload_n 0, 1) := by decide +kernel
theorem dX5_passAll_15 : decode cX5_passAll 15 = .ok (.getfield 66, 3) := by decide +kernel
theorem dX5_passAll_18 : decode cX5_passAll 18 = .ok (.invokevirtual 259, 3) := by decide +kernel
theorem dX5_passAll_21 : decode cX5_passAll 21 = .ok (.putfield 66, 3) := by decide +kernel
theorem dX5_passAll_24 : decode cX5_passAll 24 = .ok (.aload_n 0, 1) := by decide +kernel
theorem dX5_passAll_25 : decode cX5_passAll 25 = .ok (.aload_n 0, 1) := by decide +kernel
theorem dX5_passAll_26 : decode cX5_passAll 26 = .ok (.aload_n 0, 1) := by decide +kernel
theorem dX5_passAll_27 : decode cX5_passAll 27 = .ok (.getfield 59, 3) := by decide +kernel
theorem dX5_passAll_30 : decode cX5_passAll 30 = .ok (.invokevirtual 259, 3) := by decide +kernel
theorem dX5_passAll_33 : decode cX5_passAll 33 = .ok (.putfield 59, 3) := by decide +kernel
theorem dX5_passAll_36 : decode cX5_passAll 36 = .ok (.aload_n 0, 1) := by decide +kernel
theorem dX5_passAll_37 : decode cX5_passAll 37 = .ok (.aload_n 0, 1) := by decide +kernel
theorem dX5_passAll_38 : decode cX5_passAll 38 = .ok (.aload_n 0, 1) := by decide +kernel
theorem dX5_passAll_39 : decode cX5_passAll 39 = .ok (.getfield 63, 3) := by decide +kernel
theorem dX5_passAll_42 : decode cX5_passAll 42 = .ok (.invokevirtual 259, 3) := by decide +kernel
theorem dX5_passAll_45 : decode cX5_passAll 45 = .ok (.putfield 63, 3) := by decide +kernel
theorem dX5_passAll_48 : decode cX5_passAll 48 = .ok (.aload_n 0, 1) := by decide +kernel
theorem dX5_passAll_49 : decode cX5_passAll 49 = .ok (.aload_n 0, 1) := by decide +kernel
theorem dX5_passAll_50 : decode cX5_passAll 50 = .ok (.aload_n 0, 1) := by decide +kernel
theorem dX5_passAll_51 : decode cX5_passAll 51 = .ok (.getfield 76, 3) := by decide +kernel
theorem dX5_passAll_54 : decode cX5_passAll 54 = .ok (.invokevirtual 259, 3) := by decide +kernel
theorem dX5_passAll_57 : decode cX5_passAll 57 = .ok (.putfield 76, 3) := by decide +kernel
theorem dX5_passAll_60 : decode cX5_passAll 60 = .ok (.aload_n 0, 1) := by decide +kernel
theorem dX5_passAll_61 : decode cX5_passAll 61 = .ok (.aload_n 0, 1) := by decide +kernel
theorem dX5_passAll_62 : decode cX5_passAll 62 = .ok (.aload_n 0, 1) := by decide +kernel
theorem dX5_passAll_63 : decode cX5_passAll 63 = .ok (.getfield 79, 3) := by decide +kernel
theorem dX5_passAll_66 : decode cX5_passAll 66 = .ok (.invokevirtual 259, 3) := by decide +kernel
theorem dX5_passAll_69 : decode cX5_passAll 69 = .ok (.putfield 79, 3) := by decide +kernel
theorem dX5_passAll_72 : decode cX5_passAll 72 = .ok (.iconst 0, 1) := by decide +kernel
theorem dX5_passAll_73 : decode cX5_passAll 73 = .ok (.istore_n 1, 1) := by decide +kernel
theorem dX5_passAll_74 : decode cX5_passAll 74 = .ok (.iload_n 1, 1) := by decide +kernel
theorem dX5_passAll_75 : decode cX5_passAll 75 = .ok (.bipush 63, 2) := by decide +kernel
theorem dX5_passAll_77 : decode cX5_passAll 77 = .ok (.if_icmp .ge 25, 3) := by decide +kernel
theorem dX5_passAll_80 : decode cX5_passAll 80 = .ok (.aload_n 0, 1) := by decide +kernel
theorem dX5_passAll_81 : decode cX5_passAll 81 = .ok (.getfield 7, 3) := by decide +kernel
theorem dX5_passAll_84 : decode cX5_passAll 84 = .ok (.iload_n 1, 1) := by decide +kernel
theorem dX5_passAll_85 : decode cX5_passAll 85 = .ok (.aload_n 0, 1) := by decide +kernel
theorem dX5_passAll_86 : decode cX5_passAll 86 = .ok (.aload_n 0, 1) := by decide +kernel
theorem dX5_passAll_87 : decode cX5_passAll 87 = .ok (.getfield 7, 3) := by decide +kernel
theorem dX5_passAll_90 : decode cX5_passAll 90 = .ok (.iload_n 1, 1) := by decide +kernel
theorem dX5_passAll_91 : decode cX5_passAll 91 = .ok (.iaload, 1) := by decide +kernel
theorem dX5_passAll_92 : decode cX5_passAll 92 = .ok (.invokevirtual 259, 3) := by decide +kernel
theorem dX5_passAll_95 : decode cX5_passAll 95 = .ok (.iastore, 1) := by decide +kernel
theorem dX5_passAll_96 : decode cX5_passAll 96 = .ok (.iinc 1 1, 3) := by decide +kernel
theorem dX5_passAll_99 : decode cX5_passAll 99 = .ok (.goto (-25), 3) := by decide +kernel
theorem dX5_passAll_102 : decode cX5_passAll 102 = .ok (.iconst 0, 1) := by decide +kernel
theorem dX5_passAll_103 : decode cX5_passAll 103 = .ok (.istore_n 1, 1) := by decide +kernel
theorem dX5_passAll_104 : decode cX5_passAll 104 = .ok (.iload_n 1, 1) := by decide +kernel
theorem dX5_passAll_105 : decode cX5_passAll 105 = .ok (.bipush 8, 2) := by decide +kernel
theorem dX5_passAll_107 : decode cX5_passAll 107 = .ok (.if_icmp .ge 41, 3) := by decide +kernel
theorem dX5_passAll_110 : decode cX5_passAll 110 = .ok (.aload_n 0, 1) := by decide +kernel
theorem dX5_passAll_111 : decode cX5_passAll 111 = .ok (.getfield 13, 3) := by decide +kernel
theorem dX5_passAll_114 : decode cX5_passAll 114 = .ok (.iload_n 1, 1) := by decide +kernel
theorem dX5_passAll_115 : decode cX5_passAll 115 = .ok (.aload_n 0, 1) := by decide +kernel
theorem dX5_passAll_116 : decode cX5_passAll 116 = .ok (.aload_n 0, 1) := by decide +kernel
theorem dX5_passAll_117 : decode cX5_passAll 117 = .ok (.getfield 13, 3) := by decide +kernel
theorem dX5_passAll_120 : decode cX5_passAll 120 = .ok (.iload_n 1, 1) := by decide +kernel
theorem dX5_passAll_121 : decode cX5_passAll 121 = .ok (.iaload, 1) := by decide +kernel
theorem dX5_passAll_122 : decode cX5_passAll 122 = .ok (.invokevirtual 259, 3) := by decide +kernel
theorem dX5_passAll_125 : decode cX5_passAll 125 = .ok (.iastore, 1) := by decide +kernel
theorem dX5_passAll_126 : decode cX5_passAll 126 = .ok (.aload_n 0, 1) := by decide +kernel
theorem dX5_passAll_127 : decode cX5_passAll 127 = .ok (.getfield 16, 3) := by decide +kernel
theorem dX5_passAll_130 : decode cX5_passAll 130 = .ok (.iload_n 1, 1) := by decide +kernel
theorem dX5_passAll_131 : decode cX5_passAll 131 = .ok (.aload_n 0, 1) := by decide +kernel
theorem dX5_passAll_132 : decode cX5_passAll 132 = .ok (.aload_n 0, 1) := by decide +kernel
theorem dX5_passAll_133 : decode cX5_passAll 133 = .ok (.getfield 16, 3) := by decide +kernel
theorem dX5_passAll_136 : decode cX5_passAll 136 = .ok (.iload_n 1, 1) := by decide +kernel
theorem dX5_passAll_137 : decode cX5_passAll 137 = .ok (.iaload, 1) := by decide +kernel
theorem dX5_passAll_138 : decode cX5_passAll 138 = .ok (.invokevirtual 259, 3) := by decide +kernel
theorem dX5_passAll_141 : decode cX5_passAll 141 = .ok (.iastore, 1) := by decide +kernel
theorem dX5_passAll_142 : decode cX5_passAll 142 = .ok (.iinc 1 1, 3) := by decide +kernel
theorem dX5_passAll_145 : decode cX5_passAll 145 = .ok (.goto (-41), 3) := by decide +kernel
theorem dX5_passAll_148 : decode cX5_passAll 148 = .ok (.return_, 1) := by decide +kernel
theorem dX5_image_0 : decode cX5_image 0 = .ok (.iload_n 1, 1) := by decide +kernel
theorem dX5_image_1 : decode cX5_image 1 = .ok (.i2l, 1) := by decide +kernel
theorem dX5_image_2 : decode cX5_image 2 = .ok (.lconst 0, 1) := by decide +kernel
theorem dX5_image_3 : decode cX5_image 3 = .ok (.lconst 1, 1) := by decide +kernel
theorem dX5_image_4 : decode cX5_image 4 = .ok (.invokestatic 86, 3) := by decide +kernel
theorem dX5_image_7 : decode cX5_image 7 = .ok (.ifCond .ne 6, 3) := by decide +kernel
theorem dX5_image_10 : decode cX5_image 10 = .ok (.bipush (-2), 2) := by decide +kernel
theorem dX5_image_12 : decode cX5_image 12 = .ok (.ireturn, 1) := by decide +kernel
theorem dX5_image_13 : decode cX5_image 13 = .ok (.aload_n 0, 1) := by decide +kernel
theorem dX5_image_14 : decode cX5_image 14 = .ok (.bipush 100, 2) := by decide +kernel
theorem dX5_image_16 : decode cX5_image 16 = .ok (.iload_n 1, 1) := by decide +kernel
theorem dX5_image_17 : decode cX5_image 17 = .ok (.imul, 1) := by decide +kernel
theorem dX5_image_18 : decode cX5_image 18 = .ok (.putfield 256, 3) := by decide +kernel
theorem dX5_image_21 : decode cX5_image 21 = .ok (.aload_n 0, 1) := by decide +kernel
theorem dX5_image_22 : decode cX5_image 22 = .ok (.iconst 1, 1) := by decide +kernel
theorem dX5_image_23 : decode cX5_image 23 = .ok (.putfield 252, 3) := by decide +kernel
theorem dX5_image_26 : decode cX5_image 26 = .ok (.aload_n 0, 1) := by decide +kernel
theorem dX5_image_27 : decode cX5_image 27 = .ok (.invokevirtual 262, 3) := by decide +kernel
theorem dX5_image_30 : decode cX5_image 30 = .ok (.aload_n 0, 1) := by decide +kernel
theorem dX5_image_31 : decode cX5_image 31 = .ok (.getfield 55, 3) := by decide +kernel
theorem dX5_image_34 : decode cX5_image 34 = .ok (.iload_n 1, 1) := by decide +kernel
theorem dX5_image_35 : decode cX5_image 35 = .ok (.iconst 1, 1) := by decide +kernel
theorem dX5_image_36 : decode cX5_image 36 = .ok (.bastore, 1) := by decide +kernel
theorem dX5_image_37 : decode cX5_image 37 = .ok (.iconst 1, 1) := by decide +kernel
theorem dX5_image_38 : decode cX5_image 38 = .ok (.ireturn, 1) := by decide +kernel
theorem dX5_restore_0 : decode cX5_restore 0 = .ok (.iload_n 1, 1) := by decide +kernel
theorem dX5_restore_1 : decode cX5_restore 1 = .ok (.i2l, 1) := by decide +kernel
theorem dX5_restore_2 : decode cX5_restore 2 = .ok (.lconst 0, 1) := by decide +kernel
theorem dX5_restore_3 : decode cX5_restore 3 = .ok (.lconst 1, 1) := by decide +kernel
theorem dX5_restore_4 : decode cX5_restore 4 = .ok (.invokestatic 86, 3) := by decide +kernel
theorem dX5_restore_7 : decode cX5_restore 7 = .ok (.ifCond .ne 6, 3) := by decide +kernel
theorem dX5_restore_10 : decode cX5_restore 10 = .ok (.bipush (-2), 2) := by decide +kernel
theorem dX5_restore_12 : decode cX5_restore 12 = .ok (.ireturn, 1) := by decide +kernel
theorem dX5_restore_13 : decode cX5_restore 13 = .ok (.aload_n 0, 1) := by decide +kernel
theorem dX5_restore_14 : decode cX5_restore 14 = .ok (.getfield 55, 3) := by decide +kernel
theorem dX5_restore_17 : decode cX5_restore 17 = .ok (.iload_n 1, 1) := by decide +kernel
theorem dX5_restore_18 : decode cX5_restore 18 = .ok (.baload, 1) := by decide +kernel
theorem dX5_restore_19 : decode cX5_restore 19 = .ok (.ifCond .ne 6, 3) := by decide +kernel
theorem dX5_restore_22 : decode cX5_restore 22 = .ok (.bipush (-3), 2) := by decide +kernel
theorem dX5_restore_24 : decode cX5_restore 24 = .ok (.ireturn, 1) := by decide +kernel
theorem dX5_restore_25 : decode cX5_restore 25 = .ok (.aload_n 0, 1) := by decide +kernel
theorem dX5_restore_26 : decode cX5_restore 26 = .ok (.bipush 100, 2) := by decide +kernel
theorem dX5_restore_28 : decode cX5_restore 28 = .ok (.iload_n 1, 1) := by decide +kernel
theorem dX5_restore_29 : decode cX5_restore 29 = .ok (.imul, 1) := by decide +kernel
theorem dX5_restore_30 : decode cX5_restore 30 = .ok (.putfield 256, 3) := by decide +kernel
theorem dX5_restore_33 : decode cX5_restore 33 = .ok (.aload_n 0, 1) := by decide +kernel
theorem dX5_restore_34 : decode cX5_restore 34 = .ok (.iconst 0, 1) := by decide +kernel
theorem dX5_restore_35 : decode cX5_restore 35 = .ok (.putfield 252, 3) := by decide +kernel
theorem dX5_restore_38 : decode cX5_restore 38 = .ok (.aload_n 0, 1) := by decide +kernel
theorem dX5_restore_39 : decode cX5_restore 39 = .ok (.invokevirtual 262, 3) := by decide +kernel
theorem dX5_restore_42 : decode cX5_restore 42 = .ok (.iconst 1, 1) := by decide +kernel
theorem dX5_restore_43 : decode cX5_restore 43 = .ok (.ireturn, 1) := by decide +kernel
theorem dX5_told_0 : decode cX5_told 0 = .ok (.iload_n 1, 1) := by decide +kernel
theorem dX5_told_1 : decode cX5_told 1 = .ok (.i2l, 1) := by decide +kernel
theorem dX5_told_2 : decode cX5_told 2 = .ok (.ldc2_w 227, 3) := by decide +kernel
theorem dX5_told_5 : decode cX5_told 5 = .ok (.ldc2_w 104, 3) := by decide +kernel
theorem dX5_told_8 : decode cX5_told 8 = .ok (.invokestatic 86, 3) := by decide +kernel
theorem dX5_told_11 : decode cX5_told 11 = .ok (.ifCond .eq 46, 3) := by decide +kernel
theorem dX5_told_14 : decode cX5_told 14 = .ok (.iload_n 1, 1) := by decide +kernel
theorem dX5_told_15 : decode cX5_told 15 = .ok (.bipush 10, 2) := by decide +kernel
theorem dX5_told_17 : decode cX5_told 17 = .ok (.idiv, 1) := by decide +kernel
theorem dX5_told_18 : decode cX5_told 18 = .ok (.iconst 1, 1) := by decide +kernel
theorem dX5_told_19 : decode cX5_told 19 = .ok (.isub, 1) := by decide +kernel
theorem dX5_told_20 : decode cX5_told 20 = .ok (.istore_n 2, 1) := by decide +kernel
theorem dX5_told_21 : decode cX5_told 21 = .ok (.aload_n 0, 1) := by decide +kernel
theorem dX5_told_22 : decode cX5_told 22 = .ok (.iload_n 2, 1) := by decide +kernel
theorem dX5_told_23 : decode cX5_told 23 = .ok (.invokevirtual 92, 3) := by decide +kernel
theorem dX5_told_26 : decode cX5_told 26 = .ok (.ifCond .eq 28, 3) := by decide +kernel
theorem dX5_told_29 : decode cX5_told 29 = .ok (.iload_n 1, 1) := by decide +kernel
theorem dX5_told_30 : decode cX5_told 30 = .ok (.bipush 10, 2) := by decide +kernel
theorem dX5_told_32 : decode cX5_told 32 = .ok (.irem, 1) := by decide +kernel
theorem dX5_told_33 : decode cX5_told 33 = .ok (.bipush 7, 2) := by decide +kernel
theorem dX5_told_35 : decode cX5_told 35 = .ok (.if_icmp .ge 19, 3) := by decide +kernel
theorem dX5_told_38 : decode cX5_told 38 = .ok (.aload_n 0, 1) := by decide +kernel
theorem dX5_told_39 : decode cX5_told 39 = .ok (.getfield 7, 3) := by decide +kernel
theorem dX5_told_42 : decode cX5_told 42 = .ok (.iload_n 1, 1) := by decide +kernel
theorem dX5_told_43 : decode cX5_told 43 = .ok (.bipush 10, 2) := by decide +kernel
theorem dX5_told_45 : decode cX5_told 45 = .ok (.irem, 1) := by decide +kernel
theorem dX5_told_46 : decode cX5_told 46 = .ok (.iload_n 2, 1) := by decide +kernel
theorem dX5_told_47 : decode cX5_told 47 = .ok (.invokestatic 82, 3) := by decide +kernel
theorem dX5_told_50 : decode cX5_told 50 = .ok (.iaload, 1) := by decide +kernel
theorem dX5_told_51 : decode cX5_told 51 = .ok (.goto 5, 3) := by decide +kernel
theorem dX5_told_54 : decode cX5_told 54 = .ok (.bipush (-2), 2) := by decide +kernel
theorem dX5_told_56 : decode cX5_told 56 = .ok (.ireturn, 1) := by decide +kernel
theorem dX5_told_57 : decode cX5_told 57 = .ok (.iload_n 1, 1) := by decide +kernel
theorem dX5_told_58 : decode cX5_told 58 = .ok (.tableswitch 77 0 6 #[42, 47, 52, 57, 62, 67, 72], 42) := by decide +kernel
theorem dX5_told_100 : decode cX5_told 100 = .ok (.aload_n 0, 1) := by decide +kernel
theorem dX5_told_101 : decode cX5_told 101 = .ok (.getfield 112, 3) := by decide +kernel
theorem dX5_told_104 : decode cX5_told 104 = .ok (.ireturn, 1) := by decide +kernel
theorem dX5_told_105 : decode cX5_told 105 = .ok (.aload_n 0, 1) := by decide +kernel
theorem dX5_told_106 : decode cX5_told 106 = .ok (.getfield 73, 3) := by decide +kernel
theorem dX5_told_109 : decode cX5_told 109 = .ok (.ireturn, 1) := by decide +kernel
theorem dX5_told_110 : decode cX5_told 110 = .ok (.aload_n 0, 1) := by decide +kernel
theorem dX5_told_111 : decode cX5_told 111 = .ok (.getfield 66, 3) := by decide +kernel
theorem dX5_told_114 : decode cX5_told 114 = .ok (.ireturn, 1) := by decide +kernel
theorem dX5_told_115 : decode cX5_told 115 = .ok (.aload_n 0, 1) := by decide +kernel
theorem dX5_told_116 : decode cX5_told 116 = .ok (.getfield 59, 3) := by decide +kernel
theorem dX5_told_119 : decode cX5_told 119 = .ok (.ireturn, 1) := by decide +kernel
theorem dX5_told_120 : decode cX5_told 120 = .ok (.aload_n 0, 1) := by decide +kernel
theorem dX5_told_121 : decode cX5_told 121 = .ok (.getfield 63, 3) := by decide +kernel
theorem dX5_told_124 : decode cX5_told 124 = .ok (.ireturn, 1) := by decide +kernel
theorem dX5_told_125 : decode cX5_told 125 = .ok (.aload_n 0, 1) := by decide +kernel
theorem dX5_told_126 : decode cX5_told 126 = .ok (.getfield 76, 3) := by decide +kernel
theorem dX5_told_129 : decode cX5_told 129 = .ok (.ireturn, 1) := by decide +kernel
theorem dX5_told_130 : decode cX5_told 130 = .ok (.aload_n 0, 1) := by decide +kernel
theorem dX5_told_131 : decode cX5_told 131 = .ok (.getfield 79, 3) := by decide +kernel
theorem dX5_told_134 : decode cX5_told 134 = .ok (.ireturn, 1) := by decide +kernel
theorem dX5_told_135 : decode cX5_told 135 = .ok (.bipush (-2), 2) := by decide +kernel
theorem dX5_told_137 : decode cX5_told 137 = .ok (.ireturn, 1) := by decide +kernel
