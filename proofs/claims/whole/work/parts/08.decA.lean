/-! ===== what each instruction is ===== -/
theorem dX0_init_0 : decode cX0_init 0 = .ok (.aload_n 0, 1) := by decide +kernel
theorem dX0_init_1 : decode cX0_init 1 = .ok (.invokespecial 3, 3) := by decide +kernel
theorem dX0_init_4 : decode cX0_init 4 = .ok (.aload_n 0, 1) := by decide +kernel
theorem dX0_init_5 : decode cX0_init 5 = .ok (.new 9, 3) := by decide +kernel
theorem dX0_init_8 : decode cX0_init 8 = .ok (.dup, 1) := by decide +kernel
theorem dX0_init_9 : decode cX0_init 9 = .ok (.invokespecial 11, 3) := by decide +kernel
theorem dX0_init_12 : decode cX0_init 12 = .ok (.putfield 12, 3) := by decide +kernel
theorem dX0_init_15 : decode cX0_init 15 = .ok (.aload_n 0, 1) := by decide +kernel
theorem dX0_init_16 : decode cX0_init 16 = .ok (.new 18, 3) := by decide +kernel
theorem dX0_init_19 : decode cX0_init 19 = .ok (.dup, 1) := by decide +kernel
theorem dX0_init_20 : decode cX0_init 20 = .ok (.invokespecial 20, 3) := by decide +kernel
theorem dX0_init_23 : decode cX0_init 23 = .ok (.putfield 21, 3) := by decide +kernel
theorem dX0_init_26 : decode cX0_init 26 = .ok (.aload_n 0, 1) := by decide +kernel
theorem dX0_init_27 : decode cX0_init 27 = .ok (.bipush 9, 2) := by decide +kernel
theorem dX0_init_29 : decode cX0_init 29 = .ok (.newarray .int, 2) := by decide +kernel
theorem dX0_init_31 : decode cX0_init 31 = .ok (.putfield 25, 3) := by decide +kernel
theorem dX0_init_34 : decode cX0_init 34 = .ok (.return_, 1) := by decide +kernel
theorem dX0_live_0 : decode cX0_live 0 = .ok (.aload_n 0, 1) := by decide +kernel
theorem dX0_live_1 : decode cX0_live 1 = .ok (.getfield 12, 3) := by decide +kernel
theorem dX0_live_4 : decode cX0_live 4 = .ok (.aload_n 1, 1) := by decide +kernel
theorem dX0_live_5 : decode cX0_live 5 = .ok (.invokevirtual 29, 3) := by decide +kernel
theorem dX0_live_8 : decode cX0_live 8 = .ok (.aload_n 0, 1) := by decide +kernel
theorem dX0_live_9 : decode cX0_live 9 = .ok (.bipush (-6), 2) := by decide +kernel
theorem dX0_live_11 : decode cX0_live 11 = .ok (.putfield 33, 3) := by decide +kernel
theorem dX0_live_14 : decode cX0_live 14 = .ok (.aload_n 0, 1) := by decide +kernel
theorem dX0_live_15 : decode cX0_live 15 = .ok (.bipush (-6), 2) := by decide +kernel
theorem dX0_live_17 : decode cX0_live 17 = .ok (.putfield 37, 3) := by decide +kernel
theorem dX0_live_20 : decode cX0_live 20 = .ok (.aload_n 0, 1) := by decide +kernel
theorem dX0_live_21 : decode cX0_live 21 = .ok (.iconst 0, 1) := by decide +kernel
theorem dX0_live_22 : decode cX0_live 22 = .ok (.putfield 40, 3) := by decide +kernel
theorem dX0_live_25 : decode cX0_live 25 = .ok (.iconst 0, 1) := by decide +kernel
theorem dX0_live_26 : decode cX0_live 26 = .ok (.istore_n 3, 1) := by decide +kernel
theorem dX0_live_27 : decode cX0_live 27 = .ok (.iload_n 3, 1) := by decide +kernel
theorem dX0_live_28 : decode cX0_live 28 = .ok (.bipush 9, 2) := by decide +kernel
theorem dX0_live_30 : decode cX0_live 30 = .ok (.if_icmp .ge 17, 3) := by decide +kernel
theorem dX0_live_33 : decode cX0_live 33 = .ok (.aload_n 0, 1) := by decide +kernel
theorem dX0_live_34 : decode cX0_live 34 = .ok (.getfield 25, 3) := by decide +kernel
theorem dX0_live_37 : decode cX0_live 37 = .ok (.iload_n 3, 1) := by decide +kernel
theorem dX0_live_38 : decode cX0_live 38 = .ok (.bipush (-6), 2) := by decide +kernel
theorem dX0_live_40 : decode cX0_live 40 = .ok (.iastore, 1) := by decide +kernel
theorem dX0_live_41 : decode cX0_live 41 = .ok (.iinc 3 1, 3) := by decide +kernel
theorem dX0_live_44 : decode cX0_live 44 = .ok (.goto (-17), 3) := by decide +kernel
theorem dX0_live_47 : decode cX0_live 47 = .ok (.aload_n 0, 1) := by decide +kernel
theorem dX0_live_48 : decode cX0_live 48 = .ok (.invokevirtual 43, 3) := by decide +kernel
theorem dX0_live_51 : decode cX0_live 51 = .ok (.iconst 0, 1) := by decide +kernel
theorem dX0_live_52 : decode cX0_live 52 = .ok (.istore_n 3, 1) := by decide +kernel
theorem dX0_live_53 : decode cX0_live 53 = .ok (.iload_n 3, 1) := by decide +kernel
theorem dX0_live_54 : decode cX0_live 54 = .ok (.aload_n 2, 1) := by decide +kernel
theorem dX0_live_55 : decode cX0_live 55 = .ok (.getfield 46, 3) := by decide +kernel
theorem dX0_live_58 : decode cX0_live 58 = .ok (.if_icmp .ge 63, 3) := by decide +kernel
theorem dX0_live_61 : decode cX0_live 61 = .ok (.aload_n 0, 1) := by decide +kernel
theorem dX0_live_62 : decode cX0_live 62 = .ok (.getfield 12, 3) := by decide +kernel
theorem dX0_live_65 : decode cX0_live 65 = .ok (.aload_n 2, 1) := by decide +kernel
theorem dX0_live_66 : decode cX0_live 66 = .ok (.getfield 51, 3) := by decide +kernel
theorem dX0_live_69 : decode cX0_live 69 = .ok (.iload_n 3, 1) := by decide +kernel
theorem dX0_live_70 : decode cX0_live 70 = .ok (.iaload, 1) := by decide +kernel
theorem dX0_live_71 : decode cX0_live 71 = .ok (.aload_n 2, 1) := by decide +kernel
theorem dX0_live_72 : decode cX0_live 72 = .ok (.getfield 54, 3) := by decide +kernel
theorem dX0_live_75 : decode cX0_live 75 = .ok (.iload_n 3, 1) := by decide +kernel
theorem dX0_live_76 : decode cX0_live 76 = .ok (.iaload, 1) := by decide +kernel
theorem dX0_live_77 : decode cX0_live 77 = .ok (.invokevirtual 57, 3) := by decide +kernel
theorem dX0_live_80 : decode cX0_live 80 = .ok (.istore 4, 2) := by decide +kernel
theorem dX0_live_82 : decode cX0_live 82 = .ok (.iload 4, 2) := by decide +kernel
theorem dX0_live_84 : decode cX0_live 84 = .ok (.ifCond .eq 15, 3) := by decide +kernel
theorem dX0_live_87 : decode cX0_live 87 = .ok (.aload_n 0, 1) := by decide +kernel
theorem dX0_live_88 : decode cX0_live 88 = .ok (.iload_n 3, 1) := by decide +kernel
theorem dX0_live_89 : decode cX0_live 89 = .ok (.putfield 33, 3) := by decide +kernel
theorem dX0_live_92 : decode cX0_live 92 = .ok (.aload_n 0, 1) := by decide +kernel
theorem dX0_live_93 : decode cX0_live 93 = .ok (.iload 4, 2) := by decide +kernel
theorem dX0_live_95 : decode cX0_live 95 = .ok (.putfield 37, 3) := by decide +kernel
theorem dX0_live_98 : decode cX0_live 98 = .ok (.return_, 1) := by decide +kernel
theorem dX0_live_99 : decode cX0_live 99 = .ok (.aload_n 0, 1) := by decide +kernel
theorem dX0_live_100 : decode cX0_live 100 = .ok (.aload_n 2, 1) := by decide +kernel
theorem dX0_live_101 : decode cX0_live 101 = .ok (.getfield 51, 3) := by decide +kernel
theorem dX0_live_104 : decode cX0_live 104 = .ok (.iload_n 3, 1) := by decide +kernel
theorem dX0_live_105 : decode cX0_live 105 = .ok (.iaload, 1) := by decide +kernel
theorem dX0_live_106 : decode cX0_live 106 = .ok (.aload_n 2, 1) := by decide +kernel
theorem dX0_live_107 : decode cX0_live 107 = .ok (.getfield 54, 3) := by decide +kernel
theorem dX0_live_110 : decode cX0_live 110 = .ok (.iload_n 3, 1) := by decide +kernel
theorem dX0_live_111 : decode cX0_live 111 = .ok (.iaload, 1) := by decide +kernel
theorem dX0_live_112 : decode cX0_live 112 = .ok (.invokevirtual 61, 3) := by decide +kernel
theorem dX0_live_115 : decode cX0_live 115 = .ok (.iinc 3 1, 3) := by decide +kernel
theorem dX0_live_118 : decode cX0_live 118 = .ok (.goto (-65), 3) := by decide +kernel
theorem dX0_live_121 : decode cX0_live 121 = .ok (.return_, 1) := by decide +kernel
theorem dX0_pass_0 : decode cX0_pass 0 = .ok (.iload_n 1, 1) := by decide +kernel
theorem dX0_pass_1 : decode cX0_pass 1 = .ok (.iconst 3, 1) := by decide +kernel
theorem dX0_pass_2 : decode cX0_pass 2 = .ok (.if_icmp .le 13, 3) := by decide +kernel
theorem dX0_pass_5 : decode cX0_pass 5 = .ok (.aload_n 0, 1) := by decide +kernel
theorem dX0_pass_6 : decode cX0_pass 6 = .ok (.getfield 12, 3) := by decide +kernel
theorem dX0_pass_9 : decode cX0_pass 9 = .ok (.iload_n 1, 1) := by decide +kernel
theorem dX0_pass_10 : decode cX0_pass 10 = .ok (.iload_n 2, 1) := by decide +kernel
theorem dX0_pass_11 : decode cX0_pass 11 = .ok (.invokevirtual 65, 3) := by decide +kernel
theorem dX0_pass_14 : decode cX0_pass 14 = .ok (.return_, 1) := by decide +kernel
theorem dX0_pass_15 : decode cX0_pass 15 = .ok (.aload_n 0, 1) := by decide +kernel
theorem dX0_pass_16 : decode cX0_pass 16 = .ok (.getfield 21, 3) := by decide +kernel
theorem dX0_pass_19 : decode cX0_pass 19 = .ok (.aload_n 0, 1) := by decide +kernel
theorem dX0_pass_20 : decode cX0_pass 20 = .ok (.getfield 12, 3) := by decide +kernel
theorem dX0_pass_23 : decode cX0_pass 23 = .ok (.iload_n 1, 1) := by decide +kernel
theorem dX0_pass_24 : decode cX0_pass 24 = .ok (.invokevirtual 68, 3) := by decide +kernel
theorem dX0_pass_27 : decode cX0_pass 27 = .ok (.aload_n 0, 1) := by decide +kernel
theorem dX0_pass_28 : decode cX0_pass 28 = .ok (.getfield 12, 3) := by decide +kernel
theorem dX0_pass_31 : decode cX0_pass 31 = .ok (.aload_n 0, 1) := by decide +kernel
theorem dX0_pass_32 : decode cX0_pass 32 = .ok (.getfield 21, 3) := by decide +kernel
theorem dX0_pass_35 : decode cX0_pass 35 = .ok (.invokevirtual 72, 3) := by decide +kernel
theorem dX0_pass_38 : decode cX0_pass 38 = .ok (.aload_n 0, 1) := by decide +kernel
theorem dX0_pass_39 : decode cX0_pass 39 = .ok (.dup, 1) := by decide +kernel
theorem dX0_pass_40 : decode cX0_pass 40 = .ok (.getfield 40, 3) := by decide +kernel
theorem dX0_pass_43 : decode cX0_pass 43 = .ok (.iconst 1, 1) := by decide +kernel
theorem dX0_pass_44 : decode cX0_pass 44 = .ok (.iadd, 1) := by decide +kernel
theorem dX0_pass_45 : decode cX0_pass 45 = .ok (.putfield 40, 3) := by decide +kernel
theorem dX0_pass_48 : decode cX0_pass 48 = .ok (.aload_n 0, 1) := by decide +kernel
theorem dX0_pass_49 : decode cX0_pass 49 = .ok (.invokevirtual 43, 3) := by decide +kernel
theorem dX0_pass_52 : decode cX0_pass 52 = .ok (.return_, 1) := by decide +kernel
theorem dX0_noteEnough_0 : decode cX0_noteEnough 0 = .ok (.iconst 0, 1) := by decide +kernel
theorem dX0_noteEnough_1 : decode cX0_noteEnough 1 = .ok (.istore_n 1, 1) := by decide +kernel
theorem dX0_noteEnough_2 : decode cX0_noteEnough 2 = .ok (.iload_n 1, 1) := by decide +kernel
theorem dX0_noteEnough_3 : decode cX0_noteEnough 3 = .ok (.aload_n 0, 1) := by decide +kernel
theorem dX0_noteEnough_4 : decode cX0_noteEnough 4 = .ok (.getfield 12, 3) := by decide +kernel
theorem dX0_noteEnough_7 : decode cX0_noteEnough 7 = .ok (.getfield 76, 3) := by decide +kernel
theorem dX0_noteEnough_10 : decode cX0_noteEnough 10 = .ok (.if_icmp .ge 41, 3) := by decide +kernel
theorem dX0_noteEnough_13 : decode cX0_noteEnough 13 = .ok (.aload_n 0, 1) := by decide +kernel
theorem dX0_noteEnough_14 : decode cX0_noteEnough 14 = .ok (.getfield 25, 3) := by decide +kernel
theorem dX0_noteEnough_17 : decode cX0_noteEnough 17 = .ok (.iload_n 1, 1) := by decide +kernel
theorem dX0_noteEnough_18 : decode cX0_noteEnough 18 = .ok (.iaload, 1) := by decide +kernel
theorem dX0_noteEnough_19 : decode cX0_noteEnough 19 = .ok (.bipush (-6), 2) := by decide +kernel
theorem dX0_noteEnough_21 : decode cX0_noteEnough 21 = .ok (.if_icmp .ne 24, 3) := by decide +kernel
theorem dX0_noteEnough_24 : decode cX0_noteEnough 24 = .ok (.aload_n 0, 1) := by decide +kernel
theorem dX0_noteEnough_25 : decode cX0_noteEnough 25 = .ok (.getfield 12, 3) := by decide +kernel
theorem dX0_noteEnough_28 : decode cX0_noteEnough 28 = .ok (.iload_n 1, 1) := by decide +kernel
theorem dX0_noteEnough_29 : decode cX0_noteEnough 29 = .ok (.invokevirtual 79, 3) := by decide +kernel
theorem dX0_noteEnough_32 : decode cX0_noteEnough 32 = .ok (.ifCond .ne 13, 3) := by decide +kernel
theorem dX0_noteEnough_35 : decode cX0_noteEnough 35 = .ok (.aload_n 0, 1) := by decide +kernel
theorem dX0_noteEnough_36 : decode cX0_noteEnough 36 = .ok (.getfield 25, 3) := by decide +kernel
theorem dX0_noteEnough_39 : decode cX0_noteEnough 39 = .ok (.iload_n 1, 1) := by decide +kernel
theorem dX0_noteEnough_40 : decode cX0_noteEnough 40 = .ok (.aload_n 0, 1) := by decide +kernel
theorem dX0_noteEnough_41 : decode cX0_noteEnough 41 = .ok (.getfield 40, 3) := by decide +kernel
theorem dX0_noteEnough_44 : decode cX0_noteEnough 44 = .ok (.iastore, 1) := by decide +kernel
theorem dX0_noteEnough_45 : decode cX0_noteEnough 45 = .ok (.iinc 1 1, 3) := by decide +kernel
theorem dX0_noteEnough_48 : decode cX0_noteEnough 48 = .ok (.goto (-46), 3) := by decide +kernel
theorem dX0_noteEnough_51 : decode cX0_noteEnough 51 = .ok (.return_, 1) := by decide +kernel
theorem dX1_init_0 : decode cX1_init 0 = .ok (.aload_n 0, 1) := by decide +kernel
theorem dX1_init_1 : decode cX1_init 1 = .ok (.invokespecial 3, 3) := by decide +kernel
theorem dX1_init_4 : decode cX1_init 4 = .ok (.aload_n 0, 1) := by decide +kernel
theorem dX1_init_5 : decode cX1_init 5 = .ok (.bipush 60, 2) := by decide +kernel
theorem dX1_init_7 : decode cX1_init 7 = .ok (.newarray .int, 2) := by decide +kernel
theorem dX1_init_9 : decode cX1_init 9 = .ok (.putfield 9, 3) := by decide +kernel
theorem dX1_init_12 : decode cX1_init 12 = .ok (.aload_n 0, 1) := by decide +kernel
theorem dX1_init_13 : decode cX1_init 13 = .ok (.bipush 60, 2) := by decide +kernel
theorem dX1_init_15 : decode cX1_init 15 = .ok (.newarray .int, 2) := by decide +kernel
theorem dX1_init_17 : decode cX1_init 17 = .ok (.putfield 15, 3) := by decide +kernel
theorem dX1_init_20 : decode cX1_init 20 = .ok (.aload_n 0, 1) := by decide +kernel
theorem dX1_init_21 : decode cX1_init 21 = .ok (.bipush 60, 2) := by decide +kernel
theorem dX1_init_23 : decode cX1_init 23 = .ok (.newarray .int, 2) := by decide +kernel
theorem dX1_init_25 : decode cX1_init 25 = .ok (.putfield 18, 3) := by decide +kernel
theorem dX1_init_28 : decode cX1_init 28 = .ok (.return_, 1) := by decide +kernel
theorem dX1_add_0 : decode cX1_add 0 = .ok (.aload_n 0, 1) := by decide +kernel
theorem dX1_add_1 : decode cX1_add 1 = .ok (.getfield 9, 3) := by decide +kernel
theorem dX1_add_4 : decode cX1_add 4 = .ok (.aload_n 0, 1) := by decide +kernel
theorem dX1_add_5 : decode cX1_add 5 = .ok (.getfield 21, 3) := by decide +kernel
theorem dX1_add_8 : decode cX1_add 8 = .ok (.iload_n 1, 1) := by decide +kernel
theorem dX1_add_9 : decode cX1_add 9 = .ok (.iastore, 1) := by decide +kernel
theorem dX1_add_10 : decode cX1_add 10 = .ok (.aload_n 0, 1) := by decide +kernel
theorem dX1_add_11 : decode cX1_add 11 = .ok (.dup, 1) := by decide +kernel
theorem dX1_add_12 : decode cX1_add 12 = .ok (.getfield 21, 3) := by decide +kernel
theorem dX1_add_15 : decode cX1_add 15 = .ok (.iconst 1, 1) := by decide +kernel
theorem dX1_add_16 : decode cX1_add 16 = .ok (.iadd, 1) := by decide +kernel
theorem dX1_add_17 : decode cX1_add 17 = .ok (.putfield 21, 3) := by decide +kernel
theorem dX1_add_20 : decode cX1_add 20 = .ok (.return_, 1) := by decide +kernel
theorem dX1_read_0 : decode cX1_read 0 = .ok (.aload_n 0, 1) := by decide +kernel
theorem dX1_read_1 : decode cX1_read 1 = .ok (.iconst 0, 1) := by decide +kernel
theorem dX1_read_2 : decode cX1_read 2 = .ok (.putfield 25, 3) := by decide +kernel
theorem dX1_read_5 : decode cX1_read 5 = .ok (.iconst 0, 1) := by decide +kernel
theorem dX1_read_6 : decode cX1_read 6 = .ok (.istore_n 2, 1) := by decide +kernel
theorem dX1_read_7 : decode cX1_read 7 = .ok (.iconst 0, 1) := by decide +kernel
theorem dX1_read_8 : decode cX1_read 8 = .ok (.istore_n 3, 1) := by decide +kernel
theorem dX1_read_9 : decode cX1_read 9 = .ok (.iload_n 3, 1) := by decide +kernel
theorem dX1_read_10 : decode cX1_read 10 = .ok (.bipush 60, 2) := by decide +kernel
theorem dX1_read_12 : decode cX1_read 12 = .ok (.if_icmp .ge 140, 3) := by decide +kernel
theorem dX1_read_15 : decode cX1_read 15 = .ok (.iload_n 2, 1) := by decide +kernel
theorem dX1_read_16 : decode cX1_read 16 = .ok (.aload_n 0, 1) := by decide +kernel
theorem dX1_read_17 : decode cX1_read 17 = .ok (.getfield 21, 3) := by decide +kernel
theorem dX1_read_20 : decode cX1_read 20 = .ok (.if_icmp .ge 132, 3) := by decide +kernel
theorem dX1_read_23 : decode cX1_read 23 = .ok (.aload_n 0, 1) := by decide +kernel
theorem dX1_read_24 : decode cX1_read 24 = .ok (.getfield 9, 3) := by decide +kernel
theorem dX1_read_27 : decode cX1_read 27 = .ok (.iload_n 2, 1) := by decide +kernel
theorem dX1_read_28 : decode cX1_read 28 = .ok (.iaload, 1) := by decide +kernel
theorem dX1_read_29 : decode cX1_read 29 = .ok (.bipush 65, 2) := by decide +kernel
theorem dX1_read_31 : decode cX1_read 31 = .ok (.isub, 1) := by decide +kernel
theorem dX1_read_32 : decode cX1_read 32 = .ok (.istore 4, 2) := by decide +kernel
theorem dX1_read_34 : decode cX1_read 34 = .ok (.iload 4, 2) := by decide +kernel
theorem dX1_read_36 : decode cX1_read 36 = .ok (.ifCond .lt 13, 3) := by decide +kernel
theorem dX1_read_39 : decode cX1_read 39 = .ok (.iload 4, 2) := by decide +kernel
theorem dX1_read_41 : decode cX1_read 41 = .ok (.iload_n 1, 1) := by decide +kernel
theorem dX1_read_42 : decode cX1_read 42 = .ok (.if_icmp .ge 7, 3) := by decide +kernel
theorem dX1_read_45 : decode cX1_read 45 = .ok (.iconst 1, 1) := by decide +kernel
theorem dX1_read_46 : decode cX1_read 46 = .ok (.goto 4, 3) := by decide +kernel
theorem dX1_read_49 : decode cX1_read 49 = .ok (.iconst 0, 1) := by decide +kernel
theorem dX1_read_50 : decode cX1_read 50 = .ok (.istore 5, 2) := by decide +kernel
theorem dX1_read_52 : decode cX1_read 52 = .ok (.iload 5, 2) := by decide +kernel
theorem dX1_read_54 : decode cX1_read 54 = .ok (.ifCond .eq 13, 3) := by decide +kernel
theorem dX1_read_57 : decode cX1_read 57 = .ok (.aload_n 0, 1) := by decide +kernel
theorem dX1_read_58 : decode cX1_read 58 = .ok (.iload_n 2, 1) := by decide +kernel
theorem dX1_read_59 : decode cX1_read 59 = .ok (.iconst 1, 1) := by decide +kernel
theorem dX1_read_60 : decode cX1_read 60 = .ok (.iadd, 1) := by decide +kernel
theorem dX1_read_61 : decode cX1_read 61 = .ok (.invokevirtual 28, 3) := by decide +kernel
theorem dX1_read_64 : decode cX1_read 64 = .ok (.goto 12, 3) := by decide +kernel
theorem dX1_read_67 : decode cX1_read 67 = .ok (.aload_n 0, 1) := by decide +kernel
theorem dX1_read_68 : decode cX1_read 68 = .ok (.getfield 9, 3) := by decide +kernel
theorem dX1_read_71 : decode cX1_read 71 = .ok (.iload_n 2, 1) := by decide +kernel
theorem dX1_read_72 : decode cX1_read 72 = .ok (.iaload, 1) := by decide +kernel
theorem dX1_read_73 : decode cX1_read 73 = .ok (.invokestatic 32, 3) := by decide +kernel
theorem dX1_read_76 : decode cX1_read 76 = .ok (.istore 6, 2) := by decide +kernel
theorem dX1_read_78 : decode cX1_read 78 = .ok (.iload 6, 2) := by decide +kernel
theorem dX1_read_80 : decode cX1_read 80 = .ok (.iconst (-1), 1) := by decide +kernel
theorem dX1_read_81 : decode cX1_read 81 = .ok (.if_icmp .ne 5, 3) := by decide +kernel
theorem dX1_read_84 : decode cX1_read 84 = .ok (.iload_n 2, 1) := by decide +kernel
theorem dX1_read_85 : decode cX1_read 85 = .ok (.ireturn, 1) := by decide +kernel
theorem dX1_read_86 : decode cX1_read 86 = .ok (.aload_n 0, 1) := by decide +kernel
theorem dX1_read_87 : decode cX1_read 87 = .ok (.getfield 15, 3) := by decide +kernel
theorem dX1_read_90 : decode cX1_read 90 = .ok (.aload_n 0, 1) := by decide +kernel
theorem dX1_read_91 : decode cX1_read 91 = .ok (.getfield 25, 3) := by decide +kernel
theorem dX1_read_94 : decode cX1_read 94 = .ok (.iload 6, 2) := by decide +kernel
theorem dX1_read_96 : decode cX1_read 96 = .ok (.iastore, 1) := by decide +kernel
theorem dX1_read_97 : decode cX1_read 97 = .ok (.aload_n 0, 1) := by decide +kernel
theorem dX1_read_98 : decode cX1_read 98 = .ok (.getfield 18, 3) := by decide +kernel
theorem dX1_read_101 : decode cX1_read 101 = .ok (.aload_n 0, 1) := by decide +kernel
theorem dX1_read_102 : decode cX1_read 102 = .ok (.getfield 25, 3) := by decide +kernel
theorem dX1_read_105 : decode cX1_read 105 = .ok (.iload 5, 2) := by decide +kernel
theorem dX1_read_107 : decode cX1_read 107 = .ok (.ifCond .eq 8, 3) := by decide +kernel
theorem dX1_read_110 : decode cX1_read 110 = .ok (.iload 4, 2) := by decide +kernel
theorem dX1_read_112 : decode cX1_read 112 = .ok (.goto 4, 3) := by decide +kernel
theorem dX1_read_115 : decode cX1_read 115 = .ok (.iconst 0, 1) := by decide +kernel
theorem dX1_read_116 : decode cX1_read 116 = .ok (.iastore, 1) := by decide +kernel
theorem dX1_read_117 : decode cX1_read 117 = .ok (.aload_n 0, 1) := by decide +kernel
theorem dX1_read_118 : decode cX1_read 118 = .ok (.dup, 1) := by decide +kernel
theorem dX1_read_119 : decode cX1_read 119 = .ok (.getfield 25, 3) := by decide +kernel
theorem dX1_read_122 : decode cX1_read 122 = .ok (.iconst 1, 1) := by decide +kernel
theorem dX1_read_123 : decode cX1_read 123 = .ok (.iadd, 1) := by decide +kernel
theorem dX1_read_124 : decode cX1_read 124 = .ok (.putfield 25, 3) := by decide +kernel
theorem dX1_read_127 : decode cX1_read 127 = .ok (.iload_n 2, 1) := by decide +kernel
theorem dX1_read_128 : decode cX1_read 128 = .ok (.iload 5, 2) := by decide +kernel
theorem dX1_read_130 : decode cX1_read 130 = .ok (.ifCond .eq 13, 3) := by decide +kernel
theorem dX1_read_133 : decode cX1_read 133 = .ok (.iload 6, 2) := by decide +kernel
theorem dX1_read_135 : decode cX1_read 135 = .ok (.iconst 4, 1) := by decide +kernel
theorem dX1_read_136 : decode cX1_read 136 = .ok (.if_icmp .eq 7, 3) := by decide +kernel
theorem dX1_read_139 : decode cX1_read 139 = .ok (.iconst 2, 1) := by decide +kernel
theorem dX1_read_140 : decode cX1_read 140 = .ok (.goto 4, 3) := by decide +kernel
theorem dX1_read_143 : decode cX1_read 143 = .ok (.iconst 1, 1) := by decide +kernel
theorem dX1_read_144 : decode cX1_read 144 = .ok (.iadd, 1) := by decide +kernel
theorem dX1_read_145 : decode cX1_read 145 = .ok (.istore_n 2, 1) := by decide +kernel
theorem dX1_read_146 : decode cX1_read 146 = .ok (.iinc 3 1, 3) := by decide +kernel
theorem dX1_read_149 : decode cX1_read 149 = .ok (.goto (-140), 3) := by decide +kernel
theorem dX1_read_152 : decode cX1_read 152 = .ok (.bipush (-6), 2) := by decide +kernel
theorem dX1_read_154 : decode cX1_read 154 = .ok (.ireturn, 1) := by decide +kernel
theorem dX1_actOn_0 : decode cX1_actOn 0 = .ok (.iload_n 1, 1) := by decide +kernel
theorem dX1_actOn_1 : decode cX1_actOn 1 = .ok (.aload_n 0, 1) := by decide +kernel
theorem dX1_actOn_2 : decode cX1_actOn 2 = .ok (.getfield 21, 3) := by decide +kernel
theorem dX1_actOn_5 : decode cX1_actOn 5 = .ok (.if_icmp .ge 12, 3) := by decide +kernel
theorem dX1_actOn_8 : decode cX1_actOn 8 = .ok (.aload_n 0, 1) := by decide +kernel
theorem dX1_actOn_9 : decode cX1_actOn 9 = .ok (.getfield 9, 3) := by decide +kernel
theorem dX1_actOn_12 : decode cX1_actOn 12 = .ok (.iload_n 1, 1) := by decide +kernel
theorem dX1_actOn_13 : decode cX1_actOn 13 = .ok (.iaload, 1) := by decide +kernel
theorem dX1_actOn_14 : decode cX1_actOn 14 = .ok (.goto 4, 3) := by decide +kernel
theorem dX1_actOn_17 : decode cX1_actOn 17 = .ok (.iconst 0, 1) := by decide +kernel
theorem dX1_actOn_18 : decode cX1_actOn 18 = .ok (.lookupswitch 42 #[(60, 34), (62, 36), (119, 39)], 34) := by decide +kernel
theorem dX1_actOn_52 : decode cX1_actOn 52 = .ok (.iconst 5, 1) := by decide +kernel
theorem dX1_actOn_53 : decode cX1_actOn 53 = .ok (.ireturn, 1) := by decide +kernel
theorem dX1_actOn_54 : decode cX1_actOn 54 = .ok (.bipush 6, 2) := by decide +kernel
theorem dX1_actOn_56 : decode cX1_actOn 56 = .ok (.ireturn, 1) := by decide +kernel
theorem dX1_actOn_57 : decode cX1_actOn 57 = .ok (.bipush 7, 2) := by decide +kernel
theorem dX1_actOn_59 : decode cX1_actOn 59 = .ok (.ireturn, 1) := by decide +kernel
theorem dX1_actOn_60 : decode cX1_actOn 60 = .ok (.iconst 4, 1) := by decide +kernel
theorem dX1_actOn_61 : decode cX1_actOn 61 = .ok (.ireturn, 1) := by decide +kernel
theorem dX1_hourOf_0 : decode cX1_hourOf 0 = .ok (.iload_n 0, 1) := by decide +kernel
theorem dX1_hourOf_1 : decode cX1_hourOf 1 = .ok (.lookupswitch 51 #[(42, 47), (43, 49), (46, 43), (110, 45)], 43) := by decide +kernel
theorem dX1_hourOf_44 : decode cX1_hourOf 44 = .ok (.iconst 0, 1) := by decide +kernel
theorem dX1_hourOf_45 : decode cX1_hourOf 45 = .ok (.ireturn, 1) := by decide +kernel
theorem dX1_hourOf_46 : decode cX1_hourOf 46 = .ok (.iconst 1, 1) := by decide +kernel
theorem dX1_hourOf_47 : decode cX1_hourOf 47 = .ok (.ireturn, 1) := by decide +kernel
theorem dX1_hourOf_48 : decode cX1_hourOf 48 = .ok (.iconst 2, 1) := by decide +kernel
theorem dX1_hourOf_49 : decode cX1_hourOf 49 = .ok (.ireturn, 1) := by decide +kernel
theorem dX1_hourOf_50 : decode cX1_hourOf 50 = .ok (.iconst 3, 1) := by decide +kernel
theorem dX1_hourOf_51 : decode cX1_hourOf 51 = .ok (.ireturn, 1) := by decide +kernel
theorem dX1_hourOf_52 : decode cX1_hourOf 52 = .ok (.iconst (-1), 1) := by decide +kernel
theorem dX1_hourOf_53 : decode cX1_hourOf 53 = .ok (.ireturn, 1) := by decide +kernel
theorem dX2_init_0 : decode cX2_init 0 = .ok (.aload_n 0, 1) := by decide +kernel
theorem dX2_init_1 : decode cX2_init 1 = .ok (.invokespecial 3, 3) := by decide +kernel
theorem dX2_init_4 : decode cX2_init 4 = .ok (.aload_n 0, 1) := by decide +kernel
theorem dX2_init_5 : decode cX2_init 5 = .ok (.bipush 9, 2) := by decide +kernel
theorem dX2_init_7 : decode cX2_init 7 = .ok (.newarray .int, 2) := by decide +kernel
theorem dX2_init_9 : decode cX2_init 9 = .ok (.putfield 9, 3) := by decide +kernel
theorem dX2_init_12 : decode cX2_init 12 = .ok (.aload_n 0, 1) := by decide +kernel
theorem dX2_init_13 : decode cX2_init 13 = .ok (.bipush 9, 2) := by decide +kernel
theorem dX2_init_15 : decode cX2_init 15 = .ok (.newarray .int, 2) := by decide +kernel
theorem dX2_init_17 : decode cX2_init 17 = .ok (.putfield 15, 3) := by decide +kernel
theorem dX2_init_20 : decode cX2_init 20 = .ok (.return_, 1) := by decide +kernel
theorem dX2_flow_0 : decode cX2_flow 0 = .ok (.aload_n 1, 1) := by decide +kernel
theorem dX2_flow_1 : decode cX2_flow 1 = .ok (.iload_n 2, 1) := by decide +kernel
theorem dX2_flow_2 : decode cX2_flow 2 = .ok (.invokevirtual 18, 3) := by decide +kernel
theorem dX2_flow_5 : decode cX2_flow 5 = .ok (.istore_n 3, 1) := by decide +kernel
theorem dX2_flow_6 : decode cX2_flow 6 = .ok (.iconst 0, 1) := by decide +kernel
theorem dX2_flow_7 : decode cX2_flow 7 = .ok (.istore 4, 2) := by decide +kernel
theorem dX2_flow_9 : decode cX2_flow 9 = .ok (.iload 4, 2) := by decide +kernel
theorem dX2_flow_11 : decode cX2_flow 11 = .ok (.aload_n 1, 1) := by decide +kernel
theorem dX2_flow_12 : decode cX2_flow 12 = .ok (.getfield 24, 3) := by decide +kernel
theorem dX2_flow_15 : decode cX2_flow 15 = .ok (.if_icmp .ge 89, 3) := by decide +kernel
theorem dX2_flow_18 : decode cX2_flow 18 = .ok (.iconst 0, 1) := by decide +kernel
theorem dX2_flow_19 : decode cX2_flow 19 = .ok (.iload_n 3, 1) := by decide +kernel
theorem dX2_flow_20 : decode cX2_flow 20 = .ok (.aload_n 1, 1) := by decide +kernel
theorem dX2_flow_21 : decode cX2_flow 21 = .ok (.iload 4, 2) := by decide +kernel
theorem dX2_flow_23 : decode cX2_flow 23 = .ok (.iconst 5, 1) := by decide +kernel
theorem dX2_flow_24 : decode cX2_flow 24 = .ok (.invokevirtual 28, 3) := by decide +kernel
theorem dX2_flow_27 : decode cX2_flow 27 = .ok (.isub, 1) := by decide +kernel
theorem dX2_flow_28 : decode cX2_flow 28 = .ok (.invokestatic 32, 3) := by decide +kernel
theorem dX2_flow_31 : decode cX2_flow 31 = .ok (.istore_n 3, 1) := by decide +kernel
theorem dX2_flow_32 : decode cX2_flow 32 = .ok (.iconst 0, 1) := by decide +kernel
theorem dX2_flow_33 : decode cX2_flow 33 = .ok (.iload_n 3, 1) := by decide +kernel
theorem dX2_flow_34 : decode cX2_flow 34 = .ok (.aload_n 1, 1) := by decide +kernel
theorem dX2_flow_35 : decode cX2_flow 35 = .ok (.iload 4, 2) := by decide +kernel
theorem dX2_flow_37 : decode cX2_flow 37 = .ok (.iconst 0, 1) := by decide +kernel
theorem dX2_flow_38 : decode cX2_flow 38 = .ok (.invokevirtual 28, 3) := by decide +kernel
theorem dX2_flow_41 : decode cX2_flow 41 = .ok (.isub, 1) := by decide +kernel
theorem dX2_flow_42 : decode cX2_flow 42 = .ok (.invokestatic 32, 3) := by decide +kernel
theorem dX2_flow_45 : decode cX2_flow 45 = .ok (.istore 5, 2) := by decide +kernel
theorem dX2_flow_47 : decode cX2_flow 47 = .ok (.aload_n 0, 1) := by decide +kernel
theorem dX2_flow_48 : decode cX2_flow 48 = .ok (.getfield 15, 3) := by decide +kernel
theorem dX2_flow_51 : decode cX2_flow 51 = .ok (.iload 4, 2) := by decide +kernel
theorem dX2_flow_53 : decode cX2_flow 53 = .ok (.iload_n 3, 1) := by decide +kernel
theorem dX2_flow_54 : decode cX2_flow 54 = .ok (.iastore, 1) := by decide +kernel
theorem dX2_flow_55 : decode cX2_flow 55 = .ok (.aload_n 0, 1) := by decide +kernel
theorem dX2_flow_56 : decode cX2_flow 56 = .ok (.getfield 9, 3) := by decide +kernel
theorem dX2_flow_59 : decode cX2_flow 59 = .ok (.iload 4, 2) := by decide +kernel
theorem dX2_flow_61 : decode cX2_flow 61 = .ok (.aload_n 1, 1) := by decide +kernel
theorem dX2_flow_62 : decode cX2_flow 62 = .ok (.iload 4, 2) := by decide +kernel
theorem dX2_flow_64 : decode cX2_flow 64 = .ok (.iload_n 2, 1) := by decide +kernel
theorem dX2_flow_65 : decode cX2_flow 65 = .ok (.invokevirtual 37, 3) := by decide +kernel
theorem dX2_flow_68 : decode cX2_flow 68 = .ok (.ifCond .eq 7, 3) := by decide +kernel
theorem dX2_flow_71 : decode cX2_flow 71 = .ok (.iconst 0, 1) := by decide +kernel
theorem dX2_flow_72 : decode cX2_flow 72 = .ok (.goto 15, 3) := by decide +kernel
theorem dX2_flow_75 : decode cX2_flow 75 = .ok (.aload_n 1, 1) := by decide +kernel
theorem dX2_flow_76 : decode cX2_flow 76 = .ok (.iload 4, 2) := by decide +kernel
theorem dX2_flow_78 : decode cX2_flow 78 = .ok (.iconst 1, 1) := by decide +kernel
theorem dX2_flow_79 : decode cX2_flow 79 = .ok (.invokevirtual 28, 3) := by decide +kernel
theorem dX2_flow_82 : decode cX2_flow 82 = .ok (.iload 5, 2) := by decide +kernel
theorem dX2_flow_84 : decode cX2_flow 84 = .ok (.invokestatic 41, 3) := by decide +kernel
theorem dX2_flow_87 : decode cX2_flow 87 = .ok (.iastore, 1) := by decide +kernel
theorem dX2_flow_88 : decode cX2_flow 88 = .ok (.iload_n 3, 1) := by decide +kernel
theorem dX2_flow_89 : decode cX2_flow 89 = .ok (.aload_n 0, 1) := by decide +kernel
theorem dX2_flow_90 : decode cX2_flow 90 = .ok (.getfield 9, 3) := by decide +kernel
theorem dX2_flow_93 : decode cX2_flow 93 = .ok (.iload 4, 2) := by decide +kernel
theorem dX2_flow_95 : decode cX2_flow 95 = .ok (.iaload, 1) := by decide +kernel
theorem dX2_flow_96 : decode cX2_flow 96 = .ok (.isub, 1) := by decide +kernel
theorem dX2_flow_97 : decode cX2_flow 97 = .ok (.istore_n 3, 1) := by decide +kernel
theorem dX2_flow_98 : decode cX2_flow 98 = .ok (.iinc 4 1, 3) := by decide +kernel
theorem dX2_flow_101 : decode cX2_flow 101 = .ok (.goto (-92), 3) := by decide +kernel
theorem dX2_flow_104 : decode cX2_flow 104 = .ok (.aload_n 0, 1) := by decide +kernel
theorem dX2_flow_105 : decode cX2_flow 105 = .ok (.iload_n 3, 1) := by decide +kernel
theorem dX2_flow_106 : decode cX2_flow 106 = .ok (.putfield 44, 3) := by decide +kernel
theorem dX2_flow_109 : decode cX2_flow 109 = .ok (.return_, 1) := by decide +kernel
theorem dX2_sum_0 : decode cX2_sum 0 = .ok (.iconst 0, 1) := by decide +kernel
theorem dX2_sum_1 : decode cX2_sum 1 = .ok (.istore_n 2, 1) := by decide +kernel
theorem dX2_sum_2 : decode cX2_sum 2 = .ok (.iconst 0, 1) := by decide +kernel
theorem dX2_sum_3 : decode cX2_sum 3 = .ok (.istore_n 3, 1) := by decide +kernel
theorem dX2_sum_4 : decode cX2_sum 4 = .ok (.iload_n 3, 1) := by decide +kernel
theorem dX2_sum_5 : decode cX2_sum 5 = .ok (.iload_n 1, 1) := by decide +kernel
theorem dX2_sum_6 : decode cX2_sum 6 = .ok (.if_icmp .ge 18, 3) := by decide +kernel
theorem dX2_sum_9 : decode cX2_sum 9 = .ok (.iload_n 2, 1) := by decide +kernel
theorem dX2_sum_10 : decode cX2_sum 10 = .ok (.aload_n 0, 1) := by decide +kernel
theorem dX2_sum_11 : decode cX2_sum 11 = .ok (.getfield 9, 3) := by decide +kernel
theorem dX2_sum_14 : decode cX2_sum 14 = .ok (.iload_n 3, 1) := by decide +kernel
theorem dX2_sum_15 : decode cX2_sum 15 = .ok (.iaload, 1) := by decide +kernel
theorem dX2_sum_16 : decode cX2_sum 16 = .ok (.iadd, 1) := by decide +kernel
theorem dX2_sum_17 : decode cX2_sum 17 = .ok (.istore_n 2, 1) := by decide +kernel
theorem dX2_sum_18 : decode cX2_sum 18 = .ok (.iinc 3 1, 3) := by decide +kernel
theorem dX2_sum_21 : decode cX2_sum 21 = .ok (.goto (-17), 3) := by decide +kernel
theorem dX2_sum_24 : decode cX2_sum 24 = .ok (.iload_n 2, 1) := by decide +kernel
theorem dX2_sum_25 : decode cX2_sum 25 = .ok (.ireturn, 1) := by decide +kernel
theorem dX2_someTookNothing_0 : decode cX2_someTookNothing 0 = .ok (.iconst 0, 1) := by decide +kernel
theorem dX2_someTookNothing_1 : decode cX2_someTookNothing 1 = .ok (.istore_n 2, 1) := by decide +kernel
theorem dX2_someTookNothing_2 : decode cX2_someTookNothing 2 = .ok (.iload_n 2, 1) := by decide +kernel
theorem dX2_someTookNothing_3 : decode cX2_someTookNothing 3 = .ok (.iload_n 1, 1) := by decide +kernel
theorem dX2_someTookNothing_4 : decode cX2_someTookNothing 4 = .ok (.if_icmp .ge 20, 3) := by decide +kernel
theorem dX2_someTookNothing_7 : decode cX2_someTookNothing 7 = .ok (.aload_n 0, 1) := by decide +kernel
theorem dX2_someTookNothing_8 : decode cX2_someTookNothing 8 = .ok (.getfield 9, 3) := by decide +kernel
theorem dX2_someTookNothing_11 : decode cX2_someTookNothing 11 = .ok (.iload_n 2, 1) := by decide +kernel
theorem dX2_someTookNothing_12 : decode cX2_someTookNothing 12 = .ok (.iaload, 1) := by decide +kernel
theorem dX2_someTookNothing_13 : decode cX2_someTookNothing 13 = .ok (.ifCond .ne 5, 3) := by decide +kernel
theorem dX2_someTookNothing_16 : decode cX2_someTookNothing 16 = .ok (.iconst 1, 1) := by decide +kernel
theorem dX2_someTookNothing_17 : decode cX2_someTookNothing 17 = .ok (.ireturn, 1) := by decide +kernel
theorem dX2_someTookNothing_18 : decode cX2_someTookNothing 18 = .ok (.iinc 2 1, 3) := by decide +kernel
theorem dX2_someTookNothing_21 : decode cX2_someTookNothing 21 = .ok (.goto (-19), 3) := by decide +kernel
theorem dX2_someTookNothing_24 : decode cX2_someTookNothing 24 = .ok (.iconst 0, 1) := by decide +kernel
theorem dX2_someTookNothing_25 : decode cX2_someTookNothing 25 = .ok (.ireturn, 1) := by decide +kernel
theorem dX3_init_0 : decode cX3_init 0 = .ok (.aload_n 0, 1) := by decide +kernel
theorem dX3_init_1 : decode cX3_init 1 = .ok (.invokespecial 3, 3) := by decide +kernel
theorem dX3_init_4 : decode cX3_init 4 = .ok (.aload_n 0, 1) := by decide +kernel
theorem dX3_init_5 : decode cX3_init 5 = .ok (.bipush 63, 2) := by decide +kernel
theorem dX3_init_7 : decode cX3_init 7 = .ok (.newarray .int, 2) := by decide +kernel
theorem dX3_init_9 : decode cX3_init 9 = .ok (.putfield 9, 3) := by decide +kernel
theorem dX3_init_12 : decode cX3_init 12 = .ok (.aload_n 0, 1) := by decide +kernel
theorem dX3_init_13 : decode cX3_init 13 = .ok (.iconst 3, 1) := by decide +kernel
theorem dX3_init_14 : decode cX3_init 14 = .ok (.newarray .int, 2) := by decide +kernel
theorem dX3_init_16 : decode cX3_init 16 = .ok (.putfield 15, 3) := by decide +kernel
theorem dX3_init_19 : decode cX3_init 19 = .ok (.aload_n 0, 1) := by decide +kernel
theorem dX3_init_20 : decode cX3_init 20 = .ok (.bipush 8, 2) := by decide +kernel
theorem dX3_init_22 : decode cX3_init 22 = .ok (.newarray .int, 2) := by decide +kernel
theorem dX3_init_24 : decode cX3_init 24 = .ok (.putfield 18, 3) := by decide +kernel
theorem dX3_init_27 : decode cX3_init 27 = .ok (.aload_n 0, 1) := by decide +kernel
theorem dX3_init_28 : decode cX3_init 28 = .ok (.bipush 8, 2) := by decide +kernel
theorem dX3_init_30 : decode cX3_init 30 = .ok (.newarray .int, 2) := by decide +kernel
theorem dX3_init_32 : decode cX3_init 32 = .ok (.putfield 21, 3) := by decide +kernel
theorem dX3_init_35 : decode cX3_init 35 = .ok (.getstatic 24, 3) := by decide +kernel
theorem dX3_init_38 : decode cX3_init 38 = .ok (.iconst 0, 1) := by decide +kernel
theorem dX3_init_39 : decode cX3_init 39 = .ok (.aload_n 0, 1) := by decide +kernel
theorem dX3_init_40 : decode cX3_init 40 = .ok (.getfield 15, 3) := by decide +kernel
theorem dX3_init_43 : decode cX3_init 43 = .ok (.iconst 0, 1) := by decide +kernel
theorem dX3_init_44 : decode cX3_init 44 = .ok (.iconst 3, 1) := by decide +kernel
theorem dX3_init_45 : decode cX3_init 45 = .ok (.invokestatic 27, 3) := by decide +kernel
theorem dX3_init_48 : decode cX3_init 48 = .ok (.aload_n 0, 1) := by decide +kernel
theorem dX3_init_49 : decode cX3_init 49 = .ok (.bipush 9, 2) := by decide +kernel
theorem dX3_init_51 : decode cX3_init 51 = .ok (.invokevirtual 33, 3) := by decide +kernel
theorem dX3_init_54 : decode cX3_init 54 = .ok (.return_, 1) := by decide +kernel
theorem dX3_begin_0 : decode cX3_begin 0 = .ok (.aload_n 0, 1) := by decide +kernel
theorem dX3_begin_1 : decode cX3_begin 1 = .ok (.iload_n 1, 1) := by decide +kernel
theorem dX3_begin_2 : decode cX3_begin 2 = .ok (.putfield 37, 3) := by decide +kernel
theorem dX3_begin_5 : decode cX3_begin 5 = .ok (.aload_n 0, 1) := by decide +kernel
theorem dX3_begin_6 : decode cX3_begin 6 = .ok (.iconst 0, 1) := by decide +kernel
theorem dX3_begin_7 : decode cX3_begin 7 = .ok (.putfield 41, 3) := by decide +kernel
theorem dX3_begin_10 : decode cX3_begin 10 = .ok (.aload_n 0, 1) := by decide +kernel
theorem dX3_begin_11 : decode cX3_begin 11 = .ok (.iconst 0, 1) := by decide +kernel
theorem dX3_begin_12 : decode cX3_begin 12 = .ok (.putfield 44, 3) := by decide +kernel
theorem dX3_begin_15 : decode cX3_begin 15 = .ok (.iconst 0, 1) := by decide +kernel
theorem dX3_begin_16 : decode cX3_begin 16 = .ok (.istore_n 2, 1) := by decide +kernel
theorem dX3_begin_17 : decode cX3_begin 17 = .ok (.iload_n 2, 1) := by decide +kernel
theorem dX3_begin_18 : decode cX3_begin 18 = .ok (.bipush 9, 2) := by decide +kernel
theorem dX3_begin_20 : decode cX3_begin 20 = .ok (.if_icmp .ge 26, 3) := by decide +kernel
theorem dX3_begin_23 : decode cX3_begin 23 = .ok (.getstatic 47, 3) := by decide +kernel
theorem dX3_begin_26 : decode cX3_begin 26 = .ok (.iconst 0, 1) := by decide +kernel
theorem dX3_begin_27 : decode cX3_begin 27 = .ok (.aload_n 0, 1) := by decide +kernel
theorem dX3_begin_28 : decode cX3_begin 28 = .ok (.getfield 9, 3) := by decide +kernel
theorem dX3_begin_31 : decode cX3_begin 31 = .ok (.iload_n 2, 1) := by decide +kernel
theorem dX3_begin_32 : decode cX3_begin 32 = .ok (.bipush 7, 2) := by decide +kernel
theorem dX3_begin_34 : decode cX3_begin 34 = .ok (.imul, 1) := by decide +kernel
theorem dX3_begin_35 : decode cX3_begin 35 = .ok (.bipush 7, 2) := by decide +kernel
theorem dX3_begin_37 : decode cX3_begin 37 = .ok (.invokestatic 27, 3) := by decide +kernel
theorem dX3_begin_40 : decode cX3_begin 40 = .ok (.iinc 2 1, 3) := by decide +kernel
theorem dX3_begin_43 : decode cX3_begin 43 = .ok (.goto (-26), 3) := by decide +kernel
theorem dX3_begin_46 : decode cX3_begin 46 = .ok (.return_, 1) := by decide +kernel
theorem dX3_copy_0 : decode cX3_copy 0 = .ok (.aload_n 0, 1) := by decide +kernel
theorem dX3_copy_1 : decode cX3_copy 1 = .ok (.aload_n 1, 1) := by decide +kernel
theorem dX3_copy_2 : decode cX3_copy 2 = .ok (.getfield 37, 3) := by decide +kernel
theorem dX3_copy_5 : decode cX3_copy 5 = .ok (.putfield 37, 3) := by decide +kernel
theorem dX3_copy_8 : decode cX3_copy 8 = .ok (.aload_n 0, 1) := by decide +kernel
theorem dX3_copy_9 : decode cX3_copy 9 = .ok (.aload_n 1, 1) := by decide +kernel
theorem dX3_copy_10 : decode cX3_copy 10 = .ok (.getfield 41, 3) := by decide +kernel
theorem dX3_copy_13 : decode cX3_copy 13 = .ok (.putfield 41, 3) := by decide +kernel
theorem dX3_copy_16 : decode cX3_copy 16 = .ok (.aload_n 0, 1) := by decide +kernel
theorem dX3_copy_17 : decode cX3_copy 17 = .ok (.aload_n 1, 1) := by decide +kernel
theorem dX3_copy_18 : decode cX3_copy 18 = .ok (.getfield 44, 3) := by decide +kernel
theorem dX3_copy_21 : decode cX3_copy 21 = .ok (.putfield 44, 3) := by decide +kernel
theorem dX3_copy_24 : decode cX3_copy 24 = .ok (.aload_n 1, 1) := by decide +kernel
theorem dX3_copy_25 : decode cX3_copy 25 = .ok (.getfield 9, 3) := by decide +kernel
theorem dX3_copy_28 : decode cX3_copy 28 = .ok (.iconst 0, 1) := by decide +kernel
theorem dX3_copy_29 : decode cX3_copy 29 = .ok (.aload_n 0, 1) := by decide +kernel
theorem dX3_copy_30 : decode cX3_copy 30 = .ok (.getfield 9, 3) := by decide +kernel
theorem dX3_copy_33 : decode cX3_copy 33 = .ok (.iconst 0, 1) := by decide +kernel
theorem dX3_copy_34 : decode cX3_copy 34 = .ok (.aload_n 0, 1) := by decide +kernel
theorem dX3_copy_35 : decode cX3_copy 35 = .ok (.getfield 9, 3) := by decide +kernel
theorem dX3_copy_38 : decode cX3_copy 38 = .ok (.arraylength, 1) := by decide +kernel
theorem dX3_copy_39 : decode cX3_copy 39 = .ok (.invokestatic 27, 3) := by decide +kernel
theorem dX3_copy_42 : decode cX3_copy 42 = .ok (.aload_n 1, 1) := by decide +kernel
theorem dX3_copy_43 : decode cX3_copy 43 = .ok (.getfield 15, 3) := by decide +kernel
theorem dX3_copy_46 : decode cX3_copy 46 = .ok (.iconst 0, 1) := by decide +kernel
theorem dX3_copy_47 : decode cX3_copy 47 = .ok (.aload_n 0, 1) := by decide +kernel
theorem dX3_copy_48 : decode cX3_copy 48 = .ok (.getfield 15, 3) := by decide +kernel
theorem dX3_copy_51 : decode cX3_copy 51 = .ok (.iconst 0, 1) := by decide +kernel
theorem dX3_copy_52 : decode cX3_copy 52 = .ok (.iconst 3, 1) := by decide +kernel
theorem dX3_copy_53 : decode cX3_copy 53 = .ok (.invokestatic 27, 3) := by decide +kernel
theorem dX3_copy_56 : decode cX3_copy 56 = .ok (.aload_n 1, 1) := by decide +kernel
theorem dX3_copy_57 : decode cX3_copy 57 = .ok (.getfield 18, 3) := by decide +kernel
theorem dX3_copy_60 : decode cX3_copy 60 = .ok (.iconst 0, 1) := by decide +kernel
theorem dX3_copy_61 : decode cX3_copy 61 = .ok (.aload_n 0, 1) := by decide +kernel
theorem dX3_copy_62 : decode cX3_copy 62 = .ok (.getfield 18, 3) := by decide +kernel
theorem dX3_copy_65 : decode cX3_copy 65 = .ok (.iconst 0, 1) := by decide +kernel
theorem dX3_copy_66 : decode cX3_copy 66 = .ok (.bipush 8, 2) := by decide +kernel
theorem dX3_copy_68 : decode cX3_copy 68 = .ok (.invokestatic 27, 3) := by decide +kernel
theorem dX3_copy_71 : decode cX3_copy 71 = .ok (.aload_n 1, 1) := by decide +kernel
theorem dX3_copy_72 : decode cX3_copy 72 = .ok (.getfield 21, 3) := by decide +kernel
theorem dX3_copy_75 : decode cX3_copy 75 = .ok (.iconst 0, 1) := by decide +kernel
theorem dX3_copy_76 : decode cX3_copy 76 = .ok (.aload_n 0, 1) := by decide +kernel
theorem dX3_copy_77 : decode cX3_copy 77 = .ok (.getfield 21, 3) := by decide +kernel
theorem dX3_copy_80 : decode cX3_copy 80 = .ok (.iconst 0, 1) := by decide +kernel
theorem dX3_copy_81 : decode cX3_copy 81 = .ok (.bipush 8, 2) := by decide +kernel
theorem dX3_copy_83 : decode cX3_copy 83 = .ok (.invokestatic 27, 3) := by decide +kernel
theorem dX3_copy_86 : decode cX3_copy 86 = .ok (.return_, 1) := by decide +kernel
theorem dX3_has_0 : decode cX3_has 0 = .ok (.iload_n 1, 1) := by decide +kernel
theorem dX3_has_1 : decode cX3_has 1 = .ok (.ifCond .lt 15, 3) := by decide +kernel
theorem dX3_has_4 : decode cX3_has 4 = .ok (.iload_n 1, 1) := by decide +kernel
theorem dX3_has_5 : decode cX3_has 5 = .ok (.aload_n 0, 1) := by decide +kernel
theorem dX3_has_6 : decode cX3_has 6 = .ok (.getfield 37, 3) := by decide +kernel
theorem dX3_has_9 : decode cX3_has 9 = .ok (.if_icmp .ge 7, 3) := by decide +kernel
theorem dX3_has_12 : decode cX3_has 12 = .ok (.iconst 1, 1) := by decide +kernel
theorem dX3_has_13 : decode cX3_has 13 = .ok (.goto 4, 3) := by decide +kernel
theorem dX3_has_16 : decode cX3_has 16 = .ok (.iconst 0, 1) := by decide +kernel
theorem dX3_has_17 : decode cX3_has 17 = .ok (.ireturn, 1) := by decide +kernel
theorem dX3_fact_0 : decode cX3_fact 0 = .ok (.aload_n 0, 1) := by decide +kernel
theorem dX3_fact_1 : decode cX3_fact 1 = .ok (.getfield 9, 3) := by decide +kernel
theorem dX3_fact_4 : decode cX3_fact 4 = .ok (.iload_n 1, 1) := by decide +kernel
theorem dX3_fact_5 : decode cX3_fact 5 = .ok (.bipush 7, 2) := by decide +kernel
theorem dX3_fact_7 : decode cX3_fact 7 = .ok (.imul, 1) := by decide +kernel
theorem dX3_fact_8 : decode cX3_fact 8 = .ok (.iload_n 2, 1) := by decide +kernel
theorem dX3_fact_9 : decode cX3_fact 9 = .ok (.iadd, 1) := by decide +kernel
theorem dX3_fact_10 : decode cX3_fact 10 = .ok (.iaload, 1) := by decide +kernel
theorem dX3_fact_11 : decode cX3_fact 11 = .ok (.ireturn, 1) := by decide +kernel
theorem dX3_put_0 : decode cX3_put 0 = .ok (.aload_n 0, 1) := by decide +kernel
theorem dX3_put_1 : decode cX3_put 1 = .ok (.getfield 9, 3) := by decide +kernel
theorem dX3_put_4 : decode cX3_put 4 = .ok (.iload_n 1, 1) := by decide +kernel
theorem dX3_put_5 : decode cX3_put 5 = .ok (.bipush 7, 2) := by decide +kernel
theorem dX3_put_7 : decode cX3_put 7 = .ok (.imul, 1) := by decide +kernel
theorem dX3_put_8 : decode cX3_put 8 = .ok (.iload_n 2, 1) := by decide +kernel
theorem dX3_put_9 : decode cX3_put 9 = .ok (.iadd, 1) := by decide +kernel
theorem dX3_put_10 : decode cX3_put 10 = .ok (.iload_n 3, 1) := by decide +kernel
theorem dX3_put_11 : decode cX3_put 11 = .ok (.iastore, 1) := by decide +kernel
theorem dX3_put_12 : decode cX3_put 12 = .ok (.return_, 1) := by decide +kernel
theorem dX3_turnPlug_0 : decode cX3_turnPlug 0 = .ok (.aload_n 0, 1) := by decide +kernel
theorem dX3_turnPlug_1 : decode cX3_turnPlug 1 = .ok (.iload_n 1, 1) := by decide +kernel
theorem dX3_turnPlug_2 : decode cX3_turnPlug 2 = .ok (.iconst 4, 1) := by decide +kernel
theorem dX3_turnPlug_3 : decode cX3_turnPlug 3 = .ok (.iconst 1, 1) := by decide +kernel
theorem dX3_turnPlug_4 : decode cX3_turnPlug 4 = .ok (.aload_n 0, 1) := by decide +kernel
theorem dX3_turnPlug_5 : decode cX3_turnPlug 5 = .ok (.iload_n 1, 1) := by decide +kernel
theorem dX3_turnPlug_6 : decode cX3_turnPlug 6 = .ok (.iconst 4, 1) := by decide +kernel
theorem dX3_turnPlug_7 : decode cX3_turnPlug 7 = .ok (.invokevirtual 50, 3) := by decide +kernel
theorem dX3_turnPlug_10 : decode cX3_turnPlug 10 = .ok (.isub, 1) := by decide +kernel
theorem dX3_turnPlug_11 : decode cX3_turnPlug 11 = .ok (.invokevirtual 54, 3) := by decide +kernel
theorem dX3_turnPlug_14 : decode cX3_turnPlug 14 = .ok (.return_, 1) := by decide +kernel
theorem dX3_lack_0 : decode cX3_lack 0 = .ok (.iconst 0, 1) := by decide +kernel
theorem dX3_lack_1 : decode cX3_lack 1 = .ok (.aload_n 0, 1) := by decide +kernel
theorem dX3_lack_2 : decode cX3_lack 2 = .ok (.iload_n 1, 1) := by decide +kernel
theorem dX3_lack_3 : decode cX3_lack 3 = .ok (.iconst 2, 1) := by decide +kernel
theorem dX3_lack_4 : decode cX3_lack 4 = .ok (.invokevirtual 50, 3) := by decide +kernel
theorem dX3_lack_7 : decode cX3_lack 7 = .ok (.aload_n 0, 1) := by decide +kernel
theorem dX3_lack_8 : decode cX3_lack 8 = .ok (.iload_n 1, 1) := by decide +kernel
theorem dX3_lack_9 : decode cX3_lack 9 = .ok (.bipush 6, 2) := by decide +kernel
theorem dX3_lack_11 : decode cX3_lack 11 = .ok (.invokevirtual 50, 3) := by decide +kernel
theorem dX3_lack_14 : decode cX3_lack 14 = .ok (.isub, 1) := by decide +kernel
theorem dX3_lack_15 : decode cX3_lack 15 = .ok (.invokestatic 58, 3) := by decide +kernel
theorem dX3_lack_18 : decode cX3_lack 18 = .ok (.ireturn, 1) := by decide +kernel
theorem dX3_see_0 : decode cX3_see 0 = .ok (.aload_n 0, 1) := by decide +kernel
theorem dX3_see_1 : decode cX3_see 1 = .ok (.getfield 18, 3) := by decide +kernel
theorem dX3_see_4 : decode cX3_see 4 = .ok (.aload_n 0, 1) := by decide +kernel
theorem dX3_see_5 : decode cX3_see 5 = .ok (.getfield 44, 3) := by decide +kernel
theorem dX3_see_8 : decode cX3_see 8 = .ok (.iload_n 1, 1) := by decide +kernel
theorem dX3_see_9 : decode cX3_see 9 = .ok (.iastore, 1) := by decide +kernel
theorem dX3_see_10 : decode cX3_see 10 = .ok (.aload_n 0, 1) := by decide +kernel
theorem dX3_see_11 : decode cX3_see 11 = .ok (.getfield 21, 3) := by decide +kernel
theorem dX3_see_14 : decode cX3_see 14 = .ok (.aload_n 0, 1) := by decide +kernel
theorem dX3_see_15 : decode cX3_see 15 = .ok (.getfield 44, 3) := by decide +kernel
theorem dX3_see_18 : decode cX3_see 18 = .ok (.iload_n 2, 1) := by decide +kernel
theorem dX3_see_19 : decode cX3_see 19 = .ok (.iastore, 1) := by decide +kernel
theorem dX3_see_20 : decode cX3_see 20 = .ok (.aload_n 0, 1) := by decide +kernel
theorem dX3_see_21 : decode cX3_see 21 = .ok (.dup, 1) := by decide +kernel
theorem dX3_see_22 : decode cX3_see 22 = .ok (.getfield 44, 3) := by decide +kernel
theorem dX3_see_25 : decode cX3_see 25 = .ok (.iconst 1, 1) := by decide +kernel
theorem dX3_see_26 : decode cX3_see 26 = .ok (.iadd, 1) := by decide +kernel
theorem dX3_see_27 : decode cX3_see 27 = .ok (.putfield 44, 3) := by decide +kernel
theorem dX3_see_30 : decode cX3_see 30 = .ok (.return_, 1) := by decide +kernel
theorem dX3_copyWithNew_0 : decode cX3_copyWithNew 0 = .ok (.aload_n 0, 1) := by decide +kernel
theorem dX3_copyWithNew_1 : decode cX3_copyWithNew 1 = .ok (.aload_n 1, 1) := by decide +kernel
theorem dX3_copyWithNew_2 : decode cX3_copyWithNew 2 = .ok (.invokevirtual 63, 3) := by decide +kernel
theorem dX3_copyWithNew_5 : decode cX3_copyWithNew 5 = .ok (.iload_n 2, 1) := by decide +kernel
theorem dX3_copyWithNew_6 : decode cX3_copyWithNew 6 = .ok (.bipush 7, 2) := by decide +kernel
theorem dX3_copyWithNew_8 : decode cX3_copyWithNew 8 = .ok (.imul, 1) := by decide +kernel
theorem dX3_copyWithNew_9 : decode cX3_copyWithNew 9 = .ok (.istore 5, 2) := by decide +kernel
theorem dX3_copyWithNew_11 : decode cX3_copyWithNew 11 = .ok (.aload_n 1, 1) := by decide +kernel
theorem dX3_copyWithNew_12 : decode cX3_copyWithNew 12 = .ok (.getfield 9, 3) := by decide +kernel
theorem dX3_copyWithNew_15 : decode cX3_copyWithNew 15 = .ok (.iload 5, 2) := by decide +kernel
theorem dX3_copyWithNew_17 : decode cX3_copyWithNew 17 = .ok (.aload_n 0, 1) := by decide +kernel
theorem dX3_copyWithNew_18 : decode cX3_copyWithNew 18 = .ok (.getfield 9, 3) := by decide +kernel
theorem dX3_copyWithNew_21 : decode cX3_copyWithNew 21 = .ok (.iload 5, 2) := by decide +kernel
theorem dX3_copyWithNew_23 : decode cX3_copyWithNew 23 = .ok (.bipush 7, 2) := by decide +kernel
theorem dX3_copyWithNew_25 : decode cX3_copyWithNew 25 = .ok (.iadd, 1) := by decide +kernel
theorem dX3_copyWithNew_26 : decode cX3_copyWithNew 26 = .ok (.aload_n 1, 1) := by decide +kernel
theorem dX3_copyWithNew_27 : decode cX3_copyWithNew 27 = .ok (.getfield 37, 3) := by decide +kernel
theorem dX3_copyWithNew_30 : decode cX3_copyWithNew 30 = .ok (.iload_n 2, 1) := by decide +kernel
theorem dX3_copyWithNew_31 : decode cX3_copyWithNew 31 = .ok (.isub, 1) := by decide +kernel
theorem dX3_copyWithNew_32 : decode cX3_copyWithNew 32 = .ok (.bipush 7, 2) := by decide +kernel
theorem dX3_copyWithNew_34 : decode cX3_copyWithNew 34 = .ok (.imul, 1) := by decide +kernel
theorem dX3_copyWithNew_35 : decode cX3_copyWithNew 35 = .ok (.invokestatic 27, 3) := by decide +kernel
theorem dX3_copyWithNew_38 : decode cX3_copyWithNew 38 = .ok (.getstatic 47, 3) := by decide +kernel
theorem dX3_copyWithNew_41 : decode cX3_copyWithNew 41 = .ok (.iconst 0, 1) := by decide +kernel
theorem dX3_copyWithNew_42 : decode cX3_copyWithNew 42 = .ok (.aload_n 0, 1) := by decide +kernel
theorem dX3_copyWithNew_43 : decode cX3_copyWithNew 43 = .ok (.getfield 9, 3) := by decide +kernel
theorem dX3_copyWithNew_46 : decode cX3_copyWithNew 46 = .ok (.iload 5, 2) := by decide +kernel
theorem dX3_copyWithNew_48 : decode cX3_copyWithNew 48 = .ok (.bipush 7, 2) := by decide +kernel
theorem dX3_copyWithNew_50 : decode cX3_copyWithNew 50 = .ok (.invokestatic 27, 3) := by decide +kernel
theorem dX3_copyWithNew_53 : decode cX3_copyWithNew 53 = .ok (.aload_n 0, 1) := by decide +kernel
theorem dX3_copyWithNew_54 : decode cX3_copyWithNew 54 = .ok (.iload_n 2, 1) := by decide +kernel
theorem dX3_copyWithNew_55 : decode cX3_copyWithNew 55 = .ok (.iconst 0, 1) := by decide +kernel
theorem dX3_copyWithNew_56 : decode cX3_copyWithNew 56 = .ok (.iload_n 3, 1) := by decide +kernel
theorem dX3_copyWithNew_57 : decode cX3_copyWithNew 57 = .ok (.invokevirtual 54, 3) := by decide +kernel
theorem dX3_copyWithNew_60 : decode cX3_copyWithNew 60 = .ok (.aload_n 0, 1) := by decide +kernel
theorem dX3_copyWithNew_61 : decode cX3_copyWithNew 61 = .ok (.iload_n 2, 1) := by decide +kernel
theorem dX3_copyWithNew_62 : decode cX3_copyWithNew 62 = .ok (.iconst 1, 1) := by decide +kernel
theorem dX3_copyWithNew_63 : decode cX3_copyWithNew 63 = .ok (.iload 4, 2) := by decide +kernel
theorem dX3_copyWithNew_65 : decode cX3_copyWithNew 65 = .ok (.invokevirtual 54, 3) := by decide +kernel
theorem dX3_copyWithNew_68 : decode cX3_copyWithNew 68 = .ok (.aload_n 0, 1) := by decide +kernel
theorem dX3_copyWithNew_69 : decode cX3_copyWithNew 69 = .ok (.aload_n 1, 1) := by decide +kernel
theorem dX3_copyWithNew_70 : decode cX3_copyWithNew 70 = .ok (.getfield 37, 3) := by decide +kernel
theorem dX3_copyWithNew_73 : decode cX3_copyWithNew 73 = .ok (.iconst 1, 1) := by decide +kernel
theorem dX3_copyWithNew_74 : decode cX3_copyWithNew 74 = .ok (.iadd, 1) := by decide +kernel
theorem dX3_copyWithNew_75 : decode cX3_copyWithNew 75 = .ok (.putfield 37, 3) := by decide +kernel
theorem dX3_copyWithNew_78 : decode cX3_copyWithNew 78 = .ok (.return_, 1) := by decide +kernel
theorem dX3_levelAtSpring_0 : decode cX3_levelAtSpring 0 = .ok (.aload_n 0, 1) := by decide +kernel
theorem dX3_levelAtSpring_1 : decode cX3_levelAtSpring 1 = .ok (.getfield 15, 3) := by decide +kernel
theorem dX3_levelAtSpring_4 : decode cX3_levelAtSpring 4 = .ok (.iconst 0, 1) := by decide +kernel
theorem dX3_levelAtSpring_5 : decode cX3_levelAtSpring 5 = .ok (.iaload, 1) := by decide +kernel
theorem dX3_levelAtSpring_6 : decode cX3_levelAtSpring 6 = .ok (.istore_n 2, 1) := by decide +kernel
theorem dX3_levelAtSpring_7 : decode cX3_levelAtSpring 7 = .ok (.iload_n 1, 1) := by decide +kernel
theorem dX3_levelAtSpring_8 : decode cX3_levelAtSpring 8 = .ok (.iconst 3, 1) := by decide +kernel
theorem dX3_levelAtSpring_9 : decode cX3_levelAtSpring 9 = .ok (.if_icmp .ne 12, 3) := by decide +kernel
theorem dX3_levelAtSpring_12 : decode cX3_levelAtSpring 12 = .ok (.iload_n 2, 1) := by decide +kernel
theorem dX3_levelAtSpring_13 : decode cX3_levelAtSpring 13 = .ok (.aload_n 0, 1) := by decide +kernel
theorem dX3_levelAtSpring_14 : decode cX3_levelAtSpring 14 = .ok (.getfield 15, 3) := by decide +kernel
theorem dX3_levelAtSpring_17 : decode cX3_levelAtSpring 17 = .ok (.iconst 1, 1) := by decide +kernel
theorem dX3_levelAtSpring_18 : decode cX3_levelAtSpring 18 = .ok (.iaload, 1) := by decide +kernel
theorem dX3_levelAtSpring_19 : decode cX3_levelAtSpring 19 = .ok (.iadd, 1) := by decide +kernel
theorem dX3_levelAtSpring_20 : decode cX3_levelAtSpring 20 = .ok (.istore_n 2, 1) := by decide +kernel
theorem dX3_levelAtSpring_21 : decode cX3_levelAtSpring 21 = .ok (.iload_n 1, 1) := by decide +kernel
theorem dX3_levelAtSpring_22 : decode cX3_levelAtSpring 22 = .ok (.iconst 1, 1) := by decide +kernel
theorem dX3_levelAtSpring_23 : decode cX3_levelAtSpring 23 = .ok (.if_icmp .ne 12, 3) := by decide +kernel
theorem dX3_levelAtSpring_26 : decode cX3_levelAtSpring 26 = .ok (.iload_n 2, 1) := by decide +kernel
theorem dX3_levelAtSpring_27 : decode cX3_levelAtSpring 27 = .ok (.aload_n 0, 1) := by decide +kernel
theorem dX3_levelAtSpring_28 : decode cX3_levelAtSpring 28 = .ok (.getfield 15, 3) := by decide +kernel
theorem dX3_levelAtSpring_31 : decode cX3_levelAtSpring 31 = .ok (.iconst 2, 1) := by decide +kernel
theorem dX3_levelAtSpring_32 : decode cX3_levelAtSpring 32 = .ok (.iaload, 1) := by decide +kernel
theorem dX3_levelAtSpring_33 : decode cX3_levelAtSpring 33 = .ok (.isub, 1) := by decide +kernel
theorem dX3_levelAtSpring_34 : decode cX3_levelAtSpring 34 = .ok (.istore_n 2, 1) := by decide +kernel
theorem dX3_levelAtSpring_35 : decode cX3_levelAtSpring 35 = .ok (.iconst 0, 1) := by decide +kernel
theorem dX3_levelAtSpring_36 : decode cX3_levelAtSpring 36 = .ok (.iload_n 2, 1) := by decide +kernel
theorem dX3_levelAtSpring_37 : decode cX3_levelAtSpring 37 = .ok (.invokestatic 58, 3) := by decide +kernel
theorem dX3_levelAtSpring_40 : decode cX3_levelAtSpring 40 = .ok (.ireturn, 1) := by decide +kernel
theorem dX3_takesNone_0 : decode cX3_takesNone 0 = .ok (.aload_n 0, 1) := by decide +kernel
theorem dX3_takesNone_1 : decode cX3_takesNone 1 = .ok (.iload_n 1, 1) := by decide +kernel
theorem dX3_takesNone_2 : decode cX3_takesNone 2 = .ok (.iconst 4, 1) := by decide +kernel
theorem dX3_takesNone_3 : decode cX3_takesNone 3 = .ok (.invokevirtual 50, 3) := by decide +kernel
theorem dX3_takesNone_6 : decode cX3_takesNone 6 = .ok (.ifCond .ne 17, 3) := by decide +kernel
theorem dX3_takesNone_9 : decode cX3_takesNone 9 = .ok (.iload_n 2, 1) := by decide +kernel
theorem dX3_takesNone_10 : decode cX3_takesNone 10 = .ok (.iconst 2, 1) := by decide +kernel
theorem dX3_takesNone_11 : decode cX3_takesNone 11 = .ok (.if_icmp .ne 16, 3) := by decide +kernel
theorem dX3_takesNone_14 : decode cX3_takesNone 14 = .ok (.aload_n 0, 1) := by decide +kernel
theorem dX3_takesNone_15 : decode cX3_takesNone 15 = .ok (.iload_n 1, 1) := by decide +kernel
theorem dX3_takesNone_16 : decode cX3_takesNone 16 = .ok (.iconst 3, 1) := by decide +kernel
theorem dX3_takesNone_17 : decode cX3_takesNone 17 = .ok (.invokevirtual 50, 3) := by decide +kernel
theorem dX3_takesNone_20 : decode cX3_takesNone 20 = .ok (.ifCond .eq 7, 3) := by decide +kernel
theorem dX3_takesNone_23 : decode cX3_takesNone 23 = .ok (.iconst 1, 1) := by decide +kernel
theorem dX3_takesNone_24 : decode cX3_takesNone 24 = .ok (.goto 4, 3) := by decide +kernel
theorem dX3_takesNone_27 : decode cX3_takesNone 27 = .ok (.iconst 0, 1) := by decide +kernel
theorem dX3_takesNone_28 : decode cX3_takesNone 28 = .ok (.ireturn, 1) := by decide +kernel
theorem dX3_reasonAgainst_0 : decode cX3_reasonAgainst 0 = .ok (.iload_n 1, 1) := by decide +kernel
theorem dX3_reasonAgainst_1 : decode cX3_reasonAgainst 1 = .ok (.iconst 5, 1) := by decide +kernel
theorem dX3_reasonAgainst_2 : decode cX3_reasonAgainst 2 = .ok (.if_icmp .ne 14, 3) := by decide +kernel
theorem dX3_reasonAgainst_5 : decode cX3_reasonAgainst 5 = .ok (.aload_n 0, 1) := by decide +kernel
theorem dX3_reasonAgainst_6 : decode cX3_reasonAgainst 6 = .ok (.iload_n 2, 1) := by decide +kernel
theorem dX3_reasonAgainst_7 : decode cX3_reasonAgainst 7 = .ok (.iconst 0, 1) := by decide +kernel
theorem dX3_reasonAgainst_8 : decode cX3_reasonAgainst 8 = .ok (.invokevirtual 50, 3) := by decide +kernel
theorem dX3_reasonAgainst_11 : decode cX3_reasonAgainst 11 = .ok (.ifCond .gt 5, 3) := by decide +kernel
theorem dX3_reasonAgainst_14 : decode cX3_reasonAgainst 14 = .ok (.iconst 1, 1) := by decide +kernel
theorem dX3_reasonAgainst_15 : decode cX3_reasonAgainst 15 = .ok (.ireturn, 1) := by decide +kernel
theorem dX3_reasonAgainst_16 : decode cX3_reasonAgainst 16 = .ok (.iload_n 1, 1) := by decide +kernel
theorem dX3_reasonAgainst_17 : decode cX3_reasonAgainst 17 = .ok (.bipush 6, 2) := by decide +kernel
theorem dX3_reasonAgainst_19 : decode cX3_reasonAgainst 19 = .ok (.if_icmp .ne 19, 3) := by decide +kernel
theorem dX3_reasonAgainst_22 : decode cX3_reasonAgainst 22 = .ok (.aload_n 0, 1) := by decide +kernel
theorem dX3_reasonAgainst_23 : decode cX3_reasonAgainst 23 = .ok (.iload_n 2, 1) := by decide +kernel
theorem dX3_reasonAgainst_24 : decode cX3_reasonAgainst 24 = .ok (.iconst 0, 1) := by decide +kernel
theorem dX3_reasonAgainst_25 : decode cX3_reasonAgainst 25 = .ok (.invokevirtual 50, 3) := by decide +kernel
theorem dX3_reasonAgainst_28 : decode cX3_reasonAgainst 28 = .ok (.getstatic 67, 3) := by decide +kernel
theorem dX3_reasonAgainst_31 : decode cX3_reasonAgainst 31 = .ok (.iconst 0, 1) := by decide +kernel
theorem dX3_reasonAgainst_32 : decode cX3_reasonAgainst 32 = .ok (.iaload, 1) := by decide +kernel
theorem dX3_reasonAgainst_33 : decode cX3_reasonAgainst 33 = .ok (.if_icmp .lt 5, 3) := by decide +kernel
theorem dX3_reasonAgainst_36 : decode cX3_reasonAgainst 36 = .ok (.iconst 1, 1) := by decide +kernel
theorem dX3_reasonAgainst_37 : decode cX3_reasonAgainst 37 = .ok (.ireturn, 1) := by decide +kernel
theorem dX3_reasonAgainst_38 : decode cX3_reasonAgainst 38 = .ok (.iload_n 1, 1) := by decide +kernel
theorem dX3_reasonAgainst_39 : decode cX3_reasonAgainst 39 = .ok (.bipush 7, 2) := by decide +kernel
theorem dX3_reasonAgainst_41 : decode cX3_reasonAgainst 41 = .ok (.if_icmp .ne 19, 3) := by decide +kernel
theorem dX3_reasonAgainst_44 : decode cX3_reasonAgainst 44 = .ok (.aload_n 0, 1) := by decide +kernel
theorem dX3_reasonAgainst_45 : decode cX3_reasonAgainst 45 = .ok (.iload_n 2, 1) := by decide +kernel
theorem dX3_reasonAgainst_46 : decode cX3_reasonAgainst 46 = .ok (.iconst 1, 1) := by decide +kernel
theorem dX3_reasonAgainst_47 : decode cX3_reasonAgainst 47 = .ok (.invokevirtual 50, 3) := by decide +kernel
theorem dX3_reasonAgainst_50 : decode cX3_reasonAgainst 50 = .ok (.getstatic 67, 3) := by decide +kernel
theorem dX3_reasonAgainst_53 : decode cX3_reasonAgainst 53 = .ok (.iconst 1, 1) := by decide +kernel
theorem dX3_reasonAgainst_54 : decode cX3_reasonAgainst 54 = .ok (.iaload, 1) := by decide +kernel
theorem dX3_reasonAgainst_55 : decode cX3_reasonAgainst 55 = .ok (.if_icmp .lt 5, 3) := by decide +kernel
theorem dX3_reasonAgainst_58 : decode cX3_reasonAgainst 58 = .ok (.iconst 2, 1) := by decide +kernel
theorem dX3_reasonAgainst_59 : decode cX3_reasonAgainst 59 = .ok (.ireturn, 1) := by decide +kernel
theorem dX3_reasonAgainst_60 : decode cX3_reasonAgainst 60 = .ok (.iconst 0, 1) := by decide +kernel
theorem dX3_reasonAgainst_61 : decode cX3_reasonAgainst 61 = .ok (.ireturn, 1) := by decide +kernel
theorem dX3_apply_0 : decode cX3_apply 0 = .ok (.iload_n 1, 1) := by decide +kernel
theorem dX3_apply_1 : decode cX3_apply 1 = .ok (.tableswitch 90 4 7 #[31, 39, 56, 73], 31) := by decide +kernel
theorem dX3_apply_32 : decode cX3_apply 32 = .ok (.aload_n 0, 1) := by decide +kernel
theorem dX3_apply_33 : decode cX3_apply 33 = .ok (.iload_n 2, 1) := by decide +kernel
theorem dX3_apply_34 : decode cX3_apply 34 = .ok (.invokevirtual 70, 3) := by decide +kernel
theorem dX3_apply_37 : decode cX3_apply 37 = .ok (.goto 54, 3) := by decide +kernel
theorem dX3_apply_40 : decode cX3_apply 40 = .ok (.aload_n 0, 1) := by decide +kernel
theorem dX3_apply_41 : decode cX3_apply 41 = .ok (.iload_n 2, 1) := by decide +kernel
theorem dX3_apply_42 : decode cX3_apply 42 = .ok (.iconst 0, 1) := by decide +kernel
theorem dX3_apply_43 : decode cX3_apply 43 = .ok (.aload_n 0, 1) := by decide +kernel
theorem dX3_apply_44 : decode cX3_apply 44 = .ok (.iload_n 2, 1) := by decide +kernel
theorem dX3_apply_45 : decode cX3_apply 45 = .ok (.iconst 0, 1) := by decide +kernel
theorem dX3_apply_46 : decode cX3_apply 46 = .ok (.invokevirtual 50, 3) := by decide +kernel
theorem dX3_apply_49 : decode cX3_apply 49 = .ok (.iconst 1, 1) := by decide +kernel
theorem dX3_apply_50 : decode cX3_apply 50 = .ok (.isub, 1) := by decide +kernel
theorem dX3_apply_51 : decode cX3_apply 51 = .ok (.invokevirtual 54, 3) := by decide +kernel
theorem dX3_apply_54 : decode cX3_apply 54 = .ok (.goto 37, 3) := by decide +kernel
theorem dX3_apply_57 : decode cX3_apply 57 = .ok (.aload_n 0, 1) := by decide +kernel
theorem dX3_apply_58 : decode cX3_apply 58 = .ok (.iload_n 2, 1) := by decide +kernel
theorem dX3_apply_59 : decode cX3_apply 59 = .ok (.iconst 0, 1) := by decide +kernel
theorem dX3_apply_60 : decode cX3_apply 60 = .ok (.aload_n 0, 1) := by decide +kernel
theorem dX3_apply_61 : decode cX3_apply 61 = .ok (.iload_n 2, 1) := by decide +kernel
theorem dX3_apply_62 : decode cX3_apply 62 = .ok (.iconst 0, 1) := by decide +kernel
theorem dX3_apply_63 : decode cX3_apply 63 = .ok (.invokevirtual 50, 3) := by decide +kernel
theorem dX3_apply_66 : decode cX3_apply 66 = .ok (.iconst 1, 1) := by decide +kernel
theorem dX3_apply_67 : decode cX3_apply 67 = .ok (.iadd, 1) := by decide +kernel
theorem dX3_apply_68 : decode cX3_apply 68 = .ok (.invokevirtual 54, 3) := by decide +kernel
theorem dX3_apply_71 : decode cX3_apply 71 = .ok (.goto 20, 3) := by decide +kernel
theorem dX3_apply_74 : decode cX3_apply 74 = .ok (.aload_n 0, 1) := by decide +kernel
theorem dX3_apply_75 : decode cX3_apply 75 = .ok (.iload_n 2, 1) := by decide +kernel
theorem dX3_apply_76 : decode cX3_apply 76 = .ok (.iconst 1, 1) := by decide +kernel
theorem dX3_apply_77 : decode cX3_apply 77 = .ok (.aload_n 0, 1) := by decide +kernel
theorem dX3_apply_78 : decode cX3_apply 78 = .ok (.iload_n 2, 1) := by decide +kernel
theorem dX3_apply_79 : decode cX3_apply 79 = .ok (.iconst 1, 1) := by decide +kernel
theorem dX3_apply_80 : decode cX3_apply 80 = .ok (.invokevirtual 50, 3) := by decide +kernel
theorem dX3_apply_83 : decode cX3_apply 83 = .ok (.iconst 1, 1) := by decide +kernel
theorem dX3_apply_84 : decode cX3_apply 84 = .ok (.iadd, 1) := by decide +kernel
theorem dX3_apply_85 : decode cX3_apply 85 = .ok (.invokevirtual 54, 3) := by decide +kernel
theorem dX3_apply_88 : decode cX3_apply 88 = .ok (.goto 3, 3) := by decide +kernel
theorem dX3_apply_91 : decode cX3_apply 91 = .ok (.return_, 1) := by decide +kernel
theorem dX3_keep_0 : decode cX3_keep 0 = .ok (.iconst 0, 1) := by decide +kernel
theorem dX3_keep_1 : decode cX3_keep 1 = .ok (.istore_n 2, 1) := by decide +kernel
theorem dX3_keep_2 : decode cX3_keep 2 = .ok (.iload_n 2, 1) := by decide +kernel
theorem dX3_keep_3 : decode cX3_keep 3 = .ok (.aload_n 0, 1) := by decide +kernel
theorem dX3_keep_4 : decode cX3_keep 4 = .ok (.getfield 37, 3) := by decide +kernel
theorem dX3_keep_7 : decode cX3_keep 7 = .ok (.if_icmp .ge 30, 3) := by decide +kernel
theorem dX3_keep_10 : decode cX3_keep 10 = .ok (.aload_n 0, 1) := by decide +kernel
theorem dX3_keep_11 : decode cX3_keep 11 = .ok (.iload_n 2, 1) := by decide +kernel
theorem dX3_keep_12 : decode cX3_keep 12 = .ok (.bipush 6, 2) := by decide +kernel
theorem dX3_keep_14 : decode cX3_keep 14 = .ok (.aload_n 0, 1) := by decide +kernel
theorem dX3_keep_15 : decode cX3_keep 15 = .ok (.iload_n 2, 1) := by decide +kernel
theorem dX3_keep_16 : decode cX3_keep 16 = .ok (.bipush 6, 2) := by decide +kernel
theorem dX3_keep_18 : decode cX3_keep 18 = .ok (.invokevirtual 50, 3) := by decide +kernel
theorem dX3_keep_21 : decode cX3_keep 21 = .ok (.aload_n 1, 1) := by decide +kernel
theorem dX3_keep_22 : decode cX3_keep 22 = .ok (.getfield 73, 3) := by decide +kernel
theorem dX3_keep_25 : decode cX3_keep 25 = .ok (.iload_n 2, 1) := by decide +kernel
theorem dX3_keep_26 : decode cX3_keep 26 = .ok (.iaload, 1) := by decide +kernel
theorem dX3_keep_27 : decode cX3_keep 27 = .ok (.iadd, 1) := by decide +kernel
theorem dX3_keep_28 : decode cX3_keep 28 = .ok (.invokevirtual 54, 3) := by decide +kernel
theorem dX3_keep_31 : decode cX3_keep 31 = .ok (.iinc 2 1, 3) := by decide +kernel
theorem dX3_keep_34 : decode cX3_keep 34 = .ok (.goto (-32), 3) := by decide +kernel
theorem dX3_keep_37 : decode cX3_keep 37 = .ok (.aload_n 0, 1) := by decide +kernel
theorem dX3_keep_38 : decode cX3_keep 38 = .ok (.dup, 1) := by decide +kernel
theorem dX3_keep_39 : decode cX3_keep 39 = .ok (.getfield 41, 3) := by decide +kernel
theorem dX3_keep_42 : decode cX3_keep 42 = .ok (.aload_n 1, 1) := by decide +kernel
theorem dX3_keep_43 : decode cX3_keep 43 = .ok (.getfield 78, 3) := by decide +kernel
theorem dX3_keep_46 : decode cX3_keep 46 = .ok (.iadd, 1) := by decide +kernel
theorem dX3_keep_47 : decode cX3_keep 47 = .ok (.putfield 41, 3) := by decide +kernel
theorem dX3_keep_50 : decode cX3_keep 50 = .ok (.return_, 1) := by decide +kernel
