theorem d_X_init_0 : decode b_X_init 0 = .ok (.aload_n 0, 1) := by decide +kernel
theorem d_X_init_1 : decode b_X_init 1 = .ok (.invokespecial 3, 3) := by decide +kernel
theorem d_X_init_4 : decode b_X_init 4 = .ok (.aload_n 0, 1) := by decide +kernel
theorem d_X_init_5 : decode b_X_init 5 = .ok (.bipush 40, 2) := by decide +kernel
theorem d_X_init_7 : decode b_X_init 7 = .ok (.newarray .int, 2) := by decide +kernel
theorem d_X_init_9 : decode b_X_init 9 = .ok (.putfield 9, 3) := by decide +kernel
theorem d_X_init_12 : decode b_X_init 12 = .ok (.aload_n 0, 1) := by decide +kernel
theorem d_X_init_13 : decode b_X_init 13 = .ok (.bipush 40, 2) := by decide +kernel
theorem d_X_init_15 : decode b_X_init 15 = .ok (.newarray .int, 2) := by decide +kernel
theorem d_X_init_17 : decode b_X_init 17 = .ok (.putfield 13, 3) := by decide +kernel
theorem d_X_init_20 : decode b_X_init 20 = .ok (.aload_n 0, 1) := by decide +kernel
theorem d_X_init_21 : decode b_X_init 21 = .ok (.bipush 40, 2) := by decide +kernel
theorem d_X_init_23 : decode b_X_init 23 = .ok (.newarray .int, 2) := by decide +kernel
theorem d_X_init_25 : decode b_X_init 25 = .ok (.putfield 16, 3) := by decide +kernel
theorem d_X_init_28 : decode b_X_init 28 = .ok (.aload_n 0, 1) := by decide +kernel
theorem d_X_init_29 : decode b_X_init 29 = .ok (.sipush 1000, 3) := by decide +kernel
theorem d_X_init_32 : decode b_X_init 32 = .ok (.newarray .int, 2) := by decide +kernel
theorem d_X_init_34 : decode b_X_init 34 = .ok (.putfield 19, 3) := by decide +kernel
theorem d_X_init_37 : decode b_X_init 37 = .ok (.aload_n 0, 1) := by decide +kernel
theorem d_X_init_38 : decode b_X_init 38 = .ok (.sipush 1000, 3) := by decide +kernel
theorem d_X_init_41 : decode b_X_init 41 = .ok (.newarray .int, 2) := by decide +kernel
theorem d_X_init_43 : decode b_X_init 43 = .ok (.putfield 22, 3) := by decide +kernel
theorem d_X_init_46 : decode b_X_init 46 = .ok (.aload_n 0, 1) := by decide +kernel
theorem d_X_init_47 : decode b_X_init 47 = .ok (.sipush 1000, 3) := by decide +kernel
theorem d_X_init_50 : decode b_X_init 50 = .ok (.newarray .long, 2) := by decide +kernel
theorem d_X_init_52 : decode b_X_init 52 = .ok (.putfield 25, 3) := by decide +kernel
theorem d_X_init_55 : decode b_X_init 55 = .ok (.aload_n 0, 1) := by decide +kernel
theorem d_X_init_56 : decode b_X_init 56 = .ok (.sipush 1000, 3) := by decide +kernel
theorem d_X_init_59 : decode b_X_init 59 = .ok (.newarray .int, 2) := by decide +kernel
theorem d_X_init_61 : decode b_X_init 61 = .ok (.putfield 29, 3) := by decide +kernel
theorem d_X_init_64 : decode b_X_init 64 = .ok (.aload_n 0, 1) := by decide +kernel
theorem d_X_init_65 : decode b_X_init 65 = .ok (.sipush 960, 3) := by decide +kernel
theorem d_X_init_68 : decode b_X_init 68 = .ok (.newarray .int, 2) := by decide +kernel
theorem d_X_init_70 : decode b_X_init 70 = .ok (.putfield 32, 3) := by decide +kernel
theorem d_X_init_73 : decode b_X_init 73 = .ok (.aload_n 0, 1) := by decide +kernel
theorem d_X_init_74 : decode b_X_init 74 = .ok (.iconst 1, 1) := by decide +kernel
theorem d_X_init_75 : decode b_X_init 75 = .ok (.bipush 16, 2) := by decide +kernel
theorem d_X_init_77 : decode b_X_init 77 = .ok (.iload_n 1, 1) := by decide +kernel
theorem d_X_init_78 : decode b_X_init 78 = .ok (.invokestatic 35, 3) := by decide +kernel
theorem d_X_init_81 : decode b_X_init 81 = .ok (.invokestatic 41, 3) := by decide +kernel
theorem d_X_init_84 : decode b_X_init 84 = .ok (.putfield 44, 3) := by decide +kernel
theorem d_X_init_87 : decode b_X_init 87 = .ok (.aload_n 0, 1) := by decide +kernel
theorem d_X_init_88 : decode b_X_init 88 = .ok (.aload_n 0, 1) := by decide +kernel
theorem d_X_init_89 : decode b_X_init 89 = .ok (.getfield 44, 3) := by decide +kernel
theorem d_X_init_92 : decode b_X_init 92 = .ok (.newarray .int, 2) := by decide +kernel
theorem d_X_init_94 : decode b_X_init 94 = .ok (.putfield 48, 3) := by decide +kernel
theorem d_X_init_97 : decode b_X_init 97 = .ok (.aload_n 0, 1) := by decide +kernel
theorem d_X_init_98 : decode b_X_init 98 = .ok (.aload_n 0, 1) := by decide +kernel
theorem d_X_init_99 : decode b_X_init 99 = .ok (.getfield 44, 3) := by decide +kernel
theorem d_X_init_102 : decode b_X_init 102 = .ok (.newarray .int, 2) := by decide +kernel
theorem d_X_init_104 : decode b_X_init 104 = .ok (.putfield 51, 3) := by decide +kernel
theorem d_X_init_107 : decode b_X_init 107 = .ok (.aload_n 0, 1) := by decide +kernel
theorem d_X_init_108 : decode b_X_init 108 = .ok (.aload_n 0, 1) := by decide +kernel
theorem d_X_init_109 : decode b_X_init 109 = .ok (.getfield 44, 3) := by decide +kernel
theorem d_X_init_112 : decode b_X_init 112 = .ok (.newarray .int, 2) := by decide +kernel
theorem d_X_init_114 : decode b_X_init 114 = .ok (.putfield 54, 3) := by decide +kernel
theorem d_X_init_117 : decode b_X_init 117 = .ok (.aload_n 0, 1) := by decide +kernel
theorem d_X_init_118 : decode b_X_init 118 = .ok (.aload_n 0, 1) := by decide +kernel
theorem d_X_init_119 : decode b_X_init 119 = .ok (.getfield 44, 3) := by decide +kernel
theorem d_X_init_122 : decode b_X_init 122 = .ok (.newarray .int, 2) := by decide +kernel
theorem d_X_init_124 : decode b_X_init 124 = .ok (.putfield 57, 3) := by decide +kernel
theorem d_X_init_127 : decode b_X_init 127 = .ok (.return_, 1) := by decide +kernel
theorem d_X_block_0 : decode b_X_block 0 = .ok (.aload_n 0, 1) := by decide +kernel
theorem d_X_block_1 : decode b_X_block 1 = .ok (.getfield 60, 3) := by decide +kernel
theorem d_X_block_4 : decode b_X_block 4 = .ok (.bipush 40, 2) := by decide +kernel
theorem d_X_block_6 : decode b_X_block 6 = .ok (.if_icmp .lt 13, 3) := by decide +kernel
theorem d_X_block_9 : decode b_X_block 9 = .ok (.new 63, 3) := by decide +kernel
theorem d_X_block_12 : decode b_X_block 12 = .ok (.dup, 1) := by decide +kernel
theorem d_X_block_13 : decode b_X_block 13 = .ok (.ldc 65, 2) := by decide +kernel
theorem d_X_block_15 : decode b_X_block 15 = .ok (.invokespecial 67, 3) := by decide +kernel
theorem d_X_block_18 : decode b_X_block 18 = .ok (.athrow, 1) := by decide +kernel
theorem d_X_block_19 : decode b_X_block 19 = .ok (.aload_n 0, 1) := by decide +kernel
theorem d_X_block_20 : decode b_X_block 20 = .ok (.getfield 60, 3) := by decide +kernel
theorem d_X_block_23 : decode b_X_block 23 = .ok (.istore_n 1, 1) := by decide +kernel
theorem d_X_block_24 : decode b_X_block 24 = .ok (.aload_n 0, 1) := by decide +kernel
theorem d_X_block_25 : decode b_X_block 25 = .ok (.getfield 9, 3) := by decide +kernel
theorem d_X_block_28 : decode b_X_block 28 = .ok (.iload_n 1, 1) := by decide +kernel
theorem d_X_block_29 : decode b_X_block 29 = .ok (.iconst 1, 1) := by decide +kernel
theorem d_X_block_30 : decode b_X_block 30 = .ok (.iastore, 1) := by decide +kernel
theorem d_X_block_31 : decode b_X_block 31 = .ok (.aload_n 0, 1) := by decide +kernel
theorem d_X_block_32 : decode b_X_block 32 = .ok (.getfield 13, 3) := by decide +kernel
theorem d_X_block_35 : decode b_X_block 35 = .ok (.iload_n 1, 1) := by decide +kernel
theorem d_X_block_36 : decode b_X_block 36 = .ok (.iconst 0, 1) := by decide +kernel
theorem d_X_block_37 : decode b_X_block 37 = .ok (.iastore, 1) := by decide +kernel
theorem d_X_block_38 : decode b_X_block 38 = .ok (.aload_n 0, 1) := by decide +kernel
theorem d_X_block_39 : decode b_X_block 39 = .ok (.getfield 16, 3) := by decide +kernel
theorem d_X_block_42 : decode b_X_block 42 = .ok (.iload_n 1, 1) := by decide +kernel
theorem d_X_block_43 : decode b_X_block 43 = .ok (.iconst 0, 1) := by decide +kernel
theorem d_X_block_44 : decode b_X_block 44 = .ok (.iastore, 1) := by decide +kernel
theorem d_X_block_45 : decode b_X_block 45 = .ok (.aload_n 0, 1) := by decide +kernel
theorem d_X_block_46 : decode b_X_block 46 = .ok (.dup, 1) := by decide +kernel
theorem d_X_block_47 : decode b_X_block 47 = .ok (.getfield 60, 3) := by decide +kernel
theorem d_X_block_50 : decode b_X_block 50 = .ok (.iconst 1, 1) := by decide +kernel
theorem d_X_block_51 : decode b_X_block 51 = .ok (.iadd, 1) := by decide +kernel
theorem d_X_block_52 : decode b_X_block 52 = .ok (.putfield 60, 3) := by decide +kernel
theorem d_X_block_55 : decode b_X_block 55 = .ok (.aload_n 0, 1) := by decide +kernel
theorem d_X_block_56 : decode b_X_block 56 = .ok (.iconst 0, 1) := by decide +kernel
theorem d_X_block_57 : decode b_X_block 57 = .ok (.putfield 70, 3) := by decide +kernel
theorem d_X_block_60 : decode b_X_block 60 = .ok (.iload_n 1, 1) := by decide +kernel
theorem d_X_block_61 : decode b_X_block 61 = .ok (.ireturn, 1) := by decide +kernel
theorem d_X_pass_0 : decode b_X_pass 0 = .ok (.aload_n 0, 1) := by decide +kernel
theorem d_X_pass_1 : decode b_X_pass 1 = .ok (.iload_n 1, 1) := by decide +kernel
theorem d_X_pass_2 : decode b_X_pass 2 = .ok (.invokevirtual 74, 3) := by decide +kernel
theorem d_X_pass_5 : decode b_X_pass 5 = .ok (.iload_n 2, 1) := by decide +kernel
theorem d_X_pass_6 : decode b_X_pass 6 = .ok (.i2l, 1) := by decide +kernel
theorem d_X_pass_7 : decode b_X_pass 7 = .ok (.lconst 1, 1) := by decide +kernel
theorem d_X_pass_8 : decode b_X_pass 8 = .ok (.ldc2_w 78, 3) := by decide +kernel
theorem d_X_pass_11 : decode b_X_pass 11 = .ok (.invokestatic 80, 3) := by decide +kernel
theorem d_X_pass_14 : decode b_X_pass 14 = .ok (.iload_n 3, 1) := by decide +kernel
theorem d_X_pass_15 : decode b_X_pass 15 = .ok (.i2l, 1) := by decide +kernel
theorem d_X_pass_16 : decode b_X_pass 16 = .ok (.ldc2_w 84, 3) := by decide +kernel
theorem d_X_pass_19 : decode b_X_pass 19 = .ok (.ldc2_w 86, 3) := by decide +kernel
theorem d_X_pass_22 : decode b_X_pass 22 = .ok (.invokestatic 80, 3) := by decide +kernel
theorem d_X_pass_25 : decode b_X_pass 25 = .ok (.aload_n 0, 1) := by decide +kernel
theorem d_X_pass_26 : decode b_X_pass 26 = .ok (.getfield 16, 3) := by decide +kernel
theorem d_X_pass_29 : decode b_X_pass 29 = .ok (.iload_n 1, 1) := by decide +kernel
theorem d_X_pass_30 : decode b_X_pass 30 = .ok (.iaload, 1) := by decide +kernel
theorem d_X_pass_31 : decode b_X_pass 31 = .ok (.bipush 24, 2) := by decide +kernel
theorem d_X_pass_33 : decode b_X_pass 33 = .ok (.if_icmp .lt 13, 3) := by decide +kernel
theorem d_X_pass_36 : decode b_X_pass 36 = .ok (.new 63, 3) := by decide +kernel
theorem d_X_pass_39 : decode b_X_pass 39 = .ok (.dup, 1) := by decide +kernel
theorem d_X_pass_40 : decode b_X_pass 40 = .ok (.ldc 88, 2) := by decide +kernel
theorem d_X_pass_42 : decode b_X_pass 42 = .ok (.invokespecial 67, 3) := by decide +kernel
theorem d_X_pass_45 : decode b_X_pass 45 = .ok (.athrow, 1) := by decide +kernel
theorem d_X_pass_46 : decode b_X_pass 46 = .ok (.aload_n 0, 1) := by decide +kernel
theorem d_X_pass_47 : decode b_X_pass 47 = .ok (.getfield 16, 3) := by decide +kernel
theorem d_X_pass_50 : decode b_X_pass 50 = .ok (.iload_n 1, 1) := by decide +kernel
theorem d_X_pass_51 : decode b_X_pass 51 = .ok (.iaload, 1) := by decide +kernel
theorem d_X_pass_52 : decode b_X_pass 52 = .ok (.istore 4, 2) := by decide +kernel
theorem d_X_pass_54 : decode b_X_pass 54 = .ok (.iload_n 1, 1) := by decide +kernel
theorem d_X_pass_55 : decode b_X_pass 55 = .ok (.invokestatic 90, 3) := by decide +kernel
theorem d_X_pass_58 : decode b_X_pass 58 = .ok (.iload 4, 2) := by decide +kernel
theorem d_X_pass_60 : decode b_X_pass 60 = .ok (.iadd, 1) := by decide +kernel
theorem d_X_pass_61 : decode b_X_pass 61 = .ok (.istore 5, 2) := by decide +kernel
theorem d_X_pass_63 : decode b_X_pass 63 = .ok (.aload_n 0, 1) := by decide +kernel
theorem d_X_pass_64 : decode b_X_pass 64 = .ok (.getfield 19, 3) := by decide +kernel
theorem d_X_pass_67 : decode b_X_pass 67 = .ok (.iload 5, 2) := by decide +kernel
theorem d_X_pass_69 : decode b_X_pass 69 = .ok (.iconst 1, 1) := by decide +kernel
theorem d_X_pass_70 : decode b_X_pass 70 = .ok (.iadd, 1) := by decide +kernel
theorem d_X_pass_71 : decode b_X_pass 71 = .ok (.aload_n 0, 1) := by decide +kernel
theorem d_X_pass_72 : decode b_X_pass 72 = .ok (.getfield 19, 3) := by decide +kernel
theorem d_X_pass_75 : decode b_X_pass 75 = .ok (.iload 5, 2) := by decide +kernel
theorem d_X_pass_77 : decode b_X_pass 77 = .ok (.iaload, 1) := by decide +kernel
theorem d_X_pass_78 : decode b_X_pass 78 = .ok (.iload_n 2, 1) := by decide +kernel
theorem d_X_pass_79 : decode b_X_pass 79 = .ok (.iadd, 1) := by decide +kernel
theorem d_X_pass_80 : decode b_X_pass 80 = .ok (.iastore, 1) := by decide +kernel
theorem d_X_pass_81 : decode b_X_pass 81 = .ok (.aload_n 0, 1) := by decide +kernel
theorem d_X_pass_82 : decode b_X_pass 82 = .ok (.getfield 22, 3) := by decide +kernel
theorem d_X_pass_85 : decode b_X_pass 85 = .ok (.iload 5, 2) := by decide +kernel
theorem d_X_pass_87 : decode b_X_pass 87 = .ok (.iconst 1, 1) := by decide +kernel
theorem d_X_pass_88 : decode b_X_pass 88 = .ok (.iadd, 1) := by decide +kernel
theorem d_X_pass_89 : decode b_X_pass 89 = .ok (.aload_n 0, 1) := by decide +kernel
theorem d_X_pass_90 : decode b_X_pass 90 = .ok (.getfield 22, 3) := by decide +kernel
theorem d_X_pass_93 : decode b_X_pass 93 = .ok (.iload 5, 2) := by decide +kernel
theorem d_X_pass_95 : decode b_X_pass 95 = .ok (.iaload, 1) := by decide +kernel
theorem d_X_pass_96 : decode b_X_pass 96 = .ok (.iload_n 3, 1) := by decide +kernel
theorem d_X_pass_97 : decode b_X_pass 97 = .ok (.iadd, 1) := by decide +kernel
theorem d_X_pass_98 : decode b_X_pass 98 = .ok (.iastore, 1) := by decide +kernel
theorem d_X_pass_99 : decode b_X_pass 99 = .ok (.aload_n 0, 1) := by decide +kernel
theorem d_X_pass_100 : decode b_X_pass 100 = .ok (.getfield 16, 3) := by decide +kernel
theorem d_X_pass_103 : decode b_X_pass 103 = .ok (.iload_n 1, 1) := by decide +kernel
theorem d_X_pass_104 : decode b_X_pass 104 = .ok (.dup2, 1) := by decide +kernel
theorem d_X_pass_105 : decode b_X_pass 105 = .ok (.iaload, 1) := by decide +kernel
theorem d_X_pass_106 : decode b_X_pass 106 = .ok (.iconst 1, 1) := by decide +kernel
theorem d_X_pass_107 : decode b_X_pass 107 = .ok (.iadd, 1) := by decide +kernel
theorem d_X_pass_108 : decode b_X_pass 108 = .ok (.iastore, 1) := by decide +kernel
theorem d_X_pass_109 : decode b_X_pass 109 = .ok (.aload_n 0, 1) := by decide +kernel
theorem d_X_pass_110 : decode b_X_pass 110 = .ok (.dup, 1) := by decide +kernel
theorem d_X_pass_111 : decode b_X_pass 111 = .ok (.getfield 94, 3) := by decide +kernel
theorem d_X_pass_114 : decode b_X_pass 114 = .ok (.iconst 1, 1) := by decide +kernel
theorem d_X_pass_115 : decode b_X_pass 115 = .ok (.iadd, 1) := by decide +kernel
theorem d_X_pass_116 : decode b_X_pass 116 = .ok (.putfield 94, 3) := by decide +kernel
theorem d_X_pass_119 : decode b_X_pass 119 = .ok (.aload_n 0, 1) := by decide +kernel
theorem d_X_pass_120 : decode b_X_pass 120 = .ok (.iload_n 1, 1) := by decide +kernel
theorem d_X_pass_121 : decode b_X_pass 121 = .ok (.invokevirtual 97, 3) := by decide +kernel
theorem d_X_pass_124 : decode b_X_pass 124 = .ok (.iload 4, 2) := by decide +kernel
theorem d_X_pass_126 : decode b_X_pass 126 = .ok (.ireturn, 1) := by decide +kernel
theorem d_X_weight_0 : decode b_X_weight 0 = .ok (.aload_n 0, 1) := by decide +kernel
theorem d_X_weight_1 : decode b_X_weight 1 = .ok (.iload_n 1, 1) := by decide +kernel
theorem d_X_weight_2 : decode b_X_weight 2 = .ok (.invokevirtual 74, 3) := by decide +kernel
theorem d_X_weight_5 : decode b_X_weight 5 = .ok (.iload_n 2, 1) := by decide +kernel
theorem d_X_weight_6 : decode b_X_weight 6 = .ok (.i2l, 1) := by decide +kernel
theorem d_X_weight_7 : decode b_X_weight 7 = .ok (.lconst 1, 1) := by decide +kernel
theorem d_X_weight_8 : decode b_X_weight 8 = .ok (.ldc2_w 100, 3) := by decide +kernel
theorem d_X_weight_11 : decode b_X_weight 11 = .ok (.invokestatic 80, 3) := by decide +kernel
theorem d_X_weight_14 : decode b_X_weight 14 = .ok (.aload_n 0, 1) := by decide +kernel
theorem d_X_weight_15 : decode b_X_weight 15 = .ok (.getfield 9, 3) := by decide +kernel
theorem d_X_weight_18 : decode b_X_weight 18 = .ok (.iload_n 1, 1) := by decide +kernel
theorem d_X_weight_19 : decode b_X_weight 19 = .ok (.iaload, 1) := by decide +kernel
theorem d_X_weight_20 : decode b_X_weight 20 = .ok (.istore_n 3, 1) := by decide +kernel
theorem d_X_weight_21 : decode b_X_weight 21 = .ok (.aload_n 0, 1) := by decide +kernel
theorem d_X_weight_22 : decode b_X_weight 22 = .ok (.getfield 9, 3) := by decide +kernel
theorem d_X_weight_25 : decode b_X_weight 25 = .ok (.iload_n 1, 1) := by decide +kernel
theorem d_X_weight_26 : decode b_X_weight 26 = .ok (.iload_n 2, 1) := by decide +kernel
theorem d_X_weight_27 : decode b_X_weight 27 = .ok (.iastore, 1) := by decide +kernel
theorem d_X_weight_28 : decode b_X_weight 28 = .ok (.aload_n 0, 1) := by decide +kernel
theorem d_X_weight_29 : decode b_X_weight 29 = .ok (.iload_n 1, 1) := by decide +kernel
theorem d_X_weight_30 : decode b_X_weight 30 = .ok (.invokevirtual 97, 3) := by decide +kernel
theorem d_X_weight_33 : decode b_X_weight 33 = .ok (.iload_n 3, 1) := by decide +kernel
theorem d_X_weight_34 : decode b_X_weight 34 = .ok (.ireturn, 1) := by decide +kernel
theorem d_X_shift_0 : decode b_X_shift 0 = .ok (.aload_n 0, 1) := by decide +kernel
theorem d_X_shift_1 : decode b_X_shift 1 = .ok (.iload_n 1, 1) := by decide +kernel
theorem d_X_shift_2 : decode b_X_shift 2 = .ok (.invokevirtual 74, 3) := by decide +kernel
theorem d_X_shift_5 : decode b_X_shift 5 = .ok (.iload_n 2, 1) := by decide +kernel
theorem d_X_shift_6 : decode b_X_shift 6 = .ok (.i2l, 1) := by decide +kernel
theorem d_X_shift_7 : decode b_X_shift 7 = .ok (.lconst 0, 1) := by decide +kernel
theorem d_X_shift_8 : decode b_X_shift 8 = .ok (.ldc2_w 102, 3) := by decide +kernel
theorem d_X_shift_11 : decode b_X_shift 11 = .ok (.invokestatic 80, 3) := by decide +kernel
theorem d_X_shift_14 : decode b_X_shift 14 = .ok (.aload_n 0, 1) := by decide +kernel
theorem d_X_shift_15 : decode b_X_shift 15 = .ok (.getfield 13, 3) := by decide +kernel
theorem d_X_shift_18 : decode b_X_shift 18 = .ok (.iload_n 1, 1) := by decide +kernel
theorem d_X_shift_19 : decode b_X_shift 19 = .ok (.iaload, 1) := by decide +kernel
theorem d_X_shift_20 : decode b_X_shift 20 = .ok (.istore_n 3, 1) := by decide +kernel
theorem d_X_shift_21 : decode b_X_shift 21 = .ok (.aload_n 0, 1) := by decide +kernel
theorem d_X_shift_22 : decode b_X_shift 22 = .ok (.getfield 13, 3) := by decide +kernel
theorem d_X_shift_25 : decode b_X_shift 25 = .ok (.iload_n 1, 1) := by decide +kernel
theorem d_X_shift_26 : decode b_X_shift 26 = .ok (.iload_n 2, 1) := by decide +kernel
theorem d_X_shift_27 : decode b_X_shift 27 = .ok (.iastore, 1) := by decide +kernel
theorem d_X_shift_28 : decode b_X_shift 28 = .ok (.aload_n 0, 1) := by decide +kernel
theorem d_X_shift_29 : decode b_X_shift 29 = .ok (.iload_n 1, 1) := by decide +kernel
theorem d_X_shift_30 : decode b_X_shift 30 = .ok (.invokevirtual 97, 3) := by decide +kernel
theorem d_X_shift_33 : decode b_X_shift 33 = .ok (.iload_n 3, 1) := by decide +kernel
theorem d_X_shift_34 : decode b_X_shift 34 = .ok (.ireturn, 1) := by decide +kernel
theorem d_X_size_0 : decode b_X_size 0 = .ok (.aload_n 0, 1) := by decide +kernel
theorem d_X_size_1 : decode b_X_size 1 = .ok (.aload_n 0, 1) := by decide +kernel
theorem d_X_size_2 : decode b_X_size 2 = .ok (.getfield 48, 3) := by decide +kernel
theorem d_X_size_5 : decode b_X_size 5 = .ok (.iload_n 1, 1) := by decide +kernel
theorem d_X_size_6 : decode b_X_size 6 = .ok (.iload_n 2, 1) := by decide +kernel
theorem d_X_size_7 : decode b_X_size 7 = .ok (.invokevirtual 104, 3) := by decide +kernel
theorem d_X_size_10 : decode b_X_size 10 = .ok (.ireturn, 1) := by decide +kernel
theorem d_X_head_0 : decode b_X_head 0 = .ok (.aload_n 0, 1) := by decide +kernel
theorem d_X_head_1 : decode b_X_head 1 = .ok (.aload_n 0, 1) := by decide +kernel
theorem d_X_head_2 : decode b_X_head 2 = .ok (.getfield 51, 3) := by decide +kernel
theorem d_X_head_5 : decode b_X_head 5 = .ok (.iload_n 1, 1) := by decide +kernel
theorem d_X_head_6 : decode b_X_head 6 = .ok (.iload_n 2, 1) := by decide +kernel
theorem d_X_head_7 : decode b_X_head 7 = .ok (.invokevirtual 104, 3) := by decide +kernel
theorem d_X_head_10 : decode b_X_head 10 = .ok (.ireturn, 1) := by decide +kernel
theorem d_X_run_0 : decode b_X_run 0 = .ok (.iconst 0, 1) := by decide +kernel
theorem d_X_run_1 : decode b_X_run 1 = .ok (.istore_n 1, 1) := by decide +kernel
theorem d_X_run_2 : decode b_X_run 2 = .ok (.iconst 0, 1) := by decide +kernel
theorem d_X_run_3 : decode b_X_run 3 = .ok (.istore_n 2, 1) := by decide +kernel
theorem d_X_run_4 : decode b_X_run 4 = .ok (.iconst 0, 1) := by decide +kernel
theorem d_X_run_5 : decode b_X_run 5 = .ok (.istore_n 3, 1) := by decide +kernel
theorem d_X_run_6 : decode b_X_run 6 = .ok (.iload_n 3, 1) := by decide +kernel
theorem d_X_run_7 : decode b_X_run 7 = .ok (.aload_n 0, 1) := by decide +kernel
theorem d_X_run_8 : decode b_X_run 8 = .ok (.getfield 44, 3) := by decide +kernel
theorem d_X_run_11 : decode b_X_run 11 = .ok (.if_icmp .ge 48, 3) := by decide +kernel
theorem d_X_run_14 : decode b_X_run 14 = .ok (.aload_n 0, 1) := by decide +kernel
theorem d_X_run_15 : decode b_X_run 15 = .ok (.getfield 54, 3) := by decide +kernel
theorem d_X_run_18 : decode b_X_run 18 = .ok (.iload_n 3, 1) := by decide +kernel
theorem d_X_run_19 : decode b_X_run 19 = .ok (.iconst 0, 1) := by decide +kernel
theorem d_X_run_20 : decode b_X_run 20 = .ok (.iastore, 1) := by decide +kernel
theorem d_X_run_21 : decode b_X_run 21 = .ok (.aload_n 0, 1) := by decide +kernel
theorem d_X_run_22 : decode b_X_run 22 = .ok (.getfield 51, 3) := by decide +kernel
theorem d_X_run_25 : decode b_X_run 25 = .ok (.iload_n 3, 1) := by decide +kernel
theorem d_X_run_26 : decode b_X_run 26 = .ok (.iaload, 1) := by decide +kernel
theorem d_X_run_27 : decode b_X_run 27 = .ok (.aload_n 0, 1) := by decide +kernel
theorem d_X_run_28 : decode b_X_run 28 = .ok (.getfield 48, 3) := by decide +kernel
theorem d_X_run_31 : decode b_X_run 31 = .ok (.iload_n 3, 1) := by decide +kernel
theorem d_X_run_32 : decode b_X_run 32 = .ok (.iaload, 1) := by decide +kernel
theorem d_X_run_33 : decode b_X_run 33 = .ok (.if_icmp .gt 13, 3) := by decide +kernel
theorem d_X_run_36 : decode b_X_run 36 = .ok (.aload_n 0, 1) := by decide +kernel
theorem d_X_run_37 : decode b_X_run 37 = .ok (.iload_n 3, 1) := by decide +kernel
theorem d_X_run_38 : decode b_X_run 38 = .ok (.iload_n 2, 1) := by decide +kernel
theorem d_X_run_39 : decode b_X_run 39 = .ok (.invokevirtual 108, 3) := by decide +kernel
theorem d_X_run_42 : decode b_X_run 42 = .ok (.istore_n 2, 1) := by decide +kernel
theorem d_X_run_43 : decode b_X_run 43 = .ok (.iinc 1 1, 3) := by decide +kernel
theorem d_X_run_46 : decode b_X_run 46 = .ok (.aload_n 0, 1) := by decide +kernel
theorem d_X_run_47 : decode b_X_run 47 = .ok (.getfield 57, 3) := by decide +kernel
theorem d_X_run_50 : decode b_X_run 50 = .ok (.iload_n 3, 1) := by decide +kernel
theorem d_X_run_51 : decode b_X_run 51 = .ok (.iload_n 2, 1) := by decide +kernel
theorem d_X_run_52 : decode b_X_run 52 = .ok (.iastore, 1) := by decide +kernel
theorem d_X_run_53 : decode b_X_run 53 = .ok (.iinc 3 1, 3) := by decide +kernel
theorem d_X_run_56 : decode b_X_run 56 = .ok (.goto (-50), 3) := by decide +kernel
theorem d_X_run_59 : decode b_X_run 59 = .ok (.aload_n 0, 1) := by decide +kernel
theorem d_X_run_60 : decode b_X_run 60 = .ok (.iconst 1, 1) := by decide +kernel
theorem d_X_run_61 : decode b_X_run 61 = .ok (.putfield 70, 3) := by decide +kernel
theorem d_X_run_64 : decode b_X_run 64 = .ok (.iload_n 1, 1) := by decide +kernel
theorem d_X_run_65 : decode b_X_run 65 = .ok (.ireturn, 1) := by decide +kernel
theorem d_X_hull_0 : decode b_X_hull 0 = .ok (.aload_n 0, 1) := by decide +kernel
theorem d_X_hull_1 : decode b_X_hull 1 = .ok (.getfield 29, 3) := by decide +kernel
theorem d_X_hull_4 : decode b_X_hull 4 = .ok (.aload_n 0, 1) := by decide +kernel
theorem d_X_hull_5 : decode b_X_hull 5 = .ok (.iload_n 1, 1) := by decide +kernel
theorem d_X_hull_6 : decode b_X_hull 6 = .ok (.iload_n 2, 1) := by decide +kernel
theorem d_X_hull_7 : decode b_X_hull 7 = .ok (.invokevirtual 111, 3) := by decide +kernel
theorem d_X_hull_10 : decode b_X_hull 10 = .ok (.iaload, 1) := by decide +kernel
theorem d_X_hull_11 : decode b_X_hull 11 = .ok (.ifCond .le 7, 3) := by decide +kernel
theorem d_X_hull_14 : decode b_X_hull 14 = .ok (.iconst 1, 1) := by decide +kernel
theorem d_X_hull_15 : decode b_X_hull 15 = .ok (.goto 4, 3) := by decide +kernel
theorem d_X_hull_18 : decode b_X_hull 18 = .ok (.iconst 0, 1) := by decide +kernel
theorem d_X_hull_19 : decode b_X_hull 19 = .ok (.ireturn, 1) := by decide +kernel
theorem d_X_slope_0 : decode b_X_slope 0 = .ok (.aload_n 0, 1) := by decide +kernel
theorem d_X_slope_1 : decode b_X_slope 1 = .ok (.iload_n 1, 1) := by decide +kernel
theorem d_X_slope_2 : decode b_X_slope 2 = .ok (.iload_n 2, 1) := by decide +kernel
theorem d_X_slope_3 : decode b_X_slope 3 = .ok (.invokevirtual 111, 3) := by decide +kernel
theorem d_X_slope_6 : decode b_X_slope 6 = .ok (.istore 4, 2) := by decide +kernel
theorem d_X_slope_8 : decode b_X_slope 8 = .ok (.iload_n 3, 1) := by decide +kernel
theorem d_X_slope_9 : decode b_X_slope 9 = .ok (.ifCond .eq 13, 3) := by decide +kernel
theorem d_X_slope_12 : decode b_X_slope 12 = .ok (.aload_n 0, 1) := by decide +kernel
theorem d_X_slope_13 : decode b_X_slope 13 = .ok (.getfield 25, 3) := by decide +kernel
theorem d_X_slope_16 : decode b_X_slope 16 = .ok (.iload 4, 2) := by decide +kernel
theorem d_X_slope_18 : decode b_X_slope 18 = .ok (.laload, 1) := by decide +kernel
theorem d_X_slope_19 : decode b_X_slope 19 = .ok (.goto 11, 3) := by decide +kernel
theorem d_X_slope_22 : decode b_X_slope 22 = .ok (.aload_n 0, 1) := by decide +kernel
theorem d_X_slope_23 : decode b_X_slope 23 = .ok (.getfield 29, 3) := by decide +kernel
theorem d_X_slope_26 : decode b_X_slope 26 = .ok (.iload 4, 2) := by decide +kernel
theorem d_X_slope_28 : decode b_X_slope 28 = .ok (.iaload, 1) := by decide +kernel
theorem d_X_slope_29 : decode b_X_slope 29 = .ok (.i2l, 1) := by decide +kernel
theorem d_X_slope_30 : decode b_X_slope 30 = .ok (.lreturn, 1) := by decide +kernel
theorem d_X_row_0 : decode b_X_row 0 = .ok (.aload_n 0, 1) := by decide +kernel
theorem d_X_row_1 : decode b_X_row 1 = .ok (.getfield 114, 3) := by decide +kernel
theorem d_X_row_4 : decode b_X_row 4 = .ok (.ireturn, 1) := by decide +kernel
theorem d_X_at_0 : decode b_X_at 0 = .ok (.iload_n 1, 1) := by decide +kernel
theorem d_X_at_1 : decode b_X_at 1 = .ok (.ifCond .lt 11, 3) := by decide +kernel
theorem d_X_at_4 : decode b_X_at 4 = .ok (.iload_n 1, 1) := by decide +kernel
theorem d_X_at_5 : decode b_X_at 5 = .ok (.aload_n 0, 1) := by decide +kernel
theorem d_X_at_6 : decode b_X_at 6 = .ok (.getfield 114, 3) := by decide +kernel
theorem d_X_at_9 : decode b_X_at 9 = .ok (.if_icmp .lt 13, 3) := by decide +kernel
theorem d_X_at_12 : decode b_X_at 12 = .ok (.new 117, 3) := by decide +kernel
theorem d_X_at_15 : decode b_X_at 15 = .ok (.dup, 1) := by decide +kernel
theorem d_X_at_16 : decode b_X_at 16 = .ok (.ldc 119, 2) := by decide +kernel
theorem d_X_at_18 : decode b_X_at 18 = .ok (.invokespecial 121, 3) := by decide +kernel
theorem d_X_at_21 : decode b_X_at 21 = .ok (.athrow, 1) := by decide +kernel
theorem d_X_at_22 : decode b_X_at 22 = .ok (.aload_n 0, 1) := by decide +kernel
theorem d_X_at_23 : decode b_X_at 23 = .ok (.getfield 32, 3) := by decide +kernel
theorem d_X_at_26 : decode b_X_at 26 = .ok (.iload_n 1, 1) := by decide +kernel
theorem d_X_at_27 : decode b_X_at 27 = .ok (.iaload, 1) := by decide +kernel
theorem d_X_at_28 : decode b_X_at 28 = .ok (.istore_n 3, 1) := by decide +kernel
theorem d_X_at_29 : decode b_X_at 29 = .ok (.iload_n 2, 1) := by decide +kernel
theorem d_X_at_30 : decode b_X_at 30 = .ok (.tableswitch 69 0 4 #[34, 39, 46, 53, 59], 34) := by decide +kernel
theorem d_X_at_64 : decode b_X_at 64 = .ok (.iload_n 3, 1) := by decide +kernel
theorem d_X_at_65 : decode b_X_at 65 = .ok (.invokestatic 122, 3) := by decide +kernel
theorem d_X_at_68 : decode b_X_at 68 = .ok (.ireturn, 1) := by decide +kernel
theorem d_X_at_69 : decode b_X_at 69 = .ok (.iload_n 3, 1) := by decide +kernel
theorem d_X_at_70 : decode b_X_at 70 = .ok (.invokestatic 125, 3) := by decide +kernel
theorem d_X_at_73 : decode b_X_at 73 = .ok (.iconst 1, 1) := by decide +kernel
theorem d_X_at_74 : decode b_X_at 74 = .ok (.isub, 1) := by decide +kernel
theorem d_X_at_75 : decode b_X_at 75 = .ok (.ireturn, 1) := by decide +kernel
theorem d_X_at_76 : decode b_X_at 76 = .ok (.aload_n 0, 1) := by decide +kernel
theorem d_X_at_77 : decode b_X_at 77 = .ok (.getfield 29, 3) := by decide +kernel
theorem d_X_at_80 : decode b_X_at 80 = .ok (.iload_n 3, 1) := by decide +kernel
theorem d_X_at_81 : decode b_X_at 81 = .ok (.iaload, 1) := by decide +kernel
theorem d_X_at_82 : decode b_X_at 82 = .ok (.ireturn, 1) := by decide +kernel
theorem d_X_at_83 : decode b_X_at 83 = .ok (.aload_n 0, 1) := by decide +kernel
theorem d_X_at_84 : decode b_X_at 84 = .ok (.iload_n 3, 1) := by decide +kernel
theorem d_X_at_85 : decode b_X_at 85 = .ok (.invokevirtual 128, 3) := by decide +kernel
theorem d_X_at_88 : decode b_X_at 88 = .ok (.ireturn, 1) := by decide +kernel
theorem d_X_at_89 : decode b_X_at 89 = .ok (.aload_n 0, 1) := by decide +kernel
theorem d_X_at_90 : decode b_X_at 90 = .ok (.invokevirtual 131, 3) := by decide +kernel
theorem d_X_at_93 : decode b_X_at 93 = .ok (.aload_n 0, 1) := by decide +kernel
theorem d_X_at_94 : decode b_X_at 94 = .ok (.iload_n 1, 1) := by decide +kernel
theorem d_X_at_95 : decode b_X_at 95 = .ok (.invokevirtual 134, 3) := by decide +kernel
theorem d_X_at_98 : decode b_X_at 98 = .ok (.ireturn, 1) := by decide +kernel
theorem d_X_at_99 : decode b_X_at 99 = .ok (.new 137, 3) := by decide +kernel
theorem d_X_at_102 : decode b_X_at 102 = .ok (.dup, 1) := by decide +kernel
theorem d_X_at_103 : decode b_X_at 103 = .ok (.ldc 139, 2) := by decide +kernel
theorem d_X_at_105 : decode b_X_at 105 = .ok (.invokespecial 141, 3) := by decide +kernel
theorem d_X_at_108 : decode b_X_at 108 = .ok (.athrow, 1) := by decide +kernel
theorem d_X_passes_0 : decode b_X_passes 0 = .ok (.aload_n 0, 1) := by decide +kernel
theorem d_X_passes_1 : decode b_X_passes 1 = .ok (.invokevirtual 131, 3) := by decide +kernel
theorem d_X_passes_4 : decode b_X_passes 4 = .ok (.aload_n 0, 1) := by decide +kernel
theorem d_X_passes_5 : decode b_X_passes 5 = .ok (.iload_n 1, 1) := by decide +kernel
theorem d_X_passes_6 : decode b_X_passes 6 = .ok (.invokevirtual 142, 3) := by decide +kernel
theorem d_X_passes_9 : decode b_X_passes 9 = .ok (.aload_n 0, 1) := by decide +kernel
theorem d_X_passes_10 : decode b_X_passes 10 = .ok (.iload_n 2, 1) := by decide +kernel
theorem d_X_passes_11 : decode b_X_passes 11 = .ok (.invokevirtual 74, 3) := by decide +kernel
theorem d_X_passes_14 : decode b_X_passes 14 = .ok (.aload_n 0, 1) := by decide +kernel
theorem d_X_passes_15 : decode b_X_passes 15 = .ok (.getfield 57, 3) := by decide +kernel
theorem d_X_passes_18 : decode b_X_passes 18 = .ok (.iload_n 1, 1) := by decide +kernel
theorem d_X_passes_19 : decode b_X_passes 19 = .ok (.iaload, 1) := by decide +kernel
theorem d_X_passes_20 : decode b_X_passes 20 = .ok (.iconst 1, 1) := by decide +kernel
theorem d_X_passes_21 : decode b_X_passes 21 = .ok (.isub, 1) := by decide +kernel
theorem d_X_passes_22 : decode b_X_passes 22 = .ok (.istore_n 3, 1) := by decide +kernel
theorem d_X_passes_23 : decode b_X_passes 23 = .ok (.iload_n 3, 1) := by decide +kernel
theorem d_X_passes_24 : decode b_X_passes 24 = .ok (.ifCond .lt 32, 3) := by decide +kernel
theorem d_X_passes_27 : decode b_X_passes 27 = .ok (.aload_n 0, 1) := by decide +kernel
theorem d_X_passes_28 : decode b_X_passes 28 = .ok (.getfield 32, 3) := by decide +kernel
theorem d_X_passes_31 : decode b_X_passes 31 = .ok (.iload_n 3, 1) := by decide +kernel
theorem d_X_passes_32 : decode b_X_passes 32 = .ok (.iaload, 1) := by decide +kernel
theorem d_X_passes_33 : decode b_X_passes 33 = .ok (.invokestatic 122, 3) := by decide +kernel
theorem d_X_passes_36 : decode b_X_passes 36 = .ok (.iload_n 2, 1) := by decide +kernel
theorem d_X_passes_37 : decode b_X_passes 37 = .ok (.if_icmp .ne 13, 3) := by decide +kernel
theorem d_X_passes_40 : decode b_X_passes 40 = .ok (.aload_n 0, 1) := by decide +kernel
theorem d_X_passes_41 : decode b_X_passes 41 = .ok (.getfield 32, 3) := by decide +kernel
theorem d_X_passes_44 : decode b_X_passes 44 = .ok (.iload_n 3, 1) := by decide +kernel
theorem d_X_passes_45 : decode b_X_passes 45 = .ok (.iaload, 1) := by decide +kernel
theorem d_X_passes_46 : decode b_X_passes 46 = .ok (.invokestatic 125, 3) := by decide +kernel
theorem d_X_passes_49 : decode b_X_passes 49 = .ok (.ireturn, 1) := by decide +kernel
theorem d_X_passes_50 : decode b_X_passes 50 = .ok (.iinc 3 (-1), 3) := by decide +kernel
theorem d_X_passes_53 : decode b_X_passes 53 = .ok (.goto (-30), 3) := by decide +kernel
theorem d_X_passes_56 : decode b_X_passes 56 = .ok (.iconst 0, 1) := by decide +kernel
theorem d_X_passes_57 : decode b_X_passes 57 = .ok (.ireturn, 1) := by decide +kernel
theorem d_X_bytes_0 : decode b_X_bytes 0 = .ok (.aload_n 0, 1) := by decide +kernel
theorem d_X_bytes_1 : decode b_X_bytes 1 = .ok (.invokevirtual 131, 3) := by decide +kernel
theorem d_X_bytes_4 : decode b_X_bytes 4 = .ok (.aload_n 0, 1) := by decide +kernel
theorem d_X_bytes_5 : decode b_X_bytes 5 = .ok (.iload_n 1, 1) := by decide +kernel
theorem d_X_bytes_6 : decode b_X_bytes 6 = .ok (.invokevirtual 142, 3) := by decide +kernel
theorem d_X_bytes_9 : decode b_X_bytes 9 = .ok (.aload_n 0, 1) := by decide +kernel
theorem d_X_bytes_10 : decode b_X_bytes 10 = .ok (.getfield 54, 3) := by decide +kernel
theorem d_X_bytes_13 : decode b_X_bytes 13 = .ok (.iload_n 1, 1) := by decide +kernel
theorem d_X_bytes_14 : decode b_X_bytes 14 = .ok (.iaload, 1) := by decide +kernel
theorem d_X_bytes_15 : decode b_X_bytes 15 = .ok (.ireturn, 1) := by decide +kernel
theorem d_X_gained_0 : decode b_X_gained 0 = .ok (.aload_n 0, 1) := by decide +kernel
theorem d_X_gained_1 : decode b_X_gained 1 = .ok (.invokevirtual 131, 3) := by decide +kernel
theorem d_X_gained_4 : decode b_X_gained 4 = .ok (.aload_n 0, 1) := by decide +kernel
theorem d_X_gained_5 : decode b_X_gained 5 = .ok (.iload_n 1, 1) := by decide +kernel
theorem d_X_gained_6 : decode b_X_gained 6 = .ok (.invokevirtual 142, 3) := by decide +kernel
theorem d_X_gained_9 : decode b_X_gained 9 = .ok (.lconst 0, 1) := by decide +kernel
theorem d_X_gained_10 : decode b_X_gained 10 = .ok (.lstore_n 2, 1) := by decide +kernel
theorem d_X_gained_11 : decode b_X_gained 11 = .ok (.iconst 0, 1) := by decide +kernel
theorem d_X_gained_12 : decode b_X_gained 12 = .ok (.istore 4, 2) := by decide +kernel
theorem d_X_gained_14 : decode b_X_gained 14 = .ok (.iload 4, 2) := by decide +kernel
theorem d_X_gained_16 : decode b_X_gained 16 = .ok (.aload_n 0, 1) := by decide +kernel
theorem d_X_gained_17 : decode b_X_gained 17 = .ok (.getfield 57, 3) := by decide +kernel
theorem d_X_gained_20 : decode b_X_gained 20 = .ok (.iload_n 1, 1) := by decide +kernel
theorem d_X_gained_21 : decode b_X_gained 21 = .ok (.iaload, 1) := by decide +kernel
theorem d_X_gained_22 : decode b_X_gained 22 = .ok (.if_icmp .ge 24, 3) := by decide +kernel
theorem d_X_gained_25 : decode b_X_gained 25 = .ok (.lload_n 2, 1) := by decide +kernel
theorem d_X_gained_26 : decode b_X_gained 26 = .ok (.aload_n 0, 1) := by decide +kernel
theorem d_X_gained_27 : decode b_X_gained 27 = .ok (.getfield 25, 3) := by decide +kernel
theorem d_X_gained_30 : decode b_X_gained 30 = .ok (.aload_n 0, 1) := by decide +kernel
theorem d_X_gained_31 : decode b_X_gained 31 = .ok (.getfield 32, 3) := by decide +kernel
theorem d_X_gained_34 : decode b_X_gained 34 = .ok (.iload 4, 2) := by decide +kernel
theorem d_X_gained_36 : decode b_X_gained 36 = .ok (.iaload, 1) := by decide +kernel
theorem d_X_gained_37 : decode b_X_gained 37 = .ok (.laload, 1) := by decide +kernel
theorem d_X_gained_38 : decode b_X_gained 38 = .ok (.ladd, 1) := by decide +kernel
theorem d_X_gained_39 : decode b_X_gained 39 = .ok (.lstore_n 2, 1) := by decide +kernel
theorem d_X_gained_40 : decode b_X_gained 40 = .ok (.iinc 4 1, 3) := by decide +kernel
theorem d_X_gained_43 : decode b_X_gained 43 = .ok (.goto (-29), 3) := by decide +kernel
theorem d_X_gained_46 : decode b_X_gained 46 = .ok (.lload_n 2, 1) := by decide +kernel
theorem d_X_gained_47 : decode b_X_gained 47 = .ok (.lreturn, 1) := by decide +kernel
theorem d_X_least_0 : decode b_X_least 0 = .ok (.iload_n 1, 1) := by decide +kernel
theorem d_X_least_1 : decode b_X_least 1 = .ok (.i2l, 1) := by decide +kernel
theorem d_X_least_2 : decode b_X_least 2 = .ok (.lconst 0, 1) := by decide +kernel
theorem d_X_least_3 : decode b_X_least 3 = .ok (.aload_n 0, 1) := by decide +kernel
theorem d_X_least_4 : decode b_X_least 4 = .ok (.getfield 114, 3) := by decide +kernel
theorem d_X_least_7 : decode b_X_least 7 = .ok (.i2l, 1) := by decide +kernel
theorem d_X_least_8 : decode b_X_least 8 = .ok (.invokestatic 80, 3) := by decide +kernel
theorem d_X_least_11 : decode b_X_least 11 = .ok (.iconst 0, 1) := by decide +kernel
theorem d_X_least_12 : decode b_X_least 12 = .ok (.istore_n 2, 1) := by decide +kernel
theorem d_X_least_13 : decode b_X_least 13 = .ok (.iconst 0, 1) := by decide +kernel
theorem d_X_least_14 : decode b_X_least 14 = .ok (.istore_n 3, 1) := by decide +kernel
theorem d_X_least_15 : decode b_X_least 15 = .ok (.iload_n 3, 1) := by decide +kernel
theorem d_X_least_16 : decode b_X_least 16 = .ok (.iload_n 1, 1) := by decide +kernel
theorem d_X_least_17 : decode b_X_least 17 = .ok (.if_icmp .ge 23, 3) := by decide +kernel
theorem d_X_least_20 : decode b_X_least 20 = .ok (.iload_n 2, 1) := by decide +kernel
theorem d_X_least_21 : decode b_X_least 21 = .ok (.aload_n 0, 1) := by decide +kernel
theorem d_X_least_22 : decode b_X_least 22 = .ok (.getfield 29, 3) := by decide +kernel
theorem d_X_least_25 : decode b_X_least 25 = .ok (.aload_n 0, 1) := by decide +kernel
theorem d_X_least_26 : decode b_X_least 26 = .ok (.getfield 32, 3) := by decide +kernel
theorem d_X_least_29 : decode b_X_least 29 = .ok (.iload_n 3, 1) := by decide +kernel
theorem d_X_least_30 : decode b_X_least 30 = .ok (.iaload, 1) := by decide +kernel
theorem d_X_least_31 : decode b_X_least 31 = .ok (.iaload, 1) := by decide +kernel
theorem d_X_least_32 : decode b_X_least 32 = .ok (.iadd, 1) := by decide +kernel
theorem d_X_least_33 : decode b_X_least 33 = .ok (.istore_n 2, 1) := by decide +kernel
theorem d_X_least_34 : decode b_X_least 34 = .ok (.iinc 3 1, 3) := by decide +kernel
theorem d_X_least_37 : decode b_X_least 37 = .ok (.goto (-22), 3) := by decide +kernel
theorem d_X_least_40 : decode b_X_least 40 = .ok (.iload_n 2, 1) := by decide +kernel
theorem d_X_least_41 : decode b_X_least 41 = .ok (.ireturn, 1) := by decide +kernel
theorem d_X_above_0 : decode b_X_above 0 = .ok (.iload_n 3, 1) := by decide +kernel
theorem d_X_above_1 : decode b_X_above 1 = .ok (.i2l, 1) := by decide +kernel
theorem d_X_above_2 : decode b_X_above 2 = .ok (.lconst 1, 1) := by decide +kernel
theorem d_X_above_3 : decode b_X_above 3 = .ok (.ldc2_w 86, 3) := by decide +kernel
theorem d_X_above_6 : decode b_X_above 6 = .ok (.invokestatic 80, 3) := by decide +kernel
theorem d_X_above_9 : decode b_X_above 9 = .ok (.lload_n 1, 1) := by decide +kernel
theorem d_X_above_10 : decode b_X_above 10 = .ok (.ldc2_w 145, 3) := by decide +kernel
theorem d_X_above_13 : decode b_X_above 13 = .ok (.ldc2_w 147, 3) := by decide +kernel
theorem d_X_above_16 : decode b_X_above 16 = .ok (.invokestatic 80, 3) := by decide +kernel
theorem d_X_above_19 : decode b_X_above 19 = .ok (.iconst 0, 1) := by decide +kernel
theorem d_X_above_20 : decode b_X_above 20 = .ok (.istore 4, 2) := by decide +kernel
theorem d_X_above_22 : decode b_X_above 22 = .ok (.iload 4, 2) := by decide +kernel
theorem d_X_above_24 : decode b_X_above 24 = .ok (.aload_n 0, 1) := by decide +kernel
theorem d_X_above_25 : decode b_X_above 25 = .ok (.getfield 114, 3) := by decide +kernel
theorem d_X_above_28 : decode b_X_above 28 = .ok (.if_icmp .ge 43, 3) := by decide +kernel
theorem d_X_above_31 : decode b_X_above 31 = .ok (.aload_n 0, 1) := by decide +kernel
theorem d_X_above_32 : decode b_X_above 32 = .ok (.getfield 25, 3) := by decide +kernel
theorem d_X_above_35 : decode b_X_above 35 = .ok (.aload_n 0, 1) := by decide +kernel
theorem d_X_above_36 : decode b_X_above 36 = .ok (.getfield 32, 3) := by decide +kernel
theorem d_X_above_39 : decode b_X_above 39 = .ok (.iload 4, 2) := by decide +kernel
theorem d_X_above_41 : decode b_X_above 41 = .ok (.iaload, 1) := by decide +kernel
theorem d_X_above_42 : decode b_X_above 42 = .ok (.laload, 1) := by decide +kernel
theorem d_X_above_43 : decode b_X_above 43 = .ok (.iload_n 3, 1) := by decide +kernel
theorem d_X_above_44 : decode b_X_above 44 = .ok (.i2l, 1) := by decide +kernel
theorem d_X_above_45 : decode b_X_above 45 = .ok (.lmul, 1) := by decide +kernel
theorem d_X_above_46 : decode b_X_above 46 = .ok (.lload_n 1, 1) := by decide +kernel
theorem d_X_above_47 : decode b_X_above 47 = .ok (.aload_n 0, 1) := by decide +kernel
theorem d_X_above_48 : decode b_X_above 48 = .ok (.getfield 29, 3) := by decide +kernel
theorem d_X_above_51 : decode b_X_above 51 = .ok (.aload_n 0, 1) := by decide +kernel
theorem d_X_above_52 : decode b_X_above 52 = .ok (.getfield 32, 3) := by decide +kernel
theorem d_X_above_55 : decode b_X_above 55 = .ok (.iload 4, 2) := by decide +kernel
theorem d_X_above_57 : decode b_X_above 57 = .ok (.iaload, 1) := by decide +kernel
theorem d_X_above_58 : decode b_X_above 58 = .ok (.iaload, 1) := by decide +kernel
theorem d_X_above_59 : decode b_X_above 59 = .ok (.i2l, 1) := by decide +kernel
theorem d_X_above_60 : decode b_X_above 60 = .ok (.lmul, 1) := by decide +kernel
theorem d_X_above_61 : decode b_X_above 61 = .ok (.lcmp, 1) := by decide +kernel
theorem d_X_above_62 : decode b_X_above 62 = .ok (.ifCond .lt 9, 3) := by decide +kernel
theorem d_X_above_65 : decode b_X_above 65 = .ok (.iinc 4 1, 3) := by decide +kernel
theorem d_X_above_68 : decode b_X_above 68 = .ok (.goto (-46), 3) := by decide +kernel
theorem d_X_above_71 : decode b_X_above 71 = .ok (.iload 4, 2) := by decide +kernel
theorem d_X_above_73 : decode b_X_above 73 = .ok (.ireturn, 1) := by decide +kernel
theorem d_X_told_0 : decode b_X_told 0 = .ok (.iload_n 1, 1) := by decide +kernel
theorem d_X_told_1 : decode b_X_told 1 = .ok (.tableswitch 59 0 3 #[31, 36, 41, 46], 31) := by decide +kernel
theorem d_X_told_32 : decode b_X_told 32 = .ok (.aload_n 0, 1) := by decide +kernel
theorem d_X_told_33 : decode b_X_told 33 = .ok (.getfield 44, 3) := by decide +kernel
theorem d_X_told_36 : decode b_X_told 36 = .ok (.ireturn, 1) := by decide +kernel
theorem d_X_told_37 : decode b_X_told 37 = .ok (.aload_n 0, 1) := by decide +kernel
theorem d_X_told_38 : decode b_X_told 38 = .ok (.getfield 60, 3) := by decide +kernel
theorem d_X_told_41 : decode b_X_told 41 = .ok (.ireturn, 1) := by decide +kernel
theorem d_X_told_42 : decode b_X_told 42 = .ok (.aload_n 0, 1) := by decide +kernel
theorem d_X_told_43 : decode b_X_told 43 = .ok (.getfield 94, 3) := by decide +kernel
theorem d_X_told_46 : decode b_X_told 46 = .ok (.ireturn, 1) := by decide +kernel
theorem d_X_told_47 : decode b_X_told 47 = .ok (.aload_n 0, 1) := by decide +kernel
theorem d_X_told_48 : decode b_X_told 48 = .ok (.getfield 70, 3) := by decide +kernel
theorem d_X_told_51 : decode b_X_told 51 = .ok (.ifCond .eq 7, 3) := by decide +kernel
theorem d_X_told_54 : decode b_X_told 54 = .ok (.iconst 1, 1) := by decide +kernel
theorem d_X_told_55 : decode b_X_told 55 = .ok (.goto 4, 3) := by decide +kernel
theorem d_X_told_58 : decode b_X_told 58 = .ok (.iconst 0, 1) := by decide +kernel
theorem d_X_told_59 : decode b_X_told 59 = .ok (.ireturn, 1) := by decide +kernel
theorem d_X_told_60 : decode b_X_told 60 = .ok (.iconst (-1), 1) := by decide +kernel
theorem d_X_told_61 : decode b_X_told 61 = .ok (.ireturn, 1) := by decide +kernel
theorem d_X_clear_0 : decode b_X_clear 0 = .ok (.iconst 0, 1) := by decide +kernel
theorem d_X_clear_1 : decode b_X_clear 1 = .ok (.istore_n 1, 1) := by decide +kernel
theorem d_X_clear_2 : decode b_X_clear 2 = .ok (.iload_n 1, 1) := by decide +kernel
theorem d_X_clear_3 : decode b_X_clear 3 = .ok (.aload_n 0, 1) := by decide +kernel
theorem d_X_clear_4 : decode b_X_clear 4 = .ok (.getfield 44, 3) := by decide +kernel
theorem d_X_clear_7 : decode b_X_clear 7 = .ok (.if_icmp .ge 23, 3) := by decide +kernel
theorem d_X_clear_10 : decode b_X_clear 10 = .ok (.aload_n 0, 1) := by decide +kernel
theorem d_X_clear_11 : decode b_X_clear 11 = .ok (.getfield 48, 3) := by decide +kernel
theorem d_X_clear_14 : decode b_X_clear 14 = .ok (.iload_n 1, 1) := by decide +kernel
theorem d_X_clear_15 : decode b_X_clear 15 = .ok (.iconst 0, 1) := by decide +kernel
theorem d_X_clear_16 : decode b_X_clear 16 = .ok (.iastore, 1) := by decide +kernel
theorem d_X_clear_17 : decode b_X_clear 17 = .ok (.aload_n 0, 1) := by decide +kernel
theorem d_X_clear_18 : decode b_X_clear 18 = .ok (.getfield 51, 3) := by decide +kernel
theorem d_X_clear_21 : decode b_X_clear 21 = .ok (.iload_n 1, 1) := by decide +kernel
theorem d_X_clear_22 : decode b_X_clear 22 = .ok (.iconst 0, 1) := by decide +kernel
theorem d_X_clear_23 : decode b_X_clear 23 = .ok (.iastore, 1) := by decide +kernel
theorem d_X_clear_24 : decode b_X_clear 24 = .ok (.iinc 1 1, 3) := by decide +kernel
theorem d_X_clear_27 : decode b_X_clear 27 = .ok (.goto (-25), 3) := by decide +kernel
theorem d_X_clear_30 : decode b_X_clear 30 = .ok (.aload_n 0, 1) := by decide +kernel
theorem d_X_clear_31 : decode b_X_clear 31 = .ok (.iconst 0, 1) := by decide +kernel
theorem d_X_clear_32 : decode b_X_clear 32 = .ok (.putfield 60, 3) := by decide +kernel
theorem d_X_clear_35 : decode b_X_clear 35 = .ok (.aload_n 0, 1) := by decide +kernel
theorem d_X_clear_36 : decode b_X_clear 36 = .ok (.iconst 0, 1) := by decide +kernel
theorem d_X_clear_37 : decode b_X_clear 37 = .ok (.putfield 94, 3) := by decide +kernel
theorem d_X_clear_40 : decode b_X_clear 40 = .ok (.aload_n 0, 1) := by decide +kernel
theorem d_X_clear_41 : decode b_X_clear 41 = .ok (.iconst 0, 1) := by decide +kernel
theorem d_X_clear_42 : decode b_X_clear 42 = .ok (.putfield 114, 3) := by decide +kernel
theorem d_X_clear_45 : decode b_X_clear 45 = .ok (.aload_n 0, 1) := by decide +kernel
theorem d_X_clear_46 : decode b_X_clear 46 = .ok (.iconst 0, 1) := by decide +kernel
theorem d_X_clear_47 : decode b_X_clear 47 = .ok (.putfield 70, 3) := by decide +kernel
theorem d_X_clear_50 : decode b_X_clear 50 = .ok (.return_, 1) := by decide +kernel
theorem d_X_needBlock_0 : decode b_X_needBlock 0 = .ok (.iload_n 1, 1) := by decide +kernel
theorem d_X_needBlock_1 : decode b_X_needBlock 1 = .ok (.ifCond .lt 11, 3) := by decide +kernel
theorem d_X_needBlock_4 : decode b_X_needBlock 4 = .ok (.iload_n 1, 1) := by decide +kernel
theorem d_X_needBlock_5 : decode b_X_needBlock 5 = .ok (.aload_n 0, 1) := by decide +kernel
theorem d_X_needBlock_6 : decode b_X_needBlock 6 = .ok (.getfield 60, 3) := by decide +kernel
theorem d_X_needBlock_9 : decode b_X_needBlock 9 = .ok (.if_icmp .lt 13, 3) := by decide +kernel
theorem d_X_needBlock_12 : decode b_X_needBlock 12 = .ok (.new 117, 3) := by decide +kernel
theorem d_X_needBlock_15 : decode b_X_needBlock 15 = .ok (.dup, 1) := by decide +kernel
theorem d_X_needBlock_16 : decode b_X_needBlock 16 = .ok (.ldc 149, 2) := by decide +kernel
theorem d_X_needBlock_18 : decode b_X_needBlock 18 = .ok (.invokespecial 121, 3) := by decide +kernel
theorem d_X_needBlock_21 : decode b_X_needBlock 21 = .ok (.athrow, 1) := by decide +kernel
theorem d_X_needBlock_22 : decode b_X_needBlock 22 = .ok (.return_, 1) := by decide +kernel
theorem d_X_needLayer_0 : decode b_X_needLayer 0 = .ok (.iload_n 1, 1) := by decide +kernel
theorem d_X_needLayer_1 : decode b_X_needLayer 1 = .ok (.ifCond .lt 11, 3) := by decide +kernel
theorem d_X_needLayer_4 : decode b_X_needLayer 4 = .ok (.iload_n 1, 1) := by decide +kernel
theorem d_X_needLayer_5 : decode b_X_needLayer 5 = .ok (.aload_n 0, 1) := by decide +kernel
theorem d_X_needLayer_6 : decode b_X_needLayer 6 = .ok (.getfield 44, 3) := by decide +kernel
theorem d_X_needLayer_9 : decode b_X_needLayer 9 = .ok (.if_icmp .lt 13, 3) := by decide +kernel
theorem d_X_needLayer_12 : decode b_X_needLayer 12 = .ok (.new 117, 3) := by decide +kernel
theorem d_X_needLayer_15 : decode b_X_needLayer 15 = .ok (.dup, 1) := by decide +kernel
theorem d_X_needLayer_16 : decode b_X_needLayer 16 = .ok (.ldc 151, 2) := by decide +kernel
theorem d_X_needLayer_18 : decode b_X_needLayer 18 = .ok (.invokespecial 121, 3) := by decide +kernel
theorem d_X_needLayer_21 : decode b_X_needLayer 21 = .ok (.athrow, 1) := by decide +kernel
theorem d_X_needLayer_22 : decode b_X_needLayer 22 = .ok (.return_, 1) := by decide +kernel
theorem d_X_needShared_0 : decode b_X_needShared 0 = .ok (.aload_n 0, 1) := by decide +kernel
theorem d_X_needShared_1 : decode b_X_needShared 1 = .ok (.getfield 70, 3) := by decide +kernel
theorem d_X_needShared_4 : decode b_X_needShared 4 = .ok (.ifCond .ne 13, 3) := by decide +kernel
theorem d_X_needShared_7 : decode b_X_needShared 7 = .ok (.new 153, 3) := by decide +kernel
theorem d_X_needShared_10 : decode b_X_needShared 10 = .ok (.dup, 1) := by decide +kernel
theorem d_X_needShared_11 : decode b_X_needShared 11 = .ok (.ldc 155, 2) := by decide +kernel
theorem d_X_needShared_13 : decode b_X_needShared 13 = .ok (.invokespecial 157, 3) := by decide +kernel
theorem d_X_needShared_16 : decode b_X_needShared 16 = .ok (.athrow, 1) := by decide +kernel
theorem d_X_needShared_17 : decode b_X_needShared 17 = .ok (.return_, 1) := by decide +kernel
theorem d_X_needWithin_0 : decode b_X_needWithin 0 = .ok (.lload_n 0, 1) := by decide +kernel
theorem d_X_needWithin_1 : decode b_X_needWithin 1 = .ok (.lload_n 2, 1) := by decide +kernel
theorem d_X_needWithin_2 : decode b_X_needWithin 2 = .ok (.lcmp, 1) := by decide +kernel
theorem d_X_needWithin_3 : decode b_X_needWithin 3 = .ok (.ifCond .lt 10, 3) := by decide +kernel
theorem d_X_needWithin_6 : decode b_X_needWithin 6 = .ok (.lload_n 0, 1) := by decide +kernel
theorem d_X_needWithin_7 : decode b_X_needWithin 7 = .ok (.lload 4, 2) := by decide +kernel
theorem d_X_needWithin_9 : decode b_X_needWithin 9 = .ok (.lcmp, 1) := by decide +kernel
theorem d_X_needWithin_10 : decode b_X_needWithin 10 = .ok (.ifCond .le 13, 3) := by decide +kernel
theorem d_X_needWithin_13 : decode b_X_needWithin 13 = .ok (.new 137, 3) := by decide +kernel
theorem d_X_needWithin_16 : decode b_X_needWithin 16 = .ok (.dup, 1) := by decide +kernel
theorem d_X_needWithin_17 : decode b_X_needWithin 17 = .ok (.ldc 158, 2) := by decide +kernel
theorem d_X_needWithin_19 : decode b_X_needWithin 19 = .ok (.invokespecial 141, 3) := by decide +kernel
theorem d_X_needWithin_22 : decode b_X_needWithin 22 = .ok (.athrow, 1) := by decide +kernel
theorem d_X_needWithin_23 : decode b_X_needWithin 23 = .ok (.return_, 1) := by decide +kernel
theorem d_X_tellLayer_0 : decode b_X_tellLayer 0 = .ok (.aload_n 0, 1) := by decide +kernel
theorem d_X_tellLayer_1 : decode b_X_tellLayer 1 = .ok (.iload_n 2, 1) := by decide +kernel
theorem d_X_tellLayer_2 : decode b_X_tellLayer 2 = .ok (.invokevirtual 142, 3) := by decide +kernel
theorem d_X_tellLayer_5 : decode b_X_tellLayer 5 = .ok (.iload_n 3, 1) := by decide +kernel
theorem d_X_tellLayer_6 : decode b_X_tellLayer 6 = .ok (.i2l, 1) := by decide +kernel
theorem d_X_tellLayer_7 : decode b_X_tellLayer 7 = .ok (.lconst 0, 1) := by decide +kernel
theorem d_X_tellLayer_8 : decode b_X_tellLayer 8 = .ok (.ldc2_w 160, 3) := by decide +kernel
theorem d_X_tellLayer_11 : decode b_X_tellLayer 11 = .ok (.invokestatic 80, 3) := by decide +kernel
theorem d_X_tellLayer_14 : decode b_X_tellLayer 14 = .ok (.aload_n 1, 1) := by decide +kernel
theorem d_X_tellLayer_15 : decode b_X_tellLayer 15 = .ok (.iload_n 2, 1) := by decide +kernel
theorem d_X_tellLayer_16 : decode b_X_tellLayer 16 = .ok (.iaload, 1) := by decide +kernel
theorem d_X_tellLayer_17 : decode b_X_tellLayer 17 = .ok (.istore 4, 2) := by decide +kernel
theorem d_X_tellLayer_19 : decode b_X_tellLayer 19 = .ok (.aload_n 1, 1) := by decide +kernel
theorem d_X_tellLayer_20 : decode b_X_tellLayer 20 = .ok (.iload_n 2, 1) := by decide +kernel
theorem d_X_tellLayer_21 : decode b_X_tellLayer 21 = .ok (.iload_n 3, 1) := by decide +kernel
theorem d_X_tellLayer_22 : decode b_X_tellLayer 22 = .ok (.iastore, 1) := by decide +kernel
theorem d_X_tellLayer_23 : decode b_X_tellLayer 23 = .ok (.aload_n 0, 1) := by decide +kernel
theorem d_X_tellLayer_24 : decode b_X_tellLayer 24 = .ok (.iconst 0, 1) := by decide +kernel
theorem d_X_tellLayer_25 : decode b_X_tellLayer 25 = .ok (.putfield 70, 3) := by decide +kernel
theorem d_X_tellLayer_28 : decode b_X_tellLayer 28 = .ok (.iload 4, 2) := by decide +kernel
theorem d_X_tellLayer_30 : decode b_X_tellLayer 30 = .ok (.ireturn, 1) := by decide +kernel
theorem d_X_startOf_0 : decode b_X_startOf 0 = .ok (.iload_n 0, 1) := by decide +kernel
theorem d_X_startOf_1 : decode b_X_startOf 1 = .ok (.bipush 25, 2) := by decide +kernel
theorem d_X_startOf_3 : decode b_X_startOf 3 = .ok (.imul, 1) := by decide +kernel
theorem d_X_startOf_4 : decode b_X_startOf 4 = .ok (.ireturn, 1) := by decide +kernel
theorem d_X_pointOf_0 : decode b_X_pointOf 0 = .ok (.aload_n 0, 1) := by decide +kernel
theorem d_X_pointOf_1 : decode b_X_pointOf 1 = .ok (.iload_n 1, 1) := by decide +kernel
theorem d_X_pointOf_2 : decode b_X_pointOf 2 = .ok (.invokevirtual 74, 3) := by decide +kernel
theorem d_X_pointOf_5 : decode b_X_pointOf 5 = .ok (.iload_n 2, 1) := by decide +kernel
theorem d_X_pointOf_6 : decode b_X_pointOf 6 = .ok (.ifCond .lt 13, 3) := by decide +kernel
theorem d_X_pointOf_9 : decode b_X_pointOf 9 = .ok (.iload_n 2, 1) := by decide +kernel
theorem d_X_pointOf_10 : decode b_X_pointOf 10 = .ok (.aload_n 0, 1) := by decide +kernel
theorem d_X_pointOf_11 : decode b_X_pointOf 11 = .ok (.getfield 16, 3) := by decide +kernel
theorem d_X_pointOf_14 : decode b_X_pointOf 14 = .ok (.iload_n 1, 1) := by decide +kernel
theorem d_X_pointOf_15 : decode b_X_pointOf 15 = .ok (.iaload, 1) := by decide +kernel
theorem d_X_pointOf_16 : decode b_X_pointOf 16 = .ok (.if_icmp .lt 13, 3) := by decide +kernel
theorem d_X_pointOf_19 : decode b_X_pointOf 19 = .ok (.new 117, 3) := by decide +kernel
theorem d_X_pointOf_22 : decode b_X_pointOf 22 = .ok (.dup, 1) := by decide +kernel
theorem d_X_pointOf_23 : decode b_X_pointOf 23 = .ok (.ldc 162, 2) := by decide +kernel
theorem d_X_pointOf_25 : decode b_X_pointOf 25 = .ok (.invokespecial 121, 3) := by decide +kernel
theorem d_X_pointOf_28 : decode b_X_pointOf 28 = .ok (.athrow, 1) := by decide +kernel
theorem d_X_pointOf_29 : decode b_X_pointOf 29 = .ok (.iload_n 1, 1) := by decide +kernel
theorem d_X_pointOf_30 : decode b_X_pointOf 30 = .ok (.invokestatic 90, 3) := by decide +kernel
theorem d_X_pointOf_33 : decode b_X_pointOf 33 = .ok (.iconst 1, 1) := by decide +kernel
theorem d_X_pointOf_34 : decode b_X_pointOf 34 = .ok (.iadd, 1) := by decide +kernel
theorem d_X_pointOf_35 : decode b_X_pointOf 35 = .ok (.iload_n 2, 1) := by decide +kernel
theorem d_X_pointOf_36 : decode b_X_pointOf 36 = .ok (.iadd, 1) := by decide +kernel
theorem d_X_pointOf_37 : decode b_X_pointOf 37 = .ok (.ireturn, 1) := by decide +kernel
theorem d_X_blockOf_0 : decode b_X_blockOf 0 = .ok (.iload_n 0, 1) := by decide +kernel
theorem d_X_blockOf_1 : decode b_X_blockOf 1 = .ok (.bipush 25, 2) := by decide +kernel
theorem d_X_blockOf_3 : decode b_X_blockOf 3 = .ok (.idiv, 1) := by decide +kernel
theorem d_X_blockOf_4 : decode b_X_blockOf 4 = .ok (.ireturn, 1) := by decide +kernel
theorem d_X_passesUpTo_0 : decode b_X_passesUpTo 0 = .ok (.iload_n 0, 1) := by decide +kernel
theorem d_X_passesUpTo_1 : decode b_X_passesUpTo 1 = .ok (.bipush 25, 2) := by decide +kernel
theorem d_X_passesUpTo_3 : decode b_X_passesUpTo 3 = .ok (.irem, 1) := by decide +kernel
theorem d_X_passesUpTo_4 : decode b_X_passesUpTo 4 = .ok (.ireturn, 1) := by decide +kernel
theorem d_X_renewBlock_0 : decode b_X_renewBlock 0 = .ok (.aload_n 0, 1) := by decide +kernel
theorem d_X_renewBlock_1 : decode b_X_renewBlock 1 = .ok (.iload_n 1, 1) := by decide +kernel
theorem d_X_renewBlock_2 : decode b_X_renewBlock 2 = .ok (.invokevirtual 164, 3) := by decide +kernel
theorem d_X_renewBlock_5 : decode b_X_renewBlock 5 = .ok (.aload_n 0, 1) := by decide +kernel
theorem d_X_renewBlock_6 : decode b_X_renewBlock 6 = .ok (.iload_n 1, 1) := by decide +kernel
theorem d_X_renewBlock_7 : decode b_X_renewBlock 7 = .ok (.invokevirtual 167, 3) := by decide +kernel
theorem d_X_renewBlock_10 : decode b_X_renewBlock 10 = .ok (.istore_n 2, 1) := by decide +kernel
theorem d_X_renewBlock_11 : decode b_X_renewBlock 11 = .ok (.aload_n 0, 1) := by decide +kernel
theorem d_X_renewBlock_12 : decode b_X_renewBlock 12 = .ok (.iload_n 1, 1) := by decide +kernel
theorem d_X_renewBlock_13 : decode b_X_renewBlock 13 = .ok (.iload_n 2, 1) := by decide +kernel
theorem d_X_renewBlock_14 : decode b_X_renewBlock 14 = .ok (.invokevirtual 170, 3) := by decide +kernel
theorem d_X_renewBlock_17 : decode b_X_renewBlock 17 = .ok (.aload_n 0, 1) := by decide +kernel
theorem d_X_renewBlock_18 : decode b_X_renewBlock 18 = .ok (.iconst 0, 1) := by decide +kernel
theorem d_X_renewBlock_19 : decode b_X_renewBlock 19 = .ok (.putfield 70, 3) := by decide +kernel
theorem d_X_renewBlock_22 : decode b_X_renewBlock 22 = .ok (.return_, 1) := by decide +kernel
theorem d_X_takeFromRow_0 : decode b_X_takeFromRow 0 = .ok (.iconst 0, 1) := by decide +kernel
theorem d_X_takeFromRow_1 : decode b_X_takeFromRow 1 = .ok (.istore_n 2, 1) := by decide +kernel
theorem d_X_takeFromRow_2 : decode b_X_takeFromRow 2 = .ok (.iconst 0, 1) := by decide +kernel
theorem d_X_takeFromRow_3 : decode b_X_takeFromRow 3 = .ok (.istore_n 3, 1) := by decide +kernel
theorem d_X_takeFromRow_4 : decode b_X_takeFromRow 4 = .ok (.iload_n 3, 1) := by decide +kernel
theorem d_X_takeFromRow_5 : decode b_X_takeFromRow 5 = .ok (.aload_n 0, 1) := by decide +kernel
theorem d_X_takeFromRow_6 : decode b_X_takeFromRow 6 = .ok (.getfield 114, 3) := by decide +kernel
theorem d_X_takeFromRow_9 : decode b_X_takeFromRow 9 = .ok (.if_icmp .ge 37, 3) := by decide +kernel
theorem d_X_takeFromRow_12 : decode b_X_takeFromRow 12 = .ok (.aload_n 0, 1) := by decide +kernel
theorem d_X_takeFromRow_13 : decode b_X_takeFromRow 13 = .ok (.getfield 32, 3) := by decide +kernel
theorem d_X_takeFromRow_16 : decode b_X_takeFromRow 16 = .ok (.iload_n 3, 1) := by decide +kernel
theorem d_X_takeFromRow_17 : decode b_X_takeFromRow 17 = .ok (.iaload, 1) := by decide +kernel
theorem d_X_takeFromRow_18 : decode b_X_takeFromRow 18 = .ok (.invokestatic 122, 3) := by decide +kernel
theorem d_X_takeFromRow_21 : decode b_X_takeFromRow 21 = .ok (.iload_n 1, 1) := by decide +kernel
theorem d_X_takeFromRow_22 : decode b_X_takeFromRow 22 = .ok (.if_icmp .eq 18, 3) := by decide +kernel
theorem d_X_takeFromRow_25 : decode b_X_takeFromRow 25 = .ok (.aload_n 0, 1) := by decide +kernel
theorem d_X_takeFromRow_26 : decode b_X_takeFromRow 26 = .ok (.getfield 32, 3) := by decide +kernel
theorem d_X_takeFromRow_29 : decode b_X_takeFromRow 29 = .ok (.iload_n 2, 1) := by decide +kernel
theorem d_X_takeFromRow_30 : decode b_X_takeFromRow 30 = .ok (.aload_n 0, 1) := by decide +kernel
theorem d_X_takeFromRow_31 : decode b_X_takeFromRow 31 = .ok (.getfield 32, 3) := by decide +kernel
theorem d_X_takeFromRow_34 : decode b_X_takeFromRow 34 = .ok (.iload_n 3, 1) := by decide +kernel
theorem d_X_takeFromRow_35 : decode b_X_takeFromRow 35 = .ok (.iaload, 1) := by decide +kernel
theorem d_X_takeFromRow_36 : decode b_X_takeFromRow 36 = .ok (.iastore, 1) := by decide +kernel
theorem d_X_takeFromRow_37 : decode b_X_takeFromRow 37 = .ok (.iinc 2 1, 3) := by decide +kernel
theorem d_X_takeFromRow_40 : decode b_X_takeFromRow 40 = .ok (.iinc 3 1, 3) := by decide +kernel
theorem d_X_takeFromRow_43 : decode b_X_takeFromRow 43 = .ok (.goto (-39), 3) := by decide +kernel
theorem d_X_takeFromRow_46 : decode b_X_takeFromRow 46 = .ok (.aload_n 0, 1) := by decide +kernel
theorem d_X_takeFromRow_47 : decode b_X_takeFromRow 47 = .ok (.iload_n 2, 1) := by decide +kernel
theorem d_X_takeFromRow_48 : decode b_X_takeFromRow 48 = .ok (.putfield 114, 3) := by decide +kernel
theorem d_X_takeFromRow_51 : decode b_X_takeFromRow 51 = .ok (.return_, 1) := by decide +kernel
theorem d_X_makeHull_0 : decode b_X_makeHull 0 = .ok (.iload_n 1, 1) := by decide +kernel
theorem d_X_makeHull_1 : decode b_X_makeHull 1 = .ok (.invokestatic 90, 3) := by decide +kernel
theorem d_X_makeHull_4 : decode b_X_makeHull 4 = .ok (.istore_n 2, 1) := by decide +kernel
theorem d_X_makeHull_5 : decode b_X_makeHull 5 = .ok (.iload_n 2, 1) := by decide +kernel
theorem d_X_makeHull_6 : decode b_X_makeHull 6 = .ok (.aload_n 0, 1) := by decide +kernel
theorem d_X_makeHull_7 : decode b_X_makeHull 7 = .ok (.getfield 16, 3) := by decide +kernel
theorem d_X_makeHull_10 : decode b_X_makeHull 10 = .ok (.iload_n 1, 1) := by decide +kernel
theorem d_X_makeHull_11 : decode b_X_makeHull 11 = .ok (.iaload, 1) := by decide +kernel
theorem d_X_makeHull_12 : decode b_X_makeHull 12 = .ok (.iadd, 1) := by decide +kernel
theorem d_X_makeHull_13 : decode b_X_makeHull 13 = .ok (.istore_n 3, 1) := by decide +kernel
theorem d_X_makeHull_14 : decode b_X_makeHull 14 = .ok (.aload_n 0, 1) := by decide +kernel
theorem d_X_makeHull_15 : decode b_X_makeHull 15 = .ok (.getfield 9, 3) := by decide +kernel
theorem d_X_makeHull_18 : decode b_X_makeHull 18 = .ok (.iload_n 1, 1) := by decide +kernel
theorem d_X_makeHull_19 : decode b_X_makeHull 19 = .ok (.iaload, 1) := by decide +kernel
theorem d_X_makeHull_20 : decode b_X_makeHull 20 = .ok (.i2l, 1) := by decide +kernel
theorem d_X_makeHull_21 : decode b_X_makeHull 21 = .ok (.iconst 2, 1) := by decide +kernel
theorem d_X_makeHull_22 : decode b_X_makeHull 22 = .ok (.aload_n 0, 1) := by decide +kernel
theorem d_X_makeHull_23 : decode b_X_makeHull 23 = .ok (.getfield 13, 3) := by decide +kernel
theorem d_X_makeHull_26 : decode b_X_makeHull 26 = .ok (.iload_n 1, 1) := by decide +kernel
theorem d_X_makeHull_27 : decode b_X_makeHull 27 = .ok (.iaload, 1) := by decide +kernel
theorem d_X_makeHull_28 : decode b_X_makeHull 28 = .ok (.imul, 1) := by decide +kernel
theorem d_X_makeHull_29 : decode b_X_makeHull 29 = .ok (.lshl, 1) := by decide +kernel
theorem d_X_makeHull_30 : decode b_X_makeHull 30 = .ok (.lstore 4, 2) := by decide +kernel
theorem d_X_makeHull_32 : decode b_X_makeHull 32 = .ok (.aload_n 0, 1) := by decide +kernel
theorem d_X_makeHull_33 : decode b_X_makeHull 33 = .ok (.iload_n 2, 1) := by decide +kernel
theorem d_X_makeHull_34 : decode b_X_makeHull 34 = .ok (.iload_n 3, 1) := by decide +kernel
theorem d_X_makeHull_35 : decode b_X_makeHull 35 = .ok (.invokevirtual 174, 3) := by decide +kernel
theorem d_X_makeHull_38 : decode b_X_makeHull 38 = .ok (.istore 6, 2) := by decide +kernel
theorem d_X_makeHull_40 : decode b_X_makeHull 40 = .ok (.iconst 0, 1) := by decide +kernel
theorem d_X_makeHull_41 : decode b_X_makeHull 41 = .ok (.istore 7, 2) := by decide +kernel
theorem d_X_makeHull_43 : decode b_X_makeHull 43 = .ok (.iload_n 2, 1) := by decide +kernel
theorem d_X_makeHull_44 : decode b_X_makeHull 44 = .ok (.iconst 1, 1) := by decide +kernel
theorem d_X_makeHull_45 : decode b_X_makeHull 45 = .ok (.iadd, 1) := by decide +kernel
theorem d_X_makeHull_46 : decode b_X_makeHull 46 = .ok (.istore 8, 2) := by decide +kernel
theorem d_X_makeHull_48 : decode b_X_makeHull 48 = .ok (.iload 8, 2) := by decide +kernel
theorem d_X_makeHull_50 : decode b_X_makeHull 50 = .ok (.iload_n 3, 1) := by decide +kernel
theorem d_X_makeHull_51 : decode b_X_makeHull 51 = .ok (.if_icmp .gt 95, 3) := by decide +kernel
theorem d_X_makeHull_54 : decode b_X_makeHull 54 = .ok (.iload 8, 2) := by decide +kernel
theorem d_X_makeHull_56 : decode b_X_makeHull 56 = .ok (.iload 6, 2) := by decide +kernel
theorem d_X_makeHull_58 : decode b_X_makeHull 58 = .ok (.if_icmp .ne 66, 3) := by decide +kernel
theorem d_X_makeHull_61 : decode b_X_makeHull 61 = .ok (.aload_n 0, 1) := by decide +kernel
theorem d_X_makeHull_62 : decode b_X_makeHull 62 = .ok (.getfield 29, 3) := by decide +kernel
theorem d_X_makeHull_65 : decode b_X_makeHull 65 = .ok (.iload 8, 2) := by decide +kernel
theorem d_X_makeHull_67 : decode b_X_makeHull 67 = .ok (.aload_n 0, 1) := by decide +kernel
theorem d_X_makeHull_68 : decode b_X_makeHull 68 = .ok (.getfield 19, 3) := by decide +kernel
theorem d_X_makeHull_71 : decode b_X_makeHull 71 = .ok (.iload 8, 2) := by decide +kernel
theorem d_X_makeHull_73 : decode b_X_makeHull 73 = .ok (.iaload, 1) := by decide +kernel
theorem d_X_makeHull_74 : decode b_X_makeHull 74 = .ok (.aload_n 0, 1) := by decide +kernel
theorem d_X_makeHull_75 : decode b_X_makeHull 75 = .ok (.getfield 19, 3) := by decide +kernel
theorem d_X_makeHull_78 : decode b_X_makeHull 78 = .ok (.iload_n 2, 1) := by decide +kernel
theorem d_X_makeHull_79 : decode b_X_makeHull 79 = .ok (.iaload, 1) := by decide +kernel
theorem d_X_makeHull_80 : decode b_X_makeHull 80 = .ok (.isub, 1) := by decide +kernel
theorem d_X_makeHull_81 : decode b_X_makeHull 81 = .ok (.iastore, 1) := by decide +kernel
theorem d_X_makeHull_82 : decode b_X_makeHull 82 = .ok (.aload_n 0, 1) := by decide +kernel
theorem d_X_makeHull_83 : decode b_X_makeHull 83 = .ok (.getfield 25, 3) := by decide +kernel
theorem d_X_makeHull_86 : decode b_X_makeHull 86 = .ok (.iload 8, 2) := by decide +kernel
theorem d_X_makeHull_88 : decode b_X_makeHull 88 = .ok (.aload_n 0, 1) := by decide +kernel
theorem d_X_makeHull_89 : decode b_X_makeHull 89 = .ok (.getfield 22, 3) := by decide +kernel
theorem d_X_makeHull_92 : decode b_X_makeHull 92 = .ok (.iload 8, 2) := by decide +kernel
theorem d_X_makeHull_94 : decode b_X_makeHull 94 = .ok (.iaload, 1) := by decide +kernel
theorem d_X_makeHull_95 : decode b_X_makeHull 95 = .ok (.aload_n 0, 1) := by decide +kernel
theorem d_X_makeHull_96 : decode b_X_makeHull 96 = .ok (.getfield 22, 3) := by decide +kernel
theorem d_X_makeHull_99 : decode b_X_makeHull 99 = .ok (.iload_n 2, 1) := by decide +kernel
theorem d_X_makeHull_100 : decode b_X_makeHull 100 = .ok (.iaload, 1) := by decide +kernel
theorem d_X_makeHull_101 : decode b_X_makeHull 101 = .ok (.isub, 1) := by decide +kernel
theorem d_X_makeHull_102 : decode b_X_makeHull 102 = .ok (.i2l, 1) := by decide +kernel
theorem d_X_makeHull_103 : decode b_X_makeHull 103 = .ok (.lload 4, 2) := by decide +kernel
theorem d_X_makeHull_105 : decode b_X_makeHull 105 = .ok (.lmul, 1) := by decide +kernel
theorem d_X_makeHull_106 : decode b_X_makeHull 106 = .ok (.lastore, 1) := by decide +kernel
theorem d_X_makeHull_107 : decode b_X_makeHull 107 = .ok (.iinc 7 1, 3) := by decide +kernel
theorem d_X_makeHull_110 : decode b_X_makeHull 110 = .ok (.iload 8, 2) := by decide +kernel
theorem d_X_makeHull_112 : decode b_X_makeHull 112 = .ok (.istore_n 2, 1) := by decide +kernel
theorem d_X_makeHull_113 : decode b_X_makeHull 113 = .ok (.aload_n 0, 1) := by decide +kernel
theorem d_X_makeHull_114 : decode b_X_makeHull 114 = .ok (.iload_n 2, 1) := by decide +kernel
theorem d_X_makeHull_115 : decode b_X_makeHull 115 = .ok (.iload_n 3, 1) := by decide +kernel
theorem d_X_makeHull_116 : decode b_X_makeHull 116 = .ok (.invokevirtual 174, 3) := by decide +kernel
theorem d_X_makeHull_119 : decode b_X_makeHull 119 = .ok (.istore 6, 2) := by decide +kernel
theorem d_X_makeHull_121 : decode b_X_makeHull 121 = .ok (.goto 19, 3) := by decide +kernel
theorem d_X_makeHull_124 : decode b_X_makeHull 124 = .ok (.aload_n 0, 1) := by decide +kernel
theorem d_X_makeHull_125 : decode b_X_makeHull 125 = .ok (.getfield 29, 3) := by decide +kernel
theorem d_X_makeHull_128 : decode b_X_makeHull 128 = .ok (.iload 8, 2) := by decide +kernel
theorem d_X_makeHull_130 : decode b_X_makeHull 130 = .ok (.iconst 0, 1) := by decide +kernel
theorem d_X_makeHull_131 : decode b_X_makeHull 131 = .ok (.iastore, 1) := by decide +kernel
theorem d_X_makeHull_132 : decode b_X_makeHull 132 = .ok (.aload_n 0, 1) := by decide +kernel
theorem d_X_makeHull_133 : decode b_X_makeHull 133 = .ok (.getfield 25, 3) := by decide +kernel
theorem d_X_makeHull_136 : decode b_X_makeHull 136 = .ok (.iload 8, 2) := by decide +kernel
theorem d_X_makeHull_138 : decode b_X_makeHull 138 = .ok (.lconst 0, 1) := by decide +kernel
theorem d_X_makeHull_139 : decode b_X_makeHull 139 = .ok (.lastore, 1) := by decide +kernel
theorem d_X_makeHull_140 : decode b_X_makeHull 140 = .ok (.iinc 8 1, 3) := by decide +kernel
theorem d_X_makeHull_143 : decode b_X_makeHull 143 = .ok (.goto (-95), 3) := by decide +kernel
theorem d_X_makeHull_146 : decode b_X_makeHull 146 = .ok (.iload 7, 2) := by decide +kernel
theorem d_X_makeHull_148 : decode b_X_makeHull 148 = .ok (.ireturn, 1) := by decide +kernel
theorem d_X_steepestFrom_0 : decode b_X_steepestFrom 0 = .ok (.iload_n 1, 1) := by decide +kernel
theorem d_X_steepestFrom_1 : decode b_X_steepestFrom 1 = .ok (.istore_n 3, 1) := by decide +kernel
theorem d_X_steepestFrom_2 : decode b_X_steepestFrom 2 = .ok (.lconst 0, 1) := by decide +kernel
theorem d_X_steepestFrom_3 : decode b_X_steepestFrom 3 = .ok (.lstore 4, 2) := by decide +kernel
theorem d_X_steepestFrom_5 : decode b_X_steepestFrom 5 = .ok (.lconst 1, 1) := by decide +kernel
theorem d_X_steepestFrom_6 : decode b_X_steepestFrom 6 = .ok (.lstore 6, 2) := by decide +kernel
theorem d_X_steepestFrom_8 : decode b_X_steepestFrom 8 = .ok (.iload_n 1, 1) := by decide +kernel
theorem d_X_steepestFrom_9 : decode b_X_steepestFrom 9 = .ok (.iconst 1, 1) := by decide +kernel
theorem d_X_steepestFrom_10 : decode b_X_steepestFrom 10 = .ok (.iadd, 1) := by decide +kernel
theorem d_X_steepestFrom_11 : decode b_X_steepestFrom 11 = .ok (.istore 8, 2) := by decide +kernel
theorem d_X_steepestFrom_13 : decode b_X_steepestFrom 13 = .ok (.iload 8, 2) := by decide +kernel
theorem d_X_steepestFrom_15 : decode b_X_steepestFrom 15 = .ok (.iload_n 2, 1) := by decide +kernel
theorem d_X_steepestFrom_16 : decode b_X_steepestFrom 16 = .ok (.if_icmp .gt 75, 3) := by decide +kernel
theorem d_X_steepestFrom_19 : decode b_X_steepestFrom 19 = .ok (.aload_n 0, 1) := by decide +kernel
theorem d_X_steepestFrom_20 : decode b_X_steepestFrom 20 = .ok (.getfield 22, 3) := by decide +kernel
theorem d_X_steepestFrom_23 : decode b_X_steepestFrom 23 = .ok (.iload 8, 2) := by decide +kernel
theorem d_X_steepestFrom_25 : decode b_X_steepestFrom 25 = .ok (.iaload, 1) := by decide +kernel
theorem d_X_steepestFrom_26 : decode b_X_steepestFrom 26 = .ok (.aload_n 0, 1) := by decide +kernel
theorem d_X_steepestFrom_27 : decode b_X_steepestFrom 27 = .ok (.getfield 22, 3) := by decide +kernel
theorem d_X_steepestFrom_30 : decode b_X_steepestFrom 30 = .ok (.iload_n 1, 1) := by decide +kernel
theorem d_X_steepestFrom_31 : decode b_X_steepestFrom 31 = .ok (.iaload, 1) := by decide +kernel
theorem d_X_steepestFrom_32 : decode b_X_steepestFrom 32 = .ok (.isub, 1) := by decide +kernel
theorem d_X_steepestFrom_33 : decode b_X_steepestFrom 33 = .ok (.i2l, 1) := by decide +kernel
theorem d_X_steepestFrom_34 : decode b_X_steepestFrom 34 = .ok (.lstore 9, 2) := by decide +kernel
theorem d_X_steepestFrom_36 : decode b_X_steepestFrom 36 = .ok (.aload_n 0, 1) := by decide +kernel
theorem d_X_steepestFrom_37 : decode b_X_steepestFrom 37 = .ok (.getfield 19, 3) := by decide +kernel
theorem d_X_steepestFrom_40 : decode b_X_steepestFrom 40 = .ok (.iload 8, 2) := by decide +kernel
theorem d_X_steepestFrom_42 : decode b_X_steepestFrom 42 = .ok (.iaload, 1) := by decide +kernel
theorem d_X_steepestFrom_43 : decode b_X_steepestFrom 43 = .ok (.aload_n 0, 1) := by decide +kernel
theorem d_X_steepestFrom_44 : decode b_X_steepestFrom 44 = .ok (.getfield 19, 3) := by decide +kernel
theorem d_X_steepestFrom_47 : decode b_X_steepestFrom 47 = .ok (.iload_n 1, 1) := by decide +kernel
theorem d_X_steepestFrom_48 : decode b_X_steepestFrom 48 = .ok (.iaload, 1) := by decide +kernel
theorem d_X_steepestFrom_49 : decode b_X_steepestFrom 49 = .ok (.isub, 1) := by decide +kernel
theorem d_X_steepestFrom_50 : decode b_X_steepestFrom 50 = .ok (.i2l, 1) := by decide +kernel
theorem d_X_steepestFrom_51 : decode b_X_steepestFrom 51 = .ok (.lstore 11, 2) := by decide +kernel
theorem d_X_steepestFrom_53 : decode b_X_steepestFrom 53 = .ok (.lload 9, 2) := by decide +kernel
theorem d_X_steepestFrom_55 : decode b_X_steepestFrom 55 = .ok (.lconst 0, 1) := by decide +kernel
theorem d_X_steepestFrom_56 : decode b_X_steepestFrom 56 = .ok (.lcmp, 1) := by decide +kernel
theorem d_X_steepestFrom_57 : decode b_X_steepestFrom 57 = .ok (.ifCond .le 28, 3) := by decide +kernel
theorem d_X_steepestFrom_60 : decode b_X_steepestFrom 60 = .ok (.lload 9, 2) := by decide +kernel
theorem d_X_steepestFrom_62 : decode b_X_steepestFrom 62 = .ok (.lload 6, 2) := by decide +kernel
theorem d_X_steepestFrom_64 : decode b_X_steepestFrom 64 = .ok (.lmul, 1) := by decide +kernel
theorem d_X_steepestFrom_65 : decode b_X_steepestFrom 65 = .ok (.lload 4, 2) := by decide +kernel
theorem d_X_steepestFrom_67 : decode b_X_steepestFrom 67 = .ok (.lload 11, 2) := by decide +kernel
theorem d_X_steepestFrom_69 : decode b_X_steepestFrom 69 = .ok (.lmul, 1) := by decide +kernel
theorem d_X_steepestFrom_70 : decode b_X_steepestFrom 70 = .ok (.lcmp, 1) := by decide +kernel
theorem d_X_steepestFrom_71 : decode b_X_steepestFrom 71 = .ok (.ifCond .lt 14, 3) := by decide +kernel
theorem d_X_steepestFrom_74 : decode b_X_steepestFrom 74 = .ok (.iload 8, 2) := by decide +kernel
theorem d_X_steepestFrom_76 : decode b_X_steepestFrom 76 = .ok (.istore_n 3, 1) := by decide +kernel
theorem d_X_steepestFrom_77 : decode b_X_steepestFrom 77 = .ok (.lload 9, 2) := by decide +kernel
theorem d_X_steepestFrom_79 : decode b_X_steepestFrom 79 = .ok (.lstore 4, 2) := by decide +kernel
theorem d_X_steepestFrom_81 : decode b_X_steepestFrom 81 = .ok (.lload 11, 2) := by decide +kernel
theorem d_X_steepestFrom_83 : decode b_X_steepestFrom 83 = .ok (.lstore 6, 2) := by decide +kernel
theorem d_X_steepestFrom_85 : decode b_X_steepestFrom 85 = .ok (.iinc 8 1, 3) := by decide +kernel
theorem d_X_steepestFrom_88 : decode b_X_steepestFrom 88 = .ok (.goto (-75), 3) := by decide +kernel
theorem d_X_steepestFrom_91 : decode b_X_steepestFrom 91 = .ok (.iload_n 3, 1) := by decide +kernel
theorem d_X_steepestFrom_92 : decode b_X_steepestFrom 92 = .ok (.ireturn, 1) := by decide +kernel
theorem d_X_mergeIntoRow_0 : decode b_X_mergeIntoRow 0 = .ok (.iload_n 1, 1) := by decide +kernel
theorem d_X_mergeIntoRow_1 : decode b_X_mergeIntoRow 1 = .ok (.invokestatic 90, 3) := by decide +kernel
theorem d_X_mergeIntoRow_4 : decode b_X_mergeIntoRow 4 = .ok (.istore_n 3, 1) := by decide +kernel
theorem d_X_mergeIntoRow_5 : decode b_X_mergeIntoRow 5 = .ok (.aload_n 0, 1) := by decide +kernel
theorem d_X_mergeIntoRow_6 : decode b_X_mergeIntoRow 6 = .ok (.getfield 114, 3) := by decide +kernel
theorem d_X_mergeIntoRow_9 : decode b_X_mergeIntoRow 9 = .ok (.iconst 1, 1) := by decide +kernel
theorem d_X_mergeIntoRow_10 : decode b_X_mergeIntoRow 10 = .ok (.isub, 1) := by decide +kernel
theorem d_X_mergeIntoRow_11 : decode b_X_mergeIntoRow 11 = .ok (.istore 4, 2) := by decide +kernel
theorem d_X_mergeIntoRow_13 : decode b_X_mergeIntoRow 13 = .ok (.aload_n 0, 1) := by decide +kernel
theorem d_X_mergeIntoRow_14 : decode b_X_mergeIntoRow 14 = .ok (.getfield 114, 3) := by decide +kernel
theorem d_X_mergeIntoRow_17 : decode b_X_mergeIntoRow 17 = .ok (.iload_n 2, 1) := by decide +kernel
theorem d_X_mergeIntoRow_18 : decode b_X_mergeIntoRow 18 = .ok (.iadd, 1) := by decide +kernel
theorem d_X_mergeIntoRow_19 : decode b_X_mergeIntoRow 19 = .ok (.iconst 1, 1) := by decide +kernel
theorem d_X_mergeIntoRow_20 : decode b_X_mergeIntoRow 20 = .ok (.isub, 1) := by decide +kernel
theorem d_X_mergeIntoRow_21 : decode b_X_mergeIntoRow 21 = .ok (.istore 5, 2) := by decide +kernel
theorem d_X_mergeIntoRow_23 : decode b_X_mergeIntoRow 23 = .ok (.iload_n 3, 1) := by decide +kernel
theorem d_X_mergeIntoRow_24 : decode b_X_mergeIntoRow 24 = .ok (.aload_n 0, 1) := by decide +kernel
theorem d_X_mergeIntoRow_25 : decode b_X_mergeIntoRow 25 = .ok (.getfield 16, 3) := by decide +kernel
theorem d_X_mergeIntoRow_28 : decode b_X_mergeIntoRow 28 = .ok (.iload_n 1, 1) := by decide +kernel
theorem d_X_mergeIntoRow_29 : decode b_X_mergeIntoRow 29 = .ok (.iaload, 1) := by decide +kernel
theorem d_X_mergeIntoRow_30 : decode b_X_mergeIntoRow 30 = .ok (.iadd, 1) := by decide +kernel
theorem d_X_mergeIntoRow_31 : decode b_X_mergeIntoRow 31 = .ok (.istore 6, 2) := by decide +kernel
theorem d_X_mergeIntoRow_33 : decode b_X_mergeIntoRow 33 = .ok (.iload 6, 2) := by decide +kernel
theorem d_X_mergeIntoRow_35 : decode b_X_mergeIntoRow 35 = .ok (.iload_n 3, 1) := by decide +kernel
theorem d_X_mergeIntoRow_36 : decode b_X_mergeIntoRow 36 = .ok (.if_icmp .le 75, 3) := by decide +kernel
theorem d_X_mergeIntoRow_39 : decode b_X_mergeIntoRow 39 = .ok (.aload_n 0, 1) := by decide +kernel
theorem d_X_mergeIntoRow_40 : decode b_X_mergeIntoRow 40 = .ok (.getfield 29, 3) := by decide +kernel
theorem d_X_mergeIntoRow_43 : decode b_X_mergeIntoRow 43 = .ok (.iload 6, 2) := by decide +kernel
theorem d_X_mergeIntoRow_45 : decode b_X_mergeIntoRow 45 = .ok (.iaload, 1) := by decide +kernel
theorem d_X_mergeIntoRow_46 : decode b_X_mergeIntoRow 46 = .ok (.ifCond .le 59, 3) := by decide +kernel
theorem d_X_mergeIntoRow_49 : decode b_X_mergeIntoRow 49 = .ok (.iload 4, 2) := by decide +kernel
theorem d_X_mergeIntoRow_51 : decode b_X_mergeIntoRow 51 = .ok (.ifCond .lt 42, 3) := by decide +kernel
theorem d_X_mergeIntoRow_54 : decode b_X_mergeIntoRow 54 = .ok (.aload_n 0, 1) := by decide +kernel
theorem d_X_mergeIntoRow_55 : decode b_X_mergeIntoRow 55 = .ok (.iload 6, 2) := by decide +kernel
theorem d_X_mergeIntoRow_57 : decode b_X_mergeIntoRow 57 = .ok (.aload_n 0, 1) := by decide +kernel
theorem d_X_mergeIntoRow_58 : decode b_X_mergeIntoRow 58 = .ok (.getfield 32, 3) := by decide +kernel
theorem d_X_mergeIntoRow_61 : decode b_X_mergeIntoRow 61 = .ok (.iload 4, 2) := by decide +kernel
theorem d_X_mergeIntoRow_63 : decode b_X_mergeIntoRow 63 = .ok (.iaload, 1) := by decide +kernel
theorem d_X_mergeIntoRow_64 : decode b_X_mergeIntoRow 64 = .ok (.invokevirtual 177, 3) := by decide +kernel
theorem d_X_mergeIntoRow_67 : decode b_X_mergeIntoRow 67 = .ok (.ifCond .eq 26, 3) := by decide +kernel
theorem d_X_mergeIntoRow_70 : decode b_X_mergeIntoRow 70 = .ok (.aload_n 0, 1) := by decide +kernel
theorem d_X_mergeIntoRow_71 : decode b_X_mergeIntoRow 71 = .ok (.getfield 32, 3) := by decide +kernel
theorem d_X_mergeIntoRow_74 : decode b_X_mergeIntoRow 74 = .ok (.iload 5, 2) := by decide +kernel
theorem d_X_mergeIntoRow_76 : decode b_X_mergeIntoRow 76 = .ok (.aload_n 0, 1) := by decide +kernel
theorem d_X_mergeIntoRow_77 : decode b_X_mergeIntoRow 77 = .ok (.getfield 32, 3) := by decide +kernel
theorem d_X_mergeIntoRow_80 : decode b_X_mergeIntoRow 80 = .ok (.iload 4, 2) := by decide +kernel
theorem d_X_mergeIntoRow_82 : decode b_X_mergeIntoRow 82 = .ok (.iaload, 1) := by decide +kernel
theorem d_X_mergeIntoRow_83 : decode b_X_mergeIntoRow 83 = .ok (.iastore, 1) := by decide +kernel
theorem d_X_mergeIntoRow_84 : decode b_X_mergeIntoRow 84 = .ok (.iinc 4 (-1), 3) := by decide +kernel
theorem d_X_mergeIntoRow_87 : decode b_X_mergeIntoRow 87 = .ok (.iinc 5 (-1), 3) := by decide +kernel
theorem d_X_mergeIntoRow_90 : decode b_X_mergeIntoRow 90 = .ok (.goto (-41), 3) := by decide +kernel
theorem d_X_mergeIntoRow_93 : decode b_X_mergeIntoRow 93 = .ok (.aload_n 0, 1) := by decide +kernel
theorem d_X_mergeIntoRow_94 : decode b_X_mergeIntoRow 94 = .ok (.getfield 32, 3) := by decide +kernel
theorem d_X_mergeIntoRow_97 : decode b_X_mergeIntoRow 97 = .ok (.iload 5, 2) := by decide +kernel
theorem d_X_mergeIntoRow_99 : decode b_X_mergeIntoRow 99 = .ok (.iload 6, 2) := by decide +kernel
theorem d_X_mergeIntoRow_101 : decode b_X_mergeIntoRow 101 = .ok (.iastore, 1) := by decide +kernel
theorem d_X_mergeIntoRow_102 : decode b_X_mergeIntoRow 102 = .ok (.iinc 5 (-1), 3) := by decide +kernel
theorem d_X_mergeIntoRow_105 : decode b_X_mergeIntoRow 105 = .ok (.iinc 6 (-1), 3) := by decide +kernel
theorem d_X_mergeIntoRow_108 : decode b_X_mergeIntoRow 108 = .ok (.goto (-75), 3) := by decide +kernel
theorem d_X_mergeIntoRow_111 : decode b_X_mergeIntoRow 111 = .ok (.aload_n 0, 1) := by decide +kernel
theorem d_X_mergeIntoRow_112 : decode b_X_mergeIntoRow 112 = .ok (.dup, 1) := by decide +kernel
theorem d_X_mergeIntoRow_113 : decode b_X_mergeIntoRow 113 = .ok (.getfield 114, 3) := by decide +kernel
theorem d_X_mergeIntoRow_116 : decode b_X_mergeIntoRow 116 = .ok (.iload_n 2, 1) := by decide +kernel
theorem d_X_mergeIntoRow_117 : decode b_X_mergeIntoRow 117 = .ok (.iadd, 1) := by decide +kernel
theorem d_X_mergeIntoRow_118 : decode b_X_mergeIntoRow 118 = .ok (.putfield 114, 3) := by decide +kernel
theorem d_X_mergeIntoRow_121 : decode b_X_mergeIntoRow 121 = .ok (.return_, 1) := by decide +kernel
theorem d_X_comesBefore_0 : decode b_X_comesBefore 0 = .ok (.aload_n 0, 1) := by decide +kernel
theorem d_X_comesBefore_1 : decode b_X_comesBefore 1 = .ok (.iload_n 1, 1) := by decide +kernel
theorem d_X_comesBefore_2 : decode b_X_comesBefore 2 = .ok (.iload_n 2, 1) := by decide +kernel
theorem d_X_comesBefore_3 : decode b_X_comesBefore 3 = .ok (.invokevirtual 181, 3) := by decide +kernel
theorem d_X_comesBefore_6 : decode b_X_comesBefore 6 = .ok (.istore_n 3, 1) := by decide +kernel
theorem d_X_comesBefore_7 : decode b_X_comesBefore 7 = .ok (.iload_n 3, 1) := by decide +kernel
theorem d_X_comesBefore_8 : decode b_X_comesBefore 8 = .ok (.ifCond .gt 12, 3) := by decide +kernel
theorem d_X_comesBefore_11 : decode b_X_comesBefore 11 = .ok (.iload_n 3, 1) := by decide +kernel
theorem d_X_comesBefore_12 : decode b_X_comesBefore 12 = .ok (.ifCond .ne 12, 3) := by decide +kernel
theorem d_X_comesBefore_15 : decode b_X_comesBefore 15 = .ok (.iload_n 1, 1) := by decide +kernel
theorem d_X_comesBefore_16 : decode b_X_comesBefore 16 = .ok (.iload_n 2, 1) := by decide +kernel
theorem d_X_comesBefore_17 : decode b_X_comesBefore 17 = .ok (.if_icmp .ge 7, 3) := by decide +kernel
theorem d_X_comesBefore_20 : decode b_X_comesBefore 20 = .ok (.iconst 1, 1) := by decide +kernel
theorem d_X_comesBefore_21 : decode b_X_comesBefore 21 = .ok (.goto 4, 3) := by decide +kernel
theorem d_X_comesBefore_24 : decode b_X_comesBefore 24 = .ok (.iconst 0, 1) := by decide +kernel
theorem d_X_comesBefore_25 : decode b_X_comesBefore 25 = .ok (.ireturn, 1) := by decide +kernel
theorem d_X_compareSlopes_0 : decode b_X_compareSlopes 0 = .ok (.aload_n 0, 1) := by decide +kernel
theorem d_X_compareSlopes_1 : decode b_X_compareSlopes 1 = .ok (.getfield 25, 3) := by decide +kernel
theorem d_X_compareSlopes_4 : decode b_X_compareSlopes 4 = .ok (.iload_n 1, 1) := by decide +kernel
theorem d_X_compareSlopes_5 : decode b_X_compareSlopes 5 = .ok (.laload, 1) := by decide +kernel
theorem d_X_compareSlopes_6 : decode b_X_compareSlopes 6 = .ok (.aload_n 0, 1) := by decide +kernel
theorem d_X_compareSlopes_7 : decode b_X_compareSlopes 7 = .ok (.getfield 29, 3) := by decide +kernel
theorem d_X_compareSlopes_10 : decode b_X_compareSlopes 10 = .ok (.iload_n 2, 1) := by decide +kernel
theorem d_X_compareSlopes_11 : decode b_X_compareSlopes 11 = .ok (.iaload, 1) := by decide +kernel
theorem d_X_compareSlopes_12 : decode b_X_compareSlopes 12 = .ok (.i2l, 1) := by decide +kernel
theorem d_X_compareSlopes_13 : decode b_X_compareSlopes 13 = .ok (.lmul, 1) := by decide +kernel
theorem d_X_compareSlopes_14 : decode b_X_compareSlopes 14 = .ok (.aload_n 0, 1) := by decide +kernel
theorem d_X_compareSlopes_15 : decode b_X_compareSlopes 15 = .ok (.getfield 25, 3) := by decide +kernel
theorem d_X_compareSlopes_18 : decode b_X_compareSlopes 18 = .ok (.iload_n 2, 1) := by decide +kernel
theorem d_X_compareSlopes_19 : decode b_X_compareSlopes 19 = .ok (.laload, 1) := by decide +kernel
theorem d_X_compareSlopes_20 : decode b_X_compareSlopes 20 = .ok (.aload_n 0, 1) := by decide +kernel
theorem d_X_compareSlopes_21 : decode b_X_compareSlopes 21 = .ok (.getfield 29, 3) := by decide +kernel
theorem d_X_compareSlopes_24 : decode b_X_compareSlopes 24 = .ok (.iload_n 1, 1) := by decide +kernel
theorem d_X_compareSlopes_25 : decode b_X_compareSlopes 25 = .ok (.iaload, 1) := by decide +kernel
theorem d_X_compareSlopes_26 : decode b_X_compareSlopes 26 = .ok (.i2l, 1) := by decide +kernel
theorem d_X_compareSlopes_27 : decode b_X_compareSlopes 27 = .ok (.lmul, 1) := by decide +kernel
theorem d_X_compareSlopes_28 : decode b_X_compareSlopes 28 = .ok (.invokestatic 184, 3) := by decide +kernel
theorem d_X_compareSlopes_31 : decode b_X_compareSlopes 31 = .ok (.ireturn, 1) := by decide +kernel
theorem d_X_countSameSlope_0 : decode b_X_countSameSlope 0 = .ok (.iconst 0, 1) := by decide +kernel
theorem d_X_countSameSlope_1 : decode b_X_countSameSlope 1 = .ok (.istore_n 2, 1) := by decide +kernel
theorem d_X_countSameSlope_2 : decode b_X_countSameSlope 2 = .ok (.iconst 0, 1) := by decide +kernel
theorem d_X_countSameSlope_3 : decode b_X_countSameSlope 3 = .ok (.istore_n 3, 1) := by decide +kernel
theorem d_X_countSameSlope_4 : decode b_X_countSameSlope 4 = .ok (.iload_n 3, 1) := by decide +kernel
theorem d_X_countSameSlope_5 : decode b_X_countSameSlope 5 = .ok (.aload_n 0, 1) := by decide +kernel
theorem d_X_countSameSlope_6 : decode b_X_countSameSlope 6 = .ok (.getfield 114, 3) := by decide +kernel
theorem d_X_countSameSlope_9 : decode b_X_countSameSlope 9 = .ok (.if_icmp .ge 26, 3) := by decide +kernel
theorem d_X_countSameSlope_12 : decode b_X_countSameSlope 12 = .ok (.aload_n 0, 1) := by decide +kernel
theorem d_X_countSameSlope_13 : decode b_X_countSameSlope 13 = .ok (.iload_n 1, 1) := by decide +kernel
theorem d_X_countSameSlope_14 : decode b_X_countSameSlope 14 = .ok (.aload_n 0, 1) := by decide +kernel
theorem d_X_countSameSlope_15 : decode b_X_countSameSlope 15 = .ok (.getfield 32, 3) := by decide +kernel
theorem d_X_countSameSlope_18 : decode b_X_countSameSlope 18 = .ok (.iload_n 3, 1) := by decide +kernel
theorem d_X_countSameSlope_19 : decode b_X_countSameSlope 19 = .ok (.iaload, 1) := by decide +kernel
theorem d_X_countSameSlope_20 : decode b_X_countSameSlope 20 = .ok (.invokevirtual 181, 3) := by decide +kernel
theorem d_X_countSameSlope_23 : decode b_X_countSameSlope 23 = .ok (.ifCond .ne 6, 3) := by decide +kernel
theorem d_X_countSameSlope_26 : decode b_X_countSameSlope 26 = .ok (.iinc 2 1, 3) := by decide +kernel
theorem d_X_countSameSlope_29 : decode b_X_countSameSlope 29 = .ok (.iinc 3 1, 3) := by decide +kernel
theorem d_X_countSameSlope_32 : decode b_X_countSameSlope 32 = .ok (.goto (-28), 3) := by decide +kernel
theorem d_X_countSameSlope_35 : decode b_X_countSameSlope 35 = .ok (.iload_n 2, 1) := by decide +kernel
theorem d_X_countSameSlope_36 : decode b_X_countSameSlope 36 = .ok (.ireturn, 1) := by decide +kernel
theorem d_X_fillLayer_0 : decode b_X_fillLayer 0 = .ok (.aload_n 0, 1) := by decide +kernel
theorem d_X_fillLayer_1 : decode b_X_fillLayer 1 = .ok (.getfield 51, 3) := by decide +kernel
theorem d_X_fillLayer_4 : decode b_X_fillLayer 4 = .ok (.iload_n 1, 1) := by decide +kernel
theorem d_X_fillLayer_5 : decode b_X_fillLayer 5 = .ok (.iaload, 1) := by decide +kernel
theorem d_X_fillLayer_6 : decode b_X_fillLayer 6 = .ok (.istore_n 3, 1) := by decide +kernel
theorem d_X_fillLayer_7 : decode b_X_fillLayer 7 = .ok (.iload_n 2, 1) := by decide +kernel
theorem d_X_fillLayer_8 : decode b_X_fillLayer 8 = .ok (.istore 4, 2) := by decide +kernel
theorem d_X_fillLayer_10 : decode b_X_fillLayer 10 = .ok (.iload 4, 2) := by decide +kernel
theorem d_X_fillLayer_12 : decode b_X_fillLayer 12 = .ok (.aload_n 0, 1) := by decide +kernel
theorem d_X_fillLayer_13 : decode b_X_fillLayer 13 = .ok (.getfield 114, 3) := by decide +kernel
theorem d_X_fillLayer_16 : decode b_X_fillLayer 16 = .ok (.if_icmp .ge 47, 3) := by decide +kernel
theorem d_X_fillLayer_19 : decode b_X_fillLayer 19 = .ok (.iload_n 3, 1) := by decide +kernel
theorem d_X_fillLayer_20 : decode b_X_fillLayer 20 = .ok (.aload_n 0, 1) := by decide +kernel
theorem d_X_fillLayer_21 : decode b_X_fillLayer 21 = .ok (.getfield 29, 3) := by decide +kernel
theorem d_X_fillLayer_24 : decode b_X_fillLayer 24 = .ok (.aload_n 0, 1) := by decide +kernel
theorem d_X_fillLayer_25 : decode b_X_fillLayer 25 = .ok (.getfield 32, 3) := by decide +kernel
theorem d_X_fillLayer_28 : decode b_X_fillLayer 28 = .ok (.iload 4, 2) := by decide +kernel
theorem d_X_fillLayer_30 : decode b_X_fillLayer 30 = .ok (.iaload, 1) := by decide +kernel
theorem d_X_fillLayer_31 : decode b_X_fillLayer 31 = .ok (.iaload, 1) := by decide +kernel
theorem d_X_fillLayer_32 : decode b_X_fillLayer 32 = .ok (.iadd, 1) := by decide +kernel
theorem d_X_fillLayer_33 : decode b_X_fillLayer 33 = .ok (.aload_n 0, 1) := by decide +kernel
theorem d_X_fillLayer_34 : decode b_X_fillLayer 34 = .ok (.getfield 48, 3) := by decide +kernel
theorem d_X_fillLayer_37 : decode b_X_fillLayer 37 = .ok (.iload_n 1, 1) := by decide +kernel
theorem d_X_fillLayer_38 : decode b_X_fillLayer 38 = .ok (.iaload, 1) := by decide +kernel
theorem d_X_fillLayer_39 : decode b_X_fillLayer 39 = .ok (.if_icmp .gt 24, 3) := by decide +kernel
theorem d_X_fillLayer_42 : decode b_X_fillLayer 42 = .ok (.iload_n 3, 1) := by decide +kernel
theorem d_X_fillLayer_43 : decode b_X_fillLayer 43 = .ok (.aload_n 0, 1) := by decide +kernel
theorem d_X_fillLayer_44 : decode b_X_fillLayer 44 = .ok (.getfield 29, 3) := by decide +kernel
theorem d_X_fillLayer_47 : decode b_X_fillLayer 47 = .ok (.aload_n 0, 1) := by decide +kernel
theorem d_X_fillLayer_48 : decode b_X_fillLayer 48 = .ok (.getfield 32, 3) := by decide +kernel
theorem d_X_fillLayer_51 : decode b_X_fillLayer 51 = .ok (.iload 4, 2) := by decide +kernel
theorem d_X_fillLayer_53 : decode b_X_fillLayer 53 = .ok (.iaload, 1) := by decide +kernel
theorem d_X_fillLayer_54 : decode b_X_fillLayer 54 = .ok (.iaload, 1) := by decide +kernel
theorem d_X_fillLayer_55 : decode b_X_fillLayer 55 = .ok (.iadd, 1) := by decide +kernel
theorem d_X_fillLayer_56 : decode b_X_fillLayer 56 = .ok (.istore_n 3, 1) := by decide +kernel
theorem d_X_fillLayer_57 : decode b_X_fillLayer 57 = .ok (.iinc 4 1, 3) := by decide +kernel
theorem d_X_fillLayer_60 : decode b_X_fillLayer 60 = .ok (.goto (-50), 3) := by decide +kernel
theorem d_X_fillLayer_63 : decode b_X_fillLayer 63 = .ok (.aload_n 0, 1) := by decide +kernel
theorem d_X_fillLayer_64 : decode b_X_fillLayer 64 = .ok (.getfield 54, 3) := by decide +kernel
theorem d_X_fillLayer_67 : decode b_X_fillLayer 67 = .ok (.iload_n 1, 1) := by decide +kernel
theorem d_X_fillLayer_68 : decode b_X_fillLayer 68 = .ok (.iload_n 3, 1) := by decide +kernel
theorem d_X_fillLayer_69 : decode b_X_fillLayer 69 = .ok (.iastore, 1) := by decide +kernel
theorem d_X_fillLayer_70 : decode b_X_fillLayer 70 = .ok (.iload 4, 2) := by decide +kernel
theorem d_X_fillLayer_72 : decode b_X_fillLayer 72 = .ok (.ireturn, 1) := by decide +kernel
theorem d_X_layerOf_0 : decode b_X_layerOf 0 = .ok (.iconst 0, 1) := by decide +kernel
theorem d_X_layerOf_1 : decode b_X_layerOf 1 = .ok (.istore_n 2, 1) := by decide +kernel
theorem d_X_layerOf_2 : decode b_X_layerOf 2 = .ok (.iload_n 2, 1) := by decide +kernel
theorem d_X_layerOf_3 : decode b_X_layerOf 3 = .ok (.aload_n 0, 1) := by decide +kernel
theorem d_X_layerOf_4 : decode b_X_layerOf 4 = .ok (.getfield 44, 3) := by decide +kernel
theorem d_X_layerOf_7 : decode b_X_layerOf 7 = .ok (.if_icmp .ge 21, 3) := by decide +kernel
theorem d_X_layerOf_10 : decode b_X_layerOf 10 = .ok (.iload_n 1, 1) := by decide +kernel
theorem d_X_layerOf_11 : decode b_X_layerOf 11 = .ok (.aload_n 0, 1) := by decide +kernel
theorem d_X_layerOf_12 : decode b_X_layerOf 12 = .ok (.getfield 57, 3) := by decide +kernel
theorem d_X_layerOf_15 : decode b_X_layerOf 15 = .ok (.iload_n 2, 1) := by decide +kernel
theorem d_X_layerOf_16 : decode b_X_layerOf 16 = .ok (.iaload, 1) := by decide +kernel
theorem d_X_layerOf_17 : decode b_X_layerOf 17 = .ok (.if_icmp .ge 5, 3) := by decide +kernel
theorem d_X_layerOf_20 : decode b_X_layerOf 20 = .ok (.iload_n 2, 1) := by decide +kernel
theorem d_X_layerOf_21 : decode b_X_layerOf 21 = .ok (.ireturn, 1) := by decide +kernel
theorem d_X_layerOf_22 : decode b_X_layerOf 22 = .ok (.iinc 2 1, 3) := by decide +kernel
theorem d_X_layerOf_25 : decode b_X_layerOf 25 = .ok (.goto (-23), 3) := by decide +kernel
theorem d_X_layerOf_28 : decode b_X_layerOf 28 = .ok (.iconst (-1), 1) := by decide +kernel
theorem d_X_layerOf_29 : decode b_X_layerOf 29 = .ok (.ireturn, 1) := by decide +kernel
theorem d_JL_compare_0 : decode b_JL_compare 0 = .ok (.lload_n 0, 1) := by decide +kernel
theorem d_JL_compare_1 : decode b_JL_compare 1 = .ok (.lload_n 2, 1) := by decide +kernel
theorem d_JL_compare_2 : decode b_JL_compare 2 = .ok (.lcmp, 1) := by decide +kernel
theorem d_JL_compare_3 : decode b_JL_compare 3 = .ok (.ifCond .ge 7, 3) := by decide +kernel
theorem d_JL_compare_6 : decode b_JL_compare 6 = .ok (.iconst (-1), 1) := by decide +kernel
theorem d_JL_compare_7 : decode b_JL_compare 7 = .ok (.goto 14, 3) := by decide +kernel
theorem d_JL_compare_10 : decode b_JL_compare 10 = .ok (.lload_n 0, 1) := by decide +kernel
theorem d_JL_compare_11 : decode b_JL_compare 11 = .ok (.lload_n 2, 1) := by decide +kernel
theorem d_JL_compare_12 : decode b_JL_compare 12 = .ok (.lcmp, 1) := by decide +kernel
theorem d_JL_compare_13 : decode b_JL_compare 13 = .ok (.ifCond .ne 7, 3) := by decide +kernel
theorem d_JL_compare_16 : decode b_JL_compare 16 = .ok (.iconst 0, 1) := by decide +kernel
theorem d_JL_compare_17 : decode b_JL_compare 17 = .ok (.goto 4, 3) := by decide +kernel
theorem d_JL_compare_20 : decode b_JL_compare 20 = .ok (.iconst 1, 1) := by decide +kernel
theorem d_JL_compare_21 : decode b_JL_compare 21 = .ok (.ireturn, 1) := by decide +kernel
