theorem d_M_init_0 : decode b_M_init 0 = .ok (.aload_n 0, 1) := by decide +kernel
theorem d_M_init_1 : decode b_M_init 1 = .ok (.invokespecial 1, 3) := by decide +kernel
theorem d_M_init_4 : decode b_M_init 4 = .ok (.aload_n 0, 1) := by decide +kernel
theorem d_M_init_5 : decode b_M_init 5 = .ok (.bipush 40, 2) := by decide +kernel
theorem d_M_init_7 : decode b_M_init 7 = .ok (.newarray .int, 2) := by decide +kernel
theorem d_M_init_9 : decode b_M_init 9 = .ok (.putfield 7, 3) := by decide +kernel
theorem d_M_init_12 : decode b_M_init 12 = .ok (.aload_n 0, 1) := by decide +kernel
theorem d_M_init_13 : decode b_M_init 13 = .ok (.bipush 40, 2) := by decide +kernel
theorem d_M_init_15 : decode b_M_init 15 = .ok (.newarray .int, 2) := by decide +kernel
theorem d_M_init_17 : decode b_M_init 17 = .ok (.putfield 13, 3) := by decide +kernel
theorem d_M_init_20 : decode b_M_init 20 = .ok (.aload_n 0, 1) := by decide +kernel
theorem d_M_init_21 : decode b_M_init 21 = .ok (.bipush 40, 2) := by decide +kernel
theorem d_M_init_23 : decode b_M_init 23 = .ok (.newarray .int, 2) := by decide +kernel
theorem d_M_init_25 : decode b_M_init 25 = .ok (.putfield 16, 3) := by decide +kernel
theorem d_M_init_28 : decode b_M_init 28 = .ok (.aload_n 0, 1) := by decide +kernel
theorem d_M_init_29 : decode b_M_init 29 = .ok (.sipush 960, 3) := by decide +kernel
theorem d_M_init_32 : decode b_M_init 32 = .ok (.newarray .int, 2) := by decide +kernel
theorem d_M_init_34 : decode b_M_init 34 = .ok (.putfield 19, 3) := by decide +kernel
theorem d_M_init_37 : decode b_M_init 37 = .ok (.aload_n 0, 1) := by decide +kernel
theorem d_M_init_38 : decode b_M_init 38 = .ok (.sipush 960, 3) := by decide +kernel
theorem d_M_init_41 : decode b_M_init 41 = .ok (.newarray .long, 2) := by decide +kernel
theorem d_M_init_43 : decode b_M_init 43 = .ok (.putfield 22, 3) := by decide +kernel
theorem d_M_init_46 : decode b_M_init 46 = .ok (.aload_n 0, 1) := by decide +kernel
theorem d_M_init_47 : decode b_M_init 47 = .ok (.bipush 16, 2) := by decide +kernel
theorem d_M_init_49 : decode b_M_init 49 = .ok (.newarray .int, 2) := by decide +kernel
theorem d_M_init_51 : decode b_M_init 51 = .ok (.putfield 26, 3) := by decide +kernel
theorem d_M_init_54 : decode b_M_init 54 = .ok (.aload_n 0, 1) := by decide +kernel
theorem d_M_init_55 : decode b_M_init 55 = .ok (.bipush 16, 2) := by decide +kernel
theorem d_M_init_57 : decode b_M_init 57 = .ok (.newarray .int, 2) := by decide +kernel
theorem d_M_init_59 : decode b_M_init 59 = .ok (.putfield 29, 3) := by decide +kernel
theorem d_M_init_62 : decode b_M_init 62 = .ok (.aload_n 0, 1) := by decide +kernel
theorem d_M_init_63 : decode b_M_init 63 = .ok (.sipush 960, 3) := by decide +kernel
theorem d_M_init_66 : decode b_M_init 66 = .ok (.newarray .int, 2) := by decide +kernel
theorem d_M_init_68 : decode b_M_init 68 = .ok (.putfield 32, 3) := by decide +kernel
theorem d_M_init_71 : decode b_M_init 71 = .ok (.aload_n 0, 1) := by decide +kernel
theorem d_M_init_72 : decode b_M_init 72 = .ok (.sipush 960, 3) := by decide +kernel
theorem d_M_init_75 : decode b_M_init 75 = .ok (.newarray .long, 2) := by decide +kernel
theorem d_M_init_77 : decode b_M_init 77 = .ok (.putfield 35, 3) := by decide +kernel
theorem d_M_init_80 : decode b_M_init 80 = .ok (.aload_n 0, 1) := by decide +kernel
theorem d_M_init_81 : decode b_M_init 81 = .ok (.sipush 960, 3) := by decide +kernel
theorem d_M_init_84 : decode b_M_init 84 = .ok (.newarray .int, 2) := by decide +kernel
theorem d_M_init_86 : decode b_M_init 86 = .ok (.putfield 38, 3) := by decide +kernel
theorem d_M_init_89 : decode b_M_init 89 = .ok (.aload_n 0, 1) := by decide +kernel
theorem d_M_init_90 : decode b_M_init 90 = .ok (.bipush 17, 2) := by decide +kernel
theorem d_M_init_92 : decode b_M_init 92 = .ok (.newarray .int, 2) := by decide +kernel
theorem d_M_init_94 : decode b_M_init 94 = .ok (.putfield 41, 3) := by decide +kernel
theorem d_M_init_97 : decode b_M_init 97 = .ok (.aload_n 0, 1) := by decide +kernel
theorem d_M_init_98 : decode b_M_init 98 = .ok (.iload_n 1, 1) := by decide +kernel
theorem d_M_init_99 : decode b_M_init 99 = .ok (.iconst 1, 1) := by decide +kernel
theorem d_M_init_100 : decode b_M_init 100 = .ok (.if_icmp .ge 7, 3) := by decide +kernel
theorem d_M_init_103 : decode b_M_init 103 = .ok (.iconst 1, 1) := by decide +kernel
theorem d_M_init_104 : decode b_M_init 104 = .ok (.goto 15, 3) := by decide +kernel
theorem d_M_init_107 : decode b_M_init 107 = .ok (.iload_n 1, 1) := by decide +kernel
theorem d_M_init_108 : decode b_M_init 108 = .ok (.bipush 16, 2) := by decide +kernel
theorem d_M_init_110 : decode b_M_init 110 = .ok (.if_icmp .le 8, 3) := by decide +kernel
theorem d_M_init_113 : decode b_M_init 113 = .ok (.bipush 16, 2) := by decide +kernel
theorem d_M_init_115 : decode b_M_init 115 = .ok (.goto 4, 3) := by decide +kernel
theorem d_M_init_118 : decode b_M_init 118 = .ok (.iload_n 1, 1) := by decide +kernel
theorem d_M_init_119 : decode b_M_init 119 = .ok (.putfield 44, 3) := by decide +kernel
theorem d_M_init_122 : decode b_M_init 122 = .ok (.return_, 1) := by decide +kernel
theorem d_M_thrown_0 : decode b_M_thrown 0 = .ok (.aload_n 0, 1) := by decide +kernel
theorem d_M_thrown_1 : decode b_M_thrown 1 = .ok (.getfield 48, 3) := by decide +kernel
theorem d_M_thrown_4 : decode b_M_thrown 4 = .ok (.ireturn, 1) := by decide +kernel
theorem d_M_fails_0 : decode b_M_fails 0 = .ok (.aload_n 0, 1) := by decide +kernel
theorem d_M_fails_1 : decode b_M_fails 1 = .ok (.getfield 48, 3) := by decide +kernel
theorem d_M_fails_4 : decode b_M_fails 4 = .ok (.ifCond .ne 12, 3) := by decide +kernel
theorem d_M_fails_7 : decode b_M_fails 7 = .ok (.iload_n 1, 1) := by decide +kernel
theorem d_M_fails_8 : decode b_M_fails 8 = .ok (.ifCond .eq 8, 3) := by decide +kernel
theorem d_M_fails_11 : decode b_M_fails 11 = .ok (.aload_n 0, 1) := by decide +kernel
theorem d_M_fails_12 : decode b_M_fails 12 = .ok (.iload_n 2, 1) := by decide +kernel
theorem d_M_fails_13 : decode b_M_fails 13 = .ok (.putfield 48, 3) := by decide +kernel
theorem d_M_fails_16 : decode b_M_fails 16 = .ok (.aload_n 0, 1) := by decide +kernel
theorem d_M_fails_17 : decode b_M_fails 17 = .ok (.getfield 48, 3) := by decide +kernel
theorem d_M_fails_20 : decode b_M_fails 20 = .ok (.ifCond .le 7, 3) := by decide +kernel
theorem d_M_fails_23 : decode b_M_fails 23 = .ok (.iconst 1, 1) := by decide +kernel
theorem d_M_fails_24 : decode b_M_fails 24 = .ok (.goto 4, 3) := by decide +kernel
theorem d_M_fails_27 : decode b_M_fails 27 = .ok (.iconst 0, 1) := by decide +kernel
theorem d_M_fails_28 : decode b_M_fails 28 = .ok (.ireturn, 1) := by decide +kernel
theorem d_M_within_0 : decode b_M_within 0 = .ok (.lload_n 0, 1) := by decide +kernel
theorem d_M_within_1 : decode b_M_within 1 = .ok (.lload_n 2, 1) := by decide +kernel
theorem d_M_within_2 : decode b_M_within 2 = .ok (.lcmp, 1) := by decide +kernel
theorem d_M_within_3 : decode b_M_within 3 = .ok (.ifCond .lt 14, 3) := by decide +kernel
theorem d_M_within_6 : decode b_M_within 6 = .ok (.lload_n 0, 1) := by decide +kernel
theorem d_M_within_7 : decode b_M_within 7 = .ok (.lload 4, 2) := by decide +kernel
theorem d_M_within_9 : decode b_M_within 9 = .ok (.lcmp, 1) := by decide +kernel
theorem d_M_within_10 : decode b_M_within 10 = .ok (.ifCond .gt 7, 3) := by decide +kernel
theorem d_M_within_13 : decode b_M_within 13 = .ok (.iconst 1, 1) := by decide +kernel
theorem d_M_within_14 : decode b_M_within 14 = .ok (.goto 4, 3) := by decide +kernel
theorem d_M_within_17 : decode b_M_within 17 = .ok (.iconst 0, 1) := by decide +kernel
theorem d_M_within_18 : decode b_M_within 18 = .ok (.ireturn, 1) := by decide +kernel
theorem d_M_isBlock_0 : decode b_M_isBlock 0 = .ok (.iload_n 1, 1) := by decide +kernel
theorem d_M_isBlock_1 : decode b_M_isBlock 1 = .ok (.ifCond .lt 15, 3) := by decide +kernel
theorem d_M_isBlock_4 : decode b_M_isBlock 4 = .ok (.iload_n 1, 1) := by decide +kernel
theorem d_M_isBlock_5 : decode b_M_isBlock 5 = .ok (.aload_n 0, 1) := by decide +kernel
theorem d_M_isBlock_6 : decode b_M_isBlock 6 = .ok (.getfield 51, 3) := by decide +kernel
theorem d_M_isBlock_9 : decode b_M_isBlock 9 = .ok (.if_icmp .ge 7, 3) := by decide +kernel
theorem d_M_isBlock_12 : decode b_M_isBlock 12 = .ok (.iconst 1, 1) := by decide +kernel
theorem d_M_isBlock_13 : decode b_M_isBlock 13 = .ok (.goto 4, 3) := by decide +kernel
theorem d_M_isBlock_16 : decode b_M_isBlock 16 = .ok (.iconst 0, 1) := by decide +kernel
theorem d_M_isBlock_17 : decode b_M_isBlock 17 = .ok (.ireturn, 1) := by decide +kernel
theorem d_M_isPass_0 : decode b_M_isPass 0 = .ok (.aload_n 0, 1) := by decide +kernel
theorem d_M_isPass_1 : decode b_M_isPass 1 = .ok (.iload_n 1, 1) := by decide +kernel
theorem d_M_isPass_2 : decode b_M_isPass 2 = .ok (.invokevirtual 54, 3) := by decide +kernel
theorem d_M_isPass_5 : decode b_M_isPass 5 = .ok (.ifCond .eq 21, 3) := by decide +kernel
theorem d_M_isPass_8 : decode b_M_isPass 8 = .ok (.iload_n 2, 1) := by decide +kernel
theorem d_M_isPass_9 : decode b_M_isPass 9 = .ok (.ifCond .lt 17, 3) := by decide +kernel
theorem d_M_isPass_12 : decode b_M_isPass 12 = .ok (.iload_n 2, 1) := by decide +kernel
theorem d_M_isPass_13 : decode b_M_isPass 13 = .ok (.aload_n 0, 1) := by decide +kernel
theorem d_M_isPass_14 : decode b_M_isPass 14 = .ok (.getfield 7, 3) := by decide +kernel
theorem d_M_isPass_17 : decode b_M_isPass 17 = .ok (.iload_n 1, 1) := by decide +kernel
theorem d_M_isPass_18 : decode b_M_isPass 18 = .ok (.iaload, 1) := by decide +kernel
theorem d_M_isPass_19 : decode b_M_isPass 19 = .ok (.if_icmp .ge 7, 3) := by decide +kernel
theorem d_M_isPass_22 : decode b_M_isPass 22 = .ok (.iconst 1, 1) := by decide +kernel
theorem d_M_isPass_23 : decode b_M_isPass 23 = .ok (.goto 4, 3) := by decide +kernel
theorem d_M_isPass_26 : decode b_M_isPass 26 = .ok (.iconst 0, 1) := by decide +kernel
theorem d_M_isPass_27 : decode b_M_isPass 27 = .ok (.ireturn, 1) := by decide +kernel
theorem d_M_isLayer_0 : decode b_M_isLayer 0 = .ok (.iload_n 1, 1) := by decide +kernel
theorem d_M_isLayer_1 : decode b_M_isLayer 1 = .ok (.ifCond .lt 15, 3) := by decide +kernel
theorem d_M_isLayer_4 : decode b_M_isLayer 4 = .ok (.iload_n 1, 1) := by decide +kernel
theorem d_M_isLayer_5 : decode b_M_isLayer 5 = .ok (.aload_n 0, 1) := by decide +kernel
theorem d_M_isLayer_6 : decode b_M_isLayer 6 = .ok (.getfield 44, 3) := by decide +kernel
theorem d_M_isLayer_9 : decode b_M_isLayer 9 = .ok (.if_icmp .ge 7, 3) := by decide +kernel
theorem d_M_isLayer_12 : decode b_M_isLayer 12 = .ok (.iconst 1, 1) := by decide +kernel
theorem d_M_isLayer_13 : decode b_M_isLayer 13 = .ok (.goto 4, 3) := by decide +kernel
theorem d_M_isLayer_16 : decode b_M_isLayer 16 = .ok (.iconst 0, 1) := by decide +kernel
theorem d_M_isLayer_17 : decode b_M_isLayer 17 = .ok (.ireturn, 1) := by decide +kernel
theorem d_M_spoil_0 : decode b_M_spoil 0 = .ok (.aload_n 0, 1) := by decide +kernel
theorem d_M_spoil_1 : decode b_M_spoil 1 = .ok (.iconst 0, 1) := by decide +kernel
theorem d_M_spoil_2 : decode b_M_spoil 2 = .ok (.putfield 58, 3) := by decide +kernel
theorem d_M_spoil_5 : decode b_M_spoil 5 = .ok (.aload_n 0, 1) := by decide +kernel
theorem d_M_spoil_6 : decode b_M_spoil 6 = .ok (.iconst 0, 1) := by decide +kernel
theorem d_M_spoil_7 : decode b_M_spoil 7 = .ok (.putfield 62, 3) := by decide +kernel
theorem d_M_spoil_10 : decode b_M_spoil 10 = .ok (.return_, 1) := by decide +kernel
theorem d_M_block_0 : decode b_M_block 0 = .ok (.aload_n 0, 1) := by decide +kernel
theorem d_M_block_1 : decode b_M_block 1 = .ok (.iconst 0, 1) := by decide +kernel
theorem d_M_block_2 : decode b_M_block 2 = .ok (.putfield 48, 3) := by decide +kernel
theorem d_M_block_5 : decode b_M_block 5 = .ok (.aload_n 0, 1) := by decide +kernel
theorem d_M_block_6 : decode b_M_block 6 = .ok (.aload_n 0, 1) := by decide +kernel
theorem d_M_block_7 : decode b_M_block 7 = .ok (.getfield 51, 3) := by decide +kernel
theorem d_M_block_10 : decode b_M_block 10 = .ok (.bipush 40, 2) := by decide +kernel
theorem d_M_block_12 : decode b_M_block 12 = .ok (.if_icmp .ne 7, 3) := by decide +kernel
theorem d_M_block_15 : decode b_M_block 15 = .ok (.iconst 1, 1) := by decide +kernel
theorem d_M_block_16 : decode b_M_block 16 = .ok (.goto 4, 3) := by decide +kernel
theorem d_M_block_19 : decode b_M_block 19 = .ok (.iconst 0, 1) := by decide +kernel
theorem d_M_block_20 : decode b_M_block 20 = .ok (.iconst 1, 1) := by decide +kernel
theorem d_M_block_21 : decode b_M_block 21 = .ok (.invokevirtual 65, 3) := by decide +kernel
theorem d_M_block_24 : decode b_M_block 24 = .ok (.ifCond .eq 5, 3) := by decide +kernel
theorem d_M_block_27 : decode b_M_block 27 = .ok (.iconst 0, 1) := by decide +kernel
theorem d_M_block_28 : decode b_M_block 28 = .ok (.ireturn, 1) := by decide +kernel
theorem d_M_block_29 : decode b_M_block 29 = .ok (.aload_n 0, 1) := by decide +kernel
theorem d_M_block_30 : decode b_M_block 30 = .ok (.getfield 7, 3) := by decide +kernel
theorem d_M_block_33 : decode b_M_block 33 = .ok (.aload_n 0, 1) := by decide +kernel
theorem d_M_block_34 : decode b_M_block 34 = .ok (.getfield 51, 3) := by decide +kernel
theorem d_M_block_37 : decode b_M_block 37 = .ok (.iconst 0, 1) := by decide +kernel
theorem d_M_block_38 : decode b_M_block 38 = .ok (.iastore, 1) := by decide +kernel
theorem d_M_block_39 : decode b_M_block 39 = .ok (.aload_n 0, 1) := by decide +kernel
theorem d_M_block_40 : decode b_M_block 40 = .ok (.getfield 13, 3) := by decide +kernel
theorem d_M_block_43 : decode b_M_block 43 = .ok (.aload_n 0, 1) := by decide +kernel
theorem d_M_block_44 : decode b_M_block 44 = .ok (.getfield 51, 3) := by decide +kernel
theorem d_M_block_47 : decode b_M_block 47 = .ok (.iconst 1, 1) := by decide +kernel
theorem d_M_block_48 : decode b_M_block 48 = .ok (.iastore, 1) := by decide +kernel
theorem d_M_block_49 : decode b_M_block 49 = .ok (.aload_n 0, 1) := by decide +kernel
theorem d_M_block_50 : decode b_M_block 50 = .ok (.getfield 16, 3) := by decide +kernel
theorem d_M_block_53 : decode b_M_block 53 = .ok (.aload_n 0, 1) := by decide +kernel
theorem d_M_block_54 : decode b_M_block 54 = .ok (.getfield 51, 3) := by decide +kernel
theorem d_M_block_57 : decode b_M_block 57 = .ok (.iconst 0, 1) := by decide +kernel
theorem d_M_block_58 : decode b_M_block 58 = .ok (.iastore, 1) := by decide +kernel
theorem d_M_block_59 : decode b_M_block 59 = .ok (.aload_n 0, 1) := by decide +kernel
theorem d_M_block_60 : decode b_M_block 60 = .ok (.dup, 1) := by decide +kernel
theorem d_M_block_61 : decode b_M_block 61 = .ok (.getfield 51, 3) := by decide +kernel
theorem d_M_block_64 : decode b_M_block 64 = .ok (.iconst 1, 1) := by decide +kernel
theorem d_M_block_65 : decode b_M_block 65 = .ok (.iadd, 1) := by decide +kernel
theorem d_M_block_66 : decode b_M_block 66 = .ok (.putfield 51, 3) := by decide +kernel
theorem d_M_block_69 : decode b_M_block 69 = .ok (.aload_n 0, 1) := by decide +kernel
theorem d_M_block_70 : decode b_M_block 70 = .ok (.invokevirtual 69, 3) := by decide +kernel
theorem d_M_block_73 : decode b_M_block 73 = .ok (.aload_n 0, 1) := by decide +kernel
theorem d_M_block_74 : decode b_M_block 74 = .ok (.getfield 51, 3) := by decide +kernel
theorem d_M_block_77 : decode b_M_block 77 = .ok (.iconst 1, 1) := by decide +kernel
theorem d_M_block_78 : decode b_M_block 78 = .ok (.isub, 1) := by decide +kernel
theorem d_M_block_79 : decode b_M_block 79 = .ok (.ireturn, 1) := by decide +kernel
theorem d_M_pass_0 : decode b_M_pass 0 = .ok (.aload_n 0, 1) := by decide +kernel
theorem d_M_pass_1 : decode b_M_pass 1 = .ok (.iconst 0, 1) := by decide +kernel
theorem d_M_pass_2 : decode b_M_pass 2 = .ok (.putfield 48, 3) := by decide +kernel
theorem d_M_pass_5 : decode b_M_pass 5 = .ok (.aload_n 0, 1) := by decide +kernel
theorem d_M_pass_6 : decode b_M_pass 6 = .ok (.aload_n 0, 1) := by decide +kernel
theorem d_M_pass_7 : decode b_M_pass 7 = .ok (.iload_n 1, 1) := by decide +kernel
theorem d_M_pass_8 : decode b_M_pass 8 = .ok (.invokevirtual 54, 3) := by decide +kernel
theorem d_M_pass_11 : decode b_M_pass 11 = .ok (.ifCond .ne 7, 3) := by decide +kernel
theorem d_M_pass_14 : decode b_M_pass 14 = .ok (.iconst 1, 1) := by decide +kernel
theorem d_M_pass_15 : decode b_M_pass 15 = .ok (.goto 4, 3) := by decide +kernel
theorem d_M_pass_18 : decode b_M_pass 18 = .ok (.iconst 0, 1) := by decide +kernel
theorem d_M_pass_19 : decode b_M_pass 19 = .ok (.iconst 1, 1) := by decide +kernel
theorem d_M_pass_20 : decode b_M_pass 20 = .ok (.invokevirtual 65, 3) := by decide +kernel
theorem d_M_pass_23 : decode b_M_pass 23 = .ok (.pop, 1) := by decide +kernel
theorem d_M_pass_24 : decode b_M_pass 24 = .ok (.aload_n 0, 1) := by decide +kernel
theorem d_M_pass_25 : decode b_M_pass 25 = .ok (.iload_n 2, 1) := by decide +kernel
theorem d_M_pass_26 : decode b_M_pass 26 = .ok (.i2l, 1) := by decide +kernel
theorem d_M_pass_27 : decode b_M_pass 27 = .ok (.lconst 1, 1) := by decide +kernel
theorem d_M_pass_28 : decode b_M_pass 28 = .ok (.ldc2_w 72, 3) := by decide +kernel
theorem d_M_pass_31 : decode b_M_pass 31 = .ok (.invokestatic 74, 3) := by decide +kernel
theorem d_M_pass_34 : decode b_M_pass 34 = .ok (.ifCond .eq 17, 3) := by decide +kernel
theorem d_M_pass_37 : decode b_M_pass 37 = .ok (.iload_n 3, 1) := by decide +kernel
theorem d_M_pass_38 : decode b_M_pass 38 = .ok (.i2l, 1) := by decide +kernel
theorem d_M_pass_39 : decode b_M_pass 39 = .ok (.ldc2_w 78, 3) := by decide +kernel
theorem d_M_pass_42 : decode b_M_pass 42 = .ok (.ldc2_w 80, 3) := by decide +kernel
theorem d_M_pass_45 : decode b_M_pass 45 = .ok (.invokestatic 74, 3) := by decide +kernel
theorem d_M_pass_48 : decode b_M_pass 48 = .ok (.ifCond .ne 7, 3) := by decide +kernel
theorem d_M_pass_51 : decode b_M_pass 51 = .ok (.iconst 1, 1) := by decide +kernel
theorem d_M_pass_52 : decode b_M_pass 52 = .ok (.goto 4, 3) := by decide +kernel
theorem d_M_pass_55 : decode b_M_pass 55 = .ok (.iconst 0, 1) := by decide +kernel
theorem d_M_pass_56 : decode b_M_pass 56 = .ok (.iconst 2, 1) := by decide +kernel
theorem d_M_pass_57 : decode b_M_pass 57 = .ok (.invokevirtual 65, 3) := by decide +kernel
theorem d_M_pass_60 : decode b_M_pass 60 = .ok (.pop, 1) := by decide +kernel
theorem d_M_pass_61 : decode b_M_pass 61 = .ok (.aload_n 0, 1) := by decide +kernel
theorem d_M_pass_62 : decode b_M_pass 62 = .ok (.getfield 48, 3) := by decide +kernel
theorem d_M_pass_65 : decode b_M_pass 65 = .ok (.ifCond .gt 27, 3) := by decide +kernel
theorem d_M_pass_68 : decode b_M_pass 68 = .ok (.aload_n 0, 1) := by decide +kernel
theorem d_M_pass_69 : decode b_M_pass 69 = .ok (.aload_n 0, 1) := by decide +kernel
theorem d_M_pass_70 : decode b_M_pass 70 = .ok (.getfield 7, 3) := by decide +kernel
theorem d_M_pass_73 : decode b_M_pass 73 = .ok (.iload_n 1, 1) := by decide +kernel
theorem d_M_pass_74 : decode b_M_pass 74 = .ok (.iaload, 1) := by decide +kernel
theorem d_M_pass_75 : decode b_M_pass 75 = .ok (.bipush 24, 2) := by decide +kernel
theorem d_M_pass_77 : decode b_M_pass 77 = .ok (.if_icmp .ne 7, 3) := by decide +kernel
theorem d_M_pass_80 : decode b_M_pass 80 = .ok (.iconst 1, 1) := by decide +kernel
theorem d_M_pass_81 : decode b_M_pass 81 = .ok (.goto 4, 3) := by decide +kernel
theorem d_M_pass_84 : decode b_M_pass 84 = .ok (.iconst 0, 1) := by decide +kernel
theorem d_M_pass_85 : decode b_M_pass 85 = .ok (.iconst 3, 1) := by decide +kernel
theorem d_M_pass_86 : decode b_M_pass 86 = .ok (.invokevirtual 65, 3) := by decide +kernel
theorem d_M_pass_89 : decode b_M_pass 89 = .ok (.ifCond .eq 5, 3) := by decide +kernel
theorem d_M_pass_92 : decode b_M_pass 92 = .ok (.iconst 0, 1) := by decide +kernel
theorem d_M_pass_93 : decode b_M_pass 93 = .ok (.ireturn, 1) := by decide +kernel
theorem d_M_pass_94 : decode b_M_pass 94 = .ok (.bipush 24, 2) := by decide +kernel
theorem d_M_pass_96 : decode b_M_pass 96 = .ok (.iload_n 1, 1) := by decide +kernel
theorem d_M_pass_97 : decode b_M_pass 97 = .ok (.imul, 1) := by decide +kernel
theorem d_M_pass_98 : decode b_M_pass 98 = .ok (.aload_n 0, 1) := by decide +kernel
theorem d_M_pass_99 : decode b_M_pass 99 = .ok (.getfield 7, 3) := by decide +kernel
theorem d_M_pass_102 : decode b_M_pass 102 = .ok (.iload_n 1, 1) := by decide +kernel
theorem d_M_pass_103 : decode b_M_pass 103 = .ok (.iaload, 1) := by decide +kernel
theorem d_M_pass_104 : decode b_M_pass 104 = .ok (.iadd, 1) := by decide +kernel
theorem d_M_pass_105 : decode b_M_pass 105 = .ok (.istore 4, 2) := by decide +kernel
theorem d_M_pass_107 : decode b_M_pass 107 = .ok (.aload_n 0, 1) := by decide +kernel
theorem d_M_pass_108 : decode b_M_pass 108 = .ok (.getfield 19, 3) := by decide +kernel
theorem d_M_pass_111 : decode b_M_pass 111 = .ok (.iload 4, 2) := by decide +kernel
theorem d_M_pass_113 : decode b_M_pass 113 = .ok (.iload_n 2, 1) := by decide +kernel
theorem d_M_pass_114 : decode b_M_pass 114 = .ok (.aload_n 0, 1) := by decide +kernel
theorem d_M_pass_115 : decode b_M_pass 115 = .ok (.getfield 7, 3) := by decide +kernel
theorem d_M_pass_118 : decode b_M_pass 118 = .ok (.iload_n 1, 1) := by decide +kernel
theorem d_M_pass_119 : decode b_M_pass 119 = .ok (.iaload, 1) := by decide +kernel
theorem d_M_pass_120 : decode b_M_pass 120 = .ok (.ifCond .le 15, 3) := by decide +kernel
theorem d_M_pass_123 : decode b_M_pass 123 = .ok (.aload_n 0, 1) := by decide +kernel
theorem d_M_pass_124 : decode b_M_pass 124 = .ok (.getfield 19, 3) := by decide +kernel
theorem d_M_pass_127 : decode b_M_pass 127 = .ok (.iload 4, 2) := by decide +kernel
theorem d_M_pass_129 : decode b_M_pass 129 = .ok (.iconst 1, 1) := by decide +kernel
theorem d_M_pass_130 : decode b_M_pass 130 = .ok (.isub, 1) := by decide +kernel
theorem d_M_pass_131 : decode b_M_pass 131 = .ok (.iaload, 1) := by decide +kernel
theorem d_M_pass_132 : decode b_M_pass 132 = .ok (.goto 4, 3) := by decide +kernel
theorem d_M_pass_135 : decode b_M_pass 135 = .ok (.iconst 0, 1) := by decide +kernel
theorem d_M_pass_136 : decode b_M_pass 136 = .ok (.iadd, 1) := by decide +kernel
theorem d_M_pass_137 : decode b_M_pass 137 = .ok (.iastore, 1) := by decide +kernel
theorem d_M_pass_138 : decode b_M_pass 138 = .ok (.aload_n 0, 1) := by decide +kernel
theorem d_M_pass_139 : decode b_M_pass 139 = .ok (.getfield 22, 3) := by decide +kernel
theorem d_M_pass_142 : decode b_M_pass 142 = .ok (.iload 4, 2) := by decide +kernel
theorem d_M_pass_144 : decode b_M_pass 144 = .ok (.iload_n 3, 1) := by decide +kernel
theorem d_M_pass_145 : decode b_M_pass 145 = .ok (.i2l, 1) := by decide +kernel
theorem d_M_pass_146 : decode b_M_pass 146 = .ok (.aload_n 0, 1) := by decide +kernel
theorem d_M_pass_147 : decode b_M_pass 147 = .ok (.getfield 7, 3) := by decide +kernel
theorem d_M_pass_150 : decode b_M_pass 150 = .ok (.iload_n 1, 1) := by decide +kernel
theorem d_M_pass_151 : decode b_M_pass 151 = .ok (.iaload, 1) := by decide +kernel
theorem d_M_pass_152 : decode b_M_pass 152 = .ok (.ifCond .le 15, 3) := by decide +kernel
theorem d_M_pass_155 : decode b_M_pass 155 = .ok (.aload_n 0, 1) := by decide +kernel
theorem d_M_pass_156 : decode b_M_pass 156 = .ok (.getfield 22, 3) := by decide +kernel
theorem d_M_pass_159 : decode b_M_pass 159 = .ok (.iload 4, 2) := by decide +kernel
theorem d_M_pass_161 : decode b_M_pass 161 = .ok (.iconst 1, 1) := by decide +kernel
theorem d_M_pass_162 : decode b_M_pass 162 = .ok (.isub, 1) := by decide +kernel
theorem d_M_pass_163 : decode b_M_pass 163 = .ok (.laload, 1) := by decide +kernel
theorem d_M_pass_164 : decode b_M_pass 164 = .ok (.goto 4, 3) := by decide +kernel
theorem d_M_pass_167 : decode b_M_pass 167 = .ok (.lconst 0, 1) := by decide +kernel
theorem d_M_pass_168 : decode b_M_pass 168 = .ok (.ladd, 1) := by decide +kernel
theorem d_M_pass_169 : decode b_M_pass 169 = .ok (.lastore, 1) := by decide +kernel
theorem d_M_pass_170 : decode b_M_pass 170 = .ok (.aload_n 0, 1) := by decide +kernel
theorem d_M_pass_171 : decode b_M_pass 171 = .ok (.getfield 7, 3) := by decide +kernel
theorem d_M_pass_174 : decode b_M_pass 174 = .ok (.iload_n 1, 1) := by decide +kernel
theorem d_M_pass_175 : decode b_M_pass 175 = .ok (.dup2, 1) := by decide +kernel
theorem d_M_pass_176 : decode b_M_pass 176 = .ok (.iaload, 1) := by decide +kernel
theorem d_M_pass_177 : decode b_M_pass 177 = .ok (.iconst 1, 1) := by decide +kernel
theorem d_M_pass_178 : decode b_M_pass 178 = .ok (.iadd, 1) := by decide +kernel
theorem d_M_pass_179 : decode b_M_pass 179 = .ok (.iastore, 1) := by decide +kernel
theorem d_M_pass_180 : decode b_M_pass 180 = .ok (.aload_n 0, 1) := by decide +kernel
theorem d_M_pass_181 : decode b_M_pass 181 = .ok (.invokevirtual 69, 3) := by decide +kernel
theorem d_M_pass_184 : decode b_M_pass 184 = .ok (.aload_n 0, 1) := by decide +kernel
theorem d_M_pass_185 : decode b_M_pass 185 = .ok (.getfield 7, 3) := by decide +kernel
theorem d_M_pass_188 : decode b_M_pass 188 = .ok (.iload_n 1, 1) := by decide +kernel
theorem d_M_pass_189 : decode b_M_pass 189 = .ok (.iaload, 1) := by decide +kernel
theorem d_M_pass_190 : decode b_M_pass 190 = .ok (.iconst 1, 1) := by decide +kernel
theorem d_M_pass_191 : decode b_M_pass 191 = .ok (.isub, 1) := by decide +kernel
theorem d_M_pass_192 : decode b_M_pass 192 = .ok (.ireturn, 1) := by decide +kernel
theorem d_M_weight_0 : decode b_M_weight 0 = .ok (.aload_n 0, 1) := by decide +kernel
theorem d_M_weight_1 : decode b_M_weight 1 = .ok (.iconst 0, 1) := by decide +kernel
theorem d_M_weight_2 : decode b_M_weight 2 = .ok (.putfield 48, 3) := by decide +kernel
theorem d_M_weight_5 : decode b_M_weight 5 = .ok (.aload_n 0, 1) := by decide +kernel
theorem d_M_weight_6 : decode b_M_weight 6 = .ok (.aload_n 0, 1) := by decide +kernel
theorem d_M_weight_7 : decode b_M_weight 7 = .ok (.iload_n 1, 1) := by decide +kernel
theorem d_M_weight_8 : decode b_M_weight 8 = .ok (.invokevirtual 54, 3) := by decide +kernel
theorem d_M_weight_11 : decode b_M_weight 11 = .ok (.ifCond .ne 7, 3) := by decide +kernel
theorem d_M_weight_14 : decode b_M_weight 14 = .ok (.iconst 1, 1) := by decide +kernel
theorem d_M_weight_15 : decode b_M_weight 15 = .ok (.goto 4, 3) := by decide +kernel
theorem d_M_weight_18 : decode b_M_weight 18 = .ok (.iconst 0, 1) := by decide +kernel
theorem d_M_weight_19 : decode b_M_weight 19 = .ok (.iconst 1, 1) := by decide +kernel
theorem d_M_weight_20 : decode b_M_weight 20 = .ok (.invokevirtual 65, 3) := by decide +kernel
theorem d_M_weight_23 : decode b_M_weight 23 = .ok (.ifCond .ne 28, 3) := by decide +kernel
theorem d_M_weight_26 : decode b_M_weight 26 = .ok (.aload_n 0, 1) := by decide +kernel
theorem d_M_weight_27 : decode b_M_weight 27 = .ok (.iload_n 2, 1) := by decide +kernel
theorem d_M_weight_28 : decode b_M_weight 28 = .ok (.i2l, 1) := by decide +kernel
theorem d_M_weight_29 : decode b_M_weight 29 = .ok (.lconst 1, 1) := by decide +kernel
theorem d_M_weight_30 : decode b_M_weight 30 = .ok (.ldc2_w 82, 3) := by decide +kernel
theorem d_M_weight_33 : decode b_M_weight 33 = .ok (.invokestatic 74, 3) := by decide +kernel
theorem d_M_weight_36 : decode b_M_weight 36 = .ok (.ifCond .ne 7, 3) := by decide +kernel
theorem d_M_weight_39 : decode b_M_weight 39 = .ok (.iconst 1, 1) := by decide +kernel
theorem d_M_weight_40 : decode b_M_weight 40 = .ok (.goto 4, 3) := by decide +kernel
theorem d_M_weight_43 : decode b_M_weight 43 = .ok (.iconst 0, 1) := by decide +kernel
theorem d_M_weight_44 : decode b_M_weight 44 = .ok (.iconst 2, 1) := by decide +kernel
theorem d_M_weight_45 : decode b_M_weight 45 = .ok (.invokevirtual 65, 3) := by decide +kernel
theorem d_M_weight_48 : decode b_M_weight 48 = .ok (.ifCond .eq 5, 3) := by decide +kernel
theorem d_M_weight_51 : decode b_M_weight 51 = .ok (.iconst 0, 1) := by decide +kernel
theorem d_M_weight_52 : decode b_M_weight 52 = .ok (.ireturn, 1) := by decide +kernel
theorem d_M_weight_53 : decode b_M_weight 53 = .ok (.aload_n 0, 1) := by decide +kernel
theorem d_M_weight_54 : decode b_M_weight 54 = .ok (.getfield 13, 3) := by decide +kernel
theorem d_M_weight_57 : decode b_M_weight 57 = .ok (.iload_n 1, 1) := by decide +kernel
theorem d_M_weight_58 : decode b_M_weight 58 = .ok (.iaload, 1) := by decide +kernel
theorem d_M_weight_59 : decode b_M_weight 59 = .ok (.istore_n 3, 1) := by decide +kernel
theorem d_M_weight_60 : decode b_M_weight 60 = .ok (.aload_n 0, 1) := by decide +kernel
theorem d_M_weight_61 : decode b_M_weight 61 = .ok (.getfield 13, 3) := by decide +kernel
theorem d_M_weight_64 : decode b_M_weight 64 = .ok (.iload_n 1, 1) := by decide +kernel
theorem d_M_weight_65 : decode b_M_weight 65 = .ok (.iload_n 2, 1) := by decide +kernel
theorem d_M_weight_66 : decode b_M_weight 66 = .ok (.iastore, 1) := by decide +kernel
theorem d_M_weight_67 : decode b_M_weight 67 = .ok (.aload_n 0, 1) := by decide +kernel
theorem d_M_weight_68 : decode b_M_weight 68 = .ok (.invokevirtual 69, 3) := by decide +kernel
theorem d_M_weight_71 : decode b_M_weight 71 = .ok (.iload_n 3, 1) := by decide +kernel
theorem d_M_weight_72 : decode b_M_weight 72 = .ok (.ireturn, 1) := by decide +kernel
theorem d_M_shift_0 : decode b_M_shift 0 = .ok (.aload_n 0, 1) := by decide +kernel
theorem d_M_shift_1 : decode b_M_shift 1 = .ok (.iconst 0, 1) := by decide +kernel
theorem d_M_shift_2 : decode b_M_shift 2 = .ok (.putfield 48, 3) := by decide +kernel
theorem d_M_shift_5 : decode b_M_shift 5 = .ok (.aload_n 0, 1) := by decide +kernel
theorem d_M_shift_6 : decode b_M_shift 6 = .ok (.aload_n 0, 1) := by decide +kernel
theorem d_M_shift_7 : decode b_M_shift 7 = .ok (.iload_n 1, 1) := by decide +kernel
theorem d_M_shift_8 : decode b_M_shift 8 = .ok (.invokevirtual 54, 3) := by decide +kernel
theorem d_M_shift_11 : decode b_M_shift 11 = .ok (.ifCond .ne 7, 3) := by decide +kernel
theorem d_M_shift_14 : decode b_M_shift 14 = .ok (.iconst 1, 1) := by decide +kernel
theorem d_M_shift_15 : decode b_M_shift 15 = .ok (.goto 4, 3) := by decide +kernel
theorem d_M_shift_18 : decode b_M_shift 18 = .ok (.iconst 0, 1) := by decide +kernel
theorem d_M_shift_19 : decode b_M_shift 19 = .ok (.iconst 1, 1) := by decide +kernel
theorem d_M_shift_20 : decode b_M_shift 20 = .ok (.invokevirtual 65, 3) := by decide +kernel
theorem d_M_shift_23 : decode b_M_shift 23 = .ok (.ifCond .ne 28, 3) := by decide +kernel
theorem d_M_shift_26 : decode b_M_shift 26 = .ok (.aload_n 0, 1) := by decide +kernel
theorem d_M_shift_27 : decode b_M_shift 27 = .ok (.iload_n 2, 1) := by decide +kernel
theorem d_M_shift_28 : decode b_M_shift 28 = .ok (.i2l, 1) := by decide +kernel
theorem d_M_shift_29 : decode b_M_shift 29 = .ok (.lconst 0, 1) := by decide +kernel
theorem d_M_shift_30 : decode b_M_shift 30 = .ok (.ldc2_w 84, 3) := by decide +kernel
theorem d_M_shift_33 : decode b_M_shift 33 = .ok (.invokestatic 74, 3) := by decide +kernel
theorem d_M_shift_36 : decode b_M_shift 36 = .ok (.ifCond .ne 7, 3) := by decide +kernel
theorem d_M_shift_39 : decode b_M_shift 39 = .ok (.iconst 1, 1) := by decide +kernel
theorem d_M_shift_40 : decode b_M_shift 40 = .ok (.goto 4, 3) := by decide +kernel
theorem d_M_shift_43 : decode b_M_shift 43 = .ok (.iconst 0, 1) := by decide +kernel
theorem d_M_shift_44 : decode b_M_shift 44 = .ok (.iconst 2, 1) := by decide +kernel
theorem d_M_shift_45 : decode b_M_shift 45 = .ok (.invokevirtual 65, 3) := by decide +kernel
theorem d_M_shift_48 : decode b_M_shift 48 = .ok (.ifCond .eq 5, 3) := by decide +kernel
theorem d_M_shift_51 : decode b_M_shift 51 = .ok (.iconst 0, 1) := by decide +kernel
theorem d_M_shift_52 : decode b_M_shift 52 = .ok (.ireturn, 1) := by decide +kernel
theorem d_M_shift_53 : decode b_M_shift 53 = .ok (.aload_n 0, 1) := by decide +kernel
theorem d_M_shift_54 : decode b_M_shift 54 = .ok (.getfield 16, 3) := by decide +kernel
theorem d_M_shift_57 : decode b_M_shift 57 = .ok (.iload_n 1, 1) := by decide +kernel
theorem d_M_shift_58 : decode b_M_shift 58 = .ok (.iaload, 1) := by decide +kernel
theorem d_M_shift_59 : decode b_M_shift 59 = .ok (.istore_n 3, 1) := by decide +kernel
theorem d_M_shift_60 : decode b_M_shift 60 = .ok (.aload_n 0, 1) := by decide +kernel
theorem d_M_shift_61 : decode b_M_shift 61 = .ok (.getfield 16, 3) := by decide +kernel
theorem d_M_shift_64 : decode b_M_shift 64 = .ok (.iload_n 1, 1) := by decide +kernel
theorem d_M_shift_65 : decode b_M_shift 65 = .ok (.iload_n 2, 1) := by decide +kernel
theorem d_M_shift_66 : decode b_M_shift 66 = .ok (.iastore, 1) := by decide +kernel
theorem d_M_shift_67 : decode b_M_shift 67 = .ok (.aload_n 0, 1) := by decide +kernel
theorem d_M_shift_68 : decode b_M_shift 68 = .ok (.invokevirtual 69, 3) := by decide +kernel
theorem d_M_shift_71 : decode b_M_shift 71 = .ok (.iload_n 3, 1) := by decide +kernel
theorem d_M_shift_72 : decode b_M_shift 72 = .ok (.ireturn, 1) := by decide +kernel
theorem d_M_size_0 : decode b_M_size 0 = .ok (.aload_n 0, 1) := by decide +kernel
theorem d_M_size_1 : decode b_M_size 1 = .ok (.iconst 0, 1) := by decide +kernel
theorem d_M_size_2 : decode b_M_size 2 = .ok (.putfield 48, 3) := by decide +kernel
theorem d_M_size_5 : decode b_M_size 5 = .ok (.aload_n 0, 1) := by decide +kernel
theorem d_M_size_6 : decode b_M_size 6 = .ok (.aload_n 0, 1) := by decide +kernel
theorem d_M_size_7 : decode b_M_size 7 = .ok (.iload_n 1, 1) := by decide +kernel
theorem d_M_size_8 : decode b_M_size 8 = .ok (.invokevirtual 86, 3) := by decide +kernel
theorem d_M_size_11 : decode b_M_size 11 = .ok (.ifCond .ne 7, 3) := by decide +kernel
theorem d_M_size_14 : decode b_M_size 14 = .ok (.iconst 1, 1) := by decide +kernel
theorem d_M_size_15 : decode b_M_size 15 = .ok (.goto 4, 3) := by decide +kernel
theorem d_M_size_18 : decode b_M_size 18 = .ok (.iconst 0, 1) := by decide +kernel
theorem d_M_size_19 : decode b_M_size 19 = .ok (.iconst 1, 1) := by decide +kernel
theorem d_M_size_20 : decode b_M_size 20 = .ok (.invokevirtual 65, 3) := by decide +kernel
theorem d_M_size_23 : decode b_M_size 23 = .ok (.ifCond .ne 28, 3) := by decide +kernel
theorem d_M_size_26 : decode b_M_size 26 = .ok (.aload_n 0, 1) := by decide +kernel
theorem d_M_size_27 : decode b_M_size 27 = .ok (.iload_n 2, 1) := by decide +kernel
theorem d_M_size_28 : decode b_M_size 28 = .ok (.i2l, 1) := by decide +kernel
theorem d_M_size_29 : decode b_M_size 29 = .ok (.lconst 0, 1) := by decide +kernel
theorem d_M_size_30 : decode b_M_size 30 = .ok (.ldc2_w 89, 3) := by decide +kernel
theorem d_M_size_33 : decode b_M_size 33 = .ok (.invokestatic 74, 3) := by decide +kernel
theorem d_M_size_36 : decode b_M_size 36 = .ok (.ifCond .ne 7, 3) := by decide +kernel
theorem d_M_size_39 : decode b_M_size 39 = .ok (.iconst 1, 1) := by decide +kernel
theorem d_M_size_40 : decode b_M_size 40 = .ok (.goto 4, 3) := by decide +kernel
theorem d_M_size_43 : decode b_M_size 43 = .ok (.iconst 0, 1) := by decide +kernel
theorem d_M_size_44 : decode b_M_size 44 = .ok (.iconst 2, 1) := by decide +kernel
theorem d_M_size_45 : decode b_M_size 45 = .ok (.invokevirtual 65, 3) := by decide +kernel
theorem d_M_size_48 : decode b_M_size 48 = .ok (.ifCond .eq 5, 3) := by decide +kernel
theorem d_M_size_51 : decode b_M_size 51 = .ok (.iconst 0, 1) := by decide +kernel
theorem d_M_size_52 : decode b_M_size 52 = .ok (.ireturn, 1) := by decide +kernel
theorem d_M_size_53 : decode b_M_size 53 = .ok (.aload_n 0, 1) := by decide +kernel
theorem d_M_size_54 : decode b_M_size 54 = .ok (.getfield 26, 3) := by decide +kernel
theorem d_M_size_57 : decode b_M_size 57 = .ok (.iload_n 1, 1) := by decide +kernel
theorem d_M_size_58 : decode b_M_size 58 = .ok (.iaload, 1) := by decide +kernel
theorem d_M_size_59 : decode b_M_size 59 = .ok (.istore_n 3, 1) := by decide +kernel
theorem d_M_size_60 : decode b_M_size 60 = .ok (.aload_n 0, 1) := by decide +kernel
theorem d_M_size_61 : decode b_M_size 61 = .ok (.getfield 26, 3) := by decide +kernel
theorem d_M_size_64 : decode b_M_size 64 = .ok (.iload_n 1, 1) := by decide +kernel
theorem d_M_size_65 : decode b_M_size 65 = .ok (.iload_n 2, 1) := by decide +kernel
theorem d_M_size_66 : decode b_M_size 66 = .ok (.iastore, 1) := by decide +kernel
theorem d_M_size_67 : decode b_M_size 67 = .ok (.aload_n 0, 1) := by decide +kernel
theorem d_M_size_68 : decode b_M_size 68 = .ok (.invokevirtual 69, 3) := by decide +kernel
theorem d_M_size_71 : decode b_M_size 71 = .ok (.iload_n 3, 1) := by decide +kernel
theorem d_M_size_72 : decode b_M_size 72 = .ok (.ireturn, 1) := by decide +kernel
theorem d_M_head_0 : decode b_M_head 0 = .ok (.aload_n 0, 1) := by decide +kernel
theorem d_M_head_1 : decode b_M_head 1 = .ok (.iconst 0, 1) := by decide +kernel
theorem d_M_head_2 : decode b_M_head 2 = .ok (.putfield 48, 3) := by decide +kernel
theorem d_M_head_5 : decode b_M_head 5 = .ok (.aload_n 0, 1) := by decide +kernel
theorem d_M_head_6 : decode b_M_head 6 = .ok (.aload_n 0, 1) := by decide +kernel
theorem d_M_head_7 : decode b_M_head 7 = .ok (.iload_n 1, 1) := by decide +kernel
theorem d_M_head_8 : decode b_M_head 8 = .ok (.invokevirtual 86, 3) := by decide +kernel
theorem d_M_head_11 : decode b_M_head 11 = .ok (.ifCond .ne 7, 3) := by decide +kernel
theorem d_M_head_14 : decode b_M_head 14 = .ok (.iconst 1, 1) := by decide +kernel
theorem d_M_head_15 : decode b_M_head 15 = .ok (.goto 4, 3) := by decide +kernel
theorem d_M_head_18 : decode b_M_head 18 = .ok (.iconst 0, 1) := by decide +kernel
theorem d_M_head_19 : decode b_M_head 19 = .ok (.iconst 1, 1) := by decide +kernel
theorem d_M_head_20 : decode b_M_head 20 = .ok (.invokevirtual 65, 3) := by decide +kernel
theorem d_M_head_23 : decode b_M_head 23 = .ok (.ifCond .ne 28, 3) := by decide +kernel
theorem d_M_head_26 : decode b_M_head 26 = .ok (.aload_n 0, 1) := by decide +kernel
theorem d_M_head_27 : decode b_M_head 27 = .ok (.iload_n 2, 1) := by decide +kernel
theorem d_M_head_28 : decode b_M_head 28 = .ok (.i2l, 1) := by decide +kernel
theorem d_M_head_29 : decode b_M_head 29 = .ok (.lconst 0, 1) := by decide +kernel
theorem d_M_head_30 : decode b_M_head 30 = .ok (.ldc2_w 89, 3) := by decide +kernel
theorem d_M_head_33 : decode b_M_head 33 = .ok (.invokestatic 74, 3) := by decide +kernel
theorem d_M_head_36 : decode b_M_head 36 = .ok (.ifCond .ne 7, 3) := by decide +kernel
theorem d_M_head_39 : decode b_M_head 39 = .ok (.iconst 1, 1) := by decide +kernel
theorem d_M_head_40 : decode b_M_head 40 = .ok (.goto 4, 3) := by decide +kernel
theorem d_M_head_43 : decode b_M_head 43 = .ok (.iconst 0, 1) := by decide +kernel
theorem d_M_head_44 : decode b_M_head 44 = .ok (.iconst 2, 1) := by decide +kernel
theorem d_M_head_45 : decode b_M_head 45 = .ok (.invokevirtual 65, 3) := by decide +kernel
theorem d_M_head_48 : decode b_M_head 48 = .ok (.ifCond .eq 5, 3) := by decide +kernel
theorem d_M_head_51 : decode b_M_head 51 = .ok (.iconst 0, 1) := by decide +kernel
theorem d_M_head_52 : decode b_M_head 52 = .ok (.ireturn, 1) := by decide +kernel
theorem d_M_head_53 : decode b_M_head 53 = .ok (.aload_n 0, 1) := by decide +kernel
theorem d_M_head_54 : decode b_M_head 54 = .ok (.getfield 29, 3) := by decide +kernel
theorem d_M_head_57 : decode b_M_head 57 = .ok (.iload_n 1, 1) := by decide +kernel
theorem d_M_head_58 : decode b_M_head 58 = .ok (.iaload, 1) := by decide +kernel
theorem d_M_head_59 : decode b_M_head 59 = .ok (.istore_n 3, 1) := by decide +kernel
theorem d_M_head_60 : decode b_M_head 60 = .ok (.aload_n 0, 1) := by decide +kernel
theorem d_M_head_61 : decode b_M_head 61 = .ok (.getfield 29, 3) := by decide +kernel
theorem d_M_head_64 : decode b_M_head 64 = .ok (.iload_n 1, 1) := by decide +kernel
theorem d_M_head_65 : decode b_M_head 65 = .ok (.iload_n 2, 1) := by decide +kernel
theorem d_M_head_66 : decode b_M_head 66 = .ok (.iastore, 1) := by decide +kernel
theorem d_M_head_67 : decode b_M_head 67 = .ok (.aload_n 0, 1) := by decide +kernel
theorem d_M_head_68 : decode b_M_head 68 = .ok (.invokevirtual 69, 3) := by decide +kernel
theorem d_M_head_71 : decode b_M_head 71 = .ok (.iload_n 3, 1) := by decide +kernel
theorem d_M_head_72 : decode b_M_head 72 = .ok (.ireturn, 1) := by decide +kernel
theorem d_M_g_0 : decode b_M_g 0 = .ok (.iload_n 2, 1) := by decide +kernel
theorem d_M_g_1 : decode b_M_g 1 = .ok (.ifCond .ge 7, 3) := by decide +kernel
theorem d_M_g_4 : decode b_M_g 4 = .ok (.lconst 0, 1) := by decide +kernel
theorem d_M_g_5 : decode b_M_g 5 = .ok (.goto 22, 3) := by decide +kernel
theorem d_M_g_8 : decode b_M_g 8 = .ok (.aload_n 0, 1) := by decide +kernel
theorem d_M_g_9 : decode b_M_g 9 = .ok (.getfield 22, 3) := by decide +kernel
theorem d_M_g_12 : decode b_M_g 12 = .ok (.bipush 24, 2) := by decide +kernel
theorem d_M_g_14 : decode b_M_g 14 = .ok (.iload_n 1, 1) := by decide +kernel
theorem d_M_g_15 : decode b_M_g 15 = .ok (.imul, 1) := by decide +kernel
theorem d_M_g_16 : decode b_M_g 16 = .ok (.iload_n 2, 1) := by decide +kernel
theorem d_M_g_17 : decode b_M_g 17 = .ok (.iadd, 1) := by decide +kernel
theorem d_M_g_18 : decode b_M_g 18 = .ok (.laload, 1) := by decide +kernel
theorem d_M_g_19 : decode b_M_g 19 = .ok (.aload_n 0, 1) := by decide +kernel
theorem d_M_g_20 : decode b_M_g 20 = .ok (.getfield 13, 3) := by decide +kernel
theorem d_M_g_23 : decode b_M_g 23 = .ok (.iload_n 1, 1) := by decide +kernel
theorem d_M_g_24 : decode b_M_g 24 = .ok (.iaload, 1) := by decide +kernel
theorem d_M_g_25 : decode b_M_g 25 = .ok (.i2l, 1) := by decide +kernel
theorem d_M_g_26 : decode b_M_g 26 = .ok (.lmul, 1) := by decide +kernel
theorem d_M_g_27 : decode b_M_g 27 = .ok (.lstore_n 3, 1) := by decide +kernel
theorem d_M_g_28 : decode b_M_g 28 = .ok (.iconst 0, 1) := by decide +kernel
theorem d_M_g_29 : decode b_M_g 29 = .ok (.istore 5, 2) := by decide +kernel
theorem d_M_g_31 : decode b_M_g 31 = .ok (.iload 5, 2) := by decide +kernel
theorem d_M_g_33 : decode b_M_g 33 = .ok (.aload_n 0, 1) := by decide +kernel
theorem d_M_g_34 : decode b_M_g 34 = .ok (.getfield 16, 3) := by decide +kernel
theorem d_M_g_37 : decode b_M_g 37 = .ok (.iload_n 1, 1) := by decide +kernel
theorem d_M_g_38 : decode b_M_g 38 = .ok (.iaload, 1) := by decide +kernel
theorem d_M_g_39 : decode b_M_g 39 = .ok (.if_icmp .ge 15, 3) := by decide +kernel
theorem d_M_g_42 : decode b_M_g 42 = .ok (.lload_n 3, 1) := by decide +kernel
theorem d_M_g_43 : decode b_M_g 43 = .ok (.ldc2_w 91, 3) := by decide +kernel
theorem d_M_g_46 : decode b_M_g 46 = .ok (.lmul, 1) := by decide +kernel
theorem d_M_g_47 : decode b_M_g 47 = .ok (.lstore_n 3, 1) := by decide +kernel
theorem d_M_g_48 : decode b_M_g 48 = .ok (.iinc 5 1, 3) := by decide +kernel
theorem d_M_g_51 : decode b_M_g 51 = .ok (.goto (-20), 3) := by decide +kernel
theorem d_M_g_54 : decode b_M_g 54 = .ok (.lload_n 3, 1) := by decide +kernel
theorem d_M_g_55 : decode b_M_g 55 = .ok (.lreturn, 1) := by decide +kernel
theorem d_M_l_0 : decode b_M_l 0 = .ok (.iload_n 2, 1) := by decide +kernel
theorem d_M_l_1 : decode b_M_l 1 = .ok (.ifCond .ge 7, 3) := by decide +kernel
theorem d_M_l_4 : decode b_M_l 4 = .ok (.iconst 0, 1) := by decide +kernel
theorem d_M_l_5 : decode b_M_l 5 = .ok (.goto 14, 3) := by decide +kernel
theorem d_M_l_8 : decode b_M_l 8 = .ok (.aload_n 0, 1) := by decide +kernel
theorem d_M_l_9 : decode b_M_l 9 = .ok (.getfield 19, 3) := by decide +kernel
theorem d_M_l_12 : decode b_M_l 12 = .ok (.bipush 24, 2) := by decide +kernel
theorem d_M_l_14 : decode b_M_l 14 = .ok (.iload_n 1, 1) := by decide +kernel
theorem d_M_l_15 : decode b_M_l 15 = .ok (.imul, 1) := by decide +kernel
theorem d_M_l_16 : decode b_M_l 16 = .ok (.iload_n 2, 1) := by decide +kernel
theorem d_M_l_17 : decode b_M_l 17 = .ok (.iadd, 1) := by decide +kernel
theorem d_M_l_18 : decode b_M_l 18 = .ok (.iaload, 1) := by decide +kernel
theorem d_M_l_19 : decode b_M_l 19 = .ok (.ireturn, 1) := by decide +kernel
theorem d_M_isHull_0 : decode b_M_isHull 0 = .ok (.iconst 1, 1) := by decide +kernel
theorem d_M_isHull_1 : decode b_M_isHull 1 = .ok (.istore_n 3, 1) := by decide +kernel
theorem d_M_isHull_2 : decode b_M_isHull 2 = .ok (.iconst (-1), 1) := by decide +kernel
theorem d_M_isHull_3 : decode b_M_isHull 3 = .ok (.istore 4, 2) := by decide +kernel
theorem d_M_isHull_5 : decode b_M_isHull 5 = .ok (.iload 4, 2) := by decide +kernel
theorem d_M_isHull_7 : decode b_M_isHull 7 = .ok (.iload_n 2, 1) := by decide +kernel
theorem d_M_isHull_8 : decode b_M_isHull 8 = .ok (.if_icmp .ge 138, 3) := by decide +kernel
theorem d_M_isHull_11 : decode b_M_isHull 11 = .ok (.iload_n 3, 1) := by decide +kernel
theorem d_M_isHull_12 : decode b_M_isHull 12 = .ok (.ifCond .eq 134, 3) := by decide +kernel
theorem d_M_isHull_15 : decode b_M_isHull 15 = .ok (.aload_n 0, 1) := by decide +kernel
theorem d_M_isHull_16 : decode b_M_isHull 16 = .ok (.iload_n 1, 1) := by decide +kernel
theorem d_M_isHull_17 : decode b_M_isHull 17 = .ok (.iload_n 2, 1) := by decide +kernel
theorem d_M_isHull_18 : decode b_M_isHull 18 = .ok (.invokevirtual 93, 3) := by decide +kernel
theorem d_M_isHull_21 : decode b_M_isHull 21 = .ok (.aload_n 0, 1) := by decide +kernel
theorem d_M_isHull_22 : decode b_M_isHull 22 = .ok (.iload_n 1, 1) := by decide +kernel
theorem d_M_isHull_23 : decode b_M_isHull 23 = .ok (.iload 4, 2) := by decide +kernel
theorem d_M_isHull_25 : decode b_M_isHull 25 = .ok (.invokevirtual 93, 3) := by decide +kernel
theorem d_M_isHull_28 : decode b_M_isHull 28 = .ok (.lsub, 1) := by decide +kernel
theorem d_M_isHull_29 : decode b_M_isHull 29 = .ok (.lstore 5, 2) := by decide +kernel
theorem d_M_isHull_31 : decode b_M_isHull 31 = .ok (.aload_n 0, 1) := by decide +kernel
theorem d_M_isHull_32 : decode b_M_isHull 32 = .ok (.iload_n 1, 1) := by decide +kernel
theorem d_M_isHull_33 : decode b_M_isHull 33 = .ok (.iload_n 2, 1) := by decide +kernel
theorem d_M_isHull_34 : decode b_M_isHull 34 = .ok (.invokevirtual 97, 3) := by decide +kernel
theorem d_M_isHull_37 : decode b_M_isHull 37 = .ok (.aload_n 0, 1) := by decide +kernel
theorem d_M_isHull_38 : decode b_M_isHull 38 = .ok (.iload_n 1, 1) := by decide +kernel
theorem d_M_isHull_39 : decode b_M_isHull 39 = .ok (.iload 4, 2) := by decide +kernel
theorem d_M_isHull_41 : decode b_M_isHull 41 = .ok (.invokevirtual 97, 3) := by decide +kernel
theorem d_M_isHull_44 : decode b_M_isHull 44 = .ok (.isub, 1) := by decide +kernel
theorem d_M_isHull_45 : decode b_M_isHull 45 = .ok (.istore 7, 2) := by decide +kernel
theorem d_M_isHull_47 : decode b_M_isHull 47 = .ok (.lload 5, 2) := by decide +kernel
theorem d_M_isHull_49 : decode b_M_isHull 49 = .ok (.lconst 0, 1) := by decide +kernel
theorem d_M_isHull_50 : decode b_M_isHull 50 = .ok (.lcmp, 1) := by decide +kernel
theorem d_M_isHull_51 : decode b_M_isHull 51 = .ok (.ifCond .le 7, 3) := by decide +kernel
theorem d_M_isHull_54 : decode b_M_isHull 54 = .ok (.iconst 1, 1) := by decide +kernel
theorem d_M_isHull_55 : decode b_M_isHull 55 = .ok (.goto 4, 3) := by decide +kernel
theorem d_M_isHull_58 : decode b_M_isHull 58 = .ok (.iconst 0, 1) := by decide +kernel
theorem d_M_isHull_59 : decode b_M_isHull 59 = .ok (.istore_n 3, 1) := by decide +kernel
theorem d_M_isHull_60 : decode b_M_isHull 60 = .ok (.iload_n 2, 1) := by decide +kernel
theorem d_M_isHull_61 : decode b_M_isHull 61 = .ok (.iconst 1, 1) := by decide +kernel
theorem d_M_isHull_62 : decode b_M_isHull 62 = .ok (.iadd, 1) := by decide +kernel
theorem d_M_isHull_63 : decode b_M_isHull 63 = .ok (.istore 8, 2) := by decide +kernel
theorem d_M_isHull_65 : decode b_M_isHull 65 = .ok (.iload 8, 2) := by decide +kernel
theorem d_M_isHull_67 : decode b_M_isHull 67 = .ok (.aload_n 0, 1) := by decide +kernel
theorem d_M_isHull_68 : decode b_M_isHull 68 = .ok (.getfield 7, 3) := by decide +kernel
theorem d_M_isHull_71 : decode b_M_isHull 71 = .ok (.iload_n 1, 1) := by decide +kernel
theorem d_M_isHull_72 : decode b_M_isHull 72 = .ok (.iaload, 1) := by decide +kernel
theorem d_M_isHull_73 : decode b_M_isHull 73 = .ok (.if_icmp .ge 67, 3) := by decide +kernel
theorem d_M_isHull_76 : decode b_M_isHull 76 = .ok (.iload_n 3, 1) := by decide +kernel
theorem d_M_isHull_77 : decode b_M_isHull 77 = .ok (.ifCond .eq 63, 3) := by decide +kernel
theorem d_M_isHull_80 : decode b_M_isHull 80 = .ok (.aload_n 0, 1) := by decide +kernel
theorem d_M_isHull_81 : decode b_M_isHull 81 = .ok (.iload_n 1, 1) := by decide +kernel
theorem d_M_isHull_82 : decode b_M_isHull 82 = .ok (.iload 8, 2) := by decide +kernel
theorem d_M_isHull_84 : decode b_M_isHull 84 = .ok (.invokevirtual 93, 3) := by decide +kernel
theorem d_M_isHull_87 : decode b_M_isHull 87 = .ok (.aload_n 0, 1) := by decide +kernel
theorem d_M_isHull_88 : decode b_M_isHull 88 = .ok (.iload_n 1, 1) := by decide +kernel
theorem d_M_isHull_89 : decode b_M_isHull 89 = .ok (.iload_n 2, 1) := by decide +kernel
theorem d_M_isHull_90 : decode b_M_isHull 90 = .ok (.invokevirtual 93, 3) := by decide +kernel
theorem d_M_isHull_93 : decode b_M_isHull 93 = .ok (.lsub, 1) := by decide +kernel
theorem d_M_isHull_94 : decode b_M_isHull 94 = .ok (.lstore 9, 2) := by decide +kernel
theorem d_M_isHull_96 : decode b_M_isHull 96 = .ok (.aload_n 0, 1) := by decide +kernel
theorem d_M_isHull_97 : decode b_M_isHull 97 = .ok (.iload_n 1, 1) := by decide +kernel
theorem d_M_isHull_98 : decode b_M_isHull 98 = .ok (.iload 8, 2) := by decide +kernel
theorem d_M_isHull_100 : decode b_M_isHull 100 = .ok (.invokevirtual 97, 3) := by decide +kernel
theorem d_M_isHull_103 : decode b_M_isHull 103 = .ok (.aload_n 0, 1) := by decide +kernel
theorem d_M_isHull_104 : decode b_M_isHull 104 = .ok (.iload_n 1, 1) := by decide +kernel
theorem d_M_isHull_105 : decode b_M_isHull 105 = .ok (.iload_n 2, 1) := by decide +kernel
theorem d_M_isHull_106 : decode b_M_isHull 106 = .ok (.invokevirtual 97, 3) := by decide +kernel
theorem d_M_isHull_109 : decode b_M_isHull 109 = .ok (.isub, 1) := by decide +kernel
theorem d_M_isHull_110 : decode b_M_isHull 110 = .ok (.istore 11, 2) := by decide +kernel
theorem d_M_isHull_112 : decode b_M_isHull 112 = .ok (.lload 5, 2) := by decide +kernel
theorem d_M_isHull_114 : decode b_M_isHull 114 = .ok (.iload 11, 2) := by decide +kernel
theorem d_M_isHull_116 : decode b_M_isHull 116 = .ok (.i2l, 1) := by decide +kernel
theorem d_M_isHull_117 : decode b_M_isHull 117 = .ok (.lmul, 1) := by decide +kernel
theorem d_M_isHull_118 : decode b_M_isHull 118 = .ok (.lload 9, 2) := by decide +kernel
theorem d_M_isHull_120 : decode b_M_isHull 120 = .ok (.iload 7, 2) := by decide +kernel
theorem d_M_isHull_122 : decode b_M_isHull 122 = .ok (.i2l, 1) := by decide +kernel
theorem d_M_isHull_123 : decode b_M_isHull 123 = .ok (.lmul, 1) := by decide +kernel
theorem d_M_isHull_124 : decode b_M_isHull 124 = .ok (.lcmp, 1) := by decide +kernel
theorem d_M_isHull_125 : decode b_M_isHull 125 = .ok (.ifCond .le 7, 3) := by decide +kernel
theorem d_M_isHull_128 : decode b_M_isHull 128 = .ok (.iconst 1, 1) := by decide +kernel
theorem d_M_isHull_129 : decode b_M_isHull 129 = .ok (.goto 4, 3) := by decide +kernel
theorem d_M_isHull_132 : decode b_M_isHull 132 = .ok (.iconst 0, 1) := by decide +kernel
theorem d_M_isHull_133 : decode b_M_isHull 133 = .ok (.istore_n 3, 1) := by decide +kernel
theorem d_M_isHull_134 : decode b_M_isHull 134 = .ok (.iinc 8 1, 3) := by decide +kernel
theorem d_M_isHull_137 : decode b_M_isHull 137 = .ok (.goto (-72), 3) := by decide +kernel
theorem d_M_isHull_140 : decode b_M_isHull 140 = .ok (.iinc 4 1, 3) := by decide +kernel
theorem d_M_isHull_143 : decode b_M_isHull 143 = .ok (.goto (-138), 3) := by decide +kernel
theorem d_M_isHull_146 : decode b_M_isHull 146 = .ok (.iload_n 3, 1) := by decide +kernel
theorem d_M_isHull_147 : decode b_M_isHull 147 = .ok (.ireturn, 1) := by decide +kernel
theorem d_M_isBefore_0 : decode b_M_isBefore 0 = .ok (.aload_n 0, 1) := by decide +kernel
theorem d_M_isBefore_1 : decode b_M_isBefore 1 = .ok (.getfield 35, 3) := by decide +kernel
theorem d_M_isBefore_4 : decode b_M_isBefore 4 = .ok (.iload_n 1, 1) := by decide +kernel
theorem d_M_isBefore_5 : decode b_M_isBefore 5 = .ok (.laload, 1) := by decide +kernel
theorem d_M_isBefore_6 : decode b_M_isBefore 6 = .ok (.aload_n 0, 1) := by decide +kernel
theorem d_M_isBefore_7 : decode b_M_isBefore 7 = .ok (.getfield 32, 3) := by decide +kernel
theorem d_M_isBefore_10 : decode b_M_isBefore 10 = .ok (.iload_n 2, 1) := by decide +kernel
theorem d_M_isBefore_11 : decode b_M_isBefore 11 = .ok (.iaload, 1) := by decide +kernel
theorem d_M_isBefore_12 : decode b_M_isBefore 12 = .ok (.i2l, 1) := by decide +kernel
theorem d_M_isBefore_13 : decode b_M_isBefore 13 = .ok (.lmul, 1) := by decide +kernel
theorem d_M_isBefore_14 : decode b_M_isBefore 14 = .ok (.lstore_n 3, 1) := by decide +kernel
theorem d_M_isBefore_15 : decode b_M_isBefore 15 = .ok (.aload_n 0, 1) := by decide +kernel
theorem d_M_isBefore_16 : decode b_M_isBefore 16 = .ok (.getfield 35, 3) := by decide +kernel
theorem d_M_isBefore_19 : decode b_M_isBefore 19 = .ok (.iload_n 2, 1) := by decide +kernel
theorem d_M_isBefore_20 : decode b_M_isBefore 20 = .ok (.laload, 1) := by decide +kernel
theorem d_M_isBefore_21 : decode b_M_isBefore 21 = .ok (.aload_n 0, 1) := by decide +kernel
theorem d_M_isBefore_22 : decode b_M_isBefore 22 = .ok (.getfield 32, 3) := by decide +kernel
theorem d_M_isBefore_25 : decode b_M_isBefore 25 = .ok (.iload_n 1, 1) := by decide +kernel
theorem d_M_isBefore_26 : decode b_M_isBefore 26 = .ok (.iaload, 1) := by decide +kernel
theorem d_M_isBefore_27 : decode b_M_isBefore 27 = .ok (.i2l, 1) := by decide +kernel
theorem d_M_isBefore_28 : decode b_M_isBefore 28 = .ok (.lmul, 1) := by decide +kernel
theorem d_M_isBefore_29 : decode b_M_isBefore 29 = .ok (.lstore 5, 2) := by decide +kernel
theorem d_M_isBefore_31 : decode b_M_isBefore 31 = .ok (.lload_n 3, 1) := by decide +kernel
theorem d_M_isBefore_32 : decode b_M_isBefore 32 = .ok (.lload 5, 2) := by decide +kernel
theorem d_M_isBefore_34 : decode b_M_isBefore 34 = .ok (.lcmp, 1) := by decide +kernel
theorem d_M_isBefore_35 : decode b_M_isBefore 35 = .ok (.ifCond .eq 18, 3) := by decide +kernel
theorem d_M_isBefore_38 : decode b_M_isBefore 38 = .ok (.lload_n 3, 1) := by decide +kernel
theorem d_M_isBefore_39 : decode b_M_isBefore 39 = .ok (.lload 5, 2) := by decide +kernel
theorem d_M_isBefore_41 : decode b_M_isBefore 41 = .ok (.lcmp, 1) := by decide +kernel
theorem d_M_isBefore_42 : decode b_M_isBefore 42 = .ok (.ifCond .le 7, 3) := by decide +kernel
theorem d_M_isBefore_45 : decode b_M_isBefore 45 = .ok (.iconst 1, 1) := by decide +kernel
theorem d_M_isBefore_46 : decode b_M_isBefore 46 = .ok (.goto 17, 3) := by decide +kernel
theorem d_M_isBefore_49 : decode b_M_isBefore 49 = .ok (.iconst 0, 1) := by decide +kernel
theorem d_M_isBefore_50 : decode b_M_isBefore 50 = .ok (.goto 13, 3) := by decide +kernel
theorem d_M_isBefore_53 : decode b_M_isBefore 53 = .ok (.iload_n 1, 1) := by decide +kernel
theorem d_M_isBefore_54 : decode b_M_isBefore 54 = .ok (.iload_n 2, 1) := by decide +kernel
theorem d_M_isBefore_55 : decode b_M_isBefore 55 = .ok (.if_icmp .ge 7, 3) := by decide +kernel
theorem d_M_isBefore_58 : decode b_M_isBefore 58 = .ok (.iconst 1, 1) := by decide +kernel
theorem d_M_isBefore_59 : decode b_M_isBefore 59 = .ok (.goto 4, 3) := by decide +kernel
theorem d_M_isBefore_62 : decode b_M_isBefore 62 = .ok (.iconst 0, 1) := by decide +kernel
theorem d_M_isBefore_63 : decode b_M_isBefore 63 = .ok (.ireturn, 1) := by decide +kernel
theorem d_M_layRow_0 : decode b_M_layRow 0 = .ok (.aload_n 0, 1) := by decide +kernel
theorem d_M_layRow_1 : decode b_M_layRow 1 = .ok (.getfield 58, 3) := by decide +kernel
theorem d_M_layRow_4 : decode b_M_layRow 4 = .ok (.ifCond .eq 4, 3) := by decide +kernel
theorem d_M_layRow_7 : decode b_M_layRow 7 = .ok (.return_, 1) := by decide +kernel
theorem d_M_layRow_8 : decode b_M_layRow 8 = .ok (.aload_n 0, 1) := by decide +kernel
theorem d_M_layRow_9 : decode b_M_layRow 9 = .ok (.iconst 1, 1) := by decide +kernel
theorem d_M_layRow_10 : decode b_M_layRow 10 = .ok (.putfield 58, 3) := by decide +kernel
theorem d_M_layRow_13 : decode b_M_layRow 13 = .ok (.aload_n 0, 1) := by decide +kernel
theorem d_M_layRow_14 : decode b_M_layRow 14 = .ok (.iconst 0, 1) := by decide +kernel
theorem d_M_layRow_15 : decode b_M_layRow 15 = .ok (.putfield 101, 3) := by decide +kernel
theorem d_M_layRow_18 : decode b_M_layRow 18 = .ok (.iconst 0, 1) := by decide +kernel
theorem d_M_layRow_19 : decode b_M_layRow 19 = .ok (.istore_n 1, 1) := by decide +kernel
theorem d_M_layRow_20 : decode b_M_layRow 20 = .ok (.iload_n 1, 1) := by decide +kernel
theorem d_M_layRow_21 : decode b_M_layRow 21 = .ok (.aload_n 0, 1) := by decide +kernel
theorem d_M_layRow_22 : decode b_M_layRow 22 = .ok (.getfield 51, 3) := by decide +kernel
theorem d_M_layRow_25 : decode b_M_layRow 25 = .ok (.if_icmp .ge 183, 3) := by decide +kernel
theorem d_M_layRow_28 : decode b_M_layRow 28 = .ok (.iconst (-1), 1) := by decide +kernel
theorem d_M_layRow_29 : decode b_M_layRow 29 = .ok (.istore_n 2, 1) := by decide +kernel
theorem d_M_layRow_30 : decode b_M_layRow 30 = .ok (.iconst 0, 1) := by decide +kernel
theorem d_M_layRow_31 : decode b_M_layRow 31 = .ok (.istore_n 3, 1) := by decide +kernel
theorem d_M_layRow_32 : decode b_M_layRow 32 = .ok (.iload_n 3, 1) := by decide +kernel
theorem d_M_layRow_33 : decode b_M_layRow 33 = .ok (.aload_n 0, 1) := by decide +kernel
theorem d_M_layRow_34 : decode b_M_layRow 34 = .ok (.getfield 7, 3) := by decide +kernel
theorem d_M_layRow_37 : decode b_M_layRow 37 = .ok (.iload_n 1, 1) := by decide +kernel
theorem d_M_layRow_38 : decode b_M_layRow 38 = .ok (.iaload, 1) := by decide +kernel
theorem d_M_layRow_39 : decode b_M_layRow 39 = .ok (.if_icmp .ge 163, 3) := by decide +kernel
theorem d_M_layRow_42 : decode b_M_layRow 42 = .ok (.bipush 24, 2) := by decide +kernel
theorem d_M_layRow_44 : decode b_M_layRow 44 = .ok (.iload_n 1, 1) := by decide +kernel
theorem d_M_layRow_45 : decode b_M_layRow 45 = .ok (.imul, 1) := by decide +kernel
theorem d_M_layRow_46 : decode b_M_layRow 46 = .ok (.iload_n 3, 1) := by decide +kernel
theorem d_M_layRow_47 : decode b_M_layRow 47 = .ok (.iadd, 1) := by decide +kernel
theorem d_M_layRow_48 : decode b_M_layRow 48 = .ok (.istore 4, 2) := by decide +kernel
theorem d_M_layRow_50 : decode b_M_layRow 50 = .ok (.aload_n 0, 1) := by decide +kernel
theorem d_M_layRow_51 : decode b_M_layRow 51 = .ok (.iload_n 1, 1) := by decide +kernel
theorem d_M_layRow_52 : decode b_M_layRow 52 = .ok (.iload_n 3, 1) := by decide +kernel
theorem d_M_layRow_53 : decode b_M_layRow 53 = .ok (.invokevirtual 104, 3) := by decide +kernel
theorem d_M_layRow_56 : decode b_M_layRow 56 = .ok (.istore 5, 2) := by decide +kernel
theorem d_M_layRow_58 : decode b_M_layRow 58 = .ok (.aload_n 0, 1) := by decide +kernel
theorem d_M_layRow_59 : decode b_M_layRow 59 = .ok (.getfield 32, 3) := by decide +kernel
theorem d_M_layRow_62 : decode b_M_layRow 62 = .ok (.iload 4, 2) := by decide +kernel
theorem d_M_layRow_64 : decode b_M_layRow 64 = .ok (.iload 5, 2) := by decide +kernel
theorem d_M_layRow_66 : decode b_M_layRow 66 = .ok (.ifCond .eq 19, 3) := by decide +kernel
theorem d_M_layRow_69 : decode b_M_layRow 69 = .ok (.aload_n 0, 1) := by decide +kernel
theorem d_M_layRow_70 : decode b_M_layRow 70 = .ok (.iload_n 1, 1) := by decide +kernel
theorem d_M_layRow_71 : decode b_M_layRow 71 = .ok (.iload_n 3, 1) := by decide +kernel
theorem d_M_layRow_72 : decode b_M_layRow 72 = .ok (.invokevirtual 97, 3) := by decide +kernel
theorem d_M_layRow_75 : decode b_M_layRow 75 = .ok (.aload_n 0, 1) := by decide +kernel
theorem d_M_layRow_76 : decode b_M_layRow 76 = .ok (.iload_n 1, 1) := by decide +kernel
theorem d_M_layRow_77 : decode b_M_layRow 77 = .ok (.iload_n 2, 1) := by decide +kernel
theorem d_M_layRow_78 : decode b_M_layRow 78 = .ok (.invokevirtual 97, 3) := by decide +kernel
theorem d_M_layRow_81 : decode b_M_layRow 81 = .ok (.isub, 1) := by decide +kernel
theorem d_M_layRow_82 : decode b_M_layRow 82 = .ok (.goto 4, 3) := by decide +kernel
theorem d_M_layRow_85 : decode b_M_layRow 85 = .ok (.iconst 0, 1) := by decide +kernel
theorem d_M_layRow_86 : decode b_M_layRow 86 = .ok (.iastore, 1) := by decide +kernel
theorem d_M_layRow_87 : decode b_M_layRow 87 = .ok (.aload_n 0, 1) := by decide +kernel
theorem d_M_layRow_88 : decode b_M_layRow 88 = .ok (.getfield 35, 3) := by decide +kernel
theorem d_M_layRow_91 : decode b_M_layRow 91 = .ok (.iload 4, 2) := by decide +kernel
theorem d_M_layRow_93 : decode b_M_layRow 93 = .ok (.iload 5, 2) := by decide +kernel
theorem d_M_layRow_95 : decode b_M_layRow 95 = .ok (.ifCond .eq 19, 3) := by decide +kernel
theorem d_M_layRow_98 : decode b_M_layRow 98 = .ok (.aload_n 0, 1) := by decide +kernel
theorem d_M_layRow_99 : decode b_M_layRow 99 = .ok (.iload_n 1, 1) := by decide +kernel
theorem d_M_layRow_100 : decode b_M_layRow 100 = .ok (.iload_n 3, 1) := by decide +kernel
theorem d_M_layRow_101 : decode b_M_layRow 101 = .ok (.invokevirtual 93, 3) := by decide +kernel
theorem d_M_layRow_104 : decode b_M_layRow 104 = .ok (.aload_n 0, 1) := by decide +kernel
theorem d_M_layRow_105 : decode b_M_layRow 105 = .ok (.iload_n 1, 1) := by decide +kernel
theorem d_M_layRow_106 : decode b_M_layRow 106 = .ok (.iload_n 2, 1) := by decide +kernel
theorem d_M_layRow_107 : decode b_M_layRow 107 = .ok (.invokevirtual 93, 3) := by decide +kernel
theorem d_M_layRow_110 : decode b_M_layRow 110 = .ok (.lsub, 1) := by decide +kernel
theorem d_M_layRow_111 : decode b_M_layRow 111 = .ok (.goto 4, 3) := by decide +kernel
theorem d_M_layRow_114 : decode b_M_layRow 114 = .ok (.lconst 0, 1) := by decide +kernel
theorem d_M_layRow_115 : decode b_M_layRow 115 = .ok (.lastore, 1) := by decide +kernel
theorem d_M_layRow_116 : decode b_M_layRow 116 = .ok (.iload 5, 2) := by decide +kernel
theorem d_M_layRow_118 : decode b_M_layRow 118 = .ok (.ifCond .ne 6, 3) := by decide +kernel
theorem d_M_layRow_121 : decode b_M_layRow 121 = .ok (.goto 75, 3) := by decide +kernel
theorem d_M_layRow_124 : decode b_M_layRow 124 = .ok (.iload_n 3, 1) := by decide +kernel
theorem d_M_layRow_125 : decode b_M_layRow 125 = .ok (.istore_n 2, 1) := by decide +kernel
theorem d_M_layRow_126 : decode b_M_layRow 126 = .ok (.aload_n 0, 1) := by decide +kernel
theorem d_M_layRow_127 : decode b_M_layRow 127 = .ok (.getfield 101, 3) := by decide +kernel
theorem d_M_layRow_130 : decode b_M_layRow 130 = .ok (.istore 6, 2) := by decide +kernel
theorem d_M_layRow_132 : decode b_M_layRow 132 = .ok (.iload 6, 2) := by decide +kernel
theorem d_M_layRow_134 : decode b_M_layRow 134 = .ok (.ifCond .le 43, 3) := by decide +kernel
theorem d_M_layRow_137 : decode b_M_layRow 137 = .ok (.aload_n 0, 1) := by decide +kernel
theorem d_M_layRow_138 : decode b_M_layRow 138 = .ok (.iload 4, 2) := by decide +kernel
theorem d_M_layRow_140 : decode b_M_layRow 140 = .ok (.aload_n 0, 1) := by decide +kernel
theorem d_M_layRow_141 : decode b_M_layRow 141 = .ok (.getfield 38, 3) := by decide +kernel
theorem d_M_layRow_144 : decode b_M_layRow 144 = .ok (.iload 6, 2) := by decide +kernel
theorem d_M_layRow_146 : decode b_M_layRow 146 = .ok (.iconst 1, 1) := by decide +kernel
theorem d_M_layRow_147 : decode b_M_layRow 147 = .ok (.isub, 1) := by decide +kernel
theorem d_M_layRow_148 : decode b_M_layRow 148 = .ok (.iaload, 1) := by decide +kernel
theorem d_M_layRow_149 : decode b_M_layRow 149 = .ok (.invokevirtual 108, 3) := by decide +kernel
theorem d_M_layRow_152 : decode b_M_layRow 152 = .ok (.ifCond .eq 25, 3) := by decide +kernel
theorem d_M_layRow_155 : decode b_M_layRow 155 = .ok (.aload_n 0, 1) := by decide +kernel
theorem d_M_layRow_156 : decode b_M_layRow 156 = .ok (.getfield 38, 3) := by decide +kernel
theorem d_M_layRow_159 : decode b_M_layRow 159 = .ok (.iload 6, 2) := by decide +kernel
theorem d_M_layRow_161 : decode b_M_layRow 161 = .ok (.aload_n 0, 1) := by decide +kernel
theorem d_M_layRow_162 : decode b_M_layRow 162 = .ok (.getfield 38, 3) := by decide +kernel
theorem d_M_layRow_165 : decode b_M_layRow 165 = .ok (.iload 6, 2) := by decide +kernel
theorem d_M_layRow_167 : decode b_M_layRow 167 = .ok (.iconst 1, 1) := by decide +kernel
theorem d_M_layRow_168 : decode b_M_layRow 168 = .ok (.isub, 1) := by decide +kernel
theorem d_M_layRow_169 : decode b_M_layRow 169 = .ok (.iaload, 1) := by decide +kernel
theorem d_M_layRow_170 : decode b_M_layRow 170 = .ok (.iastore, 1) := by decide +kernel
theorem d_M_layRow_171 : decode b_M_layRow 171 = .ok (.iinc 6 (-1), 3) := by decide +kernel
theorem d_M_layRow_174 : decode b_M_layRow 174 = .ok (.goto (-42), 3) := by decide +kernel
theorem d_M_layRow_177 : decode b_M_layRow 177 = .ok (.aload_n 0, 1) := by decide +kernel
theorem d_M_layRow_178 : decode b_M_layRow 178 = .ok (.getfield 38, 3) := by decide +kernel
theorem d_M_layRow_181 : decode b_M_layRow 181 = .ok (.iload 6, 2) := by decide +kernel
theorem d_M_layRow_183 : decode b_M_layRow 183 = .ok (.iload 4, 2) := by decide +kernel
theorem d_M_layRow_185 : decode b_M_layRow 185 = .ok (.iastore, 1) := by decide +kernel
theorem d_M_layRow_186 : decode b_M_layRow 186 = .ok (.aload_n 0, 1) := by decide +kernel
theorem d_M_layRow_187 : decode b_M_layRow 187 = .ok (.dup, 1) := by decide +kernel
theorem d_M_layRow_188 : decode b_M_layRow 188 = .ok (.getfield 101, 3) := by decide +kernel
theorem d_M_layRow_191 : decode b_M_layRow 191 = .ok (.iconst 1, 1) := by decide +kernel
theorem d_M_layRow_192 : decode b_M_layRow 192 = .ok (.iadd, 1) := by decide +kernel
theorem d_M_layRow_193 : decode b_M_layRow 193 = .ok (.putfield 101, 3) := by decide +kernel
theorem d_M_layRow_196 : decode b_M_layRow 196 = .ok (.iinc 3 1, 3) := by decide +kernel
theorem d_M_layRow_199 : decode b_M_layRow 199 = .ok (.goto (-167), 3) := by decide +kernel
theorem d_M_layRow_202 : decode b_M_layRow 202 = .ok (.iinc 1 1, 3) := by decide +kernel
theorem d_M_layRow_205 : decode b_M_layRow 205 = .ok (.goto (-185), 3) := by decide +kernel
theorem d_M_layRow_208 : decode b_M_layRow 208 = .ok (.return_, 1) := by decide +kernel
theorem d_M_run_0 : decode b_M_run 0 = .ok (.aload_n 0, 1) := by decide +kernel
theorem d_M_run_1 : decode b_M_run 1 = .ok (.iconst 0, 1) := by decide +kernel
theorem d_M_run_2 : decode b_M_run 2 = .ok (.putfield 48, 3) := by decide +kernel
theorem d_M_run_5 : decode b_M_run 5 = .ok (.aload_n 0, 1) := by decide +kernel
theorem d_M_run_6 : decode b_M_run 6 = .ok (.invokevirtual 111, 3) := by decide +kernel
theorem d_M_run_9 : decode b_M_run 9 = .ok (.iconst 0, 1) := by decide +kernel
theorem d_M_run_10 : decode b_M_run 10 = .ok (.istore_n 1, 1) := by decide +kernel
theorem d_M_run_11 : decode b_M_run 11 = .ok (.iconst 0, 1) := by decide +kernel
theorem d_M_run_12 : decode b_M_run 12 = .ok (.istore_n 2, 1) := by decide +kernel
theorem d_M_run_13 : decode b_M_run 13 = .ok (.iconst 0, 1) := by decide +kernel
theorem d_M_run_14 : decode b_M_run 14 = .ok (.istore_n 3, 1) := by decide +kernel
theorem d_M_run_15 : decode b_M_run 15 = .ok (.iload_n 3, 1) := by decide +kernel
theorem d_M_run_16 : decode b_M_run 16 = .ok (.aload_n 0, 1) := by decide +kernel
theorem d_M_run_17 : decode b_M_run 17 = .ok (.getfield 44, 3) := by decide +kernel
theorem d_M_run_20 : decode b_M_run 20 = .ok (.if_icmp .ge 93, 3) := by decide +kernel
theorem d_M_run_23 : decode b_M_run 23 = .ok (.aload_n 0, 1) := by decide +kernel
theorem d_M_run_24 : decode b_M_run 24 = .ok (.getfield 29, 3) := by decide +kernel
theorem d_M_run_27 : decode b_M_run 27 = .ok (.iload_n 3, 1) := by decide +kernel
theorem d_M_run_28 : decode b_M_run 28 = .ok (.iaload, 1) := by decide +kernel
theorem d_M_run_29 : decode b_M_run 29 = .ok (.istore 4, 2) := by decide +kernel
theorem d_M_run_31 : decode b_M_run 31 = .ok (.iload 4, 2) := by decide +kernel
theorem d_M_run_33 : decode b_M_run 33 = .ok (.aload_n 0, 1) := by decide +kernel
theorem d_M_run_34 : decode b_M_run 34 = .ok (.getfield 26, 3) := by decide +kernel
theorem d_M_run_37 : decode b_M_run 37 = .ok (.iload_n 3, 1) := by decide +kernel
theorem d_M_run_38 : decode b_M_run 38 = .ok (.iaload, 1) := by decide +kernel
theorem d_M_run_39 : decode b_M_run 39 = .ok (.if_icmp .gt 59, 3) := by decide +kernel
theorem d_M_run_42 : decode b_M_run 42 = .ok (.iinc 2 1, 3) := by decide +kernel
theorem d_M_run_45 : decode b_M_run 45 = .ok (.iload_n 1, 1) := by decide +kernel
theorem d_M_run_46 : decode b_M_run 46 = .ok (.aload_n 0, 1) := by decide +kernel
theorem d_M_run_47 : decode b_M_run 47 = .ok (.getfield 101, 3) := by decide +kernel
theorem d_M_run_50 : decode b_M_run 50 = .ok (.if_icmp .ge 48, 3) := by decide +kernel
theorem d_M_run_53 : decode b_M_run 53 = .ok (.iload 4, 2) := by decide +kernel
theorem d_M_run_55 : decode b_M_run 55 = .ok (.aload_n 0, 1) := by decide +kernel
theorem d_M_run_56 : decode b_M_run 56 = .ok (.getfield 32, 3) := by decide +kernel
theorem d_M_run_59 : decode b_M_run 59 = .ok (.aload_n 0, 1) := by decide +kernel
theorem d_M_run_60 : decode b_M_run 60 = .ok (.getfield 38, 3) := by decide +kernel
theorem d_M_run_63 : decode b_M_run 63 = .ok (.iload_n 1, 1) := by decide +kernel
theorem d_M_run_64 : decode b_M_run 64 = .ok (.iaload, 1) := by decide +kernel
theorem d_M_run_65 : decode b_M_run 65 = .ok (.iaload, 1) := by decide +kernel
theorem d_M_run_66 : decode b_M_run 66 = .ok (.iadd, 1) := by decide +kernel
theorem d_M_run_67 : decode b_M_run 67 = .ok (.aload_n 0, 1) := by decide +kernel
theorem d_M_run_68 : decode b_M_run 68 = .ok (.getfield 26, 3) := by decide +kernel
theorem d_M_run_71 : decode b_M_run 71 = .ok (.iload_n 3, 1) := by decide +kernel
theorem d_M_run_72 : decode b_M_run 72 = .ok (.iaload, 1) := by decide +kernel
theorem d_M_run_73 : decode b_M_run 73 = .ok (.if_icmp .gt 25, 3) := by decide +kernel
theorem d_M_run_76 : decode b_M_run 76 = .ok (.iload 4, 2) := by decide +kernel
theorem d_M_run_78 : decode b_M_run 78 = .ok (.aload_n 0, 1) := by decide +kernel
theorem d_M_run_79 : decode b_M_run 79 = .ok (.getfield 32, 3) := by decide +kernel
theorem d_M_run_82 : decode b_M_run 82 = .ok (.aload_n 0, 1) := by decide +kernel
theorem d_M_run_83 : decode b_M_run 83 = .ok (.getfield 38, 3) := by decide +kernel
theorem d_M_run_86 : decode b_M_run 86 = .ok (.iload_n 1, 1) := by decide +kernel
theorem d_M_run_87 : decode b_M_run 87 = .ok (.iaload, 1) := by decide +kernel
theorem d_M_run_88 : decode b_M_run 88 = .ok (.iaload, 1) := by decide +kernel
theorem d_M_run_89 : decode b_M_run 89 = .ok (.iadd, 1) := by decide +kernel
theorem d_M_run_90 : decode b_M_run 90 = .ok (.istore 4, 2) := by decide +kernel
theorem d_M_run_92 : decode b_M_run 92 = .ok (.iinc 1 1, 3) := by decide +kernel
theorem d_M_run_95 : decode b_M_run 95 = .ok (.goto (-50), 3) := by decide +kernel
theorem d_M_run_98 : decode b_M_run 98 = .ok (.aload_n 0, 1) := by decide +kernel
theorem d_M_run_99 : decode b_M_run 99 = .ok (.getfield 41, 3) := by decide +kernel
theorem d_M_run_102 : decode b_M_run 102 = .ok (.iload_n 3, 1) := by decide +kernel
theorem d_M_run_103 : decode b_M_run 103 = .ok (.iconst 1, 1) := by decide +kernel
theorem d_M_run_104 : decode b_M_run 104 = .ok (.iadd, 1) := by decide +kernel
theorem d_M_run_105 : decode b_M_run 105 = .ok (.iload_n 1, 1) := by decide +kernel
theorem d_M_run_106 : decode b_M_run 106 = .ok (.iastore, 1) := by decide +kernel
theorem d_M_run_107 : decode b_M_run 107 = .ok (.iinc 3 1, 3) := by decide +kernel
theorem d_M_run_110 : decode b_M_run 110 = .ok (.goto (-95), 3) := by decide +kernel
theorem d_M_run_113 : decode b_M_run 113 = .ok (.aload_n 0, 1) := by decide +kernel
theorem d_M_run_114 : decode b_M_run 114 = .ok (.iconst 1, 1) := by decide +kernel
theorem d_M_run_115 : decode b_M_run 115 = .ok (.putfield 62, 3) := by decide +kernel
theorem d_M_run_118 : decode b_M_run 118 = .ok (.iload_n 2, 1) := by decide +kernel
theorem d_M_run_119 : decode b_M_run 119 = .ok (.ireturn, 1) := by decide +kernel
theorem d_M_hull_0 : decode b_M_hull 0 = .ok (.aload_n 0, 1) := by decide +kernel
theorem d_M_hull_1 : decode b_M_hull 1 = .ok (.iconst 0, 1) := by decide +kernel
theorem d_M_hull_2 : decode b_M_hull 2 = .ok (.putfield 48, 3) := by decide +kernel
theorem d_M_hull_5 : decode b_M_hull 5 = .ok (.aload_n 0, 1) := by decide +kernel
theorem d_M_hull_6 : decode b_M_hull 6 = .ok (.aload_n 0, 1) := by decide +kernel
theorem d_M_hull_7 : decode b_M_hull 7 = .ok (.iload_n 1, 1) := by decide +kernel
theorem d_M_hull_8 : decode b_M_hull 8 = .ok (.iload_n 2, 1) := by decide +kernel
theorem d_M_hull_9 : decode b_M_hull 9 = .ok (.invokevirtual 114, 3) := by decide +kernel
theorem d_M_hull_12 : decode b_M_hull 12 = .ok (.ifCond .ne 7, 3) := by decide +kernel
theorem d_M_hull_15 : decode b_M_hull 15 = .ok (.iconst 1, 1) := by decide +kernel
theorem d_M_hull_16 : decode b_M_hull 16 = .ok (.goto 4, 3) := by decide +kernel
theorem d_M_hull_19 : decode b_M_hull 19 = .ok (.iconst 0, 1) := by decide +kernel
theorem d_M_hull_20 : decode b_M_hull 20 = .ok (.iconst 1, 1) := by decide +kernel
theorem d_M_hull_21 : decode b_M_hull 21 = .ok (.invokevirtual 65, 3) := by decide +kernel
theorem d_M_hull_24 : decode b_M_hull 24 = .ok (.ifCond .ne 16, 3) := by decide +kernel
theorem d_M_hull_27 : decode b_M_hull 27 = .ok (.aload_n 0, 1) := by decide +kernel
theorem d_M_hull_28 : decode b_M_hull 28 = .ok (.iload_n 1, 1) := by decide +kernel
theorem d_M_hull_29 : decode b_M_hull 29 = .ok (.iload_n 2, 1) := by decide +kernel
theorem d_M_hull_30 : decode b_M_hull 30 = .ok (.invokevirtual 104, 3) := by decide +kernel
theorem d_M_hull_33 : decode b_M_hull 33 = .ok (.ifCond .eq 7, 3) := by decide +kernel
theorem d_M_hull_36 : decode b_M_hull 36 = .ok (.iconst 1, 1) := by decide +kernel
theorem d_M_hull_37 : decode b_M_hull 37 = .ok (.goto 4, 3) := by decide +kernel
theorem d_M_hull_40 : decode b_M_hull 40 = .ok (.iconst 0, 1) := by decide +kernel
theorem d_M_hull_41 : decode b_M_hull 41 = .ok (.ireturn, 1) := by decide +kernel
theorem d_M_slope_0 : decode b_M_slope 0 = .ok (.aload_n 0, 1) := by decide +kernel
theorem d_M_slope_1 : decode b_M_slope 1 = .ok (.iconst 0, 1) := by decide +kernel
theorem d_M_slope_2 : decode b_M_slope 2 = .ok (.putfield 48, 3) := by decide +kernel
theorem d_M_slope_5 : decode b_M_slope 5 = .ok (.aload_n 0, 1) := by decide +kernel
theorem d_M_slope_6 : decode b_M_slope 6 = .ok (.aload_n 0, 1) := by decide +kernel
theorem d_M_slope_7 : decode b_M_slope 7 = .ok (.iload_n 1, 1) := by decide +kernel
theorem d_M_slope_8 : decode b_M_slope 8 = .ok (.iload_n 2, 1) := by decide +kernel
theorem d_M_slope_9 : decode b_M_slope 9 = .ok (.invokevirtual 114, 3) := by decide +kernel
theorem d_M_slope_12 : decode b_M_slope 12 = .ok (.ifCond .ne 7, 3) := by decide +kernel
theorem d_M_slope_15 : decode b_M_slope 15 = .ok (.iconst 1, 1) := by decide +kernel
theorem d_M_slope_16 : decode b_M_slope 16 = .ok (.goto 4, 3) := by decide +kernel
theorem d_M_slope_19 : decode b_M_slope 19 = .ok (.iconst 0, 1) := by decide +kernel
theorem d_M_slope_20 : decode b_M_slope 20 = .ok (.iconst 1, 1) := by decide +kernel
theorem d_M_slope_21 : decode b_M_slope 21 = .ok (.invokevirtual 65, 3) := by decide +kernel
theorem d_M_slope_24 : decode b_M_slope 24 = .ok (.ifCond .eq 5, 3) := by decide +kernel
theorem d_M_slope_27 : decode b_M_slope 27 = .ok (.lconst 0, 1) := by decide +kernel
theorem d_M_slope_28 : decode b_M_slope 28 = .ok (.lreturn, 1) := by decide +kernel
theorem d_M_slope_29 : decode b_M_slope 29 = .ok (.aload_n 0, 1) := by decide +kernel
theorem d_M_slope_30 : decode b_M_slope 30 = .ok (.invokevirtual 111, 3) := by decide +kernel
theorem d_M_slope_33 : decode b_M_slope 33 = .ok (.iload_n 3, 1) := by decide +kernel
theorem d_M_slope_34 : decode b_M_slope 34 = .ok (.ifCond .eq 17, 3) := by decide +kernel
theorem d_M_slope_37 : decode b_M_slope 37 = .ok (.aload_n 0, 1) := by decide +kernel
theorem d_M_slope_38 : decode b_M_slope 38 = .ok (.getfield 35, 3) := by decide +kernel
theorem d_M_slope_41 : decode b_M_slope 41 = .ok (.bipush 24, 2) := by decide +kernel
theorem d_M_slope_43 : decode b_M_slope 43 = .ok (.iload_n 1, 1) := by decide +kernel
theorem d_M_slope_44 : decode b_M_slope 44 = .ok (.imul, 1) := by decide +kernel
theorem d_M_slope_45 : decode b_M_slope 45 = .ok (.iload_n 2, 1) := by decide +kernel
theorem d_M_slope_46 : decode b_M_slope 46 = .ok (.iadd, 1) := by decide +kernel
theorem d_M_slope_47 : decode b_M_slope 47 = .ok (.laload, 1) := by decide +kernel
theorem d_M_slope_48 : decode b_M_slope 48 = .ok (.goto 15, 3) := by decide +kernel
theorem d_M_slope_51 : decode b_M_slope 51 = .ok (.aload_n 0, 1) := by decide +kernel
theorem d_M_slope_52 : decode b_M_slope 52 = .ok (.getfield 32, 3) := by decide +kernel
theorem d_M_slope_55 : decode b_M_slope 55 = .ok (.bipush 24, 2) := by decide +kernel
theorem d_M_slope_57 : decode b_M_slope 57 = .ok (.iload_n 1, 1) := by decide +kernel
theorem d_M_slope_58 : decode b_M_slope 58 = .ok (.imul, 1) := by decide +kernel
theorem d_M_slope_59 : decode b_M_slope 59 = .ok (.iload_n 2, 1) := by decide +kernel
theorem d_M_slope_60 : decode b_M_slope 60 = .ok (.iadd, 1) := by decide +kernel
theorem d_M_slope_61 : decode b_M_slope 61 = .ok (.iaload, 1) := by decide +kernel
theorem d_M_slope_62 : decode b_M_slope 62 = .ok (.i2l, 1) := by decide +kernel
theorem d_M_slope_63 : decode b_M_slope 63 = .ok (.lreturn, 1) := by decide +kernel
theorem d_M_row_0 : decode b_M_row 0 = .ok (.aload_n 0, 1) := by decide +kernel
theorem d_M_row_1 : decode b_M_row 1 = .ok (.iconst 0, 1) := by decide +kernel
theorem d_M_row_2 : decode b_M_row 2 = .ok (.putfield 48, 3) := by decide +kernel
theorem d_M_row_5 : decode b_M_row 5 = .ok (.aload_n 0, 1) := by decide +kernel
theorem d_M_row_6 : decode b_M_row 6 = .ok (.invokevirtual 111, 3) := by decide +kernel
theorem d_M_row_9 : decode b_M_row 9 = .ok (.aload_n 0, 1) := by decide +kernel
theorem d_M_row_10 : decode b_M_row 10 = .ok (.getfield 101, 3) := by decide +kernel
theorem d_M_row_13 : decode b_M_row 13 = .ok (.ireturn, 1) := by decide +kernel
theorem d_M_alike_0 : decode b_M_alike 0 = .ok (.iconst 0, 1) := by decide +kernel
theorem d_M_alike_1 : decode b_M_alike 1 = .ok (.istore_n 2, 1) := by decide +kernel
theorem d_M_alike_2 : decode b_M_alike 2 = .ok (.iconst 0, 1) := by decide +kernel
theorem d_M_alike_3 : decode b_M_alike 3 = .ok (.istore_n 3, 1) := by decide +kernel
theorem d_M_alike_4 : decode b_M_alike 4 = .ok (.iload_n 3, 1) := by decide +kernel
theorem d_M_alike_5 : decode b_M_alike 5 = .ok (.aload_n 0, 1) := by decide +kernel
theorem d_M_alike_6 : decode b_M_alike 6 = .ok (.getfield 101, 3) := by decide +kernel
theorem d_M_alike_9 : decode b_M_alike 9 = .ok (.if_icmp .ge 69, 3) := by decide +kernel
theorem d_M_alike_12 : decode b_M_alike 12 = .ok (.iload_n 2, 1) := by decide +kernel
theorem d_M_alike_13 : decode b_M_alike 13 = .ok (.aload_n 0, 1) := by decide +kernel
theorem d_M_alike_14 : decode b_M_alike 14 = .ok (.getfield 35, 3) := by decide +kernel
theorem d_M_alike_17 : decode b_M_alike 17 = .ok (.aload_n 0, 1) := by decide +kernel
theorem d_M_alike_18 : decode b_M_alike 18 = .ok (.getfield 38, 3) := by decide +kernel
theorem d_M_alike_21 : decode b_M_alike 21 = .ok (.iload_n 3, 1) := by decide +kernel
theorem d_M_alike_22 : decode b_M_alike 22 = .ok (.iaload, 1) := by decide +kernel
theorem d_M_alike_23 : decode b_M_alike 23 = .ok (.laload, 1) := by decide +kernel
theorem d_M_alike_24 : decode b_M_alike 24 = .ok (.aload_n 0, 1) := by decide +kernel
theorem d_M_alike_25 : decode b_M_alike 25 = .ok (.getfield 32, 3) := by decide +kernel
theorem d_M_alike_28 : decode b_M_alike 28 = .ok (.aload_n 0, 1) := by decide +kernel
theorem d_M_alike_29 : decode b_M_alike 29 = .ok (.getfield 38, 3) := by decide +kernel
theorem d_M_alike_32 : decode b_M_alike 32 = .ok (.iload_n 1, 1) := by decide +kernel
theorem d_M_alike_33 : decode b_M_alike 33 = .ok (.iaload, 1) := by decide +kernel
theorem d_M_alike_34 : decode b_M_alike 34 = .ok (.iaload, 1) := by decide +kernel
theorem d_M_alike_35 : decode b_M_alike 35 = .ok (.i2l, 1) := by decide +kernel
theorem d_M_alike_36 : decode b_M_alike 36 = .ok (.lmul, 1) := by decide +kernel
theorem d_M_alike_37 : decode b_M_alike 37 = .ok (.aload_n 0, 1) := by decide +kernel
theorem d_M_alike_38 : decode b_M_alike 38 = .ok (.getfield 35, 3) := by decide +kernel
theorem d_M_alike_41 : decode b_M_alike 41 = .ok (.aload_n 0, 1) := by decide +kernel
theorem d_M_alike_42 : decode b_M_alike 42 = .ok (.getfield 38, 3) := by decide +kernel
theorem d_M_alike_45 : decode b_M_alike 45 = .ok (.iload_n 1, 1) := by decide +kernel
theorem d_M_alike_46 : decode b_M_alike 46 = .ok (.iaload, 1) := by decide +kernel
theorem d_M_alike_47 : decode b_M_alike 47 = .ok (.laload, 1) := by decide +kernel
theorem d_M_alike_48 : decode b_M_alike 48 = .ok (.aload_n 0, 1) := by decide +kernel
theorem d_M_alike_49 : decode b_M_alike 49 = .ok (.getfield 32, 3) := by decide +kernel
theorem d_M_alike_52 : decode b_M_alike 52 = .ok (.aload_n 0, 1) := by decide +kernel
theorem d_M_alike_53 : decode b_M_alike 53 = .ok (.getfield 38, 3) := by decide +kernel
theorem d_M_alike_56 : decode b_M_alike 56 = .ok (.iload_n 3, 1) := by decide +kernel
theorem d_M_alike_57 : decode b_M_alike 57 = .ok (.iaload, 1) := by decide +kernel
theorem d_M_alike_58 : decode b_M_alike 58 = .ok (.iaload, 1) := by decide +kernel
theorem d_M_alike_59 : decode b_M_alike 59 = .ok (.i2l, 1) := by decide +kernel
theorem d_M_alike_60 : decode b_M_alike 60 = .ok (.lmul, 1) := by decide +kernel
theorem d_M_alike_61 : decode b_M_alike 61 = .ok (.lcmp, 1) := by decide +kernel
theorem d_M_alike_62 : decode b_M_alike 62 = .ok (.ifCond .ne 7, 3) := by decide +kernel
theorem d_M_alike_65 : decode b_M_alike 65 = .ok (.iconst 1, 1) := by decide +kernel
theorem d_M_alike_66 : decode b_M_alike 66 = .ok (.goto 4, 3) := by decide +kernel
theorem d_M_alike_69 : decode b_M_alike 69 = .ok (.iconst 0, 1) := by decide +kernel
theorem d_M_alike_70 : decode b_M_alike 70 = .ok (.iadd, 1) := by decide +kernel
theorem d_M_alike_71 : decode b_M_alike 71 = .ok (.istore_n 2, 1) := by decide +kernel
theorem d_M_alike_72 : decode b_M_alike 72 = .ok (.iinc 3 1, 3) := by decide +kernel
theorem d_M_alike_75 : decode b_M_alike 75 = .ok (.goto (-71), 3) := by decide +kernel
theorem d_M_alike_78 : decode b_M_alike 78 = .ok (.iload_n 2, 1) := by decide +kernel
theorem d_M_alike_79 : decode b_M_alike 79 = .ok (.ireturn, 1) := by decide +kernel
theorem d_M_layerOf_0 : decode b_M_layerOf 0 = .ok (.iconst 0, 1) := by decide +kernel
theorem d_M_layerOf_1 : decode b_M_layerOf 1 = .ok (.istore_n 2, 1) := by decide +kernel
theorem d_M_layerOf_2 : decode b_M_layerOf 2 = .ok (.iload_n 2, 1) := by decide +kernel
theorem d_M_layerOf_3 : decode b_M_layerOf 3 = .ok (.aload_n 0, 1) := by decide +kernel
theorem d_M_layerOf_4 : decode b_M_layerOf 4 = .ok (.getfield 44, 3) := by decide +kernel
theorem d_M_layerOf_7 : decode b_M_layerOf 7 = .ok (.if_icmp .ge 23, 3) := by decide +kernel
theorem d_M_layerOf_10 : decode b_M_layerOf 10 = .ok (.iload_n 1, 1) := by decide +kernel
theorem d_M_layerOf_11 : decode b_M_layerOf 11 = .ok (.aload_n 0, 1) := by decide +kernel
theorem d_M_layerOf_12 : decode b_M_layerOf 12 = .ok (.getfield 41, 3) := by decide +kernel
theorem d_M_layerOf_15 : decode b_M_layerOf 15 = .ok (.iload_n 2, 1) := by decide +kernel
theorem d_M_layerOf_16 : decode b_M_layerOf 16 = .ok (.iconst 1, 1) := by decide +kernel
theorem d_M_layerOf_17 : decode b_M_layerOf 17 = .ok (.iadd, 1) := by decide +kernel
theorem d_M_layerOf_18 : decode b_M_layerOf 18 = .ok (.iaload, 1) := by decide +kernel
theorem d_M_layerOf_19 : decode b_M_layerOf 19 = .ok (.if_icmp .ge 5, 3) := by decide +kernel
theorem d_M_layerOf_22 : decode b_M_layerOf 22 = .ok (.iload_n 2, 1) := by decide +kernel
theorem d_M_layerOf_23 : decode b_M_layerOf 23 = .ok (.ireturn, 1) := by decide +kernel
theorem d_M_layerOf_24 : decode b_M_layerOf 24 = .ok (.iinc 2 1, 3) := by decide +kernel
theorem d_M_layerOf_27 : decode b_M_layerOf 27 = .ok (.goto (-25), 3) := by decide +kernel
theorem d_M_layerOf_30 : decode b_M_layerOf 30 = .ok (.iconst (-1), 1) := by decide +kernel
theorem d_M_layerOf_31 : decode b_M_layerOf 31 = .ok (.ireturn, 1) := by decide +kernel
theorem d_M_at_0 : decode b_M_at 0 = .ok (.aload_n 0, 1) := by decide +kernel
theorem d_M_at_1 : decode b_M_at 1 = .ok (.iconst 0, 1) := by decide +kernel
theorem d_M_at_2 : decode b_M_at 2 = .ok (.putfield 48, 3) := by decide +kernel
theorem d_M_at_5 : decode b_M_at 5 = .ok (.aload_n 0, 1) := by decide +kernel
theorem d_M_at_6 : decode b_M_at 6 = .ok (.invokevirtual 111, 3) := by decide +kernel
theorem d_M_at_9 : decode b_M_at 9 = .ok (.aload_n 0, 1) := by decide +kernel
theorem d_M_at_10 : decode b_M_at 10 = .ok (.iload_n 1, 1) := by decide +kernel
theorem d_M_at_11 : decode b_M_at 11 = .ok (.ifCond .lt 11, 3) := by decide +kernel
theorem d_M_at_14 : decode b_M_at 14 = .ok (.iload_n 1, 1) := by decide +kernel
theorem d_M_at_15 : decode b_M_at 15 = .ok (.aload_n 0, 1) := by decide +kernel
theorem d_M_at_16 : decode b_M_at 16 = .ok (.getfield 101, 3) := by decide +kernel
theorem d_M_at_19 : decode b_M_at 19 = .ok (.if_icmp .lt 7, 3) := by decide +kernel
theorem d_M_at_22 : decode b_M_at 22 = .ok (.iconst 1, 1) := by decide +kernel
theorem d_M_at_23 : decode b_M_at 23 = .ok (.goto 4, 3) := by decide +kernel
theorem d_M_at_26 : decode b_M_at 26 = .ok (.iconst 0, 1) := by decide +kernel
theorem d_M_at_27 : decode b_M_at 27 = .ok (.iconst 1, 1) := by decide +kernel
theorem d_M_at_28 : decode b_M_at 28 = .ok (.invokevirtual 65, 3) := by decide +kernel
theorem d_M_at_31 : decode b_M_at 31 = .ok (.pop, 1) := by decide +kernel
theorem d_M_at_32 : decode b_M_at 32 = .ok (.aload_n 0, 1) := by decide +kernel
theorem d_M_at_33 : decode b_M_at 33 = .ok (.iload_n 2, 1) := by decide +kernel
theorem d_M_at_34 : decode b_M_at 34 = .ok (.i2l, 1) := by decide +kernel
theorem d_M_at_35 : decode b_M_at 35 = .ok (.lconst 0, 1) := by decide +kernel
theorem d_M_at_36 : decode b_M_at 36 = .ok (.ldc2_w 91, 3) := by decide +kernel
theorem d_M_at_39 : decode b_M_at 39 = .ok (.invokestatic 74, 3) := by decide +kernel
theorem d_M_at_42 : decode b_M_at 42 = .ok (.ifCond .ne 7, 3) := by decide +kernel
theorem d_M_at_45 : decode b_M_at 45 = .ok (.iconst 1, 1) := by decide +kernel
theorem d_M_at_46 : decode b_M_at 46 = .ok (.goto 4, 3) := by decide +kernel
theorem d_M_at_49 : decode b_M_at 49 = .ok (.iconst 0, 1) := by decide +kernel
theorem d_M_at_50 : decode b_M_at 50 = .ok (.iconst 2, 1) := by decide +kernel
theorem d_M_at_51 : decode b_M_at 51 = .ok (.invokevirtual 65, 3) := by decide +kernel
theorem d_M_at_54 : decode b_M_at 54 = .ok (.pop, 1) := by decide +kernel
theorem d_M_at_55 : decode b_M_at 55 = .ok (.aload_n 0, 1) := by decide +kernel
theorem d_M_at_56 : decode b_M_at 56 = .ok (.iload_n 2, 1) := by decide +kernel
theorem d_M_at_57 : decode b_M_at 57 = .ok (.iconst 4, 1) := by decide +kernel
theorem d_M_at_58 : decode b_M_at 58 = .ok (.if_icmp .ne 14, 3) := by decide +kernel
theorem d_M_at_61 : decode b_M_at 61 = .ok (.aload_n 0, 1) := by decide +kernel
theorem d_M_at_62 : decode b_M_at 62 = .ok (.getfield 62, 3) := by decide +kernel
theorem d_M_at_65 : decode b_M_at 65 = .ok (.ifCond .ne 7, 3) := by decide +kernel
theorem d_M_at_68 : decode b_M_at 68 = .ok (.iconst 1, 1) := by decide +kernel
theorem d_M_at_69 : decode b_M_at 69 = .ok (.goto 4, 3) := by decide +kernel
theorem d_M_at_72 : decode b_M_at 72 = .ok (.iconst 0, 1) := by decide +kernel
theorem d_M_at_73 : decode b_M_at 73 = .ok (.iconst 3, 1) := by decide +kernel
theorem d_M_at_74 : decode b_M_at 74 = .ok (.invokevirtual 65, 3) := by decide +kernel
theorem d_M_at_77 : decode b_M_at 77 = .ok (.ifCond .eq 5, 3) := by decide +kernel
theorem d_M_at_80 : decode b_M_at 80 = .ok (.iconst 0, 1) := by decide +kernel
theorem d_M_at_81 : decode b_M_at 81 = .ok (.ireturn, 1) := by decide +kernel
theorem d_M_at_82 : decode b_M_at 82 = .ok (.aload_n 0, 1) := by decide +kernel
theorem d_M_at_83 : decode b_M_at 83 = .ok (.getfield 38, 3) := by decide +kernel
theorem d_M_at_86 : decode b_M_at 86 = .ok (.iload_n 1, 1) := by decide +kernel
theorem d_M_at_87 : decode b_M_at 87 = .ok (.iaload, 1) := by decide +kernel
theorem d_M_at_88 : decode b_M_at 88 = .ok (.istore_n 3, 1) := by decide +kernel
theorem d_M_at_89 : decode b_M_at 89 = .ok (.iload_n 2, 1) := by decide +kernel
theorem d_M_at_90 : decode b_M_at 90 = .ok (.ifCond .ne 10, 3) := by decide +kernel
theorem d_M_at_93 : decode b_M_at 93 = .ok (.iload_n 3, 1) := by decide +kernel
theorem d_M_at_94 : decode b_M_at 94 = .ok (.bipush 24, 2) := by decide +kernel
theorem d_M_at_96 : decode b_M_at 96 = .ok (.idiv, 1) := by decide +kernel
theorem d_M_at_97 : decode b_M_at 97 = .ok (.goto 47, 3) := by decide +kernel
theorem d_M_at_100 : decode b_M_at 100 = .ok (.iload_n 2, 1) := by decide +kernel
theorem d_M_at_101 : decode b_M_at 101 = .ok (.iconst 1, 1) := by decide +kernel
theorem d_M_at_102 : decode b_M_at 102 = .ok (.if_icmp .ne 10, 3) := by decide +kernel
theorem d_M_at_105 : decode b_M_at 105 = .ok (.iload_n 3, 1) := by decide +kernel
theorem d_M_at_106 : decode b_M_at 106 = .ok (.bipush 24, 2) := by decide +kernel
theorem d_M_at_108 : decode b_M_at 108 = .ok (.irem, 1) := by decide +kernel
theorem d_M_at_109 : decode b_M_at 109 = .ok (.goto 35, 3) := by decide +kernel
theorem d_M_at_112 : decode b_M_at 112 = .ok (.iload_n 2, 1) := by decide +kernel
theorem d_M_at_113 : decode b_M_at 113 = .ok (.iconst 2, 1) := by decide +kernel
theorem d_M_at_114 : decode b_M_at 114 = .ok (.if_icmp .ne 12, 3) := by decide +kernel
theorem d_M_at_117 : decode b_M_at 117 = .ok (.aload_n 0, 1) := by decide +kernel
theorem d_M_at_118 : decode b_M_at 118 = .ok (.getfield 32, 3) := by decide +kernel
theorem d_M_at_121 : decode b_M_at 121 = .ok (.iload_n 3, 1) := by decide +kernel
theorem d_M_at_122 : decode b_M_at 122 = .ok (.iaload, 1) := by decide +kernel
theorem d_M_at_123 : decode b_M_at 123 = .ok (.goto 21, 3) := by decide +kernel
theorem d_M_at_126 : decode b_M_at 126 = .ok (.iload_n 2, 1) := by decide +kernel
theorem d_M_at_127 : decode b_M_at 127 = .ok (.iconst 3, 1) := by decide +kernel
theorem d_M_at_128 : decode b_M_at 128 = .ok (.if_icmp .ne 11, 3) := by decide +kernel
theorem d_M_at_131 : decode b_M_at 131 = .ok (.aload_n 0, 1) := by decide +kernel
theorem d_M_at_132 : decode b_M_at 132 = .ok (.iload_n 1, 1) := by decide +kernel
theorem d_M_at_133 : decode b_M_at 133 = .ok (.invokevirtual 117, 3) := by decide +kernel
theorem d_M_at_136 : decode b_M_at 136 = .ok (.goto 8, 3) := by decide +kernel
theorem d_M_at_139 : decode b_M_at 139 = .ok (.aload_n 0, 1) := by decide +kernel
theorem d_M_at_140 : decode b_M_at 140 = .ok (.iload_n 1, 1) := by decide +kernel
theorem d_M_at_141 : decode b_M_at 141 = .ok (.invokevirtual 121, 3) := by decide +kernel
theorem d_M_at_144 : decode b_M_at 144 = .ok (.ireturn, 1) := by decide +kernel
theorem d_M_last_0 : decode b_M_last 0 = .ok (.iconst (-1), 1) := by decide +kernel
theorem d_M_last_1 : decode b_M_last 1 = .ok (.istore_n 3, 1) := by decide +kernel
theorem d_M_last_2 : decode b_M_last 2 = .ok (.iconst 0, 1) := by decide +kernel
theorem d_M_last_3 : decode b_M_last 3 = .ok (.istore 4, 2) := by decide +kernel
theorem d_M_last_5 : decode b_M_last 5 = .ok (.iload 4, 2) := by decide +kernel
theorem d_M_last_7 : decode b_M_last 7 = .ok (.aload_n 0, 1) := by decide +kernel
theorem d_M_last_8 : decode b_M_last 8 = .ok (.getfield 41, 3) := by decide +kernel
theorem d_M_last_11 : decode b_M_last 11 = .ok (.iload_n 1, 1) := by decide +kernel
theorem d_M_last_12 : decode b_M_last 12 = .ok (.iconst 1, 1) := by decide +kernel
theorem d_M_last_13 : decode b_M_last 13 = .ok (.iadd, 1) := by decide +kernel
theorem d_M_last_14 : decode b_M_last 14 = .ok (.iaload, 1) := by decide +kernel
theorem d_M_last_15 : decode b_M_last 15 = .ok (.if_icmp .ge 48, 3) := by decide +kernel
theorem d_M_last_18 : decode b_M_last 18 = .ok (.aload_n 0, 1) := by decide +kernel
theorem d_M_last_19 : decode b_M_last 19 = .ok (.getfield 38, 3) := by decide +kernel
theorem d_M_last_22 : decode b_M_last 22 = .ok (.iload 4, 2) := by decide +kernel
theorem d_M_last_24 : decode b_M_last 24 = .ok (.iaload, 1) := by decide +kernel
theorem d_M_last_25 : decode b_M_last 25 = .ok (.bipush 24, 2) := by decide +kernel
theorem d_M_last_27 : decode b_M_last 27 = .ok (.idiv, 1) := by decide +kernel
theorem d_M_last_28 : decode b_M_last 28 = .ok (.iload_n 2, 1) := by decide +kernel
theorem d_M_last_29 : decode b_M_last 29 = .ok (.if_icmp .ne 28, 3) := by decide +kernel
theorem d_M_last_32 : decode b_M_last 32 = .ok (.aload_n 0, 1) := by decide +kernel
theorem d_M_last_33 : decode b_M_last 33 = .ok (.getfield 38, 3) := by decide +kernel
theorem d_M_last_36 : decode b_M_last 36 = .ok (.iload 4, 2) := by decide +kernel
theorem d_M_last_38 : decode b_M_last 38 = .ok (.iaload, 1) := by decide +kernel
theorem d_M_last_39 : decode b_M_last 39 = .ok (.bipush 24, 2) := by decide +kernel
theorem d_M_last_41 : decode b_M_last 41 = .ok (.irem, 1) := by decide +kernel
theorem d_M_last_42 : decode b_M_last 42 = .ok (.iload_n 3, 1) := by decide +kernel
theorem d_M_last_43 : decode b_M_last 43 = .ok (.if_icmp .le 14, 3) := by decide +kernel
theorem d_M_last_46 : decode b_M_last 46 = .ok (.aload_n 0, 1) := by decide +kernel
theorem d_M_last_47 : decode b_M_last 47 = .ok (.getfield 38, 3) := by decide +kernel
theorem d_M_last_50 : decode b_M_last 50 = .ok (.iload 4, 2) := by decide +kernel
theorem d_M_last_52 : decode b_M_last 52 = .ok (.iaload, 1) := by decide +kernel
theorem d_M_last_53 : decode b_M_last 53 = .ok (.bipush 24, 2) := by decide +kernel
theorem d_M_last_55 : decode b_M_last 55 = .ok (.irem, 1) := by decide +kernel
theorem d_M_last_56 : decode b_M_last 56 = .ok (.istore_n 3, 1) := by decide +kernel
theorem d_M_last_57 : decode b_M_last 57 = .ok (.iinc 4 1, 3) := by decide +kernel
theorem d_M_last_60 : decode b_M_last 60 = .ok (.goto (-55), 3) := by decide +kernel
theorem d_M_last_63 : decode b_M_last 63 = .ok (.iload_n 3, 1) := by decide +kernel
theorem d_M_last_64 : decode b_M_last 64 = .ok (.ireturn, 1) := by decide +kernel
theorem d_M_passes_0 : decode b_M_passes 0 = .ok (.aload_n 0, 1) := by decide +kernel
theorem d_M_passes_1 : decode b_M_passes 1 = .ok (.iconst 0, 1) := by decide +kernel
theorem d_M_passes_2 : decode b_M_passes 2 = .ok (.putfield 48, 3) := by decide +kernel
theorem d_M_passes_5 : decode b_M_passes 5 = .ok (.aload_n 0, 1) := by decide +kernel
theorem d_M_passes_6 : decode b_M_passes 6 = .ok (.aload_n 0, 1) := by decide +kernel
theorem d_M_passes_7 : decode b_M_passes 7 = .ok (.getfield 62, 3) := by decide +kernel
theorem d_M_passes_10 : decode b_M_passes 10 = .ok (.ifCond .ne 7, 3) := by decide +kernel
theorem d_M_passes_13 : decode b_M_passes 13 = .ok (.iconst 1, 1) := by decide +kernel
theorem d_M_passes_14 : decode b_M_passes 14 = .ok (.goto 4, 3) := by decide +kernel
theorem d_M_passes_17 : decode b_M_passes 17 = .ok (.iconst 0, 1) := by decide +kernel
theorem d_M_passes_18 : decode b_M_passes 18 = .ok (.iconst 1, 1) := by decide +kernel
theorem d_M_passes_19 : decode b_M_passes 19 = .ok (.invokevirtual 65, 3) := by decide +kernel
theorem d_M_passes_22 : decode b_M_passes 22 = .ok (.ifCond .ne 32, 3) := by decide +kernel
theorem d_M_passes_25 : decode b_M_passes 25 = .ok (.aload_n 0, 1) := by decide +kernel
theorem d_M_passes_26 : decode b_M_passes 26 = .ok (.aload_n 0, 1) := by decide +kernel
theorem d_M_passes_27 : decode b_M_passes 27 = .ok (.iload_n 1, 1) := by decide +kernel
theorem d_M_passes_28 : decode b_M_passes 28 = .ok (.invokevirtual 86, 3) := by decide +kernel
theorem d_M_passes_31 : decode b_M_passes 31 = .ok (.ifCond .eq 11, 3) := by decide +kernel
theorem d_M_passes_34 : decode b_M_passes 34 = .ok (.aload_n 0, 1) := by decide +kernel
theorem d_M_passes_35 : decode b_M_passes 35 = .ok (.iload_n 2, 1) := by decide +kernel
theorem d_M_passes_36 : decode b_M_passes 36 = .ok (.invokevirtual 54, 3) := by decide +kernel
theorem d_M_passes_39 : decode b_M_passes 39 = .ok (.ifCond .ne 7, 3) := by decide +kernel
theorem d_M_passes_42 : decode b_M_passes 42 = .ok (.iconst 1, 1) := by decide +kernel
theorem d_M_passes_43 : decode b_M_passes 43 = .ok (.goto 4, 3) := by decide +kernel
theorem d_M_passes_46 : decode b_M_passes 46 = .ok (.iconst 0, 1) := by decide +kernel
theorem d_M_passes_47 : decode b_M_passes 47 = .ok (.iconst 2, 1) := by decide +kernel
theorem d_M_passes_48 : decode b_M_passes 48 = .ok (.invokevirtual 65, 3) := by decide +kernel
theorem d_M_passes_51 : decode b_M_passes 51 = .ok (.ifCond .eq 5, 3) := by decide +kernel
theorem d_M_passes_54 : decode b_M_passes 54 = .ok (.iconst 0, 1) := by decide +kernel
theorem d_M_passes_55 : decode b_M_passes 55 = .ok (.ireturn, 1) := by decide +kernel
theorem d_M_passes_56 : decode b_M_passes 56 = .ok (.aload_n 0, 1) := by decide +kernel
theorem d_M_passes_57 : decode b_M_passes 57 = .ok (.iload_n 1, 1) := by decide +kernel
theorem d_M_passes_58 : decode b_M_passes 58 = .ok (.iload_n 2, 1) := by decide +kernel
theorem d_M_passes_59 : decode b_M_passes 59 = .ok (.invokevirtual 124, 3) := by decide +kernel
theorem d_M_passes_62 : decode b_M_passes 62 = .ok (.iconst 1, 1) := by decide +kernel
theorem d_M_passes_63 : decode b_M_passes 63 = .ok (.iadd, 1) := by decide +kernel
theorem d_M_passes_64 : decode b_M_passes 64 = .ok (.ireturn, 1) := by decide +kernel
theorem d_M_bytes_0 : decode b_M_bytes 0 = .ok (.aload_n 0, 1) := by decide +kernel
theorem d_M_bytes_1 : decode b_M_bytes 1 = .ok (.iconst 0, 1) := by decide +kernel
theorem d_M_bytes_2 : decode b_M_bytes 2 = .ok (.putfield 48, 3) := by decide +kernel
theorem d_M_bytes_5 : decode b_M_bytes 5 = .ok (.aload_n 0, 1) := by decide +kernel
theorem d_M_bytes_6 : decode b_M_bytes 6 = .ok (.aload_n 0, 1) := by decide +kernel
theorem d_M_bytes_7 : decode b_M_bytes 7 = .ok (.getfield 62, 3) := by decide +kernel
theorem d_M_bytes_10 : decode b_M_bytes 10 = .ok (.ifCond .ne 7, 3) := by decide +kernel
theorem d_M_bytes_13 : decode b_M_bytes 13 = .ok (.iconst 1, 1) := by decide +kernel
theorem d_M_bytes_14 : decode b_M_bytes 14 = .ok (.goto 4, 3) := by decide +kernel
theorem d_M_bytes_17 : decode b_M_bytes 17 = .ok (.iconst 0, 1) := by decide +kernel
theorem d_M_bytes_18 : decode b_M_bytes 18 = .ok (.iconst 1, 1) := by decide +kernel
theorem d_M_bytes_19 : decode b_M_bytes 19 = .ok (.invokevirtual 65, 3) := by decide +kernel
theorem d_M_bytes_22 : decode b_M_bytes 22 = .ok (.ifCond .ne 24, 3) := by decide +kernel
theorem d_M_bytes_25 : decode b_M_bytes 25 = .ok (.aload_n 0, 1) := by decide +kernel
theorem d_M_bytes_26 : decode b_M_bytes 26 = .ok (.aload_n 0, 1) := by decide +kernel
theorem d_M_bytes_27 : decode b_M_bytes 27 = .ok (.iload_n 1, 1) := by decide +kernel
theorem d_M_bytes_28 : decode b_M_bytes 28 = .ok (.invokevirtual 86, 3) := by decide +kernel
theorem d_M_bytes_31 : decode b_M_bytes 31 = .ok (.ifCond .ne 7, 3) := by decide +kernel
theorem d_M_bytes_34 : decode b_M_bytes 34 = .ok (.iconst 1, 1) := by decide +kernel
theorem d_M_bytes_35 : decode b_M_bytes 35 = .ok (.goto 4, 3) := by decide +kernel
theorem d_M_bytes_38 : decode b_M_bytes 38 = .ok (.iconst 0, 1) := by decide +kernel
theorem d_M_bytes_39 : decode b_M_bytes 39 = .ok (.iconst 2, 1) := by decide +kernel
theorem d_M_bytes_40 : decode b_M_bytes 40 = .ok (.invokevirtual 65, 3) := by decide +kernel
theorem d_M_bytes_43 : decode b_M_bytes 43 = .ok (.ifCond .eq 5, 3) := by decide +kernel
theorem d_M_bytes_46 : decode b_M_bytes 46 = .ok (.iconst 0, 1) := by decide +kernel
theorem d_M_bytes_47 : decode b_M_bytes 47 = .ok (.ireturn, 1) := by decide +kernel
theorem d_M_bytes_48 : decode b_M_bytes 48 = .ok (.aload_n 0, 1) := by decide +kernel
theorem d_M_bytes_49 : decode b_M_bytes 49 = .ok (.getfield 29, 3) := by decide +kernel
theorem d_M_bytes_52 : decode b_M_bytes 52 = .ok (.iload_n 1, 1) := by decide +kernel
theorem d_M_bytes_53 : decode b_M_bytes 53 = .ok (.iaload, 1) := by decide +kernel
theorem d_M_bytes_54 : decode b_M_bytes 54 = .ok (.aload_n 0, 1) := by decide +kernel
theorem d_M_bytes_55 : decode b_M_bytes 55 = .ok (.getfield 26, 3) := by decide +kernel
theorem d_M_bytes_58 : decode b_M_bytes 58 = .ok (.iload_n 1, 1) := by decide +kernel
theorem d_M_bytes_59 : decode b_M_bytes 59 = .ok (.iaload, 1) := by decide +kernel
theorem d_M_bytes_60 : decode b_M_bytes 60 = .ok (.if_icmp .le 5, 3) := by decide +kernel
theorem d_M_bytes_63 : decode b_M_bytes 63 = .ok (.iconst 0, 1) := by decide +kernel
theorem d_M_bytes_64 : decode b_M_bytes 64 = .ok (.ireturn, 1) := by decide +kernel
theorem d_M_bytes_65 : decode b_M_bytes 65 = .ok (.aload_n 0, 1) := by decide +kernel
theorem d_M_bytes_66 : decode b_M_bytes 66 = .ok (.getfield 29, 3) := by decide +kernel
theorem d_M_bytes_69 : decode b_M_bytes 69 = .ok (.iload_n 1, 1) := by decide +kernel
theorem d_M_bytes_70 : decode b_M_bytes 70 = .ok (.iaload, 1) := by decide +kernel
theorem d_M_bytes_71 : decode b_M_bytes 71 = .ok (.istore_n 2, 1) := by decide +kernel
theorem d_M_bytes_72 : decode b_M_bytes 72 = .ok (.aload_n 0, 1) := by decide +kernel
theorem d_M_bytes_73 : decode b_M_bytes 73 = .ok (.getfield 41, 3) := by decide +kernel
theorem d_M_bytes_76 : decode b_M_bytes 76 = .ok (.iload_n 1, 1) := by decide +kernel
theorem d_M_bytes_77 : decode b_M_bytes 77 = .ok (.iaload, 1) := by decide +kernel
theorem d_M_bytes_78 : decode b_M_bytes 78 = .ok (.istore_n 3, 1) := by decide +kernel
theorem d_M_bytes_79 : decode b_M_bytes 79 = .ok (.iload_n 3, 1) := by decide +kernel
theorem d_M_bytes_80 : decode b_M_bytes 80 = .ok (.aload_n 0, 1) := by decide +kernel
theorem d_M_bytes_81 : decode b_M_bytes 81 = .ok (.getfield 41, 3) := by decide +kernel
theorem d_M_bytes_84 : decode b_M_bytes 84 = .ok (.iload_n 1, 1) := by decide +kernel
theorem d_M_bytes_85 : decode b_M_bytes 85 = .ok (.iconst 1, 1) := by decide +kernel
theorem d_M_bytes_86 : decode b_M_bytes 86 = .ok (.iadd, 1) := by decide +kernel
theorem d_M_bytes_87 : decode b_M_bytes 87 = .ok (.iaload, 1) := by decide +kernel
theorem d_M_bytes_88 : decode b_M_bytes 88 = .ok (.if_icmp .ge 23, 3) := by decide +kernel
theorem d_M_bytes_91 : decode b_M_bytes 91 = .ok (.iload_n 2, 1) := by decide +kernel
theorem d_M_bytes_92 : decode b_M_bytes 92 = .ok (.aload_n 0, 1) := by decide +kernel
theorem d_M_bytes_93 : decode b_M_bytes 93 = .ok (.getfield 32, 3) := by decide +kernel
theorem d_M_bytes_96 : decode b_M_bytes 96 = .ok (.aload_n 0, 1) := by decide +kernel
theorem d_M_bytes_97 : decode b_M_bytes 97 = .ok (.getfield 38, 3) := by decide +kernel
theorem d_M_bytes_100 : decode b_M_bytes 100 = .ok (.iload_n 3, 1) := by decide +kernel
theorem d_M_bytes_101 : decode b_M_bytes 101 = .ok (.iaload, 1) := by decide +kernel
theorem d_M_bytes_102 : decode b_M_bytes 102 = .ok (.iaload, 1) := by decide +kernel
theorem d_M_bytes_103 : decode b_M_bytes 103 = .ok (.iadd, 1) := by decide +kernel
theorem d_M_bytes_104 : decode b_M_bytes 104 = .ok (.istore_n 2, 1) := by decide +kernel
theorem d_M_bytes_105 : decode b_M_bytes 105 = .ok (.iinc 3 1, 3) := by decide +kernel
theorem d_M_bytes_108 : decode b_M_bytes 108 = .ok (.goto (-29), 3) := by decide +kernel
theorem d_M_bytes_111 : decode b_M_bytes 111 = .ok (.iload_n 2, 1) := by decide +kernel
theorem d_M_bytes_112 : decode b_M_bytes 112 = .ok (.ireturn, 1) := by decide +kernel
theorem d_M_gained_0 : decode b_M_gained 0 = .ok (.aload_n 0, 1) := by decide +kernel
theorem d_M_gained_1 : decode b_M_gained 1 = .ok (.iconst 0, 1) := by decide +kernel
theorem d_M_gained_2 : decode b_M_gained 2 = .ok (.putfield 48, 3) := by decide +kernel
theorem d_M_gained_5 : decode b_M_gained 5 = .ok (.aload_n 0, 1) := by decide +kernel
theorem d_M_gained_6 : decode b_M_gained 6 = .ok (.aload_n 0, 1) := by decide +kernel
theorem d_M_gained_7 : decode b_M_gained 7 = .ok (.getfield 62, 3) := by decide +kernel
theorem d_M_gained_10 : decode b_M_gained 10 = .ok (.ifCond .ne 7, 3) := by decide +kernel
theorem d_M_gained_13 : decode b_M_gained 13 = .ok (.iconst 1, 1) := by decide +kernel
theorem d_M_gained_14 : decode b_M_gained 14 = .ok (.goto 4, 3) := by decide +kernel
theorem d_M_gained_17 : decode b_M_gained 17 = .ok (.iconst 0, 1) := by decide +kernel
theorem d_M_gained_18 : decode b_M_gained 18 = .ok (.iconst 1, 1) := by decide +kernel
theorem d_M_gained_19 : decode b_M_gained 19 = .ok (.invokevirtual 65, 3) := by decide +kernel
theorem d_M_gained_22 : decode b_M_gained 22 = .ok (.ifCond .ne 24, 3) := by decide +kernel
theorem d_M_gained_25 : decode b_M_gained 25 = .ok (.aload_n 0, 1) := by decide +kernel
theorem d_M_gained_26 : decode b_M_gained 26 = .ok (.aload_n 0, 1) := by decide +kernel
theorem d_M_gained_27 : decode b_M_gained 27 = .ok (.iload_n 1, 1) := by decide +kernel
theorem d_M_gained_28 : decode b_M_gained 28 = .ok (.invokevirtual 86, 3) := by decide +kernel
theorem d_M_gained_31 : decode b_M_gained 31 = .ok (.ifCond .ne 7, 3) := by decide +kernel
theorem d_M_gained_34 : decode b_M_gained 34 = .ok (.iconst 1, 1) := by decide +kernel
theorem d_M_gained_35 : decode b_M_gained 35 = .ok (.goto 4, 3) := by decide +kernel
theorem d_M_gained_38 : decode b_M_gained 38 = .ok (.iconst 0, 1) := by decide +kernel
theorem d_M_gained_39 : decode b_M_gained 39 = .ok (.iconst 2, 1) := by decide +kernel
theorem d_M_gained_40 : decode b_M_gained 40 = .ok (.invokevirtual 65, 3) := by decide +kernel
theorem d_M_gained_43 : decode b_M_gained 43 = .ok (.ifCond .eq 5, 3) := by decide +kernel
theorem d_M_gained_46 : decode b_M_gained 46 = .ok (.lconst 0, 1) := by decide +kernel
theorem d_M_gained_47 : decode b_M_gained 47 = .ok (.lreturn, 1) := by decide +kernel
theorem d_M_gained_48 : decode b_M_gained 48 = .ok (.lconst 0, 1) := by decide +kernel
theorem d_M_gained_49 : decode b_M_gained 49 = .ok (.lstore_n 2, 1) := by decide +kernel
theorem d_M_gained_50 : decode b_M_gained 50 = .ok (.iconst 0, 1) := by decide +kernel
theorem d_M_gained_51 : decode b_M_gained 51 = .ok (.istore 4, 2) := by decide +kernel
theorem d_M_gained_53 : decode b_M_gained 53 = .ok (.iload 4, 2) := by decide +kernel
theorem d_M_gained_55 : decode b_M_gained 55 = .ok (.aload_n 0, 1) := by decide +kernel
theorem d_M_gained_56 : decode b_M_gained 56 = .ok (.getfield 51, 3) := by decide +kernel
theorem d_M_gained_59 : decode b_M_gained 59 = .ok (.if_icmp .ge 25, 3) := by decide +kernel
theorem d_M_gained_62 : decode b_M_gained 62 = .ok (.lload_n 2, 1) := by decide +kernel
theorem d_M_gained_63 : decode b_M_gained 63 = .ok (.aload_n 0, 1) := by decide +kernel
theorem d_M_gained_64 : decode b_M_gained 64 = .ok (.iload 4, 2) := by decide +kernel
theorem d_M_gained_66 : decode b_M_gained 66 = .ok (.aload_n 0, 1) := by decide +kernel
theorem d_M_gained_67 : decode b_M_gained 67 = .ok (.iload_n 1, 1) := by decide +kernel
theorem d_M_gained_68 : decode b_M_gained 68 = .ok (.iload 4, 2) := by decide +kernel
theorem d_M_gained_70 : decode b_M_gained 70 = .ok (.invokevirtual 124, 3) := by decide +kernel
theorem d_M_gained_73 : decode b_M_gained 73 = .ok (.invokevirtual 93, 3) := by decide +kernel
theorem d_M_gained_76 : decode b_M_gained 76 = .ok (.ladd, 1) := by decide +kernel
theorem d_M_gained_77 : decode b_M_gained 77 = .ok (.lstore_n 2, 1) := by decide +kernel
theorem d_M_gained_78 : decode b_M_gained 78 = .ok (.iinc 4 1, 3) := by decide +kernel
theorem d_M_gained_81 : decode b_M_gained 81 = .ok (.goto (-28), 3) := by decide +kernel
theorem d_M_gained_84 : decode b_M_gained 84 = .ok (.lload_n 2, 1) := by decide +kernel
theorem d_M_gained_85 : decode b_M_gained 85 = .ok (.lreturn, 1) := by decide +kernel
theorem d_M_least_0 : decode b_M_least 0 = .ok (.aload_n 0, 1) := by decide +kernel
theorem d_M_least_1 : decode b_M_least 1 = .ok (.iconst 0, 1) := by decide +kernel
theorem d_M_least_2 : decode b_M_least 2 = .ok (.putfield 48, 3) := by decide +kernel
theorem d_M_least_5 : decode b_M_least 5 = .ok (.aload_n 0, 1) := by decide +kernel
theorem d_M_least_6 : decode b_M_least 6 = .ok (.invokevirtual 111, 3) := by decide +kernel
theorem d_M_least_9 : decode b_M_least 9 = .ok (.aload_n 0, 1) := by decide +kernel
theorem d_M_least_10 : decode b_M_least 10 = .ok (.iload_n 1, 1) := by decide +kernel
theorem d_M_least_11 : decode b_M_least 11 = .ok (.ifCond .lt 11, 3) := by decide +kernel
theorem d_M_least_14 : decode b_M_least 14 = .ok (.iload_n 1, 1) := by decide +kernel
theorem d_M_least_15 : decode b_M_least 15 = .ok (.aload_n 0, 1) := by decide +kernel
theorem d_M_least_16 : decode b_M_least 16 = .ok (.getfield 101, 3) := by decide +kernel
theorem d_M_least_19 : decode b_M_least 19 = .ok (.if_icmp .le 7, 3) := by decide +kernel
theorem d_M_least_22 : decode b_M_least 22 = .ok (.iconst 1, 1) := by decide +kernel
theorem d_M_least_23 : decode b_M_least 23 = .ok (.goto 4, 3) := by decide +kernel
theorem d_M_least_26 : decode b_M_least 26 = .ok (.iconst 0, 1) := by decide +kernel
theorem d_M_least_27 : decode b_M_least 27 = .ok (.iconst 1, 1) := by decide +kernel
theorem d_M_least_28 : decode b_M_least 28 = .ok (.invokevirtual 65, 3) := by decide +kernel
theorem d_M_least_31 : decode b_M_least 31 = .ok (.ifCond .eq 5, 3) := by decide +kernel
theorem d_M_least_34 : decode b_M_least 34 = .ok (.iconst 0, 1) := by decide +kernel
theorem d_M_least_35 : decode b_M_least 35 = .ok (.ireturn, 1) := by decide +kernel
theorem d_M_least_36 : decode b_M_least 36 = .ok (.iconst 0, 1) := by decide +kernel
theorem d_M_least_37 : decode b_M_least 37 = .ok (.istore_n 2, 1) := by decide +kernel
theorem d_M_least_38 : decode b_M_least 38 = .ok (.iconst 0, 1) := by decide +kernel
theorem d_M_least_39 : decode b_M_least 39 = .ok (.istore_n 3, 1) := by decide +kernel
theorem d_M_least_40 : decode b_M_least 40 = .ok (.iload_n 3, 1) := by decide +kernel
theorem d_M_least_41 : decode b_M_least 41 = .ok (.iload_n 1, 1) := by decide +kernel
theorem d_M_least_42 : decode b_M_least 42 = .ok (.if_icmp .ge 23, 3) := by decide +kernel
theorem d_M_least_45 : decode b_M_least 45 = .ok (.iload_n 2, 1) := by decide +kernel
theorem d_M_least_46 : decode b_M_least 46 = .ok (.aload_n 0, 1) := by decide +kernel
theorem d_M_least_47 : decode b_M_least 47 = .ok (.getfield 32, 3) := by decide +kernel
theorem d_M_least_50 : decode b_M_least 50 = .ok (.aload_n 0, 1) := by decide +kernel
theorem d_M_least_51 : decode b_M_least 51 = .ok (.getfield 38, 3) := by decide +kernel
theorem d_M_least_54 : decode b_M_least 54 = .ok (.iload_n 3, 1) := by decide +kernel
theorem d_M_least_55 : decode b_M_least 55 = .ok (.iaload, 1) := by decide +kernel
theorem d_M_least_56 : decode b_M_least 56 = .ok (.iaload, 1) := by decide +kernel
theorem d_M_least_57 : decode b_M_least 57 = .ok (.iadd, 1) := by decide +kernel
theorem d_M_least_58 : decode b_M_least 58 = .ok (.istore_n 2, 1) := by decide +kernel
theorem d_M_least_59 : decode b_M_least 59 = .ok (.iinc 3 1, 3) := by decide +kernel
theorem d_M_least_62 : decode b_M_least 62 = .ok (.goto (-22), 3) := by decide +kernel
theorem d_M_least_65 : decode b_M_least 65 = .ok (.iload_n 2, 1) := by decide +kernel
theorem d_M_least_66 : decode b_M_least 66 = .ok (.ireturn, 1) := by decide +kernel
theorem d_M_above_0 : decode b_M_above 0 = .ok (.aload_n 0, 1) := by decide +kernel
theorem d_M_above_1 : decode b_M_above 1 = .ok (.iconst 0, 1) := by decide +kernel
theorem d_M_above_2 : decode b_M_above 2 = .ok (.putfield 48, 3) := by decide +kernel
theorem d_M_above_5 : decode b_M_above 5 = .ok (.aload_n 0, 1) := by decide +kernel
theorem d_M_above_6 : decode b_M_above 6 = .ok (.invokevirtual 111, 3) := by decide +kernel
theorem d_M_above_9 : decode b_M_above 9 = .ok (.aload_n 0, 1) := by decide +kernel
theorem d_M_above_10 : decode b_M_above 10 = .ok (.iload_n 3, 1) := by decide +kernel
theorem d_M_above_11 : decode b_M_above 11 = .ok (.i2l, 1) := by decide +kernel
theorem d_M_above_12 : decode b_M_above 12 = .ok (.lconst 1, 1) := by decide +kernel
theorem d_M_above_13 : decode b_M_above 13 = .ok (.ldc2_w 80, 3) := by decide +kernel
theorem d_M_above_16 : decode b_M_above 16 = .ok (.invokestatic 74, 3) := by decide +kernel
theorem d_M_above_19 : decode b_M_above 19 = .ok (.ifCond .eq 16, 3) := by decide +kernel
theorem d_M_above_22 : decode b_M_above 22 = .ok (.lload_n 1, 1) := by decide +kernel
theorem d_M_above_23 : decode b_M_above 23 = .ok (.ldc2_w 127, 3) := by decide +kernel
theorem d_M_above_26 : decode b_M_above 26 = .ok (.ldc2_w 129, 3) := by decide +kernel
theorem d_M_above_29 : decode b_M_above 29 = .ok (.invokestatic 74, 3) := by decide +kernel
theorem d_M_above_32 : decode b_M_above 32 = .ok (.ifCond .ne 7, 3) := by decide +kernel
theorem d_M_above_35 : decode b_M_above 35 = .ok (.iconst 1, 1) := by decide +kernel
theorem d_M_above_36 : decode b_M_above 36 = .ok (.goto 4, 3) := by decide +kernel
theorem d_M_above_39 : decode b_M_above 39 = .ok (.iconst 0, 1) := by decide +kernel
theorem d_M_above_40 : decode b_M_above 40 = .ok (.iconst 1, 1) := by decide +kernel
theorem d_M_above_41 : decode b_M_above 41 = .ok (.invokevirtual 65, 3) := by decide +kernel
theorem d_M_above_44 : decode b_M_above 44 = .ok (.ifCond .eq 5, 3) := by decide +kernel
theorem d_M_above_47 : decode b_M_above 47 = .ok (.iconst 0, 1) := by decide +kernel
theorem d_M_above_48 : decode b_M_above 48 = .ok (.ireturn, 1) := by decide +kernel
theorem d_M_above_49 : decode b_M_above 49 = .ok (.iconst 0, 1) := by decide +kernel
theorem d_M_above_50 : decode b_M_above 50 = .ok (.istore 4, 2) := by decide +kernel
theorem d_M_above_52 : decode b_M_above 52 = .ok (.iload 4, 2) := by decide +kernel
theorem d_M_above_54 : decode b_M_above 54 = .ok (.aload_n 0, 1) := by decide +kernel
theorem d_M_above_55 : decode b_M_above 55 = .ok (.getfield 101, 3) := by decide +kernel
theorem d_M_above_58 : decode b_M_above 58 = .ok (.if_icmp .ge 43, 3) := by decide +kernel
theorem d_M_above_61 : decode b_M_above 61 = .ok (.aload_n 0, 1) := by decide +kernel
theorem d_M_above_62 : decode b_M_above 62 = .ok (.getfield 35, 3) := by decide +kernel
theorem d_M_above_65 : decode b_M_above 65 = .ok (.aload_n 0, 1) := by decide +kernel
theorem d_M_above_66 : decode b_M_above 66 = .ok (.getfield 38, 3) := by decide +kernel
theorem d_M_above_69 : decode b_M_above 69 = .ok (.iload 4, 2) := by decide +kernel
theorem d_M_above_71 : decode b_M_above 71 = .ok (.iaload, 1) := by decide +kernel
theorem d_M_above_72 : decode b_M_above 72 = .ok (.laload, 1) := by decide +kernel
theorem d_M_above_73 : decode b_M_above 73 = .ok (.iload_n 3, 1) := by decide +kernel
theorem d_M_above_74 : decode b_M_above 74 = .ok (.i2l, 1) := by decide +kernel
theorem d_M_above_75 : decode b_M_above 75 = .ok (.lmul, 1) := by decide +kernel
theorem d_M_above_76 : decode b_M_above 76 = .ok (.lload_n 1, 1) := by decide +kernel
theorem d_M_above_77 : decode b_M_above 77 = .ok (.aload_n 0, 1) := by decide +kernel
theorem d_M_above_78 : decode b_M_above 78 = .ok (.getfield 32, 3) := by decide +kernel
theorem d_M_above_81 : decode b_M_above 81 = .ok (.aload_n 0, 1) := by decide +kernel
theorem d_M_above_82 : decode b_M_above 82 = .ok (.getfield 38, 3) := by decide +kernel
theorem d_M_above_85 : decode b_M_above 85 = .ok (.iload 4, 2) := by decide +kernel
theorem d_M_above_87 : decode b_M_above 87 = .ok (.iaload, 1) := by decide +kernel
theorem d_M_above_88 : decode b_M_above 88 = .ok (.iaload, 1) := by decide +kernel
theorem d_M_above_89 : decode b_M_above 89 = .ok (.i2l, 1) := by decide +kernel
theorem d_M_above_90 : decode b_M_above 90 = .ok (.lmul, 1) := by decide +kernel
theorem d_M_above_91 : decode b_M_above 91 = .ok (.lcmp, 1) := by decide +kernel
theorem d_M_above_92 : decode b_M_above 92 = .ok (.ifCond .lt 9, 3) := by decide +kernel
theorem d_M_above_95 : decode b_M_above 95 = .ok (.iinc 4 1, 3) := by decide +kernel
theorem d_M_above_98 : decode b_M_above 98 = .ok (.goto (-46), 3) := by decide +kernel
theorem d_M_above_101 : decode b_M_above 101 = .ok (.iload 4, 2) := by decide +kernel
theorem d_M_above_103 : decode b_M_above 103 = .ok (.ireturn, 1) := by decide +kernel
theorem d_M_told_0 : decode b_M_told 0 = .ok (.aload_n 0, 1) := by decide +kernel
theorem d_M_told_1 : decode b_M_told 1 = .ok (.iconst 0, 1) := by decide +kernel
theorem d_M_told_2 : decode b_M_told 2 = .ok (.putfield 48, 3) := by decide +kernel
theorem d_M_told_5 : decode b_M_told 5 = .ok (.iconst 0, 1) := by decide +kernel
theorem d_M_told_6 : decode b_M_told 6 = .ok (.istore_n 2, 1) := by decide +kernel
theorem d_M_told_7 : decode b_M_told 7 = .ok (.iconst 0, 1) := by decide +kernel
theorem d_M_told_8 : decode b_M_told 8 = .ok (.istore_n 3, 1) := by decide +kernel
theorem d_M_told_9 : decode b_M_told 9 = .ok (.iload_n 3, 1) := by decide +kernel
theorem d_M_told_10 : decode b_M_told 10 = .ok (.aload_n 0, 1) := by decide +kernel
theorem d_M_told_11 : decode b_M_told 11 = .ok (.getfield 51, 3) := by decide +kernel
theorem d_M_told_14 : decode b_M_told 14 = .ok (.if_icmp .ge 18, 3) := by decide +kernel
theorem d_M_told_17 : decode b_M_told 17 = .ok (.iload_n 2, 1) := by decide +kernel
theorem d_M_told_18 : decode b_M_told 18 = .ok (.aload_n 0, 1) := by decide +kernel
theorem d_M_told_19 : decode b_M_told 19 = .ok (.getfield 7, 3) := by decide +kernel
theorem d_M_told_22 : decode b_M_told 22 = .ok (.iload_n 3, 1) := by decide +kernel
theorem d_M_told_23 : decode b_M_told 23 = .ok (.iaload, 1) := by decide +kernel
theorem d_M_told_24 : decode b_M_told 24 = .ok (.iadd, 1) := by decide +kernel
theorem d_M_told_25 : decode b_M_told 25 = .ok (.istore_n 2, 1) := by decide +kernel
theorem d_M_told_26 : decode b_M_told 26 = .ok (.iinc 3 1, 3) := by decide +kernel
theorem d_M_told_29 : decode b_M_told 29 = .ok (.goto (-20), 3) := by decide +kernel
theorem d_M_told_32 : decode b_M_told 32 = .ok (.iload_n 1, 1) := by decide +kernel
theorem d_M_told_33 : decode b_M_told 33 = .ok (.ifCond .ne 10, 3) := by decide +kernel
theorem d_M_told_36 : decode b_M_told 36 = .ok (.aload_n 0, 1) := by decide +kernel
theorem d_M_told_37 : decode b_M_told 37 = .ok (.getfield 44, 3) := by decide +kernel
theorem d_M_told_40 : decode b_M_told 40 = .ok (.goto 45, 3) := by decide +kernel
theorem d_M_told_43 : decode b_M_told 43 = .ok (.iload_n 1, 1) := by decide +kernel
theorem d_M_told_44 : decode b_M_told 44 = .ok (.iconst 1, 1) := by decide +kernel
theorem d_M_told_45 : decode b_M_told 45 = .ok (.if_icmp .ne 10, 3) := by decide +kernel
theorem d_M_told_48 : decode b_M_told 48 = .ok (.aload_n 0, 1) := by decide +kernel
theorem d_M_told_49 : decode b_M_told 49 = .ok (.getfield 51, 3) := by decide +kernel
theorem d_M_told_52 : decode b_M_told 52 = .ok (.goto 33, 3) := by decide +kernel
theorem d_M_told_55 : decode b_M_told 55 = .ok (.iload_n 1, 1) := by decide +kernel
theorem d_M_told_56 : decode b_M_told 56 = .ok (.iconst 2, 1) := by decide +kernel
theorem d_M_told_57 : decode b_M_told 57 = .ok (.if_icmp .ne 7, 3) := by decide +kernel
theorem d_M_told_60 : decode b_M_told 60 = .ok (.iload_n 2, 1) := by decide +kernel
theorem d_M_told_61 : decode b_M_told 61 = .ok (.goto 24, 3) := by decide +kernel
theorem d_M_told_64 : decode b_M_told 64 = .ok (.iload_n 1, 1) := by decide +kernel
theorem d_M_told_65 : decode b_M_told 65 = .ok (.iconst 3, 1) := by decide +kernel
theorem d_M_told_66 : decode b_M_told 66 = .ok (.if_icmp .ne 18, 3) := by decide +kernel
theorem d_M_told_69 : decode b_M_told 69 = .ok (.aload_n 0, 1) := by decide +kernel
theorem d_M_told_70 : decode b_M_told 70 = .ok (.getfield 62, 3) := by decide +kernel
theorem d_M_told_73 : decode b_M_told 73 = .ok (.ifCond .eq 7, 3) := by decide +kernel
theorem d_M_told_76 : decode b_M_told 76 = .ok (.iconst 1, 1) := by decide +kernel
theorem d_M_told_77 : decode b_M_told 77 = .ok (.goto 8, 3) := by decide +kernel
theorem d_M_told_80 : decode b_M_told 80 = .ok (.iconst 0, 1) := by decide +kernel
theorem d_M_told_81 : decode b_M_told 81 = .ok (.goto 4, 3) := by decide +kernel
theorem d_M_told_84 : decode b_M_told 84 = .ok (.iconst (-1), 1) := by decide +kernel
theorem d_M_told_85 : decode b_M_told 85 = .ok (.ireturn, 1) := by decide +kernel
theorem d_M_clear_0 : decode b_M_clear 0 = .ok (.aload_n 0, 1) := by decide +kernel
theorem d_M_clear_1 : decode b_M_clear 1 = .ok (.iconst 0, 1) := by decide +kernel
theorem d_M_clear_2 : decode b_M_clear 2 = .ok (.putfield 48, 3) := by decide +kernel
theorem d_M_clear_5 : decode b_M_clear 5 = .ok (.aload_n 0, 1) := by decide +kernel
theorem d_M_clear_6 : decode b_M_clear 6 = .ok (.iconst 0, 1) := by decide +kernel
theorem d_M_clear_7 : decode b_M_clear 7 = .ok (.putfield 51, 3) := by decide +kernel
theorem d_M_clear_10 : decode b_M_clear 10 = .ok (.iconst 0, 1) := by decide +kernel
theorem d_M_clear_11 : decode b_M_clear 11 = .ok (.istore_n 1, 1) := by decide +kernel
theorem d_M_clear_12 : decode b_M_clear 12 = .ok (.iload_n 1, 1) := by decide +kernel
theorem d_M_clear_13 : decode b_M_clear 13 = .ok (.bipush 16, 2) := by decide +kernel
theorem d_M_clear_15 : decode b_M_clear 15 = .ok (.if_icmp .ge 23, 3) := by decide +kernel
theorem d_M_clear_18 : decode b_M_clear 18 = .ok (.aload_n 0, 1) := by decide +kernel
theorem d_M_clear_19 : decode b_M_clear 19 = .ok (.getfield 26, 3) := by decide +kernel
theorem d_M_clear_22 : decode b_M_clear 22 = .ok (.iload_n 1, 1) := by decide +kernel
theorem d_M_clear_23 : decode b_M_clear 23 = .ok (.iconst 0, 1) := by decide +kernel
theorem d_M_clear_24 : decode b_M_clear 24 = .ok (.iastore, 1) := by decide +kernel
theorem d_M_clear_25 : decode b_M_clear 25 = .ok (.aload_n 0, 1) := by decide +kernel
theorem d_M_clear_26 : decode b_M_clear 26 = .ok (.getfield 29, 3) := by decide +kernel
theorem d_M_clear_29 : decode b_M_clear 29 = .ok (.iload_n 1, 1) := by decide +kernel
theorem d_M_clear_30 : decode b_M_clear 30 = .ok (.iconst 0, 1) := by decide +kernel
theorem d_M_clear_31 : decode b_M_clear 31 = .ok (.iastore, 1) := by decide +kernel
theorem d_M_clear_32 : decode b_M_clear 32 = .ok (.iinc 1 1, 3) := by decide +kernel
theorem d_M_clear_35 : decode b_M_clear 35 = .ok (.goto (-23), 3) := by decide +kernel
theorem d_M_clear_38 : decode b_M_clear 38 = .ok (.aload_n 0, 1) := by decide +kernel
theorem d_M_clear_39 : decode b_M_clear 39 = .ok (.invokevirtual 69, 3) := by decide +kernel
theorem d_M_clear_42 : decode b_M_clear 42 = .ok (.return_, 1) := by decide +kernel
