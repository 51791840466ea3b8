theorem d_L_cell_0 : decode b_L_cell 0 = .ok (.iload_n 1, 1) := by decide +kernel
theorem d_L_cell_1 : decode b_L_cell 1 = .ok (.aload_n 0, 1) := by decide +kernel
theorem d_L_cell_2 : decode b_L_cell 2 = .ok (.arraylength, 1) := by decide +kernel
theorem d_L_cell_3 : decode b_L_cell 3 = .ok (.if_icmp .ge 9, 3) := by decide +kernel
theorem d_L_cell_6 : decode b_L_cell 6 = .ok (.aload_n 0, 1) := by decide +kernel
theorem d_L_cell_7 : decode b_L_cell 7 = .ok (.iload_n 1, 1) := by decide +kernel
theorem d_L_cell_8 : decode b_L_cell 8 = .ok (.iaload, 1) := by decide +kernel
theorem d_L_cell_9 : decode b_L_cell 9 = .ok (.goto 4, 3) := by decide +kernel
theorem d_L_cell_12 : decode b_L_cell 12 = .ok (.iconst 0, 1) := by decide +kernel
theorem d_L_cell_13 : decode b_L_cell 13 = .ok (.ireturn, 1) := by decide +kernel
theorem d_L_block_0 : decode b_L_block 0 = .ok (.aload_n 1, 1) := by decide +kernel
theorem d_L_block_1 : decode b_L_block 1 = .ok (.iconst 0, 1) := by decide +kernel
theorem d_L_block_2 : decode b_L_block 2 = .ok (.aload_n 0, 1) := by decide +kernel
theorem d_L_block_3 : decode b_L_block 3 = .ok (.invokevirtual 7, 3) := by decide +kernel
theorem d_L_block_6 : decode b_L_block 6 = .ok (.i2l, 1) := by decide +kernel
theorem d_L_block_7 : decode b_L_block 7 = .ok (.lastore, 1) := by decide +kernel
theorem d_L_block_8 : decode b_L_block 8 = .ok (.goto 6, 3) := by decide +kernel
theorem d_L_block_11 : decode b_L_block 11 = .ok (.astore_n 2, 1) := by decide +kernel
theorem d_L_block_12 : decode b_L_block 12 = .ok (.iconst 1, 1) := by decide +kernel
theorem d_L_block_13 : decode b_L_block 13 = .ok (.ireturn, 1) := by decide +kernel
theorem d_L_block_14 : decode b_L_block 14 = .ok (.iconst 0, 1) := by decide +kernel
theorem d_L_block_15 : decode b_L_block 15 = .ok (.ireturn, 1) := by decide +kernel
theorem d_L_pass_0 : decode b_L_pass 0 = .ok (.aload 4, 2) := by decide +kernel
theorem d_L_pass_2 : decode b_L_pass 2 = .ok (.iconst 0, 1) := by decide +kernel
theorem d_L_pass_3 : decode b_L_pass 3 = .ok (.aload_n 0, 1) := by decide +kernel
theorem d_L_pass_4 : decode b_L_pass 4 = .ok (.iload_n 1, 1) := by decide +kernel
theorem d_L_pass_5 : decode b_L_pass 5 = .ok (.iload_n 2, 1) := by decide +kernel
theorem d_L_pass_6 : decode b_L_pass 6 = .ok (.iload_n 3, 1) := by decide +kernel
theorem d_L_pass_7 : decode b_L_pass 7 = .ok (.invokevirtual 15, 3) := by decide +kernel
theorem d_L_pass_10 : decode b_L_pass 10 = .ok (.i2l, 1) := by decide +kernel
theorem d_L_pass_11 : decode b_L_pass 11 = .ok (.lastore, 1) := by decide +kernel
theorem d_L_pass_12 : decode b_L_pass 12 = .ok (.goto 15, 3) := by decide +kernel
theorem d_L_pass_15 : decode b_L_pass 15 = .ok (.astore 5, 2) := by decide +kernel
theorem d_L_pass_17 : decode b_L_pass 17 = .ok (.iconst 1, 1) := by decide +kernel
theorem d_L_pass_18 : decode b_L_pass 18 = .ok (.ireturn, 1) := by decide +kernel
theorem d_L_pass_19 : decode b_L_pass 19 = .ok (.astore 5, 2) := by decide +kernel
theorem d_L_pass_21 : decode b_L_pass 21 = .ok (.iconst 2, 1) := by decide +kernel
theorem d_L_pass_22 : decode b_L_pass 22 = .ok (.ireturn, 1) := by decide +kernel
theorem d_L_pass_23 : decode b_L_pass 23 = .ok (.astore 5, 2) := by decide +kernel
theorem d_L_pass_25 : decode b_L_pass 25 = .ok (.iconst 3, 1) := by decide +kernel
theorem d_L_pass_26 : decode b_L_pass 26 = .ok (.ireturn, 1) := by decide +kernel
theorem d_L_pass_27 : decode b_L_pass 27 = .ok (.iconst 0, 1) := by decide +kernel
theorem d_L_pass_28 : decode b_L_pass 28 = .ok (.ireturn, 1) := by decide +kernel
theorem d_L_weight_0 : decode b_L_weight 0 = .ok (.aload_n 3, 1) := by decide +kernel
theorem d_L_weight_1 : decode b_L_weight 1 = .ok (.iconst 0, 1) := by decide +kernel
theorem d_L_weight_2 : decode b_L_weight 2 = .ok (.aload_n 0, 1) := by decide +kernel
theorem d_L_weight_3 : decode b_L_weight 3 = .ok (.iload_n 1, 1) := by decide +kernel
theorem d_L_weight_4 : decode b_L_weight 4 = .ok (.iload_n 2, 1) := by decide +kernel
theorem d_L_weight_5 : decode b_L_weight 5 = .ok (.invokevirtual 23, 3) := by decide +kernel
theorem d_L_weight_8 : decode b_L_weight 8 = .ok (.i2l, 1) := by decide +kernel
theorem d_L_weight_9 : decode b_L_weight 9 = .ok (.lastore, 1) := by decide +kernel
theorem d_L_weight_10 : decode b_L_weight 10 = .ok (.goto 11, 3) := by decide +kernel
theorem d_L_weight_13 : decode b_L_weight 13 = .ok (.astore 4, 2) := by decide +kernel
theorem d_L_weight_15 : decode b_L_weight 15 = .ok (.iconst 1, 1) := by decide +kernel
theorem d_L_weight_16 : decode b_L_weight 16 = .ok (.ireturn, 1) := by decide +kernel
theorem d_L_weight_17 : decode b_L_weight 17 = .ok (.astore 4, 2) := by decide +kernel
theorem d_L_weight_19 : decode b_L_weight 19 = .ok (.iconst 2, 1) := by decide +kernel
theorem d_L_weight_20 : decode b_L_weight 20 = .ok (.ireturn, 1) := by decide +kernel
theorem d_L_weight_21 : decode b_L_weight 21 = .ok (.iconst 0, 1) := by decide +kernel
theorem d_L_weight_22 : decode b_L_weight 22 = .ok (.ireturn, 1) := by decide +kernel
theorem d_L_shift_0 : decode b_L_shift 0 = .ok (.aload_n 3, 1) := by decide +kernel
theorem d_L_shift_1 : decode b_L_shift 1 = .ok (.iconst 0, 1) := by decide +kernel
theorem d_L_shift_2 : decode b_L_shift 2 = .ok (.aload_n 0, 1) := by decide +kernel
theorem d_L_shift_3 : decode b_L_shift 3 = .ok (.iload_n 1, 1) := by decide +kernel
theorem d_L_shift_4 : decode b_L_shift 4 = .ok (.iload_n 2, 1) := by decide +kernel
theorem d_L_shift_5 : decode b_L_shift 5 = .ok (.invokevirtual 27, 3) := by decide +kernel
theorem d_L_shift_8 : decode b_L_shift 8 = .ok (.i2l, 1) := by decide +kernel
theorem d_L_shift_9 : decode b_L_shift 9 = .ok (.lastore, 1) := by decide +kernel
theorem d_L_shift_10 : decode b_L_shift 10 = .ok (.goto 11, 3) := by decide +kernel
theorem d_L_shift_13 : decode b_L_shift 13 = .ok (.astore 4, 2) := by decide +kernel
theorem d_L_shift_15 : decode b_L_shift 15 = .ok (.iconst 1, 1) := by decide +kernel
theorem d_L_shift_16 : decode b_L_shift 16 = .ok (.ireturn, 1) := by decide +kernel
theorem d_L_shift_17 : decode b_L_shift 17 = .ok (.astore 4, 2) := by decide +kernel
theorem d_L_shift_19 : decode b_L_shift 19 = .ok (.iconst 2, 1) := by decide +kernel
theorem d_L_shift_20 : decode b_L_shift 20 = .ok (.ireturn, 1) := by decide +kernel
theorem d_L_shift_21 : decode b_L_shift 21 = .ok (.iconst 0, 1) := by decide +kernel
theorem d_L_shift_22 : decode b_L_shift 22 = .ok (.ireturn, 1) := by decide +kernel
theorem d_L_size_0 : decode b_L_size 0 = .ok (.aload_n 3, 1) := by decide +kernel
theorem d_L_size_1 : decode b_L_size 1 = .ok (.iconst 0, 1) := by decide +kernel
theorem d_L_size_2 : decode b_L_size 2 = .ok (.aload_n 0, 1) := by decide +kernel
theorem d_L_size_3 : decode b_L_size 3 = .ok (.iload_n 1, 1) := by decide +kernel
theorem d_L_size_4 : decode b_L_size 4 = .ok (.iload_n 2, 1) := by decide +kernel
theorem d_L_size_5 : decode b_L_size 5 = .ok (.invokevirtual 30, 3) := by decide +kernel
theorem d_L_size_8 : decode b_L_size 8 = .ok (.i2l, 1) := by decide +kernel
theorem d_L_size_9 : decode b_L_size 9 = .ok (.lastore, 1) := by decide +kernel
theorem d_L_size_10 : decode b_L_size 10 = .ok (.goto 11, 3) := by decide +kernel
theorem d_L_size_13 : decode b_L_size 13 = .ok (.astore 4, 2) := by decide +kernel
theorem d_L_size_15 : decode b_L_size 15 = .ok (.iconst 1, 1) := by decide +kernel
theorem d_L_size_16 : decode b_L_size 16 = .ok (.ireturn, 1) := by decide +kernel
theorem d_L_size_17 : decode b_L_size 17 = .ok (.astore 4, 2) := by decide +kernel
theorem d_L_size_19 : decode b_L_size 19 = .ok (.iconst 2, 1) := by decide +kernel
theorem d_L_size_20 : decode b_L_size 20 = .ok (.ireturn, 1) := by decide +kernel
theorem d_L_size_21 : decode b_L_size 21 = .ok (.iconst 0, 1) := by decide +kernel
theorem d_L_size_22 : decode b_L_size 22 = .ok (.ireturn, 1) := by decide +kernel
theorem d_L_head_0 : decode b_L_head 0 = .ok (.aload_n 3, 1) := by decide +kernel
theorem d_L_head_1 : decode b_L_head 1 = .ok (.iconst 0, 1) := by decide +kernel
theorem d_L_head_2 : decode b_L_head 2 = .ok (.aload_n 0, 1) := by decide +kernel
theorem d_L_head_3 : decode b_L_head 3 = .ok (.iload_n 1, 1) := by decide +kernel
theorem d_L_head_4 : decode b_L_head 4 = .ok (.iload_n 2, 1) := by decide +kernel
theorem d_L_head_5 : decode b_L_head 5 = .ok (.invokevirtual 33, 3) := by decide +kernel
theorem d_L_head_8 : decode b_L_head 8 = .ok (.i2l, 1) := by decide +kernel
theorem d_L_head_9 : decode b_L_head 9 = .ok (.lastore, 1) := by decide +kernel
theorem d_L_head_10 : decode b_L_head 10 = .ok (.goto 11, 3) := by decide +kernel
theorem d_L_head_13 : decode b_L_head 13 = .ok (.astore 4, 2) := by decide +kernel
theorem d_L_head_15 : decode b_L_head 15 = .ok (.iconst 1, 1) := by decide +kernel
theorem d_L_head_16 : decode b_L_head 16 = .ok (.ireturn, 1) := by decide +kernel
theorem d_L_head_17 : decode b_L_head 17 = .ok (.astore 4, 2) := by decide +kernel
theorem d_L_head_19 : decode b_L_head 19 = .ok (.iconst 2, 1) := by decide +kernel
theorem d_L_head_20 : decode b_L_head 20 = .ok (.ireturn, 1) := by decide +kernel
theorem d_L_head_21 : decode b_L_head 21 = .ok (.iconst 0, 1) := by decide +kernel
theorem d_L_head_22 : decode b_L_head 22 = .ok (.ireturn, 1) := by decide +kernel
theorem d_L_hull_0 : decode b_L_hull 0 = .ok (.aload_n 3, 1) := by decide +kernel
theorem d_L_hull_1 : decode b_L_hull 1 = .ok (.iconst 0, 1) := by decide +kernel
theorem d_L_hull_2 : decode b_L_hull 2 = .ok (.aload_n 0, 1) := by decide +kernel
theorem d_L_hull_3 : decode b_L_hull 3 = .ok (.iload_n 1, 1) := by decide +kernel
theorem d_L_hull_4 : decode b_L_hull 4 = .ok (.iload_n 2, 1) := by decide +kernel
theorem d_L_hull_5 : decode b_L_hull 5 = .ok (.invokevirtual 36, 3) := by decide +kernel
theorem d_L_hull_8 : decode b_L_hull 8 = .ok (.ifCond .eq 7, 3) := by decide +kernel
theorem d_L_hull_11 : decode b_L_hull 11 = .ok (.lconst 1, 1) := by decide +kernel
theorem d_L_hull_12 : decode b_L_hull 12 = .ok (.goto 4, 3) := by decide +kernel
theorem d_L_hull_15 : decode b_L_hull 15 = .ok (.lconst 0, 1) := by decide +kernel
theorem d_L_hull_16 : decode b_L_hull 16 = .ok (.lastore, 1) := by decide +kernel
theorem d_L_hull_17 : decode b_L_hull 17 = .ok (.goto 7, 3) := by decide +kernel
theorem d_L_hull_20 : decode b_L_hull 20 = .ok (.astore 4, 2) := by decide +kernel
theorem d_L_hull_22 : decode b_L_hull 22 = .ok (.iconst 1, 1) := by decide +kernel
theorem d_L_hull_23 : decode b_L_hull 23 = .ok (.ireturn, 1) := by decide +kernel
theorem d_L_hull_24 : decode b_L_hull 24 = .ok (.iconst 0, 1) := by decide +kernel
theorem d_L_hull_25 : decode b_L_hull 25 = .ok (.ireturn, 1) := by decide +kernel
theorem d_L_slope_0 : decode b_L_slope 0 = .ok (.aload 4, 2) := by decide +kernel
theorem d_L_slope_2 : decode b_L_slope 2 = .ok (.iconst 0, 1) := by decide +kernel
theorem d_L_slope_3 : decode b_L_slope 3 = .ok (.aload_n 0, 1) := by decide +kernel
theorem d_L_slope_4 : decode b_L_slope 4 = .ok (.iload_n 1, 1) := by decide +kernel
theorem d_L_slope_5 : decode b_L_slope 5 = .ok (.iload_n 2, 1) := by decide +kernel
theorem d_L_slope_6 : decode b_L_slope 6 = .ok (.iload_n 3, 1) := by decide +kernel
theorem d_L_slope_7 : decode b_L_slope 7 = .ok (.invokevirtual 40, 3) := by decide +kernel
theorem d_L_slope_10 : decode b_L_slope 10 = .ok (.lastore, 1) := by decide +kernel
theorem d_L_slope_11 : decode b_L_slope 11 = .ok (.goto 7, 3) := by decide +kernel
theorem d_L_slope_14 : decode b_L_slope 14 = .ok (.astore 5, 2) := by decide +kernel
theorem d_L_slope_16 : decode b_L_slope 16 = .ok (.iconst 1, 1) := by decide +kernel
theorem d_L_slope_17 : decode b_L_slope 17 = .ok (.ireturn, 1) := by decide +kernel
theorem d_L_slope_18 : decode b_L_slope 18 = .ok (.iconst 0, 1) := by decide +kernel
theorem d_L_slope_19 : decode b_L_slope 19 = .ok (.ireturn, 1) := by decide +kernel
theorem d_L_at_0 : decode b_L_at 0 = .ok (.aload_n 3, 1) := by decide +kernel
theorem d_L_at_1 : decode b_L_at 1 = .ok (.iconst 0, 1) := by decide +kernel
theorem d_L_at_2 : decode b_L_at 2 = .ok (.aload_n 0, 1) := by decide +kernel
theorem d_L_at_3 : decode b_L_at 3 = .ok (.iload_n 1, 1) := by decide +kernel
theorem d_L_at_4 : decode b_L_at 4 = .ok (.iload_n 2, 1) := by decide +kernel
theorem d_L_at_5 : decode b_L_at 5 = .ok (.invokevirtual 44, 3) := by decide +kernel
theorem d_L_at_8 : decode b_L_at 8 = .ok (.i2l, 1) := by decide +kernel
theorem d_L_at_9 : decode b_L_at 9 = .ok (.lastore, 1) := by decide +kernel
theorem d_L_at_10 : decode b_L_at 10 = .ok (.goto 15, 3) := by decide +kernel
theorem d_L_at_13 : decode b_L_at 13 = .ok (.astore 4, 2) := by decide +kernel
theorem d_L_at_15 : decode b_L_at 15 = .ok (.iconst 1, 1) := by decide +kernel
theorem d_L_at_16 : decode b_L_at 16 = .ok (.ireturn, 1) := by decide +kernel
theorem d_L_at_17 : decode b_L_at 17 = .ok (.astore 4, 2) := by decide +kernel
theorem d_L_at_19 : decode b_L_at 19 = .ok (.iconst 2, 1) := by decide +kernel
theorem d_L_at_20 : decode b_L_at 20 = .ok (.ireturn, 1) := by decide +kernel
theorem d_L_at_21 : decode b_L_at 21 = .ok (.astore 4, 2) := by decide +kernel
theorem d_L_at_23 : decode b_L_at 23 = .ok (.iconst 3, 1) := by decide +kernel
theorem d_L_at_24 : decode b_L_at 24 = .ok (.ireturn, 1) := by decide +kernel
theorem d_L_at_25 : decode b_L_at 25 = .ok (.iconst 0, 1) := by decide +kernel
theorem d_L_at_26 : decode b_L_at 26 = .ok (.ireturn, 1) := by decide +kernel
theorem d_L_passes_0 : decode b_L_passes 0 = .ok (.aload_n 3, 1) := by decide +kernel
theorem d_L_passes_1 : decode b_L_passes 1 = .ok (.iconst 0, 1) := by decide +kernel
theorem d_L_passes_2 : decode b_L_passes 2 = .ok (.aload_n 0, 1) := by decide +kernel
theorem d_L_passes_3 : decode b_L_passes 3 = .ok (.iload_n 1, 1) := by decide +kernel
theorem d_L_passes_4 : decode b_L_passes 4 = .ok (.iload_n 2, 1) := by decide +kernel
theorem d_L_passes_5 : decode b_L_passes 5 = .ok (.invokevirtual 49, 3) := by decide +kernel
theorem d_L_passes_8 : decode b_L_passes 8 = .ok (.i2l, 1) := by decide +kernel
theorem d_L_passes_9 : decode b_L_passes 9 = .ok (.lastore, 1) := by decide +kernel
theorem d_L_passes_10 : decode b_L_passes 10 = .ok (.goto 11, 3) := by decide +kernel
theorem d_L_passes_13 : decode b_L_passes 13 = .ok (.astore 4, 2) := by decide +kernel
theorem d_L_passes_15 : decode b_L_passes 15 = .ok (.iconst 1, 1) := by decide +kernel
theorem d_L_passes_16 : decode b_L_passes 16 = .ok (.ireturn, 1) := by decide +kernel
theorem d_L_passes_17 : decode b_L_passes 17 = .ok (.astore 4, 2) := by decide +kernel
theorem d_L_passes_19 : decode b_L_passes 19 = .ok (.iconst 2, 1) := by decide +kernel
theorem d_L_passes_20 : decode b_L_passes 20 = .ok (.ireturn, 1) := by decide +kernel
theorem d_L_passes_21 : decode b_L_passes 21 = .ok (.iconst 0, 1) := by decide +kernel
theorem d_L_passes_22 : decode b_L_passes 22 = .ok (.ireturn, 1) := by decide +kernel
theorem d_L_bytes_0 : decode b_L_bytes 0 = .ok (.aload_n 2, 1) := by decide +kernel
theorem d_L_bytes_1 : decode b_L_bytes 1 = .ok (.iconst 0, 1) := by decide +kernel
theorem d_L_bytes_2 : decode b_L_bytes 2 = .ok (.aload_n 0, 1) := by decide +kernel
theorem d_L_bytes_3 : decode b_L_bytes 3 = .ok (.iload_n 1, 1) := by decide +kernel
theorem d_L_bytes_4 : decode b_L_bytes 4 = .ok (.invokevirtual 52, 3) := by decide +kernel
theorem d_L_bytes_7 : decode b_L_bytes 7 = .ok (.i2l, 1) := by decide +kernel
theorem d_L_bytes_8 : decode b_L_bytes 8 = .ok (.lastore, 1) := by decide +kernel
theorem d_L_bytes_9 : decode b_L_bytes 9 = .ok (.goto 9, 3) := by decide +kernel
theorem d_L_bytes_12 : decode b_L_bytes 12 = .ok (.astore_n 3, 1) := by decide +kernel
theorem d_L_bytes_13 : decode b_L_bytes 13 = .ok (.iconst 1, 1) := by decide +kernel
theorem d_L_bytes_14 : decode b_L_bytes 14 = .ok (.ireturn, 1) := by decide +kernel
theorem d_L_bytes_15 : decode b_L_bytes 15 = .ok (.astore_n 3, 1) := by decide +kernel
theorem d_L_bytes_16 : decode b_L_bytes 16 = .ok (.iconst 2, 1) := by decide +kernel
theorem d_L_bytes_17 : decode b_L_bytes 17 = .ok (.ireturn, 1) := by decide +kernel
theorem d_L_bytes_18 : decode b_L_bytes 18 = .ok (.iconst 0, 1) := by decide +kernel
theorem d_L_bytes_19 : decode b_L_bytes 19 = .ok (.ireturn, 1) := by decide +kernel
theorem d_L_gained_0 : decode b_L_gained 0 = .ok (.aload_n 2, 1) := by decide +kernel
theorem d_L_gained_1 : decode b_L_gained 1 = .ok (.iconst 0, 1) := by decide +kernel
theorem d_L_gained_2 : decode b_L_gained 2 = .ok (.aload_n 0, 1) := by decide +kernel
theorem d_L_gained_3 : decode b_L_gained 3 = .ok (.iload_n 1, 1) := by decide +kernel
theorem d_L_gained_4 : decode b_L_gained 4 = .ok (.invokevirtual 56, 3) := by decide +kernel
theorem d_L_gained_7 : decode b_L_gained 7 = .ok (.lastore, 1) := by decide +kernel
theorem d_L_gained_8 : decode b_L_gained 8 = .ok (.goto 9, 3) := by decide +kernel
theorem d_L_gained_11 : decode b_L_gained 11 = .ok (.astore_n 3, 1) := by decide +kernel
theorem d_L_gained_12 : decode b_L_gained 12 = .ok (.iconst 1, 1) := by decide +kernel
theorem d_L_gained_13 : decode b_L_gained 13 = .ok (.ireturn, 1) := by decide +kernel
theorem d_L_gained_14 : decode b_L_gained 14 = .ok (.astore_n 3, 1) := by decide +kernel
theorem d_L_gained_15 : decode b_L_gained 15 = .ok (.iconst 2, 1) := by decide +kernel
theorem d_L_gained_16 : decode b_L_gained 16 = .ok (.ireturn, 1) := by decide +kernel
theorem d_L_gained_17 : decode b_L_gained 17 = .ok (.iconst 0, 1) := by decide +kernel
theorem d_L_gained_18 : decode b_L_gained 18 = .ok (.ireturn, 1) := by decide +kernel
theorem d_L_least_0 : decode b_L_least 0 = .ok (.aload_n 2, 1) := by decide +kernel
theorem d_L_least_1 : decode b_L_least 1 = .ok (.iconst 0, 1) := by decide +kernel
theorem d_L_least_2 : decode b_L_least 2 = .ok (.aload_n 0, 1) := by decide +kernel
theorem d_L_least_3 : decode b_L_least 3 = .ok (.iload_n 1, 1) := by decide +kernel
theorem d_L_least_4 : decode b_L_least 4 = .ok (.invokevirtual 60, 3) := by decide +kernel
theorem d_L_least_7 : decode b_L_least 7 = .ok (.i2l, 1) := by decide +kernel
theorem d_L_least_8 : decode b_L_least 8 = .ok (.lastore, 1) := by decide +kernel
theorem d_L_least_9 : decode b_L_least 9 = .ok (.goto 6, 3) := by decide +kernel
theorem d_L_least_12 : decode b_L_least 12 = .ok (.astore_n 3, 1) := by decide +kernel
theorem d_L_least_13 : decode b_L_least 13 = .ok (.iconst 1, 1) := by decide +kernel
theorem d_L_least_14 : decode b_L_least 14 = .ok (.ireturn, 1) := by decide +kernel
theorem d_L_least_15 : decode b_L_least 15 = .ok (.iconst 0, 1) := by decide +kernel
theorem d_L_least_16 : decode b_L_least 16 = .ok (.ireturn, 1) := by decide +kernel
theorem d_L_above_0 : decode b_L_above 0 = .ok (.aload 4, 2) := by decide +kernel
theorem d_L_above_2 : decode b_L_above 2 = .ok (.iconst 0, 1) := by decide +kernel
theorem d_L_above_3 : decode b_L_above 3 = .ok (.aload_n 0, 1) := by decide +kernel
theorem d_L_above_4 : decode b_L_above 4 = .ok (.lload_n 1, 1) := by decide +kernel
theorem d_L_above_5 : decode b_L_above 5 = .ok (.iload_n 3, 1) := by decide +kernel
theorem d_L_above_6 : decode b_L_above 6 = .ok (.invokevirtual 63, 3) := by decide +kernel
theorem d_L_above_9 : decode b_L_above 9 = .ok (.i2l, 1) := by decide +kernel
theorem d_L_above_10 : decode b_L_above 10 = .ok (.lastore, 1) := by decide +kernel
theorem d_L_above_11 : decode b_L_above 11 = .ok (.goto 7, 3) := by decide +kernel
theorem d_L_above_14 : decode b_L_above 14 = .ok (.astore 5, 2) := by decide +kernel
theorem d_L_above_16 : decode b_L_above 16 = .ok (.iconst 1, 1) := by decide +kernel
theorem d_L_above_17 : decode b_L_above 17 = .ok (.ireturn, 1) := by decide +kernel
theorem d_L_above_18 : decode b_L_above 18 = .ok (.iconst 0, 1) := by decide +kernel
theorem d_L_above_19 : decode b_L_above 19 = .ok (.ireturn, 1) := by decide +kernel
theorem d_L_law_0 : decode b_L_law 0 = .ok (.new 8, 3) := by decide +kernel
theorem d_L_law_3 : decode b_L_law 3 = .ok (.dup, 1) := by decide +kernel
theorem d_L_law_4 : decode b_L_law 4 = .ok (.aload_n 0, 1) := by decide +kernel
theorem d_L_law_5 : decode b_L_law 5 = .ok (.iconst 0, 1) := by decide +kernel
theorem d_L_law_6 : decode b_L_law 6 = .ok (.invokestatic 67, 3) := by decide +kernel
theorem d_L_law_9 : decode b_L_law 9 = .ok (.invokespecial 73, 3) := by decide +kernel
theorem d_L_law_12 : decode b_L_law 12 = .ok (.astore_n 1, 1) := by decide +kernel
theorem d_L_law_13 : decode b_L_law 13 = .ok (.new 76, 3) := by decide +kernel
theorem d_L_law_16 : decode b_L_law 16 = .ok (.dup, 1) := by decide +kernel
theorem d_L_law_17 : decode b_L_law 17 = .ok (.aload_n 0, 1) := by decide +kernel
theorem d_L_law_18 : decode b_L_law 18 = .ok (.iconst 0, 1) := by decide +kernel
theorem d_L_law_19 : decode b_L_law 19 = .ok (.invokestatic 67, 3) := by decide +kernel
theorem d_L_law_22 : decode b_L_law 22 = .ok (.invokespecial 78, 3) := by decide +kernel
theorem d_L_law_25 : decode b_L_law 25 = .ok (.astore_n 2, 1) := by decide +kernel
theorem d_L_law_26 : decode b_L_law 26 = .ok (.iconst 1, 1) := by decide +kernel
theorem d_L_law_27 : decode b_L_law 27 = .ok (.newarray .long, 2) := by decide +kernel
theorem d_L_law_29 : decode b_L_law 29 = .ok (.astore_n 3, 1) := by decide +kernel
theorem d_L_law_30 : decode b_L_law 30 = .ok (.iconst 1, 1) := by decide +kernel
theorem d_L_law_31 : decode b_L_law 31 = .ok (.istore 4, 2) := by decide +kernel
theorem d_L_law_33 : decode b_L_law 33 = .ok (.iload 4, 2) := by decide +kernel
theorem d_L_law_35 : decode b_L_law 35 = .ok (.aload_n 0, 1) := by decide +kernel
theorem d_L_law_36 : decode b_L_law 36 = .ok (.arraylength, 1) := by decide +kernel
theorem d_L_law_37 : decode b_L_law 37 = .ok (.iconst 4, 1) := by decide +kernel
theorem d_L_law_38 : decode b_L_law 38 = .ok (.isub, 1) := by decide +kernel
theorem d_L_law_39 : decode b_L_law 39 = .ok (.if_icmp .gt 1134, 3) := by decide +kernel
theorem d_L_law_42 : decode b_L_law 42 = .ok (.aload_n 0, 1) := by decide +kernel
theorem d_L_law_43 : decode b_L_law 43 = .ok (.iload 4, 2) := by decide +kernel
theorem d_L_law_45 : decode b_L_law 45 = .ok (.iaload, 1) := by decide +kernel
theorem d_L_law_46 : decode b_L_law 46 = .ok (.bipush 31, 2) := by decide +kernel
theorem d_L_law_48 : decode b_L_law 48 = .ok (.iand, 1) := by decide +kernel
theorem d_L_law_49 : decode b_L_law 49 = .ok (.tableswitch 1118 0 17 #[87, 131, 211, 279, 347, 415, 483, 496, 571, 666, 679, 747, 815, 871, 926, 982, 1082, 1107], 87) := by decide +kernel
theorem d_L_law_136 : decode b_L_law 136 = .ok (.aload_n 1, 1) := by decide +kernel
theorem d_L_law_137 : decode b_L_law 137 = .ok (.aload_n 3, 1) := by decide +kernel
theorem d_L_law_138 : decode b_L_law 138 = .ok (.invokestatic 79, 3) := by decide +kernel
theorem d_L_law_141 : decode b_L_law 141 = .ok (.istore 5, 2) := by decide +kernel
theorem d_L_law_143 : decode b_L_law 143 = .ok (.aload_n 2, 1) := by decide +kernel
theorem d_L_law_144 : decode b_L_law 144 = .ok (.invokevirtual 82, 3) := by decide +kernel
theorem d_L_law_147 : decode b_L_law 147 = .ok (.istore 6, 2) := by decide +kernel
theorem d_L_law_149 : decode b_L_law 149 = .ok (.aload_n 2, 1) := by decide +kernel
theorem d_L_law_150 : decode b_L_law 150 = .ok (.invokevirtual 83, 3) := by decide +kernel
theorem d_L_law_153 : decode b_L_law 153 = .ok (.iload 5, 2) := by decide +kernel
theorem d_L_law_155 : decode b_L_law 155 = .ok (.if_icmp .eq 5, 3) := by decide +kernel
theorem d_L_law_158 : decode b_L_law 158 = .ok (.iconst 0, 1) := by decide +kernel
theorem d_L_law_159 : decode b_L_law 159 = .ok (.ireturn, 1) := by decide +kernel
theorem d_L_law_160 : decode b_L_law 160 = .ok (.iload 5, 2) := by decide +kernel
theorem d_L_law_162 : decode b_L_law 162 = .ok (.ifCond .ne 15, 3) := by decide +kernel
theorem d_L_law_165 : decode b_L_law 165 = .ok (.aload_n 3, 1) := by decide +kernel
theorem d_L_law_166 : decode b_L_law 166 = .ok (.iconst 0, 1) := by decide +kernel
theorem d_L_law_167 : decode b_L_law 167 = .ok (.laload, 1) := by decide +kernel
theorem d_L_law_168 : decode b_L_law 168 = .ok (.iload 6, 2) := by decide +kernel
theorem d_L_law_170 : decode b_L_law 170 = .ok (.i2l, 1) := by decide +kernel
theorem d_L_law_171 : decode b_L_law 171 = .ok (.lcmp, 1) := by decide +kernel
theorem d_L_law_172 : decode b_L_law 172 = .ok (.ifCond .eq 5, 3) := by decide +kernel
theorem d_L_law_175 : decode b_L_law 175 = .ok (.iconst 0, 1) := by decide +kernel
theorem d_L_law_176 : decode b_L_law 176 = .ok (.ireturn, 1) := by decide +kernel
theorem d_L_law_177 : decode b_L_law 177 = .ok (.goto 990, 3) := by decide +kernel
theorem d_L_law_180 : decode b_L_law 180 = .ok (.aload_n 1, 1) := by decide +kernel
theorem d_L_law_181 : decode b_L_law 181 = .ok (.aload_n 0, 1) := by decide +kernel
theorem d_L_law_182 : decode b_L_law 182 = .ok (.iload 4, 2) := by decide +kernel
theorem d_L_law_184 : decode b_L_law 184 = .ok (.iconst 1, 1) := by decide +kernel
theorem d_L_law_185 : decode b_L_law 185 = .ok (.iadd, 1) := by decide +kernel
theorem d_L_law_186 : decode b_L_law 186 = .ok (.iaload, 1) := by decide +kernel
theorem d_L_law_187 : decode b_L_law 187 = .ok (.aload_n 0, 1) := by decide +kernel
theorem d_L_law_188 : decode b_L_law 188 = .ok (.iload 4, 2) := by decide +kernel
theorem d_L_law_190 : decode b_L_law 190 = .ok (.iconst 2, 1) := by decide +kernel
theorem d_L_law_191 : decode b_L_law 191 = .ok (.iadd, 1) := by decide +kernel
theorem d_L_law_192 : decode b_L_law 192 = .ok (.iaload, 1) := by decide +kernel
theorem d_L_law_193 : decode b_L_law 193 = .ok (.aload_n 0, 1) := by decide +kernel
theorem d_L_law_194 : decode b_L_law 194 = .ok (.iload 4, 2) := by decide +kernel
theorem d_L_law_196 : decode b_L_law 196 = .ok (.iconst 3, 1) := by decide +kernel
theorem d_L_law_197 : decode b_L_law 197 = .ok (.iadd, 1) := by decide +kernel
theorem d_L_law_198 : decode b_L_law 198 = .ok (.iaload, 1) := by decide +kernel
theorem d_L_law_199 : decode b_L_law 199 = .ok (.aload_n 3, 1) := by decide +kernel
theorem d_L_law_200 : decode b_L_law 200 = .ok (.invokestatic 86, 3) := by decide +kernel
theorem d_L_law_203 : decode b_L_law 203 = .ok (.istore 5, 2) := by decide +kernel
theorem d_L_law_205 : decode b_L_law 205 = .ok (.aload_n 2, 1) := by decide +kernel
theorem d_L_law_206 : decode b_L_law 206 = .ok (.aload_n 0, 1) := by decide +kernel
theorem d_L_law_207 : decode b_L_law 207 = .ok (.iload 4, 2) := by decide +kernel
theorem d_L_law_209 : decode b_L_law 209 = .ok (.iconst 1, 1) := by decide +kernel
theorem d_L_law_210 : decode b_L_law 210 = .ok (.iadd, 1) := by decide +kernel
theorem d_L_law_211 : decode b_L_law 211 = .ok (.iaload, 1) := by decide +kernel
theorem d_L_law_212 : decode b_L_law 212 = .ok (.aload_n 0, 1) := by decide +kernel
theorem d_L_law_213 : decode b_L_law 213 = .ok (.iload 4, 2) := by decide +kernel
theorem d_L_law_215 : decode b_L_law 215 = .ok (.iconst 2, 1) := by decide +kernel
theorem d_L_law_216 : decode b_L_law 216 = .ok (.iadd, 1) := by decide +kernel
theorem d_L_law_217 : decode b_L_law 217 = .ok (.iaload, 1) := by decide +kernel
theorem d_L_law_218 : decode b_L_law 218 = .ok (.aload_n 0, 1) := by decide +kernel
theorem d_L_law_219 : decode b_L_law 219 = .ok (.iload 4, 2) := by decide +kernel
theorem d_L_law_221 : decode b_L_law 221 = .ok (.iconst 3, 1) := by decide +kernel
theorem d_L_law_222 : decode b_L_law 222 = .ok (.iadd, 1) := by decide +kernel
theorem d_L_law_223 : decode b_L_law 223 = .ok (.iaload, 1) := by decide +kernel
theorem d_L_law_224 : decode b_L_law 224 = .ok (.invokevirtual 89, 3) := by decide +kernel
theorem d_L_law_227 : decode b_L_law 227 = .ok (.istore 6, 2) := by decide +kernel
theorem d_L_law_229 : decode b_L_law 229 = .ok (.aload_n 2, 1) := by decide +kernel
theorem d_L_law_230 : decode b_L_law 230 = .ok (.invokevirtual 83, 3) := by decide +kernel
theorem d_L_law_233 : decode b_L_law 233 = .ok (.iload 5, 2) := by decide +kernel
theorem d_L_law_235 : decode b_L_law 235 = .ok (.if_icmp .eq 5, 3) := by decide +kernel
theorem d_L_law_238 : decode b_L_law 238 = .ok (.iconst 0, 1) := by decide +kernel
theorem d_L_law_239 : decode b_L_law 239 = .ok (.ireturn, 1) := by decide +kernel
theorem d_L_law_240 : decode b_L_law 240 = .ok (.iload 5, 2) := by decide +kernel
theorem d_L_law_242 : decode b_L_law 242 = .ok (.ifCond .ne 15, 3) := by decide +kernel
theorem d_L_law_245 : decode b_L_law 245 = .ok (.aload_n 3, 1) := by decide +kernel
theorem d_L_law_246 : decode b_L_law 246 = .ok (.iconst 0, 1) := by decide +kernel
theorem d_L_law_247 : decode b_L_law 247 = .ok (.laload, 1) := by decide +kernel
theorem d_L_law_248 : decode b_L_law 248 = .ok (.iload 6, 2) := by decide +kernel
theorem d_L_law_250 : decode b_L_law 250 = .ok (.i2l, 1) := by decide +kernel
theorem d_L_law_251 : decode b_L_law 251 = .ok (.lcmp, 1) := by decide +kernel
theorem d_L_law_252 : decode b_L_law 252 = .ok (.ifCond .eq 5, 3) := by decide +kernel
theorem d_L_law_255 : decode b_L_law 255 = .ok (.iconst 0, 1) := by decide +kernel
theorem d_L_law_256 : decode b_L_law 256 = .ok (.ireturn, 1) := by decide +kernel
theorem d_L_law_257 : decode b_L_law 257 = .ok (.goto 910, 3) := by decide +kernel
theorem d_L_law_260 : decode b_L_law 260 = .ok (.aload_n 1, 1) := by decide +kernel
theorem d_L_law_261 : decode b_L_law 261 = .ok (.aload_n 0, 1) := by decide +kernel
theorem d_L_law_262 : decode b_L_law 262 = .ok (.iload 4, 2) := by decide +kernel
theorem d_L_law_264 : decode b_L_law 264 = .ok (.iconst 1, 1) := by decide +kernel
theorem d_L_law_265 : decode b_L_law 265 = .ok (.iadd, 1) := by decide +kernel
theorem d_L_law_266 : decode b_L_law 266 = .ok (.iaload, 1) := by decide +kernel
theorem d_L_law_267 : decode b_L_law 267 = .ok (.aload_n 0, 1) := by decide +kernel
theorem d_L_law_268 : decode b_L_law 268 = .ok (.iload 4, 2) := by decide +kernel
theorem d_L_law_270 : decode b_L_law 270 = .ok (.iconst 2, 1) := by decide +kernel
theorem d_L_law_271 : decode b_L_law 271 = .ok (.iadd, 1) := by decide +kernel
theorem d_L_law_272 : decode b_L_law 272 = .ok (.iaload, 1) := by decide +kernel
theorem d_L_law_273 : decode b_L_law 273 = .ok (.aload_n 3, 1) := by decide +kernel
theorem d_L_law_274 : decode b_L_law 274 = .ok (.invokestatic 90, 3) := by decide +kernel
theorem d_L_law_277 : decode b_L_law 277 = .ok (.istore 5, 2) := by decide +kernel
theorem d_L_law_279 : decode b_L_law 279 = .ok (.aload_n 2, 1) := by decide +kernel
theorem d_L_law_280 : decode b_L_law 280 = .ok (.aload_n 0, 1) := by decide +kernel
theorem d_L_law_281 : decode b_L_law 281 = .ok (.iload 4, 2) := by decide +kernel
theorem d_L_law_283 : decode b_L_law 283 = .ok (.iconst 1, 1) := by decide +kernel
theorem d_L_law_284 : decode b_L_law 284 = .ok (.iadd, 1) := by decide +kernel
theorem d_L_law_285 : decode b_L_law 285 = .ok (.iaload, 1) := by decide +kernel
theorem d_L_law_286 : decode b_L_law 286 = .ok (.aload_n 0, 1) := by decide +kernel
theorem d_L_law_287 : decode b_L_law 287 = .ok (.iload 4, 2) := by decide +kernel
theorem d_L_law_289 : decode b_L_law 289 = .ok (.iconst 2, 1) := by decide +kernel
theorem d_L_law_290 : decode b_L_law 290 = .ok (.iadd, 1) := by decide +kernel
theorem d_L_law_291 : decode b_L_law 291 = .ok (.iaload, 1) := by decide +kernel
theorem d_L_law_292 : decode b_L_law 292 = .ok (.invokevirtual 93, 3) := by decide +kernel
theorem d_L_law_295 : decode b_L_law 295 = .ok (.istore 6, 2) := by decide +kernel
theorem d_L_law_297 : decode b_L_law 297 = .ok (.aload_n 2, 1) := by decide +kernel
theorem d_L_law_298 : decode b_L_law 298 = .ok (.invokevirtual 83, 3) := by decide +kernel
theorem d_L_law_301 : decode b_L_law 301 = .ok (.iload 5, 2) := by decide +kernel
theorem d_L_law_303 : decode b_L_law 303 = .ok (.if_icmp .eq 5, 3) := by decide +kernel
theorem d_L_law_306 : decode b_L_law 306 = .ok (.iconst 0, 1) := by decide +kernel
theorem d_L_law_307 : decode b_L_law 307 = .ok (.ireturn, 1) := by decide +kernel
theorem d_L_law_308 : decode b_L_law 308 = .ok (.iload 5, 2) := by decide +kernel
theorem d_L_law_310 : decode b_L_law 310 = .ok (.ifCond .ne 15, 3) := by decide +kernel
theorem d_L_law_313 : decode b_L_law 313 = .ok (.aload_n 3, 1) := by decide +kernel
theorem d_L_law_314 : decode b_L_law 314 = .ok (.iconst 0, 1) := by decide +kernel
theorem d_L_law_315 : decode b_L_law 315 = .ok (.laload, 1) := by decide +kernel
theorem d_L_law_316 : decode b_L_law 316 = .ok (.iload 6, 2) := by decide +kernel
theorem d_L_law_318 : decode b_L_law 318 = .ok (.i2l, 1) := by decide +kernel
theorem d_L_law_319 : decode b_L_law 319 = .ok (.lcmp, 1) := by decide +kernel
theorem d_L_law_320 : decode b_L_law 320 = .ok (.ifCond .eq 5, 3) := by decide +kernel
theorem d_L_law_323 : decode b_L_law 323 = .ok (.iconst 0, 1) := by decide +kernel
theorem d_L_law_324 : decode b_L_law 324 = .ok (.ireturn, 1) := by decide +kernel
theorem d_L_law_325 : decode b_L_law 325 = .ok (.goto 842, 3) := by decide +kernel
theorem d_L_law_328 : decode b_L_law 328 = .ok (.aload_n 1, 1) := by decide +kernel
theorem d_L_law_329 : decode b_L_law 329 = .ok (.aload_n 0, 1) := by decide +kernel
theorem d_L_law_330 : decode b_L_law 330 = .ok (.iload 4, 2) := by decide +kernel
theorem d_L_law_332 : decode b_L_law 332 = .ok (.iconst 1, 1) := by decide +kernel
theorem d_L_law_333 : decode b_L_law 333 = .ok (.iadd, 1) := by decide +kernel
theorem d_L_law_334 : decode b_L_law 334 = .ok (.iaload, 1) := by decide +kernel
theorem d_L_law_335 : decode b_L_law 335 = .ok (.aload_n 0, 1) := by decide +kernel
theorem d_L_law_336 : decode b_L_law 336 = .ok (.iload 4, 2) := by decide +kernel
theorem d_L_law_338 : decode b_L_law 338 = .ok (.iconst 2, 1) := by decide +kernel
theorem d_L_law_339 : decode b_L_law 339 = .ok (.iadd, 1) := by decide +kernel
theorem d_L_law_340 : decode b_L_law 340 = .ok (.iaload, 1) := by decide +kernel
theorem d_L_law_341 : decode b_L_law 341 = .ok (.aload_n 3, 1) := by decide +kernel
theorem d_L_law_342 : decode b_L_law 342 = .ok (.invokestatic 94, 3) := by decide +kernel
theorem d_L_law_345 : decode b_L_law 345 = .ok (.istore 5, 2) := by decide +kernel
theorem d_L_law_347 : decode b_L_law 347 = .ok (.aload_n 2, 1) := by decide +kernel
theorem d_L_law_348 : decode b_L_law 348 = .ok (.aload_n 0, 1) := by decide +kernel
theorem d_L_law_349 : decode b_L_law 349 = .ok (.iload 4, 2) := by decide +kernel
theorem d_L_law_351 : decode b_L_law 351 = .ok (.iconst 1, 1) := by decide +kernel
theorem d_L_law_352 : decode b_L_law 352 = .ok (.iadd, 1) := by decide +kernel
theorem d_L_law_353 : decode b_L_law 353 = .ok (.iaload, 1) := by decide +kernel
theorem d_L_law_354 : decode b_L_law 354 = .ok (.aload_n 0, 1) := by decide +kernel
theorem d_L_law_355 : decode b_L_law 355 = .ok (.iload 4, 2) := by decide +kernel
theorem d_L_law_357 : decode b_L_law 357 = .ok (.iconst 2, 1) := by decide +kernel
theorem d_L_law_358 : decode b_L_law 358 = .ok (.iadd, 1) := by decide +kernel
theorem d_L_law_359 : decode b_L_law 359 = .ok (.iaload, 1) := by decide +kernel
theorem d_L_law_360 : decode b_L_law 360 = .ok (.invokevirtual 96, 3) := by decide +kernel
theorem d_L_law_363 : decode b_L_law 363 = .ok (.istore 6, 2) := by decide +kernel
theorem d_L_law_365 : decode b_L_law 365 = .ok (.aload_n 2, 1) := by decide +kernel
theorem d_L_law_366 : decode b_L_law 366 = .ok (.invokevirtual 83, 3) := by decide +kernel
theorem d_L_law_369 : decode b_L_law 369 = .ok (.iload 5, 2) := by decide +kernel
theorem d_L_law_371 : decode b_L_law 371 = .ok (.if_icmp .eq 5, 3) := by decide +kernel
theorem d_L_law_374 : decode b_L_law 374 = .ok (.iconst 0, 1) := by decide +kernel
theorem d_L_law_375 : decode b_L_law 375 = .ok (.ireturn, 1) := by decide +kernel
theorem d_L_law_376 : decode b_L_law 376 = .ok (.iload 5, 2) := by decide +kernel
theorem d_L_law_378 : decode b_L_law 378 = .ok (.ifCond .ne 15, 3) := by decide +kernel
theorem d_L_law_381 : decode b_L_law 381 = .ok (.aload_n 3, 1) := by decide +kernel
theorem d_L_law_382 : decode b_L_law 382 = .ok (.iconst 0, 1) := by decide +kernel
theorem d_L_law_383 : decode b_L_law 383 = .ok (.laload, 1) := by decide +kernel
theorem d_L_law_384 : decode b_L_law 384 = .ok (.iload 6, 2) := by decide +kernel
theorem d_L_law_386 : decode b_L_law 386 = .ok (.i2l, 1) := by decide +kernel
theorem d_L_law_387 : decode b_L_law 387 = .ok (.lcmp, 1) := by decide +kernel
theorem d_L_law_388 : decode b_L_law 388 = .ok (.ifCond .eq 5, 3) := by decide +kernel
theorem d_L_law_391 : decode b_L_law 391 = .ok (.iconst 0, 1) := by decide +kernel
theorem d_L_law_392 : decode b_L_law 392 = .ok (.ireturn, 1) := by decide +kernel
theorem d_L_law_393 : decode b_L_law 393 = .ok (.goto 774, 3) := by decide +kernel
theorem d_L_law_396 : decode b_L_law 396 = .ok (.aload_n 1, 1) := by decide +kernel
theorem d_L_law_397 : decode b_L_law 397 = .ok (.aload_n 0, 1) := by decide +kernel
theorem d_L_law_398 : decode b_L_law 398 = .ok (.iload 4, 2) := by decide +kernel
theorem d_L_law_400 : decode b_L_law 400 = .ok (.iconst 1, 1) := by decide +kernel
theorem d_L_law_401 : decode b_L_law 401 = .ok (.iadd, 1) := by decide +kernel
theorem d_L_law_402 : decode b_L_law 402 = .ok (.iaload, 1) := by decide +kernel
theorem d_L_law_403 : decode b_L_law 403 = .ok (.aload_n 0, 1) := by decide +kernel
theorem d_L_law_404 : decode b_L_law 404 = .ok (.iload 4, 2) := by decide +kernel
theorem d_L_law_406 : decode b_L_law 406 = .ok (.iconst 2, 1) := by decide +kernel
theorem d_L_law_407 : decode b_L_law 407 = .ok (.iadd, 1) := by decide +kernel
theorem d_L_law_408 : decode b_L_law 408 = .ok (.iaload, 1) := by decide +kernel
theorem d_L_law_409 : decode b_L_law 409 = .ok (.aload_n 3, 1) := by decide +kernel
theorem d_L_law_410 : decode b_L_law 410 = .ok (.invokestatic 97, 3) := by decide +kernel
theorem d_L_law_413 : decode b_L_law 413 = .ok (.istore 5, 2) := by decide +kernel
theorem d_L_law_415 : decode b_L_law 415 = .ok (.aload_n 2, 1) := by decide +kernel
theorem d_L_law_416 : decode b_L_law 416 = .ok (.aload_n 0, 1) := by decide +kernel
theorem d_L_law_417 : decode b_L_law 417 = .ok (.iload 4, 2) := by decide +kernel
theorem d_L_law_419 : decode b_L_law 419 = .ok (.iconst 1, 1) := by decide +kernel
theorem d_L_law_420 : decode b_L_law 420 = .ok (.iadd, 1) := by decide +kernel
theorem d_L_law_421 : decode b_L_law 421 = .ok (.iaload, 1) := by decide +kernel
theorem d_L_law_422 : decode b_L_law 422 = .ok (.aload_n 0, 1) := by decide +kernel
theorem d_L_law_423 : decode b_L_law 423 = .ok (.iload 4, 2) := by decide +kernel
theorem d_L_law_425 : decode b_L_law 425 = .ok (.iconst 2, 1) := by decide +kernel
theorem d_L_law_426 : decode b_L_law 426 = .ok (.iadd, 1) := by decide +kernel
theorem d_L_law_427 : decode b_L_law 427 = .ok (.iaload, 1) := by decide +kernel
theorem d_L_law_428 : decode b_L_law 428 = .ok (.invokevirtual 99, 3) := by decide +kernel
theorem d_L_law_431 : decode b_L_law 431 = .ok (.istore 6, 2) := by decide +kernel
theorem d_L_law_433 : decode b_L_law 433 = .ok (.aload_n 2, 1) := by decide +kernel
theorem d_L_law_434 : decode b_L_law 434 = .ok (.invokevirtual 83, 3) := by decide +kernel
theorem d_L_law_437 : decode b_L_law 437 = .ok (.iload 5, 2) := by decide +kernel
theorem d_L_law_439 : decode b_L_law 439 = .ok (.if_icmp .eq 5, 3) := by decide +kernel
theorem d_L_law_442 : decode b_L_law 442 = .ok (.iconst 0, 1) := by decide +kernel
theorem d_L_law_443 : decode b_L_law 443 = .ok (.ireturn, 1) := by decide +kernel
theorem d_L_law_444 : decode b_L_law 444 = .ok (.iload 5, 2) := by decide +kernel
theorem d_L_law_446 : decode b_L_law 446 = .ok (.ifCond .ne 15, 3) := by decide +kernel
theorem d_L_law_449 : decode b_L_law 449 = .ok (.aload_n 3, 1) := by decide +kernel
theorem d_L_law_450 : decode b_L_law 450 = .ok (.iconst 0, 1) := by decide +kernel
theorem d_L_law_451 : decode b_L_law 451 = .ok (.laload, 1) := by decide +kernel
theorem d_L_law_452 : decode b_L_law 452 = .ok (.iload 6, 2) := by decide +kernel
theorem d_L_law_454 : decode b_L_law 454 = .ok (.i2l, 1) := by decide +kernel
theorem d_L_law_455 : decode b_L_law 455 = .ok (.lcmp, 1) := by decide +kernel
theorem d_L_law_456 : decode b_L_law 456 = .ok (.ifCond .eq 5, 3) := by decide +kernel
theorem d_L_law_459 : decode b_L_law 459 = .ok (.iconst 0, 1) := by decide +kernel
theorem d_L_law_460 : decode b_L_law 460 = .ok (.ireturn, 1) := by decide +kernel
theorem d_L_law_461 : decode b_L_law 461 = .ok (.goto 706, 3) := by decide +kernel
theorem d_L_law_464 : decode b_L_law 464 = .ok (.aload_n 1, 1) := by decide +kernel
theorem d_L_law_465 : decode b_L_law 465 = .ok (.aload_n 0, 1) := by decide +kernel
theorem d_L_law_466 : decode b_L_law 466 = .ok (.iload 4, 2) := by decide +kernel
theorem d_L_law_468 : decode b_L_law 468 = .ok (.iconst 1, 1) := by decide +kernel
theorem d_L_law_469 : decode b_L_law 469 = .ok (.iadd, 1) := by decide +kernel
theorem d_L_law_470 : decode b_L_law 470 = .ok (.iaload, 1) := by decide +kernel
theorem d_L_law_471 : decode b_L_law 471 = .ok (.aload_n 0, 1) := by decide +kernel
theorem d_L_law_472 : decode b_L_law 472 = .ok (.iload 4, 2) := by decide +kernel
theorem d_L_law_474 : decode b_L_law 474 = .ok (.iconst 2, 1) := by decide +kernel
theorem d_L_law_475 : decode b_L_law 475 = .ok (.iadd, 1) := by decide +kernel
theorem d_L_law_476 : decode b_L_law 476 = .ok (.iaload, 1) := by decide +kernel
theorem d_L_law_477 : decode b_L_law 477 = .ok (.aload_n 3, 1) := by decide +kernel
theorem d_L_law_478 : decode b_L_law 478 = .ok (.invokestatic 100, 3) := by decide +kernel
theorem d_L_law_481 : decode b_L_law 481 = .ok (.istore 5, 2) := by decide +kernel
theorem d_L_law_483 : decode b_L_law 483 = .ok (.aload_n 2, 1) := by decide +kernel
theorem d_L_law_484 : decode b_L_law 484 = .ok (.aload_n 0, 1) := by decide +kernel
theorem d_L_law_485 : decode b_L_law 485 = .ok (.iload 4, 2) := by decide +kernel
theorem d_L_law_487 : decode b_L_law 487 = .ok (.iconst 1, 1) := by decide +kernel
theorem d_L_law_488 : decode b_L_law 488 = .ok (.iadd, 1) := by decide +kernel
theorem d_L_law_489 : decode b_L_law 489 = .ok (.iaload, 1) := by decide +kernel
theorem d_L_law_490 : decode b_L_law 490 = .ok (.aload_n 0, 1) := by decide +kernel
theorem d_L_law_491 : decode b_L_law 491 = .ok (.iload 4, 2) := by decide +kernel
theorem d_L_law_493 : decode b_L_law 493 = .ok (.iconst 2, 1) := by decide +kernel
theorem d_L_law_494 : decode b_L_law 494 = .ok (.iadd, 1) := by decide +kernel
theorem d_L_law_495 : decode b_L_law 495 = .ok (.iaload, 1) := by decide +kernel
theorem d_L_law_496 : decode b_L_law 496 = .ok (.invokevirtual 102, 3) := by decide +kernel
theorem d_L_law_499 : decode b_L_law 499 = .ok (.istore 6, 2) := by decide +kernel
theorem d_L_law_501 : decode b_L_law 501 = .ok (.aload_n 2, 1) := by decide +kernel
theorem d_L_law_502 : decode b_L_law 502 = .ok (.invokevirtual 83, 3) := by decide +kernel
theorem d_L_law_505 : decode b_L_law 505 = .ok (.iload 5, 2) := by decide +kernel
theorem d_L_law_507 : decode b_L_law 507 = .ok (.if_icmp .eq 5, 3) := by decide +kernel
theorem d_L_law_510 : decode b_L_law 510 = .ok (.iconst 0, 1) := by decide +kernel
theorem d_L_law_511 : decode b_L_law 511 = .ok (.ireturn, 1) := by decide +kernel
theorem d_L_law_512 : decode b_L_law 512 = .ok (.iload 5, 2) := by decide +kernel
theorem d_L_law_514 : decode b_L_law 514 = .ok (.ifCond .ne 15, 3) := by decide +kernel
theorem d_L_law_517 : decode b_L_law 517 = .ok (.aload_n 3, 1) := by decide +kernel
theorem d_L_law_518 : decode b_L_law 518 = .ok (.iconst 0, 1) := by decide +kernel
theorem d_L_law_519 : decode b_L_law 519 = .ok (.laload, 1) := by decide +kernel
theorem d_L_law_520 : decode b_L_law 520 = .ok (.iload 6, 2) := by decide +kernel
theorem d_L_law_522 : decode b_L_law 522 = .ok (.i2l, 1) := by decide +kernel
theorem d_L_law_523 : decode b_L_law 523 = .ok (.lcmp, 1) := by decide +kernel
theorem d_L_law_524 : decode b_L_law 524 = .ok (.ifCond .eq 5, 3) := by decide +kernel
theorem d_L_law_527 : decode b_L_law 527 = .ok (.iconst 0, 1) := by decide +kernel
theorem d_L_law_528 : decode b_L_law 528 = .ok (.ireturn, 1) := by decide +kernel
theorem d_L_law_529 : decode b_L_law 529 = .ok (.goto 638, 3) := by decide +kernel
theorem d_L_law_532 : decode b_L_law 532 = .ok (.aload_n 1, 1) := by decide +kernel
theorem d_L_law_533 : decode b_L_law 533 = .ok (.invokevirtual 103, 3) := by decide +kernel
theorem d_L_law_536 : decode b_L_law 536 = .ok (.aload_n 2, 1) := by decide +kernel
theorem d_L_law_537 : decode b_L_law 537 = .ok (.invokevirtual 106, 3) := by decide +kernel
theorem d_L_law_540 : decode b_L_law 540 = .ok (.if_icmp .eq 627, 3) := by decide +kernel
theorem d_L_law_543 : decode b_L_law 543 = .ok (.iconst 0, 1) := by decide +kernel
theorem d_L_law_544 : decode b_L_law 544 = .ok (.ireturn, 1) := by decide +kernel
theorem d_L_law_545 : decode b_L_law 545 = .ok (.aload_n 1, 1) := by decide +kernel
theorem d_L_law_546 : decode b_L_law 546 = .ok (.aload_n 0, 1) := by decide +kernel
theorem d_L_law_547 : decode b_L_law 547 = .ok (.iload 4, 2) := by decide +kernel
theorem d_L_law_549 : decode b_L_law 549 = .ok (.iconst 1, 1) := by decide +kernel
theorem d_L_law_550 : decode b_L_law 550 = .ok (.iadd, 1) := by decide +kernel
theorem d_L_law_551 : decode b_L_law 551 = .ok (.iaload, 1) := by decide +kernel
theorem d_L_law_552 : decode b_L_law 552 = .ok (.aload_n 0, 1) := by decide +kernel
theorem d_L_law_553 : decode b_L_law 553 = .ok (.iload 4, 2) := by decide +kernel
theorem d_L_law_555 : decode b_L_law 555 = .ok (.iconst 2, 1) := by decide +kernel
theorem d_L_law_556 : decode b_L_law 556 = .ok (.iadd, 1) := by decide +kernel
theorem d_L_law_557 : decode b_L_law 557 = .ok (.iaload, 1) := by decide +kernel
theorem d_L_law_558 : decode b_L_law 558 = .ok (.aload_n 3, 1) := by decide +kernel
theorem d_L_law_559 : decode b_L_law 559 = .ok (.invokestatic 107, 3) := by decide +kernel
theorem d_L_law_562 : decode b_L_law 562 = .ok (.istore 5, 2) := by decide +kernel
theorem d_L_law_564 : decode b_L_law 564 = .ok (.aload_n 2, 1) := by decide +kernel
theorem d_L_law_565 : decode b_L_law 565 = .ok (.aload_n 0, 1) := by decide +kernel
theorem d_L_law_566 : decode b_L_law 566 = .ok (.iload 4, 2) := by decide +kernel
theorem d_L_law_568 : decode b_L_law 568 = .ok (.iconst 1, 1) := by decide +kernel
theorem d_L_law_569 : decode b_L_law 569 = .ok (.iadd, 1) := by decide +kernel
theorem d_L_law_570 : decode b_L_law 570 = .ok (.iaload, 1) := by decide +kernel
theorem d_L_law_571 : decode b_L_law 571 = .ok (.aload_n 0, 1) := by decide +kernel
theorem d_L_law_572 : decode b_L_law 572 = .ok (.iload 4, 2) := by decide +kernel
theorem d_L_law_574 : decode b_L_law 574 = .ok (.iconst 2, 1) := by decide +kernel
theorem d_L_law_575 : decode b_L_law 575 = .ok (.iadd, 1) := by decide +kernel
theorem d_L_law_576 : decode b_L_law 576 = .ok (.iaload, 1) := by decide +kernel
theorem d_L_law_577 : decode b_L_law 577 = .ok (.invokevirtual 109, 3) := by decide +kernel
theorem d_L_law_580 : decode b_L_law 580 = .ok (.istore 6, 2) := by decide +kernel
theorem d_L_law_582 : decode b_L_law 582 = .ok (.aload_n 2, 1) := by decide +kernel
theorem d_L_law_583 : decode b_L_law 583 = .ok (.invokevirtual 83, 3) := by decide +kernel
theorem d_L_law_586 : decode b_L_law 586 = .ok (.iload 5, 2) := by decide +kernel
theorem d_L_law_588 : decode b_L_law 588 = .ok (.if_icmp .eq 5, 3) := by decide +kernel
theorem d_L_law_591 : decode b_L_law 591 = .ok (.iconst 0, 1) := by decide +kernel
theorem d_L_law_592 : decode b_L_law 592 = .ok (.ireturn, 1) := by decide +kernel
theorem d_L_law_593 : decode b_L_law 593 = .ok (.iload 5, 2) := by decide +kernel
theorem d_L_law_595 : decode b_L_law 595 = .ok (.ifCond .ne 22, 3) := by decide +kernel
theorem d_L_law_598 : decode b_L_law 598 = .ok (.aload_n 3, 1) := by decide +kernel
theorem d_L_law_599 : decode b_L_law 599 = .ok (.iconst 0, 1) := by decide +kernel
theorem d_L_law_600 : decode b_L_law 600 = .ok (.laload, 1) := by decide +kernel
theorem d_L_law_601 : decode b_L_law 601 = .ok (.iload 6, 2) := by decide +kernel
theorem d_L_law_603 : decode b_L_law 603 = .ok (.ifCond .eq 7, 3) := by decide +kernel
theorem d_L_law_606 : decode b_L_law 606 = .ok (.lconst 1, 1) := by decide +kernel
theorem d_L_law_607 : decode b_L_law 607 = .ok (.goto 4, 3) := by decide +kernel
theorem d_L_law_610 : decode b_L_law 610 = .ok (.lconst 0, 1) := by decide +kernel
theorem d_L_law_611 : decode b_L_law 611 = .ok (.lcmp, 1) := by decide +kernel
theorem d_L_law_612 : decode b_L_law 612 = .ok (.ifCond .eq 5, 3) := by decide +kernel
theorem d_L_law_615 : decode b_L_law 615 = .ok (.iconst 0, 1) := by decide +kernel
theorem d_L_law_616 : decode b_L_law 616 = .ok (.ireturn, 1) := by decide +kernel
theorem d_L_law_617 : decode b_L_law 617 = .ok (.goto 550, 3) := by decide +kernel
theorem d_L_law_620 : decode b_L_law 620 = .ok (.aload_n 1, 1) := by decide +kernel
theorem d_L_law_621 : decode b_L_law 621 = .ok (.aload_n 0, 1) := by decide +kernel
theorem d_L_law_622 : decode b_L_law 622 = .ok (.iload 4, 2) := by decide +kernel
theorem d_L_law_624 : decode b_L_law 624 = .ok (.iconst 1, 1) := by decide +kernel
theorem d_L_law_625 : decode b_L_law 625 = .ok (.iadd, 1) := by decide +kernel
theorem d_L_law_626 : decode b_L_law 626 = .ok (.iaload, 1) := by decide +kernel
theorem d_L_law_627 : decode b_L_law 627 = .ok (.aload_n 0, 1) := by decide +kernel
theorem d_L_law_628 : decode b_L_law 628 = .ok (.iload 4, 2) := by decide +kernel
theorem d_L_law_630 : decode b_L_law 630 = .ok (.iconst 2, 1) := by decide +kernel
theorem d_L_law_631 : decode b_L_law 631 = .ok (.iadd, 1) := by decide +kernel
theorem d_L_law_632 : decode b_L_law 632 = .ok (.iaload, 1) := by decide +kernel
theorem d_L_law_633 : decode b_L_law 633 = .ok (.aload_n 0, 1) := by decide +kernel
theorem d_L_law_634 : decode b_L_law 634 = .ok (.iload 4, 2) := by decide +kernel
theorem d_L_law_636 : decode b_L_law 636 = .ok (.iconst 3, 1) := by decide +kernel
theorem d_L_law_637 : decode b_L_law 637 = .ok (.iadd, 1) := by decide +kernel
theorem d_L_law_638 : decode b_L_law 638 = .ok (.iaload, 1) := by decide +kernel
theorem d_L_law_639 : decode b_L_law 639 = .ok (.ifCond .eq 7, 3) := by decide +kernel
theorem d_L_law_642 : decode b_L_law 642 = .ok (.iconst 1, 1) := by decide +kernel
theorem d_L_law_643 : decode b_L_law 643 = .ok (.goto 4, 3) := by decide +kernel
theorem d_L_law_646 : decode b_L_law 646 = .ok (.iconst 0, 1) := by decide +kernel
theorem d_L_law_647 : decode b_L_law 647 = .ok (.aload_n 3, 1) := by decide +kernel
theorem d_L_law_648 : decode b_L_law 648 = .ok (.invokestatic 110, 3) := by decide +kernel
theorem d_L_law_651 : decode b_L_law 651 = .ok (.istore 5, 2) := by decide +kernel
theorem d_L_law_653 : decode b_L_law 653 = .ok (.aload_n 2, 1) := by decide +kernel
theorem d_L_law_654 : decode b_L_law 654 = .ok (.aload_n 0, 1) := by decide +kernel
theorem d_L_law_655 : decode b_L_law 655 = .ok (.iload 4, 2) := by decide +kernel
theorem d_L_law_657 : decode b_L_law 657 = .ok (.iconst 1, 1) := by decide +kernel
theorem d_L_law_658 : decode b_L_law 658 = .ok (.iadd, 1) := by decide +kernel
theorem d_L_law_659 : decode b_L_law 659 = .ok (.iaload, 1) := by decide +kernel
theorem d_L_law_660 : decode b_L_law 660 = .ok (.aload_n 0, 1) := by decide +kernel
theorem d_L_law_661 : decode b_L_law 661 = .ok (.iload 4, 2) := by decide +kernel
theorem d_L_law_663 : decode b_L_law 663 = .ok (.iconst 2, 1) := by decide +kernel
theorem d_L_law_664 : decode b_L_law 664 = .ok (.iadd, 1) := by decide +kernel
theorem d_L_law_665 : decode b_L_law 665 = .ok (.iaload, 1) := by decide +kernel
theorem d_L_law_666 : decode b_L_law 666 = .ok (.aload_n 0, 1) := by decide +kernel
theorem d_L_law_667 : decode b_L_law 667 = .ok (.iload 4, 2) := by decide +kernel
theorem d_L_law_669 : decode b_L_law 669 = .ok (.iconst 3, 1) := by decide +kernel
theorem d_L_law_670 : decode b_L_law 670 = .ok (.iadd, 1) := by decide +kernel
theorem d_L_law_671 : decode b_L_law 671 = .ok (.iaload, 1) := by decide +kernel
theorem d_L_law_672 : decode b_L_law 672 = .ok (.ifCond .eq 7, 3) := by decide +kernel
theorem d_L_law_675 : decode b_L_law 675 = .ok (.iconst 1, 1) := by decide +kernel
theorem d_L_law_676 : decode b_L_law 676 = .ok (.goto 4, 3) := by decide +kernel
theorem d_L_law_679 : decode b_L_law 679 = .ok (.iconst 0, 1) := by decide +kernel
theorem d_L_law_680 : decode b_L_law 680 = .ok (.invokevirtual 113, 3) := by decide +kernel
theorem d_L_law_683 : decode b_L_law 683 = .ok (.lstore 6, 2) := by decide +kernel
theorem d_L_law_685 : decode b_L_law 685 = .ok (.aload_n 2, 1) := by decide +kernel
theorem d_L_law_686 : decode b_L_law 686 = .ok (.invokevirtual 83, 3) := by decide +kernel
theorem d_L_law_689 : decode b_L_law 689 = .ok (.iload 5, 2) := by decide +kernel
theorem d_L_law_691 : decode b_L_law 691 = .ok (.if_icmp .eq 5, 3) := by decide +kernel
theorem d_L_law_694 : decode b_L_law 694 = .ok (.iconst 0, 1) := by decide +kernel
theorem d_L_law_695 : decode b_L_law 695 = .ok (.ireturn, 1) := by decide +kernel
theorem d_L_law_696 : decode b_L_law 696 = .ok (.iload 5, 2) := by decide +kernel
theorem d_L_law_698 : decode b_L_law 698 = .ok (.ifCond .ne 14, 3) := by decide +kernel
theorem d_L_law_701 : decode b_L_law 701 = .ok (.aload_n 3, 1) := by decide +kernel
theorem d_L_law_702 : decode b_L_law 702 = .ok (.iconst 0, 1) := by decide +kernel
theorem d_L_law_703 : decode b_L_law 703 = .ok (.laload, 1) := by decide +kernel
theorem d_L_law_704 : decode b_L_law 704 = .ok (.lload 6, 2) := by decide +kernel
theorem d_L_law_706 : decode b_L_law 706 = .ok (.lcmp, 1) := by decide +kernel
theorem d_L_law_707 : decode b_L_law 707 = .ok (.ifCond .eq 5, 3) := by decide +kernel
theorem d_L_law_710 : decode b_L_law 710 = .ok (.iconst 0, 1) := by decide +kernel
theorem d_L_law_711 : decode b_L_law 711 = .ok (.ireturn, 1) := by decide +kernel
theorem d_L_law_712 : decode b_L_law 712 = .ok (.goto 455, 3) := by decide +kernel
theorem d_L_law_715 : decode b_L_law 715 = .ok (.aload_n 1, 1) := by decide +kernel
theorem d_L_law_716 : decode b_L_law 716 = .ok (.invokevirtual 114, 3) := by decide +kernel
theorem d_L_law_719 : decode b_L_law 719 = .ok (.aload_n 2, 1) := by decide +kernel
theorem d_L_law_720 : decode b_L_law 720 = .ok (.invokevirtual 117, 3) := by decide +kernel
theorem d_L_law_723 : decode b_L_law 723 = .ok (.if_icmp .eq 444, 3) := by decide +kernel
theorem d_L_law_726 : decode b_L_law 726 = .ok (.iconst 0, 1) := by decide +kernel
theorem d_L_law_727 : decode b_L_law 727 = .ok (.ireturn, 1) := by decide +kernel
theorem d_L_law_728 : decode b_L_law 728 = .ok (.aload_n 1, 1) := by decide +kernel
theorem d_L_law_729 : decode b_L_law 729 = .ok (.aload_n 0, 1) := by decide +kernel
theorem d_L_law_730 : decode b_L_law 730 = .ok (.iload 4, 2) := by decide +kernel
theorem d_L_law_732 : decode b_L_law 732 = .ok (.iconst 1, 1) := by decide +kernel
theorem d_L_law_733 : decode b_L_law 733 = .ok (.iadd, 1) := by decide +kernel
theorem d_L_law_734 : decode b_L_law 734 = .ok (.iaload, 1) := by decide +kernel
theorem d_L_law_735 : decode b_L_law 735 = .ok (.aload_n 0, 1) := by decide +kernel
theorem d_L_law_736 : decode b_L_law 736 = .ok (.iload 4, 2) := by decide +kernel
theorem d_L_law_738 : decode b_L_law 738 = .ok (.iconst 2, 1) := by decide +kernel
theorem d_L_law_739 : decode b_L_law 739 = .ok (.iadd, 1) := by decide +kernel
theorem d_L_law_740 : decode b_L_law 740 = .ok (.iaload, 1) := by decide +kernel
theorem d_L_law_741 : decode b_L_law 741 = .ok (.aload_n 3, 1) := by decide +kernel
theorem d_L_law_742 : decode b_L_law 742 = .ok (.invokestatic 118, 3) := by decide +kernel
theorem d_L_law_745 : decode b_L_law 745 = .ok (.istore 5, 2) := by decide +kernel
theorem d_L_law_747 : decode b_L_law 747 = .ok (.aload_n 2, 1) := by decide +kernel
theorem d_L_law_748 : decode b_L_law 748 = .ok (.aload_n 0, 1) := by decide +kernel
theorem d_L_law_749 : decode b_L_law 749 = .ok (.iload 4, 2) := by decide +kernel
theorem d_L_law_751 : decode b_L_law 751 = .ok (.iconst 1, 1) := by decide +kernel
theorem d_L_law_752 : decode b_L_law 752 = .ok (.iadd, 1) := by decide +kernel
theorem d_L_law_753 : decode b_L_law 753 = .ok (.iaload, 1) := by decide +kernel
theorem d_L_law_754 : decode b_L_law 754 = .ok (.aload_n 0, 1) := by decide +kernel
theorem d_L_law_755 : decode b_L_law 755 = .ok (.iload 4, 2) := by decide +kernel
theorem d_L_law_757 : decode b_L_law 757 = .ok (.iconst 2, 1) := by decide +kernel
theorem d_L_law_758 : decode b_L_law 758 = .ok (.iadd, 1) := by decide +kernel
theorem d_L_law_759 : decode b_L_law 759 = .ok (.iaload, 1) := by decide +kernel
theorem d_L_law_760 : decode b_L_law 760 = .ok (.invokevirtual 120, 3) := by decide +kernel
theorem d_L_law_763 : decode b_L_law 763 = .ok (.istore 6, 2) := by decide +kernel
theorem d_L_law_765 : decode b_L_law 765 = .ok (.aload_n 2, 1) := by decide +kernel
theorem d_L_law_766 : decode b_L_law 766 = .ok (.invokevirtual 83, 3) := by decide +kernel
theorem d_L_law_769 : decode b_L_law 769 = .ok (.iload 5, 2) := by decide +kernel
theorem d_L_law_771 : decode b_L_law 771 = .ok (.if_icmp .eq 5, 3) := by decide +kernel
theorem d_L_law_774 : decode b_L_law 774 = .ok (.iconst 0, 1) := by decide +kernel
theorem d_L_law_775 : decode b_L_law 775 = .ok (.ireturn, 1) := by decide +kernel
theorem d_L_law_776 : decode b_L_law 776 = .ok (.iload 5, 2) := by decide +kernel
theorem d_L_law_778 : decode b_L_law 778 = .ok (.ifCond .ne 15, 3) := by decide +kernel
theorem d_L_law_781 : decode b_L_law 781 = .ok (.aload_n 3, 1) := by decide +kernel
theorem d_L_law_782 : decode b_L_law 782 = .ok (.iconst 0, 1) := by decide +kernel
theorem d_L_law_783 : decode b_L_law 783 = .ok (.laload, 1) := by decide +kernel
theorem d_L_law_784 : decode b_L_law 784 = .ok (.iload 6, 2) := by decide +kernel
theorem d_L_law_786 : decode b_L_law 786 = .ok (.i2l, 1) := by decide +kernel
theorem d_L_law_787 : decode b_L_law 787 = .ok (.lcmp, 1) := by decide +kernel
theorem d_L_law_788 : decode b_L_law 788 = .ok (.ifCond .eq 5, 3) := by decide +kernel
theorem d_L_law_791 : decode b_L_law 791 = .ok (.iconst 0, 1) := by decide +kernel
theorem d_L_law_792 : decode b_L_law 792 = .ok (.ireturn, 1) := by decide +kernel
theorem d_L_law_793 : decode b_L_law 793 = .ok (.goto 374, 3) := by decide +kernel
theorem d_L_law_796 : decode b_L_law 796 = .ok (.aload_n 1, 1) := by decide +kernel
theorem d_L_law_797 : decode b_L_law 797 = .ok (.aload_n 0, 1) := by decide +kernel
theorem d_L_law_798 : decode b_L_law 798 = .ok (.iload 4, 2) := by decide +kernel
theorem d_L_law_800 : decode b_L_law 800 = .ok (.iconst 1, 1) := by decide +kernel
theorem d_L_law_801 : decode b_L_law 801 = .ok (.iadd, 1) := by decide +kernel
theorem d_L_law_802 : decode b_L_law 802 = .ok (.iaload, 1) := by decide +kernel
theorem d_L_law_803 : decode b_L_law 803 = .ok (.aload_n 0, 1) := by decide +kernel
theorem d_L_law_804 : decode b_L_law 804 = .ok (.iload 4, 2) := by decide +kernel
theorem d_L_law_806 : decode b_L_law 806 = .ok (.iconst 2, 1) := by decide +kernel
theorem d_L_law_807 : decode b_L_law 807 = .ok (.iadd, 1) := by decide +kernel
theorem d_L_law_808 : decode b_L_law 808 = .ok (.iaload, 1) := by decide +kernel
theorem d_L_law_809 : decode b_L_law 809 = .ok (.aload_n 3, 1) := by decide +kernel
theorem d_L_law_810 : decode b_L_law 810 = .ok (.invokestatic 121, 3) := by decide +kernel
theorem d_L_law_813 : decode b_L_law 813 = .ok (.istore 5, 2) := by decide +kernel
theorem d_L_law_815 : decode b_L_law 815 = .ok (.aload_n 2, 1) := by decide +kernel
theorem d_L_law_816 : decode b_L_law 816 = .ok (.aload_n 0, 1) := by decide +kernel
theorem d_L_law_817 : decode b_L_law 817 = .ok (.iload 4, 2) := by decide +kernel
theorem d_L_law_819 : decode b_L_law 819 = .ok (.iconst 1, 1) := by decide +kernel
theorem d_L_law_820 : decode b_L_law 820 = .ok (.iadd, 1) := by decide +kernel
theorem d_L_law_821 : decode b_L_law 821 = .ok (.iaload, 1) := by decide +kernel
theorem d_L_law_822 : decode b_L_law 822 = .ok (.aload_n 0, 1) := by decide +kernel
theorem d_L_law_823 : decode b_L_law 823 = .ok (.iload 4, 2) := by decide +kernel
theorem d_L_law_825 : decode b_L_law 825 = .ok (.iconst 2, 1) := by decide +kernel
theorem d_L_law_826 : decode b_L_law 826 = .ok (.iadd, 1) := by decide +kernel
theorem d_L_law_827 : decode b_L_law 827 = .ok (.iaload, 1) := by decide +kernel
theorem d_L_law_828 : decode b_L_law 828 = .ok (.invokevirtual 123, 3) := by decide +kernel
theorem d_L_law_831 : decode b_L_law 831 = .ok (.istore 6, 2) := by decide +kernel
theorem d_L_law_833 : decode b_L_law 833 = .ok (.aload_n 2, 1) := by decide +kernel
theorem d_L_law_834 : decode b_L_law 834 = .ok (.invokevirtual 83, 3) := by decide +kernel
theorem d_L_law_837 : decode b_L_law 837 = .ok (.iload 5, 2) := by decide +kernel
theorem d_L_law_839 : decode b_L_law 839 = .ok (.if_icmp .eq 5, 3) := by decide +kernel
theorem d_L_law_842 : decode b_L_law 842 = .ok (.iconst 0, 1) := by decide +kernel
theorem d_L_law_843 : decode b_L_law 843 = .ok (.ireturn, 1) := by decide +kernel
theorem d_L_law_844 : decode b_L_law 844 = .ok (.iload 5, 2) := by decide +kernel
theorem d_L_law_846 : decode b_L_law 846 = .ok (.ifCond .ne 15, 3) := by decide +kernel
theorem d_L_law_849 : decode b_L_law 849 = .ok (.aload_n 3, 1) := by decide +kernel
theorem d_L_law_850 : decode b_L_law 850 = .ok (.iconst 0, 1) := by decide +kernel
theorem d_L_law_851 : decode b_L_law 851 = .ok (.laload, 1) := by decide +kernel
theorem d_L_law_852 : decode b_L_law 852 = .ok (.iload 6, 2) := by decide +kernel
theorem d_L_law_854 : decode b_L_law 854 = .ok (.i2l, 1) := by decide +kernel
theorem d_L_law_855 : decode b_L_law 855 = .ok (.lcmp, 1) := by decide +kernel
theorem d_L_law_856 : decode b_L_law 856 = .ok (.ifCond .eq 5, 3) := by decide +kernel
theorem d_L_law_859 : decode b_L_law 859 = .ok (.iconst 0, 1) := by decide +kernel
theorem d_L_law_860 : decode b_L_law 860 = .ok (.ireturn, 1) := by decide +kernel
theorem d_L_law_861 : decode b_L_law 861 = .ok (.goto 306, 3) := by decide +kernel
theorem d_L_law_864 : decode b_L_law 864 = .ok (.aload_n 1, 1) := by decide +kernel
theorem d_L_law_865 : decode b_L_law 865 = .ok (.aload_n 0, 1) := by decide +kernel
theorem d_L_law_866 : decode b_L_law 866 = .ok (.iload 4, 2) := by decide +kernel
theorem d_L_law_868 : decode b_L_law 868 = .ok (.iconst 1, 1) := by decide +kernel
theorem d_L_law_869 : decode b_L_law 869 = .ok (.iadd, 1) := by decide +kernel
theorem d_L_law_870 : decode b_L_law 870 = .ok (.iaload, 1) := by decide +kernel
theorem d_L_law_871 : decode b_L_law 871 = .ok (.aload_n 3, 1) := by decide +kernel
theorem d_L_law_872 : decode b_L_law 872 = .ok (.invokestatic 124, 3) := by decide +kernel
theorem d_L_law_875 : decode b_L_law 875 = .ok (.istore 5, 2) := by decide +kernel
theorem d_L_law_877 : decode b_L_law 877 = .ok (.aload_n 2, 1) := by decide +kernel
theorem d_L_law_878 : decode b_L_law 878 = .ok (.aload_n 0, 1) := by decide +kernel
theorem d_L_law_879 : decode b_L_law 879 = .ok (.iload 4, 2) := by decide +kernel
theorem d_L_law_881 : decode b_L_law 881 = .ok (.iconst 1, 1) := by decide +kernel
theorem d_L_law_882 : decode b_L_law 882 = .ok (.iadd, 1) := by decide +kernel
theorem d_L_law_883 : decode b_L_law 883 = .ok (.iaload, 1) := by decide +kernel
theorem d_L_law_884 : decode b_L_law 884 = .ok (.invokevirtual 127, 3) := by decide +kernel
theorem d_L_law_887 : decode b_L_law 887 = .ok (.istore 6, 2) := by decide +kernel
theorem d_L_law_889 : decode b_L_law 889 = .ok (.aload_n 2, 1) := by decide +kernel
theorem d_L_law_890 : decode b_L_law 890 = .ok (.invokevirtual 83, 3) := by decide +kernel
theorem d_L_law_893 : decode b_L_law 893 = .ok (.iload 5, 2) := by decide +kernel
theorem d_L_law_895 : decode b_L_law 895 = .ok (.if_icmp .eq 5, 3) := by decide +kernel
theorem d_L_law_898 : decode b_L_law 898 = .ok (.iconst 0, 1) := by decide +kernel
theorem d_L_law_899 : decode b_L_law 899 = .ok (.ireturn, 1) := by decide +kernel
theorem d_L_law_900 : decode b_L_law 900 = .ok (.iload 5, 2) := by decide +kernel
theorem d_L_law_902 : decode b_L_law 902 = .ok (.ifCond .ne 15, 3) := by decide +kernel
theorem d_L_law_905 : decode b_L_law 905 = .ok (.aload_n 3, 1) := by decide +kernel
theorem d_L_law_906 : decode b_L_law 906 = .ok (.iconst 0, 1) := by decide +kernel
theorem d_L_law_907 : decode b_L_law 907 = .ok (.laload, 1) := by decide +kernel
theorem d_L_law_908 : decode b_L_law 908 = .ok (.iload 6, 2) := by decide +kernel
theorem d_L_law_910 : decode b_L_law 910 = .ok (.i2l, 1) := by decide +kernel
theorem d_L_law_911 : decode b_L_law 911 = .ok (.lcmp, 1) := by decide +kernel
theorem d_L_law_912 : decode b_L_law 912 = .ok (.ifCond .eq 5, 3) := by decide +kernel
theorem d_L_law_915 : decode b_L_law 915 = .ok (.iconst 0, 1) := by decide +kernel
theorem d_L_law_916 : decode b_L_law 916 = .ok (.ireturn, 1) := by decide +kernel
theorem d_L_law_917 : decode b_L_law 917 = .ok (.goto 250, 3) := by decide +kernel
theorem d_L_law_920 : decode b_L_law 920 = .ok (.aload_n 1, 1) := by decide +kernel
theorem d_L_law_921 : decode b_L_law 921 = .ok (.aload_n 0, 1) := by decide +kernel
theorem d_L_law_922 : decode b_L_law 922 = .ok (.iload 4, 2) := by decide +kernel
theorem d_L_law_924 : decode b_L_law 924 = .ok (.iconst 1, 1) := by decide +kernel
theorem d_L_law_925 : decode b_L_law 925 = .ok (.iadd, 1) := by decide +kernel
theorem d_L_law_926 : decode b_L_law 926 = .ok (.iaload, 1) := by decide +kernel
theorem d_L_law_927 : decode b_L_law 927 = .ok (.aload_n 3, 1) := by decide +kernel
theorem d_L_law_928 : decode b_L_law 928 = .ok (.invokestatic 128, 3) := by decide +kernel
theorem d_L_law_931 : decode b_L_law 931 = .ok (.istore 5, 2) := by decide +kernel
theorem d_L_law_933 : decode b_L_law 933 = .ok (.aload_n 2, 1) := by decide +kernel
theorem d_L_law_934 : decode b_L_law 934 = .ok (.aload_n 0, 1) := by decide +kernel
theorem d_L_law_935 : decode b_L_law 935 = .ok (.iload 4, 2) := by decide +kernel
theorem d_L_law_937 : decode b_L_law 937 = .ok (.iconst 1, 1) := by decide +kernel
theorem d_L_law_938 : decode b_L_law 938 = .ok (.iadd, 1) := by decide +kernel
theorem d_L_law_939 : decode b_L_law 939 = .ok (.iaload, 1) := by decide +kernel
theorem d_L_law_940 : decode b_L_law 940 = .ok (.invokevirtual 130, 3) := by decide +kernel
theorem d_L_law_943 : decode b_L_law 943 = .ok (.lstore 6, 2) := by decide +kernel
theorem d_L_law_945 : decode b_L_law 945 = .ok (.aload_n 2, 1) := by decide +kernel
theorem d_L_law_946 : decode b_L_law 946 = .ok (.invokevirtual 83, 3) := by decide +kernel
theorem d_L_law_949 : decode b_L_law 949 = .ok (.iload 5, 2) := by decide +kernel
theorem d_L_law_951 : decode b_L_law 951 = .ok (.if_icmp .eq 5, 3) := by decide +kernel
theorem d_L_law_954 : decode b_L_law 954 = .ok (.iconst 0, 1) := by decide +kernel
theorem d_L_law_955 : decode b_L_law 955 = .ok (.ireturn, 1) := by decide +kernel
theorem d_L_law_956 : decode b_L_law 956 = .ok (.iload 5, 2) := by decide +kernel
theorem d_L_law_958 : decode b_L_law 958 = .ok (.ifCond .ne 14, 3) := by decide +kernel
theorem d_L_law_961 : decode b_L_law 961 = .ok (.aload_n 3, 1) := by decide +kernel
theorem d_L_law_962 : decode b_L_law 962 = .ok (.iconst 0, 1) := by decide +kernel
theorem d_L_law_963 : decode b_L_law 963 = .ok (.laload, 1) := by decide +kernel
theorem d_L_law_964 : decode b_L_law 964 = .ok (.lload 6, 2) := by decide +kernel
theorem d_L_law_966 : decode b_L_law 966 = .ok (.lcmp, 1) := by decide +kernel
theorem d_L_law_967 : decode b_L_law 967 = .ok (.ifCond .eq 5, 3) := by decide +kernel
theorem d_L_law_970 : decode b_L_law 970 = .ok (.iconst 0, 1) := by decide +kernel
theorem d_L_law_971 : decode b_L_law 971 = .ok (.ireturn, 1) := by decide +kernel
theorem d_L_law_972 : decode b_L_law 972 = .ok (.goto 195, 3) := by decide +kernel
theorem d_L_law_975 : decode b_L_law 975 = .ok (.aload_n 1, 1) := by decide +kernel
theorem d_L_law_976 : decode b_L_law 976 = .ok (.aload_n 0, 1) := by decide +kernel
theorem d_L_law_977 : decode b_L_law 977 = .ok (.iload 4, 2) := by decide +kernel
theorem d_L_law_979 : decode b_L_law 979 = .ok (.iconst 1, 1) := by decide +kernel
theorem d_L_law_980 : decode b_L_law 980 = .ok (.iadd, 1) := by decide +kernel
theorem d_L_law_981 : decode b_L_law 981 = .ok (.iaload, 1) := by decide +kernel
theorem d_L_law_982 : decode b_L_law 982 = .ok (.aload_n 3, 1) := by decide +kernel
theorem d_L_law_983 : decode b_L_law 983 = .ok (.invokestatic 131, 3) := by decide +kernel
theorem d_L_law_986 : decode b_L_law 986 = .ok (.istore 5, 2) := by decide +kernel
theorem d_L_law_988 : decode b_L_law 988 = .ok (.aload_n 2, 1) := by decide +kernel
theorem d_L_law_989 : decode b_L_law 989 = .ok (.aload_n 0, 1) := by decide +kernel
theorem d_L_law_990 : decode b_L_law 990 = .ok (.iload 4, 2) := by decide +kernel
theorem d_L_law_992 : decode b_L_law 992 = .ok (.iconst 1, 1) := by decide +kernel
theorem d_L_law_993 : decode b_L_law 993 = .ok (.iadd, 1) := by decide +kernel
theorem d_L_law_994 : decode b_L_law 994 = .ok (.iaload, 1) := by decide +kernel
theorem d_L_law_995 : decode b_L_law 995 = .ok (.invokevirtual 133, 3) := by decide +kernel
theorem d_L_law_998 : decode b_L_law 998 = .ok (.istore 6, 2) := by decide +kernel
theorem d_L_law_1000 : decode b_L_law 1000 = .ok (.aload_n 2, 1) := by decide +kernel
theorem d_L_law_1001 : decode b_L_law 1001 = .ok (.invokevirtual 83, 3) := by decide +kernel
theorem d_L_law_1004 : decode b_L_law 1004 = .ok (.iload 5, 2) := by decide +kernel
theorem d_L_law_1006 : decode b_L_law 1006 = .ok (.if_icmp .eq 5, 3) := by decide +kernel
theorem d_L_law_1009 : decode b_L_law 1009 = .ok (.iconst 0, 1) := by decide +kernel
theorem d_L_law_1010 : decode b_L_law 1010 = .ok (.ireturn, 1) := by decide +kernel
theorem d_L_law_1011 : decode b_L_law 1011 = .ok (.iload 5, 2) := by decide +kernel
theorem d_L_law_1013 : decode b_L_law 1013 = .ok (.ifCond .ne 15, 3) := by decide +kernel
theorem d_L_law_1016 : decode b_L_law 1016 = .ok (.aload_n 3, 1) := by decide +kernel
theorem d_L_law_1017 : decode b_L_law 1017 = .ok (.iconst 0, 1) := by decide +kernel
theorem d_L_law_1018 : decode b_L_law 1018 = .ok (.laload, 1) := by decide +kernel
theorem d_L_law_1019 : decode b_L_law 1019 = .ok (.iload 6, 2) := by decide +kernel
theorem d_L_law_1021 : decode b_L_law 1021 = .ok (.i2l, 1) := by decide +kernel
theorem d_L_law_1022 : decode b_L_law 1022 = .ok (.lcmp, 1) := by decide +kernel
theorem d_L_law_1023 : decode b_L_law 1023 = .ok (.ifCond .eq 5, 3) := by decide +kernel
theorem d_L_law_1026 : decode b_L_law 1026 = .ok (.iconst 0, 1) := by decide +kernel
theorem d_L_law_1027 : decode b_L_law 1027 = .ok (.ireturn, 1) := by decide +kernel
theorem d_L_law_1028 : decode b_L_law 1028 = .ok (.goto 139, 3) := by decide +kernel
theorem d_L_law_1031 : decode b_L_law 1031 = .ok (.aload_n 1, 1) := by decide +kernel
theorem d_L_law_1032 : decode b_L_law 1032 = .ok (.aload_n 0, 1) := by decide +kernel
theorem d_L_law_1033 : decode b_L_law 1033 = .ok (.iload 4, 2) := by decide +kernel
theorem d_L_law_1035 : decode b_L_law 1035 = .ok (.iconst 1, 1) := by decide +kernel
theorem d_L_law_1036 : decode b_L_law 1036 = .ok (.iadd, 1) := by decide +kernel
theorem d_L_law_1037 : decode b_L_law 1037 = .ok (.iaload, 1) := by decide +kernel
theorem d_L_law_1038 : decode b_L_law 1038 = .ok (.i2l, 1) := by decide +kernel
theorem d_L_law_1039 : decode b_L_law 1039 = .ok (.bipush 32, 2) := by decide +kernel
theorem d_L_law_1041 : decode b_L_law 1041 = .ok (.lshl, 1) := by decide +kernel
theorem d_L_law_1042 : decode b_L_law 1042 = .ok (.aload_n 0, 1) := by decide +kernel
theorem d_L_law_1043 : decode b_L_law 1043 = .ok (.iload 4, 2) := by decide +kernel
theorem d_L_law_1045 : decode b_L_law 1045 = .ok (.iconst 2, 1) := by decide +kernel
theorem d_L_law_1046 : decode b_L_law 1046 = .ok (.iadd, 1) := by decide +kernel
theorem d_L_law_1047 : decode b_L_law 1047 = .ok (.iaload, 1) := by decide +kernel
theorem d_L_law_1048 : decode b_L_law 1048 = .ok (.i2l, 1) := by decide +kernel
theorem d_L_law_1049 : decode b_L_law 1049 = .ok (.ldc2_w 134, 3) := by decide +kernel
theorem d_L_law_1052 : decode b_L_law 1052 = .ok (.land, 1) := by decide +kernel
theorem d_L_law_1053 : decode b_L_law 1053 = .ok (.lor, 1) := by decide +kernel
theorem d_L_law_1054 : decode b_L_law 1054 = .ok (.aload_n 0, 1) := by decide +kernel
theorem d_L_law_1055 : decode b_L_law 1055 = .ok (.iload 4, 2) := by decide +kernel
theorem d_L_law_1057 : decode b_L_law 1057 = .ok (.iconst 3, 1) := by decide +kernel
theorem d_L_law_1058 : decode b_L_law 1058 = .ok (.iadd, 1) := by decide +kernel
theorem d_L_law_1059 : decode b_L_law 1059 = .ok (.iaload, 1) := by decide +kernel
theorem d_L_law_1060 : decode b_L_law 1060 = .ok (.aload_n 3, 1) := by decide +kernel
theorem d_L_law_1061 : decode b_L_law 1061 = .ok (.invokestatic 136, 3) := by decide +kernel
theorem d_L_law_1064 : decode b_L_law 1064 = .ok (.istore 5, 2) := by decide +kernel
theorem d_L_law_1066 : decode b_L_law 1066 = .ok (.aload_n 2, 1) := by decide +kernel
theorem d_L_law_1067 : decode b_L_law 1067 = .ok (.aload_n 0, 1) := by decide +kernel
theorem d_L_law_1068 : decode b_L_law 1068 = .ok (.iload 4, 2) := by decide +kernel
theorem d_L_law_1070 : decode b_L_law 1070 = .ok (.iconst 1, 1) := by decide +kernel
theorem d_L_law_1071 : decode b_L_law 1071 = .ok (.iadd, 1) := by decide +kernel
theorem d_L_law_1072 : decode b_L_law 1072 = .ok (.iaload, 1) := by decide +kernel
theorem d_L_law_1073 : decode b_L_law 1073 = .ok (.i2l, 1) := by decide +kernel
theorem d_L_law_1074 : decode b_L_law 1074 = .ok (.bipush 32, 2) := by decide +kernel
theorem d_L_law_1076 : decode b_L_law 1076 = .ok (.lshl, 1) := by decide +kernel
theorem d_L_law_1077 : decode b_L_law 1077 = .ok (.aload_n 0, 1) := by decide +kernel
theorem d_L_law_1078 : decode b_L_law 1078 = .ok (.iload 4, 2) := by decide +kernel
theorem d_L_law_1080 : decode b_L_law 1080 = .ok (.iconst 2, 1) := by decide +kernel
theorem d_L_law_1081 : decode b_L_law 1081 = .ok (.iadd, 1) := by decide +kernel
theorem d_L_law_1082 : decode b_L_law 1082 = .ok (.iaload, 1) := by decide +kernel
theorem d_L_law_1083 : decode b_L_law 1083 = .ok (.i2l, 1) := by decide +kernel
theorem d_L_law_1084 : decode b_L_law 1084 = .ok (.ldc2_w 134, 3) := by decide +kernel
theorem d_L_law_1087 : decode b_L_law 1087 = .ok (.land, 1) := by decide +kernel
theorem d_L_law_1088 : decode b_L_law 1088 = .ok (.lor, 1) := by decide +kernel
theorem d_L_law_1089 : decode b_L_law 1089 = .ok (.aload_n 0, 1) := by decide +kernel
theorem d_L_law_1090 : decode b_L_law 1090 = .ok (.iload 4, 2) := by decide +kernel
theorem d_L_law_1092 : decode b_L_law 1092 = .ok (.iconst 3, 1) := by decide +kernel
theorem d_L_law_1093 : decode b_L_law 1093 = .ok (.iadd, 1) := by decide +kernel
theorem d_L_law_1094 : decode b_L_law 1094 = .ok (.iaload, 1) := by decide +kernel
theorem d_L_law_1095 : decode b_L_law 1095 = .ok (.invokevirtual 139, 3) := by decide +kernel
theorem d_L_law_1098 : decode b_L_law 1098 = .ok (.istore 6, 2) := by decide +kernel
theorem d_L_law_1100 : decode b_L_law 1100 = .ok (.aload_n 2, 1) := by decide +kernel
theorem d_L_law_1101 : decode b_L_law 1101 = .ok (.invokevirtual 83, 3) := by decide +kernel
theorem d_L_law_1104 : decode b_L_law 1104 = .ok (.iload 5, 2) := by decide +kernel
theorem d_L_law_1106 : decode b_L_law 1106 = .ok (.if_icmp .eq 5, 3) := by decide +kernel
theorem d_L_law_1109 : decode b_L_law 1109 = .ok (.iconst 0, 1) := by decide +kernel
theorem d_L_law_1110 : decode b_L_law 1110 = .ok (.ireturn, 1) := by decide +kernel
theorem d_L_law_1111 : decode b_L_law 1111 = .ok (.iload 5, 2) := by decide +kernel
theorem d_L_law_1113 : decode b_L_law 1113 = .ok (.ifCond .ne 15, 3) := by decide +kernel
theorem d_L_law_1116 : decode b_L_law 1116 = .ok (.aload_n 3, 1) := by decide +kernel
theorem d_L_law_1117 : decode b_L_law 1117 = .ok (.iconst 0, 1) := by decide +kernel
theorem d_L_law_1118 : decode b_L_law 1118 = .ok (.laload, 1) := by decide +kernel
theorem d_L_law_1119 : decode b_L_law 1119 = .ok (.iload 6, 2) := by decide +kernel
theorem d_L_law_1121 : decode b_L_law 1121 = .ok (.i2l, 1) := by decide +kernel
theorem d_L_law_1122 : decode b_L_law 1122 = .ok (.lcmp, 1) := by decide +kernel
theorem d_L_law_1123 : decode b_L_law 1123 = .ok (.ifCond .eq 5, 3) := by decide +kernel
theorem d_L_law_1126 : decode b_L_law 1126 = .ok (.iconst 0, 1) := by decide +kernel
theorem d_L_law_1127 : decode b_L_law 1127 = .ok (.ireturn, 1) := by decide +kernel
theorem d_L_law_1128 : decode b_L_law 1128 = .ok (.goto 39, 3) := by decide +kernel
theorem d_L_law_1131 : decode b_L_law 1131 = .ok (.aload_n 1, 1) := by decide +kernel
theorem d_L_law_1132 : decode b_L_law 1132 = .ok (.aload_n 0, 1) := by decide +kernel
theorem d_L_law_1133 : decode b_L_law 1133 = .ok (.iload 4, 2) := by decide +kernel
theorem d_L_law_1135 : decode b_L_law 1135 = .ok (.iconst 1, 1) := by decide +kernel
theorem d_L_law_1136 : decode b_L_law 1136 = .ok (.iadd, 1) := by decide +kernel
theorem d_L_law_1137 : decode b_L_law 1137 = .ok (.iaload, 1) := by decide +kernel
theorem d_L_law_1138 : decode b_L_law 1138 = .ok (.invokevirtual 140, 3) := by decide +kernel
theorem d_L_law_1141 : decode b_L_law 1141 = .ok (.aload_n 2, 1) := by decide +kernel
theorem d_L_law_1142 : decode b_L_law 1142 = .ok (.aload_n 0, 1) := by decide +kernel
theorem d_L_law_1143 : decode b_L_law 1143 = .ok (.iload 4, 2) := by decide +kernel
theorem d_L_law_1145 : decode b_L_law 1145 = .ok (.iconst 1, 1) := by decide +kernel
theorem d_L_law_1146 : decode b_L_law 1146 = .ok (.iadd, 1) := by decide +kernel
theorem d_L_law_1147 : decode b_L_law 1147 = .ok (.iaload, 1) := by decide +kernel
theorem d_L_law_1148 : decode b_L_law 1148 = .ok (.invokevirtual 143, 3) := by decide +kernel
theorem d_L_law_1151 : decode b_L_law 1151 = .ok (.if_icmp .eq 16, 3) := by decide +kernel
theorem d_L_law_1154 : decode b_L_law 1154 = .ok (.iconst 0, 1) := by decide +kernel
theorem d_L_law_1155 : decode b_L_law 1155 = .ok (.ireturn, 1) := by decide +kernel
theorem d_L_law_1156 : decode b_L_law 1156 = .ok (.aload_n 1, 1) := by decide +kernel
theorem d_L_law_1157 : decode b_L_law 1157 = .ok (.invokevirtual 144, 3) := by decide +kernel
theorem d_L_law_1160 : decode b_L_law 1160 = .ok (.aload_n 2, 1) := by decide +kernel
theorem d_L_law_1161 : decode b_L_law 1161 = .ok (.invokevirtual 147, 3) := by decide +kernel
theorem d_L_law_1164 : decode b_L_law 1164 = .ok (.goto 3, 3) := by decide +kernel
theorem d_L_law_1167 : decode b_L_law 1167 = .ok (.iinc 4 4, 3) := by decide +kernel
theorem d_L_law_1170 : decode b_L_law 1170 = .ok (.goto (-1137), 3) := by decide +kernel
theorem d_L_law_1173 : decode b_L_law 1173 = .ok (.iconst 1, 1) := by decide +kernel
theorem d_L_law_1174 : decode b_L_law 1174 = .ok (.ireturn, 1) := by decide +kernel
