theorem d_LW_cell_0 : decode b_LW_cell 0 = .ok (.iload_n 1, 1) := by decide +kernel
theorem d_LW_cell_1 : decode b_LW_cell 1 = .ok (.aload_n 0, 1) := by decide +kernel
theorem d_LW_cell_2 : decode b_LW_cell 2 = .ok (.arraylength, 1) := by decide +kernel
theorem d_LW_cell_3 : decode b_LW_cell 3 = .ok (.if_icmp .ge 9, 3) := by decide +kernel
theorem d_LW_cell_6 : decode b_LW_cell 6 = .ok (.aload_n 0, 1) := by decide +kernel
theorem d_LW_cell_7 : decode b_LW_cell 7 = .ok (.iload_n 1, 1) := by decide +kernel
theorem d_LW_cell_8 : decode b_LW_cell 8 = .ok (.iaload, 1) := by decide +kernel
theorem d_LW_cell_9 : decode b_LW_cell 9 = .ok (.goto 4, 3) := by decide +kernel
theorem d_LW_cell_12 : decode b_LW_cell 12 = .ok (.iconst 0, 1) := by decide +kernel
theorem d_LW_cell_13 : decode b_LW_cell 13 = .ok (.ireturn, 1) := by decide +kernel
theorem d_LW_sheet_0 : decode b_LW_sheet 0 = .ok (.aload 5, 2) := by decide +kernel
theorem d_LW_sheet_2 : decode b_LW_sheet 2 = .ok (.iconst 0, 1) := by decide +kernel
theorem d_LW_sheet_3 : decode b_LW_sheet 3 = .ok (.aload_n 0, 1) := by decide +kernel
theorem d_LW_sheet_4 : decode b_LW_sheet 4 = .ok (.iload_n 1, 1) := by decide +kernel
theorem d_LW_sheet_5 : decode b_LW_sheet 5 = .ok (.iload_n 2, 1) := by decide +kernel
theorem d_LW_sheet_6 : decode b_LW_sheet 6 = .ok (.iload_n 3, 1) := by decide +kernel
theorem d_LW_sheet_7 : decode b_LW_sheet 7 = .ok (.iload 4, 2) := by decide +kernel
theorem d_LW_sheet_9 : decode b_LW_sheet 9 = .ok (.invokevirtual 7, 3) := by decide +kernel
theorem d_LW_sheet_12 : decode b_LW_sheet 12 = .ok (.i2l, 1) := by decide +kernel
theorem d_LW_sheet_13 : decode b_LW_sheet 13 = .ok (.lastore, 1) := by decide +kernel
theorem d_LW_sheet_14 : decode b_LW_sheet 14 = .ok (.goto 11, 3) := by decide +kernel
theorem d_LW_sheet_17 : decode b_LW_sheet 17 = .ok (.astore 6, 2) := by decide +kernel
theorem d_LW_sheet_19 : decode b_LW_sheet 19 = .ok (.iconst 1, 1) := by decide +kernel
theorem d_LW_sheet_20 : decode b_LW_sheet 20 = .ok (.ireturn, 1) := by decide +kernel
theorem d_LW_sheet_21 : decode b_LW_sheet 21 = .ok (.astore 6, 2) := by decide +kernel
theorem d_LW_sheet_23 : decode b_LW_sheet 23 = .ok (.iconst 2, 1) := by decide +kernel
theorem d_LW_sheet_24 : decode b_LW_sheet 24 = .ok (.ireturn, 1) := by decide +kernel
theorem d_LW_sheet_25 : decode b_LW_sheet 25 = .ok (.iconst 0, 1) := by decide +kernel
theorem d_LW_sheet_26 : decode b_LW_sheet 26 = .ok (.ireturn, 1) := by decide +kernel
theorem d_LW_part_0 : decode b_LW_part 0 = .ok (.aload 5, 2) := by decide +kernel
theorem d_LW_part_2 : decode b_LW_part 2 = .ok (.iconst 0, 1) := by decide +kernel
theorem d_LW_part_3 : decode b_LW_part 3 = .ok (.aload_n 0, 1) := by decide +kernel
theorem d_LW_part_4 : decode b_LW_part 4 = .ok (.iload_n 1, 1) := by decide +kernel
theorem d_LW_part_5 : decode b_LW_part 5 = .ok (.iload_n 2, 1) := by decide +kernel
theorem d_LW_part_6 : decode b_LW_part 6 = .ok (.iload_n 3, 1) := by decide +kernel
theorem d_LW_part_7 : decode b_LW_part 7 = .ok (.iload 4, 2) := by decide +kernel
theorem d_LW_part_9 : decode b_LW_part 9 = .ok (.invokevirtual 17, 3) := by decide +kernel
theorem d_LW_part_12 : decode b_LW_part 12 = .ok (.i2l, 1) := by decide +kernel
theorem d_LW_part_13 : decode b_LW_part 13 = .ok (.lastore, 1) := by decide +kernel
theorem d_LW_part_14 : decode b_LW_part 14 = .ok (.goto 11, 3) := by decide +kernel
theorem d_LW_part_17 : decode b_LW_part 17 = .ok (.astore 6, 2) := by decide +kernel
theorem d_LW_part_19 : decode b_LW_part 19 = .ok (.iconst 1, 1) := by decide +kernel
theorem d_LW_part_20 : decode b_LW_part 20 = .ok (.ireturn, 1) := by decide +kernel
theorem d_LW_part_21 : decode b_LW_part 21 = .ok (.astore 6, 2) := by decide +kernel
theorem d_LW_part_23 : decode b_LW_part 23 = .ok (.iconst 2, 1) := by decide +kernel
theorem d_LW_part_24 : decode b_LW_part 24 = .ok (.ireturn, 1) := by decide +kernel
theorem d_LW_part_25 : decode b_LW_part 25 = .ok (.iconst 0, 1) := by decide +kernel
theorem d_LW_part_26 : decode b_LW_part 26 = .ok (.ireturn, 1) := by decide +kernel
theorem d_LW_count_0 : decode b_LW_count 0 = .ok (.aload_n 3, 1) := by decide +kernel
theorem d_LW_count_1 : decode b_LW_count 1 = .ok (.iconst 0, 1) := by decide +kernel
theorem d_LW_count_2 : decode b_LW_count 2 = .ok (.aload_n 0, 1) := by decide +kernel
theorem d_LW_count_3 : decode b_LW_count 3 = .ok (.iload_n 1, 1) := by decide +kernel
theorem d_LW_count_4 : decode b_LW_count 4 = .ok (.iload_n 2, 1) := by decide +kernel
theorem d_LW_count_5 : decode b_LW_count 5 = .ok (.invokevirtual 21, 3) := by decide +kernel
theorem d_LW_count_8 : decode b_LW_count 8 = .ok (.i2l, 1) := by decide +kernel
theorem d_LW_count_9 : decode b_LW_count 9 = .ok (.lastore, 1) := by decide +kernel
theorem d_LW_count_10 : decode b_LW_count 10 = .ok (.goto 11, 3) := by decide +kernel
theorem d_LW_count_13 : decode b_LW_count 13 = .ok (.astore 4, 2) := by decide +kernel
theorem d_LW_count_15 : decode b_LW_count 15 = .ok (.iconst 1, 1) := by decide +kernel
theorem d_LW_count_16 : decode b_LW_count 16 = .ok (.ireturn, 1) := by decide +kernel
theorem d_LW_count_17 : decode b_LW_count 17 = .ok (.astore 4, 2) := by decide +kernel
theorem d_LW_count_19 : decode b_LW_count 19 = .ok (.iconst 2, 1) := by decide +kernel
theorem d_LW_count_20 : decode b_LW_count 20 = .ok (.ireturn, 1) := by decide +kernel
theorem d_LW_count_21 : decode b_LW_count 21 = .ok (.iconst 0, 1) := by decide +kernel
theorem d_LW_count_22 : decode b_LW_count 22 = .ok (.ireturn, 1) := by decide +kernel
theorem d_LW_worth_0 : decode b_LW_worth 0 = .ok (.aload 5, 2) := by decide +kernel
theorem d_LW_worth_2 : decode b_LW_worth 2 = .ok (.iconst 0, 1) := by decide +kernel
theorem d_LW_worth_3 : decode b_LW_worth 3 = .ok (.aload_n 0, 1) := by decide +kernel
theorem d_LW_worth_4 : decode b_LW_worth 4 = .ok (.iload_n 1, 1) := by decide +kernel
theorem d_LW_worth_5 : decode b_LW_worth 5 = .ok (.iload_n 2, 1) := by decide +kernel
theorem d_LW_worth_6 : decode b_LW_worth 6 = .ok (.iload_n 3, 1) := by decide +kernel
theorem d_LW_worth_7 : decode b_LW_worth 7 = .ok (.iload 4, 2) := by decide +kernel
theorem d_LW_worth_9 : decode b_LW_worth 9 = .ok (.invokevirtual 27, 3) := by decide +kernel
theorem d_LW_worth_12 : decode b_LW_worth 12 = .ok (.i2l, 1) := by decide +kernel
theorem d_LW_worth_13 : decode b_LW_worth 13 = .ok (.lastore, 1) := by decide +kernel
theorem d_LW_worth_14 : decode b_LW_worth 14 = .ok (.goto 7, 3) := by decide +kernel
theorem d_LW_worth_17 : decode b_LW_worth 17 = .ok (.astore 6, 2) := by decide +kernel
theorem d_LW_worth_19 : decode b_LW_worth 19 = .ok (.iconst 1, 1) := by decide +kernel
theorem d_LW_worth_20 : decode b_LW_worth 20 = .ok (.ireturn, 1) := by decide +kernel
theorem d_LW_worth_21 : decode b_LW_worth 21 = .ok (.iconst 0, 1) := by decide +kernel
theorem d_LW_worth_22 : decode b_LW_worth 22 = .ok (.ireturn, 1) := by decide +kernel
theorem d_LW_cut_0 : decode b_LW_cut 0 = .ok (.aload_n 3, 1) := by decide +kernel
theorem d_LW_cut_1 : decode b_LW_cut 1 = .ok (.iconst 0, 1) := by decide +kernel
theorem d_LW_cut_2 : decode b_LW_cut 2 = .ok (.aload_n 0, 1) := by decide +kernel
theorem d_LW_cut_3 : decode b_LW_cut 3 = .ok (.iload_n 1, 1) := by decide +kernel
theorem d_LW_cut_4 : decode b_LW_cut 4 = .ok (.iload_n 2, 1) := by decide +kernel
theorem d_LW_cut_5 : decode b_LW_cut 5 = .ok (.invokevirtual 30, 3) := by decide +kernel
theorem d_LW_cut_8 : decode b_LW_cut 8 = .ok (.i2l, 1) := by decide +kernel
theorem d_LW_cut_9 : decode b_LW_cut 9 = .ok (.lastore, 1) := by decide +kernel
theorem d_LW_cut_10 : decode b_LW_cut 10 = .ok (.goto 11, 3) := by decide +kernel
theorem d_LW_cut_13 : decode b_LW_cut 13 = .ok (.astore 4, 2) := by decide +kernel
theorem d_LW_cut_15 : decode b_LW_cut 15 = .ok (.iconst 1, 1) := by decide +kernel
theorem d_LW_cut_16 : decode b_LW_cut 16 = .ok (.ireturn, 1) := by decide +kernel
theorem d_LW_cut_17 : decode b_LW_cut 17 = .ok (.astore 4, 2) := by decide +kernel
theorem d_LW_cut_19 : decode b_LW_cut 19 = .ok (.iconst 2, 1) := by decide +kernel
theorem d_LW_cut_20 : decode b_LW_cut 20 = .ok (.ireturn, 1) := by decide +kernel
theorem d_LW_cut_21 : decode b_LW_cut 21 = .ok (.iconst 0, 1) := by decide +kernel
theorem d_LW_cut_22 : decode b_LW_cut 22 = .ok (.ireturn, 1) := by decide +kernel
theorem d_LW_taken_0 : decode b_LW_taken 0 = .ok (.aload 4, 2) := by decide +kernel
theorem d_LW_taken_2 : decode b_LW_taken 2 = .ok (.iconst 0, 1) := by decide +kernel
theorem d_LW_taken_3 : decode b_LW_taken 3 = .ok (.aload_n 0, 1) := by decide +kernel
theorem d_LW_taken_4 : decode b_LW_taken 4 = .ok (.iload_n 1, 1) := by decide +kernel
theorem d_LW_taken_5 : decode b_LW_taken 5 = .ok (.iload_n 2, 1) := by decide +kernel
theorem d_LW_taken_6 : decode b_LW_taken 6 = .ok (.iload_n 3, 1) := by decide +kernel
theorem d_LW_taken_7 : decode b_LW_taken 7 = .ok (.invokevirtual 33, 3) := by decide +kernel
theorem d_LW_taken_10 : decode b_LW_taken 10 = .ok (.i2l, 1) := by decide +kernel
theorem d_LW_taken_11 : decode b_LW_taken 11 = .ok (.lastore, 1) := by decide +kernel
theorem d_LW_taken_12 : decode b_LW_taken 12 = .ok (.goto 11, 3) := by decide +kernel
theorem d_LW_taken_15 : decode b_LW_taken 15 = .ok (.astore 5, 2) := by decide +kernel
theorem d_LW_taken_17 : decode b_LW_taken 17 = .ok (.iconst 1, 1) := by decide +kernel
theorem d_LW_taken_18 : decode b_LW_taken 18 = .ok (.ireturn, 1) := by decide +kernel
theorem d_LW_taken_19 : decode b_LW_taken 19 = .ok (.astore 5, 2) := by decide +kernel
theorem d_LW_taken_21 : decode b_LW_taken 21 = .ok (.iconst 2, 1) := by decide +kernel
theorem d_LW_taken_22 : decode b_LW_taken 22 = .ok (.ireturn, 1) := by decide +kernel
theorem d_LW_taken_23 : decode b_LW_taken 23 = .ok (.iconst 0, 1) := by decide +kernel
theorem d_LW_taken_24 : decode b_LW_taken 24 = .ok (.ireturn, 1) := by decide +kernel
theorem d_LW_rest_0 : decode b_LW_rest 0 = .ok (.aload 4, 2) := by decide +kernel
theorem d_LW_rest_2 : decode b_LW_rest 2 = .ok (.iconst 0, 1) := by decide +kernel
theorem d_LW_rest_3 : decode b_LW_rest 3 = .ok (.aload_n 0, 1) := by decide +kernel
theorem d_LW_rest_4 : decode b_LW_rest 4 = .ok (.iload_n 1, 1) := by decide +kernel
theorem d_LW_rest_5 : decode b_LW_rest 5 = .ok (.iload_n 2, 1) := by decide +kernel
theorem d_LW_rest_6 : decode b_LW_rest 6 = .ok (.iload_n 3, 1) := by decide +kernel
theorem d_LW_rest_7 : decode b_LW_rest 7 = .ok (.invokevirtual 37, 3) := by decide +kernel
theorem d_LW_rest_10 : decode b_LW_rest 10 = .ok (.i2l, 1) := by decide +kernel
theorem d_LW_rest_11 : decode b_LW_rest 11 = .ok (.lastore, 1) := by decide +kernel
theorem d_LW_rest_12 : decode b_LW_rest 12 = .ok (.goto 11, 3) := by decide +kernel
theorem d_LW_rest_15 : decode b_LW_rest 15 = .ok (.astore 5, 2) := by decide +kernel
theorem d_LW_rest_17 : decode b_LW_rest 17 = .ok (.iconst 1, 1) := by decide +kernel
theorem d_LW_rest_18 : decode b_LW_rest 18 = .ok (.ireturn, 1) := by decide +kernel
theorem d_LW_rest_19 : decode b_LW_rest 19 = .ok (.astore 5, 2) := by decide +kernel
theorem d_LW_rest_21 : decode b_LW_rest 21 = .ok (.iconst 2, 1) := by decide +kernel
theorem d_LW_rest_22 : decode b_LW_rest 22 = .ok (.ireturn, 1) := by decide +kernel
theorem d_LW_rest_23 : decode b_LW_rest 23 = .ok (.iconst 0, 1) := by decide +kernel
theorem d_LW_rest_24 : decode b_LW_rest 24 = .ok (.ireturn, 1) := by decide +kernel
theorem d_LW_left_0 : decode b_LW_left 0 = .ok (.aload_n 2, 1) := by decide +kernel
theorem d_LW_left_1 : decode b_LW_left 1 = .ok (.iconst 0, 1) := by decide +kernel
theorem d_LW_left_2 : decode b_LW_left 2 = .ok (.aload_n 0, 1) := by decide +kernel
theorem d_LW_left_3 : decode b_LW_left 3 = .ok (.iload_n 1, 1) := by decide +kernel
theorem d_LW_left_4 : decode b_LW_left 4 = .ok (.invokevirtual 40, 3) := by decide +kernel
theorem d_LW_left_7 : decode b_LW_left 7 = .ok (.i2l, 1) := by decide +kernel
theorem d_LW_left_8 : decode b_LW_left 8 = .ok (.lastore, 1) := by decide +kernel
theorem d_LW_left_9 : decode b_LW_left 9 = .ok (.goto 9, 3) := by decide +kernel
theorem d_LW_left_12 : decode b_LW_left 12 = .ok (.astore_n 3, 1) := by decide +kernel
theorem d_LW_left_13 : decode b_LW_left 13 = .ok (.iconst 1, 1) := by decide +kernel
theorem d_LW_left_14 : decode b_LW_left 14 = .ok (.ireturn, 1) := by decide +kernel
theorem d_LW_left_15 : decode b_LW_left 15 = .ok (.astore_n 3, 1) := by decide +kernel
theorem d_LW_left_16 : decode b_LW_left 16 = .ok (.iconst 2, 1) := by decide +kernel
theorem d_LW_left_17 : decode b_LW_left 17 = .ok (.ireturn, 1) := by decide +kernel
theorem d_LW_left_18 : decode b_LW_left 18 = .ok (.iconst 0, 1) := by decide +kernel
theorem d_LW_left_19 : decode b_LW_left 19 = .ok (.ireturn, 1) := by decide +kernel
theorem d_LW_all_0 : decode b_LW_all 0 = .ok (.aload_n 2, 1) := by decide +kernel
theorem d_LW_all_1 : decode b_LW_all 1 = .ok (.iconst 0, 1) := by decide +kernel
theorem d_LW_all_2 : decode b_LW_all 2 = .ok (.aload_n 0, 1) := by decide +kernel
theorem d_LW_all_3 : decode b_LW_all 3 = .ok (.iload_n 1, 1) := by decide +kernel
theorem d_LW_all_4 : decode b_LW_all 4 = .ok (.invokevirtual 44, 3) := by decide +kernel
theorem d_LW_all_7 : decode b_LW_all 7 = .ok (.lastore, 1) := by decide +kernel
theorem d_LW_all_8 : decode b_LW_all 8 = .ok (.goto 9, 3) := by decide +kernel
theorem d_LW_all_11 : decode b_LW_all 11 = .ok (.astore_n 3, 1) := by decide +kernel
theorem d_LW_all_12 : decode b_LW_all 12 = .ok (.iconst 1, 1) := by decide +kernel
theorem d_LW_all_13 : decode b_LW_all 13 = .ok (.ireturn, 1) := by decide +kernel
theorem d_LW_all_14 : decode b_LW_all 14 = .ok (.astore_n 3, 1) := by decide +kernel
theorem d_LW_all_15 : decode b_LW_all 15 = .ok (.iconst 2, 1) := by decide +kernel
theorem d_LW_all_16 : decode b_LW_all 16 = .ok (.ireturn, 1) := by decide +kernel
theorem d_LW_all_17 : decode b_LW_all 17 = .ok (.iconst 0, 1) := by decide +kernel
theorem d_LW_all_18 : decode b_LW_all 18 = .ok (.ireturn, 1) := by decide +kernel
