/-! decode rows of the law's helpers -/
theorem dL_stage_0 : decode cL_stage 0 = .ok (.aload 6, 2) := by decide +kernel
theorem dL_stage_2 : decode cL_stage 2 = .ok (.iconst 0, 1) := by decide +kernel
theorem dL_stage_3 : decode cL_stage 3 = .ok (.aload_n 0, 1) := by decide +kernel
theorem dL_stage_4 : decode cL_stage 4 = .ok (.iload_n 1, 1) := by decide +kernel
theorem dL_stage_5 : decode cL_stage 5 = .ok (.iload_n 2, 1) := by decide +kernel
theorem dL_stage_6 : decode cL_stage 6 = .ok (.iload_n 3, 1) := by decide +kernel
theorem dL_stage_7 : decode cL_stage 7 = .ok (.iload 4, 2) := by decide +kernel
theorem dL_stage_9 : decode cL_stage 9 = .ok (.iload 5, 2) := by decide +kernel
theorem dL_stage_11 : decode cL_stage 11 = .ok (.invokevirtual 7, 3) := by decide +kernel
theorem dL_stage_14 : decode cL_stage 14 = .ok (.i2l, 1) := by decide +kernel
theorem dL_stage_15 : decode cL_stage 15 = .ok (.lastore, 1) := by decide +kernel
theorem dL_stage_16 : decode cL_stage 16 = .ok (.goto 11, 3) := by decide +kernel
theorem dL_stage_19 : decode cL_stage 19 = .ok (.astore 7, 2) := by decide +kernel
theorem dL_stage_21 : decode cL_stage 21 = .ok (.iconst 1, 1) := by decide +kernel
theorem dL_stage_22 : decode cL_stage 22 = .ok (.ireturn, 1) := by decide +kernel
theorem dL_stage_23 : decode cL_stage 23 = .ok (.astore 7, 2) := by decide +kernel
theorem dL_stage_25 : decode cL_stage 25 = .ok (.iconst 2, 1) := by decide +kernel
theorem dL_stage_26 : decode cL_stage 26 = .ok (.ireturn, 1) := by decide +kernel
theorem dL_stage_27 : decode cL_stage 27 = .ok (.iconst 0, 1) := by decide +kernel
theorem dL_stage_28 : decode cL_stage 28 = .ok (.ireturn, 1) := by decide +kernel
theorem dL_way_0 : decode cL_way 0 = .ok (.aload_n 3, 1) := by decide +kernel
theorem dL_way_1 : decode cL_way 1 = .ok (.iconst 0, 1) := by decide +kernel
theorem dL_way_2 : decode cL_way 2 = .ok (.aload_n 0, 1) := by decide +kernel
theorem dL_way_3 : decode cL_way 3 = .ok (.iload_n 1, 1) := by decide +kernel
theorem dL_way_4 : decode cL_way 4 = .ok (.iload_n 2, 1) := by decide +kernel
theorem dL_way_5 : decode cL_way 5 = .ok (.invokevirtual 17, 3) := by decide +kernel
theorem dL_way_8 : decode cL_way 8 = .ok (.i2l, 1) := by decide +kernel
theorem dL_way_9 : decode cL_way 9 = .ok (.lastore, 1) := by decide +kernel
theorem dL_way_10 : decode cL_way 10 = .ok (.goto 11, 3) := by decide +kernel
theorem dL_way_13 : decode cL_way 13 = .ok (.astore 4, 2) := by decide +kernel
theorem dL_way_15 : decode cL_way 15 = .ok (.iconst 1, 1) := by decide +kernel
theorem dL_way_16 : decode cL_way 16 = .ok (.ireturn, 1) := by decide +kernel
theorem dL_way_17 : decode cL_way 17 = .ok (.astore 4, 2) := by decide +kernel
theorem dL_way_19 : decode cL_way 19 = .ok (.iconst 2, 1) := by decide +kernel
theorem dL_way_20 : decode cL_way 20 = .ok (.ireturn, 1) := by decide +kernel
theorem dL_way_21 : decode cL_way 21 = .ok (.iconst 0, 1) := by decide +kernel
theorem dL_way_22 : decode cL_way 22 = .ok (.ireturn, 1) := by decide +kernel
theorem dL_mark_0 : decode cL_mark 0 = .ok (.aload_n 3, 1) := by decide +kernel
theorem dL_mark_1 : decode cL_mark 1 = .ok (.iconst 0, 1) := by decide +kernel
theorem dL_mark_2 : decode cL_mark 2 = .ok (.aload_n 0, 1) := by decide +kernel
theorem dL_mark_3 : decode cL_mark 3 = .ok (.iload_n 1, 1) := by decide +kernel
theorem dL_mark_4 : decode cL_mark 4 = .ok (.iload_n 2, 1) := by decide +kernel
theorem dL_mark_5 : decode cL_mark 5 = .ok (.invokevirtual 23, 3) := by decide +kernel
theorem dL_mark_8 : decode cL_mark 8 = .ok (.i2l, 1) := by decide +kernel
theorem dL_mark_9 : decode cL_mark 9 = .ok (.lastore, 1) := by decide +kernel
theorem dL_mark_10 : decode cL_mark 10 = .ok (.goto 11, 3) := by decide +kernel
theorem dL_mark_13 : decode cL_mark 13 = .ok (.astore 4, 2) := by decide +kernel
theorem dL_mark_15 : decode cL_mark 15 = .ok (.iconst 1, 1) := by decide +kernel
theorem dL_mark_16 : decode cL_mark 16 = .ok (.ireturn, 1) := by decide +kernel
theorem dL_mark_17 : decode cL_mark 17 = .ok (.astore 4, 2) := by decide +kernel
theorem dL_mark_19 : decode cL_mark 19 = .ok (.iconst 2, 1) := by decide +kernel
theorem dL_mark_20 : decode cL_mark 20 = .ok (.ireturn, 1) := by decide +kernel
theorem dL_mark_21 : decode cL_mark 21 = .ok (.iconst 0, 1) := by decide +kernel
theorem dL_mark_22 : decode cL_mark 22 = .ok (.ireturn, 1) := by decide +kernel
theorem dL_demand_0 : decode cL_demand 0 = .ok (.aload_n 2, 1) := by decide +kernel
theorem dL_demand_1 : decode cL_demand 1 = .ok (.iconst 0, 1) := by decide +kernel
theorem dL_demand_2 : decode cL_demand 2 = .ok (.aload_n 0, 1) := by decide +kernel
theorem dL_demand_3 : decode cL_demand 3 = .ok (.iload_n 1, 1) := by decide +kernel
theorem dL_demand_4 : decode cL_demand 4 = .ok (.invokevirtual 26, 3) := by decide +kernel
theorem dL_demand_7 : decode cL_demand 7 = .ok (.i2l, 1) := by decide +kernel
theorem dL_demand_8 : decode cL_demand 8 = .ok (.lastore, 1) := by decide +kernel
theorem dL_demand_9 : decode cL_demand 9 = .ok (.goto 6, 3) := by decide +kernel
theorem dL_demand_12 : decode cL_demand 12 = .ok (.astore_n 3, 1) := by decide +kernel
theorem dL_demand_13 : decode cL_demand 13 = .ok (.iconst 1, 1) := by decide +kernel
theorem dL_demand_14 : decode cL_demand 14 = .ok (.ireturn, 1) := by decide +kernel
theorem dL_demand_15 : decode cL_demand 15 = .ok (.iconst 0, 1) := by decide +kernel
theorem dL_demand_16 : decode cL_demand 16 = .ok (.ireturn, 1) := by decide +kernel
theorem dL_stop_0 : decode cL_stop 0 = .ok (.aload_n 2, 1) := by decide +kernel
theorem dL_stop_1 : decode cL_stop 1 = .ok (.iconst 0, 1) := by decide +kernel
theorem dL_stop_2 : decode cL_stop 2 = .ok (.aload_n 0, 1) := by decide +kernel
theorem dL_stop_3 : decode cL_stop 3 = .ok (.iload_n 1, 1) := by decide +kernel
theorem dL_stop_4 : decode cL_stop 4 = .ok (.invokevirtual 30, 3) := by decide +kernel
theorem dL_stop_7 : decode cL_stop 7 = .ok (.ifCond .eq 7, 3) := by decide +kernel
theorem dL_stop_10 : decode cL_stop 10 = .ok (.lconst 1, 1) := by decide +kernel
theorem dL_stop_11 : decode cL_stop 11 = .ok (.goto 4, 3) := by decide +kernel
theorem dL_stop_14 : decode cL_stop 14 = .ok (.lconst 0, 1) := by decide +kernel
theorem dL_stop_15 : decode cL_stop 15 = .ok (.lastore, 1) := by decide +kernel
theorem dL_stop_16 : decode cL_stop 16 = .ok (.goto 6, 3) := by decide +kernel
theorem dL_stop_19 : decode cL_stop 19 = .ok (.astore_n 3, 1) := by decide +kernel
theorem dL_stop_20 : decode cL_stop 20 = .ok (.iconst 1, 1) := by decide +kernel
theorem dL_stop_21 : decode cL_stop 21 = .ok (.ireturn, 1) := by decide +kernel
theorem dL_stop_22 : decode cL_stop 22 = .ok (.iconst 0, 1) := by decide +kernel
theorem dL_stop_23 : decode cL_stop 23 = .ok (.ireturn, 1) := by decide +kernel
theorem dL_issue_0 : decode cL_issue 0 = .ok (.aload_n 2, 1) := by decide +kernel
theorem dL_issue_1 : decode cL_issue 1 = .ok (.iconst 0, 1) := by decide +kernel
theorem dL_issue_2 : decode cL_issue 2 = .ok (.aload_n 0, 1) := by decide +kernel
theorem dL_issue_3 : decode cL_issue 3 = .ok (.iload_n 1, 1) := by decide +kernel
theorem dL_issue_4 : decode cL_issue 4 = .ok (.invokevirtual 34, 3) := by decide +kernel
theorem dL_issue_7 : decode cL_issue 7 = .ok (.i2l, 1) := by decide +kernel
theorem dL_issue_8 : decode cL_issue 8 = .ok (.lastore, 1) := by decide +kernel
theorem dL_issue_9 : decode cL_issue 9 = .ok (.goto 9, 3) := by decide +kernel
theorem dL_issue_12 : decode cL_issue 12 = .ok (.astore_n 3, 1) := by decide +kernel
theorem dL_issue_13 : decode cL_issue 13 = .ok (.iconst 1, 1) := by decide +kernel
theorem dL_issue_14 : decode cL_issue 14 = .ok (.ireturn, 1) := by decide +kernel
theorem dL_issue_15 : decode cL_issue 15 = .ok (.astore_n 3, 1) := by decide +kernel
theorem dL_issue_16 : decode cL_issue 16 = .ok (.iconst 2, 1) := by decide +kernel
theorem dL_issue_17 : decode cL_issue 17 = .ok (.ireturn, 1) := by decide +kernel
theorem dL_issue_18 : decode cL_issue 18 = .ok (.iconst 0, 1) := by decide +kernel
theorem dL_issue_19 : decode cL_issue 19 = .ok (.ireturn, 1) := by decide +kernel
theorem dL_retire_0 : decode cL_retire 0 = .ok (.aload_n 2, 1) := by decide +kernel
theorem dL_retire_1 : decode cL_retire 1 = .ok (.iconst 0, 1) := by decide +kernel
theorem dL_retire_2 : decode cL_retire 2 = .ok (.aload_n 0, 1) := by decide +kernel
theorem dL_retire_3 : decode cL_retire 3 = .ok (.iload_n 1, 1) := by decide +kernel
theorem dL_retire_4 : decode cL_retire 4 = .ok (.invokevirtual 37, 3) := by decide +kernel
theorem dL_retire_7 : decode cL_retire 7 = .ok (.i2l, 1) := by decide +kernel
theorem dL_retire_8 : decode cL_retire 8 = .ok (.lastore, 1) := by decide +kernel
theorem dL_retire_9 : decode cL_retire 9 = .ok (.goto 9, 3) := by decide +kernel
theorem dL_retire_12 : decode cL_retire 12 = .ok (.astore_n 3, 1) := by decide +kernel
theorem dL_retire_13 : decode cL_retire 13 = .ok (.iconst 1, 1) := by decide +kernel
theorem dL_retire_14 : decode cL_retire 14 = .ok (.ireturn, 1) := by decide +kernel
theorem dL_retire_15 : decode cL_retire 15 = .ok (.astore_n 3, 1) := by decide +kernel
theorem dL_retire_16 : decode cL_retire 16 = .ok (.iconst 2, 1) := by decide +kernel
theorem dL_retire_17 : decode cL_retire 17 = .ok (.ireturn, 1) := by decide +kernel
theorem dL_retire_18 : decode cL_retire 18 = .ok (.iconst 0, 1) := by decide +kernel
theorem dL_retire_19 : decode cL_retire 19 = .ok (.ireturn, 1) := by decide +kernel
theorem dL_issueConveyance_0 : decode cL_issueConveyance 0 = .ok (.aload_n 2, 1) := by decide +kernel
theorem dL_issueConveyance_1 : decode cL_issueConveyance 1 = .ok (.iconst 0, 1) := by decide +kernel
theorem dL_issueConveyance_2 : decode cL_issueConveyance 2 = .ok (.aload_n 0, 1) := by decide +kernel
theorem dL_issueConveyance_3 : decode cL_issueConveyance 3 = .ok (.iload_n 1, 1) := by decide +kernel
theorem dL_issueConveyance_4 : decode cL_issueConveyance 4 = .ok (.invokevirtual 40, 3) := by decide +kernel
theorem dL_issueConveyance_7 : decode cL_issueConveyance 7 = .ok (.i2l, 1) := by decide +kernel
theorem dL_issueConveyance_8 : decode cL_issueConveyance 8 = .ok (.lastore, 1) := by decide +kernel
theorem dL_issueConveyance_9 : decode cL_issueConveyance 9 = .ok (.goto 9, 3) := by decide +kernel
theorem dL_issueConveyance_12 : decode cL_issueConveyance 12 = .ok (.astore_n 3, 1) := by decide +kernel
theorem dL_issueConveyance_13 : decode cL_issueConveyance 13 = .ok (.iconst 1, 1) := by decide +kernel
theorem dL_issueConveyance_14 : decode cL_issueConveyance 14 = .ok (.ireturn, 1) := by decide +kernel
theorem dL_issueConveyance_15 : decode cL_issueConveyance 15 = .ok (.astore_n 3, 1) := by decide +kernel
theorem dL_issueConveyance_16 : decode cL_issueConveyance 16 = .ok (.iconst 2, 1) := by decide +kernel
theorem dL_issueConveyance_17 : decode cL_issueConveyance 17 = .ok (.ireturn, 1) := by decide +kernel
theorem dL_issueConveyance_18 : decode cL_issueConveyance 18 = .ok (.iconst 0, 1) := by decide +kernel
theorem dL_issueConveyance_19 : decode cL_issueConveyance 19 = .ok (.ireturn, 1) := by decide +kernel
theorem dL_retireConveyance_0 : decode cL_retireConveyance 0 = .ok (.aload_n 2, 1) := by decide +kernel
theorem dL_retireConveyance_1 : decode cL_retireConveyance 1 = .ok (.iconst 0, 1) := by decide +kernel
theorem dL_retireConveyance_2 : decode cL_retireConveyance 2 = .ok (.aload_n 0, 1) := by decide +kernel
theorem dL_retireConveyance_3 : decode cL_retireConveyance 3 = .ok (.iload_n 1, 1) := by decide +kernel
theorem dL_retireConveyance_4 : decode cL_retireConveyance 4 = .ok (.invokevirtual 43, 3) := by decide +kernel
theorem dL_retireConveyance_7 : decode cL_retireConveyance 7 = .ok (.i2l, 1) := by decide +kernel
theorem dL_retireConveyance_8 : decode cL_retireConveyance 8 = .ok (.lastore, 1) := by decide +kernel
theorem dL_retireConveyance_9 : decode cL_retireConveyance 9 = .ok (.goto 9, 3) := by decide +kernel
theorem dL_retireConveyance_12 : decode cL_retireConveyance 12 = .ok (.astore_n 3, 1) := by decide +kernel
theorem dL_retireConveyance_13 : decode cL_retireConveyance 13 = .ok (.iconst 1, 1) := by decide +kernel
theorem dL_retireConveyance_14 : decode cL_retireConveyance 14 = .ok (.ireturn, 1) := by decide +kernel
theorem dL_retireConveyance_15 : decode cL_retireConveyance 15 = .ok (.astore_n 3, 1) := by decide +kernel
theorem dL_retireConveyance_16 : decode cL_retireConveyance 16 = .ok (.iconst 2, 1) := by decide +kernel
theorem dL_retireConveyance_17 : decode cL_retireConveyance 17 = .ok (.ireturn, 1) := by decide +kernel
theorem dL_retireConveyance_18 : decode cL_retireConveyance 18 = .ok (.iconst 0, 1) := by decide +kernel
theorem dL_retireConveyance_19 : decode cL_retireConveyance 19 = .ok (.ireturn, 1) := by decide +kernel
theorem dL_needed_0 : decode cL_needed 0 = .ok (.aload_n 3, 1) := by decide +kernel
theorem dL_needed_1 : decode cL_needed 1 = .ok (.iconst 0, 1) := by decide +kernel
theorem dL_needed_2 : decode cL_needed 2 = .ok (.aload_n 0, 1) := by decide +kernel
theorem dL_needed_3 : decode cL_needed 3 = .ok (.iload_n 1, 1) := by decide +kernel
theorem dL_needed_4 : decode cL_needed 4 = .ok (.iload_n 2, 1) := by decide +kernel
theorem dL_needed_5 : decode cL_needed 5 = .ok (.invokevirtual 46, 3) := by decide +kernel
theorem dL_needed_8 : decode cL_needed 8 = .ok (.i2l, 1) := by decide +kernel
theorem dL_needed_9 : decode cL_needed 9 = .ok (.lastore, 1) := by decide +kernel
theorem dL_needed_10 : decode cL_needed 10 = .ok (.goto 11, 3) := by decide +kernel
theorem dL_needed_13 : decode cL_needed 13 = .ok (.astore 4, 2) := by decide +kernel
theorem dL_needed_15 : decode cL_needed 15 = .ok (.iconst 1, 1) := by decide +kernel
theorem dL_needed_16 : decode cL_needed 16 = .ok (.ireturn, 1) := by decide +kernel
theorem dL_needed_17 : decode cL_needed 17 = .ok (.astore 4, 2) := by decide +kernel
theorem dL_needed_19 : decode cL_needed 19 = .ok (.iconst 2, 1) := by decide +kernel
theorem dL_needed_20 : decode cL_needed 20 = .ok (.ireturn, 1) := by decide +kernel
theorem dL_needed_21 : decode cL_needed 21 = .ok (.iconst 0, 1) := by decide +kernel
theorem dL_needed_22 : decode cL_needed 22 = .ok (.ireturn, 1) := by decide +kernel
theorem dL_step_0 : decode cL_step 0 = .ok (.aload_n 2, 1) := by decide +kernel
theorem dL_step_1 : decode cL_step 1 = .ok (.iconst 0, 1) := by decide +kernel
theorem dL_step_2 : decode cL_step 2 = .ok (.aload_n 0, 1) := by decide +kernel
theorem dL_step_3 : decode cL_step 3 = .ok (.iload_n 1, 1) := by decide +kernel
theorem dL_step_4 : decode cL_step 4 = .ok (.invokevirtual 49, 3) := by decide +kernel
theorem dL_step_7 : decode cL_step 7 = .ok (.i2l, 1) := by decide +kernel
theorem dL_step_8 : decode cL_step 8 = .ok (.lastore, 1) := by decide +kernel
theorem dL_step_9 : decode cL_step 9 = .ok (.goto 9, 3) := by decide +kernel
theorem dL_step_12 : decode cL_step 12 = .ok (.astore_n 3, 1) := by decide +kernel
theorem dL_step_13 : decode cL_step 13 = .ok (.iconst 1, 1) := by decide +kernel
theorem dL_step_14 : decode cL_step 14 = .ok (.ireturn, 1) := by decide +kernel
theorem dL_step_15 : decode cL_step 15 = .ok (.astore_n 3, 1) := by decide +kernel
theorem dL_step_16 : decode cL_step 16 = .ok (.iconst 2, 1) := by decide +kernel
theorem dL_step_17 : decode cL_step 17 = .ok (.ireturn, 1) := by decide +kernel
theorem dL_step_18 : decode cL_step 18 = .ok (.iconst 0, 1) := by decide +kernel
theorem dL_step_19 : decode cL_step 19 = .ok (.ireturn, 1) := by decide +kernel
theorem dL_board_0 : decode cL_board 0 = .ok (.aload_n 2, 1) := by decide +kernel
theorem dL_board_1 : decode cL_board 1 = .ok (.iconst 0, 1) := by decide +kernel
theorem dL_board_2 : decode cL_board 2 = .ok (.aload_n 0, 1) := by decide +kernel
theorem dL_board_3 : decode cL_board 3 = .ok (.iload_n 1, 1) := by decide +kernel
theorem dL_board_4 : decode cL_board 4 = .ok (.invokevirtual 52, 3) := by decide +kernel
theorem dL_board_7 : decode cL_board 7 = .ok (.i2l, 1) := by decide +kernel
theorem dL_board_8 : decode cL_board 8 = .ok (.lastore, 1) := by decide +kernel
theorem dL_board_9 : decode cL_board 9 = .ok (.goto 6, 3) := by decide +kernel
theorem dL_board_12 : decode cL_board 12 = .ok (.astore_n 3, 1) := by decide +kernel
theorem dL_board_13 : decode cL_board 13 = .ok (.iconst 1, 1) := by decide +kernel
theorem dL_board_14 : decode cL_board 14 = .ok (.ireturn, 1) := by decide +kernel
theorem dL_board_15 : decode cL_board 15 = .ok (.iconst 0, 1) := by decide +kernel
theorem dL_board_16 : decode cL_board 16 = .ok (.ireturn, 1) := by decide +kernel
theorem dL_attached_0 : decode cL_attached 0 = .ok (.aload_n 2, 1) := by decide +kernel
theorem dL_attached_1 : decode cL_attached 1 = .ok (.iconst 0, 1) := by decide +kernel
theorem dL_attached_2 : decode cL_attached 2 = .ok (.aload_n 0, 1) := by decide +kernel
theorem dL_attached_3 : decode cL_attached 3 = .ok (.iload_n 1, 1) := by decide +kernel
theorem dL_attached_4 : decode cL_attached 4 = .ok (.invokevirtual 55, 3) := by decide +kernel
theorem dL_attached_7 : decode cL_attached 7 = .ok (.i2l, 1) := by decide +kernel
theorem dL_attached_8 : decode cL_attached 8 = .ok (.lastore, 1) := by decide +kernel
theorem dL_attached_9 : decode cL_attached 9 = .ok (.goto 6, 3) := by decide +kernel
theorem dL_attached_12 : decode cL_attached 12 = .ok (.astore_n 3, 1) := by decide +kernel
theorem dL_attached_13 : decode cL_attached 13 = .ok (.iconst 1, 1) := by decide +kernel
theorem dL_attached_14 : decode cL_attached 14 = .ok (.ireturn, 1) := by decide +kernel
theorem dL_attached_15 : decode cL_attached 15 = .ok (.iconst 0, 1) := by decide +kernel
theorem dL_attached_16 : decode cL_attached 16 = .ok (.ireturn, 1) := by decide +kernel
theorem dL_left_0 : decode cL_left 0 = .ok (.aload_n 2, 1) := by decide +kernel
theorem dL_left_1 : decode cL_left 1 = .ok (.iconst 0, 1) := by decide +kernel
theorem dL_left_2 : decode cL_left 2 = .ok (.aload_n 0, 1) := by decide +kernel
theorem dL_left_3 : decode cL_left 3 = .ok (.iload_n 1, 1) := by decide +kernel
theorem dL_left_4 : decode cL_left 4 = .ok (.invokevirtual 58, 3) := by decide +kernel
theorem dL_left_7 : decode cL_left 7 = .ok (.i2l, 1) := by decide +kernel
theorem dL_left_8 : decode cL_left 8 = .ok (.lastore, 1) := by decide +kernel
theorem dL_left_9 : decode cL_left 9 = .ok (.goto 6, 3) := by decide +kernel
theorem dL_left_12 : decode cL_left 12 = .ok (.astore_n 3, 1) := by decide +kernel
theorem dL_left_13 : decode cL_left 13 = .ok (.iconst 1, 1) := by decide +kernel
theorem dL_left_14 : decode cL_left 14 = .ok (.ireturn, 1) := by decide +kernel
theorem dL_left_15 : decode cL_left 15 = .ok (.iconst 0, 1) := by decide +kernel
theorem dL_left_16 : decode cL_left 16 = .ok (.ireturn, 1) := by decide +kernel
theorem dL_run_0 : decode cL_run 0 = .ok (.aload_n 2, 1) := by decide +kernel
theorem dL_run_1 : decode cL_run 1 = .ok (.iconst 0, 1) := by decide +kernel
theorem dL_run_2 : decode cL_run 2 = .ok (.aload_n 0, 1) := by decide +kernel
theorem dL_run_3 : decode cL_run 3 = .ok (.iload_n 1, 1) := by decide +kernel
theorem dL_run_4 : decode cL_run 4 = .ok (.invokevirtual 61, 3) := by decide +kernel
theorem dL_run_7 : decode cL_run 7 = .ok (.i2l, 1) := by decide +kernel
theorem dL_run_8 : decode cL_run 8 = .ok (.lastore, 1) := by decide +kernel
theorem dL_run_9 : decode cL_run 9 = .ok (.goto 6, 3) := by decide +kernel
theorem dL_run_12 : decode cL_run 12 = .ok (.astore_n 3, 1) := by decide +kernel
theorem dL_run_13 : decode cL_run 13 = .ok (.iconst 1, 1) := by decide +kernel
theorem dL_run_14 : decode cL_run 14 = .ok (.ireturn, 1) := by decide +kernel
theorem dL_run_15 : decode cL_run 15 = .ok (.iconst 0, 1) := by decide +kernel
theorem dL_run_16 : decode cL_run 16 = .ok (.ireturn, 1) := by decide +kernel
theorem dL_market_0 : decode cL_market 0 = .ok (.aload_n 2, 1) := by decide +kernel
theorem dL_market_1 : decode cL_market 1 = .ok (.iconst 0, 1) := by decide +kernel
theorem dL_market_2 : decode cL_market 2 = .ok (.aload_n 0, 1) := by decide +kernel
theorem dL_market_3 : decode cL_market 3 = .ok (.iload_n 1, 1) := by decide +kernel
theorem dL_market_4 : decode cL_market 4 = .ok (.invokevirtual 64, 3) := by decide +kernel
theorem dL_market_7 : decode cL_market 7 = .ok (.i2l, 1) := by decide +kernel
theorem dL_market_8 : decode cL_market 8 = .ok (.lastore, 1) := by decide +kernel
theorem dL_market_9 : decode cL_market 9 = .ok (.goto 6, 3) := by decide +kernel
theorem dL_market_12 : decode cL_market 12 = .ok (.astore_n 3, 1) := by decide +kernel
theorem dL_market_13 : decode cL_market 13 = .ok (.iconst 1, 1) := by decide +kernel
theorem dL_market_14 : decode cL_market 14 = .ok (.ireturn, 1) := by decide +kernel
theorem dL_market_15 : decode cL_market 15 = .ok (.iconst 0, 1) := by decide +kernel
theorem dL_market_16 : decode cL_market 16 = .ok (.ireturn, 1) := by decide +kernel
theorem dL_inbox_0 : decode cL_inbox 0 = .ok (.aload_n 2, 1) := by decide +kernel
theorem dL_inbox_1 : decode cL_inbox 1 = .ok (.iconst 0, 1) := by decide +kernel
theorem dL_inbox_2 : decode cL_inbox 2 = .ok (.aload_n 0, 1) := by decide +kernel
theorem dL_inbox_3 : decode cL_inbox 3 = .ok (.iload_n 1, 1) := by decide +kernel
theorem dL_inbox_4 : decode cL_inbox 4 = .ok (.invokevirtual 67, 3) := by decide +kernel
theorem dL_inbox_7 : decode cL_inbox 7 = .ok (.i2l, 1) := by decide +kernel
theorem dL_inbox_8 : decode cL_inbox 8 = .ok (.lastore, 1) := by decide +kernel
theorem dL_inbox_9 : decode cL_inbox 9 = .ok (.goto 6, 3) := by decide +kernel
theorem dL_inbox_12 : decode cL_inbox 12 = .ok (.astore_n 3, 1) := by decide +kernel
theorem dL_inbox_13 : decode cL_inbox 13 = .ok (.iconst 1, 1) := by decide +kernel
theorem dL_inbox_14 : decode cL_inbox 14 = .ok (.ireturn, 1) := by decide +kernel
theorem dL_inbox_15 : decode cL_inbox 15 = .ok (.iconst 0, 1) := by decide +kernel
theorem dL_inbox_16 : decode cL_inbox 16 = .ok (.ireturn, 1) := by decide +kernel
theorem dL_waiting_0 : decode cL_waiting 0 = .ok (.aload_n 2, 1) := by decide +kernel
theorem dL_waiting_1 : decode cL_waiting 1 = .ok (.iconst 0, 1) := by decide +kernel
theorem dL_waiting_2 : decode cL_waiting 2 = .ok (.aload_n 0, 1) := by decide +kernel
theorem dL_waiting_3 : decode cL_waiting 3 = .ok (.iload_n 1, 1) := by decide +kernel
theorem dL_waiting_4 : decode cL_waiting 4 = .ok (.invokevirtual 70, 3) := by decide +kernel
theorem dL_waiting_7 : decode cL_waiting 7 = .ok (.i2l, 1) := by decide +kernel
theorem dL_waiting_8 : decode cL_waiting 8 = .ok (.lastore, 1) := by decide +kernel
theorem dL_waiting_9 : decode cL_waiting 9 = .ok (.goto 6, 3) := by decide +kernel
theorem dL_waiting_12 : decode cL_waiting 12 = .ok (.astore_n 3, 1) := by decide +kernel
theorem dL_waiting_13 : decode cL_waiting 13 = .ok (.iconst 1, 1) := by decide +kernel
theorem dL_waiting_14 : decode cL_waiting 14 = .ok (.ireturn, 1) := by decide +kernel
theorem dL_waiting_15 : decode cL_waiting 15 = .ok (.iconst 0, 1) := by decide +kernel
theorem dL_waiting_16 : decode cL_waiting 16 = .ok (.ireturn, 1) := by decide +kernel
theorem dL_travelling_0 : decode cL_travelling 0 = .ok (.aload_n 2, 1) := by decide +kernel
theorem dL_travelling_1 : decode cL_travelling 1 = .ok (.iconst 0, 1) := by decide +kernel
theorem dL_travelling_2 : decode cL_travelling 2 = .ok (.aload_n 0, 1) := by decide +kernel
theorem dL_travelling_3 : decode cL_travelling 3 = .ok (.iload_n 1, 1) := by decide +kernel
theorem dL_travelling_4 : decode cL_travelling 4 = .ok (.invokevirtual 73, 3) := by decide +kernel
theorem dL_travelling_7 : decode cL_travelling 7 = .ok (.i2l, 1) := by decide +kernel
theorem dL_travelling_8 : decode cL_travelling 8 = .ok (.lastore, 1) := by decide +kernel
theorem dL_travelling_9 : decode cL_travelling 9 = .ok (.goto 6, 3) := by decide +kernel
theorem dL_travelling_12 : decode cL_travelling 12 = .ok (.astore_n 3, 1) := by decide +kernel
theorem dL_travelling_13 : decode cL_travelling 13 = .ok (.iconst 1, 1) := by decide +kernel
theorem dL_travelling_14 : decode cL_travelling 14 = .ok (.ireturn, 1) := by decide +kernel
theorem dL_travelling_15 : decode cL_travelling 15 = .ok (.iconst 0, 1) := by decide +kernel
theorem dL_travelling_16 : decode cL_travelling 16 = .ok (.ireturn, 1) := by decide +kernel
theorem dL_firstUnits_0 : decode cL_firstUnits 0 = .ok (.aload_n 2, 1) := by decide +kernel
theorem dL_firstUnits_1 : decode cL_firstUnits 1 = .ok (.iconst 0, 1) := by decide +kernel
theorem dL_firstUnits_2 : decode cL_firstUnits 2 = .ok (.aload_n 0, 1) := by decide +kernel
theorem dL_firstUnits_3 : decode cL_firstUnits 3 = .ok (.iload_n 1, 1) := by decide +kernel
theorem dL_firstUnits_4 : decode cL_firstUnits 4 = .ok (.invokevirtual 76, 3) := by decide +kernel
theorem dL_firstUnits_7 : decode cL_firstUnits 7 = .ok (.i2l, 1) := by decide +kernel
theorem dL_firstUnits_8 : decode cL_firstUnits 8 = .ok (.lastore, 1) := by decide +kernel
theorem dL_firstUnits_9 : decode cL_firstUnits 9 = .ok (.goto 6, 3) := by decide +kernel
theorem dL_firstUnits_12 : decode cL_firstUnits 12 = .ok (.astore_n 3, 1) := by decide +kernel
theorem dL_firstUnits_13 : decode cL_firstUnits 13 = .ok (.iconst 1, 1) := by decide +kernel
theorem dL_firstUnits_14 : decode cL_firstUnits 14 = .ok (.ireturn, 1) := by decide +kernel
theorem dL_firstUnits_15 : decode cL_firstUnits 15 = .ok (.iconst 0, 1) := by decide +kernel
theorem dL_firstUnits_16 : decode cL_firstUnits 16 = .ok (.ireturn, 1) := by decide +kernel
theorem dL_starved_0 : decode cL_starved 0 = .ok (.aload_n 2, 1) := by decide +kernel
theorem dL_starved_1 : decode cL_starved 1 = .ok (.iconst 0, 1) := by decide +kernel
theorem dL_starved_2 : decode cL_starved 2 = .ok (.aload_n 0, 1) := by decide +kernel
theorem dL_starved_3 : decode cL_starved 3 = .ok (.iload_n 1, 1) := by decide +kernel
theorem dL_starved_4 : decode cL_starved 4 = .ok (.invokevirtual 79, 3) := by decide +kernel
theorem dL_starved_7 : decode cL_starved 7 = .ok (.i2l, 1) := by decide +kernel
theorem dL_starved_8 : decode cL_starved 8 = .ok (.lastore, 1) := by decide +kernel
theorem dL_starved_9 : decode cL_starved 9 = .ok (.goto 6, 3) := by decide +kernel
theorem dL_starved_12 : decode cL_starved 12 = .ok (.astore_n 3, 1) := by decide +kernel
theorem dL_starved_13 : decode cL_starved 13 = .ok (.iconst 1, 1) := by decide +kernel
theorem dL_starved_14 : decode cL_starved 14 = .ok (.ireturn, 1) := by decide +kernel
theorem dL_starved_15 : decode cL_starved 15 = .ok (.iconst 0, 1) := by decide +kernel
theorem dL_starved_16 : decode cL_starved 16 = .ok (.ireturn, 1) := by decide +kernel
