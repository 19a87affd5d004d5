/-! decode rows of the law's helpers -/
theorem dL_cell_0 : decode cL_cell 0 = .ok (.iload_n 1, 1) := by decide +kernel
theorem dL_cell_1 : decode cL_cell 1 = .ok (.aload_n 0, 1) := by decide +kernel
theorem dL_cell_2 : decode cL_cell 2 = .ok (.arraylength, 1) := by decide +kernel
theorem dL_cell_3 : decode cL_cell 3 = .ok (.if_icmp .ge 9, 3) := by decide +kernel
theorem dL_cell_6 : decode cL_cell 6 = .ok (.aload_n 0, 1) := by decide +kernel
theorem dL_cell_7 : decode cL_cell 7 = .ok (.iload_n 1, 1) := by decide +kernel
theorem dL_cell_8 : decode cL_cell 8 = .ok (.iaload, 1) := by decide +kernel
theorem dL_cell_9 : decode cL_cell 9 = .ok (.goto 12, 3) := by decide +kernel
theorem dL_cell_12 : decode cL_cell 12 = .ok (.ldc 7, 2) := by decide +kernel
theorem dL_cell_14 : decode cL_cell 14 = .ok (.iload_n 1, 1) := by decide +kernel
theorem dL_cell_15 : decode cL_cell 15 = .ok (.iconst 1, 1) := by decide +kernel
theorem dL_cell_16 : decode cL_cell 16 = .ok (.iadd, 1) := by decide +kernel
theorem dL_cell_17 : decode cL_cell 17 = .ok (.imul, 1) := by decide +kernel
theorem dL_cell_18 : decode cL_cell 18 = .ok (.ldc 8, 2) := by decide +kernel
theorem dL_cell_20 : decode cL_cell 20 = .ok (.iadd, 1) := by decide +kernel
theorem dL_cell_21 : decode cL_cell 21 = .ok (.ireturn, 1) := by decide +kernel
theorem dL_low_0 : decode cL_low 0 = .ok (.iload_n 0, 1) := by decide +kernel
theorem dL_low_1 : decode cL_low 1 = .ok (.ldc 9, 2) := by decide +kernel
theorem dL_low_3 : decode cL_low 3 = .ok (.iand, 1) := by decide +kernel
theorem dL_low_4 : decode cL_low 4 = .ok (.iload_n 1, 1) := by decide +kernel
theorem dL_low_5 : decode cL_low 5 = .ok (.irem, 1) := by decide +kernel
theorem dL_low_6 : decode cL_low 6 = .ok (.ireturn, 1) := by decide +kernel
theorem dL_units_0 : decode cL_units 0 = .ok (.iconst 0, 1) := by decide +kernel
theorem dL_units_1 : decode cL_units 1 = .ok (.istore_n 3, 1) := by decide +kernel
theorem dL_units_2 : decode cL_units 2 = .ok (.iconst 0, 1) := by decide +kernel
theorem dL_units_3 : decode cL_units 3 = .ok (.istore 4, 2) := by decide +kernel
theorem dL_units_5 : decode cL_units 5 = .ok (.iload 4, 2) := by decide +kernel
theorem dL_units_7 : decode cL_units 7 = .ok (.iload_n 2, 1) := by decide +kernel
theorem dL_units_8 : decode cL_units 8 = .ok (.if_icmp .ge 24, 3) := by decide +kernel
theorem dL_units_11 : decode cL_units 11 = .ok (.iload_n 3, 1) := by decide +kernel
theorem dL_units_12 : decode cL_units 12 = .ok (.aload_n 0, 1) := by decide +kernel
theorem dL_units_13 : decode cL_units 13 = .ok (.bipush 20, 2) := by decide +kernel
theorem dL_units_15 : decode cL_units 15 = .ok (.iload_n 1, 1) := by decide +kernel
theorem dL_units_16 : decode cL_units 16 = .ok (.imul, 1) := by decide +kernel
theorem dL_units_17 : decode cL_units 17 = .ok (.iload 4, 2) := by decide +kernel
theorem dL_units_19 : decode cL_units 19 = .ok (.iadd, 1) := by decide +kernel
theorem dL_units_20 : decode cL_units 20 = .ok (.iaload, 1) := by decide +kernel
theorem dL_units_21 : decode cL_units 21 = .ok (.bipush 100, 2) := by decide +kernel
theorem dL_units_23 : decode cL_units 23 = .ok (.irem, 1) := by decide +kernel
theorem dL_units_24 : decode cL_units 24 = .ok (.iadd, 1) := by decide +kernel
theorem dL_units_25 : decode cL_units 25 = .ok (.istore_n 3, 1) := by decide +kernel
theorem dL_units_26 : decode cL_units 26 = .ok (.iinc 4 1, 3) := by decide +kernel
theorem dL_units_29 : decode cL_units 29 = .ok (.goto (-24), 3) := by decide +kernel
theorem dL_units_32 : decode cL_units 32 = .ok (.iload_n 3, 1) := by decide +kernel
theorem dL_units_33 : decode cL_units 33 = .ok (.ireturn, 1) := by decide +kernel
theorem dL_add_0 : decode cL_add 0 = .ok (.aload_n 0, 1) := by decide +kernel
theorem dL_add_1 : decode cL_add 1 = .ok (.bipush 20, 2) := by decide +kernel
theorem dL_add_3 : decode cL_add 3 = .ok (.iload_n 1, 1) := by decide +kernel
theorem dL_add_4 : decode cL_add 4 = .ok (.imul, 1) := by decide +kernel
theorem dL_add_5 : decode cL_add 5 = .ok (.aload_n 2, 1) := by decide +kernel
theorem dL_add_6 : decode cL_add 6 = .ok (.bipush 15, 2) := by decide +kernel
theorem dL_add_8 : decode cL_add 8 = .ok (.iload_n 1, 1) := by decide +kernel
theorem dL_add_9 : decode cL_add 9 = .ok (.imul, 1) := by decide +kernel
theorem dL_add_10 : decode cL_add 10 = .ok (.iload_n 3, 1) := by decide +kernel
theorem dL_add_11 : decode cL_add 11 = .ok (.iadd, 1) := by decide +kernel
theorem dL_add_12 : decode cL_add 12 = .ok (.iaload, 1) := by decide +kernel
theorem dL_add_13 : decode cL_add 13 = .ok (.iadd, 1) := by decide +kernel
theorem dL_add_14 : decode cL_add 14 = .ok (.iload 4, 2) := by decide +kernel
theorem dL_add_16 : decode cL_add 16 = .ok (.iastore, 1) := by decide +kernel
theorem dL_add_17 : decode cL_add 17 = .ok (.aload_n 2, 1) := by decide +kernel
theorem dL_add_18 : decode cL_add 18 = .ok (.bipush 15, 2) := by decide +kernel
theorem dL_add_20 : decode cL_add 20 = .ok (.iload_n 1, 1) := by decide +kernel
theorem dL_add_21 : decode cL_add 21 = .ok (.imul, 1) := by decide +kernel
theorem dL_add_22 : decode cL_add 22 = .ok (.iload_n 3, 1) := by decide +kernel
theorem dL_add_23 : decode cL_add 23 = .ok (.iadd, 1) := by decide +kernel
theorem dL_add_24 : decode cL_add 24 = .ok (.dup2, 1) := by decide +kernel
theorem dL_add_25 : decode cL_add 25 = .ok (.iaload, 1) := by decide +kernel
theorem dL_add_26 : decode cL_add 26 = .ok (.iconst 1, 1) := by decide +kernel
theorem dL_add_27 : decode cL_add 27 = .ok (.iadd, 1) := by decide +kernel
theorem dL_add_28 : decode cL_add 28 = .ok (.iastore, 1) := by decide +kernel
theorem dL_add_29 : decode cL_add 29 = .ok (.return_, 1) := by decide +kernel
theorem dL_first_0 : decode cL_first 0 = .ok (.aload_n 0, 1) := by decide +kernel
theorem dL_first_1 : decode cL_first 1 = .ok (.bipush 20, 2) := by decide +kernel
theorem dL_first_3 : decode cL_first 3 = .ok (.iload_n 1, 1) := by decide +kernel
theorem dL_first_4 : decode cL_first 4 = .ok (.imul, 1) := by decide +kernel
theorem dL_first_5 : decode cL_first 5 = .ok (.iaload, 1) := by decide +kernel
theorem dL_first_6 : decode cL_first 6 = .ok (.istore 4, 2) := by decide +kernel
theorem dL_first_8 : decode cL_first 8 = .ok (.aload_n 2, 1) := by decide +kernel
theorem dL_first_9 : decode cL_first 9 = .ok (.bipush 15, 2) := by decide +kernel
theorem dL_first_11 : decode cL_first 11 = .ok (.iload_n 1, 1) := by decide +kernel
theorem dL_first_12 : decode cL_first 12 = .ok (.imul, 1) := by decide +kernel
theorem dL_first_13 : decode cL_first 13 = .ok (.iload_n 3, 1) := by decide +kernel
theorem dL_first_14 : decode cL_first 14 = .ok (.iadd, 1) := by decide +kernel
theorem dL_first_15 : decode cL_first 15 = .ok (.dup2, 1) := by decide +kernel
theorem dL_first_16 : decode cL_first 16 = .ok (.iaload, 1) := by decide +kernel
theorem dL_first_17 : decode cL_first 17 = .ok (.iconst 1, 1) := by decide +kernel
theorem dL_first_18 : decode cL_first 18 = .ok (.isub, 1) := by decide +kernel
theorem dL_first_19 : decode cL_first 19 = .ok (.iastore, 1) := by decide +kernel
theorem dL_first_20 : decode cL_first 20 = .ok (.iconst 0, 1) := by decide +kernel
theorem dL_first_21 : decode cL_first 21 = .ok (.istore 5, 2) := by decide +kernel
theorem dL_first_23 : decode cL_first 23 = .ok (.iload 5, 2) := by decide +kernel
theorem dL_first_25 : decode cL_first 25 = .ok (.aload_n 2, 1) := by decide +kernel
theorem dL_first_26 : decode cL_first 26 = .ok (.bipush 15, 2) := by decide +kernel
theorem dL_first_28 : decode cL_first 28 = .ok (.iload_n 1, 1) := by decide +kernel
theorem dL_first_29 : decode cL_first 29 = .ok (.imul, 1) := by decide +kernel
theorem dL_first_30 : decode cL_first 30 = .ok (.iload_n 3, 1) := by decide +kernel
theorem dL_first_31 : decode cL_first 31 = .ok (.iadd, 1) := by decide +kernel
theorem dL_first_32 : decode cL_first 32 = .ok (.iaload, 1) := by decide +kernel
theorem dL_first_33 : decode cL_first 33 = .ok (.if_icmp .ge 29, 3) := by decide +kernel
theorem dL_first_36 : decode cL_first 36 = .ok (.aload_n 0, 1) := by decide +kernel
theorem dL_first_37 : decode cL_first 37 = .ok (.bipush 20, 2) := by decide +kernel
theorem dL_first_39 : decode cL_first 39 = .ok (.iload_n 1, 1) := by decide +kernel
theorem dL_first_40 : decode cL_first 40 = .ok (.imul, 1) := by decide +kernel
theorem dL_first_41 : decode cL_first 41 = .ok (.iload 5, 2) := by decide +kernel
theorem dL_first_43 : decode cL_first 43 = .ok (.iadd, 1) := by decide +kernel
theorem dL_first_44 : decode cL_first 44 = .ok (.aload_n 0, 1) := by decide +kernel
theorem dL_first_45 : decode cL_first 45 = .ok (.bipush 20, 2) := by decide +kernel
theorem dL_first_47 : decode cL_first 47 = .ok (.iload_n 1, 1) := by decide +kernel
theorem dL_first_48 : decode cL_first 48 = .ok (.imul, 1) := by decide +kernel
theorem dL_first_49 : decode cL_first 49 = .ok (.iload 5, 2) := by decide +kernel
theorem dL_first_51 : decode cL_first 51 = .ok (.iadd, 1) := by decide +kernel
theorem dL_first_52 : decode cL_first 52 = .ok (.iconst 1, 1) := by decide +kernel
theorem dL_first_53 : decode cL_first 53 = .ok (.iadd, 1) := by decide +kernel
theorem dL_first_54 : decode cL_first 54 = .ok (.iaload, 1) := by decide +kernel
theorem dL_first_55 : decode cL_first 55 = .ok (.iastore, 1) := by decide +kernel
theorem dL_first_56 : decode cL_first 56 = .ok (.iinc 5 1, 3) := by decide +kernel
theorem dL_first_59 : decode cL_first 59 = .ok (.goto (-36), 3) := by decide +kernel
theorem dL_first_62 : decode cL_first 62 = .ok (.iload 4, 2) := by decide +kernel
theorem dL_first_64 : decode cL_first 64 = .ok (.ireturn, 1) := by decide +kernel
theorem dL_take_0 : decode cL_take 0 = .ok (.iconst 0, 1) := by decide +kernel
theorem dL_take_1 : decode cL_take 1 = .ok (.istore 6, 2) := by decide +kernel
theorem dL_take_3 : decode cL_take 3 = .ok (.iconst 0, 1) := by decide +kernel
theorem dL_take_4 : decode cL_take 4 = .ok (.istore 7, 2) := by decide +kernel
theorem dL_take_6 : decode cL_take 6 = .ok (.iload 7, 2) := by decide +kernel
theorem dL_take_8 : decode cL_take 8 = .ok (.iload 4, 2) := by decide +kernel
theorem dL_take_10 : decode cL_take 10 = .ok (.if_icmp .ge 66, 3) := by decide +kernel
theorem dL_take_13 : decode cL_take 13 = .ok (.aload_n 0, 1) := by decide +kernel
theorem dL_take_14 : decode cL_take 14 = .ok (.bipush 20, 2) := by decide +kernel
theorem dL_take_16 : decode cL_take 16 = .ok (.iload_n 1, 1) := by decide +kernel
theorem dL_take_17 : decode cL_take 17 = .ok (.imul, 1) := by decide +kernel
theorem dL_take_18 : decode cL_take 18 = .ok (.iaload, 1) := by decide +kernel
theorem dL_take_19 : decode cL_take 19 = .ok (.iconst 1, 1) := by decide +kernel
theorem dL_take_20 : decode cL_take 20 = .ok (.isub, 1) := by decide +kernel
theorem dL_take_21 : decode cL_take 21 = .ok (.istore 8, 2) := by decide +kernel
theorem dL_take_23 : decode cL_take 23 = .ok (.iload 8, 2) := by decide +kernel
theorem dL_take_25 : decode cL_take 25 = .ok (.bipush 100, 2) := by decide +kernel
theorem dL_take_27 : decode cL_take 27 = .ok (.if_icmp .lt 22, 3) := by decide +kernel
theorem dL_take_30 : decode cL_take 30 = .ok (.iload 5, 2) := by decide +kernel
theorem dL_take_32 : decode cL_take 32 = .ok (.iconst 1, 1) := by decide +kernel
theorem dL_take_33 : decode cL_take 33 = .ok (.if_icmp .eq 10, 3) := by decide +kernel
theorem dL_take_36 : decode cL_take 36 = .ok (.iload 8, 2) := by decide +kernel
theorem dL_take_38 : decode cL_take 38 = .ok (.bipush 100, 2) := by decide +kernel
theorem dL_take_40 : decode cL_take 40 = .ok (.if_icmp .ne 9, 3) := by decide +kernel
theorem dL_take_43 : decode cL_take 43 = .ok (.iinc 8 (-100), 3) := by decide +kernel
theorem dL_take_46 : decode cL_take 46 = .ok (.iinc 6 1, 3) := by decide +kernel
theorem dL_take_49 : decode cL_take 49 = .ok (.aload_n 0, 1) := by decide +kernel
theorem dL_take_50 : decode cL_take 50 = .ok (.bipush 20, 2) := by decide +kernel
theorem dL_take_52 : decode cL_take 52 = .ok (.iload_n 1, 1) := by decide +kernel
theorem dL_take_53 : decode cL_take 53 = .ok (.imul, 1) := by decide +kernel
theorem dL_take_54 : decode cL_take 54 = .ok (.iload 8, 2) := by decide +kernel
theorem dL_take_56 : decode cL_take 56 = .ok (.iastore, 1) := by decide +kernel
theorem dL_take_57 : decode cL_take 57 = .ok (.iload 8, 2) := by decide +kernel
theorem dL_take_59 : decode cL_take 59 = .ok (.ifCond .ne 11, 3) := by decide +kernel
theorem dL_take_62 : decode cL_take 62 = .ok (.aload_n 0, 1) := by decide +kernel
theorem dL_take_63 : decode cL_take 63 = .ok (.iload_n 1, 1) := by decide +kernel
theorem dL_take_64 : decode cL_take 64 = .ok (.aload_n 2, 1) := by decide +kernel
theorem dL_take_65 : decode cL_take 65 = .ok (.iload_n 3, 1) := by decide +kernel
theorem dL_take_66 : decode cL_take 66 = .ok (.invokestatic 10, 3) := by decide +kernel
theorem dL_take_69 : decode cL_take 69 = .ok (.pop, 1) := by decide +kernel
theorem dL_take_70 : decode cL_take 70 = .ok (.iinc 7 1, 3) := by decide +kernel
theorem dL_take_73 : decode cL_take 73 = .ok (.goto (-67), 3) := by decide +kernel
theorem dL_take_76 : decode cL_take 76 = .ok (.iload 6, 2) := by decide +kernel
theorem dL_take_78 : decode cL_take 78 = .ok (.ireturn, 1) := by decide +kernel
theorem dL_stage_0 : decode cL_stage 0 = .ok (.bipush 15, 2) := by decide +kernel
theorem dL_stage_2 : decode cL_stage 2 = .ok (.iload_n 0, 1) := by decide +kernel
theorem dL_stage_3 : decode cL_stage 3 = .ok (.imul, 1) := by decide +kernel
theorem dL_stage_4 : decode cL_stage 4 = .ok (.istore 5, 2) := by decide +kernel
theorem dL_stage_6 : decode cL_stage 6 = .ok (.aload_n 1, 1) := by decide +kernel
theorem dL_stage_7 : decode cL_stage 7 = .ok (.iload 5, 2) := by decide +kernel
theorem dL_stage_9 : decode cL_stage 9 = .ok (.bipush 14, 2) := by decide +kernel
theorem dL_stage_11 : decode cL_stage 11 = .ok (.iadd, 1) := by decide +kernel
theorem dL_stage_12 : decode cL_stage 12 = .ok (.iaload, 1) := by decide +kernel
theorem dL_stage_13 : decode cL_stage 13 = .ok (.iconst 1, 1) := by decide +kernel
theorem dL_stage_14 : decode cL_stage 14 = .ok (.if_icmp .ne 4, 3) := by decide +kernel
theorem dL_stage_17 : decode cL_stage 17 = .ok (.return_, 1) := by decide +kernel
theorem dL_stage_18 : decode cL_stage 18 = .ok (.aload_n 1, 1) := by decide +kernel
theorem dL_stage_19 : decode cL_stage 19 = .ok (.iload 5, 2) := by decide +kernel
theorem dL_stage_21 : decode cL_stage 21 = .ok (.iconst 5, 1) := by decide +kernel
theorem dL_stage_22 : decode cL_stage 22 = .ok (.iadd, 1) := by decide +kernel
theorem dL_stage_23 : decode cL_stage 23 = .ok (.iaload, 1) := by decide +kernel
theorem dL_stage_24 : decode cL_stage 24 = .ok (.iconst 1, 1) := by decide +kernel
theorem dL_stage_25 : decode cL_stage 25 = .ok (.if_icmp .ne 20, 3) := by decide +kernel
theorem dL_stage_28 : decode cL_stage 28 = .ok (.aload_n 2, 1) := by decide +kernel
theorem dL_stage_29 : decode cL_stage 29 = .ok (.iload_n 0, 1) := by decide +kernel
theorem dL_stage_30 : decode cL_stage 30 = .ok (.aload_n 1, 1) := by decide +kernel
theorem dL_stage_31 : decode cL_stage 31 = .ok (.bipush 11, 2) := by decide +kernel
theorem dL_stage_33 : decode cL_stage 33 = .ok (.bipush 100, 2) := by decide +kernel
theorem dL_stage_35 : decode cL_stage 35 = .ok (.aload_n 1, 1) := by decide +kernel
theorem dL_stage_36 : decode cL_stage 36 = .ok (.iload 5, 2) := by decide +kernel
theorem dL_stage_38 : decode cL_stage 38 = .ok (.iconst 1, 1) := by decide +kernel
theorem dL_stage_39 : decode cL_stage 39 = .ok (.iadd, 1) := by decide +kernel
theorem dL_stage_40 : decode cL_stage 40 = .ok (.iaload, 1) := by decide +kernel
theorem dL_stage_41 : decode cL_stage 41 = .ok (.iadd, 1) := by decide +kernel
theorem dL_stage_42 : decode cL_stage 42 = .ok (.invokestatic 16, 3) := by decide +kernel
theorem dL_stage_45 : decode cL_stage 45 = .ok (.aload_n 1, 1) := by decide +kernel
theorem dL_stage_46 : decode cL_stage 46 = .ok (.iload 5, 2) := by decide +kernel
theorem dL_stage_48 : decode cL_stage 48 = .ok (.iconst 5, 1) := by decide +kernel
theorem dL_stage_49 : decode cL_stage 49 = .ok (.iadd, 1) := by decide +kernel
theorem dL_stage_50 : decode cL_stage 50 = .ok (.dup2, 1) := by decide +kernel
theorem dL_stage_51 : decode cL_stage 51 = .ok (.iaload, 1) := by decide +kernel
theorem dL_stage_52 : decode cL_stage 52 = .ok (.aload_n 1, 1) := by decide +kernel
theorem dL_stage_53 : decode cL_stage 53 = .ok (.iload 5, 2) := by decide +kernel
theorem dL_stage_55 : decode cL_stage 55 = .ok (.iconst 5, 1) := by decide +kernel
theorem dL_stage_56 : decode cL_stage 56 = .ok (.iadd, 1) := by decide +kernel
theorem dL_stage_57 : decode cL_stage 57 = .ok (.iaload, 1) := by decide +kernel
theorem dL_stage_58 : decode cL_stage 58 = .ok (.ifCond .le 7, 3) := by decide +kernel
theorem dL_stage_61 : decode cL_stage 61 = .ok (.iconst 1, 1) := by decide +kernel
theorem dL_stage_62 : decode cL_stage 62 = .ok (.goto 4, 3) := by decide +kernel
theorem dL_stage_65 : decode cL_stage 65 = .ok (.iconst 0, 1) := by decide +kernel
theorem dL_stage_66 : decode cL_stage 66 = .ok (.isub, 1) := by decide +kernel
theorem dL_stage_67 : decode cL_stage 67 = .ok (.iastore, 1) := by decide +kernel
theorem dL_stage_68 : decode cL_stage 68 = .ok (.aload_n 1, 1) := by decide +kernel
theorem dL_stage_69 : decode cL_stage 69 = .ok (.iload 5, 2) := by decide +kernel
theorem dL_stage_71 : decode cL_stage 71 = .ok (.iconst 5, 1) := by decide +kernel
theorem dL_stage_72 : decode cL_stage 72 = .ok (.iadd, 1) := by decide +kernel
theorem dL_stage_73 : decode cL_stage 73 = .ok (.iaload, 1) := by decide +kernel
theorem dL_stage_74 : decode cL_stage 74 = .ok (.ifCond .le 4, 3) := by decide +kernel
theorem dL_stage_77 : decode cL_stage 77 = .ok (.return_, 1) := by decide +kernel
theorem dL_stage_78 : decode cL_stage 78 = .ok (.aload_n 1, 1) := by decide +kernel
theorem dL_stage_79 : decode cL_stage 79 = .ok (.iload 5, 2) := by decide +kernel
theorem dL_stage_81 : decode cL_stage 81 = .ok (.bipush 6, 2) := by decide +kernel
theorem dL_stage_83 : decode cL_stage 83 = .ok (.iadd, 1) := by decide +kernel
theorem dL_stage_84 : decode cL_stage 84 = .ok (.aload_n 1, 1) := by decide +kernel
theorem dL_stage_85 : decode cL_stage 85 = .ok (.iload 5, 2) := by decide +kernel
theorem dL_stage_87 : decode cL_stage 87 = .ok (.bipush 6, 2) := by decide +kernel
theorem dL_stage_89 : decode cL_stage 89 = .ok (.iadd, 1) := by decide +kernel
theorem dL_stage_90 : decode cL_stage 90 = .ok (.iaload, 1) := by decide +kernel
theorem dL_stage_91 : decode cL_stage 91 = .ok (.ifCond .ne 27, 3) := by decide +kernel
theorem dL_stage_94 : decode cL_stage 94 = .ok (.aload_n 1, 1) := by decide +kernel
theorem dL_stage_95 : decode cL_stage 95 = .ok (.iload 5, 2) := by decide +kernel
theorem dL_stage_97 : decode cL_stage 97 = .ok (.iconst 4, 1) := by decide +kernel
theorem dL_stage_98 : decode cL_stage 98 = .ok (.iadd, 1) := by decide +kernel
theorem dL_stage_99 : decode cL_stage 99 = .ok (.iaload, 1) := by decide +kernel
theorem dL_stage_100 : decode cL_stage 100 = .ok (.aload_n 1, 1) := by decide +kernel
theorem dL_stage_101 : decode cL_stage 101 = .ok (.iload 5, 2) := by decide +kernel
theorem dL_stage_103 : decode cL_stage 103 = .ok (.iconst 3, 1) := by decide +kernel
theorem dL_stage_104 : decode cL_stage 104 = .ok (.iadd, 1) := by decide +kernel
theorem dL_stage_105 : decode cL_stage 105 = .ok (.iaload, 1) := by decide +kernel
theorem dL_stage_106 : decode cL_stage 106 = .ok (.if_icmp .lt 12, 3) := by decide +kernel
theorem dL_stage_109 : decode cL_stage 109 = .ok (.aload_n 1, 1) := by decide +kernel
theorem dL_stage_110 : decode cL_stage 110 = .ok (.iload 5, 2) := by decide +kernel
theorem dL_stage_112 : decode cL_stage 112 = .ok (.iconst 4, 1) := by decide +kernel
theorem dL_stage_113 : decode cL_stage 113 = .ok (.iadd, 1) := by decide +kernel
theorem dL_stage_114 : decode cL_stage 114 = .ok (.iaload, 1) := by decide +kernel
theorem dL_stage_115 : decode cL_stage 115 = .ok (.goto 10, 3) := by decide +kernel
theorem dL_stage_118 : decode cL_stage 118 = .ok (.aload_n 1, 1) := by decide +kernel
theorem dL_stage_119 : decode cL_stage 119 = .ok (.iload 5, 2) := by decide +kernel
theorem dL_stage_121 : decode cL_stage 121 = .ok (.bipush 6, 2) := by decide +kernel
theorem dL_stage_123 : decode cL_stage 123 = .ok (.iadd, 1) := by decide +kernel
theorem dL_stage_124 : decode cL_stage 124 = .ok (.iaload, 1) := by decide +kernel
theorem dL_stage_125 : decode cL_stage 125 = .ok (.iastore, 1) := by decide +kernel
theorem dL_stage_126 : decode cL_stage 126 = .ok (.aload_n 1, 1) := by decide +kernel
theorem dL_stage_127 : decode cL_stage 127 = .ok (.iload 5, 2) := by decide +kernel
theorem dL_stage_129 : decode cL_stage 129 = .ok (.bipush 6, 2) := by decide +kernel
theorem dL_stage_131 : decode cL_stage 131 = .ok (.iadd, 1) := by decide +kernel
theorem dL_stage_132 : decode cL_stage 132 = .ok (.iaload, 1) := by decide +kernel
theorem dL_stage_133 : decode cL_stage 133 = .ok (.ifCond .ne 4, 3) := by decide +kernel
theorem dL_stage_136 : decode cL_stage 136 = .ok (.return_, 1) := by decide +kernel
theorem dL_stage_137 : decode cL_stage 137 = .ok (.iload_n 0, 1) := by decide +kernel
theorem dL_stage_138 : decode cL_stage 138 = .ok (.ifCond .eq 24, 3) := by decide +kernel
theorem dL_stage_141 : decode cL_stage 141 = .ok (.aload_n 3, 1) := by decide +kernel
theorem dL_stage_142 : decode cL_stage 142 = .ok (.iload_n 0, 1) := by decide +kernel
theorem dL_stage_143 : decode cL_stage 143 = .ok (.aload_n 1, 1) := by decide +kernel
theorem dL_stage_144 : decode cL_stage 144 = .ok (.iload 5, 2) := by decide +kernel
theorem dL_stage_146 : decode cL_stage 146 = .ok (.bipush 12, 2) := by decide +kernel
theorem dL_stage_148 : decode cL_stage 148 = .ok (.iadd, 1) := by decide +kernel
theorem dL_stage_149 : decode cL_stage 149 = .ok (.iaload, 1) := by decide +kernel
theorem dL_stage_150 : decode cL_stage 150 = .ok (.invokestatic 20, 3) := by decide +kernel
theorem dL_stage_153 : decode cL_stage 153 = .ok (.aload_n 1, 1) := by decide +kernel
theorem dL_stage_154 : decode cL_stage 154 = .ok (.iload 5, 2) := by decide +kernel
theorem dL_stage_156 : decode cL_stage 156 = .ok (.iconst 1, 1) := by decide +kernel
theorem dL_stage_157 : decode cL_stage 157 = .ok (.iadd, 1) := by decide +kernel
theorem dL_stage_158 : decode cL_stage 158 = .ok (.iaload, 1) := by decide +kernel
theorem dL_stage_159 : decode cL_stage 159 = .ok (.if_icmp .lt 7, 3) := by decide +kernel
theorem dL_stage_162 : decode cL_stage 162 = .ok (.iconst 1, 1) := by decide +kernel
theorem dL_stage_163 : decode cL_stage 163 = .ok (.goto 4, 3) := by decide +kernel
theorem dL_stage_166 : decode cL_stage 166 = .ok (.iconst 0, 1) := by decide +kernel
theorem dL_stage_167 : decode cL_stage 167 = .ok (.istore 6, 2) := by decide +kernel
theorem dL_stage_169 : decode cL_stage 169 = .ok (.iload 6, 2) := by decide +kernel
theorem dL_stage_171 : decode cL_stage 171 = .ok (.ifCond .ne 15, 3) := by decide +kernel
theorem dL_stage_174 : decode cL_stage 174 = .ok (.aload_n 1, 1) := by decide +kernel
theorem dL_stage_175 : decode cL_stage 175 = .ok (.iload 5, 2) := by decide +kernel
theorem dL_stage_177 : decode cL_stage 177 = .ok (.bipush 7, 2) := by decide +kernel
theorem dL_stage_179 : decode cL_stage 179 = .ok (.iadd, 1) := by decide +kernel
theorem dL_stage_180 : decode cL_stage 180 = .ok (.dup2, 1) := by decide +kernel
theorem dL_stage_181 : decode cL_stage 181 = .ok (.iaload, 1) := by decide +kernel
theorem dL_stage_182 : decode cL_stage 182 = .ok (.iconst 1, 1) := by decide +kernel
theorem dL_stage_183 : decode cL_stage 183 = .ok (.iadd, 1) := by decide +kernel
theorem dL_stage_184 : decode cL_stage 184 = .ok (.iastore, 1) := by decide +kernel
theorem dL_stage_185 : decode cL_stage 185 = .ok (.return_, 1) := by decide +kernel
theorem dL_stage_186 : decode cL_stage 186 = .ok (.iload_n 0, 1) := by decide +kernel
theorem dL_stage_187 : decode cL_stage 187 = .ok (.ifCond .ne 20, 3) := by decide +kernel
theorem dL_stage_190 : decode cL_stage 190 = .ok (.aload 4, 2) := by decide +kernel
theorem dL_stage_192 : decode cL_stage 192 = .ok (.bipush 7, 2) := by decide +kernel
theorem dL_stage_194 : decode cL_stage 194 = .ok (.dup2, 1) := by decide +kernel
theorem dL_stage_195 : decode cL_stage 195 = .ok (.iaload, 1) := by decide +kernel
theorem dL_stage_196 : decode cL_stage 196 = .ok (.aload_n 1, 1) := by decide +kernel
theorem dL_stage_197 : decode cL_stage 197 = .ok (.iload 5, 2) := by decide +kernel
theorem dL_stage_199 : decode cL_stage 199 = .ok (.iconst 1, 1) := by decide +kernel
theorem dL_stage_200 : decode cL_stage 200 = .ok (.iadd, 1) := by decide +kernel
theorem dL_stage_201 : decode cL_stage 201 = .ok (.iaload, 1) := by decide +kernel
theorem dL_stage_202 : decode cL_stage 202 = .ok (.iadd, 1) := by decide +kernel
theorem dL_stage_203 : decode cL_stage 203 = .ok (.iastore, 1) := by decide +kernel
theorem dL_stage_204 : decode cL_stage 204 = .ok (.goto 31, 3) := by decide +kernel
theorem dL_stage_207 : decode cL_stage 207 = .ok (.aload_n 1, 1) := by decide +kernel
theorem dL_stage_208 : decode cL_stage 208 = .ok (.iload 5, 2) := by decide +kernel
theorem dL_stage_210 : decode cL_stage 210 = .ok (.bipush 10, 2) := by decide +kernel
theorem dL_stage_212 : decode cL_stage 212 = .ok (.iadd, 1) := by decide +kernel
theorem dL_stage_213 : decode cL_stage 213 = .ok (.dup2, 1) := by decide +kernel
theorem dL_stage_214 : decode cL_stage 214 = .ok (.iaload, 1) := by decide +kernel
theorem dL_stage_215 : decode cL_stage 215 = .ok (.aload_n 3, 1) := by decide +kernel
theorem dL_stage_216 : decode cL_stage 216 = .ok (.iload_n 0, 1) := by decide +kernel
theorem dL_stage_217 : decode cL_stage 217 = .ok (.aload_n 1, 1) := by decide +kernel
theorem dL_stage_218 : decode cL_stage 218 = .ok (.bipush 12, 2) := by decide +kernel
theorem dL_stage_220 : decode cL_stage 220 = .ok (.aload_n 1, 1) := by decide +kernel
theorem dL_stage_221 : decode cL_stage 221 = .ok (.iload 5, 2) := by decide +kernel
theorem dL_stage_223 : decode cL_stage 223 = .ok (.iconst 1, 1) := by decide +kernel
theorem dL_stage_224 : decode cL_stage 224 = .ok (.iadd, 1) := by decide +kernel
theorem dL_stage_225 : decode cL_stage 225 = .ok (.iaload, 1) := by decide +kernel
theorem dL_stage_226 : decode cL_stage 226 = .ok (.aload 4, 2) := by decide +kernel
theorem dL_stage_228 : decode cL_stage 228 = .ok (.iconst 1, 1) := by decide +kernel
theorem dL_stage_229 : decode cL_stage 229 = .ok (.iaload, 1) := by decide +kernel
theorem dL_stage_230 : decode cL_stage 230 = .ok (.invokestatic 24, 3) := by decide +kernel
theorem dL_stage_233 : decode cL_stage 233 = .ok (.iadd, 1) := by decide +kernel
theorem dL_stage_234 : decode cL_stage 234 = .ok (.iastore, 1) := by decide +kernel
theorem dL_stage_235 : decode cL_stage 235 = .ok (.aload_n 1, 1) := by decide +kernel
theorem dL_stage_236 : decode cL_stage 236 = .ok (.iload 5, 2) := by decide +kernel
theorem dL_stage_238 : decode cL_stage 238 = .ok (.iconst 4, 1) := by decide +kernel
theorem dL_stage_239 : decode cL_stage 239 = .ok (.iadd, 1) := by decide +kernel
theorem dL_stage_240 : decode cL_stage 240 = .ok (.dup2, 1) := by decide +kernel
theorem dL_stage_241 : decode cL_stage 241 = .ok (.iaload, 1) := by decide +kernel
theorem dL_stage_242 : decode cL_stage 242 = .ok (.iconst 1, 1) := by decide +kernel
theorem dL_stage_243 : decode cL_stage 243 = .ok (.isub, 1) := by decide +kernel
theorem dL_stage_244 : decode cL_stage 244 = .ok (.iastore, 1) := by decide +kernel
theorem dL_stage_245 : decode cL_stage 245 = .ok (.aload_n 1, 1) := by decide +kernel
theorem dL_stage_246 : decode cL_stage 246 = .ok (.iload 5, 2) := by decide +kernel
theorem dL_stage_248 : decode cL_stage 248 = .ok (.bipush 6, 2) := by decide +kernel
theorem dL_stage_250 : decode cL_stage 250 = .ok (.iadd, 1) := by decide +kernel
theorem dL_stage_251 : decode cL_stage 251 = .ok (.dup2, 1) := by decide +kernel
theorem dL_stage_252 : decode cL_stage 252 = .ok (.iaload, 1) := by decide +kernel
theorem dL_stage_253 : decode cL_stage 253 = .ok (.iconst 1, 1) := by decide +kernel
theorem dL_stage_254 : decode cL_stage 254 = .ok (.isub, 1) := by decide +kernel
theorem dL_stage_255 : decode cL_stage 255 = .ok (.iastore, 1) := by decide +kernel
theorem dL_stage_256 : decode cL_stage 256 = .ok (.aload_n 1, 1) := by decide +kernel
theorem dL_stage_257 : decode cL_stage 257 = .ok (.iload 5, 2) := by decide +kernel
theorem dL_stage_259 : decode cL_stage 259 = .ok (.iconst 5, 1) := by decide +kernel
theorem dL_stage_260 : decode cL_stage 260 = .ok (.iadd, 1) := by decide +kernel
theorem dL_stage_261 : decode cL_stage 261 = .ok (.aload_n 1, 1) := by decide +kernel
theorem dL_stage_262 : decode cL_stage 262 = .ok (.iload 5, 2) := by decide +kernel
theorem dL_stage_264 : decode cL_stage 264 = .ok (.iconst 2, 1) := by decide +kernel
theorem dL_stage_265 : decode cL_stage 265 = .ok (.iadd, 1) := by decide +kernel
theorem dL_stage_266 : decode cL_stage 266 = .ok (.iaload, 1) := by decide +kernel
theorem dL_stage_267 : decode cL_stage 267 = .ok (.iastore, 1) := by decide +kernel
theorem dL_stage_268 : decode cL_stage 268 = .ok (.return_, 1) := by decide +kernel
theorem dL_carry_0 : decode cL_carry 0 = .ok (.bipush 15, 2) := by decide +kernel
theorem dL_carry_2 : decode cL_carry 2 = .ok (.iload_n 0, 1) := by decide +kernel
theorem dL_carry_3 : decode cL_carry 3 = .ok (.imul, 1) := by decide +kernel
theorem dL_carry_4 : decode cL_carry 4 = .ok (.istore 5, 2) := by decide +kernel
theorem dL_carry_6 : decode cL_carry 6 = .ok (.aload_n 1, 1) := by decide +kernel
theorem dL_carry_7 : decode cL_carry 7 = .ok (.iload 5, 2) := by decide +kernel
theorem dL_carry_9 : decode cL_carry 9 = .ok (.bipush 13, 2) := by decide +kernel
theorem dL_carry_11 : decode cL_carry 11 = .ok (.iadd, 1) := by decide +kernel
theorem dL_carry_12 : decode cL_carry 12 = .ok (.iaload, 1) := by decide +kernel
theorem dL_carry_13 : decode cL_carry 13 = .ok (.istore 6, 2) := by decide +kernel
theorem dL_carry_15 : decode cL_carry 15 = .ok (.iconst 0, 1) := by decide +kernel
theorem dL_carry_16 : decode cL_carry 16 = .ok (.istore 7, 2) := by decide +kernel
theorem dL_carry_18 : decode cL_carry 18 = .ok (.iload 7, 2) := by decide +kernel
theorem dL_carry_20 : decode cL_carry 20 = .ok (.iload 6, 2) := by decide +kernel
theorem dL_carry_22 : decode cL_carry 22 = .ok (.if_icmp .ge 57, 3) := by decide +kernel
theorem dL_carry_25 : decode cL_carry 25 = .ok (.aload 4, 2) := by decide +kernel
theorem dL_carry_27 : decode cL_carry 27 = .ok (.iload_n 0, 1) := by decide +kernel
theorem dL_carry_28 : decode cL_carry 28 = .ok (.aload_n 1, 1) := by decide +kernel
theorem dL_carry_29 : decode cL_carry 29 = .ok (.bipush 13, 2) := by decide +kernel
theorem dL_carry_31 : decode cL_carry 31 = .ok (.invokestatic 10, 3) := by decide +kernel
theorem dL_carry_34 : decode cL_carry 34 = .ok (.bipush 100, 2) := by decide +kernel
theorem dL_carry_36 : decode cL_carry 36 = .ok (.isub, 1) := by decide +kernel
theorem dL_carry_37 : decode cL_carry 37 = .ok (.istore 8, 2) := by decide +kernel
theorem dL_carry_39 : decode cL_carry 39 = .ok (.iload 8, 2) := by decide +kernel
theorem dL_carry_41 : decode cL_carry 41 = .ok (.bipush 100, 2) := by decide +kernel
theorem dL_carry_43 : decode cL_carry 43 = .ok (.if_icmp .ge 19, 3) := by decide +kernel
theorem dL_carry_46 : decode cL_carry 46 = .ok (.aload_n 3, 1) := by decide +kernel
theorem dL_carry_47 : decode cL_carry 47 = .ok (.iload_n 0, 1) := by decide +kernel
theorem dL_carry_48 : decode cL_carry 48 = .ok (.aload_n 1, 1) := by decide +kernel
theorem dL_carry_49 : decode cL_carry 49 = .ok (.bipush 12, 2) := by decide +kernel
theorem dL_carry_51 : decode cL_carry 51 = .ok (.bipush 100, 2) := by decide +kernel
theorem dL_carry_53 : decode cL_carry 53 = .ok (.iload 8, 2) := by decide +kernel
theorem dL_carry_55 : decode cL_carry 55 = .ok (.iadd, 1) := by decide +kernel
theorem dL_carry_56 : decode cL_carry 56 = .ok (.invokestatic 16, 3) := by decide +kernel
theorem dL_carry_59 : decode cL_carry 59 = .ok (.goto 14, 3) := by decide +kernel
theorem dL_carry_62 : decode cL_carry 62 = .ok (.aload 4, 2) := by decide +kernel
theorem dL_carry_64 : decode cL_carry 64 = .ok (.iload_n 0, 1) := by decide +kernel
theorem dL_carry_65 : decode cL_carry 65 = .ok (.aload_n 1, 1) := by decide +kernel
theorem dL_carry_66 : decode cL_carry 66 = .ok (.bipush 13, 2) := by decide +kernel
theorem dL_carry_68 : decode cL_carry 68 = .ok (.iload 8, 2) := by decide +kernel
theorem dL_carry_70 : decode cL_carry 70 = .ok (.invokestatic 16, 3) := by decide +kernel
theorem dL_carry_73 : decode cL_carry 73 = .ok (.iinc 7 1, 3) := by decide +kernel
theorem dL_carry_76 : decode cL_carry 76 = .ok (.goto (-58), 3) := by decide +kernel
theorem dL_carry_79 : decode cL_carry 79 = .ok (.aload_n 1, 1) := by decide +kernel
theorem dL_carry_80 : decode cL_carry 80 = .ok (.iload 5, 2) := by decide +kernel
theorem dL_carry_82 : decode cL_carry 82 = .ok (.bipush 10, 2) := by decide +kernel
theorem dL_carry_84 : decode cL_carry 84 = .ok (.iadd, 1) := by decide +kernel
theorem dL_carry_85 : decode cL_carry 85 = .ok (.iaload, 1) := by decide +kernel
theorem dL_carry_86 : decode cL_carry 86 = .ok (.ifCond .le 113, 3) := by decide +kernel
theorem dL_carry_89 : decode cL_carry 89 = .ok (.aload_n 1, 1) := by decide +kernel
theorem dL_carry_90 : decode cL_carry 90 = .ok (.iload 5, 2) := by decide +kernel
theorem dL_carry_92 : decode cL_carry 92 = .ok (.bipush 15, 2) := by decide +kernel
theorem dL_carry_94 : decode cL_carry 94 = .ok (.isub, 1) := by decide +kernel
theorem dL_carry_95 : decode cL_carry 95 = .ok (.bipush 11, 2) := by decide +kernel
theorem dL_carry_97 : decode cL_carry 97 = .ok (.iadd, 1) := by decide +kernel
theorem dL_carry_98 : decode cL_carry 98 = .ok (.iaload, 1) := by decide +kernel
theorem dL_carry_99 : decode cL_carry 99 = .ok (.ifCond .le 100, 3) := by decide +kernel
theorem dL_carry_102 : decode cL_carry 102 = .ok (.aload_n 2, 1) := by decide +kernel
theorem dL_carry_103 : decode cL_carry 103 = .ok (.iload_n 0, 1) := by decide +kernel
theorem dL_carry_104 : decode cL_carry 104 = .ok (.iconst 1, 1) := by decide +kernel
theorem dL_carry_105 : decode cL_carry 105 = .ok (.isub, 1) := by decide +kernel
theorem dL_carry_106 : decode cL_carry 106 = .ok (.aload_n 1, 1) := by decide +kernel
theorem dL_carry_107 : decode cL_carry 107 = .ok (.bipush 11, 2) := by decide +kernel
theorem dL_carry_109 : decode cL_carry 109 = .ok (.invokestatic 10, 3) := by decide +kernel
theorem dL_carry_112 : decode cL_carry 112 = .ok (.istore 7, 2) := by decide +kernel
theorem dL_carry_114 : decode cL_carry 114 = .ok (.aload_n 1, 1) := by decide +kernel
theorem dL_carry_115 : decode cL_carry 115 = .ok (.iload 5, 2) := by decide +kernel
theorem dL_carry_117 : decode cL_carry 117 = .ok (.bipush 15, 2) := by decide +kernel
theorem dL_carry_119 : decode cL_carry 119 = .ok (.isub, 1) := by decide +kernel
theorem dL_carry_120 : decode cL_carry 120 = .ok (.iconst 4, 1) := by decide +kernel
theorem dL_carry_121 : decode cL_carry 121 = .ok (.iadd, 1) := by decide +kernel
theorem dL_carry_122 : decode cL_carry 122 = .ok (.dup2, 1) := by decide +kernel
theorem dL_carry_123 : decode cL_carry 123 = .ok (.iaload, 1) := by decide +kernel
theorem dL_carry_124 : decode cL_carry 124 = .ok (.iload 7, 2) := by decide +kernel
theorem dL_carry_126 : decode cL_carry 126 = .ok (.bipush 100, 2) := by decide +kernel
theorem dL_carry_128 : decode cL_carry 128 = .ok (.idiv, 1) := by decide +kernel
theorem dL_carry_129 : decode cL_carry 129 = .ok (.iadd, 1) := by decide +kernel
theorem dL_carry_130 : decode cL_carry 130 = .ok (.iastore, 1) := by decide +kernel
theorem dL_carry_131 : decode cL_carry 131 = .ok (.aload_n 1, 1) := by decide +kernel
theorem dL_carry_132 : decode cL_carry 132 = .ok (.iload 5, 2) := by decide +kernel
theorem dL_carry_134 : decode cL_carry 134 = .ok (.bipush 10, 2) := by decide +kernel
theorem dL_carry_136 : decode cL_carry 136 = .ok (.iadd, 1) := by decide +kernel
theorem dL_carry_137 : decode cL_carry 137 = .ok (.dup2, 1) := by decide +kernel
theorem dL_carry_138 : decode cL_carry 138 = .ok (.iaload, 1) := by decide +kernel
theorem dL_carry_139 : decode cL_carry 139 = .ok (.iconst 1, 1) := by decide +kernel
theorem dL_carry_140 : decode cL_carry 140 = .ok (.isub, 1) := by decide +kernel
theorem dL_carry_141 : decode cL_carry 141 = .ok (.iastore, 1) := by decide +kernel
theorem dL_carry_142 : decode cL_carry 142 = .ok (.aload_n 1, 1) := by decide +kernel
theorem dL_carry_143 : decode cL_carry 143 = .ok (.iload 5, 2) := by decide +kernel
theorem dL_carry_145 : decode cL_carry 145 = .ok (.bipush 8, 2) := by decide +kernel
theorem dL_carry_147 : decode cL_carry 147 = .ok (.iadd, 1) := by decide +kernel
theorem dL_carry_148 : decode cL_carry 148 = .ok (.iaload, 1) := by decide +kernel
theorem dL_carry_149 : decode cL_carry 149 = .ok (.ifCond .ne 22, 3) := by decide +kernel
theorem dL_carry_152 : decode cL_carry 152 = .ok (.aload_n 3, 1) := by decide +kernel
theorem dL_carry_153 : decode cL_carry 153 = .ok (.iload_n 0, 1) := by decide +kernel
theorem dL_carry_154 : decode cL_carry 154 = .ok (.aload_n 1, 1) := by decide +kernel
theorem dL_carry_155 : decode cL_carry 155 = .ok (.bipush 12, 2) := by decide +kernel
theorem dL_carry_157 : decode cL_carry 157 = .ok (.bipush 100, 2) := by decide +kernel
theorem dL_carry_159 : decode cL_carry 159 = .ok (.iload 7, 2) := by decide +kernel
theorem dL_carry_161 : decode cL_carry 161 = .ok (.bipush 100, 2) := by decide +kernel
theorem dL_carry_163 : decode cL_carry 163 = .ok (.irem, 1) := by decide +kernel
theorem dL_carry_164 : decode cL_carry 164 = .ok (.iadd, 1) := by decide +kernel
theorem dL_carry_165 : decode cL_carry 165 = .ok (.invokestatic 16, 3) := by decide +kernel
theorem dL_carry_168 : decode cL_carry 168 = .ok (.goto 28, 3) := by decide +kernel
theorem dL_carry_171 : decode cL_carry 171 = .ok (.aload 4, 2) := by decide +kernel
theorem dL_carry_173 : decode cL_carry 173 = .ok (.iload_n 0, 1) := by decide +kernel
theorem dL_carry_174 : decode cL_carry 174 = .ok (.aload_n 1, 1) := by decide +kernel
theorem dL_carry_175 : decode cL_carry 175 = .ok (.bipush 13, 2) := by decide +kernel
theorem dL_carry_177 : decode cL_carry 177 = .ok (.bipush 100, 2) := by decide +kernel
theorem dL_carry_179 : decode cL_carry 179 = .ok (.aload_n 1, 1) := by decide +kernel
theorem dL_carry_180 : decode cL_carry 180 = .ok (.iload 5, 2) := by decide +kernel
theorem dL_carry_182 : decode cL_carry 182 = .ok (.bipush 8, 2) := by decide +kernel
theorem dL_carry_184 : decode cL_carry 184 = .ok (.iadd, 1) := by decide +kernel
theorem dL_carry_185 : decode cL_carry 185 = .ok (.iaload, 1) := by decide +kernel
theorem dL_carry_186 : decode cL_carry 186 = .ok (.imul, 1) := by decide +kernel
theorem dL_carry_187 : decode cL_carry 187 = .ok (.iload 7, 2) := by decide +kernel
theorem dL_carry_189 : decode cL_carry 189 = .ok (.bipush 100, 2) := by decide +kernel
theorem dL_carry_191 : decode cL_carry 191 = .ok (.irem, 1) := by decide +kernel
theorem dL_carry_192 : decode cL_carry 192 = .ok (.iadd, 1) := by decide +kernel
theorem dL_carry_193 : decode cL_carry 193 = .ok (.invokestatic 16, 3) := by decide +kernel
theorem dL_carry_196 : decode cL_carry 196 = .ok (.goto (-117), 3) := by decide +kernel
theorem dL_carry_199 : decode cL_carry 199 = .ok (.return_, 1) := by decide +kernel
theorem dL_step_0 : decode cL_step 0 = .ok (.aload 4, 2) := by decide +kernel
theorem dL_step_2 : decode cL_step 2 = .ok (.iconst 0, 1) := by decide +kernel
theorem dL_step_3 : decode cL_step 3 = .ok (.iaload, 1) := by decide +kernel
theorem dL_step_4 : decode cL_step 4 = .ok (.iconst 1, 1) := by decide +kernel
theorem dL_step_5 : decode cL_step 5 = .ok (.isub, 1) := by decide +kernel
theorem dL_step_6 : decode cL_step 6 = .ok (.istore 5, 2) := by decide +kernel
theorem dL_step_8 : decode cL_step 8 = .ok (.aload 4, 2) := by decide +kernel
theorem dL_step_10 : decode cL_step 10 = .ok (.iconst 3, 1) := by decide +kernel
theorem dL_step_11 : decode cL_step 11 = .ok (.dup2, 1) := by decide +kernel
theorem dL_step_12 : decode cL_step 12 = .ok (.iaload, 1) := by decide +kernel
theorem dL_step_13 : decode cL_step 13 = .ok (.iconst 1, 1) := by decide +kernel
theorem dL_step_14 : decode cL_step 14 = .ok (.iadd, 1) := by decide +kernel
theorem dL_step_15 : decode cL_step 15 = .ok (.iastore, 1) := by decide +kernel
theorem dL_step_16 : decode cL_step 16 = .ok (.aload 4, 2) := by decide +kernel
theorem dL_step_18 : decode cL_step 18 = .ok (.iconst 2, 1) := by decide +kernel
theorem dL_step_19 : decode cL_step 19 = .ok (.iaload, 1) := by decide +kernel
theorem dL_step_20 : decode cL_step 20 = .ok (.aload 4, 2) := by decide +kernel
theorem dL_step_22 : decode cL_step 22 = .ok (.iconst 5, 1) := by decide +kernel
theorem dL_step_23 : decode cL_step 23 = .ok (.iaload, 1) := by decide +kernel
theorem dL_step_24 : decode cL_step 24 = .ok (.iadd, 1) := by decide +kernel
theorem dL_step_25 : decode cL_step 25 = .ok (.istore 6, 2) := by decide +kernel
theorem dL_step_27 : decode cL_step 27 = .ok (.aload_n 1, 1) := by decide +kernel
theorem dL_step_28 : decode cL_step 28 = .ok (.iload 5, 2) := by decide +kernel
theorem dL_step_30 : decode cL_step 30 = .ok (.aload_n 0, 1) := by decide +kernel
theorem dL_step_31 : decode cL_step 31 = .ok (.bipush 15, 2) := by decide +kernel
theorem dL_step_33 : decode cL_step 33 = .ok (.iload 5, 2) := by decide +kernel
theorem dL_step_35 : decode cL_step 35 = .ok (.imul, 1) := by decide +kernel
theorem dL_step_36 : decode cL_step 36 = .ok (.bipush 11, 2) := by decide +kernel
theorem dL_step_38 : decode cL_step 38 = .ok (.iadd, 1) := by decide +kernel
theorem dL_step_39 : decode cL_step 39 = .ok (.iaload, 1) := by decide +kernel
theorem dL_step_40 : decode cL_step 40 = .ok (.invokestatic 20, 3) := by decide +kernel
theorem dL_step_43 : decode cL_step 43 = .ok (.istore 7, 2) := by decide +kernel
theorem dL_step_45 : decode cL_step 45 = .ok (.iload 7, 2) := by decide +kernel
theorem dL_step_47 : decode cL_step 47 = .ok (.iload 6, 2) := by decide +kernel
theorem dL_step_49 : decode cL_step 49 = .ok (.if_icmp .ge 8, 3) := by decide +kernel
theorem dL_step_52 : decode cL_step 52 = .ok (.iload 7, 2) := by decide +kernel
theorem dL_step_54 : decode cL_step 54 = .ok (.goto 5, 3) := by decide +kernel
theorem dL_step_57 : decode cL_step 57 = .ok (.iload 6, 2) := by decide +kernel
theorem dL_step_59 : decode cL_step 59 = .ok (.istore 8, 2) := by decide +kernel
theorem dL_step_61 : decode cL_step 61 = .ok (.aload_n 0, 1) := by decide +kernel
theorem dL_step_62 : decode cL_step 62 = .ok (.bipush 15, 2) := by decide +kernel
theorem dL_step_64 : decode cL_step 64 = .ok (.iload 5, 2) := by decide +kernel
theorem dL_step_66 : decode cL_step 66 = .ok (.imul, 1) := by decide +kernel
theorem dL_step_67 : decode cL_step 67 = .ok (.iconst 4, 1) := by decide +kernel
theorem dL_step_68 : decode cL_step 68 = .ok (.iadd, 1) := by decide +kernel
theorem dL_step_69 : decode cL_step 69 = .ok (.dup2, 1) := by decide +kernel
theorem dL_step_70 : decode cL_step 70 = .ok (.iaload, 1) := by decide +kernel
theorem dL_step_71 : decode cL_step 71 = .ok (.aload_n 1, 1) := by decide +kernel
theorem dL_step_72 : decode cL_step 72 = .ok (.iload 5, 2) := by decide +kernel
theorem dL_step_74 : decode cL_step 74 = .ok (.aload_n 0, 1) := by decide +kernel
theorem dL_step_75 : decode cL_step 75 = .ok (.bipush 11, 2) := by decide +kernel
theorem dL_step_77 : decode cL_step 77 = .ok (.iload 8, 2) := by decide +kernel
theorem dL_step_79 : decode cL_step 79 = .ok (.aload 4, 2) := by decide +kernel
theorem dL_step_81 : decode cL_step 81 = .ok (.iconst 1, 1) := by decide +kernel
theorem dL_step_82 : decode cL_step 82 = .ok (.iaload, 1) := by decide +kernel
theorem dL_step_83 : decode cL_step 83 = .ok (.invokestatic 24, 3) := by decide +kernel
theorem dL_step_86 : decode cL_step 86 = .ok (.iadd, 1) := by decide +kernel
theorem dL_step_87 : decode cL_step 87 = .ok (.iastore, 1) := by decide +kernel
theorem dL_step_88 : decode cL_step 88 = .ok (.aload 4, 2) := by decide +kernel
theorem dL_step_90 : decode cL_step 90 = .ok (.iconst 4, 1) := by decide +kernel
theorem dL_step_91 : decode cL_step 91 = .ok (.dup2, 1) := by decide +kernel
theorem dL_step_92 : decode cL_step 92 = .ok (.iaload, 1) := by decide +kernel
theorem dL_step_93 : decode cL_step 93 = .ok (.iload 8, 2) := by decide +kernel
theorem dL_step_95 : decode cL_step 95 = .ok (.iadd, 1) := by decide +kernel
theorem dL_step_96 : decode cL_step 96 = .ok (.iastore, 1) := by decide +kernel
theorem dL_step_97 : decode cL_step 97 = .ok (.aload 4, 2) := by decide +kernel
theorem dL_step_99 : decode cL_step 99 = .ok (.iconst 5, 1) := by decide +kernel
theorem dL_step_100 : decode cL_step 100 = .ok (.iload 6, 2) := by decide +kernel
theorem dL_step_102 : decode cL_step 102 = .ok (.iload 8, 2) := by decide +kernel
theorem dL_step_104 : decode cL_step 104 = .ok (.isub, 1) := by decide +kernel
theorem dL_step_105 : decode cL_step 105 = .ok (.iastore, 1) := by decide +kernel
theorem dL_step_106 : decode cL_step 106 = .ok (.aload 4, 2) := by decide +kernel
theorem dL_step_108 : decode cL_step 108 = .ok (.bipush 6, 2) := by decide +kernel
theorem dL_step_110 : decode cL_step 110 = .ok (.dup2, 1) := by decide +kernel
theorem dL_step_111 : decode cL_step 111 = .ok (.iaload, 1) := by decide +kernel
theorem dL_step_112 : decode cL_step 112 = .ok (.aload 4, 2) := by decide +kernel
theorem dL_step_114 : decode cL_step 114 = .ok (.iconst 5, 1) := by decide +kernel
theorem dL_step_115 : decode cL_step 115 = .ok (.iaload, 1) := by decide +kernel
theorem dL_step_116 : decode cL_step 116 = .ok (.ifCond .le 7, 3) := by decide +kernel
theorem dL_step_119 : decode cL_step 119 = .ok (.iconst 1, 1) := by decide +kernel
theorem dL_step_120 : decode cL_step 120 = .ok (.goto 4, 3) := by decide +kernel
theorem dL_step_123 : decode cL_step 123 = .ok (.iconst 0, 1) := by decide +kernel
theorem dL_step_124 : decode cL_step 124 = .ok (.iadd, 1) := by decide +kernel
theorem dL_step_125 : decode cL_step 125 = .ok (.iastore, 1) := by decide +kernel
theorem dL_step_126 : decode cL_step 126 = .ok (.iload 5, 2) := by decide +kernel
theorem dL_step_128 : decode cL_step 128 = .ok (.istore 9, 2) := by decide +kernel
theorem dL_step_130 : decode cL_step 130 = .ok (.iload 9, 2) := by decide +kernel
theorem dL_step_132 : decode cL_step 132 = .ok (.ifCond .lt 19, 3) := by decide +kernel
theorem dL_step_135 : decode cL_step 135 = .ok (.iload 9, 2) := by decide +kernel
theorem dL_step_137 : decode cL_step 137 = .ok (.aload_n 0, 1) := by decide +kernel
theorem dL_step_138 : decode cL_step 138 = .ok (.aload_n 1, 1) := by decide +kernel
theorem dL_step_139 : decode cL_step 139 = .ok (.aload_n 2, 1) := by decide +kernel
theorem dL_step_140 : decode cL_step 140 = .ok (.aload 4, 2) := by decide +kernel
theorem dL_step_142 : decode cL_step 142 = .ok (.invokestatic 28, 3) := by decide +kernel
theorem dL_step_145 : decode cL_step 145 = .ok (.iinc 9 (-1), 3) := by decide +kernel
theorem dL_step_148 : decode cL_step 148 = .ok (.goto (-18), 3) := by decide +kernel
theorem dL_step_151 : decode cL_step 151 = .ok (.iload 5, 2) := by decide +kernel
theorem dL_step_153 : decode cL_step 153 = .ok (.istore 9, 2) := by decide +kernel
theorem dL_step_155 : decode cL_step 155 = .ok (.iload 9, 2) := by decide +kernel
theorem dL_step_157 : decode cL_step 157 = .ok (.ifCond .le 18, 3) := by decide +kernel
theorem dL_step_160 : decode cL_step 160 = .ok (.iload 9, 2) := by decide +kernel
theorem dL_step_162 : decode cL_step 162 = .ok (.aload_n 0, 1) := by decide +kernel
theorem dL_step_163 : decode cL_step 163 = .ok (.aload_n 1, 1) := by decide +kernel
theorem dL_step_164 : decode cL_step 164 = .ok (.aload_n 2, 1) := by decide +kernel
theorem dL_step_165 : decode cL_step 165 = .ok (.aload_n 3, 1) := by decide +kernel
theorem dL_step_166 : decode cL_step 166 = .ok (.invokestatic 32, 3) := by decide +kernel
theorem dL_step_169 : decode cL_step 169 = .ok (.iinc 9 (-1), 3) := by decide +kernel
theorem dL_step_172 : decode cL_step 172 = .ok (.goto (-17), 3) := by decide +kernel
theorem dL_step_175 : decode cL_step 175 = .ok (.return_, 1) := by decide +kernel
theorem dL_refused_0 : decode cL_refused 0 = .ok (.iload_n 1, 1) := by decide +kernel
theorem dL_refused_1 : decode cL_refused 1 = .ok (.ifCond .ne 11, 3) := by decide +kernel
theorem dL_refused_4 : decode cL_refused 4 = .ok (.aload_n 0, 1) := by decide +kernel
theorem dL_refused_5 : decode cL_refused 5 = .ok (.iload_n 2, 1) := by decide +kernel
theorem dL_refused_6 : decode cL_refused 6 = .ok (.invokevirtual 35, 3) := by decide +kernel
theorem dL_refused_9 : decode cL_refused 9 = .ok (.goto 74, 3) := by decide +kernel
theorem dL_refused_12 : decode cL_refused 12 = .ok (.iload_n 1, 1) := by decide +kernel
theorem dL_refused_13 : decode cL_refused 13 = .ok (.iconst 1, 1) := by decide +kernel
theorem dL_refused_14 : decode cL_refused 14 = .ok (.if_icmp .ne 11, 3) := by decide +kernel
theorem dL_refused_17 : decode cL_refused 17 = .ok (.aload_n 0, 1) := by decide +kernel
theorem dL_refused_18 : decode cL_refused 18 = .ok (.iload_n 2, 1) := by decide +kernel
theorem dL_refused_19 : decode cL_refused 19 = .ok (.invokevirtual 41, 3) := by decide +kernel
theorem dL_refused_22 : decode cL_refused 22 = .ok (.goto 61, 3) := by decide +kernel
theorem dL_refused_25 : decode cL_refused 25 = .ok (.iload_n 1, 1) := by decide +kernel
theorem dL_refused_26 : decode cL_refused 26 = .ok (.iconst 2, 1) := by decide +kernel
theorem dL_refused_27 : decode cL_refused 27 = .ok (.if_icmp .ne 11, 3) := by decide +kernel
theorem dL_refused_30 : decode cL_refused 30 = .ok (.aload_n 0, 1) := by decide +kernel
theorem dL_refused_31 : decode cL_refused 31 = .ok (.iload_n 2, 1) := by decide +kernel
theorem dL_refused_32 : decode cL_refused 32 = .ok (.invokevirtual 44, 3) := by decide +kernel
theorem dL_refused_35 : decode cL_refused 35 = .ok (.goto 48, 3) := by decide +kernel
theorem dL_refused_38 : decode cL_refused 38 = .ok (.iload_n 1, 1) := by decide +kernel
theorem dL_refused_39 : decode cL_refused 39 = .ok (.iconst 3, 1) := by decide +kernel
theorem dL_refused_40 : decode cL_refused 40 = .ok (.if_icmp .ne 11, 3) := by decide +kernel
theorem dL_refused_43 : decode cL_refused 43 = .ok (.aload_n 0, 1) := by decide +kernel
theorem dL_refused_44 : decode cL_refused 44 = .ok (.iload_n 2, 1) := by decide +kernel
theorem dL_refused_45 : decode cL_refused 45 = .ok (.invokevirtual 47, 3) := by decide +kernel
theorem dL_refused_48 : decode cL_refused 48 = .ok (.goto 35, 3) := by decide +kernel
theorem dL_refused_51 : decode cL_refused 51 = .ok (.iload_n 1, 1) := by decide +kernel
theorem dL_refused_52 : decode cL_refused 52 = .ok (.iconst 4, 1) := by decide +kernel
theorem dL_refused_53 : decode cL_refused 53 = .ok (.if_icmp .ne 11, 3) := by decide +kernel
theorem dL_refused_56 : decode cL_refused 56 = .ok (.aload_n 0, 1) := by decide +kernel
theorem dL_refused_57 : decode cL_refused 57 = .ok (.iload_n 2, 1) := by decide +kernel
theorem dL_refused_58 : decode cL_refused 58 = .ok (.invokevirtual 50, 3) := by decide +kernel
theorem dL_refused_61 : decode cL_refused 61 = .ok (.goto 22, 3) := by decide +kernel
theorem dL_refused_64 : decode cL_refused 64 = .ok (.iload_n 1, 1) := by decide +kernel
theorem dL_refused_65 : decode cL_refused 65 = .ok (.iconst 5, 1) := by decide +kernel
theorem dL_refused_66 : decode cL_refused 66 = .ok (.if_icmp .ne 12, 3) := by decide +kernel
theorem dL_refused_69 : decode cL_refused 69 = .ok (.aload_n 0, 1) := by decide +kernel
theorem dL_refused_70 : decode cL_refused 70 = .ok (.iload_n 2, 1) := by decide +kernel
theorem dL_refused_71 : decode cL_refused 71 = .ok (.iload_n 3, 1) := by decide +kernel
theorem dL_refused_72 : decode cL_refused 72 = .ok (.invokevirtual 53, 3) := by decide +kernel
theorem dL_refused_75 : decode cL_refused 75 = .ok (.goto 8, 3) := by decide +kernel
theorem dL_refused_78 : decode cL_refused 78 = .ok (.aload_n 0, 1) := by decide +kernel
theorem dL_refused_79 : decode cL_refused 79 = .ok (.iload_n 2, 1) := by decide +kernel
theorem dL_refused_80 : decode cL_refused 80 = .ok (.invokevirtual 57, 3) := by decide +kernel
theorem dL_refused_83 : decode cL_refused 83 = .ok (.iconst 0, 1) := by decide +kernel
theorem dL_refused_84 : decode cL_refused 84 = .ok (.imul, 1) := by decide +kernel
theorem dL_refused_85 : decode cL_refused 85 = .ok (.ireturn, 1) := by decide +kernel
theorem dL_refused_86 : decode cL_refused 86 = .ok (.astore 4, 2) := by decide +kernel
theorem dL_refused_88 : decode cL_refused 88 = .ok (.iconst 1, 1) := by decide +kernel
theorem dL_refused_89 : decode cL_refused 89 = .ok (.ireturn, 1) := by decide +kernel
theorem dL_refused_90 : decode cL_refused 90 = .ok (.astore 4, 2) := by decide +kernel
theorem dL_refused_92 : decode cL_refused 92 = .ok (.iconst 2, 1) := by decide +kernel
theorem dL_refused_93 : decode cL_refused 93 = .ok (.ireturn, 1) := by decide +kernel
theorem dL_refused_94 : decode cL_refused 94 = .ok (.astore 4, 2) := by decide +kernel
theorem dL_refused_96 : decode cL_refused 96 = .ok (.iconst 3, 1) := by decide +kernel
theorem dL_refused_97 : decode cL_refused 97 = .ok (.ireturn, 1) := by decide +kernel
theorem dL_same_0 : decode cL_same 0 = .ok (.iconst 0, 1) := by decide +kernel
theorem dL_same_1 : decode cL_same 1 = .ok (.istore 6, 2) := by decide +kernel
theorem dL_same_3 : decode cL_same 3 = .ok (.iconst 0, 1) := by decide +kernel
theorem dL_same_4 : decode cL_same 4 = .ok (.istore 7, 2) := by decide +kernel
theorem dL_same_6 : decode cL_same 6 = .ok (.iload 7, 2) := by decide +kernel
theorem dL_same_8 : decode cL_same 8 = .ok (.aload 5, 2) := by decide +kernel
theorem dL_same_10 : decode cL_same 10 = .ok (.iconst 0, 1) := by decide +kernel
theorem dL_same_11 : decode cL_same 11 = .ok (.iaload, 1) := by decide +kernel
theorem dL_same_12 : decode cL_same 12 = .ok (.if_icmp .ge 441, 3) := by decide +kernel
theorem dL_same_15 : decode cL_same 15 = .ok (.bipush 15, 2) := by decide +kernel
theorem dL_same_17 : decode cL_same 17 = .ok (.iload 7, 2) := by decide +kernel
theorem dL_same_19 : decode cL_same 19 = .ok (.imul, 1) := by decide +kernel
theorem dL_same_20 : decode cL_same 20 = .ok (.istore 8, 2) := by decide +kernel
theorem dL_same_22 : decode cL_same 22 = .ok (.iconst 0, 1) := by decide +kernel
theorem dL_same_23 : decode cL_same 23 = .ok (.istore 9, 2) := by decide +kernel
theorem dL_same_25 : decode cL_same 25 = .ok (.iload 7, 2) := by decide +kernel
theorem dL_same_27 : decode cL_same 27 = .ok (.iconst 1, 1) := by decide +kernel
theorem dL_same_28 : decode cL_same 28 = .ok (.iadd, 1) := by decide +kernel
theorem dL_same_29 : decode cL_same 29 = .ok (.aload 5, 2) := by decide +kernel
theorem dL_same_31 : decode cL_same 31 = .ok (.iconst 0, 1) := by decide +kernel
theorem dL_same_32 : decode cL_same 32 = .ok (.iaload, 1) := by decide +kernel
theorem dL_same_33 : decode cL_same 33 = .ok (.if_icmp .ge 16, 3) := by decide +kernel
theorem dL_same_36 : decode cL_same 36 = .ok (.aload_n 1, 1) := by decide +kernel
theorem dL_same_37 : decode cL_same 37 = .ok (.iload 8, 2) := by decide +kernel
theorem dL_same_39 : decode cL_same 39 = .ok (.bipush 15, 2) := by decide +kernel
theorem dL_same_41 : decode cL_same 41 = .ok (.iadd, 1) := by decide +kernel
theorem dL_same_42 : decode cL_same 42 = .ok (.bipush 8, 2) := by decide +kernel
theorem dL_same_44 : decode cL_same 44 = .ok (.iadd, 1) := by decide +kernel
theorem dL_same_45 : decode cL_same 45 = .ok (.iaload, 1) := by decide +kernel
theorem dL_same_46 : decode cL_same 46 = .ok (.goto 4, 3) := by decide +kernel
theorem dL_same_49 : decode cL_same 49 = .ok (.iconst 0, 1) := by decide +kernel
theorem dL_same_50 : decode cL_same 50 = .ok (.istore 10, 2) := by decide +kernel
theorem dL_same_52 : decode cL_same 52 = .ok (.aload 5, 2) := by decide +kernel
theorem dL_same_54 : decode cL_same 54 = .ok (.iconst 2, 1) := by decide +kernel
theorem dL_same_55 : decode cL_same 55 = .ok (.iaload, 1) := by decide +kernel
theorem dL_same_56 : decode cL_same 56 = .ok (.aload_n 1, 1) := by decide +kernel
theorem dL_same_57 : decode cL_same 57 = .ok (.iload 8, 2) := by decide +kernel
theorem dL_same_59 : decode cL_same 59 = .ok (.iconst 3, 1) := by decide +kernel
theorem dL_same_60 : decode cL_same 60 = .ok (.iadd, 1) := by decide +kernel
theorem dL_same_61 : decode cL_same 61 = .ok (.iaload, 1) := by decide +kernel
theorem dL_same_62 : decode cL_same 62 = .ok (.aload_n 1, 1) := by decide +kernel
theorem dL_same_63 : decode cL_same 63 = .ok (.iload 8, 2) := by decide +kernel
theorem dL_same_65 : decode cL_same 65 = .ok (.iconst 2, 1) := by decide +kernel
theorem dL_same_66 : decode cL_same 66 = .ok (.iadd, 1) := by decide +kernel
theorem dL_same_67 : decode cL_same 67 = .ok (.iaload, 1) := by decide +kernel
theorem dL_same_68 : decode cL_same 68 = .ok (.imul, 1) := by decide +kernel
theorem dL_same_69 : decode cL_same 69 = .ok (.iload 10, 2) := by decide +kernel
theorem dL_same_71 : decode cL_same 71 = .ok (.iadd, 1) := by decide +kernel
theorem dL_same_72 : decode cL_same 72 = .ok (.imul, 1) := by decide +kernel
theorem dL_same_73 : decode cL_same 73 = .ok (.bipush 120, 2) := by decide +kernel
theorem dL_same_75 : decode cL_same 75 = .ok (.imul, 1) := by decide +kernel
theorem dL_same_76 : decode cL_same 76 = .ok (.istore 11, 2) := by decide +kernel
theorem dL_same_78 : decode cL_same 78 = .ok (.iload 11, 2) := by decide +kernel
theorem dL_same_80 : decode cL_same 80 = .ok (.bipush 100, 2) := by decide +kernel
theorem dL_same_82 : decode cL_same 82 = .ok (.aload_n 1, 1) := by decide +kernel
theorem dL_same_83 : decode cL_same 83 = .ok (.iload 8, 2) := by decide +kernel
theorem dL_same_85 : decode cL_same 85 = .ok (.iconst 1, 1) := by decide +kernel
theorem dL_same_86 : decode cL_same 86 = .ok (.iadd, 1) := by decide +kernel
theorem dL_same_87 : decode cL_same 87 = .ok (.iaload, 1) := by decide +kernel
theorem dL_same_88 : decode cL_same 88 = .ok (.imul, 1) := by decide +kernel
theorem dL_same_89 : decode cL_same 89 = .ok (.idiv, 1) := by decide +kernel
theorem dL_same_90 : decode cL_same 90 = .ok (.iload 11, 2) := by decide +kernel
theorem dL_same_92 : decode cL_same 92 = .ok (.bipush 100, 2) := by decide +kernel
theorem dL_same_94 : decode cL_same 94 = .ok (.aload_n 1, 1) := by decide +kernel
theorem dL_same_95 : decode cL_same 95 = .ok (.iload 8, 2) := by decide +kernel
theorem dL_same_97 : decode cL_same 97 = .ok (.iconst 1, 1) := by decide +kernel
theorem dL_same_98 : decode cL_same 98 = .ok (.iadd, 1) := by decide +kernel
theorem dL_same_99 : decode cL_same 99 = .ok (.iaload, 1) := by decide +kernel
theorem dL_same_100 : decode cL_same 100 = .ok (.imul, 1) := by decide +kernel
theorem dL_same_101 : decode cL_same 101 = .ok (.irem, 1) := by decide +kernel
theorem dL_same_102 : decode cL_same 102 = .ok (.ifCond .le 7, 3) := by decide +kernel
theorem dL_same_105 : decode cL_same 105 = .ok (.iconst 1, 1) := by decide +kernel
theorem dL_same_106 : decode cL_same 106 = .ok (.goto 4, 3) := by decide +kernel
theorem dL_same_109 : decode cL_same 109 = .ok (.iconst 0, 1) := by decide +kernel
theorem dL_same_110 : decode cL_same 110 = .ok (.iadd, 1) := by decide +kernel
theorem dL_same_111 : decode cL_same 111 = .ok (.istore 12, 2) := by decide +kernel
theorem dL_same_113 : decode cL_same 113 = .ok (.iconst 0, 1) := by decide +kernel
theorem dL_same_114 : decode cL_same 114 = .ok (.istore 13, 2) := by decide +kernel
theorem dL_same_116 : decode cL_same 116 = .ok (.iload 13, 2) := by decide +kernel
theorem dL_same_118 : decode cL_same 118 = .ok (.aload_n 1, 1) := by decide +kernel
theorem dL_same_119 : decode cL_same 119 = .ok (.iload 8, 2) := by decide +kernel
theorem dL_same_121 : decode cL_same 121 = .ok (.bipush 11, 2) := by decide +kernel
theorem dL_same_123 : decode cL_same 123 = .ok (.iadd, 1) := by decide +kernel
theorem dL_same_124 : decode cL_same 124 = .ok (.iaload, 1) := by decide +kernel
theorem dL_same_125 : decode cL_same 125 = .ok (.if_icmp .ge 27, 3) := by decide +kernel
theorem dL_same_128 : decode cL_same 128 = .ok (.iload 9, 2) := by decide +kernel
theorem dL_same_130 : decode cL_same 130 = .ok (.aload_n 2, 1) := by decide +kernel
theorem dL_same_131 : decode cL_same 131 = .ok (.bipush 20, 2) := by decide +kernel
theorem dL_same_133 : decode cL_same 133 = .ok (.iload 7, 2) := by decide +kernel
theorem dL_same_135 : decode cL_same 135 = .ok (.imul, 1) := by decide +kernel
theorem dL_same_136 : decode cL_same 136 = .ok (.iload 13, 2) := by decide +kernel
theorem dL_same_138 : decode cL_same 138 = .ok (.iadd, 1) := by decide +kernel
theorem dL_same_139 : decode cL_same 139 = .ok (.iaload, 1) := by decide +kernel
theorem dL_same_140 : decode cL_same 140 = .ok (.bipush 100, 2) := by decide +kernel
theorem dL_same_142 : decode cL_same 142 = .ok (.idiv, 1) := by decide +kernel
theorem dL_same_143 : decode cL_same 143 = .ok (.iadd, 1) := by decide +kernel
theorem dL_same_144 : decode cL_same 144 = .ok (.istore 9, 2) := by decide +kernel
theorem dL_same_146 : decode cL_same 146 = .ok (.iinc 13 1, 3) := by decide +kernel
theorem dL_same_149 : decode cL_same 149 = .ok (.goto (-33), 3) := by decide +kernel
theorem dL_same_152 : decode cL_same 152 = .ok (.aload_n 0, 1) := by decide +kernel
theorem dL_same_153 : decode cL_same 153 = .ok (.iload 7, 2) := by decide +kernel
theorem dL_same_155 : decode cL_same 155 = .ok (.invokevirtual 57, 3) := by decide +kernel
theorem dL_same_158 : decode cL_same 158 = .ok (.aload_n 1, 1) := by decide +kernel
theorem dL_same_159 : decode cL_same 159 = .ok (.iload 8, 2) := by decide +kernel
theorem dL_same_161 : decode cL_same 161 = .ok (.iconst 4, 1) := by decide +kernel
theorem dL_same_162 : decode cL_same 162 = .ok (.iadd, 1) := by decide +kernel
theorem dL_same_163 : decode cL_same 163 = .ok (.iaload, 1) := by decide +kernel
theorem dL_same_164 : decode cL_same 164 = .ok (.if_icmp .ne 93, 3) := by decide +kernel
theorem dL_same_167 : decode cL_same 167 = .ok (.aload_n 0, 1) := by decide +kernel
theorem dL_same_168 : decode cL_same 168 = .ok (.iload 7, 2) := by decide +kernel
theorem dL_same_170 : decode cL_same 170 = .ok (.invokevirtual 66, 3) := by decide +kernel
theorem dL_same_173 : decode cL_same 173 = .ok (.iload 9, 2) := by decide +kernel
theorem dL_same_175 : decode cL_same 175 = .ok (.if_icmp .ne 82, 3) := by decide +kernel
theorem dL_same_178 : decode cL_same 178 = .ok (.aload_n 0, 1) := by decide +kernel
theorem dL_same_179 : decode cL_same 179 = .ok (.iload 7, 2) := by decide +kernel
theorem dL_same_181 : decode cL_same 181 = .ok (.invokevirtual 69, 3) := by decide +kernel
theorem dL_same_184 : decode cL_same 184 = .ok (.aload_n 1, 1) := by decide +kernel
theorem dL_same_185 : decode cL_same 185 = .ok (.iload 8, 2) := by decide +kernel
theorem dL_same_187 : decode cL_same 187 = .ok (.iconst 5, 1) := by decide +kernel
theorem dL_same_188 : decode cL_same 188 = .ok (.iadd, 1) := by decide +kernel
theorem dL_same_189 : decode cL_same 189 = .ok (.iaload, 1) := by decide +kernel
theorem dL_same_190 : decode cL_same 190 = .ok (.if_icmp .ne 67, 3) := by decide +kernel
theorem dL_same_193 : decode cL_same 193 = .ok (.aload_n 0, 1) := by decide +kernel
theorem dL_same_194 : decode cL_same 194 = .ok (.iload 7, 2) := by decide +kernel
theorem dL_same_196 : decode cL_same 196 = .ok (.invokevirtual 72, 3) := by decide +kernel
theorem dL_same_199 : decode cL_same 199 = .ok (.aload_n 1, 1) := by decide +kernel
theorem dL_same_200 : decode cL_same 200 = .ok (.iload 8, 2) := by decide +kernel
theorem dL_same_202 : decode cL_same 202 = .ok (.bipush 6, 2) := by decide +kernel
theorem dL_same_204 : decode cL_same 204 = .ok (.iadd, 1) := by decide +kernel
theorem dL_same_205 : decode cL_same 205 = .ok (.iaload, 1) := by decide +kernel
theorem dL_same_206 : decode cL_same 206 = .ok (.if_icmp .ne 51, 3) := by decide +kernel
theorem dL_same_209 : decode cL_same 209 = .ok (.aload_n 0, 1) := by decide +kernel
theorem dL_same_210 : decode cL_same 210 = .ok (.iload 7, 2) := by decide +kernel
theorem dL_same_212 : decode cL_same 212 = .ok (.invokevirtual 75, 3) := by decide +kernel
theorem dL_same_215 : decode cL_same 215 = .ok (.aload_n 1, 1) := by decide +kernel
theorem dL_same_216 : decode cL_same 216 = .ok (.iload 8, 2) := by decide +kernel
theorem dL_same_218 : decode cL_same 218 = .ok (.bipush 7, 2) := by decide +kernel
theorem dL_same_220 : decode cL_same 220 = .ok (.iadd, 1) := by decide +kernel
theorem dL_same_221 : decode cL_same 221 = .ok (.iaload, 1) := by decide +kernel
theorem dL_same_222 : decode cL_same 222 = .ok (.if_icmp .ne 35, 3) := by decide +kernel
theorem dL_same_225 : decode cL_same 225 = .ok (.aload_n 0, 1) := by decide +kernel
theorem dL_same_226 : decode cL_same 226 = .ok (.iload 7, 2) := by decide +kernel
theorem dL_same_228 : decode cL_same 228 = .ok (.invokevirtual 78, 3) := by decide +kernel
theorem dL_same_231 : decode cL_same 231 = .ok (.aload_n 1, 1) := by decide +kernel
theorem dL_same_232 : decode cL_same 232 = .ok (.iload 8, 2) := by decide +kernel
theorem dL_same_234 : decode cL_same 234 = .ok (.bipush 10, 2) := by decide +kernel
theorem dL_same_236 : decode cL_same 236 = .ok (.iadd, 1) := by decide +kernel
theorem dL_same_237 : decode cL_same 237 = .ok (.iaload, 1) := by decide +kernel
theorem dL_same_238 : decode cL_same 238 = .ok (.if_icmp .ne 19, 3) := by decide +kernel
theorem dL_same_241 : decode cL_same 241 = .ok (.aload_n 0, 1) := by decide +kernel
theorem dL_same_242 : decode cL_same 242 = .ok (.iload 7, 2) := by decide +kernel
theorem dL_same_244 : decode cL_same 244 = .ok (.invokevirtual 81, 3) := by decide +kernel
theorem dL_same_247 : decode cL_same 247 = .ok (.aload_n 1, 1) := by decide +kernel
theorem dL_same_248 : decode cL_same 248 = .ok (.iload 8, 2) := by decide +kernel
theorem dL_same_250 : decode cL_same 250 = .ok (.bipush 13, 2) := by decide +kernel
theorem dL_same_252 : decode cL_same 252 = .ok (.iadd, 1) := by decide +kernel
theorem dL_same_253 : decode cL_same 253 = .ok (.iaload, 1) := by decide +kernel
theorem dL_same_254 : decode cL_same 254 = .ok (.if_icmp .eq 5, 3) := by decide +kernel
theorem dL_same_257 : decode cL_same 257 = .ok (.iconst 0, 1) := by decide +kernel
theorem dL_same_258 : decode cL_same 258 = .ok (.ireturn, 1) := by decide +kernel
theorem dL_same_259 : decode cL_same 259 = .ok (.aload_n 0, 1) := by decide +kernel
theorem dL_same_260 : decode cL_same 260 = .ok (.iload 7, 2) := by decide +kernel
theorem dL_same_262 : decode cL_same 262 = .ok (.invokevirtual 84, 3) := by decide +kernel
theorem dL_same_265 : decode cL_same 265 = .ok (.aload_n 2, 1) := by decide +kernel
theorem dL_same_266 : decode cL_same 266 = .ok (.iload 7, 2) := by decide +kernel
theorem dL_same_268 : decode cL_same 268 = .ok (.aload_n 1, 1) := by decide +kernel
theorem dL_same_269 : decode cL_same 269 = .ok (.iload 8, 2) := by decide +kernel
theorem dL_same_271 : decode cL_same 271 = .ok (.bipush 11, 2) := by decide +kernel
theorem dL_same_273 : decode cL_same 273 = .ok (.iadd, 1) := by decide +kernel
theorem dL_same_274 : decode cL_same 274 = .ok (.iaload, 1) := by decide +kernel
theorem dL_same_275 : decode cL_same 275 = .ok (.invokestatic 20, 3) := by decide +kernel
theorem dL_same_278 : decode cL_same 278 = .ok (.if_icmp .ne 81, 3) := by decide +kernel
theorem dL_same_281 : decode cL_same 281 = .ok (.aload_n 0, 1) := by decide +kernel
theorem dL_same_282 : decode cL_same 282 = .ok (.iload 7, 2) := by decide +kernel
theorem dL_same_284 : decode cL_same 284 = .ok (.invokevirtual 87, 3) := by decide +kernel
theorem dL_same_287 : decode cL_same 287 = .ok (.aload_n 3, 1) := by decide +kernel
theorem dL_same_288 : decode cL_same 288 = .ok (.iload 7, 2) := by decide +kernel
theorem dL_same_290 : decode cL_same 290 = .ok (.aload_n 1, 1) := by decide +kernel
theorem dL_same_291 : decode cL_same 291 = .ok (.iload 8, 2) := by decide +kernel
theorem dL_same_293 : decode cL_same 293 = .ok (.bipush 12, 2) := by decide +kernel
theorem dL_same_295 : decode cL_same 295 = .ok (.iadd, 1) := by decide +kernel
theorem dL_same_296 : decode cL_same 296 = .ok (.iaload, 1) := by decide +kernel
theorem dL_same_297 : decode cL_same 297 = .ok (.invokestatic 20, 3) := by decide +kernel
theorem dL_same_300 : decode cL_same 300 = .ok (.if_icmp .ne 59, 3) := by decide +kernel
theorem dL_same_303 : decode cL_same 303 = .ok (.aload_n 0, 1) := by decide +kernel
theorem dL_same_304 : decode cL_same 304 = .ok (.iload 7, 2) := by decide +kernel
theorem dL_same_306 : decode cL_same 306 = .ok (.invokevirtual 90, 3) := by decide +kernel
theorem dL_same_309 : decode cL_same 309 = .ok (.aload_n 1, 1) := by decide +kernel
theorem dL_same_310 : decode cL_same 310 = .ok (.iload 8, 2) := by decide +kernel
theorem dL_same_312 : decode cL_same 312 = .ok (.bipush 11, 2) := by decide +kernel
theorem dL_same_314 : decode cL_same 314 = .ok (.iadd, 1) := by decide +kernel
theorem dL_same_315 : decode cL_same 315 = .ok (.iaload, 1) := by decide +kernel
theorem dL_same_316 : decode cL_same 316 = .ok (.ifCond .ne 7, 3) := by decide +kernel
theorem dL_same_319 : decode cL_same 319 = .ok (.iconst 0, 1) := by decide +kernel
theorem dL_same_320 : decode cL_same 320 = .ok (.goto 13, 3) := by decide +kernel
theorem dL_same_323 : decode cL_same 323 = .ok (.aload_n 2, 1) := by decide +kernel
theorem dL_same_324 : decode cL_same 324 = .ok (.bipush 20, 2) := by decide +kernel
theorem dL_same_326 : decode cL_same 326 = .ok (.iload 7, 2) := by decide +kernel
theorem dL_same_328 : decode cL_same 328 = .ok (.imul, 1) := by decide +kernel
theorem dL_same_329 : decode cL_same 329 = .ok (.iaload, 1) := by decide +kernel
theorem dL_same_330 : decode cL_same 330 = .ok (.bipush 100, 2) := by decide +kernel
theorem dL_same_332 : decode cL_same 332 = .ok (.irem, 1) := by decide +kernel
theorem dL_same_333 : decode cL_same 333 = .ok (.if_icmp .ne 26, 3) := by decide +kernel
theorem dL_same_336 : decode cL_same 336 = .ok (.aload_n 0, 1) := by decide +kernel
theorem dL_same_337 : decode cL_same 337 = .ok (.iload 7, 2) := by decide +kernel
theorem dL_same_339 : decode cL_same 339 = .ok (.bipush 20, 2) := by decide +kernel
theorem dL_same_341 : decode cL_same 341 = .ok (.invokevirtual 93, 3) := by decide +kernel
theorem dL_same_344 : decode cL_same 344 = .ok (.iload 12, 2) := by decide +kernel
theorem dL_same_346 : decode cL_same 346 = .ok (.iconst 1, 1) := by decide +kernel
theorem dL_same_347 : decode cL_same 347 = .ok (.if_icmp .ge 7, 3) := by decide +kernel
theorem dL_same_350 : decode cL_same 350 = .ok (.iconst 1, 1) := by decide +kernel
theorem dL_same_351 : decode cL_same 351 = .ok (.goto 5, 3) := by decide +kernel
theorem dL_same_354 : decode cL_same 354 = .ok (.iload 12, 2) := by decide +kernel
theorem dL_same_356 : decode cL_same 356 = .ok (.if_icmp .eq 5, 3) := by decide +kernel
theorem dL_same_359 : decode cL_same 359 = .ok (.iconst 0, 1) := by decide +kernel
theorem dL_same_360 : decode cL_same 360 = .ok (.ireturn, 1) := by decide +kernel
theorem dL_same_361 : decode cL_same 361 = .ok (.aload_n 1, 1) := by decide +kernel
theorem dL_same_362 : decode cL_same 362 = .ok (.iload 8, 2) := by decide +kernel
theorem dL_same_364 : decode cL_same 364 = .ok (.iaload, 1) := by decide +kernel
theorem dL_same_365 : decode cL_same 365 = .ok (.aload_n 1, 1) := by decide +kernel
theorem dL_same_366 : decode cL_same 366 = .ok (.iload 8, 2) := by decide +kernel
theorem dL_same_368 : decode cL_same 368 = .ok (.iconst 4, 1) := by decide +kernel
theorem dL_same_369 : decode cL_same 369 = .ok (.iadd, 1) := by decide +kernel
theorem dL_same_370 : decode cL_same 370 = .ok (.iaload, 1) := by decide +kernel
theorem dL_same_371 : decode cL_same 371 = .ok (.iload 9, 2) := by decide +kernel
theorem dL_same_373 : decode cL_same 373 = .ok (.iadd, 1) := by decide +kernel
theorem dL_same_374 : decode cL_same 374 = .ok (.aload_n 1, 1) := by decide +kernel
theorem dL_same_375 : decode cL_same 375 = .ok (.iload 8, 2) := by decide +kernel
theorem dL_same_377 : decode cL_same 377 = .ok (.iconst 5, 1) := by decide +kernel
theorem dL_same_378 : decode cL_same 378 = .ok (.iadd, 1) := by decide +kernel
theorem dL_same_379 : decode cL_same 379 = .ok (.iaload, 1) := by decide +kernel
theorem dL_same_380 : decode cL_same 380 = .ok (.ifCond .le 7, 3) := by decide +kernel
theorem dL_same_383 : decode cL_same 383 = .ok (.iconst 1, 1) := by decide +kernel
theorem dL_same_384 : decode cL_same 384 = .ok (.goto 4, 3) := by decide +kernel
theorem dL_same_387 : decode cL_same 387 = .ok (.iconst 0, 1) := by decide +kernel
theorem dL_same_388 : decode cL_same 388 = .ok (.iadd, 1) := by decide +kernel
theorem dL_same_389 : decode cL_same 389 = .ok (.if_icmp .eq 5, 3) := by decide +kernel
theorem dL_same_392 : decode cL_same 392 = .ok (.iconst 0, 1) := by decide +kernel
theorem dL_same_393 : decode cL_same 393 = .ok (.ireturn, 1) := by decide +kernel
theorem dL_same_394 : decode cL_same 394 = .ok (.iload 6, 2) := by decide +kernel
theorem dL_same_396 : decode cL_same 396 = .ok (.aload_n 0, 1) := by decide +kernel
theorem dL_same_397 : decode cL_same 397 = .ok (.iload 7, 2) := by decide +kernel
theorem dL_same_399 : decode cL_same 399 = .ok (.invokevirtual 84, 3) := by decide +kernel
theorem dL_same_402 : decode cL_same 402 = .ok (.aload_n 0, 1) := by decide +kernel
theorem dL_same_403 : decode cL_same 403 = .ok (.iload 7, 2) := by decide +kernel
theorem dL_same_405 : decode cL_same 405 = .ok (.invokevirtual 87, 3) := by decide +kernel
theorem dL_same_408 : decode cL_same 408 = .ok (.iadd, 1) := by decide +kernel
theorem dL_same_409 : decode cL_same 409 = .ok (.aload 4, 2) := by decide +kernel
theorem dL_same_411 : decode cL_same 411 = .ok (.iload 7, 2) := by decide +kernel
theorem dL_same_413 : decode cL_same 413 = .ok (.aload_n 1, 1) := by decide +kernel
theorem dL_same_414 : decode cL_same 414 = .ok (.iload 8, 2) := by decide +kernel
theorem dL_same_416 : decode cL_same 416 = .ok (.bipush 13, 2) := by decide +kernel
theorem dL_same_418 : decode cL_same 418 = .ok (.iadd, 1) := by decide +kernel
theorem dL_same_419 : decode cL_same 419 = .ok (.iaload, 1) := by decide +kernel
theorem dL_same_420 : decode cL_same 420 = .ok (.invokestatic 20, 3) := by decide +kernel
theorem dL_same_423 : decode cL_same 423 = .ok (.iadd, 1) := by decide +kernel
theorem dL_same_424 : decode cL_same 424 = .ok (.aload_n 1, 1) := by decide +kernel
theorem dL_same_425 : decode cL_same 425 = .ok (.iload 8, 2) := by decide +kernel
theorem dL_same_427 : decode cL_same 427 = .ok (.iconst 5, 1) := by decide +kernel
theorem dL_same_428 : decode cL_same 428 = .ok (.iadd, 1) := by decide +kernel
theorem dL_same_429 : decode cL_same 429 = .ok (.iaload, 1) := by decide +kernel
theorem dL_same_430 : decode cL_same 430 = .ok (.ifCond .le 12, 3) := by decide +kernel
theorem dL_same_433 : decode cL_same 433 = .ok (.aload_n 1, 1) := by decide +kernel
theorem dL_same_434 : decode cL_same 434 = .ok (.iload 8, 2) := by decide +kernel
theorem dL_same_436 : decode cL_same 436 = .ok (.iconst 1, 1) := by decide +kernel
theorem dL_same_437 : decode cL_same 437 = .ok (.iadd, 1) := by decide +kernel
theorem dL_same_438 : decode cL_same 438 = .ok (.iaload, 1) := by decide +kernel
theorem dL_same_439 : decode cL_same 439 = .ok (.goto 4, 3) := by decide +kernel
theorem dL_same_442 : decode cL_same 442 = .ok (.iconst 0, 1) := by decide +kernel
theorem dL_same_443 : decode cL_same 443 = .ok (.iadd, 1) := by decide +kernel
theorem dL_same_444 : decode cL_same 444 = .ok (.iadd, 1) := by decide +kernel
theorem dL_same_445 : decode cL_same 445 = .ok (.istore 6, 2) := by decide +kernel
theorem dL_same_447 : decode cL_same 447 = .ok (.iinc 7 1, 3) := by decide +kernel
theorem dL_same_450 : decode cL_same 450 = .ok (.goto (-444), 3) := by decide +kernel
theorem dL_same_453 : decode cL_same 453 = .ok (.aload_n 0, 1) := by decide +kernel
theorem dL_same_454 : decode cL_same 454 = .ok (.invokevirtual 96, 3) := by decide +kernel
theorem dL_same_457 : decode cL_same 457 = .ok (.aload 5, 2) := by decide +kernel
theorem dL_same_459 : decode cL_same 459 = .ok (.iconst 0, 1) := by decide +kernel
theorem dL_same_460 : decode cL_same 460 = .ok (.iaload, 1) := by decide +kernel
theorem dL_same_461 : decode cL_same 461 = .ok (.if_icmp .ne 93, 3) := by decide +kernel
theorem dL_same_464 : decode cL_same 464 = .ok (.aload_n 0, 1) := by decide +kernel
theorem dL_same_465 : decode cL_same 465 = .ok (.invokevirtual 100, 3) := by decide +kernel
theorem dL_same_468 : decode cL_same 468 = .ok (.aload 5, 2) := by decide +kernel
theorem dL_same_470 : decode cL_same 470 = .ok (.iconst 3, 1) := by decide +kernel
theorem dL_same_471 : decode cL_same 471 = .ok (.iaload, 1) := by decide +kernel
theorem dL_same_472 : decode cL_same 472 = .ok (.if_icmp .ne 82, 3) := by decide +kernel
theorem dL_same_475 : decode cL_same 475 = .ok (.aload_n 0, 1) := by decide +kernel
theorem dL_same_476 : decode cL_same 476 = .ok (.invokevirtual 103, 3) := by decide +kernel
theorem dL_same_479 : decode cL_same 479 = .ok (.aload 5, 2) := by decide +kernel
theorem dL_same_481 : decode cL_same 481 = .ok (.iconst 4, 1) := by decide +kernel
theorem dL_same_482 : decode cL_same 482 = .ok (.iaload, 1) := by decide +kernel
theorem dL_same_483 : decode cL_same 483 = .ok (.if_icmp .ne 71, 3) := by decide +kernel
theorem dL_same_486 : decode cL_same 486 = .ok (.aload_n 0, 1) := by decide +kernel
theorem dL_same_487 : decode cL_same 487 = .ok (.invokevirtual 106, 3) := by decide +kernel
theorem dL_same_490 : decode cL_same 490 = .ok (.aload 5, 2) := by decide +kernel
theorem dL_same_492 : decode cL_same 492 = .ok (.iconst 5, 1) := by decide +kernel
theorem dL_same_493 : decode cL_same 493 = .ok (.iaload, 1) := by decide +kernel
theorem dL_same_494 : decode cL_same 494 = .ok (.if_icmp .ne 60, 3) := by decide +kernel
theorem dL_same_497 : decode cL_same 497 = .ok (.aload_n 0, 1) := by decide +kernel
theorem dL_same_498 : decode cL_same 498 = .ok (.invokevirtual 109, 3) := by decide +kernel
theorem dL_same_501 : decode cL_same 501 = .ok (.aload 5, 2) := by decide +kernel
theorem dL_same_503 : decode cL_same 503 = .ok (.bipush 6, 2) := by decide +kernel
theorem dL_same_505 : decode cL_same 505 = .ok (.iaload, 1) := by decide +kernel
theorem dL_same_506 : decode cL_same 506 = .ok (.if_icmp .ne 48, 3) := by decide +kernel
theorem dL_same_509 : decode cL_same 509 = .ok (.aload_n 0, 1) := by decide +kernel
theorem dL_same_510 : decode cL_same 510 = .ok (.invokevirtual 112, 3) := by decide +kernel
theorem dL_same_513 : decode cL_same 513 = .ok (.iload 6, 2) := by decide +kernel
theorem dL_same_515 : decode cL_same 515 = .ok (.if_icmp .ne 39, 3) := by decide +kernel
theorem dL_same_518 : decode cL_same 518 = .ok (.aload_n 0, 1) := by decide +kernel
theorem dL_same_519 : decode cL_same 519 = .ok (.invokevirtual 115, 3) := by decide +kernel
theorem dL_same_522 : decode cL_same 522 = .ok (.aload 5, 2) := by decide +kernel
theorem dL_same_524 : decode cL_same 524 = .ok (.bipush 7, 2) := by decide +kernel
theorem dL_same_526 : decode cL_same 526 = .ok (.iaload, 1) := by decide +kernel
theorem dL_same_527 : decode cL_same 527 = .ok (.aload 5, 2) := by decide +kernel
theorem dL_same_529 : decode cL_same 529 = .ok (.iconst 4, 1) := by decide +kernel
theorem dL_same_530 : decode cL_same 530 = .ok (.iaload, 1) := by decide +kernel
theorem dL_same_531 : decode cL_same 531 = .ok (.isub, 1) := by decide +kernel
theorem dL_same_532 : decode cL_same 532 = .ok (.if_icmp .ne 22, 3) := by decide +kernel
theorem dL_same_535 : decode cL_same 535 = .ok (.aload_n 0, 1) := by decide +kernel
theorem dL_same_536 : decode cL_same 536 = .ok (.bipush 6, 2) := by decide +kernel
theorem dL_same_538 : decode cL_same 538 = .ok (.aload 5, 2) := by decide +kernel
theorem dL_same_540 : decode cL_same 540 = .ok (.iconst 0, 1) := by decide +kernel
theorem dL_same_541 : decode cL_same 541 = .ok (.iaload, 1) := by decide +kernel
theorem dL_same_542 : decode cL_same 542 = .ok (.iconst 0, 1) := by decide +kernel
theorem dL_same_543 : decode cL_same 543 = .ok (.invokestatic 118, 3) := by decide +kernel
theorem dL_same_546 : decode cL_same 546 = .ok (.iconst 1, 1) := by decide +kernel
theorem dL_same_547 : decode cL_same 547 = .ok (.if_icmp .ne 7, 3) := by decide +kernel
theorem dL_same_550 : decode cL_same 550 = .ok (.iconst 1, 1) := by decide +kernel
theorem dL_same_551 : decode cL_same 551 = .ok (.goto 4, 3) := by decide +kernel
theorem dL_same_554 : decode cL_same 554 = .ok (.iconst 0, 1) := by decide +kernel
theorem dL_same_555 : decode cL_same 555 = .ok (.ireturn, 1) := by decide +kernel
