theorem dX0_init_0 : decode cX0_init 0 = .ok (.aload_n 0, 1) := by decide +kernel
theorem dX0_init_1 : decode cX0_init 1 = .ok (.invokespecial 3, 3) := by decide +kernel
theorem dX0_init_4 : decode cX0_init 4 = .ok (.aload_n 0, 1) := by decide +kernel
theorem dX0_init_5 : decode cX0_init 5 = .ok (.iconst 5, 1) := by decide +kernel
theorem dX0_init_6 : decode cX0_init 6 = .ok (.newarray .int, 2) := by decide +kernel
theorem dX0_init_8 : decode cX0_init 8 = .ok (.putfield 9, 3) := by decide +kernel
theorem dX0_init_11 : decode cX0_init 11 = .ok (.aload_n 0, 1) := by decide +kernel
theorem dX0_init_12 : decode cX0_init 12 = .ok (.iconst 5, 1) := by decide +kernel
theorem dX0_init_13 : decode cX0_init 13 = .ok (.newarray .int, 2) := by decide +kernel
theorem dX0_init_15 : decode cX0_init 15 = .ok (.putfield 15, 3) := by decide +kernel
theorem dX0_init_18 : decode cX0_init 18 = .ok (.aload_n 0, 1) := by decide +kernel
theorem dX0_init_19 : decode cX0_init 19 = .ok (.iconst 0, 1) := by decide +kernel
theorem dX0_init_20 : decode cX0_init 20 = .ok (.putfield 18, 3) := by decide +kernel
theorem dX0_init_23 : decode cX0_init 23 = .ok (.return_, 1) := by decide +kernel
theorem dX0_allUnits_0 : decode cX0_allUnits 0 = .ok (.iconst 0, 1) := by decide +kernel
theorem dX0_allUnits_1 : decode cX0_allUnits 1 = .ok (.istore_n 1, 1) := by decide +kernel
theorem dX0_allUnits_2 : decode cX0_allUnits 2 = .ok (.iconst 0, 1) := by decide +kernel
theorem dX0_allUnits_3 : decode cX0_allUnits 3 = .ok (.istore_n 2, 1) := by decide +kernel
theorem dX0_allUnits_4 : decode cX0_allUnits 4 = .ok (.iload_n 2, 1) := by decide +kernel
theorem dX0_allUnits_5 : decode cX0_allUnits 5 = .ok (.aload_n 0, 1) := by decide +kernel
theorem dX0_allUnits_6 : decode cX0_allUnits 6 = .ok (.getfield 18, 3) := by decide +kernel
theorem dX0_allUnits_9 : decode cX0_allUnits 9 = .ok (.if_icmp .ge 23, 3) := by decide +kernel
theorem dX0_allUnits_12 : decode cX0_allUnits 12 = .ok (.iload_n 2, 1) := by decide +kernel
theorem dX0_allUnits_13 : decode cX0_allUnits 13 = .ok (.iconst 5, 1) := by decide +kernel
theorem dX0_allUnits_14 : decode cX0_allUnits 14 = .ok (.if_icmp .ge 18, 3) := by decide +kernel
theorem dX0_allUnits_17 : decode cX0_allUnits 17 = .ok (.iload_n 1, 1) := by decide +kernel
theorem dX0_allUnits_18 : decode cX0_allUnits 18 = .ok (.aload_n 0, 1) := by decide +kernel
theorem dX0_allUnits_19 : decode cX0_allUnits 19 = .ok (.getfield 9, 3) := by decide +kernel
theorem dX0_allUnits_22 : decode cX0_allUnits 22 = .ok (.iload_n 2, 1) := by decide +kernel
theorem dX0_allUnits_23 : decode cX0_allUnits 23 = .ok (.iaload, 1) := by decide +kernel
theorem dX0_allUnits_24 : decode cX0_allUnits 24 = .ok (.iadd, 1) := by decide +kernel
theorem dX0_allUnits_25 : decode cX0_allUnits 25 = .ok (.istore_n 1, 1) := by decide +kernel
theorem dX0_allUnits_26 : decode cX0_allUnits 26 = .ok (.iinc 2 1, 3) := by decide +kernel
theorem dX0_allUnits_29 : decode cX0_allUnits 29 = .ok (.goto (-25), 3) := by decide +kernel
theorem dX0_allUnits_32 : decode cX0_allUnits 32 = .ok (.iload_n 1, 1) := by decide +kernel
theorem dX0_allUnits_33 : decode cX0_allUnits 33 = .ok (.ireturn, 1) := by decide +kernel
theorem dX0_add_0 : decode cX0_add 0 = .ok (.aload_n 0, 1) := by decide +kernel
theorem dX0_add_1 : decode cX0_add 1 = .ok (.getfield 18, 3) := by decide +kernel
theorem dX0_add_4 : decode cX0_add 4 = .ok (.ifCond .lt 41, 3) := by decide +kernel
theorem dX0_add_7 : decode cX0_add 7 = .ok (.aload_n 0, 1) := by decide +kernel
theorem dX0_add_8 : decode cX0_add 8 = .ok (.getfield 18, 3) := by decide +kernel
theorem dX0_add_11 : decode cX0_add 11 = .ok (.iconst 5, 1) := by decide +kernel
theorem dX0_add_12 : decode cX0_add 12 = .ok (.if_icmp .ge 33, 3) := by decide +kernel
theorem dX0_add_15 : decode cX0_add 15 = .ok (.aload_n 0, 1) := by decide +kernel
theorem dX0_add_16 : decode cX0_add 16 = .ok (.getfield 9, 3) := by decide +kernel
theorem dX0_add_19 : decode cX0_add 19 = .ok (.aload_n 0, 1) := by decide +kernel
theorem dX0_add_20 : decode cX0_add 20 = .ok (.getfield 18, 3) := by decide +kernel
theorem dX0_add_23 : decode cX0_add 23 = .ok (.iload_n 1, 1) := by decide +kernel
theorem dX0_add_24 : decode cX0_add 24 = .ok (.iastore, 1) := by decide +kernel
theorem dX0_add_25 : decode cX0_add 25 = .ok (.aload_n 0, 1) := by decide +kernel
theorem dX0_add_26 : decode cX0_add 26 = .ok (.getfield 15, 3) := by decide +kernel
theorem dX0_add_29 : decode cX0_add 29 = .ok (.aload_n 0, 1) := by decide +kernel
theorem dX0_add_30 : decode cX0_add 30 = .ok (.getfield 18, 3) := by decide +kernel
theorem dX0_add_33 : decode cX0_add 33 = .ok (.iload_n 2, 1) := by decide +kernel
theorem dX0_add_34 : decode cX0_add 34 = .ok (.iastore, 1) := by decide +kernel
theorem dX0_add_35 : decode cX0_add 35 = .ok (.aload_n 0, 1) := by decide +kernel
theorem dX0_add_36 : decode cX0_add 36 = .ok (.dup, 1) := by decide +kernel
theorem dX0_add_37 : decode cX0_add 37 = .ok (.getfield 18, 3) := by decide +kernel
theorem dX0_add_40 : decode cX0_add 40 = .ok (.iconst 1, 1) := by decide +kernel
theorem dX0_add_41 : decode cX0_add 41 = .ok (.iadd, 1) := by decide +kernel
theorem dX0_add_42 : decode cX0_add 42 = .ok (.putfield 18, 3) := by decide +kernel
theorem dX0_add_45 : decode cX0_add 45 = .ok (.return_, 1) := by decide +kernel
theorem dX0_bringTo_0 : decode cX0_bringTo 0 = .ok (.iconst 0, 1) := by decide +kernel
theorem dX0_bringTo_1 : decode cX0_bringTo 1 = .ok (.istore_n 2, 1) := by decide +kernel
theorem dX0_bringTo_2 : decode cX0_bringTo 2 = .ok (.iconst 0, 1) := by decide +kernel
theorem dX0_bringTo_3 : decode cX0_bringTo 3 = .ok (.istore_n 3, 1) := by decide +kernel
theorem dX0_bringTo_4 : decode cX0_bringTo 4 = .ok (.iload_n 3, 1) := by decide +kernel
theorem dX0_bringTo_5 : decode cX0_bringTo 5 = .ok (.aload_n 0, 1) := by decide +kernel
theorem dX0_bringTo_6 : decode cX0_bringTo 6 = .ok (.getfield 18, 3) := by decide +kernel
theorem dX0_bringTo_9 : decode cX0_bringTo 9 = .ok (.if_icmp .ge 65, 3) := by decide +kernel
theorem dX0_bringTo_12 : decode cX0_bringTo 12 = .ok (.iload_n 3, 1) := by decide +kernel
theorem dX0_bringTo_13 : decode cX0_bringTo 13 = .ok (.iconst 5, 1) := by decide +kernel
theorem dX0_bringTo_14 : decode cX0_bringTo 14 = .ok (.if_icmp .ge 60, 3) := by decide +kernel
theorem dX0_bringTo_17 : decode cX0_bringTo 17 = .ok (.aload_n 0, 1) := by decide +kernel
theorem dX0_bringTo_18 : decode cX0_bringTo 18 = .ok (.getfield 15, 3) := by decide +kernel
theorem dX0_bringTo_21 : decode cX0_bringTo 21 = .ok (.iload_n 3, 1) := by decide +kernel
theorem dX0_bringTo_22 : decode cX0_bringTo 22 = .ok (.iaload, 1) := by decide +kernel
theorem dX0_bringTo_23 : decode cX0_bringTo 23 = .ok (.iconst 1, 1) := by decide +kernel
theorem dX0_bringTo_24 : decode cX0_bringTo 24 = .ok (.isub, 1) := by decide +kernel
theorem dX0_bringTo_25 : decode cX0_bringTo 25 = .ok (.istore 4, 2) := by decide +kernel
theorem dX0_bringTo_27 : decode cX0_bringTo 27 = .ok (.iload 4, 2) := by decide +kernel
theorem dX0_bringTo_29 : decode cX0_bringTo 29 = .ok (.ifCond .le 29, 3) := by decide +kernel
theorem dX0_bringTo_32 : decode cX0_bringTo 32 = .ok (.aload_n 0, 1) := by decide +kernel
theorem dX0_bringTo_33 : decode cX0_bringTo 33 = .ok (.getfield 9, 3) := by decide +kernel
theorem dX0_bringTo_36 : decode cX0_bringTo 36 = .ok (.iload_n 2, 1) := by decide +kernel
theorem dX0_bringTo_37 : decode cX0_bringTo 37 = .ok (.aload_n 0, 1) := by decide +kernel
theorem dX0_bringTo_38 : decode cX0_bringTo 38 = .ok (.getfield 9, 3) := by decide +kernel
theorem dX0_bringTo_41 : decode cX0_bringTo 41 = .ok (.iload_n 3, 1) := by decide +kernel
theorem dX0_bringTo_42 : decode cX0_bringTo 42 = .ok (.iaload, 1) := by decide +kernel
theorem dX0_bringTo_43 : decode cX0_bringTo 43 = .ok (.iastore, 1) := by decide +kernel
theorem dX0_bringTo_44 : decode cX0_bringTo 44 = .ok (.aload_n 0, 1) := by decide +kernel
theorem dX0_bringTo_45 : decode cX0_bringTo 45 = .ok (.getfield 15, 3) := by decide +kernel
theorem dX0_bringTo_48 : decode cX0_bringTo 48 = .ok (.iload_n 2, 1) := by decide +kernel
theorem dX0_bringTo_49 : decode cX0_bringTo 49 = .ok (.iload 4, 2) := by decide +kernel
theorem dX0_bringTo_51 : decode cX0_bringTo 51 = .ok (.iastore, 1) := by decide +kernel
theorem dX0_bringTo_52 : decode cX0_bringTo 52 = .ok (.iinc 2 1, 3) := by decide +kernel
theorem dX0_bringTo_55 : decode cX0_bringTo 55 = .ok (.goto 13, 3) := by decide +kernel
theorem dX0_bringTo_58 : decode cX0_bringTo 58 = .ok (.aload_n 1, 1) := by decide +kernel
theorem dX0_bringTo_59 : decode cX0_bringTo 59 = .ok (.aload_n 0, 1) := by decide +kernel
theorem dX0_bringTo_60 : decode cX0_bringTo 60 = .ok (.getfield 9, 3) := by decide +kernel
theorem dX0_bringTo_63 : decode cX0_bringTo 63 = .ok (.iload_n 3, 1) := by decide +kernel
theorem dX0_bringTo_64 : decode cX0_bringTo 64 = .ok (.iaload, 1) := by decide +kernel
theorem dX0_bringTo_65 : decode cX0_bringTo 65 = .ok (.invokevirtual 22, 3) := by decide +kernel
theorem dX0_bringTo_68 : decode cX0_bringTo 68 = .ok (.iinc 3 1, 3) := by decide +kernel
theorem dX0_bringTo_71 : decode cX0_bringTo 71 = .ok (.goto (-67), 3) := by decide +kernel
theorem dX0_bringTo_74 : decode cX0_bringTo 74 = .ok (.aload_n 0, 1) := by decide +kernel
theorem dX0_bringTo_75 : decode cX0_bringTo 75 = .ok (.iload_n 2, 1) := by decide +kernel
theorem dX0_bringTo_76 : decode cX0_bringTo 76 = .ok (.putfield 18, 3) := by decide +kernel
theorem dX0_bringTo_79 : decode cX0_bringTo 79 = .ok (.return_, 1) := by decide +kernel
theorem dX1_init_0 : decode cX1_init 0 = .ok (.aload_n 0, 1) := by decide +kernel
theorem dX1_init_1 : decode cX1_init 1 = .ok (.invokespecial 1, 3) := by decide +kernel
theorem dX1_init_4 : decode cX1_init 4 = .ok (.aload_n 0, 1) := by decide +kernel
theorem dX1_init_5 : decode cX1_init 5 = .ok (.aload_n 1, 1) := by decide +kernel
theorem dX1_init_6 : decode cX1_init 6 = .ok (.putfield 7, 3) := by decide +kernel
theorem dX1_init_9 : decode cX1_init 9 = .ok (.aload_n 0, 1) := by decide +kernel
theorem dX1_init_10 : decode cX1_init 10 = .ok (.aload_n 1, 1) := by decide +kernel
theorem dX1_init_11 : decode cX1_init 11 = .ok (.ifnonnull 7, 3) := by decide +kernel
theorem dX1_init_14 : decode cX1_init 14 = .ok (.iconst 0, 1) := by decide +kernel
theorem dX1_init_15 : decode cX1_init 15 = .ok (.goto 9, 3) := by decide +kernel
theorem dX1_init_18 : decode cX1_init 18 = .ok (.aload_n 1, 1) := by decide +kernel
theorem dX1_init_19 : decode cX1_init 19 = .ok (.getfield 13, 3) := by decide +kernel
theorem dX1_init_22 : decode cX1_init 22 = .ok (.iconst 1, 1) := by decide +kernel
theorem dX1_init_23 : decode cX1_init 23 = .ok (.iadd, 1) := by decide +kernel
theorem dX1_init_24 : decode cX1_init 24 = .ok (.putfield 13, 3) := by decide +kernel
theorem dX1_init_27 : decode cX1_init 27 = .ok (.aload_n 0, 1) := by decide +kernel
theorem dX1_init_28 : decode cX1_init 28 = .ok (.iload_n 3, 1) := by decide +kernel
theorem dX1_init_29 : decode cX1_init 29 = .ok (.putfield 17, 3) := by decide +kernel
theorem dX1_init_32 : decode cX1_init 32 = .ok (.aload_n 0, 1) := by decide +kernel
theorem dX1_init_33 : decode cX1_init 33 = .ok (.iload 4, 2) := by decide +kernel
theorem dX1_init_35 : decode cX1_init 35 = .ok (.putfield 20, 3) := by decide +kernel
theorem dX1_init_38 : decode cX1_init 38 = .ok (.aload_n 0, 1) := by decide +kernel
theorem dX1_init_39 : decode cX1_init 39 = .ok (.iload 5, 2) := by decide +kernel
theorem dX1_init_41 : decode cX1_init 41 = .ok (.putfield 23, 3) := by decide +kernel
theorem dX1_init_44 : decode cX1_init 44 = .ok (.aload_n 0, 1) := by decide +kernel
theorem dX1_init_45 : decode cX1_init 45 = .ok (.iload_n 2, 1) := by decide +kernel
theorem dX1_init_46 : decode cX1_init 46 = .ok (.putfield 26, 3) := by decide +kernel
theorem dX1_init_49 : decode cX1_init 49 = .ok (.aload_n 0, 1) := by decide +kernel
theorem dX1_init_50 : decode cX1_init 50 = .ok (.iload 6, 2) := by decide +kernel
theorem dX1_init_52 : decode cX1_init 52 = .ok (.ifCond .eq 7, 3) := by decide +kernel
theorem dX1_init_55 : decode cX1_init 55 = .ok (.iconst 0, 1) := by decide +kernel
theorem dX1_init_56 : decode cX1_init 56 = .ok (.goto 4, 3) := by decide +kernel
theorem dX1_init_59 : decode cX1_init 59 = .ok (.iload_n 2, 1) := by decide +kernel
theorem dX1_init_60 : decode cX1_init 60 = .ok (.putfield 29, 3) := by decide +kernel
theorem dX1_init_63 : decode cX1_init 63 = .ok (.aload_n 0, 1) := by decide +kernel
theorem dX1_init_64 : decode cX1_init 64 = .ok (.new 32, 3) := by decide +kernel
theorem dX1_init_67 : decode cX1_init 67 = .ok (.dup, 1) := by decide +kernel
theorem dX1_init_68 : decode cX1_init 68 = .ok (.iload 6, 2) := by decide +kernel
theorem dX1_init_70 : decode cX1_init 70 = .ok (.ifCond .eq 7, 3) := by decide +kernel
theorem dX1_init_73 : decode cX1_init 73 = .ok (.iload_n 2, 1) := by decide +kernel
theorem dX1_init_74 : decode cX1_init 74 = .ok (.goto 4, 3) := by decide +kernel
theorem dX1_init_77 : decode cX1_init 77 = .ok (.iconst 0, 1) := by decide +kernel
theorem dX1_init_78 : decode cX1_init 78 = .ok (.iload_n 3, 1) := by decide +kernel
theorem dX1_init_79 : decode cX1_init 79 = .ok (.invokespecial 34, 3) := by decide +kernel
theorem dX1_init_82 : decode cX1_init 82 = .ok (.putfield 37, 3) := by decide +kernel
theorem dX1_init_85 : decode cX1_init 85 = .ok (.aload_n 0, 1) := by decide +kernel
theorem dX1_init_86 : decode cX1_init 86 = .ok (.new 32, 3) := by decide +kernel
theorem dX1_init_89 : decode cX1_init 89 = .ok (.dup, 1) := by decide +kernel
theorem dX1_init_90 : decode cX1_init 90 = .ok (.iconst 0, 1) := by decide +kernel
theorem dX1_init_91 : decode cX1_init 91 = .ok (.iconst 0, 1) := by decide +kernel
theorem dX1_init_92 : decode cX1_init 92 = .ok (.invokespecial 34, 3) := by decide +kernel
theorem dX1_init_95 : decode cX1_init 95 = .ok (.putfield 41, 3) := by decide +kernel
theorem dX1_init_98 : decode cX1_init 98 = .ok (.aload_n 0, 1) := by decide +kernel
theorem dX1_init_99 : decode cX1_init 99 = .ok (.new 44, 3) := by decide +kernel
theorem dX1_init_102 : decode cX1_init 102 = .ok (.dup, 1) := by decide +kernel
theorem dX1_init_103 : decode cX1_init 103 = .ok (.invokespecial 46, 3) := by decide +kernel
theorem dX1_init_106 : decode cX1_init 106 = .ok (.putfield 47, 3) := by decide +kernel
theorem dX1_init_109 : decode cX1_init 109 = .ok (.aload_n 0, 1) := by decide +kernel
theorem dX1_init_110 : decode cX1_init 110 = .ok (.aload_n 1, 1) := by decide +kernel
theorem dX1_init_111 : decode cX1_init 111 = .ok (.ifnonnull 7, 3) := by decide +kernel
theorem dX1_init_114 : decode cX1_init 114 = .ok (.iconst 0, 1) := by decide +kernel
theorem dX1_init_115 : decode cX1_init 115 = .ok (.goto 4, 3) := by decide +kernel
theorem dX1_init_118 : decode cX1_init 118 = .ok (.iconst 1, 1) := by decide +kernel
theorem dX1_init_119 : decode cX1_init 119 = .ok (.putfield 51, 3) := by decide +kernel
theorem dX1_init_122 : decode cX1_init 122 = .ok (.aload_n 0, 1) := by decide +kernel
theorem dX1_init_123 : decode cX1_init 123 = .ok (.aload_n 0, 1) := by decide +kernel
theorem dX1_init_124 : decode cX1_init 124 = .ok (.getfield 51, 3) := by decide +kernel
theorem dX1_init_127 : decode cX1_init 127 = .ok (.putfield 54, 3) := by decide +kernel
theorem dX1_init_130 : decode cX1_init 130 = .ok (.aload_n 0, 1) := by decide +kernel
theorem dX1_init_131 : decode cX1_init 131 = .ok (.iload 6, 2) := by decide +kernel
theorem dX1_init_133 : decode cX1_init 133 = .ok (.ifCond .eq 9, 3) := by decide +kernel
theorem dX1_init_136 : decode cX1_init 136 = .ok (.iload_n 2, 1) := by decide +kernel
theorem dX1_init_137 : decode cX1_init 137 = .ok (.iload_n 3, 1) := by decide +kernel
theorem dX1_init_138 : decode cX1_init 138 = .ok (.imul, 1) := by decide +kernel
theorem dX1_init_139 : decode cX1_init 139 = .ok (.goto 4, 3) := by decide +kernel
theorem dX1_init_142 : decode cX1_init 142 = .ok (.iconst 0, 1) := by decide +kernel
theorem dX1_init_143 : decode cX1_init 143 = .ok (.putfield 57, 3) := by decide +kernel
theorem dX1_init_146 : decode cX1_init 146 = .ok (.return_, 1) := by decide +kernel
theorem dX1_unitsHeld_0 : decode cX1_unitsHeld 0 = .ok (.aload_n 0, 1) := by decide +kernel
theorem dX1_unitsHeld_1 : decode cX1_unitsHeld 1 = .ok (.getfield 60, 3) := by decide +kernel
theorem dX1_unitsHeld_4 : decode cX1_unitsHeld 4 = .ok (.ifCond .le 10, 3) := by decide +kernel
theorem dX1_unitsHeld_7 : decode cX1_unitsHeld 7 = .ok (.aload_n 0, 1) := by decide +kernel
theorem dX1_unitsHeld_8 : decode cX1_unitsHeld 8 = .ok (.getfield 17, 3) := by decide +kernel
theorem dX1_unitsHeld_11 : decode cX1_unitsHeld 11 = .ok (.goto 4, 3) := by decide +kernel
theorem dX1_unitsHeld_14 : decode cX1_unitsHeld 14 = .ok (.iconst 0, 1) := by decide +kernel
theorem dX1_unitsHeld_15 : decode cX1_unitsHeld 15 = .ok (.istore_n 1, 1) := by decide +kernel
theorem dX1_unitsHeld_16 : decode cX1_unitsHeld 16 = .ok (.aload_n 0, 1) := by decide +kernel
theorem dX1_unitsHeld_17 : decode cX1_unitsHeld 17 = .ok (.getfield 37, 3) := by decide +kernel
theorem dX1_unitsHeld_20 : decode cX1_unitsHeld 20 = .ok (.invokevirtual 63, 3) := by decide +kernel
theorem dX1_unitsHeld_23 : decode cX1_unitsHeld 23 = .ok (.aload_n 0, 1) := by decide +kernel
theorem dX1_unitsHeld_24 : decode cX1_unitsHeld 24 = .ok (.getfield 41, 3) := by decide +kernel
theorem dX1_unitsHeld_27 : decode cX1_unitsHeld 27 = .ok (.invokevirtual 63, 3) := by decide +kernel
theorem dX1_unitsHeld_30 : decode cX1_unitsHeld 30 = .ok (.iadd, 1) := by decide +kernel
theorem dX1_unitsHeld_31 : decode cX1_unitsHeld 31 = .ok (.aload_n 0, 1) := by decide +kernel
theorem dX1_unitsHeld_32 : decode cX1_unitsHeld 32 = .ok (.getfield 47, 3) := by decide +kernel
theorem dX1_unitsHeld_35 : decode cX1_unitsHeld 35 = .ok (.invokevirtual 67, 3) := by decide +kernel
theorem dX1_unitsHeld_38 : decode cX1_unitsHeld 38 = .ok (.iadd, 1) := by decide +kernel
theorem dX1_unitsHeld_39 : decode cX1_unitsHeld 39 = .ok (.iload_n 1, 1) := by decide +kernel
theorem dX1_unitsHeld_40 : decode cX1_unitsHeld 40 = .ok (.iadd, 1) := by decide +kernel
theorem dX1_unitsHeld_41 : decode cX1_unitsHeld 41 = .ok (.ireturn, 1) := by decide +kernel
theorem dX1_work_0 : decode cX1_work 0 = .ok (.aload_n 0, 1) := by decide +kernel
theorem dX1_work_1 : decode cX1_work 1 = .ok (.getfield 68, 3) := by decide +kernel
theorem dX1_work_4 : decode cX1_work 4 = .ok (.ifCond .eq 4, 3) := by decide +kernel
theorem dX1_work_7 : decode cX1_work 7 = .ok (.return_, 1) := by decide +kernel
theorem dX1_work_8 : decode cX1_work 8 = .ok (.aload_n 0, 1) := by decide +kernel
theorem dX1_work_9 : decode cX1_work 9 = .ok (.invokevirtual 72, 3) := by decide +kernel
theorem dX1_work_12 : decode cX1_work 12 = .ok (.aload_n 0, 1) := by decide +kernel
theorem dX1_work_13 : decode cX1_work 13 = .ok (.getfield 60, 3) := by decide +kernel
theorem dX1_work_16 : decode cX1_work 16 = .ok (.ifCond .le 4, 3) := by decide +kernel
theorem dX1_work_19 : decode cX1_work 19 = .ok (.return_, 1) := by decide +kernel
theorem dX1_work_20 : decode cX1_work 20 = .ok (.aload_n 0, 1) := by decide +kernel
theorem dX1_work_21 : decode cX1_work 21 = .ok (.getfield 75, 3) := by decide +kernel
theorem dX1_work_24 : decode cX1_work 24 = .ok (.ifCond .ne 22, 3) := by decide +kernel
theorem dX1_work_27 : decode cX1_work 27 = .ok (.aload_n 0, 1) := by decide +kernel
theorem dX1_work_28 : decode cX1_work 28 = .ok (.getfield 29, 3) := by decide +kernel
theorem dX1_work_31 : decode cX1_work 31 = .ok (.aload_n 0, 1) := by decide +kernel
theorem dX1_work_32 : decode cX1_work 32 = .ok (.getfield 23, 3) := by decide +kernel
theorem dX1_work_35 : decode cX1_work 35 = .ok (.if_icmp .lt 11, 3) := by decide +kernel
theorem dX1_work_38 : decode cX1_work 38 = .ok (.aload_n 0, 1) := by decide +kernel
theorem dX1_work_39 : decode cX1_work 39 = .ok (.aload_n 0, 1) := by decide +kernel
theorem dX1_work_40 : decode cX1_work 40 = .ok (.getfield 29, 3) := by decide +kernel
theorem dX1_work_43 : decode cX1_work 43 = .ok (.putfield 75, 3) := by decide +kernel
theorem dX1_work_46 : decode cX1_work 46 = .ok (.aload_n 0, 1) := by decide +kernel
theorem dX1_work_47 : decode cX1_work 47 = .ok (.getfield 75, 3) := by decide +kernel
theorem dX1_work_50 : decode cX1_work 50 = .ok (.ifCond .ne 4, 3) := by decide +kernel
theorem dX1_work_53 : decode cX1_work 53 = .ok (.return_, 1) := by decide +kernel
theorem dX1_work_54 : decode cX1_work 54 = .ok (.aload_n 0, 1) := by decide +kernel
theorem dX1_work_55 : decode cX1_work 55 = .ok (.getfield 7, 3) := by decide +kernel
theorem dX1_work_58 : decode cX1_work 58 = .ok (.ifnull 28, 3) := by decide +kernel
theorem dX1_work_61 : decode cX1_work 61 = .ok (.aload_n 0, 1) := by decide +kernel
theorem dX1_work_62 : decode cX1_work 62 = .ok (.getfield 41, 3) := by decide +kernel
theorem dX1_work_65 : decode cX1_work 65 = .ok (.invokevirtual 63, 3) := by decide +kernel
theorem dX1_work_68 : decode cX1_work 68 = .ok (.aload_n 0, 1) := by decide +kernel
theorem dX1_work_69 : decode cX1_work 69 = .ok (.getfield 17, 3) := by decide +kernel
theorem dX1_work_72 : decode cX1_work 72 = .ok (.if_icmp .ge 14, 3) := by decide +kernel
theorem dX1_work_75 : decode cX1_work 75 = .ok (.aload_n 0, 1) := by decide +kernel
theorem dX1_work_76 : decode cX1_work 76 = .ok (.dup, 1) := by decide +kernel
theorem dX1_work_77 : decode cX1_work 77 = .ok (.getfield 78, 3) := by decide +kernel
theorem dX1_work_80 : decode cX1_work 80 = .ok (.iconst 1, 1) := by decide +kernel
theorem dX1_work_81 : decode cX1_work 81 = .ok (.iadd, 1) := by decide +kernel
theorem dX1_work_82 : decode cX1_work 82 = .ok (.putfield 78, 3) := by decide +kernel
theorem dX1_work_85 : decode cX1_work 85 = .ok (.return_, 1) := by decide +kernel
theorem dX1_work_86 : decode cX1_work 86 = .ok (.aload_n 0, 1) := by decide +kernel
theorem dX1_work_87 : decode cX1_work 87 = .ok (.iload_n 1, 1) := by decide +kernel
theorem dX1_work_88 : decode cX1_work 88 = .ok (.invokevirtual 81, 3) := by decide +kernel
theorem dX1_work_91 : decode cX1_work 91 = .ok (.return_, 1) := by decide +kernel
theorem dX1_goOn_0 : decode cX1_goOn 0 = .ok (.aload_n 0, 1) := by decide +kernel
theorem dX1_goOn_1 : decode cX1_goOn 1 = .ok (.getfield 60, 3) := by decide +kernel
theorem dX1_goOn_4 : decode cX1_goOn 4 = .ok (.ifCond .le 31, 3) := by decide +kernel
theorem dX1_goOn_7 : decode cX1_goOn 7 = .ok (.aload_n 0, 1) := by decide +kernel
theorem dX1_goOn_8 : decode cX1_goOn 8 = .ok (.dup, 1) := by decide +kernel
theorem dX1_goOn_9 : decode cX1_goOn 9 = .ok (.getfield 60, 3) := by decide +kernel
theorem dX1_goOn_12 : decode cX1_goOn 12 = .ok (.iconst 1, 1) := by decide +kernel
theorem dX1_goOn_13 : decode cX1_goOn 13 = .ok (.isub, 1) := by decide +kernel
theorem dX1_goOn_14 : decode cX1_goOn 14 = .ok (.putfield 60, 3) := by decide +kernel
theorem dX1_goOn_17 : decode cX1_goOn 17 = .ok (.aload_n 0, 1) := by decide +kernel
theorem dX1_goOn_18 : decode cX1_goOn 18 = .ok (.getfield 60, 3) := by decide +kernel
theorem dX1_goOn_21 : decode cX1_goOn 21 = .ok (.ifCond .ne 14, 3) := by decide +kernel
theorem dX1_goOn_24 : decode cX1_goOn 24 = .ok (.aload_n 0, 1) := by decide +kernel
theorem dX1_goOn_25 : decode cX1_goOn 25 = .ok (.getfield 37, 3) := by decide +kernel
theorem dX1_goOn_28 : decode cX1_goOn 28 = .ok (.aload_n 0, 1) := by decide +kernel
theorem dX1_goOn_29 : decode cX1_goOn 29 = .ok (.getfield 17, 3) := by decide +kernel
theorem dX1_goOn_32 : decode cX1_goOn 32 = .ok (.invokevirtual 85, 3) := by decide +kernel
theorem dX1_goOn_35 : decode cX1_goOn 35 = .ok (.return_, 1) := by decide +kernel
theorem dX1_begin_0 : decode cX1_begin 0 = .ok (.aload_n 0, 1) := by decide +kernel
theorem dX1_begin_1 : decode cX1_begin 1 = .ok (.getfield 7, 3) := by decide +kernel
theorem dX1_begin_4 : decode cX1_begin 4 = .ok (.ifnonnull 19, 3) := by decide +kernel
theorem dX1_begin_7 : decode cX1_begin 7 = .ok (.aload_n 0, 1) := by decide +kernel
theorem dX1_begin_8 : decode cX1_begin 8 = .ok (.dup, 1) := by decide +kernel
theorem dX1_begin_9 : decode cX1_begin 9 = .ok (.getfield 57, 3) := by decide +kernel
theorem dX1_begin_12 : decode cX1_begin 12 = .ok (.aload_n 0, 1) := by decide +kernel
theorem dX1_begin_13 : decode cX1_begin 13 = .ok (.getfield 17, 3) := by decide +kernel
theorem dX1_begin_16 : decode cX1_begin 16 = .ok (.iadd, 1) := by decide +kernel
theorem dX1_begin_17 : decode cX1_begin 17 = .ok (.putfield 57, 3) := by decide +kernel
theorem dX1_begin_20 : decode cX1_begin 20 = .ok (.goto 24, 3) := by decide +kernel
theorem dX1_begin_23 : decode cX1_begin 23 = .ok (.aload_n 0, 1) := by decide +kernel
theorem dX1_begin_24 : decode cX1_begin 24 = .ok (.dup, 1) := by decide +kernel
theorem dX1_begin_25 : decode cX1_begin 25 = .ok (.getfield 54, 3) := by decide +kernel
theorem dX1_begin_28 : decode cX1_begin 28 = .ok (.aload_n 0, 1) := by decide +kernel
theorem dX1_begin_29 : decode cX1_begin 29 = .ok (.getfield 41, 3) := by decide +kernel
theorem dX1_begin_32 : decode cX1_begin 32 = .ok (.aload_n 0, 1) := by decide +kernel
theorem dX1_begin_33 : decode cX1_begin 33 = .ok (.getfield 17, 3) := by decide +kernel
theorem dX1_begin_36 : decode cX1_begin 36 = .ok (.iload_n 1, 1) := by decide +kernel
theorem dX1_begin_37 : decode cX1_begin 37 = .ok (.invokevirtual 89, 3) := by decide +kernel
theorem dX1_begin_40 : decode cX1_begin 40 = .ok (.iadd, 1) := by decide +kernel
theorem dX1_begin_41 : decode cX1_begin 41 = .ok (.putfield 54, 3) := by decide +kernel
theorem dX1_begin_44 : decode cX1_begin 44 = .ok (.aload_n 0, 1) := by decide +kernel
theorem dX1_begin_45 : decode cX1_begin 45 = .ok (.dup, 1) := by decide +kernel
theorem dX1_begin_46 : decode cX1_begin 46 = .ok (.getfield 29, 3) := by decide +kernel
theorem dX1_begin_49 : decode cX1_begin 49 = .ok (.iconst 1, 1) := by decide +kernel
theorem dX1_begin_50 : decode cX1_begin 50 = .ok (.isub, 1) := by decide +kernel
theorem dX1_begin_51 : decode cX1_begin 51 = .ok (.putfield 29, 3) := by decide +kernel
theorem dX1_begin_54 : decode cX1_begin 54 = .ok (.aload_n 0, 1) := by decide +kernel
theorem dX1_begin_55 : decode cX1_begin 55 = .ok (.dup, 1) := by decide +kernel
theorem dX1_begin_56 : decode cX1_begin 56 = .ok (.getfield 75, 3) := by decide +kernel
theorem dX1_begin_59 : decode cX1_begin 59 = .ok (.iconst 1, 1) := by decide +kernel
theorem dX1_begin_60 : decode cX1_begin 60 = .ok (.isub, 1) := by decide +kernel
theorem dX1_begin_61 : decode cX1_begin 61 = .ok (.putfield 75, 3) := by decide +kernel
theorem dX1_begin_64 : decode cX1_begin 64 = .ok (.aload_n 0, 1) := by decide +kernel
theorem dX1_begin_65 : decode cX1_begin 65 = .ok (.aload_n 0, 1) := by decide +kernel
theorem dX1_begin_66 : decode cX1_begin 66 = .ok (.getfield 20, 3) := by decide +kernel
theorem dX1_begin_69 : decode cX1_begin 69 = .ok (.putfield 60, 3) := by decide +kernel
theorem dX1_begin_72 : decode cX1_begin 72 = .ok (.return_, 1) := by decide +kernel
theorem dX1_convey_0 : decode cX1_convey 0 = .ok (.aload_n 0, 1) := by decide +kernel
theorem dX1_convey_1 : decode cX1_convey 1 = .ok (.getfield 7, 3) := by decide +kernel
theorem dX1_convey_4 : decode cX1_convey 4 = .ok (.ifnonnull 4, 3) := by decide +kernel
theorem dX1_convey_7 : decode cX1_convey 7 = .ok (.return_, 1) := by decide +kernel
theorem dX1_convey_8 : decode cX1_convey 8 = .ok (.aload_n 0, 1) := by decide +kernel
theorem dX1_convey_9 : decode cX1_convey 9 = .ok (.getfield 47, 3) := by decide +kernel
theorem dX1_convey_12 : decode cX1_convey 12 = .ok (.aload_n 0, 1) := by decide +kernel
theorem dX1_convey_13 : decode cX1_convey 13 = .ok (.getfield 41, 3) := by decide +kernel
theorem dX1_convey_16 : decode cX1_convey 16 = .ok (.invokevirtual 93, 3) := by decide +kernel
theorem dX1_convey_19 : decode cX1_convey 19 = .ok (.aload_n 0, 1) := by decide +kernel
theorem dX1_convey_20 : decode cX1_convey 20 = .ok (.getfield 54, 3) := by decide +kernel
theorem dX1_convey_23 : decode cX1_convey 23 = .ok (.aload_n 0, 1) := by decide +kernel
theorem dX1_convey_24 : decode cX1_convey 24 = .ok (.getfield 7, 3) := by decide +kernel
theorem dX1_convey_27 : decode cX1_convey 27 = .ok (.getfield 37, 3) := by decide +kernel
theorem dX1_convey_30 : decode cX1_convey 30 = .ok (.getfield 97, 3) := by decide +kernel
theorem dX1_convey_33 : decode cX1_convey 33 = .ok (.invokestatic 100, 3) := by decide +kernel
theorem dX1_convey_36 : decode cX1_convey 36 = .ok (.istore_n 1, 1) := by decide +kernel
theorem dX1_convey_37 : decode cX1_convey 37 = .ok (.iload_n 1, 1) := by decide +kernel
theorem dX1_convey_38 : decode cX1_convey 38 = .ok (.ifCond .le 17, 3) := by decide +kernel
theorem dX1_convey_41 : decode cX1_convey 41 = .ok (.aload_n 0, 1) := by decide +kernel
theorem dX1_convey_42 : decode cX1_convey 42 = .ok (.aload_n 0, 1) := by decide +kernel
theorem dX1_convey_43 : decode cX1_convey 43 = .ok (.getfield 7, 3) := by decide +kernel
theorem dX1_convey_46 : decode cX1_convey 46 = .ok (.invokevirtual 106, 3) := by decide +kernel
theorem dX1_convey_49 : decode cX1_convey 49 = .ok (.iinc 1 (-1), 3) := by decide +kernel
theorem dX1_convey_52 : decode cX1_convey 52 = .ok (.goto (-15), 3) := by decide +kernel
theorem dX1_convey_55 : decode cX1_convey 55 = .ok (.return_, 1) := by decide +kernel
theorem dX1_fetchFrom_0 : decode cX1_fetchFrom 0 = .ok (.aload_n 1, 1) := by decide +kernel
theorem dX1_fetchFrom_1 : decode cX1_fetchFrom 1 = .ok (.getfield 37, 3) := by decide +kernel
theorem dX1_fetchFrom_4 : decode cX1_fetchFrom 4 = .ok (.invokevirtual 110, 3) := by decide +kernel
theorem dX1_fetchFrom_7 : decode cX1_fetchFrom 7 = .ok (.istore_n 2, 1) := by decide +kernel
theorem dX1_fetchFrom_8 : decode cX1_fetchFrom 8 = .ok (.aload_n 1, 1) := by decide +kernel
theorem dX1_fetchFrom_9 : decode cX1_fetchFrom 9 = .ok (.getfield 37, 3) := by decide +kernel
theorem dX1_fetchFrom_12 : decode cX1_fetchFrom 12 = .ok (.invokevirtual 113, 3) := by decide +kernel
theorem dX1_fetchFrom_15 : decode cX1_fetchFrom 15 = .ok (.ifCond .eq 13, 3) := by decide +kernel
theorem dX1_fetchFrom_18 : decode cX1_fetchFrom 18 = .ok (.aload_n 1, 1) := by decide +kernel
theorem dX1_fetchFrom_19 : decode cX1_fetchFrom 19 = .ok (.dup, 1) := by decide +kernel
theorem dX1_fetchFrom_20 : decode cX1_fetchFrom 20 = .ok (.getfield 29, 3) := by decide +kernel
theorem dX1_fetchFrom_23 : decode cX1_fetchFrom 23 = .ok (.iconst 1, 1) := by decide +kernel
theorem dX1_fetchFrom_24 : decode cX1_fetchFrom 24 = .ok (.iadd, 1) := by decide +kernel
theorem dX1_fetchFrom_25 : decode cX1_fetchFrom 25 = .ok (.putfield 29, 3) := by decide +kernel
theorem dX1_fetchFrom_28 : decode cX1_fetchFrom 28 = .ok (.aload_n 1, 1) := by decide +kernel
theorem dX1_fetchFrom_29 : decode cX1_fetchFrom 29 = .ok (.getfield 37, 3) := by decide +kernel
theorem dX1_fetchFrom_32 : decode cX1_fetchFrom 32 = .ok (.invokevirtual 117, 3) := by decide +kernel
theorem dX1_fetchFrom_35 : decode cX1_fetchFrom 35 = .ok (.aload_n 0, 1) := by decide +kernel
theorem dX1_fetchFrom_36 : decode cX1_fetchFrom 36 = .ok (.dup, 1) := by decide +kernel
theorem dX1_fetchFrom_37 : decode cX1_fetchFrom 37 = .ok (.getfield 54, 3) := by decide +kernel
theorem dX1_fetchFrom_40 : decode cX1_fetchFrom 40 = .ok (.iconst 1, 1) := by decide +kernel
theorem dX1_fetchFrom_41 : decode cX1_fetchFrom 41 = .ok (.isub, 1) := by decide +kernel
theorem dX1_fetchFrom_42 : decode cX1_fetchFrom 42 = .ok (.putfield 54, 3) := by decide +kernel
theorem dX1_fetchFrom_45 : decode cX1_fetchFrom 45 = .ok (.aload_n 0, 1) := by decide +kernel
theorem dX1_fetchFrom_46 : decode cX1_fetchFrom 46 = .ok (.getfield 120, 3) := by decide +kernel
theorem dX1_fetchFrom_49 : decode cX1_fetchFrom 49 = .ok (.ifCond .ne 14, 3) := by decide +kernel
theorem dX1_fetchFrom_52 : decode cX1_fetchFrom 52 = .ok (.aload_n 0, 1) := by decide +kernel
theorem dX1_fetchFrom_53 : decode cX1_fetchFrom 53 = .ok (.getfield 41, 3) := by decide +kernel
theorem dX1_fetchFrom_56 : decode cX1_fetchFrom 56 = .ok (.iload_n 2, 1) := by decide +kernel
theorem dX1_fetchFrom_57 : decode cX1_fetchFrom 57 = .ok (.invokevirtual 85, 3) := by decide +kernel
theorem dX1_fetchFrom_60 : decode cX1_fetchFrom 60 = .ok (.goto 15, 3) := by decide +kernel
theorem dX1_fetchFrom_63 : decode cX1_fetchFrom 63 = .ok (.aload_n 0, 1) := by decide +kernel
theorem dX1_fetchFrom_64 : decode cX1_fetchFrom 64 = .ok (.getfield 47, 3) := by decide +kernel
theorem dX1_fetchFrom_67 : decode cX1_fetchFrom 67 = .ok (.iload_n 2, 1) := by decide +kernel
theorem dX1_fetchFrom_68 : decode cX1_fetchFrom 68 = .ok (.aload_n 0, 1) := by decide +kernel
theorem dX1_fetchFrom_69 : decode cX1_fetchFrom 69 = .ok (.getfield 120, 3) := by decide +kernel
theorem dX1_fetchFrom_72 : decode cX1_fetchFrom 72 = .ok (.invokevirtual 123, 3) := by decide +kernel
theorem dX1_fetchFrom_75 : decode cX1_fetchFrom 75 = .ok (.return_, 1) := by decide +kernel
theorem dX2_init_0 : decode cX2_init 0 = .ok (.aload_n 0, 1) := by decide +kernel
theorem dX2_init_1 : decode cX2_init 1 = .ok (.invokespecial 3, 3) := by decide +kernel
theorem dX2_init_4 : decode cX2_init 4 = .ok (.aload_n 0, 1) := by decide +kernel
theorem dX2_init_5 : decode cX2_init 5 = .ok (.bipush 10, 2) := by decide +kernel
theorem dX2_init_7 : decode cX2_init 7 = .ok (.newarray .int, 2) := by decide +kernel
theorem dX2_init_9 : decode cX2_init 9 = .ok (.putfield 11, 3) := by decide +kernel
theorem dX2_init_12 : decode cX2_init 12 = .ok (.aload_n 0, 1) := by decide +kernel
theorem dX2_init_13 : decode cX2_init 13 = .ok (.bipush 10, 2) := by decide +kernel
theorem dX2_init_15 : decode cX2_init 15 = .ok (.newarray .boolean, 2) := by decide +kernel
theorem dX2_init_17 : decode cX2_init 17 = .ok (.putfield 15, 3) := by decide +kernel
theorem dX2_init_20 : decode cX2_init 20 = .ok (.aload_n 0, 1) := by decide +kernel
theorem dX2_init_21 : decode cX2_init 21 = .ok (.iload_n 1, 1) := by decide +kernel
theorem dX2_init_22 : decode cX2_init 22 = .ok (.bipush 10, 2) := by decide +kernel
theorem dX2_init_24 : decode cX2_init 24 = .ok (.invokestatic 19, 3) := by decide +kernel
theorem dX2_init_27 : decode cX2_init 27 = .ok (.putfield 25, 3) := by decide +kernel
theorem dX2_init_30 : decode cX2_init 30 = .ok (.iconst 0, 1) := by decide +kernel
theorem dX2_init_31 : decode cX2_init 31 = .ok (.istore_n 3, 1) := by decide +kernel
theorem dX2_init_32 : decode cX2_init 32 = .ok (.iload_n 3, 1) := by decide +kernel
theorem dX2_init_33 : decode cX2_init 33 = .ok (.aload_n 0, 1) := by decide +kernel
theorem dX2_init_34 : decode cX2_init 34 = .ok (.getfield 25, 3) := by decide +kernel
theorem dX2_init_37 : decode cX2_init 37 = .ok (.if_icmp .ge 23, 3) := by decide +kernel
theorem dX2_init_40 : decode cX2_init 40 = .ok (.aload_n 0, 1) := by decide +kernel
theorem dX2_init_41 : decode cX2_init 41 = .ok (.getfield 11, 3) := by decide +kernel
theorem dX2_init_44 : decode cX2_init 44 = .ok (.iload_n 3, 1) := by decide +kernel
theorem dX2_init_45 : decode cX2_init 45 = .ok (.iload_n 2, 1) := by decide +kernel
theorem dX2_init_46 : decode cX2_init 46 = .ok (.iastore, 1) := by decide +kernel
theorem dX2_init_47 : decode cX2_init 47 = .ok (.aload_n 0, 1) := by decide +kernel
theorem dX2_init_48 : decode cX2_init 48 = .ok (.getfield 15, 3) := by decide +kernel
theorem dX2_init_51 : decode cX2_init 51 = .ok (.iload_n 3, 1) := by decide +kernel
theorem dX2_init_52 : decode cX2_init 52 = .ok (.iconst 1, 1) := by decide +kernel
theorem dX2_init_53 : decode cX2_init 53 = .ok (.bastore, 1) := by decide +kernel
theorem dX2_init_54 : decode cX2_init 54 = .ok (.iinc 3 1, 3) := by decide +kernel
theorem dX2_init_57 : decode cX2_init 57 = .ok (.goto (-25), 3) := by decide +kernel
theorem dX2_init_60 : decode cX2_init 60 = .ok (.return_, 1) := by decide +kernel
theorem dX2_allUnits_0 : decode cX2_allUnits 0 = .ok (.iconst 0, 1) := by decide +kernel
theorem dX2_allUnits_1 : decode cX2_allUnits 1 = .ok (.istore_n 1, 1) := by decide +kernel
theorem dX2_allUnits_2 : decode cX2_allUnits 2 = .ok (.iconst 0, 1) := by decide +kernel
theorem dX2_allUnits_3 : decode cX2_allUnits 3 = .ok (.istore_n 2, 1) := by decide +kernel
theorem dX2_allUnits_4 : decode cX2_allUnits 4 = .ok (.iload_n 2, 1) := by decide +kernel
theorem dX2_allUnits_5 : decode cX2_allUnits 5 = .ok (.aload_n 0, 1) := by decide +kernel
theorem dX2_allUnits_6 : decode cX2_allUnits 6 = .ok (.getfield 25, 3) := by decide +kernel
theorem dX2_allUnits_9 : decode cX2_allUnits 9 = .ok (.if_icmp .ge 24, 3) := by decide +kernel
theorem dX2_allUnits_12 : decode cX2_allUnits 12 = .ok (.iload_n 2, 1) := by decide +kernel
theorem dX2_allUnits_13 : decode cX2_allUnits 13 = .ok (.bipush 10, 2) := by decide +kernel
theorem dX2_allUnits_15 : decode cX2_allUnits 15 = .ok (.if_icmp .ge 18, 3) := by decide +kernel
theorem dX2_allUnits_18 : decode cX2_allUnits 18 = .ok (.iload_n 1, 1) := by decide +kernel
theorem dX2_allUnits_19 : decode cX2_allUnits 19 = .ok (.aload_n 0, 1) := by decide +kernel
theorem dX2_allUnits_20 : decode cX2_allUnits 20 = .ok (.getfield 11, 3) := by decide +kernel
theorem dX2_allUnits_23 : decode cX2_allUnits 23 = .ok (.iload_n 2, 1) := by decide +kernel
theorem dX2_allUnits_24 : decode cX2_allUnits 24 = .ok (.iaload, 1) := by decide +kernel
theorem dX2_allUnits_25 : decode cX2_allUnits 25 = .ok (.iadd, 1) := by decide +kernel
theorem dX2_allUnits_26 : decode cX2_allUnits 26 = .ok (.istore_n 1, 1) := by decide +kernel
theorem dX2_allUnits_27 : decode cX2_allUnits 27 = .ok (.iinc 2 1, 3) := by decide +kernel
theorem dX2_allUnits_30 : decode cX2_allUnits 30 = .ok (.goto (-26), 3) := by decide +kernel
theorem dX2_allUnits_33 : decode cX2_allUnits 33 = .ok (.iload_n 1, 1) := by decide +kernel
theorem dX2_allUnits_34 : decode cX2_allUnits 34 = .ok (.ireturn, 1) := by decide +kernel
theorem dX2_cardsOn_0 : decode cX2_cardsOn 0 = .ok (.iconst 0, 1) := by decide +kernel
theorem dX2_cardsOn_1 : decode cX2_cardsOn 1 = .ok (.istore_n 1, 1) := by decide +kernel
theorem dX2_cardsOn_2 : decode cX2_cardsOn 2 = .ok (.iconst 0, 1) := by decide +kernel
theorem dX2_cardsOn_3 : decode cX2_cardsOn 3 = .ok (.istore_n 2, 1) := by decide +kernel
theorem dX2_cardsOn_4 : decode cX2_cardsOn 4 = .ok (.iload_n 2, 1) := by decide +kernel
theorem dX2_cardsOn_5 : decode cX2_cardsOn 5 = .ok (.aload_n 0, 1) := by decide +kernel
theorem dX2_cardsOn_6 : decode cX2_cardsOn 6 = .ok (.getfield 25, 3) := by decide +kernel
theorem dX2_cardsOn_9 : decode cX2_cardsOn 9 = .ok (.if_icmp .ge 27, 3) := by decide +kernel
theorem dX2_cardsOn_12 : decode cX2_cardsOn 12 = .ok (.iload_n 2, 1) := by decide +kernel
theorem dX2_cardsOn_13 : decode cX2_cardsOn 13 = .ok (.bipush 10, 2) := by decide +kernel
theorem dX2_cardsOn_15 : decode cX2_cardsOn 15 = .ok (.if_icmp .ge 21, 3) := by decide +kernel
theorem dX2_cardsOn_18 : decode cX2_cardsOn 18 = .ok (.aload_n 0, 1) := by decide +kernel
theorem dX2_cardsOn_19 : decode cX2_cardsOn 19 = .ok (.getfield 15, 3) := by decide +kernel
theorem dX2_cardsOn_22 : decode cX2_cardsOn 22 = .ok (.iload_n 2, 1) := by decide +kernel
theorem dX2_cardsOn_23 : decode cX2_cardsOn 23 = .ok (.baload, 1) := by decide +kernel
theorem dX2_cardsOn_24 : decode cX2_cardsOn 24 = .ok (.ifCond .eq 6, 3) := by decide +kernel
theorem dX2_cardsOn_27 : decode cX2_cardsOn 27 = .ok (.iinc 1 1, 3) := by decide +kernel
theorem dX2_cardsOn_30 : decode cX2_cardsOn 30 = .ok (.iinc 2 1, 3) := by decide +kernel
theorem dX2_cardsOn_33 : decode cX2_cardsOn 33 = .ok (.goto (-29), 3) := by decide +kernel
theorem dX2_cardsOn_36 : decode cX2_cardsOn 36 = .ok (.iload_n 1, 1) := by decide +kernel
theorem dX2_cardsOn_37 : decode cX2_cardsOn 37 = .ok (.ireturn, 1) := by decide +kernel
theorem dX2_headUnits_0 : decode cX2_headUnits 0 = .ok (.aload_n 0, 1) := by decide +kernel
theorem dX2_headUnits_1 : decode cX2_headUnits 1 = .ok (.getfield 25, 3) := by decide +kernel
theorem dX2_headUnits_4 : decode cX2_headUnits 4 = .ok (.ifCond .le 12, 3) := by decide +kernel
theorem dX2_headUnits_7 : decode cX2_headUnits 7 = .ok (.aload_n 0, 1) := by decide +kernel
theorem dX2_headUnits_8 : decode cX2_headUnits 8 = .ok (.getfield 11, 3) := by decide +kernel
theorem dX2_headUnits_11 : decode cX2_headUnits 11 = .ok (.iconst 0, 1) := by decide +kernel
theorem dX2_headUnits_12 : decode cX2_headUnits 12 = .ok (.iaload, 1) := by decide +kernel
theorem dX2_headUnits_13 : decode cX2_headUnits 13 = .ok (.goto 4, 3) := by decide +kernel
theorem dX2_headUnits_16 : decode cX2_headUnits 16 = .ok (.iconst 0, 1) := by decide +kernel
theorem dX2_headUnits_17 : decode cX2_headUnits 17 = .ok (.ireturn, 1) := by decide +kernel
theorem dX2_headIsCarded_0 : decode cX2_headIsCarded 0 = .ok (.aload_n 0, 1) := by decide +kernel
theorem dX2_headIsCarded_1 : decode cX2_headIsCarded 1 = .ok (.getfield 25, 3) := by decide +kernel
theorem dX2_headIsCarded_4 : decode cX2_headIsCarded 4 = .ok (.ifCond .le 16, 3) := by decide +kernel
theorem dX2_headIsCarded_7 : decode cX2_headIsCarded 7 = .ok (.aload_n 0, 1) := by decide +kernel
theorem dX2_headIsCarded_8 : decode cX2_headIsCarded 8 = .ok (.getfield 15, 3) := by decide +kernel
theorem dX2_headIsCarded_11 : decode cX2_headIsCarded 11 = .ok (.iconst 0, 1) := by decide +kernel
theorem dX2_headIsCarded_12 : decode cX2_headIsCarded 12 = .ok (.baload, 1) := by decide +kernel
theorem dX2_headIsCarded_13 : decode cX2_headIsCarded 13 = .ok (.ifCond .eq 7, 3) := by decide +kernel
theorem dX2_headIsCarded_16 : decode cX2_headIsCarded 16 = .ok (.iconst 1, 1) := by decide +kernel
theorem dX2_headIsCarded_17 : decode cX2_headIsCarded 17 = .ok (.goto 4, 3) := by decide +kernel
theorem dX2_headIsCarded_20 : decode cX2_headIsCarded 20 = .ok (.iconst 0, 1) := by decide +kernel
theorem dX2_headIsCarded_21 : decode cX2_headIsCarded 21 = .ok (.ireturn, 1) := by decide +kernel
theorem dX2_add_0 : decode cX2_add 0 = .ok (.aload_n 0, 1) := by decide +kernel
theorem dX2_add_1 : decode cX2_add 1 = .ok (.getfield 25, 3) := by decide +kernel
theorem dX2_add_4 : decode cX2_add 4 = .ok (.ifCond .lt 42, 3) := by decide +kernel
theorem dX2_add_7 : decode cX2_add 7 = .ok (.aload_n 0, 1) := by decide +kernel
theorem dX2_add_8 : decode cX2_add 8 = .ok (.getfield 25, 3) := by decide +kernel
theorem dX2_add_11 : decode cX2_add 11 = .ok (.bipush 10, 2) := by decide +kernel
theorem dX2_add_13 : decode cX2_add 13 = .ok (.if_icmp .ge 33, 3) := by decide +kernel
theorem dX2_add_16 : decode cX2_add 16 = .ok (.aload_n 0, 1) := by decide +kernel
theorem dX2_add_17 : decode cX2_add 17 = .ok (.getfield 11, 3) := by decide +kernel
theorem dX2_add_20 : decode cX2_add 20 = .ok (.aload_n 0, 1) := by decide +kernel
theorem dX2_add_21 : decode cX2_add 21 = .ok (.getfield 25, 3) := by decide +kernel
theorem dX2_add_24 : decode cX2_add 24 = .ok (.iload_n 1, 1) := by decide +kernel
theorem dX2_add_25 : decode cX2_add 25 = .ok (.iastore, 1) := by decide +kernel
theorem dX2_add_26 : decode cX2_add 26 = .ok (.aload_n 0, 1) := by decide +kernel
theorem dX2_add_27 : decode cX2_add 27 = .ok (.getfield 15, 3) := by decide +kernel
theorem dX2_add_30 : decode cX2_add 30 = .ok (.aload_n 0, 1) := by decide +kernel
theorem dX2_add_31 : decode cX2_add 31 = .ok (.getfield 25, 3) := by decide +kernel
theorem dX2_add_34 : decode cX2_add 34 = .ok (.iconst 1, 1) := by decide +kernel
theorem dX2_add_35 : decode cX2_add 35 = .ok (.bastore, 1) := by decide +kernel
theorem dX2_add_36 : decode cX2_add 36 = .ok (.aload_n 0, 1) := by decide +kernel
theorem dX2_add_37 : decode cX2_add 37 = .ok (.dup, 1) := by decide +kernel
theorem dX2_add_38 : decode cX2_add 38 = .ok (.getfield 25, 3) := by decide +kernel
theorem dX2_add_41 : decode cX2_add 41 = .ok (.iconst 1, 1) := by decide +kernel
theorem dX2_add_42 : decode cX2_add 42 = .ok (.iadd, 1) := by decide +kernel
theorem dX2_add_43 : decode cX2_add 43 = .ok (.putfield 25, 3) := by decide +kernel
theorem dX2_add_46 : decode cX2_add 46 = .ok (.return_, 1) := by decide +kernel
theorem dX2_removeHead_0 : decode cX2_removeHead 0 = .ok (.aload_n 0, 1) := by decide +kernel
theorem dX2_removeHead_1 : decode cX2_removeHead 1 = .ok (.getfield 25, 3) := by decide +kernel
theorem dX2_removeHead_4 : decode cX2_removeHead 4 = .ok (.iconst 1, 1) := by decide +kernel
theorem dX2_removeHead_5 : decode cX2_removeHead 5 = .ok (.if_icmp .ge 4, 3) := by decide +kernel
theorem dX2_removeHead_8 : decode cX2_removeHead 8 = .ok (.return_, 1) := by decide +kernel
theorem dX2_removeHead_9 : decode cX2_removeHead 9 = .ok (.iconst 1, 1) := by decide +kernel
theorem dX2_removeHead_10 : decode cX2_removeHead 10 = .ok (.istore_n 1, 1) := by decide +kernel
theorem dX2_removeHead_11 : decode cX2_removeHead 11 = .ok (.iload_n 1, 1) := by decide +kernel
theorem dX2_removeHead_12 : decode cX2_removeHead 12 = .ok (.aload_n 0, 1) := by decide +kernel
theorem dX2_removeHead_13 : decode cX2_removeHead 13 = .ok (.getfield 25, 3) := by decide +kernel
theorem dX2_removeHead_16 : decode cX2_removeHead 16 = .ok (.if_icmp .ge 43, 3) := by decide +kernel
theorem dX2_removeHead_19 : decode cX2_removeHead 19 = .ok (.iload_n 1, 1) := by decide +kernel
theorem dX2_removeHead_20 : decode cX2_removeHead 20 = .ok (.bipush 10, 2) := by decide +kernel
theorem dX2_removeHead_22 : decode cX2_removeHead 22 = .ok (.if_icmp .ge 37, 3) := by decide +kernel
theorem dX2_removeHead_25 : decode cX2_removeHead 25 = .ok (.aload_n 0, 1) := by decide +kernel
theorem dX2_removeHead_26 : decode cX2_removeHead 26 = .ok (.getfield 11, 3) := by decide +kernel
theorem dX2_removeHead_29 : decode cX2_removeHead 29 = .ok (.iload_n 1, 1) := by decide +kernel
theorem dX2_removeHead_30 : decode cX2_removeHead 30 = .ok (.iconst 1, 1) := by decide +kernel
theorem dX2_removeHead_31 : decode cX2_removeHead 31 = .ok (.isub, 1) := by decide +kernel
theorem dX2_removeHead_32 : decode cX2_removeHead 32 = .ok (.aload_n 0, 1) := by decide +kernel
theorem dX2_removeHead_33 : decode cX2_removeHead 33 = .ok (.getfield 11, 3) := by decide +kernel
theorem dX2_removeHead_36 : decode cX2_removeHead 36 = .ok (.iload_n 1, 1) := by decide +kernel
theorem dX2_removeHead_37 : decode cX2_removeHead 37 = .ok (.iaload, 1) := by decide +kernel
theorem dX2_removeHead_38 : decode cX2_removeHead 38 = .ok (.iastore, 1) := by decide +kernel
theorem dX2_removeHead_39 : decode cX2_removeHead 39 = .ok (.aload_n 0, 1) := by decide +kernel
theorem dX2_removeHead_40 : decode cX2_removeHead 40 = .ok (.getfield 15, 3) := by decide +kernel
theorem dX2_removeHead_43 : decode cX2_removeHead 43 = .ok (.iload_n 1, 1) := by decide +kernel
theorem dX2_removeHead_44 : decode cX2_removeHead 44 = .ok (.iconst 1, 1) := by decide +kernel
theorem dX2_removeHead_45 : decode cX2_removeHead 45 = .ok (.isub, 1) := by decide +kernel
theorem dX2_removeHead_46 : decode cX2_removeHead 46 = .ok (.aload_n 0, 1) := by decide +kernel
theorem dX2_removeHead_47 : decode cX2_removeHead 47 = .ok (.getfield 15, 3) := by decide +kernel
theorem dX2_removeHead_50 : decode cX2_removeHead 50 = .ok (.iload_n 1, 1) := by decide +kernel
theorem dX2_removeHead_51 : decode cX2_removeHead 51 = .ok (.baload, 1) := by decide +kernel
theorem dX2_removeHead_52 : decode cX2_removeHead 52 = .ok (.bastore, 1) := by decide +kernel
theorem dX2_removeHead_53 : decode cX2_removeHead 53 = .ok (.iinc 1 1, 3) := by decide +kernel
theorem dX2_removeHead_56 : decode cX2_removeHead 56 = .ok (.goto (-45), 3) := by decide +kernel
theorem dX2_removeHead_59 : decode cX2_removeHead 59 = .ok (.aload_n 0, 1) := by decide +kernel
theorem dX2_removeHead_60 : decode cX2_removeHead 60 = .ok (.dup, 1) := by decide +kernel
theorem dX2_removeHead_61 : decode cX2_removeHead 61 = .ok (.getfield 25, 3) := by decide +kernel
theorem dX2_removeHead_64 : decode cX2_removeHead 64 = .ok (.iconst 1, 1) := by decide +kernel
theorem dX2_removeHead_65 : decode cX2_removeHead 65 = .ok (.isub, 1) := by decide +kernel
theorem dX2_removeHead_66 : decode cX2_removeHead 66 = .ok (.putfield 25, 3) := by decide +kernel
theorem dX2_removeHead_69 : decode cX2_removeHead 69 = .ok (.return_, 1) := by decide +kernel
theorem dX2_takeOut_0 : decode cX2_takeOut 0 = .ok (.iload_n 1, 1) := by decide +kernel
theorem dX2_takeOut_1 : decode cX2_takeOut 1 = .ok (.istore_n 3, 1) := by decide +kernel
theorem dX2_takeOut_2 : decode cX2_takeOut 2 = .ok (.iconst 0, 1) := by decide +kernel
theorem dX2_takeOut_3 : decode cX2_takeOut 3 = .ok (.istore 4, 2) := by decide +kernel
theorem dX2_takeOut_5 : decode cX2_takeOut 5 = .ok (.aload_n 0, 1) := by decide +kernel
theorem dX2_takeOut_6 : decode cX2_takeOut 6 = .ok (.getfield 25, 3) := by decide +kernel
theorem dX2_takeOut_9 : decode cX2_takeOut 9 = .ok (.istore 5, 2) := by decide +kernel
theorem dX2_takeOut_11 : decode cX2_takeOut 11 = .ok (.iload 5, 2) := by decide +kernel
theorem dX2_takeOut_13 : decode cX2_takeOut 13 = .ok (.ifCond .le 94, 3) := by decide +kernel
theorem dX2_takeOut_16 : decode cX2_takeOut 16 = .ok (.iload_n 3, 1) := by decide +kernel
theorem dX2_takeOut_17 : decode cX2_takeOut 17 = .ok (.ifCond .le 90, 3) := by decide +kernel
theorem dX2_takeOut_20 : decode cX2_takeOut 20 = .ok (.iload_n 3, 1) := by decide +kernel
theorem dX2_takeOut_21 : decode cX2_takeOut 21 = .ok (.aload_n 0, 1) := by decide +kernel
theorem dX2_takeOut_22 : decode cX2_takeOut 22 = .ok (.getfield 11, 3) := by decide +kernel
theorem dX2_takeOut_25 : decode cX2_takeOut 25 = .ok (.iconst 0, 1) := by decide +kernel
theorem dX2_takeOut_26 : decode cX2_takeOut 26 = .ok (.iaload, 1) := by decide +kernel
theorem dX2_takeOut_27 : decode cX2_takeOut 27 = .ok (.invokestatic 19, 3) := by decide +kernel
theorem dX2_takeOut_30 : decode cX2_takeOut 30 = .ok (.istore 6, 2) := by decide +kernel
theorem dX2_takeOut_32 : decode cX2_takeOut 32 = .ok (.iload_n 3, 1) := by decide +kernel
theorem dX2_takeOut_33 : decode cX2_takeOut 33 = .ok (.iload 6, 2) := by decide +kernel
theorem dX2_takeOut_35 : decode cX2_takeOut 35 = .ok (.isub, 1) := by decide +kernel
theorem dX2_takeOut_36 : decode cX2_takeOut 36 = .ok (.istore_n 3, 1) := by decide +kernel
theorem dX2_takeOut_37 : decode cX2_takeOut 37 = .ok (.aload_n 0, 1) := by decide +kernel
theorem dX2_takeOut_38 : decode cX2_takeOut 38 = .ok (.getfield 11, 3) := by decide +kernel
theorem dX2_takeOut_41 : decode cX2_takeOut 41 = .ok (.iconst 0, 1) := by decide +kernel
theorem dX2_takeOut_42 : decode cX2_takeOut 42 = .ok (.dup2, 1) := by decide +kernel
theorem dX2_takeOut_43 : decode cX2_takeOut 43 = .ok (.iaload, 1) := by decide +kernel
theorem dX2_takeOut_44 : decode cX2_takeOut 44 = .ok (.iload 6, 2) := by decide +kernel
theorem dX2_takeOut_46 : decode cX2_takeOut 46 = .ok (.isub, 1) := by decide +kernel
theorem dX2_takeOut_47 : decode cX2_takeOut 47 = .ok (.iastore, 1) := by decide +kernel
theorem dX2_takeOut_48 : decode cX2_takeOut 48 = .ok (.aload_n 0, 1) := by decide +kernel
theorem dX2_takeOut_49 : decode cX2_takeOut 49 = .ok (.getfield 11, 3) := by decide +kernel
theorem dX2_takeOut_52 : decode cX2_takeOut 52 = .ok (.iconst 0, 1) := by decide +kernel
theorem dX2_takeOut_53 : decode cX2_takeOut 53 = .ok (.iaload, 1) := by decide +kernel
theorem dX2_takeOut_54 : decode cX2_takeOut 54 = .ok (.ifCond .ne 7, 3) := by decide +kernel
theorem dX2_takeOut_57 : decode cX2_takeOut 57 = .ok (.iconst 1, 1) := by decide +kernel
theorem dX2_takeOut_58 : decode cX2_takeOut 58 = .ok (.goto 4, 3) := by decide +kernel
theorem dX2_takeOut_61 : decode cX2_takeOut 61 = .ok (.iconst 0, 1) := by decide +kernel
theorem dX2_takeOut_62 : decode cX2_takeOut 62 = .ok (.istore 7, 2) := by decide +kernel
theorem dX2_takeOut_64 : decode cX2_takeOut 64 = .ok (.aload_n 0, 1) := by decide +kernel
theorem dX2_takeOut_65 : decode cX2_takeOut 65 = .ok (.getfield 15, 3) := by decide +kernel
theorem dX2_takeOut_68 : decode cX2_takeOut 68 = .ok (.iconst 0, 1) := by decide +kernel
theorem dX2_takeOut_69 : decode cX2_takeOut 69 = .ok (.baload, 1) := by decide +kernel
theorem dX2_takeOut_70 : decode cX2_takeOut 70 = .ok (.ifCond .eq 22, 3) := by decide +kernel
theorem dX2_takeOut_73 : decode cX2_takeOut 73 = .ok (.iload_n 2, 1) := by decide +kernel
theorem dX2_takeOut_74 : decode cX2_takeOut 74 = .ok (.ifCond .ne 8, 3) := by decide +kernel
theorem dX2_takeOut_77 : decode cX2_takeOut 77 = .ok (.iload 7, 2) := by decide +kernel
theorem dX2_takeOut_79 : decode cX2_takeOut 79 = .ok (.ifCond .eq 13, 3) := by decide +kernel
theorem dX2_takeOut_82 : decode cX2_takeOut 82 = .ok (.aload_n 0, 1) := by decide +kernel
theorem dX2_takeOut_83 : decode cX2_takeOut 83 = .ok (.getfield 15, 3) := by decide +kernel
theorem dX2_takeOut_86 : decode cX2_takeOut 86 = .ok (.iconst 0, 1) := by decide +kernel
theorem dX2_takeOut_87 : decode cX2_takeOut 87 = .ok (.iconst 0, 1) := by decide +kernel
theorem dX2_takeOut_88 : decode cX2_takeOut 88 = .ok (.bastore, 1) := by decide +kernel
theorem dX2_takeOut_89 : decode cX2_takeOut 89 = .ok (.iinc 4 1, 3) := by decide +kernel
theorem dX2_takeOut_92 : decode cX2_takeOut 92 = .ok (.iload 7, 2) := by decide +kernel
theorem dX2_takeOut_94 : decode cX2_takeOut 94 = .ok (.ifCond .eq 7, 3) := by decide +kernel
theorem dX2_takeOut_97 : decode cX2_takeOut 97 = .ok (.aload_n 0, 1) := by decide +kernel
theorem dX2_takeOut_98 : decode cX2_takeOut 98 = .ok (.invokevirtual 29, 3) := by decide +kernel
theorem dX2_takeOut_101 : decode cX2_takeOut 101 = .ok (.iinc 5 (-1), 3) := by decide +kernel
theorem dX2_takeOut_104 : decode cX2_takeOut 104 = .ok (.goto (-93), 3) := by decide +kernel
theorem dX2_takeOut_107 : decode cX2_takeOut 107 = .ok (.iload 4, 2) := by decide +kernel
theorem dX2_takeOut_109 : decode cX2_takeOut 109 = .ok (.ireturn, 1) := by decide +kernel
theorem dX3_init_0 : decode cX3_init 0 = .ok (.aload_n 0, 1) := by decide +kernel
theorem dX3_init_1 : decode cX3_init 1 = .ok (.invokespecial 1, 3) := by decide +kernel
theorem dX3_init_4 : decode cX3_init 4 = .ok (.aload_n 0, 1) := by decide +kernel
theorem dX3_init_5 : decode cX3_init 5 = .ok (.aconst_null, 1) := by decide +kernel
theorem dX3_init_6 : decode cX3_init 6 = .ok (.putfield 7, 3) := by decide +kernel
theorem dX3_init_9 : decode cX3_init 9 = .ok (.aload_n 0, 1) := by decide +kernel
theorem dX3_init_10 : decode cX3_init 10 = .ok (.iconst 0, 1) := by decide +kernel
theorem dX3_init_11 : decode cX3_init 11 = .ok (.putfield 13, 3) := by decide +kernel
theorem dX3_init_14 : decode cX3_init 14 = .ok (.aload_n 0, 1) := by decide +kernel
theorem dX3_init_15 : decode cX3_init 15 = .ok (.iconst 0, 1) := by decide +kernel
theorem dX3_init_16 : decode cX3_init 16 = .ok (.putfield 17, 3) := by decide +kernel
theorem dX3_init_19 : decode cX3_init 19 = .ok (.aload_n 0, 1) := by decide +kernel
theorem dX3_init_20 : decode cX3_init 20 = .ok (.iconst 0, 1) := by decide +kernel
theorem dX3_init_21 : decode cX3_init 21 = .ok (.putfield 21, 3) := by decide +kernel
theorem dX3_init_24 : decode cX3_init 24 = .ok (.aload_n 0, 1) := by decide +kernel
theorem dX3_init_25 : decode cX3_init 25 = .ok (.iconst 0, 1) := by decide +kernel
theorem dX3_init_26 : decode cX3_init 26 = .ok (.putfield 24, 3) := by decide +kernel
theorem dX3_init_29 : decode cX3_init 29 = .ok (.aload_n 0, 1) := by decide +kernel
theorem dX3_init_30 : decode cX3_init 30 = .ok (.iconst 0, 1) := by decide +kernel
theorem dX3_init_31 : decode cX3_init 31 = .ok (.putfield 27, 3) := by decide +kernel
theorem dX3_init_34 : decode cX3_init 34 = .ok (.aload_n 0, 1) := by decide +kernel
theorem dX3_init_35 : decode cX3_init 35 = .ok (.iconst 0, 1) := by decide +kernel
theorem dX3_init_36 : decode cX3_init 36 = .ok (.putfield 30, 3) := by decide +kernel
theorem dX3_init_39 : decode cX3_init 39 = .ok (.aload_n 0, 1) := by decide +kernel
theorem dX3_init_40 : decode cX3_init 40 = .ok (.iconst 0, 1) := by decide +kernel
theorem dX3_init_41 : decode cX3_init 41 = .ok (.putfield 33, 3) := by decide +kernel
theorem dX3_init_44 : decode cX3_init 44 = .ok (.return_, 1) := by decide +kernel
theorem dX3_stage_0 : decode cX3_stage 0 = .ok (.iload_n 1, 1) := by decide +kernel
theorem dX3_stage_1 : decode cX3_stage 1 = .ok (.iconst 1, 1) := by decide +kernel
theorem dX3_stage_2 : decode cX3_stage 2 = .ok (.bipush 9, 2) := by decide +kernel
theorem dX3_stage_4 : decode cX3_stage 4 = .ok (.invokestatic 36, 3) := by decide +kernel
theorem dX3_stage_7 : decode cX3_stage 7 = .ok (.iload_n 2, 1) := by decide +kernel
theorem dX3_stage_8 : decode cX3_stage 8 = .ok (.iconst 1, 1) := by decide +kernel
theorem dX3_stage_9 : decode cX3_stage 9 = .ok (.bipush 10, 2) := by decide +kernel
theorem dX3_stage_11 : decode cX3_stage 11 = .ok (.invokestatic 36, 3) := by decide +kernel
theorem dX3_stage_14 : decode cX3_stage 14 = .ok (.iload_n 3, 1) := by decide +kernel
theorem dX3_stage_15 : decode cX3_stage 15 = .ok (.iconst 1, 1) := by decide +kernel
theorem dX3_stage_16 : decode cX3_stage 16 = .ok (.bipush 9, 2) := by decide +kernel
theorem dX3_stage_18 : decode cX3_stage 18 = .ok (.invokestatic 36, 3) := by decide +kernel
theorem dX3_stage_21 : decode cX3_stage 21 = .ok (.iload 4, 2) := by decide +kernel
theorem dX3_stage_23 : decode cX3_stage 23 = .ok (.iconst 1, 1) := by decide +kernel
theorem dX3_stage_24 : decode cX3_stage 24 = .ok (.bipush 9, 2) := by decide +kernel
theorem dX3_stage_26 : decode cX3_stage 26 = .ok (.invokestatic 36, 3) := by decide +kernel
theorem dX3_stage_29 : decode cX3_stage 29 = .ok (.aload_n 0, 1) := by decide +kernel
theorem dX3_stage_30 : decode cX3_stage 30 = .ok (.getfield 13, 3) := by decide +kernel
theorem dX3_stage_33 : decode cX3_stage 33 = .ok (.bipush 6, 2) := by decide +kernel
theorem dX3_stage_35 : decode cX3_stage 35 = .ok (.if_icmp .lt 13, 3) := by decide +kernel
theorem dX3_stage_38 : decode cX3_stage 38 = .ok (.new 40, 3) := by decide +kernel
theorem dX3_stage_41 : decode cX3_stage 41 = .ok (.dup, 1) := by decide +kernel
theorem dX3_stage_42 : decode cX3_stage 42 = .ok (.ldc 42, 2) := by decide +kernel
theorem dX3_stage_44 : decode cX3_stage 44 = .ok (.invokespecial 44, 3) := by decide +kernel
theorem dX3_stage_47 : decode cX3_stage 47 = .ok (.athrow, 1) := by decide +kernel
theorem dX3_stage_48 : decode cX3_stage 48 = .ok (.aload_n 0, 1) := by decide +kernel
theorem dX3_stage_49 : decode cX3_stage 49 = .ok (.new 47, 3) := by decide +kernel
theorem dX3_stage_52 : decode cX3_stage 52 = .ok (.dup, 1) := by decide +kernel
theorem dX3_stage_53 : decode cX3_stage 53 = .ok (.aload_n 0, 1) := by decide +kernel
theorem dX3_stage_54 : decode cX3_stage 54 = .ok (.getfield 7, 3) := by decide +kernel
theorem dX3_stage_57 : decode cX3_stage 57 = .ok (.iload_n 1, 1) := by decide +kernel
theorem dX3_stage_58 : decode cX3_stage 58 = .ok (.iload_n 2, 1) := by decide +kernel
theorem dX3_stage_59 : decode cX3_stage 59 = .ok (.iload_n 3, 1) := by decide +kernel
theorem dX3_stage_60 : decode cX3_stage 60 = .ok (.iload 4, 2) := by decide +kernel
theorem dX3_stage_62 : decode cX3_stage 62 = .ok (.iload 5, 2) := by decide +kernel
theorem dX3_stage_64 : decode cX3_stage 64 = .ok (.invokespecial 49, 3) := by decide +kernel
theorem dX3_stage_67 : decode cX3_stage 67 = .ok (.putfield 7, 3) := by decide +kernel
theorem dX3_stage_70 : decode cX3_stage 70 = .ok (.aload_n 0, 1) := by decide +kernel
theorem dX3_stage_71 : decode cX3_stage 71 = .ok (.dup, 1) := by decide +kernel
theorem dX3_stage_72 : decode cX3_stage 72 = .ok (.getfield 13, 3) := by decide +kernel
theorem dX3_stage_75 : decode cX3_stage 75 = .ok (.iconst 1, 1) := by decide +kernel
theorem dX3_stage_76 : decode cX3_stage 76 = .ok (.iadd, 1) := by decide +kernel
theorem dX3_stage_77 : decode cX3_stage 77 = .ok (.putfield 13, 3) := by decide +kernel
theorem dX3_stage_80 : decode cX3_stage 80 = .ok (.aload_n 0, 1) := by decide +kernel
theorem dX3_stage_81 : decode cX3_stage 81 = .ok (.getfield 7, 3) := by decide +kernel
theorem dX3_stage_84 : decode cX3_stage 84 = .ok (.getfield 52, 3) := by decide +kernel
theorem dX3_stage_87 : decode cX3_stage 87 = .ok (.ireturn, 1) := by decide +kernel
theorem dX3_way_0 : decode cX3_way 0 = .ok (.aload_n 0, 1) := by decide +kernel
theorem dX3_way_1 : decode cX3_way 1 = .ok (.iload_n 1, 1) := by decide +kernel
theorem dX3_way_2 : decode cX3_way 2 = .ok (.invokevirtual 55, 3) := by decide +kernel
theorem dX3_way_5 : decode cX3_way 5 = .ok (.astore_n 3, 1) := by decide +kernel
theorem dX3_way_6 : decode cX3_way 6 = .ok (.iload_n 2, 1) := by decide +kernel
theorem dX3_way_7 : decode cX3_way 7 = .ok (.iconst 0, 1) := by decide +kernel
theorem dX3_way_8 : decode cX3_way 8 = .ok (.iconst 5, 1) := by decide +kernel
theorem dX3_way_9 : decode cX3_way 9 = .ok (.invokestatic 36, 3) := by decide +kernel
theorem dX3_way_12 : decode cX3_way 12 = .ok (.aload_n 3, 1) := by decide +kernel
theorem dX3_way_13 : decode cX3_way 13 = .ok (.getfield 59, 3) := by decide +kernel
theorem dX3_way_16 : decode cX3_way 16 = .ok (.istore 4, 2) := by decide +kernel
theorem dX3_way_18 : decode cX3_way 18 = .ok (.aload_n 3, 1) := by decide +kernel
theorem dX3_way_19 : decode cX3_way 19 = .ok (.iload_n 2, 1) := by decide +kernel
theorem dX3_way_20 : decode cX3_way 20 = .ok (.putfield 59, 3) := by decide +kernel
theorem dX3_way_23 : decode cX3_way 23 = .ok (.iload 4, 2) := by decide +kernel
theorem dX3_way_25 : decode cX3_way 25 = .ok (.ireturn, 1) := by decide +kernel
theorem dX3_mark_0 : decode cX3_mark 0 = .ok (.aload_n 0, 1) := by decide +kernel
theorem dX3_mark_1 : decode cX3_mark 1 = .ok (.iload_n 1, 1) := by decide +kernel
theorem dX3_mark_2 : decode cX3_mark 2 = .ok (.invokevirtual 62, 3) := by decide +kernel
theorem dX3_mark_5 : decode cX3_mark 5 = .ok (.astore_n 3, 1) := by decide +kernel
theorem dX3_mark_6 : decode cX3_mark 6 = .ok (.iload_n 2, 1) := by decide +kernel
theorem dX3_mark_7 : decode cX3_mark 7 = .ok (.iconst 1, 1) := by decide +kernel
theorem dX3_mark_8 : decode cX3_mark 8 = .ok (.bipush 9, 2) := by decide +kernel
theorem dX3_mark_10 : decode cX3_mark 10 = .ok (.invokestatic 36, 3) := by decide +kernel
theorem dX3_mark_13 : decode cX3_mark 13 = .ok (.aload_n 3, 1) := by decide +kernel
theorem dX3_mark_14 : decode cX3_mark 14 = .ok (.getfield 65, 3) := by decide +kernel
theorem dX3_mark_17 : decode cX3_mark 17 = .ok (.istore 4, 2) := by decide +kernel
theorem dX3_mark_19 : decode cX3_mark 19 = .ok (.aload_n 3, 1) := by decide +kernel
theorem dX3_mark_20 : decode cX3_mark 20 = .ok (.iload_n 2, 1) := by decide +kernel
theorem dX3_mark_21 : decode cX3_mark 21 = .ok (.putfield 65, 3) := by decide +kernel
theorem dX3_mark_24 : decode cX3_mark 24 = .ok (.iload 4, 2) := by decide +kernel
theorem dX3_mark_26 : decode cX3_mark 26 = .ok (.ireturn, 1) := by decide +kernel
theorem dX3_rule_0 : decode cX3_rule 0 = .ok (.aload_n 0, 1) := by decide +kernel
theorem dX3_rule_1 : decode cX3_rule 1 = .ok (.getfield 17, 3) := by decide +kernel
theorem dX3_rule_4 : decode cX3_rule 4 = .ok (.istore_n 2, 1) := by decide +kernel
theorem dX3_rule_5 : decode cX3_rule 5 = .ok (.aload_n 0, 1) := by decide +kernel
theorem dX3_rule_6 : decode cX3_rule 6 = .ok (.iload_n 1, 1) := by decide +kernel
theorem dX3_rule_7 : decode cX3_rule 7 = .ok (.putfield 17, 3) := by decide +kernel
theorem dX3_rule_10 : decode cX3_rule 10 = .ok (.iload_n 2, 1) := by decide +kernel
theorem dX3_rule_11 : decode cX3_rule 11 = .ok (.ireturn, 1) := by decide +kernel
theorem dX3_demand_0 : decode cX3_demand 0 = .ok (.iload_n 1, 1) := by decide +kernel
theorem dX3_demand_1 : decode cX3_demand 1 = .ok (.iconst 0, 1) := by decide +kernel
theorem dX3_demand_2 : decode cX3_demand 2 = .ok (.bipush 20, 2) := by decide +kernel
theorem dX3_demand_4 : decode cX3_demand 4 = .ok (.invokestatic 36, 3) := by decide +kernel
theorem dX3_demand_7 : decode cX3_demand 7 = .ok (.aload_n 0, 1) := by decide +kernel
theorem dX3_demand_8 : decode cX3_demand 8 = .ok (.getfield 21, 3) := by decide +kernel
theorem dX3_demand_11 : decode cX3_demand 11 = .ok (.istore_n 2, 1) := by decide +kernel
theorem dX3_demand_12 : decode cX3_demand 12 = .ok (.aload_n 0, 1) := by decide +kernel
theorem dX3_demand_13 : decode cX3_demand 13 = .ok (.iload_n 1, 1) := by decide +kernel
theorem dX3_demand_14 : decode cX3_demand 14 = .ok (.putfield 21, 3) := by decide +kernel
theorem dX3_demand_17 : decode cX3_demand 17 = .ok (.iload_n 2, 1) := by decide +kernel
theorem dX3_demand_18 : decode cX3_demand 18 = .ok (.ireturn, 1) := by decide +kernel
theorem dX3_stop_0 : decode cX3_stop 0 = .ok (.aload_n 0, 1) := by decide +kernel
theorem dX3_stop_1 : decode cX3_stop 1 = .ok (.iload_n 1, 1) := by decide +kernel
theorem dX3_stop_2 : decode cX3_stop 2 = .ok (.invokevirtual 62, 3) := by decide +kernel
theorem dX3_stop_5 : decode cX3_stop 5 = .ok (.astore_n 2, 1) := by decide +kernel
theorem dX3_stop_6 : decode cX3_stop 6 = .ok (.aload_n 2, 1) := by decide +kernel
theorem dX3_stop_7 : decode cX3_stop 7 = .ok (.aload_n 2, 1) := by decide +kernel
theorem dX3_stop_8 : decode cX3_stop 8 = .ok (.getfield 68, 3) := by decide +kernel
theorem dX3_stop_11 : decode cX3_stop 11 = .ok (.ifCond .ne 7, 3) := by decide +kernel
theorem dX3_stop_14 : decode cX3_stop 14 = .ok (.iconst 1, 1) := by decide +kernel
theorem dX3_stop_15 : decode cX3_stop 15 = .ok (.goto 4, 3) := by decide +kernel
theorem dX3_stop_18 : decode cX3_stop 18 = .ok (.iconst 0, 1) := by decide +kernel
theorem dX3_stop_19 : decode cX3_stop 19 = .ok (.putfield 68, 3) := by decide +kernel
theorem dX3_stop_22 : decode cX3_stop 22 = .ok (.aload_n 2, 1) := by decide +kernel
theorem dX3_stop_23 : decode cX3_stop 23 = .ok (.getfield 68, 3) := by decide +kernel
theorem dX3_stop_26 : decode cX3_stop 26 = .ok (.ireturn, 1) := by decide +kernel
theorem dX3_issue_0 : decode cX3_issue 0 = .ok (.aload_n 0, 1) := by decide +kernel
theorem dX3_issue_1 : decode cX3_issue 1 = .ok (.iload_n 1, 1) := by decide +kernel
theorem dX3_issue_2 : decode cX3_issue 2 = .ok (.invokevirtual 62, 3) := by decide +kernel
theorem dX3_issue_5 : decode cX3_issue 5 = .ok (.astore_n 2, 1) := by decide +kernel
theorem dX3_issue_6 : decode cX3_issue 6 = .ok (.aload_n 2, 1) := by decide +kernel
theorem dX3_issue_7 : decode cX3_issue 7 = .ok (.getfield 71, 3) := by decide +kernel
theorem dX3_issue_10 : decode cX3_issue 10 = .ok (.bipush 9, 2) := by decide +kernel
theorem dX3_issue_12 : decode cX3_issue 12 = .ok (.if_icmp .lt 13, 3) := by decide +kernel
theorem dX3_issue_15 : decode cX3_issue 15 = .ok (.new 40, 3) := by decide +kernel
theorem dX3_issue_18 : decode cX3_issue 18 = .ok (.dup, 1) := by decide +kernel
theorem dX3_issue_19 : decode cX3_issue 19 = .ok (.ldc 74, 2) := by decide +kernel
theorem dX3_issue_21 : decode cX3_issue 21 = .ok (.invokespecial 44, 3) := by decide +kernel
theorem dX3_issue_24 : decode cX3_issue 24 = .ok (.athrow, 1) := by decide +kernel
theorem dX3_issue_25 : decode cX3_issue 25 = .ok (.aload_n 2, 1) := by decide +kernel
theorem dX3_issue_26 : decode cX3_issue 26 = .ok (.dup, 1) := by decide +kernel
theorem dX3_issue_27 : decode cX3_issue 27 = .ok (.getfield 71, 3) := by decide +kernel
theorem dX3_issue_30 : decode cX3_issue 30 = .ok (.iconst 1, 1) := by decide +kernel
theorem dX3_issue_31 : decode cX3_issue 31 = .ok (.iadd, 1) := by decide +kernel
theorem dX3_issue_32 : decode cX3_issue 32 = .ok (.putfield 71, 3) := by decide +kernel
theorem dX3_issue_35 : decode cX3_issue 35 = .ok (.aload_n 2, 1) := by decide +kernel
theorem dX3_issue_36 : decode cX3_issue 36 = .ok (.dup, 1) := by decide +kernel
theorem dX3_issue_37 : decode cX3_issue 37 = .ok (.getfield 76, 3) := by decide +kernel
theorem dX3_issue_40 : decode cX3_issue 40 = .ok (.iconst 1, 1) := by decide +kernel
theorem dX3_issue_41 : decode cX3_issue 41 = .ok (.iadd, 1) := by decide +kernel
theorem dX3_issue_42 : decode cX3_issue 42 = .ok (.putfield 76, 3) := by decide +kernel
theorem dX3_issue_45 : decode cX3_issue 45 = .ok (.aload_n 2, 1) := by decide +kernel
theorem dX3_issue_46 : decode cX3_issue 46 = .ok (.getfield 71, 3) := by decide +kernel
theorem dX3_issue_49 : decode cX3_issue 49 = .ok (.ireturn, 1) := by decide +kernel
theorem dX3_retire_0 : decode cX3_retire 0 = .ok (.aload_n 0, 1) := by decide +kernel
theorem dX3_retire_1 : decode cX3_retire 1 = .ok (.iload_n 1, 1) := by decide +kernel
theorem dX3_retire_2 : decode cX3_retire 2 = .ok (.invokevirtual 62, 3) := by decide +kernel
theorem dX3_retire_5 : decode cX3_retire 5 = .ok (.astore_n 2, 1) := by decide +kernel
theorem dX3_retire_6 : decode cX3_retire 6 = .ok (.aload_n 2, 1) := by decide +kernel
theorem dX3_retire_7 : decode cX3_retire 7 = .ok (.getfield 76, 3) := by decide +kernel
theorem dX3_retire_10 : decode cX3_retire 10 = .ok (.iconst 1, 1) := by decide +kernel
theorem dX3_retire_11 : decode cX3_retire 11 = .ok (.if_icmp .lt 11, 3) := by decide +kernel
theorem dX3_retire_14 : decode cX3_retire 14 = .ok (.aload_n 2, 1) := by decide +kernel
theorem dX3_retire_15 : decode cX3_retire 15 = .ok (.getfield 71, 3) := by decide +kernel
theorem dX3_retire_18 : decode cX3_retire 18 = .ok (.iconst 1, 1) := by decide +kernel
theorem dX3_retire_19 : decode cX3_retire 19 = .ok (.if_icmp .gt 13, 3) := by decide +kernel
theorem dX3_retire_22 : decode cX3_retire 22 = .ok (.new 40, 3) := by decide +kernel
theorem dX3_retire_25 : decode cX3_retire 25 = .ok (.dup, 1) := by decide +kernel
theorem dX3_retire_26 : decode cX3_retire 26 = .ok (.ldc 79, 2) := by decide +kernel
theorem dX3_retire_28 : decode cX3_retire 28 = .ok (.invokespecial 44, 3) := by decide +kernel
theorem dX3_retire_31 : decode cX3_retire 31 = .ok (.athrow, 1) := by decide +kernel
theorem dX3_retire_32 : decode cX3_retire 32 = .ok (.aload_n 2, 1) := by decide +kernel
theorem dX3_retire_33 : decode cX3_retire 33 = .ok (.dup, 1) := by decide +kernel
theorem dX3_retire_34 : decode cX3_retire 34 = .ok (.getfield 71, 3) := by decide +kernel
theorem dX3_retire_37 : decode cX3_retire 37 = .ok (.iconst 1, 1) := by decide +kernel
theorem dX3_retire_38 : decode cX3_retire 38 = .ok (.isub, 1) := by decide +kernel
theorem dX3_retire_39 : decode cX3_retire 39 = .ok (.putfield 71, 3) := by decide +kernel
theorem dX3_retire_42 : decode cX3_retire 42 = .ok (.aload_n 2, 1) := by decide +kernel
theorem dX3_retire_43 : decode cX3_retire 43 = .ok (.dup, 1) := by decide +kernel
theorem dX3_retire_44 : decode cX3_retire 44 = .ok (.getfield 76, 3) := by decide +kernel
theorem dX3_retire_47 : decode cX3_retire 47 = .ok (.iconst 1, 1) := by decide +kernel
theorem dX3_retire_48 : decode cX3_retire 48 = .ok (.isub, 1) := by decide +kernel
theorem dX3_retire_49 : decode cX3_retire 49 = .ok (.putfield 76, 3) := by decide +kernel
theorem dX3_retire_52 : decode cX3_retire 52 = .ok (.aload_n 2, 1) := by decide +kernel
theorem dX3_retire_53 : decode cX3_retire 53 = .ok (.aload_n 2, 1) := by decide +kernel
theorem dX3_retire_54 : decode cX3_retire 54 = .ok (.getfield 81, 3) := by decide +kernel
theorem dX3_retire_57 : decode cX3_retire 57 = .ok (.aload_n 2, 1) := by decide +kernel
theorem dX3_retire_58 : decode cX3_retire 58 = .ok (.getfield 76, 3) := by decide +kernel
theorem dX3_retire_61 : decode cX3_retire 61 = .ok (.invokestatic 84, 3) := by decide +kernel
theorem dX3_retire_64 : decode cX3_retire 64 = .ok (.putfield 81, 3) := by decide +kernel
theorem dX3_retire_67 : decode cX3_retire 67 = .ok (.aload_n 2, 1) := by decide +kernel
theorem dX3_retire_68 : decode cX3_retire 68 = .ok (.getfield 71, 3) := by decide +kernel
theorem dX3_retire_71 : decode cX3_retire 71 = .ok (.ireturn, 1) := by decide +kernel
theorem dX3_issueConveyance_0 : decode cX3_issueConveyance 0 = .ok (.aload_n 0, 1) := by decide +kernel
theorem dX3_issueConveyance_1 : decode cX3_issueConveyance 1 = .ok (.iload_n 1, 1) := by decide +kernel
theorem dX3_issueConveyance_2 : decode cX3_issueConveyance 2 = .ok (.invokevirtual 55, 3) := by decide +kernel
theorem dX3_issueConveyance_5 : decode cX3_issueConveyance 5 = .ok (.astore_n 2, 1) := by decide +kernel
theorem dX3_issueConveyance_6 : decode cX3_issueConveyance 6 = .ok (.aload_n 2, 1) := by decide +kernel
theorem dX3_issueConveyance_7 : decode cX3_issueConveyance 7 = .ok (.getfield 90, 3) := by decide +kernel
theorem dX3_issueConveyance_10 : decode cX3_issueConveyance 10 = .ok (.iconst 5, 1) := by decide +kernel
theorem dX3_issueConveyance_11 : decode cX3_issueConveyance 11 = .ok (.if_icmp .lt 13, 3) := by decide +kernel
theorem dX3_issueConveyance_14 : decode cX3_issueConveyance 14 = .ok (.new 40, 3) := by decide +kernel
theorem dX3_issueConveyance_17 : decode cX3_issueConveyance 17 = .ok (.dup, 1) := by decide +kernel
theorem dX3_issueConveyance_18 : decode cX3_issueConveyance 18 = .ok (.ldc 93, 2) := by decide +kernel
theorem dX3_issueConveyance_20 : decode cX3_issueConveyance 20 = .ok (.invokespecial 44, 3) := by decide +kernel
theorem dX3_issueConveyance_23 : decode cX3_issueConveyance 23 = .ok (.athrow, 1) := by decide +kernel
theorem dX3_issueConveyance_24 : decode cX3_issueConveyance 24 = .ok (.aload_n 2, 1) := by decide +kernel
theorem dX3_issueConveyance_25 : decode cX3_issueConveyance 25 = .ok (.dup, 1) := by decide +kernel
theorem dX3_issueConveyance_26 : decode cX3_issueConveyance 26 = .ok (.getfield 90, 3) := by decide +kernel
theorem dX3_issueConveyance_29 : decode cX3_issueConveyance 29 = .ok (.iconst 1, 1) := by decide +kernel
theorem dX3_issueConveyance_30 : decode cX3_issueConveyance 30 = .ok (.iadd, 1) := by decide +kernel
theorem dX3_issueConveyance_31 : decode cX3_issueConveyance 31 = .ok (.putfield 90, 3) := by decide +kernel
theorem dX3_issueConveyance_34 : decode cX3_issueConveyance 34 = .ok (.aload_n 2, 1) := by decide +kernel
theorem dX3_issueConveyance_35 : decode cX3_issueConveyance 35 = .ok (.dup, 1) := by decide +kernel
theorem dX3_issueConveyance_36 : decode cX3_issueConveyance 36 = .ok (.getfield 95, 3) := by decide +kernel
theorem dX3_issueConveyance_39 : decode cX3_issueConveyance 39 = .ok (.iconst 1, 1) := by decide +kernel
theorem dX3_issueConveyance_40 : decode cX3_issueConveyance 40 = .ok (.iadd, 1) := by decide +kernel
theorem dX3_issueConveyance_41 : decode cX3_issueConveyance 41 = .ok (.putfield 95, 3) := by decide +kernel
theorem dX3_issueConveyance_44 : decode cX3_issueConveyance 44 = .ok (.aload_n 2, 1) := by decide +kernel
theorem dX3_issueConveyance_45 : decode cX3_issueConveyance 45 = .ok (.getfield 90, 3) := by decide +kernel
theorem dX3_issueConveyance_48 : decode cX3_issueConveyance 48 = .ok (.ireturn, 1) := by decide +kernel
theorem dX3_retireConveyance_0 : decode cX3_retireConveyance 0 = .ok (.aload_n 0, 1) := by decide +kernel
theorem dX3_retireConveyance_1 : decode cX3_retireConveyance 1 = .ok (.iload_n 1, 1) := by decide +kernel
theorem dX3_retireConveyance_2 : decode cX3_retireConveyance 2 = .ok (.invokevirtual 55, 3) := by decide +kernel
theorem dX3_retireConveyance_5 : decode cX3_retireConveyance 5 = .ok (.astore_n 2, 1) := by decide +kernel
theorem dX3_retireConveyance_6 : decode cX3_retireConveyance 6 = .ok (.aload_n 2, 1) := by decide +kernel
theorem dX3_retireConveyance_7 : decode cX3_retireConveyance 7 = .ok (.getfield 95, 3) := by decide +kernel
theorem dX3_retireConveyance_10 : decode cX3_retireConveyance 10 = .ok (.iconst 1, 1) := by decide +kernel
theorem dX3_retireConveyance_11 : decode cX3_retireConveyance 11 = .ok (.if_icmp .lt 11, 3) := by decide +kernel
theorem dX3_retireConveyance_14 : decode cX3_retireConveyance 14 = .ok (.aload_n 2, 1) := by decide +kernel
theorem dX3_retireConveyance_15 : decode cX3_retireConveyance 15 = .ok (.getfield 90, 3) := by decide +kernel
theorem dX3_retireConveyance_18 : decode cX3_retireConveyance 18 = .ok (.iconst 1, 1) := by decide +kernel
theorem dX3_retireConveyance_19 : decode cX3_retireConveyance 19 = .ok (.if_icmp .gt 13, 3) := by decide +kernel
theorem dX3_retireConveyance_22 : decode cX3_retireConveyance 22 = .ok (.new 40, 3) := by decide +kernel
theorem dX3_retireConveyance_25 : decode cX3_retireConveyance 25 = .ok (.dup, 1) := by decide +kernel
theorem dX3_retireConveyance_26 : decode cX3_retireConveyance 26 = .ok (.ldc 98, 2) := by decide +kernel
theorem dX3_retireConveyance_28 : decode cX3_retireConveyance 28 = .ok (.invokespecial 44, 3) := by decide +kernel
theorem dX3_retireConveyance_31 : decode cX3_retireConveyance 31 = .ok (.athrow, 1) := by decide +kernel
theorem dX3_retireConveyance_32 : decode cX3_retireConveyance 32 = .ok (.aload_n 2, 1) := by decide +kernel
theorem dX3_retireConveyance_33 : decode cX3_retireConveyance 33 = .ok (.dup, 1) := by decide +kernel
theorem dX3_retireConveyance_34 : decode cX3_retireConveyance 34 = .ok (.getfield 90, 3) := by decide +kernel
theorem dX3_retireConveyance_37 : decode cX3_retireConveyance 37 = .ok (.iconst 1, 1) := by decide +kernel
theorem dX3_retireConveyance_38 : decode cX3_retireConveyance 38 = .ok (.isub, 1) := by decide +kernel
theorem dX3_retireConveyance_39 : decode cX3_retireConveyance 39 = .ok (.putfield 90, 3) := by decide +kernel
theorem dX3_retireConveyance_42 : decode cX3_retireConveyance 42 = .ok (.aload_n 2, 1) := by decide +kernel
theorem dX3_retireConveyance_43 : decode cX3_retireConveyance 43 = .ok (.dup, 1) := by decide +kernel
theorem dX3_retireConveyance_44 : decode cX3_retireConveyance 44 = .ok (.getfield 95, 3) := by decide +kernel
theorem dX3_retireConveyance_47 : decode cX3_retireConveyance 47 = .ok (.iconst 1, 1) := by decide +kernel
theorem dX3_retireConveyance_48 : decode cX3_retireConveyance 48 = .ok (.isub, 1) := by decide +kernel
theorem dX3_retireConveyance_49 : decode cX3_retireConveyance 49 = .ok (.putfield 95, 3) := by decide +kernel
theorem dX3_retireConveyance_52 : decode cX3_retireConveyance 52 = .ok (.aload_n 2, 1) := by decide +kernel
theorem dX3_retireConveyance_53 : decode cX3_retireConveyance 53 = .ok (.getfield 90, 3) := by decide +kernel
theorem dX3_retireConveyance_56 : decode cX3_retireConveyance 56 = .ok (.ireturn, 1) := by decide +kernel
theorem dX3_needed_0 : decode cX3_needed 0 = .ok (.aload_n 0, 1) := by decide +kernel
theorem dX3_needed_1 : decode cX3_needed 1 = .ok (.iload_n 1, 1) := by decide +kernel
theorem dX3_needed_2 : decode cX3_needed 2 = .ok (.invokevirtual 62, 3) := by decide +kernel
theorem dX3_needed_5 : decode cX3_needed 5 = .ok (.astore_n 3, 1) := by decide +kernel
theorem dX3_needed_6 : decode cX3_needed 6 = .ok (.iload_n 2, 1) := by decide +kernel
theorem dX3_needed_7 : decode cX3_needed 7 = .ok (.iconst 0, 1) := by decide +kernel
theorem dX3_needed_8 : decode cX3_needed 8 = .ok (.bipush 100, 2) := by decide +kernel
theorem dX3_needed_10 : decode cX3_needed 10 = .ok (.invokestatic 36, 3) := by decide +kernel
theorem dX3_needed_13 : decode cX3_needed 13 = .ok (.aload_n 3, 1) := by decide +kernel
theorem dX3_needed_14 : decode cX3_needed 14 = .ok (.getfield 65, 3) := by decide +kernel
theorem dX3_needed_17 : decode cX3_needed 17 = .ok (.aload_n 3, 1) := by decide +kernel
theorem dX3_needed_18 : decode cX3_needed 18 = .ok (.getfield 100, 3) := by decide +kernel
theorem dX3_needed_21 : decode cX3_needed 21 = .ok (.imul, 1) := by decide +kernel
theorem dX3_needed_22 : decode cX3_needed 22 = .ok (.aload_n 0, 1) := by decide +kernel
theorem dX3_needed_23 : decode cX3_needed 23 = .ok (.aload_n 3, 1) := by decide +kernel
theorem dX3_needed_24 : decode cX3_needed 24 = .ok (.invokevirtual 103, 3) := by decide +kernel
theorem dX3_needed_27 : decode cX3_needed 27 = .ok (.iadd, 1) := by decide +kernel
theorem dX3_needed_28 : decode cX3_needed 28 = .ok (.istore 4, 2) := by decide +kernel
theorem dX3_needed_30 : decode cX3_needed 30 = .ok (.aload_n 0, 1) := by decide +kernel
theorem dX3_needed_31 : decode cX3_needed 31 = .ok (.getfield 21, 3) := by decide +kernel
theorem dX3_needed_34 : decode cX3_needed 34 = .ok (.iload 4, 2) := by decide +kernel
theorem dX3_needed_36 : decode cX3_needed 36 = .ok (.imul, 1) := by decide +kernel
theorem dX3_needed_37 : decode cX3_needed 37 = .ok (.bipush 100, 2) := by decide +kernel
theorem dX3_needed_39 : decode cX3_needed 39 = .ok (.iload_n 2, 1) := by decide +kernel
theorem dX3_needed_40 : decode cX3_needed 40 = .ok (.iadd, 1) := by decide +kernel
theorem dX3_needed_41 : decode cX3_needed 41 = .ok (.imul, 1) := by decide +kernel
theorem dX3_needed_42 : decode cX3_needed 42 = .ok (.istore 5, 2) := by decide +kernel
theorem dX3_needed_44 : decode cX3_needed 44 = .ok (.bipush 100, 2) := by decide +kernel
theorem dX3_needed_46 : decode cX3_needed 46 = .ok (.aload_n 3, 1) := by decide +kernel
theorem dX3_needed_47 : decode cX3_needed 47 = .ok (.getfield 107, 3) := by decide +kernel
theorem dX3_needed_50 : decode cX3_needed 50 = .ok (.imul, 1) := by decide +kernel
theorem dX3_needed_51 : decode cX3_needed 51 = .ok (.istore 6, 2) := by decide +kernel
theorem dX3_needed_53 : decode cX3_needed 53 = .ok (.iload 6, 2) := by decide +kernel
theorem dX3_needed_55 : decode cX3_needed 55 = .ok (.iconst 1, 1) := by decide +kernel
theorem dX3_needed_56 : decode cX3_needed 56 = .ok (.if_icmp .ge 5, 3) := by decide +kernel
theorem dX3_needed_59 : decode cX3_needed 59 = .ok (.iconst 1, 1) := by decide +kernel
theorem dX3_needed_60 : decode cX3_needed 60 = .ok (.ireturn, 1) := by decide +kernel
theorem dX3_needed_61 : decode cX3_needed 61 = .ok (.iload 5, 2) := by decide +kernel
theorem dX3_needed_63 : decode cX3_needed 63 = .ok (.iload 6, 2) := by decide +kernel
theorem dX3_needed_65 : decode cX3_needed 65 = .ok (.iadd, 1) := by decide +kernel
theorem dX3_needed_66 : decode cX3_needed 66 = .ok (.iconst 1, 1) := by decide +kernel
theorem dX3_needed_67 : decode cX3_needed 67 = .ok (.isub, 1) := by decide +kernel
theorem dX3_needed_68 : decode cX3_needed 68 = .ok (.iload 6, 2) := by decide +kernel
theorem dX3_needed_70 : decode cX3_needed 70 = .ok (.idiv, 1) := by decide +kernel
theorem dX3_needed_71 : decode cX3_needed 71 = .ok (.istore 7, 2) := by decide +kernel
theorem dX3_needed_73 : decode cX3_needed 73 = .ok (.iconst 1, 1) := by decide +kernel
theorem dX3_needed_74 : decode cX3_needed 74 = .ok (.iload 7, 2) := by decide +kernel
theorem dX3_needed_76 : decode cX3_needed 76 = .ok (.invokestatic 110, 3) := by decide +kernel
theorem dX3_needed_79 : decode cX3_needed 79 = .ok (.ireturn, 1) := by decide +kernel
theorem dX3_step_0 : decode cX3_step 0 = .ok (.iload_n 1, 1) := by decide +kernel
theorem dX3_step_1 : decode cX3_step 1 = .ok (.iconst 1, 1) := by decide +kernel
theorem dX3_step_2 : decode cX3_step 2 = .ok (.bipush 50, 2) := by decide +kernel
theorem dX3_step_4 : decode cX3_step 4 = .ok (.invokestatic 36, 3) := by decide +kernel
theorem dX3_step_7 : decode cX3_step 7 = .ok (.aload_n 0, 1) := by decide +kernel
theorem dX3_step_8 : decode cX3_step 8 = .ok (.getfield 7, 3) := by decide +kernel
theorem dX3_step_11 : decode cX3_step 11 = .ok (.ifnonnull 13, 3) := by decide +kernel
theorem dX3_step_14 : decode cX3_step 14 = .ok (.new 40, 3) := by decide +kernel
theorem dX3_step_17 : decode cX3_step 17 = .ok (.dup, 1) := by decide +kernel
theorem dX3_step_18 : decode cX3_step 18 = .ok (.ldc 113, 2) := by decide +kernel
theorem dX3_step_20 : decode cX3_step 20 = .ok (.invokespecial 44, 3) := by decide +kernel
theorem dX3_step_23 : decode cX3_step 23 = .ok (.athrow, 1) := by decide +kernel
theorem dX3_step_24 : decode cX3_step 24 = .ok (.aload_n 0, 1) := by decide +kernel
theorem dX3_step_25 : decode cX3_step 25 = .ok (.getfield 27, 3) := by decide +kernel
theorem dX3_step_28 : decode cX3_step 28 = .ok (.istore_n 2, 1) := by decide +kernel
theorem dX3_step_29 : decode cX3_step 29 = .ok (.iconst 0, 1) := by decide +kernel
theorem dX3_step_30 : decode cX3_step 30 = .ok (.istore_n 3, 1) := by decide +kernel
theorem dX3_step_31 : decode cX3_step 31 = .ok (.iload_n 3, 1) := by decide +kernel
theorem dX3_step_32 : decode cX3_step 32 = .ok (.iload_n 1, 1) := by decide +kernel
theorem dX3_step_33 : decode cX3_step 33 = .ok (.if_icmp .ge 17, 3) := by decide +kernel
theorem dX3_step_36 : decode cX3_step 36 = .ok (.aload_n 0, 1) := by decide +kernel
theorem dX3_step_37 : decode cX3_step 37 = .ok (.aload_n 0, 1) := by decide +kernel
theorem dX3_step_38 : decode cX3_step 38 = .ok (.getfield 7, 3) := by decide +kernel
theorem dX3_step_41 : decode cX3_step 41 = .ok (.invokevirtual 115, 3) := by decide +kernel
theorem dX3_step_44 : decode cX3_step 44 = .ok (.iinc 3 1, 3) := by decide +kernel
theorem dX3_step_47 : decode cX3_step 47 = .ok (.goto (-16), 3) := by decide +kernel
theorem dX3_step_50 : decode cX3_step 50 = .ok (.aload_n 0, 1) := by decide +kernel
theorem dX3_step_51 : decode cX3_step 51 = .ok (.getfield 27, 3) := by decide +kernel
theorem dX3_step_54 : decode cX3_step 54 = .ok (.iload_n 2, 1) := by decide +kernel
theorem dX3_step_55 : decode cX3_step 55 = .ok (.isub, 1) := by decide +kernel
theorem dX3_step_56 : decode cX3_step 56 = .ok (.ireturn, 1) := by decide +kernel
theorem dX3_time_0 : decode cX3_time 0 = .ok (.aload_n 0, 1) := by decide +kernel
theorem dX3_time_1 : decode cX3_time 1 = .ok (.getfield 24, 3) := by decide +kernel
theorem dX3_time_4 : decode cX3_time 4 = .ok (.ireturn, 1) := by decide +kernel
theorem dX3_stages_0 : decode cX3_stages 0 = .ok (.aload_n 0, 1) := by decide +kernel
theorem dX3_stages_1 : decode cX3_stages 1 = .ok (.getfield 13, 3) := by decide +kernel
theorem dX3_stages_4 : decode cX3_stages 4 = .ok (.ireturn, 1) := by decide +kernel
theorem dX3_board_0 : decode cX3_board 0 = .ok (.aload_n 0, 1) := by decide +kernel
theorem dX3_board_1 : decode cX3_board 1 = .ok (.iload_n 1, 1) := by decide +kernel
theorem dX3_board_2 : decode cX3_board 2 = .ok (.invokevirtual 62, 3) := by decide +kernel
theorem dX3_board_5 : decode cX3_board 5 = .ok (.getfield 76, 3) := by decide +kernel
theorem dX3_board_8 : decode cX3_board 8 = .ok (.ireturn, 1) := by decide +kernel
theorem dX3_attached_0 : decode cX3_attached 0 = .ok (.aload_n 0, 1) := by decide +kernel
theorem dX3_attached_1 : decode cX3_attached 1 = .ok (.iload_n 1, 1) := by decide +kernel
theorem dX3_attached_2 : decode cX3_attached 2 = .ok (.invokevirtual 62, 3) := by decide +kernel
theorem dX3_attached_5 : decode cX3_attached 5 = .ok (.getfield 119, 3) := by decide +kernel
theorem dX3_attached_8 : decode cX3_attached 8 = .ok (.invokevirtual 123, 3) := by decide +kernel
theorem dX3_attached_11 : decode cX3_attached 11 = .ok (.ireturn, 1) := by decide +kernel
theorem dX3_left_0 : decode cX3_left 0 = .ok (.aload_n 0, 1) := by decide +kernel
theorem dX3_left_1 : decode cX3_left 1 = .ok (.iload_n 1, 1) := by decide +kernel
theorem dX3_left_2 : decode cX3_left 2 = .ok (.invokevirtual 62, 3) := by decide +kernel
theorem dX3_left_5 : decode cX3_left 5 = .ok (.getfield 129, 3) := by decide +kernel
theorem dX3_left_8 : decode cX3_left 8 = .ok (.ireturn, 1) := by decide +kernel
theorem dX3_run_0 : decode cX3_run 0 = .ok (.aload_n 0, 1) := by decide +kernel
theorem dX3_run_1 : decode cX3_run 1 = .ok (.iload_n 1, 1) := by decide +kernel
theorem dX3_run_2 : decode cX3_run 2 = .ok (.invokevirtual 62, 3) := by decide +kernel
theorem dX3_run_5 : decode cX3_run 5 = .ok (.getfield 81, 3) := by decide +kernel
theorem dX3_run_8 : decode cX3_run 8 = .ok (.ireturn, 1) := by decide +kernel
theorem dX3_market_0 : decode cX3_market 0 = .ok (.aload_n 0, 1) := by decide +kernel
theorem dX3_market_1 : decode cX3_market 1 = .ok (.iload_n 1, 1) := by decide +kernel
theorem dX3_market_2 : decode cX3_market 2 = .ok (.invokevirtual 62, 3) := by decide +kernel
theorem dX3_market_5 : decode cX3_market 5 = .ok (.getfield 119, 3) := by decide +kernel
theorem dX3_market_8 : decode cX3_market 8 = .ok (.invokevirtual 132, 3) := by decide +kernel
theorem dX3_market_11 : decode cX3_market 11 = .ok (.ireturn, 1) := by decide +kernel
theorem dX3_inbox_0 : decode cX3_inbox 0 = .ok (.aload_n 0, 1) := by decide +kernel
theorem dX3_inbox_1 : decode cX3_inbox 1 = .ok (.iload_n 1, 1) := by decide +kernel
theorem dX3_inbox_2 : decode cX3_inbox 2 = .ok (.invokevirtual 62, 3) := by decide +kernel
theorem dX3_inbox_5 : decode cX3_inbox 5 = .ok (.getfield 135, 3) := by decide +kernel
theorem dX3_inbox_8 : decode cX3_inbox 8 = .ok (.invokevirtual 132, 3) := by decide +kernel
theorem dX3_inbox_11 : decode cX3_inbox 11 = .ok (.ireturn, 1) := by decide +kernel
theorem dX3_waiting_0 : decode cX3_waiting 0 = .ok (.aload_n 0, 1) := by decide +kernel
theorem dX3_waiting_1 : decode cX3_waiting 1 = .ok (.iload_n 1, 1) := by decide +kernel
theorem dX3_waiting_2 : decode cX3_waiting 2 = .ok (.invokevirtual 62, 3) := by decide +kernel
theorem dX3_waiting_5 : decode cX3_waiting 5 = .ok (.getfield 95, 3) := by decide +kernel
theorem dX3_waiting_8 : decode cX3_waiting 8 = .ok (.ireturn, 1) := by decide +kernel
theorem dX3_travelling_0 : decode cX3_travelling 0 = .ok (.aload_n 0, 1) := by decide +kernel
theorem dX3_travelling_1 : decode cX3_travelling 1 = .ok (.iload_n 1, 1) := by decide +kernel
theorem dX3_travelling_2 : decode cX3_travelling 2 = .ok (.invokevirtual 62, 3) := by decide +kernel
theorem dX3_travelling_5 : decode cX3_travelling 5 = .ok (.getfield 138, 3) := by decide +kernel
theorem dX3_travelling_8 : decode cX3_travelling 8 = .ok (.getfield 142, 3) := by decide +kernel
theorem dX3_travelling_11 : decode cX3_travelling 11 = .ok (.ireturn, 1) := by decide +kernel
theorem dX3_firstUnits_0 : decode cX3_firstUnits 0 = .ok (.aload_n 0, 1) := by decide +kernel
theorem dX3_firstUnits_1 : decode cX3_firstUnits 1 = .ok (.iload_n 1, 1) := by decide +kernel
theorem dX3_firstUnits_2 : decode cX3_firstUnits 2 = .ok (.invokevirtual 62, 3) := by decide +kernel
theorem dX3_firstUnits_5 : decode cX3_firstUnits 5 = .ok (.getfield 119, 3) := by decide +kernel
theorem dX3_firstUnits_8 : decode cX3_firstUnits 8 = .ok (.invokevirtual 147, 3) := by decide +kernel
theorem dX3_firstUnits_11 : decode cX3_firstUnits 11 = .ok (.ireturn, 1) := by decide +kernel
theorem dX3_taken_0 : decode cX3_taken 0 = .ok (.aload_n 0, 1) := by decide +kernel
theorem dX3_taken_1 : decode cX3_taken 1 = .ok (.getfield 27, 3) := by decide +kernel
theorem dX3_taken_4 : decode cX3_taken 4 = .ok (.ireturn, 1) := by decide +kernel
theorem dX3_backlog_0 : decode cX3_backlog 0 = .ok (.aload_n 0, 1) := by decide +kernel
theorem dX3_backlog_1 : decode cX3_backlog 1 = .ok (.getfield 30, 3) := by decide +kernel
theorem dX3_backlog_4 : decode cX3_backlog 4 = .ok (.ireturn, 1) := by decide +kernel
theorem dX3_shortSteps_0 : decode cX3_shortSteps 0 = .ok (.aload_n 0, 1) := by decide +kernel
theorem dX3_shortSteps_1 : decode cX3_shortSteps 1 = .ok (.getfield 33, 3) := by decide +kernel
theorem dX3_shortSteps_4 : decode cX3_shortSteps 4 = .ok (.ireturn, 1) := by decide +kernel
theorem dX3_starved_0 : decode cX3_starved 0 = .ok (.aload_n 0, 1) := by decide +kernel
theorem dX3_starved_1 : decode cX3_starved 1 = .ok (.iload_n 1, 1) := by decide +kernel
theorem dX3_starved_2 : decode cX3_starved 2 = .ok (.invokevirtual 62, 3) := by decide +kernel
theorem dX3_starved_5 : decode cX3_starved 5 = .ok (.getfield 150, 3) := by decide +kernel
theorem dX3_starved_8 : decode cX3_starved 8 = .ok (.ireturn, 1) := by decide +kernel
theorem dX3_stock_0 : decode cX3_stock 0 = .ok (.iconst 0, 1) := by decide +kernel
theorem dX3_stock_1 : decode cX3_stock 1 = .ok (.istore_n 1, 1) := by decide +kernel
theorem dX3_stock_2 : decode cX3_stock 2 = .ok (.aload_n 0, 1) := by decide +kernel
theorem dX3_stock_3 : decode cX3_stock 3 = .ok (.getfield 7, 3) := by decide +kernel
theorem dX3_stock_6 : decode cX3_stock 6 = .ok (.astore_n 2, 1) := by decide +kernel
theorem dX3_stock_7 : decode cX3_stock 7 = .ok (.aload_n 2, 1) := by decide +kernel
theorem dX3_stock_8 : decode cX3_stock 8 = .ok (.ifnull 18, 3) := by decide +kernel
theorem dX3_stock_11 : decode cX3_stock 11 = .ok (.iload_n 1, 1) := by decide +kernel
theorem dX3_stock_12 : decode cX3_stock 12 = .ok (.aload_n 2, 1) := by decide +kernel
theorem dX3_stock_13 : decode cX3_stock 13 = .ok (.invokevirtual 153, 3) := by decide +kernel
theorem dX3_stock_16 : decode cX3_stock 16 = .ok (.iadd, 1) := by decide +kernel
theorem dX3_stock_17 : decode cX3_stock 17 = .ok (.istore_n 1, 1) := by decide +kernel
theorem dX3_stock_18 : decode cX3_stock 18 = .ok (.aload_n 2, 1) := by decide +kernel
theorem dX3_stock_19 : decode cX3_stock 19 = .ok (.getfield 156, 3) := by decide +kernel
theorem dX3_stock_22 : decode cX3_stock 22 = .ok (.astore_n 2, 1) := by decide +kernel
theorem dX3_stock_23 : decode cX3_stock 23 = .ok (.goto (-16), 3) := by decide +kernel
theorem dX3_stock_26 : decode cX3_stock 26 = .ok (.iload_n 1, 1) := by decide +kernel
theorem dX3_stock_27 : decode cX3_stock 27 = .ok (.ireturn, 1) := by decide +kernel
theorem dX3_stockByFlow_0 : decode cX3_stockByFlow 0 = .ok (.aload_n 0, 1) := by decide +kernel
theorem dX3_stockByFlow_1 : decode cX3_stockByFlow 1 = .ok (.getfield 27, 3) := by decide +kernel
theorem dX3_stockByFlow_4 : decode cX3_stockByFlow 4 = .ok (.ineg, 1) := by decide +kernel
theorem dX3_stockByFlow_5 : decode cX3_stockByFlow 5 = .ok (.istore_n 1, 1) := by decide +kernel
theorem dX3_stockByFlow_6 : decode cX3_stockByFlow 6 = .ok (.aload_n 0, 1) := by decide +kernel
theorem dX3_stockByFlow_7 : decode cX3_stockByFlow 7 = .ok (.getfield 7, 3) := by decide +kernel
theorem dX3_stockByFlow_10 : decode cX3_stockByFlow 10 = .ok (.astore_n 2, 1) := by decide +kernel
theorem dX3_stockByFlow_11 : decode cX3_stockByFlow 11 = .ok (.aload_n 2, 1) := by decide +kernel
theorem dX3_stockByFlow_12 : decode cX3_stockByFlow 12 = .ok (.ifnull 18, 3) := by decide +kernel
theorem dX3_stockByFlow_15 : decode cX3_stockByFlow 15 = .ok (.iload_n 1, 1) := by decide +kernel
theorem dX3_stockByFlow_16 : decode cX3_stockByFlow 16 = .ok (.aload_n 2, 1) := by decide +kernel
theorem dX3_stockByFlow_17 : decode cX3_stockByFlow 17 = .ok (.getfield 159, 3) := by decide +kernel
theorem dX3_stockByFlow_20 : decode cX3_stockByFlow 20 = .ok (.iadd, 1) := by decide +kernel
theorem dX3_stockByFlow_21 : decode cX3_stockByFlow 21 = .ok (.istore_n 1, 1) := by decide +kernel
theorem dX3_stockByFlow_22 : decode cX3_stockByFlow 22 = .ok (.aload_n 2, 1) := by decide +kernel
theorem dX3_stockByFlow_23 : decode cX3_stockByFlow 23 = .ok (.getfield 156, 3) := by decide +kernel
theorem dX3_stockByFlow_26 : decode cX3_stockByFlow 26 = .ok (.astore_n 2, 1) := by decide +kernel
theorem dX3_stockByFlow_27 : decode cX3_stockByFlow 27 = .ok (.goto (-16), 3) := by decide +kernel
theorem dX3_stockByFlow_30 : decode cX3_stockByFlow 30 = .ok (.iload_n 1, 1) := by decide +kernel
theorem dX3_stockByFlow_31 : decode cX3_stockByFlow 31 = .ok (.ireturn, 1) := by decide +kernel
theorem dX3_checkRange_0 : decode cX3_checkRange 0 = .ok (.iload_n 0, 1) := by decide +kernel
theorem dX3_checkRange_1 : decode cX3_checkRange 1 = .ok (.iload_n 1, 1) := by decide +kernel
theorem dX3_checkRange_2 : decode cX3_checkRange 2 = .ok (.if_icmp .lt 8, 3) := by decide +kernel
theorem dX3_checkRange_5 : decode cX3_checkRange 5 = .ok (.iload_n 0, 1) := by decide +kernel
theorem dX3_checkRange_6 : decode cX3_checkRange 6 = .ok (.iload_n 2, 1) := by decide +kernel
theorem dX3_checkRange_7 : decode cX3_checkRange 7 = .ok (.if_icmp .le 13, 3) := by decide +kernel
theorem dX3_checkRange_10 : decode cX3_checkRange 10 = .ok (.new 162, 3) := by decide +kernel
theorem dX3_checkRange_13 : decode cX3_checkRange 13 = .ok (.dup, 1) := by decide +kernel
theorem dX3_checkRange_14 : decode cX3_checkRange 14 = .ok (.ldc 164, 2) := by decide +kernel
theorem dX3_checkRange_16 : decode cX3_checkRange 16 = .ok (.invokespecial 166, 3) := by decide +kernel
theorem dX3_checkRange_19 : decode cX3_checkRange 19 = .ok (.athrow, 1) := by decide +kernel
theorem dX3_checkRange_20 : decode cX3_checkRange 20 = .ok (.return_, 1) := by decide +kernel
theorem dX3_find_0 : decode cX3_find 0 = .ok (.aload_n 0, 1) := by decide +kernel
theorem dX3_find_1 : decode cX3_find 1 = .ok (.getfield 7, 3) := by decide +kernel
theorem dX3_find_4 : decode cX3_find 4 = .ok (.astore_n 2, 1) := by decide +kernel
theorem dX3_find_5 : decode cX3_find 5 = .ok (.aload_n 2, 1) := by decide +kernel
theorem dX3_find_6 : decode cX3_find 6 = .ok (.ifnull 19, 3) := by decide +kernel
theorem dX3_find_9 : decode cX3_find 9 = .ok (.aload_n 2, 1) := by decide +kernel
theorem dX3_find_10 : decode cX3_find 10 = .ok (.getfield 52, 3) := by decide +kernel
theorem dX3_find_13 : decode cX3_find 13 = .ok (.iload_n 1, 1) := by decide +kernel
theorem dX3_find_14 : decode cX3_find 14 = .ok (.if_icmp .eq 11, 3) := by decide +kernel
theorem dX3_find_17 : decode cX3_find 17 = .ok (.aload_n 2, 1) := by decide +kernel
theorem dX3_find_18 : decode cX3_find 18 = .ok (.getfield 156, 3) := by decide +kernel
theorem dX3_find_21 : decode cX3_find 21 = .ok (.astore_n 2, 1) := by decide +kernel
theorem dX3_find_22 : decode cX3_find 22 = .ok (.goto (-17), 3) := by decide +kernel
theorem dX3_find_25 : decode cX3_find 25 = .ok (.aload_n 2, 1) := by decide +kernel
theorem dX3_find_26 : decode cX3_find 26 = .ok (.ifnonnull 13, 3) := by decide +kernel
theorem dX3_find_29 : decode cX3_find 29 = .ok (.new 167, 3) := by decide +kernel
theorem dX3_find_32 : decode cX3_find 32 = .ok (.dup, 1) := by decide +kernel
theorem dX3_find_33 : decode cX3_find 33 = .ok (.ldc 169, 2) := by decide +kernel
theorem dX3_find_35 : decode cX3_find 35 = .ok (.invokespecial 171, 3) := by decide +kernel
theorem dX3_find_38 : decode cX3_find 38 = .ok (.athrow, 1) := by decide +kernel
theorem dX3_find_39 : decode cX3_find 39 = .ok (.aload_n 2, 1) := by decide +kernel
theorem dX3_find_40 : decode cX3_find 40 = .ok (.areturn, 1) := by decide +kernel
theorem dX3_findFed_0 : decode cX3_findFed 0 = .ok (.aload_n 0, 1) := by decide +kernel
theorem dX3_findFed_1 : decode cX3_findFed 1 = .ok (.iload_n 1, 1) := by decide +kernel
theorem dX3_findFed_2 : decode cX3_findFed 2 = .ok (.invokevirtual 62, 3) := by decide +kernel
theorem dX3_findFed_5 : decode cX3_findFed 5 = .ok (.astore_n 2, 1) := by decide +kernel
theorem dX3_findFed_6 : decode cX3_findFed 6 = .ok (.aload_n 2, 1) := by decide +kernel
theorem dX3_findFed_7 : decode cX3_findFed 7 = .ok (.getfield 156, 3) := by decide +kernel
theorem dX3_findFed_10 : decode cX3_findFed 10 = .ok (.ifnonnull 13, 3) := by decide +kernel
theorem dX3_findFed_13 : decode cX3_findFed 13 = .ok (.new 167, 3) := by decide +kernel
theorem dX3_findFed_16 : decode cX3_findFed 16 = .ok (.dup, 1) := by decide +kernel
theorem dX3_findFed_17 : decode cX3_findFed 17 = .ok (.ldc 172, 2) := by decide +kernel
theorem dX3_findFed_19 : decode cX3_findFed 19 = .ok (.invokespecial 171, 3) := by decide +kernel
theorem dX3_findFed_22 : decode cX3_findFed 22 = .ok (.athrow, 1) := by decide +kernel
theorem dX3_findFed_23 : decode cX3_findFed 23 = .ok (.aload_n 2, 1) := by decide +kernel
theorem dX3_findFed_24 : decode cX3_findFed 24 = .ok (.areturn, 1) := by decide +kernel
theorem dX3_wayBehind_0 : decode cX3_wayBehind 0 = .ok (.aload_n 0, 1) := by decide +kernel
theorem dX3_wayBehind_1 : decode cX3_wayBehind 1 = .ok (.getfield 7, 3) := by decide +kernel
theorem dX3_wayBehind_4 : decode cX3_wayBehind 4 = .ok (.astore_n 2, 1) := by decide +kernel
theorem dX3_wayBehind_5 : decode cX3_wayBehind 5 = .ok (.aload_n 2, 1) := by decide +kernel
theorem dX3_wayBehind_6 : decode cX3_wayBehind 6 = .ok (.ifnull 24, 3) := by decide +kernel
theorem dX3_wayBehind_9 : decode cX3_wayBehind 9 = .ok (.aload_n 2, 1) := by decide +kernel
theorem dX3_wayBehind_10 : decode cX3_wayBehind 10 = .ok (.getfield 156, 3) := by decide +kernel
theorem dX3_wayBehind_13 : decode cX3_wayBehind 13 = .ok (.aload_n 1, 1) := by decide +kernel
theorem dX3_wayBehind_14 : decode cX3_wayBehind 14 = .ok (.if_acmp .ne 8, 3) := by decide +kernel
theorem dX3_wayBehind_17 : decode cX3_wayBehind 17 = .ok (.aload_n 2, 1) := by decide +kernel
theorem dX3_wayBehind_18 : decode cX3_wayBehind 18 = .ok (.getfield 59, 3) := by decide +kernel
theorem dX3_wayBehind_21 : decode cX3_wayBehind 21 = .ok (.ireturn, 1) := by decide +kernel
theorem dX3_wayBehind_22 : decode cX3_wayBehind 22 = .ok (.aload_n 2, 1) := by decide +kernel
theorem dX3_wayBehind_23 : decode cX3_wayBehind 23 = .ok (.getfield 156, 3) := by decide +kernel
theorem dX3_wayBehind_26 : decode cX3_wayBehind 26 = .ok (.astore_n 2, 1) := by decide +kernel
theorem dX3_wayBehind_27 : decode cX3_wayBehind 27 = .ok (.goto (-22), 3) := by decide +kernel
theorem dX3_wayBehind_30 : decode cX3_wayBehind 30 = .ok (.iconst 0, 1) := by decide +kernel
theorem dX3_wayBehind_31 : decode cX3_wayBehind 31 = .ok (.ireturn, 1) := by decide +kernel
theorem dX3_passOneStep_0 : decode cX3_passOneStep 0 = .ok (.aload_n 0, 1) := by decide +kernel
theorem dX3_passOneStep_1 : decode cX3_passOneStep 1 = .ok (.dup, 1) := by decide +kernel
theorem dX3_passOneStep_2 : decode cX3_passOneStep 2 = .ok (.getfield 24, 3) := by decide +kernel
theorem dX3_passOneStep_5 : decode cX3_passOneStep 5 = .ok (.iconst 1, 1) := by decide +kernel
theorem dX3_passOneStep_6 : decode cX3_passOneStep 6 = .ok (.iadd, 1) := by decide +kernel
theorem dX3_passOneStep_7 : decode cX3_passOneStep 7 = .ok (.putfield 24, 3) := by decide +kernel
theorem dX3_passOneStep_10 : decode cX3_passOneStep 10 = .ok (.aload_n 0, 1) := by decide +kernel
theorem dX3_passOneStep_11 : decode cX3_passOneStep 11 = .ok (.aload_n 1, 1) := by decide +kernel
theorem dX3_passOneStep_12 : decode cX3_passOneStep 12 = .ok (.invokevirtual 174, 3) := by decide +kernel
theorem dX3_passOneStep_15 : decode cX3_passOneStep 15 = .ok (.aload_n 1, 1) := by decide +kernel
theorem dX3_passOneStep_16 : decode cX3_passOneStep 16 = .ok (.astore_n 2, 1) := by decide +kernel
theorem dX3_passOneStep_17 : decode cX3_passOneStep 17 = .ok (.aload_n 2, 1) := by decide +kernel
theorem dX3_passOneStep_18 : decode cX3_passOneStep 18 = .ok (.ifnull 19, 3) := by decide +kernel
theorem dX3_passOneStep_21 : decode cX3_passOneStep 21 = .ok (.aload_n 2, 1) := by decide +kernel
theorem dX3_passOneStep_22 : decode cX3_passOneStep 22 = .ok (.aload_n 0, 1) := by decide +kernel
theorem dX3_passOneStep_23 : decode cX3_passOneStep 23 = .ok (.getfield 17, 3) := by decide +kernel
theorem dX3_passOneStep_26 : decode cX3_passOneStep 26 = .ok (.invokevirtual 177, 3) := by decide +kernel
theorem dX3_passOneStep_29 : decode cX3_passOneStep 29 = .ok (.aload_n 2, 1) := by decide +kernel
theorem dX3_passOneStep_30 : decode cX3_passOneStep 30 = .ok (.getfield 156, 3) := by decide +kernel
theorem dX3_passOneStep_33 : decode cX3_passOneStep 33 = .ok (.astore_n 2, 1) := by decide +kernel
theorem dX3_passOneStep_34 : decode cX3_passOneStep 34 = .ok (.goto (-17), 3) := by decide +kernel
theorem dX3_passOneStep_37 : decode cX3_passOneStep 37 = .ok (.aload_n 1, 1) := by decide +kernel
theorem dX3_passOneStep_38 : decode cX3_passOneStep 38 = .ok (.astore_n 2, 1) := by decide +kernel
theorem dX3_passOneStep_39 : decode cX3_passOneStep 39 = .ok (.aload_n 2, 1) := by decide +kernel
theorem dX3_passOneStep_40 : decode cX3_passOneStep 40 = .ok (.ifnull 15, 3) := by decide +kernel
theorem dX3_passOneStep_43 : decode cX3_passOneStep 43 = .ok (.aload_n 2, 1) := by decide +kernel
theorem dX3_passOneStep_44 : decode cX3_passOneStep 44 = .ok (.invokevirtual 181, 3) := by decide +kernel
theorem dX3_passOneStep_47 : decode cX3_passOneStep 47 = .ok (.aload_n 2, 1) := by decide +kernel
theorem dX3_passOneStep_48 : decode cX3_passOneStep 48 = .ok (.getfield 156, 3) := by decide +kernel
theorem dX3_passOneStep_51 : decode cX3_passOneStep 51 = .ok (.astore_n 2, 1) := by decide +kernel
theorem dX3_passOneStep_52 : decode cX3_passOneStep 52 = .ok (.goto (-13), 3) := by decide +kernel
theorem dX3_passOneStep_55 : decode cX3_passOneStep 55 = .ok (.return_, 1) := by decide +kernel
theorem dX3_serveCustomers_0 : decode cX3_serveCustomers 0 = .ok (.aload_n 0, 1) := by decide +kernel
theorem dX3_serveCustomers_1 : decode cX3_serveCustomers 1 = .ok (.getfield 21, 3) := by decide +kernel
theorem dX3_serveCustomers_4 : decode cX3_serveCustomers 4 = .ok (.aload_n 0, 1) := by decide +kernel
theorem dX3_serveCustomers_5 : decode cX3_serveCustomers 5 = .ok (.getfield 30, 3) := by decide +kernel
theorem dX3_serveCustomers_8 : decode cX3_serveCustomers 8 = .ok (.iadd, 1) := by decide +kernel
theorem dX3_serveCustomers_9 : decode cX3_serveCustomers 9 = .ok (.istore_n 2, 1) := by decide +kernel
theorem dX3_serveCustomers_10 : decode cX3_serveCustomers 10 = .ok (.iload_n 2, 1) := by decide +kernel
theorem dX3_serveCustomers_11 : decode cX3_serveCustomers 11 = .ok (.aload_n 1, 1) := by decide +kernel
theorem dX3_serveCustomers_12 : decode cX3_serveCustomers 12 = .ok (.getfield 119, 3) := by decide +kernel
theorem dX3_serveCustomers_15 : decode cX3_serveCustomers 15 = .ok (.invokevirtual 132, 3) := by decide +kernel
theorem dX3_serveCustomers_18 : decode cX3_serveCustomers 18 = .ok (.invokestatic 84, 3) := by decide +kernel
theorem dX3_serveCustomers_21 : decode cX3_serveCustomers 21 = .ok (.istore_n 3, 1) := by decide +kernel
theorem dX3_serveCustomers_22 : decode cX3_serveCustomers 22 = .ok (.aload_n 1, 1) := by decide +kernel
theorem dX3_serveCustomers_23 : decode cX3_serveCustomers 23 = .ok (.dup, 1) := by decide +kernel
theorem dX3_serveCustomers_24 : decode cX3_serveCustomers 24 = .ok (.getfield 76, 3) := by decide +kernel
theorem dX3_serveCustomers_27 : decode cX3_serveCustomers 27 = .ok (.aload_n 1, 1) := by decide +kernel
theorem dX3_serveCustomers_28 : decode cX3_serveCustomers 28 = .ok (.getfield 119, 3) := by decide +kernel
theorem dX3_serveCustomers_31 : decode cX3_serveCustomers 31 = .ok (.iload_n 3, 1) := by decide +kernel
theorem dX3_serveCustomers_32 : decode cX3_serveCustomers 32 = .ok (.aload_n 0, 1) := by decide +kernel
theorem dX3_serveCustomers_33 : decode cX3_serveCustomers 33 = .ok (.getfield 17, 3) := by decide +kernel
theorem dX3_serveCustomers_36 : decode cX3_serveCustomers 36 = .ok (.invokevirtual 184, 3) := by decide +kernel
theorem dX3_serveCustomers_39 : decode cX3_serveCustomers 39 = .ok (.iadd, 1) := by decide +kernel
theorem dX3_serveCustomers_40 : decode cX3_serveCustomers 40 = .ok (.putfield 76, 3) := by decide +kernel
theorem dX3_serveCustomers_43 : decode cX3_serveCustomers 43 = .ok (.aload_n 0, 1) := by decide +kernel
theorem dX3_serveCustomers_44 : decode cX3_serveCustomers 44 = .ok (.dup, 1) := by decide +kernel
theorem dX3_serveCustomers_45 : decode cX3_serveCustomers 45 = .ok (.getfield 27, 3) := by decide +kernel
theorem dX3_serveCustomers_48 : decode cX3_serveCustomers 48 = .ok (.iload_n 3, 1) := by decide +kernel
theorem dX3_serveCustomers_49 : decode cX3_serveCustomers 49 = .ok (.iadd, 1) := by decide +kernel
theorem dX3_serveCustomers_50 : decode cX3_serveCustomers 50 = .ok (.putfield 27, 3) := by decide +kernel
theorem dX3_serveCustomers_53 : decode cX3_serveCustomers 53 = .ok (.aload_n 0, 1) := by decide +kernel
theorem dX3_serveCustomers_54 : decode cX3_serveCustomers 54 = .ok (.iload_n 2, 1) := by decide +kernel
theorem dX3_serveCustomers_55 : decode cX3_serveCustomers 55 = .ok (.iload_n 3, 1) := by decide +kernel
theorem dX3_serveCustomers_56 : decode cX3_serveCustomers 56 = .ok (.isub, 1) := by decide +kernel
theorem dX3_serveCustomers_57 : decode cX3_serveCustomers 57 = .ok (.putfield 30, 3) := by decide +kernel
theorem dX3_serveCustomers_60 : decode cX3_serveCustomers 60 = .ok (.aload_n 0, 1) := by decide +kernel
theorem dX3_serveCustomers_61 : decode cX3_serveCustomers 61 = .ok (.getfield 30, 3) := by decide +kernel
theorem dX3_serveCustomers_64 : decode cX3_serveCustomers 64 = .ok (.ifCond .le 13, 3) := by decide +kernel
theorem dX3_serveCustomers_67 : decode cX3_serveCustomers 67 = .ok (.aload_n 0, 1) := by decide +kernel
theorem dX3_serveCustomers_68 : decode cX3_serveCustomers 68 = .ok (.dup, 1) := by decide +kernel
theorem dX3_serveCustomers_69 : decode cX3_serveCustomers 69 = .ok (.getfield 33, 3) := by decide +kernel
theorem dX3_serveCustomers_72 : decode cX3_serveCustomers 72 = .ok (.iconst 1, 1) := by decide +kernel
theorem dX3_serveCustomers_73 : decode cX3_serveCustomers 73 = .ok (.iadd, 1) := by decide +kernel
theorem dX3_serveCustomers_74 : decode cX3_serveCustomers 74 = .ok (.putfield 33, 3) := by decide +kernel
theorem dX3_serveCustomers_77 : decode cX3_serveCustomers 77 = .ok (.return_, 1) := by decide +kernel
