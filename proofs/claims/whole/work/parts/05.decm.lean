theorem dX4_init_0 : decode cX4_init 0 = .ok (.aload_n 0, 1) := by decide +kernel
theorem dX4_init_1 : decode cX4_init 1 = .ok (.invokespecial 1, 3) := by decide +kernel
theorem dX4_init_4 : decode cX4_init 4 = .ok (.aload_n 0, 1) := by decide +kernel
theorem dX4_init_5 : decode cX4_init 5 = .ok (.bipush 6, 2) := by decide +kernel
theorem dX4_init_7 : decode cX4_init 7 = .ok (.newarray .int, 2) := by decide +kernel
theorem dX4_init_9 : decode cX4_init 9 = .ok (.putfield 7, 3) := by decide +kernel
theorem dX4_init_12 : decode cX4_init 12 = .ok (.aload_n 0, 1) := by decide +kernel
theorem dX4_init_13 : decode cX4_init 13 = .ok (.bipush 6, 2) := by decide +kernel
theorem dX4_init_15 : decode cX4_init 15 = .ok (.newarray .int, 2) := by decide +kernel
theorem dX4_init_17 : decode cX4_init 17 = .ok (.putfield 13, 3) := by decide +kernel
theorem dX4_init_20 : decode cX4_init 20 = .ok (.aload_n 0, 1) := by decide +kernel
theorem dX4_init_21 : decode cX4_init 21 = .ok (.bipush 6, 2) := by decide +kernel
theorem dX4_init_23 : decode cX4_init 23 = .ok (.newarray .int, 2) := by decide +kernel
theorem dX4_init_25 : decode cX4_init 25 = .ok (.putfield 16, 3) := by decide +kernel
theorem dX4_init_28 : decode cX4_init 28 = .ok (.aload_n 0, 1) := by decide +kernel
theorem dX4_init_29 : decode cX4_init 29 = .ok (.bipush 6, 2) := by decide +kernel
theorem dX4_init_31 : decode cX4_init 31 = .ok (.newarray .int, 2) := by decide +kernel
theorem dX4_init_33 : decode cX4_init 33 = .ok (.putfield 19, 3) := by decide +kernel
theorem dX4_init_36 : decode cX4_init 36 = .ok (.aload_n 0, 1) := by decide +kernel
theorem dX4_init_37 : decode cX4_init 37 = .ok (.bipush 6, 2) := by decide +kernel
theorem dX4_init_39 : decode cX4_init 39 = .ok (.newarray .boolean, 2) := by decide +kernel
theorem dX4_init_41 : decode cX4_init 41 = .ok (.putfield 22, 3) := by decide +kernel
theorem dX4_init_44 : decode cX4_init 44 = .ok (.aload_n 0, 1) := by decide +kernel
theorem dX4_init_45 : decode cX4_init 45 = .ok (.bipush 6, 2) := by decide +kernel
theorem dX4_init_47 : decode cX4_init 47 = .ok (.newarray .int, 2) := by decide +kernel
theorem dX4_init_49 : decode cX4_init 49 = .ok (.putfield 26, 3) := by decide +kernel
theorem dX4_init_52 : decode cX4_init 52 = .ok (.aload_n 0, 1) := by decide +kernel
theorem dX4_init_53 : decode cX4_init 53 = .ok (.bipush 6, 2) := by decide +kernel
theorem dX4_init_55 : decode cX4_init 55 = .ok (.newarray .int, 2) := by decide +kernel
theorem dX4_init_57 : decode cX4_init 57 = .ok (.putfield 29, 3) := by decide +kernel
theorem dX4_init_60 : decode cX4_init 60 = .ok (.aload_n 0, 1) := by decide +kernel
theorem dX4_init_61 : decode cX4_init 61 = .ok (.bipush 6, 2) := by decide +kernel
theorem dX4_init_63 : decode cX4_init 63 = .ok (.newarray .int, 2) := by decide +kernel
theorem dX4_init_65 : decode cX4_init 65 = .ok (.putfield 32, 3) := by decide +kernel
theorem dX4_init_68 : decode cX4_init 68 = .ok (.aload_n 0, 1) := by decide +kernel
theorem dX4_init_69 : decode cX4_init 69 = .ok (.bipush 6, 2) := by decide +kernel
theorem dX4_init_71 : decode cX4_init 71 = .ok (.newarray .int, 2) := by decide +kernel
theorem dX4_init_73 : decode cX4_init 73 = .ok (.putfield 35, 3) := by decide +kernel
theorem dX4_init_76 : decode cX4_init 76 = .ok (.aload_n 0, 1) := by decide +kernel
theorem dX4_init_77 : decode cX4_init 77 = .ok (.bipush 6, 2) := by decide +kernel
theorem dX4_init_79 : decode cX4_init 79 = .ok (.newarray .int, 2) := by decide +kernel
theorem dX4_init_81 : decode cX4_init 81 = .ok (.putfield 38, 3) := by decide +kernel
theorem dX4_init_84 : decode cX4_init 84 = .ok (.aload_n 0, 1) := by decide +kernel
theorem dX4_init_85 : decode cX4_init 85 = .ok (.bipush 6, 2) := by decide +kernel
theorem dX4_init_87 : decode cX4_init 87 = .ok (.newarray .int, 2) := by decide +kernel
theorem dX4_init_89 : decode cX4_init 89 = .ok (.putfield 41, 3) := by decide +kernel
theorem dX4_init_92 : decode cX4_init 92 = .ok (.aload_n 0, 1) := by decide +kernel
theorem dX4_init_93 : decode cX4_init 93 = .ok (.bipush 6, 2) := by decide +kernel
theorem dX4_init_95 : decode cX4_init 95 = .ok (.newarray .int, 2) := by decide +kernel
theorem dX4_init_97 : decode cX4_init 97 = .ok (.putfield 44, 3) := by decide +kernel
theorem dX4_init_100 : decode cX4_init 100 = .ok (.aload_n 0, 1) := by decide +kernel
theorem dX4_init_101 : decode cX4_init 101 = .ok (.bipush 96, 2) := by decide +kernel
theorem dX4_init_103 : decode cX4_init 103 = .ok (.newarray .int, 2) := by decide +kernel
theorem dX4_init_105 : decode cX4_init 105 = .ok (.putfield 47, 3) := by decide +kernel
theorem dX4_init_108 : decode cX4_init 108 = .ok (.aload_n 0, 1) := by decide +kernel
theorem dX4_init_109 : decode cX4_init 109 = .ok (.bipush 96, 2) := by decide +kernel
theorem dX4_init_111 : decode cX4_init 111 = .ok (.newarray .int, 2) := by decide +kernel
theorem dX4_init_113 : decode cX4_init 113 = .ok (.putfield 50, 3) := by decide +kernel
theorem dX4_init_116 : decode cX4_init 116 = .ok (.aload_n 0, 1) := by decide +kernel
theorem dX4_init_117 : decode cX4_init 117 = .ok (.bipush 6, 2) := by decide +kernel
theorem dX4_init_119 : decode cX4_init 119 = .ok (.newarray .int, 2) := by decide +kernel
theorem dX4_init_121 : decode cX4_init 121 = .ok (.putfield 53, 3) := by decide +kernel
theorem dX4_init_124 : decode cX4_init 124 = .ok (.aload_n 0, 1) := by decide +kernel
theorem dX4_init_125 : decode cX4_init 125 = .ok (.bipush 96, 2) := by decide +kernel
theorem dX4_init_127 : decode cX4_init 127 = .ok (.newarray .int, 2) := by decide +kernel
theorem dX4_init_129 : decode cX4_init 129 = .ok (.putfield 56, 3) := by decide +kernel
theorem dX4_init_132 : decode cX4_init 132 = .ok (.aload_n 0, 1) := by decide +kernel
theorem dX4_init_133 : decode cX4_init 133 = .ok (.bipush 96, 2) := by decide +kernel
theorem dX4_init_135 : decode cX4_init 135 = .ok (.newarray .int, 2) := by decide +kernel
theorem dX4_init_137 : decode cX4_init 137 = .ok (.putfield 59, 3) := by decide +kernel
theorem dX4_init_140 : decode cX4_init 140 = .ok (.aload_n 0, 1) := by decide +kernel
theorem dX4_init_141 : decode cX4_init 141 = .ok (.bipush 6, 2) := by decide +kernel
theorem dX4_init_143 : decode cX4_init 143 = .ok (.newarray .int, 2) := by decide +kernel
theorem dX4_init_145 : decode cX4_init 145 = .ok (.putfield 62, 3) := by decide +kernel
theorem dX4_init_148 : decode cX4_init 148 = .ok (.aload_n 0, 1) := by decide +kernel
theorem dX4_init_149 : decode cX4_init 149 = .ok (.bipush 96, 2) := by decide +kernel
theorem dX4_init_151 : decode cX4_init 151 = .ok (.newarray .int, 2) := by decide +kernel
theorem dX4_init_153 : decode cX4_init 153 = .ok (.putfield 65, 3) := by decide +kernel
theorem dX4_init_156 : decode cX4_init 156 = .ok (.aload_n 0, 1) := by decide +kernel
theorem dX4_init_157 : decode cX4_init 157 = .ok (.bipush 96, 2) := by decide +kernel
theorem dX4_init_159 : decode cX4_init 159 = .ok (.newarray .int, 2) := by decide +kernel
theorem dX4_init_161 : decode cX4_init 161 = .ok (.putfield 68, 3) := by decide +kernel
theorem dX4_init_164 : decode cX4_init 164 = .ok (.aload_n 0, 1) := by decide +kernel
theorem dX4_init_165 : decode cX4_init 165 = .ok (.bipush 6, 2) := by decide +kernel
theorem dX4_init_167 : decode cX4_init 167 = .ok (.newarray .int, 2) := by decide +kernel
theorem dX4_init_169 : decode cX4_init 169 = .ok (.putfield 71, 3) := by decide +kernel
theorem dX4_init_172 : decode cX4_init 172 = .ok (.return_, 1) := by decide +kernel
theorem dX4_thrown_0 : decode cX4_thrown 0 = .ok (.aload_n 0, 1) := by decide +kernel
theorem dX4_thrown_1 : decode cX4_thrown 1 = .ok (.getfield 74, 3) := by decide +kernel
theorem dX4_thrown_4 : decode cX4_thrown 4 = .ok (.ireturn, 1) := by decide +kernel
theorem dX4_isIn_0 : decode cX4_isIn 0 = .ok (.iload_n 0, 1) := by decide +kernel
theorem dX4_isIn_1 : decode cX4_isIn 1 = .ok (.iload_n 1, 1) := by decide +kernel
theorem dX4_isIn_2 : decode cX4_isIn 2 = .ok (.if_icmp .lt 12, 3) := by decide +kernel
theorem dX4_isIn_5 : decode cX4_isIn 5 = .ok (.iload_n 0, 1) := by decide +kernel
theorem dX4_isIn_6 : decode cX4_isIn 6 = .ok (.iload_n 2, 1) := by decide +kernel
theorem dX4_isIn_7 : decode cX4_isIn 7 = .ok (.if_icmp .gt 7, 3) := by decide +kernel
theorem dX4_isIn_10 : decode cX4_isIn 10 = .ok (.iconst 1, 1) := by decide +kernel
theorem dX4_isIn_11 : decode cX4_isIn 11 = .ok (.goto 4, 3) := by decide +kernel
theorem dX4_isIn_14 : decode cX4_isIn 14 = .ok (.iconst 0, 1) := by decide +kernel
theorem dX4_isIn_15 : decode cX4_isIn 15 = .ok (.ireturn, 1) := by decide +kernel
theorem dX4_asks_0 : decode cX4_asks 0 = .ok (.iload_n 1, 1) := by decide +kernel
theorem dX4_asks_1 : decode cX4_asks 1 = .ok (.iload_n 2, 1) := by decide +kernel
theorem dX4_asks_2 : decode cX4_asks 2 = .ok (.if_icmp .lt 15, 3) := by decide +kernel
theorem dX4_asks_5 : decode cX4_asks 5 = .ok (.iload_n 1, 1) := by decide +kernel
theorem dX4_asks_6 : decode cX4_asks 6 = .ok (.aload_n 0, 1) := by decide +kernel
theorem dX4_asks_7 : decode cX4_asks 7 = .ok (.getfield 78, 3) := by decide +kernel
theorem dX4_asks_10 : decode cX4_asks 10 = .ok (.if_icmp .ge 7, 3) := by decide +kernel
theorem dX4_asks_13 : decode cX4_asks 13 = .ok (.iconst 1, 1) := by decide +kernel
theorem dX4_asks_14 : decode cX4_asks 14 = .ok (.goto 4, 3) := by decide +kernel
theorem dX4_asks_17 : decode cX4_asks 17 = .ok (.iconst 0, 1) := by decide +kernel
theorem dX4_asks_18 : decode cX4_asks 18 = .ok (.istore_n 3, 1) := by decide +kernel
theorem dX4_asks_19 : decode cX4_asks 19 = .ok (.aload_n 0, 1) := by decide +kernel
theorem dX4_asks_20 : decode cX4_asks 20 = .ok (.iload_n 3, 1) := by decide +kernel
theorem dX4_asks_21 : decode cX4_asks 21 = .ok (.ifCond .eq 7, 3) := by decide +kernel
theorem dX4_asks_24 : decode cX4_asks 24 = .ok (.iconst 0, 1) := by decide +kernel
theorem dX4_asks_25 : decode cX4_asks 25 = .ok (.goto 4, 3) := by decide +kernel
theorem dX4_asks_28 : decode cX4_asks 28 = .ok (.iconst 1, 1) := by decide +kernel
theorem dX4_asks_29 : decode cX4_asks 29 = .ok (.putfield 74, 3) := by decide +kernel
theorem dX4_asks_32 : decode cX4_asks 32 = .ok (.iload_n 3, 1) := by decide +kernel
theorem dX4_asks_33 : decode cX4_asks 33 = .ok (.ireturn, 1) := by decide +kernel
theorem dX4_stage_0 : decode cX4_stage 0 = .ok (.iload_n 1, 1) := by decide +kernel
theorem dX4_stage_1 : decode cX4_stage 1 = .ok (.iconst 1, 1) := by decide +kernel
theorem dX4_stage_2 : decode cX4_stage 2 = .ok (.bipush 9, 2) := by decide +kernel
theorem dX4_stage_4 : decode cX4_stage 4 = .ok (.invokestatic 81, 3) := by decide +kernel
theorem dX4_stage_7 : decode cX4_stage 7 = .ok (.ifCond .eq 38, 3) := by decide +kernel
theorem dX4_stage_10 : decode cX4_stage 10 = .ok (.iload_n 2, 1) := by decide +kernel
theorem dX4_stage_11 : decode cX4_stage 11 = .ok (.iconst 1, 1) := by decide +kernel
theorem dX4_stage_12 : decode cX4_stage 12 = .ok (.bipush 10, 2) := by decide +kernel
theorem dX4_stage_14 : decode cX4_stage 14 = .ok (.invokestatic 81, 3) := by decide +kernel
theorem dX4_stage_17 : decode cX4_stage 17 = .ok (.ifCond .eq 28, 3) := by decide +kernel
theorem dX4_stage_20 : decode cX4_stage 20 = .ok (.iload_n 3, 1) := by decide +kernel
theorem dX4_stage_21 : decode cX4_stage 21 = .ok (.iconst 1, 1) := by decide +kernel
theorem dX4_stage_22 : decode cX4_stage 22 = .ok (.bipush 9, 2) := by decide +kernel
theorem dX4_stage_24 : decode cX4_stage 24 = .ok (.invokestatic 81, 3) := by decide +kernel
theorem dX4_stage_27 : decode cX4_stage 27 = .ok (.ifCond .eq 18, 3) := by decide +kernel
theorem dX4_stage_30 : decode cX4_stage 30 = .ok (.iload 4, 2) := by decide +kernel
theorem dX4_stage_32 : decode cX4_stage 32 = .ok (.iconst 1, 1) := by decide +kernel
theorem dX4_stage_33 : decode cX4_stage 33 = .ok (.bipush 9, 2) := by decide +kernel
theorem dX4_stage_35 : decode cX4_stage 35 = .ok (.invokestatic 81, 3) := by decide +kernel
theorem dX4_stage_38 : decode cX4_stage 38 = .ok (.ifCond .eq 7, 3) := by decide +kernel
theorem dX4_stage_41 : decode cX4_stage 41 = .ok (.iconst 1, 1) := by decide +kernel
theorem dX4_stage_42 : decode cX4_stage 42 = .ok (.goto 4, 3) := by decide +kernel
theorem dX4_stage_45 : decode cX4_stage 45 = .ok (.iconst 0, 1) := by decide +kernel
theorem dX4_stage_46 : decode cX4_stage 46 = .ok (.istore 6, 2) := by decide +kernel
theorem dX4_stage_48 : decode cX4_stage 48 = .ok (.aload_n 0, 1) := by decide +kernel
theorem dX4_stage_49 : decode cX4_stage 49 = .ok (.iload 6, 2) := by decide +kernel
theorem dX4_stage_51 : decode cX4_stage 51 = .ok (.ifCond .ne 7, 3) := by decide +kernel
theorem dX4_stage_54 : decode cX4_stage 54 = .ok (.iconst 1, 1) := by decide +kernel
theorem dX4_stage_55 : decode cX4_stage 55 = .ok (.goto 17, 3) := by decide +kernel
theorem dX4_stage_58 : decode cX4_stage 58 = .ok (.aload_n 0, 1) := by decide +kernel
theorem dX4_stage_59 : decode cX4_stage 59 = .ok (.getfield 78, 3) := by decide +kernel
theorem dX4_stage_62 : decode cX4_stage 62 = .ok (.bipush 6, 2) := by decide +kernel
theorem dX4_stage_64 : decode cX4_stage 64 = .ok (.if_icmp .ne 7, 3) := by decide +kernel
theorem dX4_stage_67 : decode cX4_stage 67 = .ok (.iconst 2, 1) := by decide +kernel
theorem dX4_stage_68 : decode cX4_stage 68 = .ok (.goto 4, 3) := by decide +kernel
theorem dX4_stage_71 : decode cX4_stage 71 = .ok (.iconst 0, 1) := by decide +kernel
theorem dX4_stage_72 : decode cX4_stage 72 = .ok (.putfield 74, 3) := by decide +kernel
theorem dX4_stage_75 : decode cX4_stage 75 = .ok (.aload_n 0, 1) := by decide +kernel
theorem dX4_stage_76 : decode cX4_stage 76 = .ok (.getfield 74, 3) := by decide +kernel
theorem dX4_stage_79 : decode cX4_stage 79 = .ok (.ifCond .le 5, 3) := by decide +kernel
theorem dX4_stage_82 : decode cX4_stage 82 = .ok (.iconst 0, 1) := by decide +kernel
theorem dX4_stage_83 : decode cX4_stage 83 = .ok (.ireturn, 1) := by decide +kernel
theorem dX4_stage_84 : decode cX4_stage 84 = .ok (.aload_n 0, 1) := by decide +kernel
theorem dX4_stage_85 : decode cX4_stage 85 = .ok (.getfield 78, 3) := by decide +kernel
theorem dX4_stage_88 : decode cX4_stage 88 = .ok (.istore 7, 2) := by decide +kernel
theorem dX4_stage_90 : decode cX4_stage 90 = .ok (.aload_n 0, 1) := by decide +kernel
theorem dX4_stage_91 : decode cX4_stage 91 = .ok (.getfield 7, 3) := by decide +kernel
theorem dX4_stage_94 : decode cX4_stage 94 = .ok (.iload 7, 2) := by decide +kernel
theorem dX4_stage_96 : decode cX4_stage 96 = .ok (.iload_n 1, 1) := by decide +kernel
theorem dX4_stage_97 : decode cX4_stage 97 = .ok (.iastore, 1) := by decide +kernel
theorem dX4_stage_98 : decode cX4_stage 98 = .ok (.aload_n 0, 1) := by decide +kernel
theorem dX4_stage_99 : decode cX4_stage 99 = .ok (.getfield 13, 3) := by decide +kernel
theorem dX4_stage_102 : decode cX4_stage 102 = .ok (.iload 7, 2) := by decide +kernel
theorem dX4_stage_104 : decode cX4_stage 104 = .ok (.iload_n 2, 1) := by decide +kernel
theorem dX4_stage_105 : decode cX4_stage 105 = .ok (.iastore, 1) := by decide +kernel
theorem dX4_stage_106 : decode cX4_stage 106 = .ok (.aload_n 0, 1) := by decide +kernel
theorem dX4_stage_107 : decode cX4_stage 107 = .ok (.getfield 16, 3) := by decide +kernel
theorem dX4_stage_110 : decode cX4_stage 110 = .ok (.iload 7, 2) := by decide +kernel
theorem dX4_stage_112 : decode cX4_stage 112 = .ok (.iload_n 3, 1) := by decide +kernel
theorem dX4_stage_113 : decode cX4_stage 113 = .ok (.iastore, 1) := by decide +kernel
theorem dX4_stage_114 : decode cX4_stage 114 = .ok (.aload_n 0, 1) := by decide +kernel
theorem dX4_stage_115 : decode cX4_stage 115 = .ok (.getfield 19, 3) := by decide +kernel
theorem dX4_stage_118 : decode cX4_stage 118 = .ok (.iload 7, 2) := by decide +kernel
theorem dX4_stage_120 : decode cX4_stage 120 = .ok (.iload 4, 2) := by decide +kernel
theorem dX4_stage_122 : decode cX4_stage 122 = .ok (.iastore, 1) := by decide +kernel
theorem dX4_stage_123 : decode cX4_stage 123 = .ok (.aload_n 0, 1) := by decide +kernel
theorem dX4_stage_124 : decode cX4_stage 124 = .ok (.getfield 26, 3) := by decide +kernel
theorem dX4_stage_127 : decode cX4_stage 127 = .ok (.iload 7, 2) := by decide +kernel
theorem dX4_stage_129 : decode cX4_stage 129 = .ok (.iload 5, 2) := by decide +kernel
theorem dX4_stage_131 : decode cX4_stage 131 = .ok (.ifCond .eq 7, 3) := by decide +kernel
theorem dX4_stage_134 : decode cX4_stage 134 = .ok (.iconst 0, 1) := by decide +kernel
theorem dX4_stage_135 : decode cX4_stage 135 = .ok (.goto 4, 3) := by decide +kernel
theorem dX4_stage_138 : decode cX4_stage 138 = .ok (.iload_n 1, 1) := by decide +kernel
theorem dX4_stage_139 : decode cX4_stage 139 = .ok (.iastore, 1) := by decide +kernel
theorem dX4_stage_140 : decode cX4_stage 140 = .ok (.iconst 0, 1) := by decide +kernel
theorem dX4_stage_141 : decode cX4_stage 141 = .ok (.istore 8, 2) := by decide +kernel
theorem dX4_stage_143 : decode cX4_stage 143 = .ok (.iload 8, 2) := by decide +kernel
theorem dX4_stage_145 : decode cX4_stage 145 = .ok (.iload_n 1, 1) := by decide +kernel
theorem dX4_stage_146 : decode cX4_stage 146 = .ok (.if_icmp .ge 21, 3) := by decide +kernel
theorem dX4_stage_149 : decode cX4_stage 149 = .ok (.iload 5, 2) := by decide +kernel
theorem dX4_stage_151 : decode cX4_stage 151 = .ok (.ifCond .eq 16, 3) := by decide +kernel
theorem dX4_stage_154 : decode cX4_stage 154 = .ok (.aload_n 0, 1) := by decide +kernel
theorem dX4_stage_155 : decode cX4_stage 155 = .ok (.iload 7, 2) := by decide +kernel
theorem dX4_stage_157 : decode cX4_stage 157 = .ok (.iload_n 2, 1) := by decide +kernel
theorem dX4_stage_158 : decode cX4_stage 158 = .ok (.invokevirtual 85, 3) := by decide +kernel
theorem dX4_stage_161 : decode cX4_stage 161 = .ok (.iinc 8 1, 3) := by decide +kernel
theorem dX4_stage_164 : decode cX4_stage 164 = .ok (.goto (-21), 3) := by decide +kernel
theorem dX4_stage_167 : decode cX4_stage 167 = .ok (.aload_n 0, 1) := by decide +kernel
theorem dX4_stage_168 : decode cX4_stage 168 = .ok (.dup, 1) := by decide +kernel
theorem dX4_stage_169 : decode cX4_stage 169 = .ok (.getfield 89, 3) := by decide +kernel
theorem dX4_stage_172 : decode cX4_stage 172 = .ok (.iload 5, 2) := by decide +kernel
theorem dX4_stage_174 : decode cX4_stage 174 = .ok (.ifCond .eq 9, 3) := by decide +kernel
theorem dX4_stage_177 : decode cX4_stage 177 = .ok (.iload_n 1, 1) := by decide +kernel
theorem dX4_stage_178 : decode cX4_stage 178 = .ok (.iload_n 2, 1) := by decide +kernel
theorem dX4_stage_179 : decode cX4_stage 179 = .ok (.imul, 1) := by decide +kernel
theorem dX4_stage_180 : decode cX4_stage 180 = .ok (.goto 4, 3) := by decide +kernel
theorem dX4_stage_183 : decode cX4_stage 183 = .ok (.iconst 0, 1) := by decide +kernel
theorem dX4_stage_184 : decode cX4_stage 184 = .ok (.iadd, 1) := by decide +kernel
theorem dX4_stage_185 : decode cX4_stage 185 = .ok (.putfield 89, 3) := by decide +kernel
theorem dX4_stage_188 : decode cX4_stage 188 = .ok (.aload_n 0, 1) := by decide +kernel
theorem dX4_stage_189 : decode cX4_stage 189 = .ok (.getfield 41, 3) := by decide +kernel
theorem dX4_stage_192 : decode cX4_stage 192 = .ok (.iload 7, 2) := by decide +kernel
theorem dX4_stage_194 : decode cX4_stage 194 = .ok (.iload 7, 2) := by decide +kernel
theorem dX4_stage_196 : decode cX4_stage 196 = .ok (.ifCond .ne 7, 3) := by decide +kernel
theorem dX4_stage_199 : decode cX4_stage 199 = .ok (.iconst 0, 1) := by decide +kernel
theorem dX4_stage_200 : decode cX4_stage 200 = .ok (.goto 4, 3) := by decide +kernel
theorem dX4_stage_203 : decode cX4_stage 203 = .ok (.iconst 1, 1) := by decide +kernel
theorem dX4_stage_204 : decode cX4_stage 204 = .ok (.iastore, 1) := by decide +kernel
theorem dX4_stage_205 : decode cX4_stage 205 = .ok (.aload_n 0, 1) := by decide +kernel
theorem dX4_stage_206 : decode cX4_stage 206 = .ok (.getfield 44, 3) := by decide +kernel
theorem dX4_stage_209 : decode cX4_stage 209 = .ok (.iload 7, 2) := by decide +kernel
theorem dX4_stage_211 : decode cX4_stage 211 = .ok (.aload_n 0, 1) := by decide +kernel
theorem dX4_stage_212 : decode cX4_stage 212 = .ok (.getfield 41, 3) := by decide +kernel
theorem dX4_stage_215 : decode cX4_stage 215 = .ok (.iload 7, 2) := by decide +kernel
theorem dX4_stage_217 : decode cX4_stage 217 = .ok (.iaload, 1) := by decide +kernel
theorem dX4_stage_218 : decode cX4_stage 218 = .ok (.iastore, 1) := by decide +kernel
theorem dX4_stage_219 : decode cX4_stage 219 = .ok (.aload_n 0, 1) := by decide +kernel
theorem dX4_stage_220 : decode cX4_stage 220 = .ok (.dup, 1) := by decide +kernel
theorem dX4_stage_221 : decode cX4_stage 221 = .ok (.getfield 78, 3) := by decide +kernel
theorem dX4_stage_224 : decode cX4_stage 224 = .ok (.iconst 1, 1) := by decide +kernel
theorem dX4_stage_225 : decode cX4_stage 225 = .ok (.iadd, 1) := by decide +kernel
theorem dX4_stage_226 : decode cX4_stage 226 = .ok (.putfield 78, 3) := by decide +kernel
theorem dX4_stage_229 : decode cX4_stage 229 = .ok (.iload 7, 2) := by decide +kernel
theorem dX4_stage_231 : decode cX4_stage 231 = .ok (.ireturn, 1) := by decide +kernel
theorem dX4_comesToMarket_0 : decode cX4_comesToMarket 0 = .ok (.aload_n 0, 1) := by decide +kernel
theorem dX4_comesToMarket_1 : decode cX4_comesToMarket 1 = .ok (.getfield 47, 3) := by decide +kernel
theorem dX4_comesToMarket_4 : decode cX4_comesToMarket 4 = .ok (.bipush 16, 2) := by decide +kernel
theorem dX4_comesToMarket_6 : decode cX4_comesToMarket 6 = .ok (.iload_n 1, 1) := by decide +kernel
theorem dX4_comesToMarket_7 : decode cX4_comesToMarket 7 = .ok (.imul, 1) := by decide +kernel
theorem dX4_comesToMarket_8 : decode cX4_comesToMarket 8 = .ok (.aload_n 0, 1) := by decide +kernel
theorem dX4_comesToMarket_9 : decode cX4_comesToMarket 9 = .ok (.getfield 53, 3) := by decide +kernel
theorem dX4_comesToMarket_12 : decode cX4_comesToMarket 12 = .ok (.iload_n 1, 1) := by decide +kernel
theorem dX4_comesToMarket_13 : decode cX4_comesToMarket 13 = .ok (.iaload, 1) := by decide +kernel
theorem dX4_comesToMarket_14 : decode cX4_comesToMarket 14 = .ok (.iadd, 1) := by decide +kernel
theorem dX4_comesToMarket_15 : decode cX4_comesToMarket 15 = .ok (.iload_n 2, 1) := by decide +kernel
theorem dX4_comesToMarket_16 : decode cX4_comesToMarket 16 = .ok (.iastore, 1) := by decide +kernel
theorem dX4_comesToMarket_17 : decode cX4_comesToMarket 17 = .ok (.aload_n 0, 1) := by decide +kernel
theorem dX4_comesToMarket_18 : decode cX4_comesToMarket 18 = .ok (.getfield 50, 3) := by decide +kernel
theorem dX4_comesToMarket_21 : decode cX4_comesToMarket 21 = .ok (.bipush 16, 2) := by decide +kernel
theorem dX4_comesToMarket_23 : decode cX4_comesToMarket 23 = .ok (.iload_n 1, 1) := by decide +kernel
theorem dX4_comesToMarket_24 : decode cX4_comesToMarket 24 = .ok (.imul, 1) := by decide +kernel
theorem dX4_comesToMarket_25 : decode cX4_comesToMarket 25 = .ok (.aload_n 0, 1) := by decide +kernel
theorem dX4_comesToMarket_26 : decode cX4_comesToMarket 26 = .ok (.getfield 53, 3) := by decide +kernel
theorem dX4_comesToMarket_29 : decode cX4_comesToMarket 29 = .ok (.iload_n 1, 1) := by decide +kernel
theorem dX4_comesToMarket_30 : decode cX4_comesToMarket 30 = .ok (.iaload, 1) := by decide +kernel
theorem dX4_comesToMarket_31 : decode cX4_comesToMarket 31 = .ok (.iadd, 1) := by decide +kernel
theorem dX4_comesToMarket_32 : decode cX4_comesToMarket 32 = .ok (.iconst 1, 1) := by decide +kernel
theorem dX4_comesToMarket_33 : decode cX4_comesToMarket 33 = .ok (.iastore, 1) := by decide +kernel
theorem dX4_comesToMarket_34 : decode cX4_comesToMarket 34 = .ok (.aload_n 0, 1) := by decide +kernel
theorem dX4_comesToMarket_35 : decode cX4_comesToMarket 35 = .ok (.getfield 53, 3) := by decide +kernel
theorem dX4_comesToMarket_38 : decode cX4_comesToMarket 38 = .ok (.iload_n 1, 1) := by decide +kernel
theorem dX4_comesToMarket_39 : decode cX4_comesToMarket 39 = .ok (.dup2, 1) := by decide +kernel
theorem dX4_comesToMarket_40 : decode cX4_comesToMarket 40 = .ok (.iaload, 1) := by decide +kernel
theorem dX4_comesToMarket_41 : decode cX4_comesToMarket 41 = .ok (.iconst 1, 1) := by decide +kernel
theorem dX4_comesToMarket_42 : decode cX4_comesToMarket 42 = .ok (.iadd, 1) := by decide +kernel
theorem dX4_comesToMarket_43 : decode cX4_comesToMarket 43 = .ok (.iastore, 1) := by decide +kernel
theorem dX4_comesToMarket_44 : decode cX4_comesToMarket 44 = .ok (.return_, 1) := by decide +kernel
theorem dX4_comesToInbox_0 : decode cX4_comesToInbox 0 = .ok (.aload_n 0, 1) := by decide +kernel
theorem dX4_comesToInbox_1 : decode cX4_comesToInbox 1 = .ok (.getfield 56, 3) := by decide +kernel
theorem dX4_comesToInbox_4 : decode cX4_comesToInbox 4 = .ok (.bipush 16, 2) := by decide +kernel
theorem dX4_comesToInbox_6 : decode cX4_comesToInbox 6 = .ok (.iload_n 1, 1) := by decide +kernel
theorem dX4_comesToInbox_7 : decode cX4_comesToInbox 7 = .ok (.imul, 1) := by decide +kernel
theorem dX4_comesToInbox_8 : decode cX4_comesToInbox 8 = .ok (.aload_n 0, 1) := by decide +kernel
theorem dX4_comesToInbox_9 : decode cX4_comesToInbox 9 = .ok (.getfield 62, 3) := by decide +kernel
theorem dX4_comesToInbox_12 : decode cX4_comesToInbox 12 = .ok (.iload_n 1, 1) := by decide +kernel
theorem dX4_comesToInbox_13 : decode cX4_comesToInbox 13 = .ok (.iaload, 1) := by decide +kernel
theorem dX4_comesToInbox_14 : decode cX4_comesToInbox 14 = .ok (.iadd, 1) := by decide +kernel
theorem dX4_comesToInbox_15 : decode cX4_comesToInbox 15 = .ok (.iload_n 2, 1) := by decide +kernel
theorem dX4_comesToInbox_16 : decode cX4_comesToInbox 16 = .ok (.iastore, 1) := by decide +kernel
theorem dX4_comesToInbox_17 : decode cX4_comesToInbox 17 = .ok (.aload_n 0, 1) := by decide +kernel
theorem dX4_comesToInbox_18 : decode cX4_comesToInbox 18 = .ok (.getfield 59, 3) := by decide +kernel
theorem dX4_comesToInbox_21 : decode cX4_comesToInbox 21 = .ok (.bipush 16, 2) := by decide +kernel
theorem dX4_comesToInbox_23 : decode cX4_comesToInbox 23 = .ok (.iload_n 1, 1) := by decide +kernel
theorem dX4_comesToInbox_24 : decode cX4_comesToInbox 24 = .ok (.imul, 1) := by decide +kernel
theorem dX4_comesToInbox_25 : decode cX4_comesToInbox 25 = .ok (.aload_n 0, 1) := by decide +kernel
theorem dX4_comesToInbox_26 : decode cX4_comesToInbox 26 = .ok (.getfield 62, 3) := by decide +kernel
theorem dX4_comesToInbox_29 : decode cX4_comesToInbox 29 = .ok (.iload_n 1, 1) := by decide +kernel
theorem dX4_comesToInbox_30 : decode cX4_comesToInbox 30 = .ok (.iaload, 1) := by decide +kernel
theorem dX4_comesToInbox_31 : decode cX4_comesToInbox 31 = .ok (.iadd, 1) := by decide +kernel
theorem dX4_comesToInbox_32 : decode cX4_comesToInbox 32 = .ok (.iconst 1, 1) := by decide +kernel
theorem dX4_comesToInbox_33 : decode cX4_comesToInbox 33 = .ok (.iastore, 1) := by decide +kernel
theorem dX4_comesToInbox_34 : decode cX4_comesToInbox 34 = .ok (.aload_n 0, 1) := by decide +kernel
theorem dX4_comesToInbox_35 : decode cX4_comesToInbox 35 = .ok (.getfield 62, 3) := by decide +kernel
theorem dX4_comesToInbox_38 : decode cX4_comesToInbox 38 = .ok (.iload_n 1, 1) := by decide +kernel
theorem dX4_comesToInbox_39 : decode cX4_comesToInbox 39 = .ok (.dup2, 1) := by decide +kernel
theorem dX4_comesToInbox_40 : decode cX4_comesToInbox 40 = .ok (.iaload, 1) := by decide +kernel
theorem dX4_comesToInbox_41 : decode cX4_comesToInbox 41 = .ok (.iconst 1, 1) := by decide +kernel
theorem dX4_comesToInbox_42 : decode cX4_comesToInbox 42 = .ok (.iadd, 1) := by decide +kernel
theorem dX4_comesToInbox_43 : decode cX4_comesToInbox 43 = .ok (.iastore, 1) := by decide +kernel
theorem dX4_comesToInbox_44 : decode cX4_comesToInbox 44 = .ok (.return_, 1) := by decide +kernel
theorem dX4_way_0 : decode cX4_way 0 = .ok (.aload_n 0, 1) := by decide +kernel
theorem dX4_way_1 : decode cX4_way 1 = .ok (.aload_n 0, 1) := by decide +kernel
theorem dX4_way_2 : decode cX4_way 2 = .ok (.iload_n 1, 1) := by decide +kernel
theorem dX4_way_3 : decode cX4_way 3 = .ok (.iconst 1, 1) := by decide +kernel
theorem dX4_way_4 : decode cX4_way 4 = .ok (.invokevirtual 92, 3) := by decide +kernel
theorem dX4_way_7 : decode cX4_way 7 = .ok (.ifCond .ne 7, 3) := by decide +kernel
theorem dX4_way_10 : decode cX4_way 10 = .ok (.iconst 1, 1) := by decide +kernel
theorem dX4_way_11 : decode cX4_way 11 = .ok (.goto 17, 3) := by decide +kernel
theorem dX4_way_14 : decode cX4_way 14 = .ok (.iload_n 2, 1) := by decide +kernel
theorem dX4_way_15 : decode cX4_way 15 = .ok (.iconst 0, 1) := by decide +kernel
theorem dX4_way_16 : decode cX4_way 16 = .ok (.iconst 5, 1) := by decide +kernel
theorem dX4_way_17 : decode cX4_way 17 = .ok (.invokestatic 81, 3) := by decide +kernel
theorem dX4_way_20 : decode cX4_way 20 = .ok (.ifCond .eq 7, 3) := by decide +kernel
theorem dX4_way_23 : decode cX4_way 23 = .ok (.iconst 0, 1) := by decide +kernel
theorem dX4_way_24 : decode cX4_way 24 = .ok (.goto 4, 3) := by decide +kernel
theorem dX4_way_27 : decode cX4_way 27 = .ok (.iconst 2, 1) := by decide +kernel
theorem dX4_way_28 : decode cX4_way 28 = .ok (.putfield 74, 3) := by decide +kernel
theorem dX4_way_31 : decode cX4_way 31 = .ok (.aload_n 0, 1) := by decide +kernel
theorem dX4_way_32 : decode cX4_way 32 = .ok (.getfield 74, 3) := by decide +kernel
theorem dX4_way_35 : decode cX4_way 35 = .ok (.ifCond .le 5, 3) := by decide +kernel
theorem dX4_way_38 : decode cX4_way 38 = .ok (.iconst 0, 1) := by decide +kernel
theorem dX4_way_39 : decode cX4_way 39 = .ok (.ireturn, 1) := by decide +kernel
theorem dX4_way_40 : decode cX4_way 40 = .ok (.aload_n 0, 1) := by decide +kernel
theorem dX4_way_41 : decode cX4_way 41 = .ok (.getfield 38, 3) := by decide +kernel
theorem dX4_way_44 : decode cX4_way 44 = .ok (.iload_n 1, 1) := by decide +kernel
theorem dX4_way_45 : decode cX4_way 45 = .ok (.iaload, 1) := by decide +kernel
theorem dX4_way_46 : decode cX4_way 46 = .ok (.istore_n 3, 1) := by decide +kernel
theorem dX4_way_47 : decode cX4_way 47 = .ok (.aload_n 0, 1) := by decide +kernel
theorem dX4_way_48 : decode cX4_way 48 = .ok (.getfield 38, 3) := by decide +kernel
theorem dX4_way_51 : decode cX4_way 51 = .ok (.iload_n 1, 1) := by decide +kernel
theorem dX4_way_52 : decode cX4_way 52 = .ok (.iload_n 2, 1) := by decide +kernel
theorem dX4_way_53 : decode cX4_way 53 = .ok (.iastore, 1) := by decide +kernel
theorem dX4_way_54 : decode cX4_way 54 = .ok (.iload_n 3, 1) := by decide +kernel
theorem dX4_way_55 : decode cX4_way 55 = .ok (.ireturn, 1) := by decide +kernel
theorem dX4_mark_0 : decode cX4_mark 0 = .ok (.aload_n 0, 1) := by decide +kernel
theorem dX4_mark_1 : decode cX4_mark 1 = .ok (.aload_n 0, 1) := by decide +kernel
theorem dX4_mark_2 : decode cX4_mark 2 = .ok (.iload_n 1, 1) := by decide +kernel
theorem dX4_mark_3 : decode cX4_mark 3 = .ok (.iconst 0, 1) := by decide +kernel
theorem dX4_mark_4 : decode cX4_mark 4 = .ok (.invokevirtual 92, 3) := by decide +kernel
theorem dX4_mark_7 : decode cX4_mark 7 = .ok (.ifCond .ne 7, 3) := by decide +kernel
theorem dX4_mark_10 : decode cX4_mark 10 = .ok (.iconst 1, 1) := by decide +kernel
theorem dX4_mark_11 : decode cX4_mark 11 = .ok (.goto 18, 3) := by decide +kernel
theorem dX4_mark_14 : decode cX4_mark 14 = .ok (.iload_n 2, 1) := by decide +kernel
theorem dX4_mark_15 : decode cX4_mark 15 = .ok (.iconst 1, 1) := by decide +kernel
theorem dX4_mark_16 : decode cX4_mark 16 = .ok (.bipush 9, 2) := by decide +kernel
theorem dX4_mark_18 : decode cX4_mark 18 = .ok (.invokestatic 81, 3) := by decide +kernel
theorem dX4_mark_21 : decode cX4_mark 21 = .ok (.ifCond .eq 7, 3) := by decide +kernel
theorem dX4_mark_24 : decode cX4_mark 24 = .ok (.iconst 0, 1) := by decide +kernel
theorem dX4_mark_25 : decode cX4_mark 25 = .ok (.goto 4, 3) := by decide +kernel
theorem dX4_mark_28 : decode cX4_mark 28 = .ok (.iconst 2, 1) := by decide +kernel
theorem dX4_mark_29 : decode cX4_mark 29 = .ok (.putfield 74, 3) := by decide +kernel
theorem dX4_mark_32 : decode cX4_mark 32 = .ok (.aload_n 0, 1) := by decide +kernel
theorem dX4_mark_33 : decode cX4_mark 33 = .ok (.getfield 74, 3) := by decide +kernel
theorem dX4_mark_36 : decode cX4_mark 36 = .ok (.ifCond .le 5, 3) := by decide +kernel
theorem dX4_mark_39 : decode cX4_mark 39 = .ok (.iconst 0, 1) := by decide +kernel
theorem dX4_mark_40 : decode cX4_mark 40 = .ok (.ireturn, 1) := by decide +kernel
theorem dX4_mark_41 : decode cX4_mark 41 = .ok (.aload_n 0, 1) := by decide +kernel
theorem dX4_mark_42 : decode cX4_mark 42 = .ok (.getfield 19, 3) := by decide +kernel
theorem dX4_mark_45 : decode cX4_mark 45 = .ok (.iload_n 1, 1) := by decide +kernel
theorem dX4_mark_46 : decode cX4_mark 46 = .ok (.iaload, 1) := by decide +kernel
theorem dX4_mark_47 : decode cX4_mark 47 = .ok (.istore_n 3, 1) := by decide +kernel
theorem dX4_mark_48 : decode cX4_mark 48 = .ok (.aload_n 0, 1) := by decide +kernel
theorem dX4_mark_49 : decode cX4_mark 49 = .ok (.getfield 19, 3) := by decide +kernel
theorem dX4_mark_52 : decode cX4_mark 52 = .ok (.iload_n 1, 1) := by decide +kernel
theorem dX4_mark_53 : decode cX4_mark 53 = .ok (.iload_n 2, 1) := by decide +kernel
theorem dX4_mark_54 : decode cX4_mark 54 = .ok (.iastore, 1) := by decide +kernel
theorem dX4_mark_55 : decode cX4_mark 55 = .ok (.iload_n 3, 1) := by decide +kernel
theorem dX4_mark_56 : decode cX4_mark 56 = .ok (.ireturn, 1) := by decide +kernel
theorem dX4_rule_0 : decode cX4_rule 0 = .ok (.aload_n 0, 1) := by decide +kernel
theorem dX4_rule_1 : decode cX4_rule 1 = .ok (.iconst 0, 1) := by decide +kernel
theorem dX4_rule_2 : decode cX4_rule 2 = .ok (.putfield 74, 3) := by decide +kernel
theorem dX4_rule_5 : decode cX4_rule 5 = .ok (.aload_n 0, 1) := by decide +kernel
theorem dX4_rule_6 : decode cX4_rule 6 = .ok (.getfield 96, 3) := by decide +kernel
theorem dX4_rule_9 : decode cX4_rule 9 = .ok (.istore_n 2, 1) := by decide +kernel
theorem dX4_rule_10 : decode cX4_rule 10 = .ok (.aload_n 0, 1) := by decide +kernel
theorem dX4_rule_11 : decode cX4_rule 11 = .ok (.iload_n 1, 1) := by decide +kernel
theorem dX4_rule_12 : decode cX4_rule 12 = .ok (.putfield 96, 3) := by decide +kernel
theorem dX4_rule_15 : decode cX4_rule 15 = .ok (.iload_n 2, 1) := by decide +kernel
theorem dX4_rule_16 : decode cX4_rule 16 = .ok (.ireturn, 1) := by decide +kernel
theorem dX4_demand_0 : decode cX4_demand 0 = .ok (.aload_n 0, 1) := by decide +kernel
theorem dX4_demand_1 : decode cX4_demand 1 = .ok (.iload_n 1, 1) := by decide +kernel
theorem dX4_demand_2 : decode cX4_demand 2 = .ok (.iconst 0, 1) := by decide +kernel
theorem dX4_demand_3 : decode cX4_demand 3 = .ok (.bipush 20, 2) := by decide +kernel
theorem dX4_demand_5 : decode cX4_demand 5 = .ok (.invokestatic 81, 3) := by decide +kernel
theorem dX4_demand_8 : decode cX4_demand 8 = .ok (.ifCond .eq 7, 3) := by decide +kernel
theorem dX4_demand_11 : decode cX4_demand 11 = .ok (.iconst 0, 1) := by decide +kernel
theorem dX4_demand_12 : decode cX4_demand 12 = .ok (.goto 4, 3) := by decide +kernel
theorem dX4_demand_15 : decode cX4_demand 15 = .ok (.iconst 1, 1) := by decide +kernel
theorem dX4_demand_16 : decode cX4_demand 16 = .ok (.putfield 74, 3) := by decide +kernel
theorem dX4_demand_19 : decode cX4_demand 19 = .ok (.aload_n 0, 1) := by decide +kernel
theorem dX4_demand_20 : decode cX4_demand 20 = .ok (.getfield 100, 3) := by decide +kernel
theorem dX4_demand_23 : decode cX4_demand 23 = .ok (.istore_n 2, 1) := by decide +kernel
theorem dX4_demand_24 : decode cX4_demand 24 = .ok (.aload_n 0, 1) := by decide +kernel
theorem dX4_demand_25 : decode cX4_demand 25 = .ok (.aload_n 0, 1) := by decide +kernel
theorem dX4_demand_26 : decode cX4_demand 26 = .ok (.getfield 74, 3) := by decide +kernel
theorem dX4_demand_29 : decode cX4_demand 29 = .ok (.ifCond .le 10, 3) := by decide +kernel
theorem dX4_demand_32 : decode cX4_demand 32 = .ok (.aload_n 0, 1) := by decide +kernel
theorem dX4_demand_33 : decode cX4_demand 33 = .ok (.getfield 100, 3) := by decide +kernel
theorem dX4_demand_36 : decode cX4_demand 36 = .ok (.goto 4, 3) := by decide +kernel
theorem dX4_demand_39 : decode cX4_demand 39 = .ok (.iload_n 1, 1) := by decide +kernel
theorem dX4_demand_40 : decode cX4_demand 40 = .ok (.putfield 100, 3) := by decide +kernel
theorem dX4_demand_43 : decode cX4_demand 43 = .ok (.iload_n 2, 1) := by decide +kernel
theorem dX4_demand_44 : decode cX4_demand 44 = .ok (.ireturn, 1) := by decide +kernel
theorem dX4_stop_0 : decode cX4_stop 0 = .ok (.aload_n 0, 1) := by decide +kernel
theorem dX4_stop_1 : decode cX4_stop 1 = .ok (.iload_n 1, 1) := by decide +kernel
theorem dX4_stop_2 : decode cX4_stop 2 = .ok (.iconst 0, 1) := by decide +kernel
theorem dX4_stop_3 : decode cX4_stop 3 = .ok (.invokevirtual 92, 3) := by decide +kernel
theorem dX4_stop_6 : decode cX4_stop 6 = .ok (.ifCond .ne 5, 3) := by decide +kernel
theorem dX4_stop_9 : decode cX4_stop 9 = .ok (.iconst 0, 1) := by decide +kernel
theorem dX4_stop_10 : decode cX4_stop 10 = .ok (.ireturn, 1) := by decide +kernel
theorem dX4_stop_11 : decode cX4_stop 11 = .ok (.aload_n 0, 1) := by decide +kernel
theorem dX4_stop_12 : decode cX4_stop 12 = .ok (.getfield 22, 3) := by decide +kernel
theorem dX4_stop_15 : decode cX4_stop 15 = .ok (.iload_n 1, 1) := by decide +kernel
theorem dX4_stop_16 : decode cX4_stop 16 = .ok (.aload_n 0, 1) := by decide +kernel
theorem dX4_stop_17 : decode cX4_stop 17 = .ok (.getfield 22, 3) := by decide +kernel
theorem dX4_stop_20 : decode cX4_stop 20 = .ok (.iload_n 1, 1) := by decide +kernel
theorem dX4_stop_21 : decode cX4_stop 21 = .ok (.baload, 1) := by decide +kernel
theorem dX4_stop_22 : decode cX4_stop 22 = .ok (.ifCond .ne 7, 3) := by decide +kernel
theorem dX4_stop_25 : decode cX4_stop 25 = .ok (.iconst 1, 1) := by decide +kernel
theorem dX4_stop_26 : decode cX4_stop 26 = .ok (.goto 4, 3) := by decide +kernel
theorem dX4_stop_29 : decode cX4_stop 29 = .ok (.iconst 0, 1) := by decide +kernel
theorem dX4_stop_30 : decode cX4_stop 30 = .ok (.bastore, 1) := by decide +kernel
theorem dX4_stop_31 : decode cX4_stop 31 = .ok (.aload_n 0, 1) := by decide +kernel
theorem dX4_stop_32 : decode cX4_stop 32 = .ok (.getfield 22, 3) := by decide +kernel
theorem dX4_stop_35 : decode cX4_stop 35 = .ok (.iload_n 1, 1) := by decide +kernel
theorem dX4_stop_36 : decode cX4_stop 36 = .ok (.baload, 1) := by decide +kernel
theorem dX4_stop_37 : decode cX4_stop 37 = .ok (.ireturn, 1) := by decide +kernel
theorem dX4_issue_0 : decode cX4_issue 0 = .ok (.aload_n 0, 1) := by decide +kernel
theorem dX4_issue_1 : decode cX4_issue 1 = .ok (.aload_n 0, 1) := by decide +kernel
theorem dX4_issue_2 : decode cX4_issue 2 = .ok (.iload_n 1, 1) := by decide +kernel
theorem dX4_issue_3 : decode cX4_issue 3 = .ok (.iconst 0, 1) := by decide +kernel
theorem dX4_issue_4 : decode cX4_issue 4 = .ok (.invokevirtual 92, 3) := by decide +kernel
theorem dX4_issue_7 : decode cX4_issue 7 = .ok (.ifCond .ne 7, 3) := by decide +kernel
theorem dX4_issue_10 : decode cX4_issue 10 = .ok (.iconst 1, 1) := by decide +kernel
theorem dX4_issue_11 : decode cX4_issue 11 = .ok (.goto 19, 3) := by decide +kernel
theorem dX4_issue_14 : decode cX4_issue 14 = .ok (.aload_n 0, 1) := by decide +kernel
theorem dX4_issue_15 : decode cX4_issue 15 = .ok (.getfield 7, 3) := by decide +kernel
theorem dX4_issue_18 : decode cX4_issue 18 = .ok (.iload_n 1, 1) := by decide +kernel
theorem dX4_issue_19 : decode cX4_issue 19 = .ok (.iaload, 1) := by decide +kernel
theorem dX4_issue_20 : decode cX4_issue 20 = .ok (.bipush 9, 2) := by decide +kernel
theorem dX4_issue_22 : decode cX4_issue 22 = .ok (.if_icmp .ne 7, 3) := by decide +kernel
theorem dX4_issue_25 : decode cX4_issue 25 = .ok (.iconst 2, 1) := by decide +kernel
theorem dX4_issue_26 : decode cX4_issue 26 = .ok (.goto 4, 3) := by decide +kernel
theorem dX4_issue_29 : decode cX4_issue 29 = .ok (.iconst 0, 1) := by decide +kernel
theorem dX4_issue_30 : decode cX4_issue 30 = .ok (.putfield 74, 3) := by decide +kernel
theorem dX4_issue_33 : decode cX4_issue 33 = .ok (.aload_n 0, 1) := by decide +kernel
theorem dX4_issue_34 : decode cX4_issue 34 = .ok (.getfield 74, 3) := by decide +kernel
theorem dX4_issue_37 : decode cX4_issue 37 = .ok (.ifCond .le 5, 3) := by decide +kernel
theorem dX4_issue_40 : decode cX4_issue 40 = .ok (.iconst 0, 1) := by decide +kernel
theorem dX4_issue_41 : decode cX4_issue 41 = .ok (.ireturn, 1) := by decide +kernel
theorem dX4_issue_42 : decode cX4_issue 42 = .ok (.aload_n 0, 1) := by decide +kernel
theorem dX4_issue_43 : decode cX4_issue 43 = .ok (.getfield 7, 3) := by decide +kernel
theorem dX4_issue_46 : decode cX4_issue 46 = .ok (.iload_n 1, 1) := by decide +kernel
theorem dX4_issue_47 : decode cX4_issue 47 = .ok (.dup2, 1) := by decide +kernel
theorem dX4_issue_48 : decode cX4_issue 48 = .ok (.iaload, 1) := by decide +kernel
theorem dX4_issue_49 : decode cX4_issue 49 = .ok (.iconst 1, 1) := by decide +kernel
theorem dX4_issue_50 : decode cX4_issue 50 = .ok (.iadd, 1) := by decide +kernel
theorem dX4_issue_51 : decode cX4_issue 51 = .ok (.iastore, 1) := by decide +kernel
theorem dX4_issue_52 : decode cX4_issue 52 = .ok (.aload_n 0, 1) := by decide +kernel
theorem dX4_issue_53 : decode cX4_issue 53 = .ok (.getfield 26, 3) := by decide +kernel
theorem dX4_issue_56 : decode cX4_issue 56 = .ok (.iload_n 1, 1) := by decide +kernel
theorem dX4_issue_57 : decode cX4_issue 57 = .ok (.dup2, 1) := by decide +kernel
theorem dX4_issue_58 : decode cX4_issue 58 = .ok (.iaload, 1) := by decide +kernel
theorem dX4_issue_59 : decode cX4_issue 59 = .ok (.iconst 1, 1) := by decide +kernel
theorem dX4_issue_60 : decode cX4_issue 60 = .ok (.iadd, 1) := by decide +kernel
theorem dX4_issue_61 : decode cX4_issue 61 = .ok (.iastore, 1) := by decide +kernel
theorem dX4_issue_62 : decode cX4_issue 62 = .ok (.aload_n 0, 1) := by decide +kernel
theorem dX4_issue_63 : decode cX4_issue 63 = .ok (.getfield 7, 3) := by decide +kernel
theorem dX4_issue_66 : decode cX4_issue 66 = .ok (.iload_n 1, 1) := by decide +kernel
theorem dX4_issue_67 : decode cX4_issue 67 = .ok (.iaload, 1) := by decide +kernel
theorem dX4_issue_68 : decode cX4_issue 68 = .ok (.ireturn, 1) := by decide +kernel
theorem dX4_retire_0 : decode cX4_retire 0 = .ok (.aload_n 0, 1) := by decide +kernel
theorem dX4_retire_1 : decode cX4_retire 1 = .ok (.aload_n 0, 1) := by decide +kernel
theorem dX4_retire_2 : decode cX4_retire 2 = .ok (.iload_n 1, 1) := by decide +kernel
theorem dX4_retire_3 : decode cX4_retire 3 = .ok (.iconst 0, 1) := by decide +kernel
theorem dX4_retire_4 : decode cX4_retire 4 = .ok (.invokevirtual 92, 3) := by decide +kernel
theorem dX4_retire_7 : decode cX4_retire 7 = .ok (.ifCond .ne 7, 3) := by decide +kernel
theorem dX4_retire_10 : decode cX4_retire 10 = .ok (.iconst 1, 1) := by decide +kernel
theorem dX4_retire_11 : decode cX4_retire 11 = .ok (.goto 27, 3) := by decide +kernel
theorem dX4_retire_14 : decode cX4_retire 14 = .ok (.aload_n 0, 1) := by decide +kernel
theorem dX4_retire_15 : decode cX4_retire 15 = .ok (.getfield 26, 3) := by decide +kernel
theorem dX4_retire_18 : decode cX4_retire 18 = .ok (.iload_n 1, 1) := by decide +kernel
theorem dX4_retire_19 : decode cX4_retire 19 = .ok (.iaload, 1) := by decide +kernel
theorem dX4_retire_20 : decode cX4_retire 20 = .ok (.ifCond .eq 13, 3) := by decide +kernel
theorem dX4_retire_23 : decode cX4_retire 23 = .ok (.aload_n 0, 1) := by decide +kernel
theorem dX4_retire_24 : decode cX4_retire 24 = .ok (.getfield 7, 3) := by decide +kernel
theorem dX4_retire_27 : decode cX4_retire 27 = .ok (.iload_n 1, 1) := by decide +kernel
theorem dX4_retire_28 : decode cX4_retire 28 = .ok (.iaload, 1) := by decide +kernel
theorem dX4_retire_29 : decode cX4_retire 29 = .ok (.iconst 1, 1) := by decide +kernel
theorem dX4_retire_30 : decode cX4_retire 30 = .ok (.if_icmp .ne 7, 3) := by decide +kernel
theorem dX4_retire_33 : decode cX4_retire 33 = .ok (.iconst 2, 1) := by decide +kernel
theorem dX4_retire_34 : decode cX4_retire 34 = .ok (.goto 4, 3) := by decide +kernel
theorem dX4_retire_37 : decode cX4_retire 37 = .ok (.iconst 0, 1) := by decide +kernel
theorem dX4_retire_38 : decode cX4_retire 38 = .ok (.putfield 74, 3) := by decide +kernel
theorem dX4_retire_41 : decode cX4_retire 41 = .ok (.aload_n 0, 1) := by decide +kernel
theorem dX4_retire_42 : decode cX4_retire 42 = .ok (.getfield 74, 3) := by decide +kernel
theorem dX4_retire_45 : decode cX4_retire 45 = .ok (.ifCond .le 5, 3) := by decide +kernel
theorem dX4_retire_48 : decode cX4_retire 48 = .ok (.iconst 0, 1) := by decide +kernel
theorem dX4_retire_49 : decode cX4_retire 49 = .ok (.ireturn, 1) := by decide +kernel
theorem dX4_retire_50 : decode cX4_retire 50 = .ok (.aload_n 0, 1) := by decide +kernel
theorem dX4_retire_51 : decode cX4_retire 51 = .ok (.getfield 7, 3) := by decide +kernel
theorem dX4_retire_54 : decode cX4_retire 54 = .ok (.iload_n 1, 1) := by decide +kernel
theorem dX4_retire_55 : decode cX4_retire 55 = .ok (.dup2, 1) := by decide +kernel
theorem dX4_retire_56 : decode cX4_retire 56 = .ok (.iaload, 1) := by decide +kernel
theorem dX4_retire_57 : decode cX4_retire 57 = .ok (.iconst 1, 1) := by decide +kernel
theorem dX4_retire_58 : decode cX4_retire 58 = .ok (.isub, 1) := by decide +kernel
theorem dX4_retire_59 : decode cX4_retire 59 = .ok (.iastore, 1) := by decide +kernel
theorem dX4_retire_60 : decode cX4_retire 60 = .ok (.aload_n 0, 1) := by decide +kernel
theorem dX4_retire_61 : decode cX4_retire 61 = .ok (.getfield 26, 3) := by decide +kernel
theorem dX4_retire_64 : decode cX4_retire 64 = .ok (.iload_n 1, 1) := by decide +kernel
theorem dX4_retire_65 : decode cX4_retire 65 = .ok (.dup2, 1) := by decide +kernel
theorem dX4_retire_66 : decode cX4_retire 66 = .ok (.iaload, 1) := by decide +kernel
theorem dX4_retire_67 : decode cX4_retire 67 = .ok (.iconst 1, 1) := by decide +kernel
theorem dX4_retire_68 : decode cX4_retire 68 = .ok (.isub, 1) := by decide +kernel
theorem dX4_retire_69 : decode cX4_retire 69 = .ok (.iastore, 1) := by decide +kernel
theorem dX4_retire_70 : decode cX4_retire 70 = .ok (.aload_n 0, 1) := by decide +kernel
theorem dX4_retire_71 : decode cX4_retire 71 = .ok (.getfield 32, 3) := by decide +kernel
theorem dX4_retire_74 : decode cX4_retire 74 = .ok (.iload_n 1, 1) := by decide +kernel
theorem dX4_retire_75 : decode cX4_retire 75 = .ok (.aload_n 0, 1) := by decide +kernel
theorem dX4_retire_76 : decode cX4_retire 76 = .ok (.getfield 32, 3) := by decide +kernel
theorem dX4_retire_79 : decode cX4_retire 79 = .ok (.iload_n 1, 1) := by decide +kernel
theorem dX4_retire_80 : decode cX4_retire 80 = .ok (.iaload, 1) := by decide +kernel
theorem dX4_retire_81 : decode cX4_retire 81 = .ok (.aload_n 0, 1) := by decide +kernel
theorem dX4_retire_82 : decode cX4_retire 82 = .ok (.getfield 26, 3) := by decide +kernel
theorem dX4_retire_85 : decode cX4_retire 85 = .ok (.iload_n 1, 1) := by decide +kernel
theorem dX4_retire_86 : decode cX4_retire 86 = .ok (.iaload, 1) := by decide +kernel
theorem dX4_retire_87 : decode cX4_retire 87 = .ok (.if_icmp .ge 12, 3) := by decide +kernel
theorem dX4_retire_90 : decode cX4_retire 90 = .ok (.aload_n 0, 1) := by decide +kernel
theorem dX4_retire_91 : decode cX4_retire 91 = .ok (.getfield 32, 3) := by decide +kernel
theorem dX4_retire_94 : decode cX4_retire 94 = .ok (.iload_n 1, 1) := by decide +kernel
theorem dX4_retire_95 : decode cX4_retire 95 = .ok (.iaload, 1) := by decide +kernel
theorem dX4_retire_96 : decode cX4_retire 96 = .ok (.goto 9, 3) := by decide +kernel
theorem dX4_retire_99 : decode cX4_retire 99 = .ok (.aload_n 0, 1) := by decide +kernel
theorem dX4_retire_100 : decode cX4_retire 100 = .ok (.getfield 26, 3) := by decide +kernel
theorem dX4_retire_103 : decode cX4_retire 103 = .ok (.iload_n 1, 1) := by decide +kernel
theorem dX4_retire_104 : decode cX4_retire 104 = .ok (.iaload, 1) := by decide +kernel
theorem dX4_retire_105 : decode cX4_retire 105 = .ok (.iastore, 1) := by decide +kernel
theorem dX4_retire_106 : decode cX4_retire 106 = .ok (.aload_n 0, 1) := by decide +kernel
theorem dX4_retire_107 : decode cX4_retire 107 = .ok (.getfield 7, 3) := by decide +kernel
theorem dX4_retire_110 : decode cX4_retire 110 = .ok (.iload_n 1, 1) := by decide +kernel
theorem dX4_retire_111 : decode cX4_retire 111 = .ok (.iaload, 1) := by decide +kernel
theorem dX4_retire_112 : decode cX4_retire 112 = .ok (.ireturn, 1) := by decide +kernel
theorem dX4_issueConveyance_0 : decode cX4_issueConveyance 0 = .ok (.aload_n 0, 1) := by decide +kernel
theorem dX4_issueConveyance_1 : decode cX4_issueConveyance 1 = .ok (.aload_n 0, 1) := by decide +kernel
theorem dX4_issueConveyance_2 : decode cX4_issueConveyance 2 = .ok (.iload_n 1, 1) := by decide +kernel
theorem dX4_issueConveyance_3 : decode cX4_issueConveyance 3 = .ok (.iconst 1, 1) := by decide +kernel
theorem dX4_issueConveyance_4 : decode cX4_issueConveyance 4 = .ok (.invokevirtual 92, 3) := by decide +kernel
theorem dX4_issueConveyance_7 : decode cX4_issueConveyance 7 = .ok (.ifCond .ne 7, 3) := by decide +kernel
theorem dX4_issueConveyance_10 : decode cX4_issueConveyance 10 = .ok (.iconst 1, 1) := by decide +kernel
theorem dX4_issueConveyance_11 : decode cX4_issueConveyance 11 = .ok (.goto 18, 3) := by decide +kernel
theorem dX4_issueConveyance_14 : decode cX4_issueConveyance 14 = .ok (.aload_n 0, 1) := by decide +kernel
theorem dX4_issueConveyance_15 : decode cX4_issueConveyance 15 = .ok (.getfield 41, 3) := by decide +kernel
theorem dX4_issueConveyance_18 : decode cX4_issueConveyance 18 = .ok (.iload_n 1, 1) := by decide +kernel
theorem dX4_issueConveyance_19 : decode cX4_issueConveyance 19 = .ok (.iaload, 1) := by decide +kernel
theorem dX4_issueConveyance_20 : decode cX4_issueConveyance 20 = .ok (.iconst 5, 1) := by decide +kernel
theorem dX4_issueConveyance_21 : decode cX4_issueConveyance 21 = .ok (.if_icmp .ne 7, 3) := by decide +kernel
theorem dX4_issueConveyance_24 : decode cX4_issueConveyance 24 = .ok (.iconst 2, 1) := by decide +kernel
theorem dX4_issueConveyance_25 : decode cX4_issueConveyance 25 = .ok (.goto 4, 3) := by decide +kernel
theorem dX4_issueConveyance_28 : decode cX4_issueConveyance 28 = .ok (.iconst 0, 1) := by decide +kernel
theorem dX4_issueConveyance_29 : decode cX4_issueConveyance 29 = .ok (.putfield 74, 3) := by decide +kernel
theorem dX4_issueConveyance_32 : decode cX4_issueConveyance 32 = .ok (.aload_n 0, 1) := by decide +kernel
theorem dX4_issueConveyance_33 : decode cX4_issueConveyance 33 = .ok (.getfield 74, 3) := by decide +kernel
theorem dX4_issueConveyance_36 : decode cX4_issueConveyance 36 = .ok (.ifCond .le 5, 3) := by decide +kernel
theorem dX4_issueConveyance_39 : decode cX4_issueConveyance 39 = .ok (.iconst 0, 1) := by decide +kernel
theorem dX4_issueConveyance_40 : decode cX4_issueConveyance 40 = .ok (.ireturn, 1) := by decide +kernel
theorem dX4_issueConveyance_41 : decode cX4_issueConveyance 41 = .ok (.aload_n 0, 1) := by decide +kernel
theorem dX4_issueConveyance_42 : decode cX4_issueConveyance 42 = .ok (.getfield 41, 3) := by decide +kernel
theorem dX4_issueConveyance_45 : decode cX4_issueConveyance 45 = .ok (.iload_n 1, 1) := by decide +kernel
theorem dX4_issueConveyance_46 : decode cX4_issueConveyance 46 = .ok (.dup2, 1) := by decide +kernel
theorem dX4_issueConveyance_47 : decode cX4_issueConveyance 47 = .ok (.iaload, 1) := by decide +kernel
theorem dX4_issueConveyance_48 : decode cX4_issueConveyance 48 = .ok (.iconst 1, 1) := by decide +kernel
theorem dX4_issueConveyance_49 : decode cX4_issueConveyance 49 = .ok (.iadd, 1) := by decide +kernel
theorem dX4_issueConveyance_50 : decode cX4_issueConveyance 50 = .ok (.iastore, 1) := by decide +kernel
theorem dX4_issueConveyance_51 : decode cX4_issueConveyance 51 = .ok (.aload_n 0, 1) := by decide +kernel
theorem dX4_issueConveyance_52 : decode cX4_issueConveyance 52 = .ok (.getfield 44, 3) := by decide +kernel
theorem dX4_issueConveyance_55 : decode cX4_issueConveyance 55 = .ok (.iload_n 1, 1) := by decide +kernel
theorem dX4_issueConveyance_56 : decode cX4_issueConveyance 56 = .ok (.dup2, 1) := by decide +kernel
theorem dX4_issueConveyance_57 : decode cX4_issueConveyance 57 = .ok (.iaload, 1) := by decide +kernel
theorem dX4_issueConveyance_58 : decode cX4_issueConveyance 58 = .ok (.iconst 1, 1) := by decide +kernel
theorem dX4_issueConveyance_59 : decode cX4_issueConveyance 59 = .ok (.iadd, 1) := by decide +kernel
theorem dX4_issueConveyance_60 : decode cX4_issueConveyance 60 = .ok (.iastore, 1) := by decide +kernel
theorem dX4_issueConveyance_61 : decode cX4_issueConveyance 61 = .ok (.aload_n 0, 1) := by decide +kernel
theorem dX4_issueConveyance_62 : decode cX4_issueConveyance 62 = .ok (.getfield 41, 3) := by decide +kernel
theorem dX4_issueConveyance_65 : decode cX4_issueConveyance 65 = .ok (.iload_n 1, 1) := by decide +kernel
theorem dX4_issueConveyance_66 : decode cX4_issueConveyance 66 = .ok (.iaload, 1) := by decide +kernel
theorem dX4_issueConveyance_67 : decode cX4_issueConveyance 67 = .ok (.ireturn, 1) := by decide +kernel
theorem dX4_retireConveyance_0 : decode cX4_retireConveyance 0 = .ok (.aload_n 0, 1) := by decide +kernel
theorem dX4_retireConveyance_1 : decode cX4_retireConveyance 1 = .ok (.aload_n 0, 1) := by decide +kernel
theorem dX4_retireConveyance_2 : decode cX4_retireConveyance 2 = .ok (.iload_n 1, 1) := by decide +kernel
theorem dX4_retireConveyance_3 : decode cX4_retireConveyance 3 = .ok (.iconst 1, 1) := by decide +kernel
theorem dX4_retireConveyance_4 : decode cX4_retireConveyance 4 = .ok (.invokevirtual 92, 3) := by decide +kernel
theorem dX4_retireConveyance_7 : decode cX4_retireConveyance 7 = .ok (.ifCond .ne 7, 3) := by decide +kernel
theorem dX4_retireConveyance_10 : decode cX4_retireConveyance 10 = .ok (.iconst 1, 1) := by decide +kernel
theorem dX4_retireConveyance_11 : decode cX4_retireConveyance 11 = .ok (.goto 27, 3) := by decide +kernel
theorem dX4_retireConveyance_14 : decode cX4_retireConveyance 14 = .ok (.aload_n 0, 1) := by decide +kernel
theorem dX4_retireConveyance_15 : decode cX4_retireConveyance 15 = .ok (.getfield 44, 3) := by decide +kernel
theorem dX4_retireConveyance_18 : decode cX4_retireConveyance 18 = .ok (.iload_n 1, 1) := by decide +kernel
theorem dX4_retireConveyance_19 : decode cX4_retireConveyance 19 = .ok (.iaload, 1) := by decide +kernel
theorem dX4_retireConveyance_20 : decode cX4_retireConveyance 20 = .ok (.ifCond .eq 13, 3) := by decide +kernel
theorem dX4_retireConveyance_23 : decode cX4_retireConveyance 23 = .ok (.aload_n 0, 1) := by decide +kernel
theorem dX4_retireConveyance_24 : decode cX4_retireConveyance 24 = .ok (.getfield 41, 3) := by decide +kernel
theorem dX4_retireConveyance_27 : decode cX4_retireConveyance 27 = .ok (.iload_n 1, 1) := by decide +kernel
theorem dX4_retireConveyance_28 : decode cX4_retireConveyance 28 = .ok (.iaload, 1) := by decide +kernel
theorem dX4_retireConveyance_29 : decode cX4_retireConveyance 29 = .ok (.iconst 1, 1) := by decide +kernel
theorem dX4_retireConveyance_30 : decode cX4_retireConveyance 30 = .ok (.if_icmp .ne 7, 3) := by decide +kernel
theorem dX4_retireConveyance_33 : decode cX4_retireConveyance 33 = .ok (.iconst 2, 1) := by decide +kernel
theorem dX4_retireConveyance_34 : decode cX4_retireConveyance 34 = .ok (.goto 4, 3) := by decide +kernel
theorem dX4_retireConveyance_37 : decode cX4_retireConveyance 37 = .ok (.iconst 0, 1) := by decide +kernel
theorem dX4_retireConveyance_38 : decode cX4_retireConveyance 38 = .ok (.putfield 74, 3) := by decide +kernel
theorem dX4_retireConveyance_41 : decode cX4_retireConveyance 41 = .ok (.aload_n 0, 1) := by decide +kernel
theorem dX4_retireConveyance_42 : decode cX4_retireConveyance 42 = .ok (.getfield 74, 3) := by decide +kernel
theorem dX4_retireConveyance_45 : decode cX4_retireConveyance 45 = .ok (.ifCond .le 5, 3) := by decide +kernel
theorem dX4_retireConveyance_48 : decode cX4_retireConveyance 48 = .ok (.iconst 0, 1) := by decide +kernel
theorem dX4_retireConveyance_49 : decode cX4_retireConveyance 49 = .ok (.ireturn, 1) := by decide +kernel
theorem dX4_retireConveyance_50 : decode cX4_retireConveyance 50 = .ok (.aload_n 0, 1) := by decide +kernel
theorem dX4_retireConveyance_51 : decode cX4_retireConveyance 51 = .ok (.getfield 41, 3) := by decide +kernel
theorem dX4_retireConveyance_54 : decode cX4_retireConveyance 54 = .ok (.iload_n 1, 1) := by decide +kernel
theorem dX4_retireConveyance_55 : decode cX4_retireConveyance 55 = .ok (.dup2, 1) := by decide +kernel
theorem dX4_retireConveyance_56 : decode cX4_retireConveyance 56 = .ok (.iaload, 1) := by decide +kernel
theorem dX4_retireConveyance_57 : decode cX4_retireConveyance 57 = .ok (.iconst 1, 1) := by decide +kernel
theorem dX4_retireConveyance_58 : decode cX4_retireConveyance 58 = .ok (.isub, 1) := by decide +kernel
theorem dX4_retireConveyance_59 : decode cX4_retireConveyance 59 = .ok (.iastore, 1) := by decide +kernel
theorem dX4_retireConveyance_60 : decode cX4_retireConveyance 60 = .ok (.aload_n 0, 1) := by decide +kernel
theorem dX4_retireConveyance_61 : decode cX4_retireConveyance 61 = .ok (.getfield 44, 3) := by decide +kernel
theorem dX4_retireConveyance_64 : decode cX4_retireConveyance 64 = .ok (.iload_n 1, 1) := by decide +kernel
theorem dX4_retireConveyance_65 : decode cX4_retireConveyance 65 = .ok (.dup2, 1) := by decide +kernel
theorem dX4_retireConveyance_66 : decode cX4_retireConveyance 66 = .ok (.iaload, 1) := by decide +kernel
theorem dX4_retireConveyance_67 : decode cX4_retireConveyance 67 = .ok (.iconst 1, 1) := by decide +kernel
theorem dX4_retireConveyance_68 : decode cX4_retireConveyance 68 = .ok (.isub, 1) := by decide +kernel
theorem dX4_retireConveyance_69 : decode cX4_retireConveyance 69 = .ok (.iastore, 1) := by decide +kernel
theorem dX4_retireConveyance_70 : decode cX4_retireConveyance 70 = .ok (.aload_n 0, 1) := by decide +kernel
theorem dX4_retireConveyance_71 : decode cX4_retireConveyance 71 = .ok (.getfield 41, 3) := by decide +kernel
theorem dX4_retireConveyance_74 : decode cX4_retireConveyance 74 = .ok (.iload_n 1, 1) := by decide +kernel
theorem dX4_retireConveyance_75 : decode cX4_retireConveyance 75 = .ok (.iaload, 1) := by decide +kernel
theorem dX4_retireConveyance_76 : decode cX4_retireConveyance 76 = .ok (.ireturn, 1) := by decide +kernel
theorem dX4_needed_0 : decode cX4_needed 0 = .ok (.aload_n 0, 1) := by decide +kernel
theorem dX4_needed_1 : decode cX4_needed 1 = .ok (.aload_n 0, 1) := by decide +kernel
theorem dX4_needed_2 : decode cX4_needed 2 = .ok (.iload_n 1, 1) := by decide +kernel
theorem dX4_needed_3 : decode cX4_needed 3 = .ok (.iconst 0, 1) := by decide +kernel
theorem dX4_needed_4 : decode cX4_needed 4 = .ok (.invokevirtual 92, 3) := by decide +kernel
theorem dX4_needed_7 : decode cX4_needed 7 = .ok (.ifCond .ne 7, 3) := by decide +kernel
theorem dX4_needed_10 : decode cX4_needed 10 = .ok (.iconst 1, 1) := by decide +kernel
theorem dX4_needed_11 : decode cX4_needed 11 = .ok (.goto 18, 3) := by decide +kernel
theorem dX4_needed_14 : decode cX4_needed 14 = .ok (.iload_n 2, 1) := by decide +kernel
theorem dX4_needed_15 : decode cX4_needed 15 = .ok (.iconst 0, 1) := by decide +kernel
theorem dX4_needed_16 : decode cX4_needed 16 = .ok (.bipush 100, 2) := by decide +kernel
theorem dX4_needed_18 : decode cX4_needed 18 = .ok (.invokestatic 81, 3) := by decide +kernel
theorem dX4_needed_21 : decode cX4_needed 21 = .ok (.ifCond .eq 7, 3) := by decide +kernel
theorem dX4_needed_24 : decode cX4_needed 24 = .ok (.iconst 0, 1) := by decide +kernel
theorem dX4_needed_25 : decode cX4_needed 25 = .ok (.goto 4, 3) := by decide +kernel
theorem dX4_needed_28 : decode cX4_needed 28 = .ok (.iconst 2, 1) := by decide +kernel
theorem dX4_needed_29 : decode cX4_needed 29 = .ok (.putfield 74, 3) := by decide +kernel
theorem dX4_needed_32 : decode cX4_needed 32 = .ok (.aload_n 0, 1) := by decide +kernel
theorem dX4_needed_33 : decode cX4_needed 33 = .ok (.getfield 74, 3) := by decide +kernel
theorem dX4_needed_36 : decode cX4_needed 36 = .ok (.ifCond .le 5, 3) := by decide +kernel
theorem dX4_needed_39 : decode cX4_needed 39 = .ok (.iconst 0, 1) := by decide +kernel
theorem dX4_needed_40 : decode cX4_needed 40 = .ok (.ireturn, 1) := by decide +kernel
theorem dX4_needed_41 : decode cX4_needed 41 = .ok (.aload_n 0, 1) := by decide +kernel
theorem dX4_needed_42 : decode cX4_needed 42 = .ok (.getfield 19, 3) := by decide +kernel
theorem dX4_needed_45 : decode cX4_needed 45 = .ok (.iload_n 1, 1) := by decide +kernel
theorem dX4_needed_46 : decode cX4_needed 46 = .ok (.iaload, 1) := by decide +kernel
theorem dX4_needed_47 : decode cX4_needed 47 = .ok (.aload_n 0, 1) := by decide +kernel
theorem dX4_needed_48 : decode cX4_needed 48 = .ok (.getfield 16, 3) := by decide +kernel
theorem dX4_needed_51 : decode cX4_needed 51 = .ok (.iload_n 1, 1) := by decide +kernel
theorem dX4_needed_52 : decode cX4_needed 52 = .ok (.iaload, 1) := by decide +kernel
theorem dX4_needed_53 : decode cX4_needed 53 = .ok (.imul, 1) := by decide +kernel
theorem dX4_needed_54 : decode cX4_needed 54 = .ok (.iload_n 1, 1) := by decide +kernel
theorem dX4_needed_55 : decode cX4_needed 55 = .ok (.iconst 1, 1) := by decide +kernel
theorem dX4_needed_56 : decode cX4_needed 56 = .ok (.iadd, 1) := by decide +kernel
theorem dX4_needed_57 : decode cX4_needed 57 = .ok (.aload_n 0, 1) := by decide +kernel
theorem dX4_needed_58 : decode cX4_needed 58 = .ok (.getfield 78, 3) := by decide +kernel
theorem dX4_needed_61 : decode cX4_needed 61 = .ok (.if_icmp .ge 14, 3) := by decide +kernel
theorem dX4_needed_64 : decode cX4_needed 64 = .ok (.aload_n 0, 1) := by decide +kernel
theorem dX4_needed_65 : decode cX4_needed 65 = .ok (.getfield 38, 3) := by decide +kernel
theorem dX4_needed_68 : decode cX4_needed 68 = .ok (.iload_n 1, 1) := by decide +kernel
theorem dX4_needed_69 : decode cX4_needed 69 = .ok (.iconst 1, 1) := by decide +kernel
theorem dX4_needed_70 : decode cX4_needed 70 = .ok (.iadd, 1) := by decide +kernel
theorem dX4_needed_71 : decode cX4_needed 71 = .ok (.iaload, 1) := by decide +kernel
theorem dX4_needed_72 : decode cX4_needed 72 = .ok (.goto 4, 3) := by decide +kernel
theorem dX4_needed_75 : decode cX4_needed 75 = .ok (.iconst 0, 1) := by decide +kernel
theorem dX4_needed_76 : decode cX4_needed 76 = .ok (.iadd, 1) := by decide +kernel
theorem dX4_needed_77 : decode cX4_needed 77 = .ok (.istore_n 3, 1) := by decide +kernel
theorem dX4_needed_78 : decode cX4_needed 78 = .ok (.bipush 100, 2) := by decide +kernel
theorem dX4_needed_80 : decode cX4_needed 80 = .ok (.aload_n 0, 1) := by decide +kernel
theorem dX4_needed_81 : decode cX4_needed 81 = .ok (.getfield 13, 3) := by decide +kernel
theorem dX4_needed_84 : decode cX4_needed 84 = .ok (.iload_n 1, 1) := by decide +kernel
theorem dX4_needed_85 : decode cX4_needed 85 = .ok (.iaload, 1) := by decide +kernel
theorem dX4_needed_86 : decode cX4_needed 86 = .ok (.imul, 1) := by decide +kernel
theorem dX4_needed_87 : decode cX4_needed 87 = .ok (.istore 4, 2) := by decide +kernel
theorem dX4_needed_89 : decode cX4_needed 89 = .ok (.aload_n 0, 1) := by decide +kernel
theorem dX4_needed_90 : decode cX4_needed 90 = .ok (.getfield 100, 3) := by decide +kernel
theorem dX4_needed_93 : decode cX4_needed 93 = .ok (.iload_n 3, 1) := by decide +kernel
theorem dX4_needed_94 : decode cX4_needed 94 = .ok (.imul, 1) := by decide +kernel
theorem dX4_needed_95 : decode cX4_needed 95 = .ok (.bipush 100, 2) := by decide +kernel
theorem dX4_needed_97 : decode cX4_needed 97 = .ok (.iload_n 2, 1) := by decide +kernel
theorem dX4_needed_98 : decode cX4_needed 98 = .ok (.iadd, 1) := by decide +kernel
theorem dX4_needed_99 : decode cX4_needed 99 = .ok (.imul, 1) := by decide +kernel
theorem dX4_needed_100 : decode cX4_needed 100 = .ok (.iload 4, 2) := by decide +kernel
theorem dX4_needed_102 : decode cX4_needed 102 = .ok (.iadd, 1) := by decide +kernel
theorem dX4_needed_103 : decode cX4_needed 103 = .ok (.iconst 1, 1) := by decide +kernel
theorem dX4_needed_104 : decode cX4_needed 104 = .ok (.isub, 1) := by decide +kernel
theorem dX4_needed_105 : decode cX4_needed 105 = .ok (.iload 4, 2) := by decide +kernel
theorem dX4_needed_107 : decode cX4_needed 107 = .ok (.idiv, 1) := by decide +kernel
theorem dX4_needed_108 : decode cX4_needed 108 = .ok (.istore 5, 2) := by decide +kernel
theorem dX4_needed_110 : decode cX4_needed 110 = .ok (.iload 5, 2) := by decide +kernel
theorem dX4_needed_112 : decode cX4_needed 112 = .ok (.iconst 1, 1) := by decide +kernel
theorem dX4_needed_113 : decode cX4_needed 113 = .ok (.if_icmp .le 8, 3) := by decide +kernel
theorem dX4_needed_116 : decode cX4_needed 116 = .ok (.iload 5, 2) := by decide +kernel
theorem dX4_needed_118 : decode cX4_needed 118 = .ok (.goto 4, 3) := by decide +kernel
theorem dX4_needed_121 : decode cX4_needed 121 = .ok (.iconst 1, 1) := by decide +kernel
theorem dX4_needed_122 : decode cX4_needed 122 = .ok (.ireturn, 1) := by decide +kernel
theorem dX4_sells_0 : decode cX4_sells 0 = .ok (.aload_n 0, 1) := by decide +kernel
theorem dX4_sells_1 : decode cX4_sells 1 = .ok (.getfield 78, 3) := by decide +kernel
theorem dX4_sells_4 : decode cX4_sells 4 = .ok (.iconst 1, 1) := by decide +kernel
theorem dX4_sells_5 : decode cX4_sells 5 = .ok (.isub, 1) := by decide +kernel
theorem dX4_sells_6 : decode cX4_sells 6 = .ok (.istore_n 2, 1) := by decide +kernel
theorem dX4_sells_7 : decode cX4_sells 7 = .ok (.iload_n 1, 1) := by decide +kernel
theorem dX4_sells_8 : decode cX4_sells 8 = .ok (.istore_n 3, 1) := by decide +kernel
theorem dX4_sells_9 : decode cX4_sells 9 = .ok (.iload_n 3, 1) := by decide +kernel
theorem dX4_sells_10 : decode cX4_sells 10 = .ok (.ifCond .le 114, 3) := by decide +kernel
theorem dX4_sells_13 : decode cX4_sells 13 = .ok (.bipush 16, 2) := by decide +kernel
theorem dX4_sells_15 : decode cX4_sells 15 = .ok (.iload_n 2, 1) := by decide +kernel
theorem dX4_sells_16 : decode cX4_sells 16 = .ok (.imul, 1) := by decide +kernel
theorem dX4_sells_17 : decode cX4_sells 17 = .ok (.istore 4, 2) := by decide +kernel
theorem dX4_sells_19 : decode cX4_sells 19 = .ok (.aload_n 0, 1) := by decide +kernel
theorem dX4_sells_20 : decode cX4_sells 20 = .ok (.getfield 47, 3) := by decide +kernel
theorem dX4_sells_23 : decode cX4_sells 23 = .ok (.iload 4, 2) := by decide +kernel
theorem dX4_sells_25 : decode cX4_sells 25 = .ok (.iaload, 1) := by decide +kernel
theorem dX4_sells_26 : decode cX4_sells 26 = .ok (.iload_n 3, 1) := by decide +kernel
theorem dX4_sells_27 : decode cX4_sells 27 = .ok (.if_icmp .ge 13, 3) := by decide +kernel
theorem dX4_sells_30 : decode cX4_sells 30 = .ok (.aload_n 0, 1) := by decide +kernel
theorem dX4_sells_31 : decode cX4_sells 31 = .ok (.getfield 47, 3) := by decide +kernel
theorem dX4_sells_34 : decode cX4_sells 34 = .ok (.iload 4, 2) := by decide +kernel
theorem dX4_sells_36 : decode cX4_sells 36 = .ok (.iaload, 1) := by decide +kernel
theorem dX4_sells_37 : decode cX4_sells 37 = .ok (.goto 4, 3) := by decide +kernel
theorem dX4_sells_40 : decode cX4_sells 40 = .ok (.iload_n 3, 1) := by decide +kernel
theorem dX4_sells_41 : decode cX4_sells 41 = .ok (.istore 5, 2) := by decide +kernel
theorem dX4_sells_43 : decode cX4_sells 43 = .ok (.aload_n 0, 1) := by decide +kernel
theorem dX4_sells_44 : decode cX4_sells 44 = .ok (.getfield 47, 3) := by decide +kernel
theorem dX4_sells_47 : decode cX4_sells 47 = .ok (.iload 4, 2) := by decide +kernel
theorem dX4_sells_49 : decode cX4_sells 49 = .ok (.dup2, 1) := by decide +kernel
theorem dX4_sells_50 : decode cX4_sells 50 = .ok (.iaload, 1) := by decide +kernel
theorem dX4_sells_51 : decode cX4_sells 51 = .ok (.iload 5, 2) := by decide +kernel
theorem dX4_sells_53 : decode cX4_sells 53 = .ok (.isub, 1) := by decide +kernel
theorem dX4_sells_54 : decode cX4_sells 54 = .ok (.iastore, 1) := by decide +kernel
theorem dX4_sells_55 : decode cX4_sells 55 = .ok (.iload_n 3, 1) := by decide +kernel
theorem dX4_sells_56 : decode cX4_sells 56 = .ok (.iload 5, 2) := by decide +kernel
theorem dX4_sells_58 : decode cX4_sells 58 = .ok (.isub, 1) := by decide +kernel
theorem dX4_sells_59 : decode cX4_sells 59 = .ok (.istore_n 3, 1) := by decide +kernel
theorem dX4_sells_60 : decode cX4_sells 60 = .ok (.aload_n 0, 1) := by decide +kernel
theorem dX4_sells_61 : decode cX4_sells 61 = .ok (.getfield 50, 3) := by decide +kernel
theorem dX4_sells_64 : decode cX4_sells 64 = .ok (.iload 4, 2) := by decide +kernel
theorem dX4_sells_66 : decode cX4_sells 66 = .ok (.iaload, 1) := by decide +kernel
theorem dX4_sells_67 : decode cX4_sells 67 = .ok (.iconst 1, 1) := by decide +kernel
theorem dX4_sells_68 : decode cX4_sells 68 = .ok (.if_icmp .ne 38, 3) := by decide +kernel
theorem dX4_sells_71 : decode cX4_sells 71 = .ok (.aload_n 0, 1) := by decide +kernel
theorem dX4_sells_72 : decode cX4_sells 72 = .ok (.getfield 96, 3) := by decide +kernel
theorem dX4_sells_75 : decode cX4_sells 75 = .ok (.ifCond .ne 13, 3) := by decide +kernel
theorem dX4_sells_78 : decode cX4_sells 78 = .ok (.aload_n 0, 1) := by decide +kernel
theorem dX4_sells_79 : decode cX4_sells 79 = .ok (.getfield 47, 3) := by decide +kernel
theorem dX4_sells_82 : decode cX4_sells 82 = .ok (.iload 4, 2) := by decide +kernel
theorem dX4_sells_84 : decode cX4_sells 84 = .ok (.iaload, 1) := by decide +kernel
theorem dX4_sells_85 : decode cX4_sells 85 = .ok (.ifCond .ne 21, 3) := by decide +kernel
theorem dX4_sells_88 : decode cX4_sells 88 = .ok (.aload_n 0, 1) := by decide +kernel
theorem dX4_sells_89 : decode cX4_sells 89 = .ok (.getfield 50, 3) := by decide +kernel
theorem dX4_sells_92 : decode cX4_sells 92 = .ok (.iload 4, 2) := by decide +kernel
theorem dX4_sells_94 : decode cX4_sells 94 = .ok (.iconst 0, 1) := by decide +kernel
theorem dX4_sells_95 : decode cX4_sells 95 = .ok (.iastore, 1) := by decide +kernel
theorem dX4_sells_96 : decode cX4_sells 96 = .ok (.aload_n 0, 1) := by decide +kernel
theorem dX4_sells_97 : decode cX4_sells 97 = .ok (.getfield 26, 3) := by decide +kernel
theorem dX4_sells_100 : decode cX4_sells 100 = .ok (.iload_n 2, 1) := by decide +kernel
theorem dX4_sells_101 : decode cX4_sells 101 = .ok (.dup2, 1) := by decide +kernel
theorem dX4_sells_102 : decode cX4_sells 102 = .ok (.iaload, 1) := by decide +kernel
theorem dX4_sells_103 : decode cX4_sells 103 = .ok (.iconst 1, 1) := by decide +kernel
theorem dX4_sells_104 : decode cX4_sells 104 = .ok (.iadd, 1) := by decide +kernel
theorem dX4_sells_105 : decode cX4_sells 105 = .ok (.iastore, 1) := by decide +kernel
theorem dX4_sells_106 : decode cX4_sells 106 = .ok (.aload_n 0, 1) := by decide +kernel
theorem dX4_sells_107 : decode cX4_sells 107 = .ok (.getfield 47, 3) := by decide +kernel
theorem dX4_sells_110 : decode cX4_sells 110 = .ok (.iload 4, 2) := by decide +kernel
theorem dX4_sells_112 : decode cX4_sells 112 = .ok (.iaload, 1) := by decide +kernel
theorem dX4_sells_113 : decode cX4_sells 113 = .ok (.ifCond .ne 8, 3) := by decide +kernel
theorem dX4_sells_116 : decode cX4_sells 116 = .ok (.aload_n 0, 1) := by decide +kernel
theorem dX4_sells_117 : decode cX4_sells 117 = .ok (.iload_n 2, 1) := by decide +kernel
theorem dX4_sells_118 : decode cX4_sells 118 = .ok (.invokevirtual 103, 3) := by decide +kernel
theorem dX4_sells_121 : decode cX4_sells 121 = .ok (.goto (-112), 3) := by decide +kernel
theorem dX4_sells_124 : decode cX4_sells 124 = .ok (.return_, 1) := by decide +kernel
theorem dX4_leavesMarket_0 : decode cX4_leavesMarket 0 = .ok (.aload_n 0, 1) := by decide +kernel
theorem dX4_leavesMarket_1 : decode cX4_leavesMarket 1 = .ok (.getfield 53, 3) := by decide +kernel
theorem dX4_leavesMarket_4 : decode cX4_leavesMarket 4 = .ok (.iload_n 1, 1) := by decide +kernel
theorem dX4_leavesMarket_5 : decode cX4_leavesMarket 5 = .ok (.dup2, 1) := by decide +kernel
theorem dX4_leavesMarket_6 : decode cX4_leavesMarket 6 = .ok (.iaload, 1) := by decide +kernel
theorem dX4_leavesMarket_7 : decode cX4_leavesMarket 7 = .ok (.iconst 1, 1) := by decide +kernel
theorem dX4_leavesMarket_8 : decode cX4_leavesMarket 8 = .ok (.isub, 1) := by decide +kernel
theorem dX4_leavesMarket_9 : decode cX4_leavesMarket 9 = .ok (.iastore, 1) := by decide +kernel
theorem dX4_leavesMarket_10 : decode cX4_leavesMarket 10 = .ok (.bipush 16, 2) := by decide +kernel
theorem dX4_leavesMarket_12 : decode cX4_leavesMarket 12 = .ok (.iload_n 1, 1) := by decide +kernel
theorem dX4_leavesMarket_13 : decode cX4_leavesMarket 13 = .ok (.imul, 1) := by decide +kernel
theorem dX4_leavesMarket_14 : decode cX4_leavesMarket 14 = .ok (.istore_n 2, 1) := by decide +kernel
theorem dX4_leavesMarket_15 : decode cX4_leavesMarket 15 = .ok (.iload_n 2, 1) := by decide +kernel
theorem dX4_leavesMarket_16 : decode cX4_leavesMarket 16 = .ok (.bipush 16, 2) := by decide +kernel
theorem dX4_leavesMarket_18 : decode cX4_leavesMarket 18 = .ok (.iload_n 1, 1) := by decide +kernel
theorem dX4_leavesMarket_19 : decode cX4_leavesMarket 19 = .ok (.imul, 1) := by decide +kernel
theorem dX4_leavesMarket_20 : decode cX4_leavesMarket 20 = .ok (.aload_n 0, 1) := by decide +kernel
theorem dX4_leavesMarket_21 : decode cX4_leavesMarket 21 = .ok (.getfield 53, 3) := by decide +kernel
theorem dX4_leavesMarket_24 : decode cX4_leavesMarket 24 = .ok (.iload_n 1, 1) := by decide +kernel
theorem dX4_leavesMarket_25 : decode cX4_leavesMarket 25 = .ok (.iaload, 1) := by decide +kernel
theorem dX4_leavesMarket_26 : decode cX4_leavesMarket 26 = .ok (.iadd, 1) := by decide +kernel
theorem dX4_leavesMarket_27 : decode cX4_leavesMarket 27 = .ok (.if_icmp .ge 37, 3) := by decide +kernel
theorem dX4_leavesMarket_30 : decode cX4_leavesMarket 30 = .ok (.aload_n 0, 1) := by decide +kernel
theorem dX4_leavesMarket_31 : decode cX4_leavesMarket 31 = .ok (.getfield 47, 3) := by decide +kernel
theorem dX4_leavesMarket_34 : decode cX4_leavesMarket 34 = .ok (.iload_n 2, 1) := by decide +kernel
theorem dX4_leavesMarket_35 : decode cX4_leavesMarket 35 = .ok (.aload_n 0, 1) := by decide +kernel
theorem dX4_leavesMarket_36 : decode cX4_leavesMarket 36 = .ok (.getfield 47, 3) := by decide +kernel
theorem dX4_leavesMarket_39 : decode cX4_leavesMarket 39 = .ok (.iload_n 2, 1) := by decide +kernel
theorem dX4_leavesMarket_40 : decode cX4_leavesMarket 40 = .ok (.iconst 1, 1) := by decide +kernel
theorem dX4_leavesMarket_41 : decode cX4_leavesMarket 41 = .ok (.iadd, 1) := by decide +kernel
theorem dX4_leavesMarket_42 : decode cX4_leavesMarket 42 = .ok (.iaload, 1) := by decide +kernel
theorem dX4_leavesMarket_43 : decode cX4_leavesMarket 43 = .ok (.iastore, 1) := by decide +kernel
theorem dX4_leavesMarket_44 : decode cX4_leavesMarket 44 = .ok (.aload_n 0, 1) := by decide +kernel
theorem dX4_leavesMarket_45 : decode cX4_leavesMarket 45 = .ok (.getfield 50, 3) := by decide +kernel
theorem dX4_leavesMarket_48 : decode cX4_leavesMarket 48 = .ok (.iload_n 2, 1) := by decide +kernel
theorem dX4_leavesMarket_49 : decode cX4_leavesMarket 49 = .ok (.aload_n 0, 1) := by decide +kernel
theorem dX4_leavesMarket_50 : decode cX4_leavesMarket 50 = .ok (.getfield 50, 3) := by decide +kernel
theorem dX4_leavesMarket_53 : decode cX4_leavesMarket 53 = .ok (.iload_n 2, 1) := by decide +kernel
theorem dX4_leavesMarket_54 : decode cX4_leavesMarket 54 = .ok (.iconst 1, 1) := by decide +kernel
theorem dX4_leavesMarket_55 : decode cX4_leavesMarket 55 = .ok (.iadd, 1) := by decide +kernel
theorem dX4_leavesMarket_56 : decode cX4_leavesMarket 56 = .ok (.iaload, 1) := by decide +kernel
theorem dX4_leavesMarket_57 : decode cX4_leavesMarket 57 = .ok (.iastore, 1) := by decide +kernel
theorem dX4_leavesMarket_58 : decode cX4_leavesMarket 58 = .ok (.iinc 2 1, 3) := by decide +kernel
theorem dX4_leavesMarket_61 : decode cX4_leavesMarket 61 = .ok (.goto (-46), 3) := by decide +kernel
theorem dX4_leavesMarket_64 : decode cX4_leavesMarket 64 = .ok (.return_, 1) := by decide +kernel
theorem dX4_uses_0 : decode cX4_uses 0 = .ok (.iload_n 2, 1) := by decide +kernel
theorem dX4_uses_1 : decode cX4_uses 1 = .ok (.istore_n 3, 1) := by decide +kernel
theorem dX4_uses_2 : decode cX4_uses 2 = .ok (.iload_n 3, 1) := by decide +kernel
theorem dX4_uses_3 : decode cX4_uses 3 = .ok (.ifCond .le 175, 3) := by decide +kernel
theorem dX4_uses_6 : decode cX4_uses 6 = .ok (.bipush 16, 2) := by decide +kernel
theorem dX4_uses_8 : decode cX4_uses 8 = .ok (.iload_n 1, 1) := by decide +kernel
theorem dX4_uses_9 : decode cX4_uses 9 = .ok (.imul, 1) := by decide +kernel
theorem dX4_uses_10 : decode cX4_uses 10 = .ok (.istore 4, 2) := by decide +kernel
theorem dX4_uses_12 : decode cX4_uses 12 = .ok (.aload_n 0, 1) := by decide +kernel
theorem dX4_uses_13 : decode cX4_uses 13 = .ok (.getfield 56, 3) := by decide +kernel
theorem dX4_uses_16 : decode cX4_uses 16 = .ok (.iload 4, 2) := by decide +kernel
theorem dX4_uses_18 : decode cX4_uses 18 = .ok (.iaload, 1) := by decide +kernel
theorem dX4_uses_19 : decode cX4_uses 19 = .ok (.iload_n 3, 1) := by decide +kernel
theorem dX4_uses_20 : decode cX4_uses 20 = .ok (.if_icmp .ge 13, 3) := by decide +kernel
theorem dX4_uses_23 : decode cX4_uses 23 = .ok (.aload_n 0, 1) := by decide +kernel
theorem dX4_uses_24 : decode cX4_uses 24 = .ok (.getfield 56, 3) := by decide +kernel
theorem dX4_uses_27 : decode cX4_uses 27 = .ok (.iload 4, 2) := by decide +kernel
theorem dX4_uses_29 : decode cX4_uses 29 = .ok (.iaload, 1) := by decide +kernel
theorem dX4_uses_30 : decode cX4_uses 30 = .ok (.goto 4, 3) := by decide +kernel
theorem dX4_uses_33 : decode cX4_uses 33 = .ok (.iload_n 3, 1) := by decide +kernel
theorem dX4_uses_34 : decode cX4_uses 34 = .ok (.istore 5, 2) := by decide +kernel
theorem dX4_uses_36 : decode cX4_uses 36 = .ok (.aload_n 0, 1) := by decide +kernel
theorem dX4_uses_37 : decode cX4_uses 37 = .ok (.getfield 56, 3) := by decide +kernel
theorem dX4_uses_40 : decode cX4_uses 40 = .ok (.iload 4, 2) := by decide +kernel
theorem dX4_uses_42 : decode cX4_uses 42 = .ok (.dup2, 1) := by decide +kernel
theorem dX4_uses_43 : decode cX4_uses 43 = .ok (.iaload, 1) := by decide +kernel
theorem dX4_uses_44 : decode cX4_uses 44 = .ok (.iload 5, 2) := by decide +kernel
theorem dX4_uses_46 : decode cX4_uses 46 = .ok (.isub, 1) := by decide +kernel
theorem dX4_uses_47 : decode cX4_uses 47 = .ok (.iastore, 1) := by decide +kernel
theorem dX4_uses_48 : decode cX4_uses 48 = .ok (.iload_n 3, 1) := by decide +kernel
theorem dX4_uses_49 : decode cX4_uses 49 = .ok (.iload 5, 2) := by decide +kernel
theorem dX4_uses_51 : decode cX4_uses 51 = .ok (.isub, 1) := by decide +kernel
theorem dX4_uses_52 : decode cX4_uses 52 = .ok (.istore_n 3, 1) := by decide +kernel
theorem dX4_uses_53 : decode cX4_uses 53 = .ok (.aload_n 0, 1) := by decide +kernel
theorem dX4_uses_54 : decode cX4_uses 54 = .ok (.getfield 59, 3) := by decide +kernel
theorem dX4_uses_57 : decode cX4_uses 57 = .ok (.iload 4, 2) := by decide +kernel
theorem dX4_uses_59 : decode cX4_uses 59 = .ok (.iaload, 1) := by decide +kernel
theorem dX4_uses_60 : decode cX4_uses 60 = .ok (.iconst 1, 1) := by decide +kernel
theorem dX4_uses_61 : decode cX4_uses 61 = .ok (.if_icmp .ne 38, 3) := by decide +kernel
theorem dX4_uses_64 : decode cX4_uses 64 = .ok (.aload_n 0, 1) := by decide +kernel
theorem dX4_uses_65 : decode cX4_uses 65 = .ok (.getfield 96, 3) := by decide +kernel
theorem dX4_uses_68 : decode cX4_uses 68 = .ok (.ifCond .ne 13, 3) := by decide +kernel
theorem dX4_uses_71 : decode cX4_uses 71 = .ok (.aload_n 0, 1) := by decide +kernel
theorem dX4_uses_72 : decode cX4_uses 72 = .ok (.getfield 56, 3) := by decide +kernel
theorem dX4_uses_75 : decode cX4_uses 75 = .ok (.iload 4, 2) := by decide +kernel
theorem dX4_uses_77 : decode cX4_uses 77 = .ok (.iaload, 1) := by decide +kernel
theorem dX4_uses_78 : decode cX4_uses 78 = .ok (.ifCond .ne 21, 3) := by decide +kernel
theorem dX4_uses_81 : decode cX4_uses 81 = .ok (.aload_n 0, 1) := by decide +kernel
theorem dX4_uses_82 : decode cX4_uses 82 = .ok (.getfield 59, 3) := by decide +kernel
theorem dX4_uses_85 : decode cX4_uses 85 = .ok (.iload 4, 2) := by decide +kernel
theorem dX4_uses_87 : decode cX4_uses 87 = .ok (.iconst 0, 1) := by decide +kernel
theorem dX4_uses_88 : decode cX4_uses 88 = .ok (.iastore, 1) := by decide +kernel
theorem dX4_uses_89 : decode cX4_uses 89 = .ok (.aload_n 0, 1) := by decide +kernel
theorem dX4_uses_90 : decode cX4_uses 90 = .ok (.getfield 44, 3) := by decide +kernel
theorem dX4_uses_93 : decode cX4_uses 93 = .ok (.iload_n 1, 1) := by decide +kernel
theorem dX4_uses_94 : decode cX4_uses 94 = .ok (.dup2, 1) := by decide +kernel
theorem dX4_uses_95 : decode cX4_uses 95 = .ok (.iaload, 1) := by decide +kernel
theorem dX4_uses_96 : decode cX4_uses 96 = .ok (.iconst 1, 1) := by decide +kernel
theorem dX4_uses_97 : decode cX4_uses 97 = .ok (.iadd, 1) := by decide +kernel
theorem dX4_uses_98 : decode cX4_uses 98 = .ok (.iastore, 1) := by decide +kernel
theorem dX4_uses_99 : decode cX4_uses 99 = .ok (.aload_n 0, 1) := by decide +kernel
theorem dX4_uses_100 : decode cX4_uses 100 = .ok (.getfield 56, 3) := by decide +kernel
theorem dX4_uses_103 : decode cX4_uses 103 = .ok (.iload 4, 2) := by decide +kernel
theorem dX4_uses_105 : decode cX4_uses 105 = .ok (.iaload, 1) := by decide +kernel
theorem dX4_uses_106 : decode cX4_uses 106 = .ok (.ifCond .ne 69, 3) := by decide +kernel
theorem dX4_uses_109 : decode cX4_uses 109 = .ok (.aload_n 0, 1) := by decide +kernel
theorem dX4_uses_110 : decode cX4_uses 110 = .ok (.getfield 62, 3) := by decide +kernel
theorem dX4_uses_113 : decode cX4_uses 113 = .ok (.iload_n 1, 1) := by decide +kernel
theorem dX4_uses_114 : decode cX4_uses 114 = .ok (.dup2, 1) := by decide +kernel
theorem dX4_uses_115 : decode cX4_uses 115 = .ok (.iaload, 1) := by decide +kernel
theorem dX4_uses_116 : decode cX4_uses 116 = .ok (.iconst 1, 1) := by decide +kernel
theorem dX4_uses_117 : decode cX4_uses 117 = .ok (.isub, 1) := by decide +kernel
theorem dX4_uses_118 : decode cX4_uses 118 = .ok (.iastore, 1) := by decide +kernel
theorem dX4_uses_119 : decode cX4_uses 119 = .ok (.iload 4, 2) := by decide +kernel
theorem dX4_uses_121 : decode cX4_uses 121 = .ok (.istore 6, 2) := by decide +kernel
theorem dX4_uses_123 : decode cX4_uses 123 = .ok (.iload 6, 2) := by decide +kernel
theorem dX4_uses_125 : decode cX4_uses 125 = .ok (.iload 4, 2) := by decide +kernel
theorem dX4_uses_127 : decode cX4_uses 127 = .ok (.aload_n 0, 1) := by decide +kernel
theorem dX4_uses_128 : decode cX4_uses 128 = .ok (.getfield 62, 3) := by decide +kernel
theorem dX4_uses_131 : decode cX4_uses 131 = .ok (.iload_n 1, 1) := by decide +kernel
theorem dX4_uses_132 : decode cX4_uses 132 = .ok (.iaload, 1) := by decide +kernel
theorem dX4_uses_133 : decode cX4_uses 133 = .ok (.iadd, 1) := by decide +kernel
theorem dX4_uses_134 : decode cX4_uses 134 = .ok (.if_icmp .ge 41, 3) := by decide +kernel
theorem dX4_uses_137 : decode cX4_uses 137 = .ok (.aload_n 0, 1) := by decide +kernel
theorem dX4_uses_138 : decode cX4_uses 138 = .ok (.getfield 56, 3) := by decide +kernel
theorem dX4_uses_141 : decode cX4_uses 141 = .ok (.iload 6, 2) := by decide +kernel
theorem dX4_uses_143 : decode cX4_uses 143 = .ok (.aload_n 0, 1) := by decide +kernel
theorem dX4_uses_144 : decode cX4_uses 144 = .ok (.getfield 56, 3) := by decide +kernel
theorem dX4_uses_147 : decode cX4_uses 147 = .ok (.iload 6, 2) := by decide +kernel
theorem dX4_uses_149 : decode cX4_uses 149 = .ok (.iconst 1, 1) := by decide +kernel
theorem dX4_uses_150 : decode cX4_uses 150 = .ok (.iadd, 1) := by decide +kernel
theorem dX4_uses_151 : decode cX4_uses 151 = .ok (.iaload, 1) := by decide +kernel
theorem dX4_uses_152 : decode cX4_uses 152 = .ok (.iastore, 1) := by decide +kernel
theorem dX4_uses_153 : decode cX4_uses 153 = .ok (.aload_n 0, 1) := by decide +kernel
theorem dX4_uses_154 : decode cX4_uses 154 = .ok (.getfield 59, 3) := by decide +kernel
theorem dX4_uses_157 : decode cX4_uses 157 = .ok (.iload 6, 2) := by decide +kernel
theorem dX4_uses_159 : decode cX4_uses 159 = .ok (.aload_n 0, 1) := by decide +kernel
theorem dX4_uses_160 : decode cX4_uses 160 = .ok (.getfield 59, 3) := by decide +kernel
theorem dX4_uses_163 : decode cX4_uses 163 = .ok (.iload 6, 2) := by decide +kernel
theorem dX4_uses_165 : decode cX4_uses 165 = .ok (.iconst 1, 1) := by decide +kernel
theorem dX4_uses_166 : decode cX4_uses 166 = .ok (.iadd, 1) := by decide +kernel
theorem dX4_uses_167 : decode cX4_uses 167 = .ok (.iaload, 1) := by decide +kernel
theorem dX4_uses_168 : decode cX4_uses 168 = .ok (.iastore, 1) := by decide +kernel
theorem dX4_uses_169 : decode cX4_uses 169 = .ok (.iinc 6 1, 3) := by decide +kernel
theorem dX4_uses_172 : decode cX4_uses 172 = .ok (.goto (-49), 3) := by decide +kernel
theorem dX4_uses_175 : decode cX4_uses 175 = .ok (.goto (-173), 3) := by decide +kernel
theorem dX4_uses_178 : decode cX4_uses 178 = .ok (.return_, 1) := by decide +kernel
theorem dX4_marketOf_0 : decode cX4_marketOf 0 = .ok (.iconst 0, 1) := by decide +kernel
theorem dX4_marketOf_1 : decode cX4_marketOf 1 = .ok (.istore_n 2, 1) := by decide +kernel
theorem dX4_marketOf_2 : decode cX4_marketOf 2 = .ok (.iconst 0, 1) := by decide +kernel
theorem dX4_marketOf_3 : decode cX4_marketOf 3 = .ok (.istore_n 3, 1) := by decide +kernel
theorem dX4_marketOf_4 : decode cX4_marketOf 4 = .ok (.iload_n 3, 1) := by decide +kernel
theorem dX4_marketOf_5 : decode cX4_marketOf 5 = .ok (.aload_n 0, 1) := by decide +kernel
theorem dX4_marketOf_6 : decode cX4_marketOf 6 = .ok (.getfield 53, 3) := by decide +kernel
theorem dX4_marketOf_9 : decode cX4_marketOf 9 = .ok (.iload_n 1, 1) := by decide +kernel
theorem dX4_marketOf_10 : decode cX4_marketOf 10 = .ok (.iaload, 1) := by decide +kernel
theorem dX4_marketOf_11 : decode cX4_marketOf 11 = .ok (.if_icmp .ge 23, 3) := by decide +kernel
theorem dX4_marketOf_14 : decode cX4_marketOf 14 = .ok (.iload_n 2, 1) := by decide +kernel
theorem dX4_marketOf_15 : decode cX4_marketOf 15 = .ok (.aload_n 0, 1) := by decide +kernel
theorem dX4_marketOf_16 : decode cX4_marketOf 16 = .ok (.getfield 47, 3) := by decide +kernel
theorem dX4_marketOf_19 : decode cX4_marketOf 19 = .ok (.bipush 16, 2) := by decide +kernel
theorem dX4_marketOf_21 : decode cX4_marketOf 21 = .ok (.iload_n 1, 1) := by decide +kernel
theorem dX4_marketOf_22 : decode cX4_marketOf 22 = .ok (.imul, 1) := by decide +kernel
theorem dX4_marketOf_23 : decode cX4_marketOf 23 = .ok (.iload_n 3, 1) := by decide +kernel
theorem dX4_marketOf_24 : decode cX4_marketOf 24 = .ok (.iadd, 1) := by decide +kernel
theorem dX4_marketOf_25 : decode cX4_marketOf 25 = .ok (.iaload, 1) := by decide +kernel
theorem dX4_marketOf_26 : decode cX4_marketOf 26 = .ok (.iadd, 1) := by decide +kernel
theorem dX4_marketOf_27 : decode cX4_marketOf 27 = .ok (.istore_n 2, 1) := by decide +kernel
theorem dX4_marketOf_28 : decode cX4_marketOf 28 = .ok (.iinc 3 1, 3) := by decide +kernel
theorem dX4_marketOf_31 : decode cX4_marketOf 31 = .ok (.goto (-27), 3) := by decide +kernel
theorem dX4_marketOf_34 : decode cX4_marketOf 34 = .ok (.iload_n 2, 1) := by decide +kernel
theorem dX4_marketOf_35 : decode cX4_marketOf 35 = .ok (.ireturn, 1) := by decide +kernel
theorem dX4_inboxOf_0 : decode cX4_inboxOf 0 = .ok (.iconst 0, 1) := by decide +kernel
theorem dX4_inboxOf_1 : decode cX4_inboxOf 1 = .ok (.istore_n 2, 1) := by decide +kernel
theorem dX4_inboxOf_2 : decode cX4_inboxOf 2 = .ok (.iconst 0, 1) := by decide +kernel
theorem dX4_inboxOf_3 : decode cX4_inboxOf 3 = .ok (.istore_n 3, 1) := by decide +kernel
theorem dX4_inboxOf_4 : decode cX4_inboxOf 4 = .ok (.iload_n 3, 1) := by decide +kernel
theorem dX4_inboxOf_5 : decode cX4_inboxOf 5 = .ok (.aload_n 0, 1) := by decide +kernel
theorem dX4_inboxOf_6 : decode cX4_inboxOf 6 = .ok (.getfield 62, 3) := by decide +kernel
theorem dX4_inboxOf_9 : decode cX4_inboxOf 9 = .ok (.iload_n 1, 1) := by decide +kernel
theorem dX4_inboxOf_10 : decode cX4_inboxOf 10 = .ok (.iaload, 1) := by decide +kernel
theorem dX4_inboxOf_11 : decode cX4_inboxOf 11 = .ok (.if_icmp .ge 23, 3) := by decide +kernel
theorem dX4_inboxOf_14 : decode cX4_inboxOf 14 = .ok (.iload_n 2, 1) := by decide +kernel
theorem dX4_inboxOf_15 : decode cX4_inboxOf 15 = .ok (.aload_n 0, 1) := by decide +kernel
theorem dX4_inboxOf_16 : decode cX4_inboxOf 16 = .ok (.getfield 56, 3) := by decide +kernel
theorem dX4_inboxOf_19 : decode cX4_inboxOf 19 = .ok (.bipush 16, 2) := by decide +kernel
theorem dX4_inboxOf_21 : decode cX4_inboxOf 21 = .ok (.iload_n 1, 1) := by decide +kernel
theorem dX4_inboxOf_22 : decode cX4_inboxOf 22 = .ok (.imul, 1) := by decide +kernel
theorem dX4_inboxOf_23 : decode cX4_inboxOf 23 = .ok (.iload_n 3, 1) := by decide +kernel
theorem dX4_inboxOf_24 : decode cX4_inboxOf 24 = .ok (.iadd, 1) := by decide +kernel
theorem dX4_inboxOf_25 : decode cX4_inboxOf 25 = .ok (.iaload, 1) := by decide +kernel
theorem dX4_inboxOf_26 : decode cX4_inboxOf 26 = .ok (.iadd, 1) := by decide +kernel
theorem dX4_inboxOf_27 : decode cX4_inboxOf 27 = .ok (.istore_n 2, 1) := by decide +kernel
theorem dX4_inboxOf_28 : decode cX4_inboxOf 28 = .ok (.iinc 3 1, 3) := by decide +kernel
theorem dX4_inboxOf_31 : decode cX4_inboxOf 31 = .ok (.goto (-27), 3) := by decide +kernel
theorem dX4_inboxOf_34 : decode cX4_inboxOf 34 = .ok (.iload_n 2, 1) := by decide +kernel
theorem dX4_inboxOf_35 : decode cX4_inboxOf 35 = .ok (.ireturn, 1) := by decide +kernel
theorem dX4_works_0 : decode cX4_works 0 = .ok (.aload_n 0, 1) := by decide +kernel
theorem dX4_works_1 : decode cX4_works 1 = .ok (.getfield 29, 3) := by decide +kernel
theorem dX4_works_4 : decode cX4_works 4 = .ok (.iload_n 1, 1) := by decide +kernel
theorem dX4_works_5 : decode cX4_works 5 = .ok (.iaload, 1) := by decide +kernel
theorem dX4_works_6 : decode cX4_works 6 = .ok (.ifCond .le 33, 3) := by decide +kernel
theorem dX4_works_9 : decode cX4_works 9 = .ok (.aload_n 0, 1) := by decide +kernel
theorem dX4_works_10 : decode cX4_works 10 = .ok (.getfield 29, 3) := by decide +kernel
theorem dX4_works_13 : decode cX4_works 13 = .ok (.iload_n 1, 1) := by decide +kernel
theorem dX4_works_14 : decode cX4_works 14 = .ok (.dup2, 1) := by decide +kernel
theorem dX4_works_15 : decode cX4_works 15 = .ok (.iaload, 1) := by decide +kernel
theorem dX4_works_16 : decode cX4_works 16 = .ok (.iconst 1, 1) := by decide +kernel
theorem dX4_works_17 : decode cX4_works 17 = .ok (.isub, 1) := by decide +kernel
theorem dX4_works_18 : decode cX4_works 18 = .ok (.iastore, 1) := by decide +kernel
theorem dX4_works_19 : decode cX4_works 19 = .ok (.aload_n 0, 1) := by decide +kernel
theorem dX4_works_20 : decode cX4_works 20 = .ok (.getfield 29, 3) := by decide +kernel
theorem dX4_works_23 : decode cX4_works 23 = .ok (.iload_n 1, 1) := by decide +kernel
theorem dX4_works_24 : decode cX4_works 24 = .ok (.iaload, 1) := by decide +kernel
theorem dX4_works_25 : decode cX4_works 25 = .ok (.ifCond .ne 14, 3) := by decide +kernel
theorem dX4_works_28 : decode cX4_works 28 = .ok (.aload_n 0, 1) := by decide +kernel
theorem dX4_works_29 : decode cX4_works 29 = .ok (.iload_n 1, 1) := by decide +kernel
theorem dX4_works_30 : decode cX4_works 30 = .ok (.aload_n 0, 1) := by decide +kernel
theorem dX4_works_31 : decode cX4_works 31 = .ok (.getfield 13, 3) := by decide +kernel
theorem dX4_works_34 : decode cX4_works 34 = .ok (.iload_n 1, 1) := by decide +kernel
theorem dX4_works_35 : decode cX4_works 35 = .ok (.iaload, 1) := by decide +kernel
theorem dX4_works_36 : decode cX4_works 36 = .ok (.invokevirtual 85, 3) := by decide +kernel
theorem dX4_works_39 : decode cX4_works 39 = .ok (.aload_n 0, 1) := by decide +kernel
theorem dX4_works_40 : decode cX4_works 40 = .ok (.getfield 29, 3) := by decide +kernel
theorem dX4_works_43 : decode cX4_works 43 = .ok (.iload_n 1, 1) := by decide +kernel
theorem dX4_works_44 : decode cX4_works 44 = .ok (.iaload, 1) := by decide +kernel
theorem dX4_works_45 : decode cX4_works 45 = .ok (.ifCond .le 4, 3) := by decide +kernel
theorem dX4_works_48 : decode cX4_works 48 = .ok (.return_, 1) := by decide +kernel
theorem dX4_works_49 : decode cX4_works 49 = .ok (.aload_n 0, 1) := by decide +kernel
theorem dX4_works_50 : decode cX4_works 50 = .ok (.getfield 32, 3) := by decide +kernel
theorem dX4_works_53 : decode cX4_works 53 = .ok (.iload_n 1, 1) := by decide +kernel
theorem dX4_works_54 : decode cX4_works 54 = .ok (.iaload, 1) := by decide +kernel
theorem dX4_works_55 : decode cX4_works 55 = .ok (.ifCond .ne 30, 3) := by decide +kernel
theorem dX4_works_58 : decode cX4_works 58 = .ok (.aload_n 0, 1) := by decide +kernel
theorem dX4_works_59 : decode cX4_works 59 = .ok (.getfield 26, 3) := by decide +kernel
theorem dX4_works_62 : decode cX4_works 62 = .ok (.iload_n 1, 1) := by decide +kernel
theorem dX4_works_63 : decode cX4_works 63 = .ok (.iaload, 1) := by decide +kernel
theorem dX4_works_64 : decode cX4_works 64 = .ok (.aload_n 0, 1) := by decide +kernel
theorem dX4_works_65 : decode cX4_works 65 = .ok (.getfield 19, 3) := by decide +kernel
theorem dX4_works_68 : decode cX4_works 68 = .ok (.iload_n 1, 1) := by decide +kernel
theorem dX4_works_69 : decode cX4_works 69 = .ok (.iaload, 1) := by decide +kernel
theorem dX4_works_70 : decode cX4_works 70 = .ok (.if_icmp .lt 15, 3) := by decide +kernel
theorem dX4_works_73 : decode cX4_works 73 = .ok (.aload_n 0, 1) := by decide +kernel
theorem dX4_works_74 : decode cX4_works 74 = .ok (.getfield 32, 3) := by decide +kernel
theorem dX4_works_77 : decode cX4_works 77 = .ok (.iload_n 1, 1) := by decide +kernel
theorem dX4_works_78 : decode cX4_works 78 = .ok (.aload_n 0, 1) := by decide +kernel
theorem dX4_works_79 : decode cX4_works 79 = .ok (.getfield 26, 3) := by decide +kernel
theorem dX4_works_82 : decode cX4_works 82 = .ok (.iload_n 1, 1) := by decide +kernel
theorem dX4_works_83 : decode cX4_works 83 = .ok (.iaload, 1) := by decide +kernel
theorem dX4_works_84 : decode cX4_works 84 = .ok (.iastore, 1) := by decide +kernel
theorem dX4_works_85 : decode cX4_works 85 = .ok (.aload_n 0, 1) := by decide +kernel
theorem dX4_works_86 : decode cX4_works 86 = .ok (.getfield 32, 3) := by decide +kernel
theorem dX4_works_89 : decode cX4_works 89 = .ok (.iload_n 1, 1) := by decide +kernel
theorem dX4_works_90 : decode cX4_works 90 = .ok (.iaload, 1) := by decide +kernel
theorem dX4_works_91 : decode cX4_works 91 = .ok (.ifCond .ne 4, 3) := by decide +kernel
theorem dX4_works_94 : decode cX4_works 94 = .ok (.return_, 1) := by decide +kernel
theorem dX4_works_95 : decode cX4_works 95 = .ok (.iload_n 1, 1) := by decide +kernel
theorem dX4_works_96 : decode cX4_works 96 = .ok (.ifCond .le 28, 3) := by decide +kernel
theorem dX4_works_99 : decode cX4_works 99 = .ok (.aload_n 0, 1) := by decide +kernel
theorem dX4_works_100 : decode cX4_works 100 = .ok (.iload_n 1, 1) := by decide +kernel
theorem dX4_works_101 : decode cX4_works 101 = .ok (.invokevirtual 107, 3) := by decide +kernel
theorem dX4_works_104 : decode cX4_works 104 = .ok (.aload_n 0, 1) := by decide +kernel
theorem dX4_works_105 : decode cX4_works 105 = .ok (.getfield 13, 3) := by decide +kernel
theorem dX4_works_108 : decode cX4_works 108 = .ok (.iload_n 1, 1) := by decide +kernel
theorem dX4_works_109 : decode cX4_works 109 = .ok (.iaload, 1) := by decide +kernel
theorem dX4_works_110 : decode cX4_works 110 = .ok (.if_icmp .ge 14, 3) := by decide +kernel
theorem dX4_works_113 : decode cX4_works 113 = .ok (.aload_n 0, 1) := by decide +kernel
theorem dX4_works_114 : decode cX4_works 114 = .ok (.getfield 35, 3) := by decide +kernel
theorem dX4_works_117 : decode cX4_works 117 = .ok (.iload_n 1, 1) := by decide +kernel
theorem dX4_works_118 : decode cX4_works 118 = .ok (.dup2, 1) := by decide +kernel
theorem dX4_works_119 : decode cX4_works 119 = .ok (.iaload, 1) := by decide +kernel
theorem dX4_works_120 : decode cX4_works 120 = .ok (.iconst 1, 1) := by decide +kernel
theorem dX4_works_121 : decode cX4_works 121 = .ok (.iadd, 1) := by decide +kernel
theorem dX4_works_122 : decode cX4_works 122 = .ok (.iastore, 1) := by decide +kernel
theorem dX4_works_123 : decode cX4_works 123 = .ok (.return_, 1) := by decide +kernel
theorem dX4_works_124 : decode cX4_works 124 = .ok (.iload_n 1, 1) := by decide +kernel
theorem dX4_works_125 : decode cX4_works 125 = .ok (.ifCond .le 17, 3) := by decide +kernel
theorem dX4_works_128 : decode cX4_works 128 = .ok (.aload_n 0, 1) := by decide +kernel
theorem dX4_works_129 : decode cX4_works 129 = .ok (.iload_n 1, 1) := by decide +kernel
theorem dX4_works_130 : decode cX4_works 130 = .ok (.aload_n 0, 1) := by decide +kernel
theorem dX4_works_131 : decode cX4_works 131 = .ok (.getfield 13, 3) := by decide +kernel
theorem dX4_works_134 : decode cX4_works 134 = .ok (.iload_n 1, 1) := by decide +kernel
theorem dX4_works_135 : decode cX4_works 135 = .ok (.iaload, 1) := by decide +kernel
theorem dX4_works_136 : decode cX4_works 136 = .ok (.invokevirtual 111, 3) := by decide +kernel
theorem dX4_works_139 : decode cX4_works 139 = .ok (.goto 18, 3) := by decide +kernel
theorem dX4_works_142 : decode cX4_works 142 = .ok (.aload_n 0, 1) := by decide +kernel
theorem dX4_works_143 : decode cX4_works 143 = .ok (.dup, 1) := by decide +kernel
theorem dX4_works_144 : decode cX4_works 144 = .ok (.getfield 89, 3) := by decide +kernel
theorem dX4_works_147 : decode cX4_works 147 = .ok (.aload_n 0, 1) := by decide +kernel
theorem dX4_works_148 : decode cX4_works 148 = .ok (.getfield 13, 3) := by decide +kernel
theorem dX4_works_151 : decode cX4_works 151 = .ok (.iload_n 1, 1) := by decide +kernel
theorem dX4_works_152 : decode cX4_works 152 = .ok (.iaload, 1) := by decide +kernel
theorem dX4_works_153 : decode cX4_works 153 = .ok (.iadd, 1) := by decide +kernel
theorem dX4_works_154 : decode cX4_works 154 = .ok (.putfield 89, 3) := by decide +kernel
theorem dX4_works_157 : decode cX4_works 157 = .ok (.aload_n 0, 1) := by decide +kernel
theorem dX4_works_158 : decode cX4_works 158 = .ok (.getfield 26, 3) := by decide +kernel
theorem dX4_works_161 : decode cX4_works 161 = .ok (.iload_n 1, 1) := by decide +kernel
theorem dX4_works_162 : decode cX4_works 162 = .ok (.dup2, 1) := by decide +kernel
theorem dX4_works_163 : decode cX4_works 163 = .ok (.iaload, 1) := by decide +kernel
theorem dX4_works_164 : decode cX4_works 164 = .ok (.iconst 1, 1) := by decide +kernel
theorem dX4_works_165 : decode cX4_works 165 = .ok (.isub, 1) := by decide +kernel
theorem dX4_works_166 : decode cX4_works 166 = .ok (.iastore, 1) := by decide +kernel
theorem dX4_works_167 : decode cX4_works 167 = .ok (.aload_n 0, 1) := by decide +kernel
theorem dX4_works_168 : decode cX4_works 168 = .ok (.getfield 32, 3) := by decide +kernel
theorem dX4_works_171 : decode cX4_works 171 = .ok (.iload_n 1, 1) := by decide +kernel
theorem dX4_works_172 : decode cX4_works 172 = .ok (.dup2, 1) := by decide +kernel
theorem dX4_works_173 : decode cX4_works 173 = .ok (.iaload, 1) := by decide +kernel
theorem dX4_works_174 : decode cX4_works 174 = .ok (.iconst 1, 1) := by decide +kernel
theorem dX4_works_175 : decode cX4_works 175 = .ok (.isub, 1) := by decide +kernel
theorem dX4_works_176 : decode cX4_works 176 = .ok (.iastore, 1) := by decide +kernel
theorem dX4_works_177 : decode cX4_works 177 = .ok (.aload_n 0, 1) := by decide +kernel
theorem dX4_works_178 : decode cX4_works 178 = .ok (.getfield 29, 3) := by decide +kernel
theorem dX4_works_181 : decode cX4_works 181 = .ok (.iload_n 1, 1) := by decide +kernel
theorem dX4_works_182 : decode cX4_works 182 = .ok (.aload_n 0, 1) := by decide +kernel
theorem dX4_works_183 : decode cX4_works 183 = .ok (.getfield 16, 3) := by decide +kernel
theorem dX4_works_186 : decode cX4_works 186 = .ok (.iload_n 1, 1) := by decide +kernel
theorem dX4_works_187 : decode cX4_works 187 = .ok (.iaload, 1) := by decide +kernel
theorem dX4_works_188 : decode cX4_works 188 = .ok (.iastore, 1) := by decide +kernel
theorem dX4_works_189 : decode cX4_works 189 = .ok (.return_, 1) := by decide +kernel
theorem dX4_conveys_0 : decode cX4_conveys 0 = .ok (.iconst 0, 1) := by decide +kernel
theorem dX4_conveys_1 : decode cX4_conveys 1 = .ok (.istore_n 2, 1) := by decide +kernel
theorem dX4_conveys_2 : decode cX4_conveys 2 = .ok (.iconst 0, 1) := by decide +kernel
theorem dX4_conveys_3 : decode cX4_conveys 3 = .ok (.istore_n 3, 1) := by decide +kernel
theorem dX4_conveys_4 : decode cX4_conveys 4 = .ok (.iload_n 3, 1) := by decide +kernel
theorem dX4_conveys_5 : decode cX4_conveys 5 = .ok (.aload_n 0, 1) := by decide +kernel
theorem dX4_conveys_6 : decode cX4_conveys 6 = .ok (.getfield 71, 3) := by decide +kernel
theorem dX4_conveys_9 : decode cX4_conveys 9 = .ok (.iload_n 1, 1) := by decide +kernel
theorem dX4_conveys_10 : decode cX4_conveys 10 = .ok (.iaload, 1) := by decide +kernel
theorem dX4_conveys_11 : decode cX4_conveys 11 = .ok (.if_icmp .ge 81, 3) := by decide +kernel
theorem dX4_conveys_14 : decode cX4_conveys 14 = .ok (.aload_n 0, 1) := by decide +kernel
theorem dX4_conveys_15 : decode cX4_conveys 15 = .ok (.getfield 65, 3) := by decide +kernel
theorem dX4_conveys_18 : decode cX4_conveys 18 = .ok (.bipush 16, 2) := by decide +kernel
theorem dX4_conveys_20 : decode cX4_conveys 20 = .ok (.iload_n 1, 1) := by decide +kernel
theorem dX4_conveys_21 : decode cX4_conveys 21 = .ok (.imul, 1) := by decide +kernel
theorem dX4_conveys_22 : decode cX4_conveys 22 = .ok (.iload_n 3, 1) := by decide +kernel
theorem dX4_conveys_23 : decode cX4_conveys 23 = .ok (.iadd, 1) := by decide +kernel
theorem dX4_conveys_24 : decode cX4_conveys 24 = .ok (.iaload, 1) := by decide +kernel
theorem dX4_conveys_25 : decode cX4_conveys 25 = .ok (.istore 4, 2) := by decide +kernel
theorem dX4_conveys_27 : decode cX4_conveys 27 = .ok (.aload_n 0, 1) := by decide +kernel
theorem dX4_conveys_28 : decode cX4_conveys 28 = .ok (.getfield 68, 3) := by decide +kernel
theorem dX4_conveys_31 : decode cX4_conveys 31 = .ok (.bipush 16, 2) := by decide +kernel
theorem dX4_conveys_33 : decode cX4_conveys 33 = .ok (.iload_n 1, 1) := by decide +kernel
theorem dX4_conveys_34 : decode cX4_conveys 34 = .ok (.imul, 1) := by decide +kernel
theorem dX4_conveys_35 : decode cX4_conveys 35 = .ok (.iload_n 3, 1) := by decide +kernel
theorem dX4_conveys_36 : decode cX4_conveys 36 = .ok (.iadd, 1) := by decide +kernel
theorem dX4_conveys_37 : decode cX4_conveys 37 = .ok (.iaload, 1) := by decide +kernel
theorem dX4_conveys_38 : decode cX4_conveys 38 = .ok (.iconst 1, 1) := by decide +kernel
theorem dX4_conveys_39 : decode cX4_conveys 39 = .ok (.isub, 1) := by decide +kernel
theorem dX4_conveys_40 : decode cX4_conveys 40 = .ok (.istore 5, 2) := by decide +kernel
theorem dX4_conveys_42 : decode cX4_conveys 42 = .ok (.iload 5, 2) := by decide +kernel
theorem dX4_conveys_44 : decode cX4_conveys 44 = .ok (.ifCond .ne 13, 3) := by decide +kernel
theorem dX4_conveys_47 : decode cX4_conveys 47 = .ok (.aload_n 0, 1) := by decide +kernel
theorem dX4_conveys_48 : decode cX4_conveys 48 = .ok (.iload_n 1, 1) := by decide +kernel
theorem dX4_conveys_49 : decode cX4_conveys 49 = .ok (.iload 4, 2) := by decide +kernel
theorem dX4_conveys_51 : decode cX4_conveys 51 = .ok (.invokevirtual 114, 3) := by decide +kernel
theorem dX4_conveys_54 : decode cX4_conveys 54 = .ok (.goto 32, 3) := by decide +kernel
theorem dX4_conveys_57 : decode cX4_conveys 57 = .ok (.aload_n 0, 1) := by decide +kernel
theorem dX4_conveys_58 : decode cX4_conveys 58 = .ok (.getfield 65, 3) := by decide +kernel
theorem dX4_conveys_61 : decode cX4_conveys 61 = .ok (.bipush 16, 2) := by decide +kernel
theorem dX4_conveys_63 : decode cX4_conveys 63 = .ok (.iload_n 1, 1) := by decide +kernel
theorem dX4_conveys_64 : decode cX4_conveys 64 = .ok (.imul, 1) := by decide +kernel
theorem dX4_conveys_65 : decode cX4_conveys 65 = .ok (.iload_n 2, 1) := by decide +kernel
theorem dX4_conveys_66 : decode cX4_conveys 66 = .ok (.iadd, 1) := by decide +kernel
theorem dX4_conveys_67 : decode cX4_conveys 67 = .ok (.iload 4, 2) := by decide +kernel
theorem dX4_conveys_69 : decode cX4_conveys 69 = .ok (.iastore, 1) := by decide +kernel
theorem dX4_conveys_70 : decode cX4_conveys 70 = .ok (.aload_n 0, 1) := by decide +kernel
theorem dX4_conveys_71 : decode cX4_conveys 71 = .ok (.getfield 68, 3) := by decide +kernel
theorem dX4_conveys_74 : decode cX4_conveys 74 = .ok (.bipush 16, 2) := by decide +kernel
theorem dX4_conveys_76 : decode cX4_conveys 76 = .ok (.iload_n 1, 1) := by decide +kernel
theorem dX4_conveys_77 : decode cX4_conveys 77 = .ok (.imul, 1) := by decide +kernel
theorem dX4_conveys_78 : decode cX4_conveys 78 = .ok (.iload_n 2, 1) := by decide +kernel
theorem dX4_conveys_79 : decode cX4_conveys 79 = .ok (.iadd, 1) := by decide +kernel
theorem dX4_conveys_80 : decode cX4_conveys 80 = .ok (.iload 5, 2) := by decide +kernel
theorem dX4_conveys_82 : decode cX4_conveys 82 = .ok (.iastore, 1) := by decide +kernel
theorem dX4_conveys_83 : decode cX4_conveys 83 = .ok (.iinc 2 1, 3) := by decide +kernel
theorem dX4_conveys_86 : decode cX4_conveys 86 = .ok (.iinc 3 1, 3) := by decide +kernel
theorem dX4_conveys_89 : decode cX4_conveys 89 = .ok (.goto (-85), 3) := by decide +kernel
theorem dX4_conveys_92 : decode cX4_conveys 92 = .ok (.aload_n 0, 1) := by decide +kernel
theorem dX4_conveys_93 : decode cX4_conveys 93 = .ok (.getfield 71, 3) := by decide +kernel
theorem dX4_conveys_96 : decode cX4_conveys 96 = .ok (.iload_n 1, 1) := by decide +kernel
theorem dX4_conveys_97 : decode cX4_conveys 97 = .ok (.iload_n 2, 1) := by decide +kernel
theorem dX4_conveys_98 : decode cX4_conveys 98 = .ok (.iastore, 1) := by decide +kernel
theorem dX4_conveys_99 : decode cX4_conveys 99 = .ok (.iload_n 1, 1) := by decide +kernel
theorem dX4_conveys_100 : decode cX4_conveys 100 = .ok (.iconst 1, 1) := by decide +kernel
theorem dX4_conveys_101 : decode cX4_conveys 101 = .ok (.isub, 1) := by decide +kernel
theorem dX4_conveys_102 : decode cX4_conveys 102 = .ok (.istore_n 3, 1) := by decide +kernel
theorem dX4_conveys_103 : decode cX4_conveys 103 = .ok (.aload_n 0, 1) := by decide +kernel
theorem dX4_conveys_104 : decode cX4_conveys 104 = .ok (.getfield 44, 3) := by decide +kernel
theorem dX4_conveys_107 : decode cX4_conveys 107 = .ok (.iload_n 1, 1) := by decide +kernel
theorem dX4_conveys_108 : decode cX4_conveys 108 = .ok (.iaload, 1) := by decide +kernel
theorem dX4_conveys_109 : decode cX4_conveys 109 = .ok (.ifCond .le 128, 3) := by decide +kernel
theorem dX4_conveys_112 : decode cX4_conveys 112 = .ok (.aload_n 0, 1) := by decide +kernel
theorem dX4_conveys_113 : decode cX4_conveys 113 = .ok (.getfield 53, 3) := by decide +kernel
theorem dX4_conveys_116 : decode cX4_conveys 116 = .ok (.iload_n 3, 1) := by decide +kernel
theorem dX4_conveys_117 : decode cX4_conveys 117 = .ok (.iaload, 1) := by decide +kernel
theorem dX4_conveys_118 : decode cX4_conveys 118 = .ok (.ifCond .le 119, 3) := by decide +kernel
theorem dX4_conveys_121 : decode cX4_conveys 121 = .ok (.aload_n 0, 1) := by decide +kernel
theorem dX4_conveys_122 : decode cX4_conveys 122 = .ok (.getfield 47, 3) := by decide +kernel
theorem dX4_conveys_125 : decode cX4_conveys 125 = .ok (.bipush 16, 2) := by decide +kernel
theorem dX4_conveys_127 : decode cX4_conveys 127 = .ok (.iload_n 3, 1) := by decide +kernel
theorem dX4_conveys_128 : decode cX4_conveys 128 = .ok (.imul, 1) := by decide +kernel
theorem dX4_conveys_129 : decode cX4_conveys 129 = .ok (.iaload, 1) := by decide +kernel
theorem dX4_conveys_130 : decode cX4_conveys 130 = .ok (.istore 4, 2) := by decide +kernel
theorem dX4_conveys_132 : decode cX4_conveys 132 = .ok (.aload_n 0, 1) := by decide +kernel
theorem dX4_conveys_133 : decode cX4_conveys 133 = .ok (.getfield 26, 3) := by decide +kernel
theorem dX4_conveys_136 : decode cX4_conveys 136 = .ok (.iload_n 3, 1) := by decide +kernel
theorem dX4_conveys_137 : decode cX4_conveys 137 = .ok (.dup2, 1) := by decide +kernel
theorem dX4_conveys_138 : decode cX4_conveys 138 = .ok (.iaload, 1) := by decide +kernel
theorem dX4_conveys_139 : decode cX4_conveys 139 = .ok (.aload_n 0, 1) := by decide +kernel
theorem dX4_conveys_140 : decode cX4_conveys 140 = .ok (.getfield 50, 3) := by decide +kernel
theorem dX4_conveys_143 : decode cX4_conveys 143 = .ok (.bipush 16, 2) := by decide +kernel
theorem dX4_conveys_145 : decode cX4_conveys 145 = .ok (.iload_n 3, 1) := by decide +kernel
theorem dX4_conveys_146 : decode cX4_conveys 146 = .ok (.imul, 1) := by decide +kernel
theorem dX4_conveys_147 : decode cX4_conveys 147 = .ok (.iaload, 1) := by decide +kernel
theorem dX4_conveys_148 : decode cX4_conveys 148 = .ok (.iadd, 1) := by decide +kernel
theorem dX4_conveys_149 : decode cX4_conveys 149 = .ok (.iastore, 1) := by decide +kernel
theorem dX4_conveys_150 : decode cX4_conveys 150 = .ok (.aload_n 0, 1) := by decide +kernel
theorem dX4_conveys_151 : decode cX4_conveys 151 = .ok (.iload_n 3, 1) := by decide +kernel
theorem dX4_conveys_152 : decode cX4_conveys 152 = .ok (.invokevirtual 103, 3) := by decide +kernel
theorem dX4_conveys_155 : decode cX4_conveys 155 = .ok (.aload_n 0, 1) := by decide +kernel
theorem dX4_conveys_156 : decode cX4_conveys 156 = .ok (.getfield 44, 3) := by decide +kernel
theorem dX4_conveys_159 : decode cX4_conveys 159 = .ok (.iload_n 1, 1) := by decide +kernel
theorem dX4_conveys_160 : decode cX4_conveys 160 = .ok (.dup2, 1) := by decide +kernel
theorem dX4_conveys_161 : decode cX4_conveys 161 = .ok (.iaload, 1) := by decide +kernel
theorem dX4_conveys_162 : decode cX4_conveys 162 = .ok (.iconst 1, 1) := by decide +kernel
theorem dX4_conveys_163 : decode cX4_conveys 163 = .ok (.isub, 1) := by decide +kernel
theorem dX4_conveys_164 : decode cX4_conveys 164 = .ok (.iastore, 1) := by decide +kernel
theorem dX4_conveys_165 : decode cX4_conveys 165 = .ok (.aload_n 0, 1) := by decide +kernel
theorem dX4_conveys_166 : decode cX4_conveys 166 = .ok (.getfield 38, 3) := by decide +kernel
theorem dX4_conveys_169 : decode cX4_conveys 169 = .ok (.iload_n 1, 1) := by decide +kernel
theorem dX4_conveys_170 : decode cX4_conveys 170 = .ok (.iaload, 1) := by decide +kernel
theorem dX4_conveys_171 : decode cX4_conveys 171 = .ok (.ifCond .ne 13, 3) := by decide +kernel
theorem dX4_conveys_174 : decode cX4_conveys 174 = .ok (.aload_n 0, 1) := by decide +kernel
theorem dX4_conveys_175 : decode cX4_conveys 175 = .ok (.iload_n 1, 1) := by decide +kernel
theorem dX4_conveys_176 : decode cX4_conveys 176 = .ok (.iload 4, 2) := by decide +kernel
theorem dX4_conveys_178 : decode cX4_conveys 178 = .ok (.invokevirtual 114, 3) := by decide +kernel
theorem dX4_conveys_181 : decode cX4_conveys 181 = .ok (.goto 53, 3) := by decide +kernel
theorem dX4_conveys_184 : decode cX4_conveys 184 = .ok (.aload_n 0, 1) := by decide +kernel
theorem dX4_conveys_185 : decode cX4_conveys 185 = .ok (.getfield 65, 3) := by decide +kernel
theorem dX4_conveys_188 : decode cX4_conveys 188 = .ok (.bipush 16, 2) := by decide +kernel
theorem dX4_conveys_190 : decode cX4_conveys 190 = .ok (.iload_n 1, 1) := by decide +kernel
theorem dX4_conveys_191 : decode cX4_conveys 191 = .ok (.imul, 1) := by decide +kernel
theorem dX4_conveys_192 : decode cX4_conveys 192 = .ok (.aload_n 0, 1) := by decide +kernel
theorem dX4_conveys_193 : decode cX4_conveys 193 = .ok (.getfield 71, 3) := by decide +kernel
theorem dX4_conveys_196 : decode cX4_conveys 196 = .ok (.iload_n 1, 1) := by decide +kernel
theorem dX4_conveys_197 : decode cX4_conveys 197 = .ok (.iaload, 1) := by decide +kernel
theorem dX4_conveys_198 : decode cX4_conveys 198 = .ok (.iadd, 1) := by decide +kernel
theorem dX4_conveys_199 : decode cX4_conveys 199 = .ok (.iload 4, 2) := by decide +kernel
theorem dX4_conveys_201 : decode cX4_conveys 201 = .ok (.iastore, 1) := by decide +kernel
theorem dX4_conveys_202 : decode cX4_conveys 202 = .ok (.aload_n 0, 1) := by decide +kernel
theorem dX4_conveys_203 : decode cX4_conveys 203 = .ok (.getfield 68, 3) := by decide +kernel
theorem dX4_conveys_206 : decode cX4_conveys 206 = .ok (.bipush 16, 2) := by decide +kernel
theorem dX4_conveys_208 : decode cX4_conveys 208 = .ok (.iload_n 1, 1) := by decide +kernel
theorem dX4_conveys_209 : decode cX4_conveys 209 = .ok (.imul, 1) := by decide +kernel
theorem dX4_conveys_210 : decode cX4_conveys 210 = .ok (.aload_n 0, 1) := by decide +kernel
theorem dX4_conveys_211 : decode cX4_conveys 211 = .ok (.getfield 71, 3) := by decide +kernel
theorem dX4_conveys_214 : decode cX4_conveys 214 = .ok (.iload_n 1, 1) := by decide +kernel
theorem dX4_conveys_215 : decode cX4_conveys 215 = .ok (.iaload, 1) := by decide +kernel
theorem dX4_conveys_216 : decode cX4_conveys 216 = .ok (.iadd, 1) := by decide +kernel
theorem dX4_conveys_217 : decode cX4_conveys 217 = .ok (.aload_n 0, 1) := by decide +kernel
theorem dX4_conveys_218 : decode cX4_conveys 218 = .ok (.getfield 38, 3) := by decide +kernel
theorem dX4_conveys_221 : decode cX4_conveys 221 = .ok (.iload_n 1, 1) := by decide +kernel
theorem dX4_conveys_222 : decode cX4_conveys 222 = .ok (.iaload, 1) := by decide +kernel
theorem dX4_conveys_223 : decode cX4_conveys 223 = .ok (.iastore, 1) := by decide +kernel
theorem dX4_conveys_224 : decode cX4_conveys 224 = .ok (.aload_n 0, 1) := by decide +kernel
theorem dX4_conveys_225 : decode cX4_conveys 225 = .ok (.getfield 71, 3) := by decide +kernel
theorem dX4_conveys_228 : decode cX4_conveys 228 = .ok (.iload_n 1, 1) := by decide +kernel
theorem dX4_conveys_229 : decode cX4_conveys 229 = .ok (.dup2, 1) := by decide +kernel
theorem dX4_conveys_230 : decode cX4_conveys 230 = .ok (.iaload, 1) := by decide +kernel
theorem dX4_conveys_231 : decode cX4_conveys 231 = .ok (.iconst 1, 1) := by decide +kernel
theorem dX4_conveys_232 : decode cX4_conveys 232 = .ok (.iadd, 1) := by decide +kernel
theorem dX4_conveys_233 : decode cX4_conveys 233 = .ok (.iastore, 1) := by decide +kernel
theorem dX4_conveys_234 : decode cX4_conveys 234 = .ok (.goto (-131), 3) := by decide +kernel
theorem dX4_conveys_237 : decode cX4_conveys 237 = .ok (.return_, 1) := by decide +kernel
theorem dX4_step_0 : decode cX4_step 0 = .ok (.aload_n 0, 1) := by decide +kernel
theorem dX4_step_1 : decode cX4_step 1 = .ok (.iload_n 1, 1) := by decide +kernel
theorem dX4_step_2 : decode cX4_step 2 = .ok (.iconst 1, 1) := by decide +kernel
theorem dX4_step_3 : decode cX4_step 3 = .ok (.bipush 50, 2) := by decide +kernel
theorem dX4_step_5 : decode cX4_step 5 = .ok (.invokestatic 81, 3) := by decide +kernel
theorem dX4_step_8 : decode cX4_step 8 = .ok (.ifCond .ne 7, 3) := by decide +kernel
theorem dX4_step_11 : decode cX4_step 11 = .ok (.iconst 1, 1) := by decide +kernel
theorem dX4_step_12 : decode cX4_step 12 = .ok (.goto 15, 3) := by decide +kernel
theorem dX4_step_15 : decode cX4_step 15 = .ok (.aload_n 0, 1) := by decide +kernel
theorem dX4_step_16 : decode cX4_step 16 = .ok (.getfield 78, 3) := by decide +kernel
theorem dX4_step_19 : decode cX4_step 19 = .ok (.ifCond .ne 7, 3) := by decide +kernel
theorem dX4_step_22 : decode cX4_step 22 = .ok (.iconst 2, 1) := by decide +kernel
theorem dX4_step_23 : decode cX4_step 23 = .ok (.goto 4, 3) := by decide +kernel
theorem dX4_step_26 : decode cX4_step 26 = .ok (.iconst 0, 1) := by decide +kernel
theorem dX4_step_27 : decode cX4_step 27 = .ok (.putfield 74, 3) := by decide +kernel
theorem dX4_step_30 : decode cX4_step 30 = .ok (.aload_n 0, 1) := by decide +kernel
theorem dX4_step_31 : decode cX4_step 31 = .ok (.getfield 117, 3) := by decide +kernel
theorem dX4_step_34 : decode cX4_step 34 = .ok (.istore_n 2, 1) := by decide +kernel
theorem dX4_step_35 : decode cX4_step 35 = .ok (.iconst 0, 1) := by decide +kernel
theorem dX4_step_36 : decode cX4_step 36 = .ok (.istore_n 3, 1) := by decide +kernel
theorem dX4_step_37 : decode cX4_step 37 = .ok (.iload_n 3, 1) := by decide +kernel
theorem dX4_step_38 : decode cX4_step 38 = .ok (.iload_n 1, 1) := by decide +kernel
theorem dX4_step_39 : decode cX4_step 39 = .ok (.if_icmp .ge 172, 3) := by decide +kernel
theorem dX4_step_42 : decode cX4_step 42 = .ok (.aload_n 0, 1) := by decide +kernel
theorem dX4_step_43 : decode cX4_step 43 = .ok (.getfield 74, 3) := by decide +kernel
theorem dX4_step_46 : decode cX4_step 46 = .ok (.ifCond .ne 165, 3) := by decide +kernel
theorem dX4_step_49 : decode cX4_step 49 = .ok (.aload_n 0, 1) := by decide +kernel
theorem dX4_step_50 : decode cX4_step 50 = .ok (.dup, 1) := by decide +kernel
theorem dX4_step_51 : decode cX4_step 51 = .ok (.getfield 120, 3) := by decide +kernel
theorem dX4_step_54 : decode cX4_step 54 = .ok (.iconst 1, 1) := by decide +kernel
theorem dX4_step_55 : decode cX4_step 55 = .ok (.iadd, 1) := by decide +kernel
theorem dX4_step_56 : decode cX4_step 56 = .ok (.putfield 120, 3) := by decide +kernel
theorem dX4_step_59 : decode cX4_step 59 = .ok (.aload_n 0, 1) := by decide +kernel
theorem dX4_step_60 : decode cX4_step 60 = .ok (.getfield 100, 3) := by decide +kernel
theorem dX4_step_63 : decode cX4_step 63 = .ok (.aload_n 0, 1) := by decide +kernel
theorem dX4_step_64 : decode cX4_step 64 = .ok (.getfield 123, 3) := by decide +kernel
theorem dX4_step_67 : decode cX4_step 67 = .ok (.iadd, 1) := by decide +kernel
theorem dX4_step_68 : decode cX4_step 68 = .ok (.istore 4, 2) := by decide +kernel
theorem dX4_step_70 : decode cX4_step 70 = .ok (.aload_n 0, 1) := by decide +kernel
theorem dX4_step_71 : decode cX4_step 71 = .ok (.aload_n 0, 1) := by decide +kernel
theorem dX4_step_72 : decode cX4_step 72 = .ok (.getfield 78, 3) := by decide +kernel
theorem dX4_step_75 : decode cX4_step 75 = .ok (.iconst 1, 1) := by decide +kernel
theorem dX4_step_76 : decode cX4_step 76 = .ok (.isub, 1) := by decide +kernel
theorem dX4_step_77 : decode cX4_step 77 = .ok (.invokevirtual 126, 3) := by decide +kernel
theorem dX4_step_80 : decode cX4_step 80 = .ok (.istore 5, 2) := by decide +kernel
theorem dX4_step_82 : decode cX4_step 82 = .ok (.iload 4, 2) := by decide +kernel
theorem dX4_step_84 : decode cX4_step 84 = .ok (.iload 5, 2) := by decide +kernel
theorem dX4_step_86 : decode cX4_step 86 = .ok (.if_icmp .ge 8, 3) := by decide +kernel
theorem dX4_step_89 : decode cX4_step 89 = .ok (.iload 4, 2) := by decide +kernel
theorem dX4_step_91 : decode cX4_step 91 = .ok (.goto 5, 3) := by decide +kernel
theorem dX4_step_94 : decode cX4_step 94 = .ok (.iload 5, 2) := by decide +kernel
theorem dX4_step_96 : decode cX4_step 96 = .ok (.istore 6, 2) := by decide +kernel
theorem dX4_step_98 : decode cX4_step 98 = .ok (.aload_n 0, 1) := by decide +kernel
theorem dX4_step_99 : decode cX4_step 99 = .ok (.iload 6, 2) := by decide +kernel
theorem dX4_step_101 : decode cX4_step 101 = .ok (.invokevirtual 129, 3) := by decide +kernel
theorem dX4_step_104 : decode cX4_step 104 = .ok (.aload_n 0, 1) := by decide +kernel
theorem dX4_step_105 : decode cX4_step 105 = .ok (.dup, 1) := by decide +kernel
theorem dX4_step_106 : decode cX4_step 106 = .ok (.getfield 117, 3) := by decide +kernel
theorem dX4_step_109 : decode cX4_step 109 = .ok (.iload 6, 2) := by decide +kernel
theorem dX4_step_111 : decode cX4_step 111 = .ok (.iadd, 1) := by decide +kernel
theorem dX4_step_112 : decode cX4_step 112 = .ok (.putfield 117, 3) := by decide +kernel
theorem dX4_step_115 : decode cX4_step 115 = .ok (.aload_n 0, 1) := by decide +kernel
theorem dX4_step_116 : decode cX4_step 116 = .ok (.iload 4, 2) := by decide +kernel
theorem dX4_step_118 : decode cX4_step 118 = .ok (.iload 6, 2) := by decide +kernel
theorem dX4_step_120 : decode cX4_step 120 = .ok (.isub, 1) := by decide +kernel
theorem dX4_step_121 : decode cX4_step 121 = .ok (.putfield 123, 3) := by decide +kernel
theorem dX4_step_124 : decode cX4_step 124 = .ok (.aload_n 0, 1) := by decide +kernel
theorem dX4_step_125 : decode cX4_step 125 = .ok (.dup, 1) := by decide +kernel
theorem dX4_step_126 : decode cX4_step 126 = .ok (.getfield 132, 3) := by decide +kernel
theorem dX4_step_129 : decode cX4_step 129 = .ok (.aload_n 0, 1) := by decide +kernel
theorem dX4_step_130 : decode cX4_step 130 = .ok (.getfield 123, 3) := by decide +kernel
theorem dX4_step_133 : decode cX4_step 133 = .ok (.ifCond .le 7, 3) := by decide +kernel
theorem dX4_step_136 : decode cX4_step 136 = .ok (.iconst 1, 1) := by decide +kernel
theorem dX4_step_137 : decode cX4_step 137 = .ok (.goto 4, 3) := by decide +kernel
theorem dX4_step_140 : decode cX4_step 140 = .ok (.iconst 0, 1) := by decide +kernel
theorem dX4_step_141 : decode cX4_step 141 = .ok (.iadd, 1) := by decide +kernel
theorem dX4_step_142 : decode cX4_step 142 = .ok (.putfield 132, 3) := by decide +kernel
theorem dX4_step_145 : decode cX4_step 145 = .ok (.aload_n 0, 1) := by decide +kernel
theorem dX4_step_146 : decode cX4_step 146 = .ok (.getfield 78, 3) := by decide +kernel
theorem dX4_step_149 : decode cX4_step 149 = .ok (.iconst 1, 1) := by decide +kernel
theorem dX4_step_150 : decode cX4_step 150 = .ok (.isub, 1) := by decide +kernel
theorem dX4_step_151 : decode cX4_step 151 = .ok (.istore 7, 2) := by decide +kernel
theorem dX4_step_153 : decode cX4_step 153 = .ok (.iload 7, 2) := by decide +kernel
theorem dX4_step_155 : decode cX4_step 155 = .ok (.ifCond .lt 25, 3) := by decide +kernel
theorem dX4_step_158 : decode cX4_step 158 = .ok (.aload_n 0, 1) := by decide +kernel
theorem dX4_step_159 : decode cX4_step 159 = .ok (.getfield 22, 3) := by decide +kernel
theorem dX4_step_162 : decode cX4_step 162 = .ok (.iload 7, 2) := by decide +kernel
theorem dX4_step_164 : decode cX4_step 164 = .ok (.baload, 1) := by decide +kernel
theorem dX4_step_165 : decode cX4_step 165 = .ok (.ifCond .ne 9, 3) := by decide +kernel
theorem dX4_step_168 : decode cX4_step 168 = .ok (.aload_n 0, 1) := by decide +kernel
theorem dX4_step_169 : decode cX4_step 169 = .ok (.iload 7, 2) := by decide +kernel
theorem dX4_step_171 : decode cX4_step 171 = .ok (.invokevirtual 135, 3) := by decide +kernel
theorem dX4_step_174 : decode cX4_step 174 = .ok (.iinc 7 (-1), 3) := by decide +kernel
theorem dX4_step_177 : decode cX4_step 177 = .ok (.goto (-24), 3) := by decide +kernel
theorem dX4_step_180 : decode cX4_step 180 = .ok (.aload_n 0, 1) := by decide +kernel
theorem dX4_step_181 : decode cX4_step 181 = .ok (.getfield 78, 3) := by decide +kernel
theorem dX4_step_184 : decode cX4_step 184 = .ok (.iconst 1, 1) := by decide +kernel
theorem dX4_step_185 : decode cX4_step 185 = .ok (.isub, 1) := by decide +kernel
theorem dX4_step_186 : decode cX4_step 186 = .ok (.istore 7, 2) := by decide +kernel
theorem dX4_step_188 : decode cX4_step 188 = .ok (.iload 7, 2) := by decide +kernel
theorem dX4_step_190 : decode cX4_step 190 = .ok (.ifCond .le 15, 3) := by decide +kernel
theorem dX4_step_193 : decode cX4_step 193 = .ok (.aload_n 0, 1) := by decide +kernel
theorem dX4_step_194 : decode cX4_step 194 = .ok (.iload 7, 2) := by decide +kernel
theorem dX4_step_196 : decode cX4_step 196 = .ok (.invokevirtual 138, 3) := by decide +kernel
theorem dX4_step_199 : decode cX4_step 199 = .ok (.iinc 7 (-1), 3) := by decide +kernel
theorem dX4_step_202 : decode cX4_step 202 = .ok (.goto (-14), 3) := by decide +kernel
theorem dX4_step_205 : decode cX4_step 205 = .ok (.iinc 3 1, 3) := by decide +kernel
theorem dX4_step_208 : decode cX4_step 208 = .ok (.goto (-171), 3) := by decide +kernel
theorem dX4_step_211 : decode cX4_step 211 = .ok (.aload_n 0, 1) := by decide +kernel
theorem dX4_step_212 : decode cX4_step 212 = .ok (.getfield 117, 3) := by decide +kernel
theorem dX4_step_215 : decode cX4_step 215 = .ok (.iload_n 2, 1) := by decide +kernel
theorem dX4_step_216 : decode cX4_step 216 = .ok (.isub, 1) := by decide +kernel
theorem dX4_step_217 : decode cX4_step 217 = .ok (.ireturn, 1) := by decide +kernel
theorem dX4_time_0 : decode cX4_time 0 = .ok (.aload_n 0, 1) := by decide +kernel
theorem dX4_time_1 : decode cX4_time 1 = .ok (.iconst 0, 1) := by decide +kernel
theorem dX4_time_2 : decode cX4_time 2 = .ok (.putfield 74, 3) := by decide +kernel
theorem dX4_time_5 : decode cX4_time 5 = .ok (.aload_n 0, 1) := by decide +kernel
theorem dX4_time_6 : decode cX4_time 6 = .ok (.getfield 120, 3) := by decide +kernel
theorem dX4_time_9 : decode cX4_time 9 = .ok (.ireturn, 1) := by decide +kernel
theorem dX4_stages_0 : decode cX4_stages 0 = .ok (.aload_n 0, 1) := by decide +kernel
theorem dX4_stages_1 : decode cX4_stages 1 = .ok (.iconst 0, 1) := by decide +kernel
theorem dX4_stages_2 : decode cX4_stages 2 = .ok (.putfield 74, 3) := by decide +kernel
theorem dX4_stages_5 : decode cX4_stages 5 = .ok (.aload_n 0, 1) := by decide +kernel
theorem dX4_stages_6 : decode cX4_stages 6 = .ok (.getfield 78, 3) := by decide +kernel
theorem dX4_stages_9 : decode cX4_stages 9 = .ok (.ireturn, 1) := by decide +kernel
theorem dX4_board_0 : decode cX4_board 0 = .ok (.aload_n 0, 1) := by decide +kernel
theorem dX4_board_1 : decode cX4_board 1 = .ok (.iload_n 1, 1) := by decide +kernel
theorem dX4_board_2 : decode cX4_board 2 = .ok (.iconst 0, 1) := by decide +kernel
theorem dX4_board_3 : decode cX4_board 3 = .ok (.invokevirtual 92, 3) := by decide +kernel
theorem dX4_board_6 : decode cX4_board 6 = .ok (.ifCond .eq 12, 3) := by decide +kernel
theorem dX4_board_9 : decode cX4_board 9 = .ok (.aload_n 0, 1) := by decide +kernel
theorem dX4_board_10 : decode cX4_board 10 = .ok (.getfield 26, 3) := by decide +kernel
theorem dX4_board_13 : decode cX4_board 13 = .ok (.iload_n 1, 1) := by decide +kernel
theorem dX4_board_14 : decode cX4_board 14 = .ok (.iaload, 1) := by decide +kernel
theorem dX4_board_15 : decode cX4_board 15 = .ok (.goto 4, 3) := by decide +kernel
theorem dX4_board_18 : decode cX4_board 18 = .ok (.iconst 0, 1) := by decide +kernel
theorem dX4_board_19 : decode cX4_board 19 = .ok (.ireturn, 1) := by decide +kernel
theorem dX4_attached_0 : decode cX4_attached 0 = .ok (.iconst 0, 1) := by decide +kernel
theorem dX4_attached_1 : decode cX4_attached 1 = .ok (.istore_n 2, 1) := by decide +kernel
theorem dX4_attached_2 : decode cX4_attached 2 = .ok (.iconst 0, 1) := by decide +kernel
theorem dX4_attached_3 : decode cX4_attached 3 = .ok (.istore_n 3, 1) := by decide +kernel
theorem dX4_attached_4 : decode cX4_attached 4 = .ok (.aload_n 0, 1) := by decide +kernel
theorem dX4_attached_5 : decode cX4_attached 5 = .ok (.iload_n 1, 1) := by decide +kernel
theorem dX4_attached_6 : decode cX4_attached 6 = .ok (.iconst 0, 1) := by decide +kernel
theorem dX4_attached_7 : decode cX4_attached 7 = .ok (.invokevirtual 92, 3) := by decide +kernel
theorem dX4_attached_10 : decode cX4_attached 10 = .ok (.ifCond .eq 33, 3) := by decide +kernel
theorem dX4_attached_13 : decode cX4_attached 13 = .ok (.iload_n 3, 1) := by decide +kernel
theorem dX4_attached_14 : decode cX4_attached 14 = .ok (.aload_n 0, 1) := by decide +kernel
theorem dX4_attached_15 : decode cX4_attached 15 = .ok (.getfield 53, 3) := by decide +kernel
theorem dX4_attached_18 : decode cX4_attached 18 = .ok (.iload_n 1, 1) := by decide +kernel
theorem dX4_attached_19 : decode cX4_attached 19 = .ok (.iaload, 1) := by decide +kernel
theorem dX4_attached_20 : decode cX4_attached 20 = .ok (.if_icmp .ge 23, 3) := by decide +kernel
theorem dX4_attached_23 : decode cX4_attached 23 = .ok (.iload_n 2, 1) := by decide +kernel
theorem dX4_attached_24 : decode cX4_attached 24 = .ok (.aload_n 0, 1) := by decide +kernel
theorem dX4_attached_25 : decode cX4_attached 25 = .ok (.getfield 50, 3) := by decide +kernel
theorem dX4_attached_28 : decode cX4_attached 28 = .ok (.bipush 16, 2) := by decide +kernel
theorem dX4_attached_30 : decode cX4_attached 30 = .ok (.iload_n 1, 1) := by decide +kernel
theorem dX4_attached_31 : decode cX4_attached 31 = .ok (.imul, 1) := by decide +kernel
theorem dX4_attached_32 : decode cX4_attached 32 = .ok (.iload_n 3, 1) := by decide +kernel
theorem dX4_attached_33 : decode cX4_attached 33 = .ok (.iadd, 1) := by decide +kernel
theorem dX4_attached_34 : decode cX4_attached 34 = .ok (.iaload, 1) := by decide +kernel
theorem dX4_attached_35 : decode cX4_attached 35 = .ok (.iadd, 1) := by decide +kernel
theorem dX4_attached_36 : decode cX4_attached 36 = .ok (.istore_n 2, 1) := by decide +kernel
theorem dX4_attached_37 : decode cX4_attached 37 = .ok (.iinc 3 1, 3) := by decide +kernel
theorem dX4_attached_40 : decode cX4_attached 40 = .ok (.goto (-36), 3) := by decide +kernel
theorem dX4_attached_43 : decode cX4_attached 43 = .ok (.iload_n 2, 1) := by decide +kernel
theorem dX4_attached_44 : decode cX4_attached 44 = .ok (.ireturn, 1) := by decide +kernel
theorem dX4_left_0 : decode cX4_left 0 = .ok (.aload_n 0, 1) := by decide +kernel
theorem dX4_left_1 : decode cX4_left 1 = .ok (.iload_n 1, 1) := by decide +kernel
theorem dX4_left_2 : decode cX4_left 2 = .ok (.iconst 0, 1) := by decide +kernel
theorem dX4_left_3 : decode cX4_left 3 = .ok (.invokevirtual 92, 3) := by decide +kernel
theorem dX4_left_6 : decode cX4_left 6 = .ok (.ifCond .eq 12, 3) := by decide +kernel
theorem dX4_left_9 : decode cX4_left 9 = .ok (.aload_n 0, 1) := by decide +kernel
theorem dX4_left_10 : decode cX4_left 10 = .ok (.getfield 29, 3) := by decide +kernel
theorem dX4_left_13 : decode cX4_left 13 = .ok (.iload_n 1, 1) := by decide +kernel
theorem dX4_left_14 : decode cX4_left 14 = .ok (.iaload, 1) := by decide +kernel
theorem dX4_left_15 : decode cX4_left 15 = .ok (.goto 4, 3) := by decide +kernel
theorem dX4_left_18 : decode cX4_left 18 = .ok (.iconst 0, 1) := by decide +kernel
theorem dX4_left_19 : decode cX4_left 19 = .ok (.ireturn, 1) := by decide +kernel
theorem dX4_run_0 : decode cX4_run 0 = .ok (.aload_n 0, 1) := by decide +kernel
theorem dX4_run_1 : decode cX4_run 1 = .ok (.iload_n 1, 1) := by decide +kernel
theorem dX4_run_2 : decode cX4_run 2 = .ok (.iconst 0, 1) := by decide +kernel
theorem dX4_run_3 : decode cX4_run 3 = .ok (.invokevirtual 92, 3) := by decide +kernel
theorem dX4_run_6 : decode cX4_run 6 = .ok (.ifCond .eq 12, 3) := by decide +kernel
theorem dX4_run_9 : decode cX4_run 9 = .ok (.aload_n 0, 1) := by decide +kernel
theorem dX4_run_10 : decode cX4_run 10 = .ok (.getfield 32, 3) := by decide +kernel
theorem dX4_run_13 : decode cX4_run 13 = .ok (.iload_n 1, 1) := by decide +kernel
theorem dX4_run_14 : decode cX4_run 14 = .ok (.iaload, 1) := by decide +kernel
theorem dX4_run_15 : decode cX4_run 15 = .ok (.goto 4, 3) := by decide +kernel
theorem dX4_run_18 : decode cX4_run 18 = .ok (.iconst 0, 1) := by decide +kernel
theorem dX4_run_19 : decode cX4_run 19 = .ok (.ireturn, 1) := by decide +kernel
theorem dX4_market_0 : decode cX4_market 0 = .ok (.aload_n 0, 1) := by decide +kernel
theorem dX4_market_1 : decode cX4_market 1 = .ok (.iload_n 1, 1) := by decide +kernel
theorem dX4_market_2 : decode cX4_market 2 = .ok (.iconst 0, 1) := by decide +kernel
theorem dX4_market_3 : decode cX4_market 3 = .ok (.invokevirtual 92, 3) := by decide +kernel
theorem dX4_market_6 : decode cX4_market 6 = .ok (.ifCond .eq 11, 3) := by decide +kernel
theorem dX4_market_9 : decode cX4_market 9 = .ok (.aload_n 0, 1) := by decide +kernel
theorem dX4_market_10 : decode cX4_market 10 = .ok (.iload_n 1, 1) := by decide +kernel
theorem dX4_market_11 : decode cX4_market 11 = .ok (.invokevirtual 126, 3) := by decide +kernel
theorem dX4_market_14 : decode cX4_market 14 = .ok (.goto 4, 3) := by decide +kernel
theorem dX4_market_17 : decode cX4_market 17 = .ok (.iconst 0, 1) := by decide +kernel
theorem dX4_market_18 : decode cX4_market 18 = .ok (.ireturn, 1) := by decide +kernel
theorem dX4_inbox_0 : decode cX4_inbox 0 = .ok (.aload_n 0, 1) := by decide +kernel
theorem dX4_inbox_1 : decode cX4_inbox 1 = .ok (.iload_n 1, 1) := by decide +kernel
theorem dX4_inbox_2 : decode cX4_inbox 2 = .ok (.iconst 0, 1) := by decide +kernel
theorem dX4_inbox_3 : decode cX4_inbox 3 = .ok (.invokevirtual 92, 3) := by decide +kernel
theorem dX4_inbox_6 : decode cX4_inbox 6 = .ok (.ifCond .eq 11, 3) := by decide +kernel
theorem dX4_inbox_9 : decode cX4_inbox 9 = .ok (.aload_n 0, 1) := by decide +kernel
theorem dX4_inbox_10 : decode cX4_inbox 10 = .ok (.iload_n 1, 1) := by decide +kernel
theorem dX4_inbox_11 : decode cX4_inbox 11 = .ok (.invokevirtual 107, 3) := by decide +kernel
theorem dX4_inbox_14 : decode cX4_inbox 14 = .ok (.goto 4, 3) := by decide +kernel
theorem dX4_inbox_17 : decode cX4_inbox 17 = .ok (.iconst 0, 1) := by decide +kernel
theorem dX4_inbox_18 : decode cX4_inbox 18 = .ok (.ireturn, 1) := by decide +kernel
theorem dX4_waiting_0 : decode cX4_waiting 0 = .ok (.aload_n 0, 1) := by decide +kernel
theorem dX4_waiting_1 : decode cX4_waiting 1 = .ok (.iload_n 1, 1) := by decide +kernel
theorem dX4_waiting_2 : decode cX4_waiting 2 = .ok (.iconst 0, 1) := by decide +kernel
theorem dX4_waiting_3 : decode cX4_waiting 3 = .ok (.invokevirtual 92, 3) := by decide +kernel
theorem dX4_waiting_6 : decode cX4_waiting 6 = .ok (.ifCond .eq 12, 3) := by decide +kernel
theorem dX4_waiting_9 : decode cX4_waiting 9 = .ok (.aload_n 0, 1) := by decide +kernel
theorem dX4_waiting_10 : decode cX4_waiting 10 = .ok (.getfield 44, 3) := by decide +kernel
theorem dX4_waiting_13 : decode cX4_waiting 13 = .ok (.iload_n 1, 1) := by decide +kernel
theorem dX4_waiting_14 : decode cX4_waiting 14 = .ok (.iaload, 1) := by decide +kernel
theorem dX4_waiting_15 : decode cX4_waiting 15 = .ok (.goto 4, 3) := by decide +kernel
theorem dX4_waiting_18 : decode cX4_waiting 18 = .ok (.iconst 0, 1) := by decide +kernel
theorem dX4_waiting_19 : decode cX4_waiting 19 = .ok (.ireturn, 1) := by decide +kernel
theorem dX4_travelling_0 : decode cX4_travelling 0 = .ok (.aload_n 0, 1) := by decide +kernel
theorem dX4_travelling_1 : decode cX4_travelling 1 = .ok (.iload_n 1, 1) := by decide +kernel
theorem dX4_travelling_2 : decode cX4_travelling 2 = .ok (.iconst 0, 1) := by decide +kernel
theorem dX4_travelling_3 : decode cX4_travelling 3 = .ok (.invokevirtual 92, 3) := by decide +kernel
theorem dX4_travelling_6 : decode cX4_travelling 6 = .ok (.ifCond .eq 12, 3) := by decide +kernel
theorem dX4_travelling_9 : decode cX4_travelling 9 = .ok (.aload_n 0, 1) := by decide +kernel
theorem dX4_travelling_10 : decode cX4_travelling 10 = .ok (.getfield 71, 3) := by decide +kernel
theorem dX4_travelling_13 : decode cX4_travelling 13 = .ok (.iload_n 1, 1) := by decide +kernel
theorem dX4_travelling_14 : decode cX4_travelling 14 = .ok (.iaload, 1) := by decide +kernel
theorem dX4_travelling_15 : decode cX4_travelling 15 = .ok (.goto 4, 3) := by decide +kernel
theorem dX4_travelling_18 : decode cX4_travelling 18 = .ok (.iconst 0, 1) := by decide +kernel
theorem dX4_travelling_19 : decode cX4_travelling 19 = .ok (.ireturn, 1) := by decide +kernel
theorem dX4_firstUnits_0 : decode cX4_firstUnits 0 = .ok (.aload_n 0, 1) := by decide +kernel
theorem dX4_firstUnits_1 : decode cX4_firstUnits 1 = .ok (.iload_n 1, 1) := by decide +kernel
theorem dX4_firstUnits_2 : decode cX4_firstUnits 2 = .ok (.iconst 0, 1) := by decide +kernel
theorem dX4_firstUnits_3 : decode cX4_firstUnits 3 = .ok (.invokevirtual 92, 3) := by decide +kernel
theorem dX4_firstUnits_6 : decode cX4_firstUnits 6 = .ok (.ifCond .eq 24, 3) := by decide +kernel
theorem dX4_firstUnits_9 : decode cX4_firstUnits 9 = .ok (.aload_n 0, 1) := by decide +kernel
theorem dX4_firstUnits_10 : decode cX4_firstUnits 10 = .ok (.getfield 53, 3) := by decide +kernel
theorem dX4_firstUnits_13 : decode cX4_firstUnits 13 = .ok (.iload_n 1, 1) := by decide +kernel
theorem dX4_firstUnits_14 : decode cX4_firstUnits 14 = .ok (.iaload, 1) := by decide +kernel
theorem dX4_firstUnits_15 : decode cX4_firstUnits 15 = .ok (.ifCond .le 15, 3) := by decide +kernel
theorem dX4_firstUnits_18 : decode cX4_firstUnits 18 = .ok (.aload_n 0, 1) := by decide +kernel
theorem dX4_firstUnits_19 : decode cX4_firstUnits 19 = .ok (.getfield 47, 3) := by decide +kernel
theorem dX4_firstUnits_22 : decode cX4_firstUnits 22 = .ok (.bipush 16, 2) := by decide +kernel
theorem dX4_firstUnits_24 : decode cX4_firstUnits 24 = .ok (.iload_n 1, 1) := by decide +kernel
theorem dX4_firstUnits_25 : decode cX4_firstUnits 25 = .ok (.imul, 1) := by decide +kernel
theorem dX4_firstUnits_26 : decode cX4_firstUnits 26 = .ok (.iaload, 1) := by decide +kernel
theorem dX4_firstUnits_27 : decode cX4_firstUnits 27 = .ok (.goto 4, 3) := by decide +kernel
theorem dX4_firstUnits_30 : decode cX4_firstUnits 30 = .ok (.iconst 0, 1) := by decide +kernel
theorem dX4_firstUnits_31 : decode cX4_firstUnits 31 = .ok (.ireturn, 1) := by decide +kernel
theorem dX4_taken_0 : decode cX4_taken 0 = .ok (.aload_n 0, 1) := by decide +kernel
theorem dX4_taken_1 : decode cX4_taken 1 = .ok (.iconst 0, 1) := by decide +kernel
theorem dX4_taken_2 : decode cX4_taken 2 = .ok (.putfield 74, 3) := by decide +kernel
theorem dX4_taken_5 : decode cX4_taken 5 = .ok (.aload_n 0, 1) := by decide +kernel
theorem dX4_taken_6 : decode cX4_taken 6 = .ok (.getfield 117, 3) := by decide +kernel
theorem dX4_taken_9 : decode cX4_taken 9 = .ok (.ireturn, 1) := by decide +kernel
theorem dX4_backlog_0 : decode cX4_backlog 0 = .ok (.aload_n 0, 1) := by decide +kernel
theorem dX4_backlog_1 : decode cX4_backlog 1 = .ok (.iconst 0, 1) := by decide +kernel
theorem dX4_backlog_2 : decode cX4_backlog 2 = .ok (.putfield 74, 3) := by decide +kernel
theorem dX4_backlog_5 : decode cX4_backlog 5 = .ok (.aload_n 0, 1) := by decide +kernel
theorem dX4_backlog_6 : decode cX4_backlog 6 = .ok (.getfield 123, 3) := by decide +kernel
theorem dX4_backlog_9 : decode cX4_backlog 9 = .ok (.ireturn, 1) := by decide +kernel
theorem dX4_shortSteps_0 : decode cX4_shortSteps 0 = .ok (.aload_n 0, 1) := by decide +kernel
theorem dX4_shortSteps_1 : decode cX4_shortSteps 1 = .ok (.iconst 0, 1) := by decide +kernel
theorem dX4_shortSteps_2 : decode cX4_shortSteps 2 = .ok (.putfield 74, 3) := by decide +kernel
theorem dX4_shortSteps_5 : decode cX4_shortSteps 5 = .ok (.aload_n 0, 1) := by decide +kernel
theorem dX4_shortSteps_6 : decode cX4_shortSteps 6 = .ok (.getfield 132, 3) := by decide +kernel
theorem dX4_shortSteps_9 : decode cX4_shortSteps 9 = .ok (.ireturn, 1) := by decide +kernel
theorem dX4_starved_0 : decode cX4_starved 0 = .ok (.aload_n 0, 1) := by decide +kernel
theorem dX4_starved_1 : decode cX4_starved 1 = .ok (.iload_n 1, 1) := by decide +kernel
theorem dX4_starved_2 : decode cX4_starved 2 = .ok (.iconst 0, 1) := by decide +kernel
theorem dX4_starved_3 : decode cX4_starved 3 = .ok (.invokevirtual 92, 3) := by decide +kernel
theorem dX4_starved_6 : decode cX4_starved 6 = .ok (.ifCond .eq 12, 3) := by decide +kernel
theorem dX4_starved_9 : decode cX4_starved 9 = .ok (.aload_n 0, 1) := by decide +kernel
theorem dX4_starved_10 : decode cX4_starved 10 = .ok (.getfield 35, 3) := by decide +kernel
theorem dX4_starved_13 : decode cX4_starved 13 = .ok (.iload_n 1, 1) := by decide +kernel
theorem dX4_starved_14 : decode cX4_starved 14 = .ok (.iaload, 1) := by decide +kernel
theorem dX4_starved_15 : decode cX4_starved 15 = .ok (.goto 4, 3) := by decide +kernel
theorem dX4_starved_18 : decode cX4_starved 18 = .ok (.iconst 0, 1) := by decide +kernel
theorem dX4_starved_19 : decode cX4_starved 19 = .ok (.ireturn, 1) := by decide +kernel
theorem dX4_stock_0 : decode cX4_stock 0 = .ok (.aload_n 0, 1) := by decide +kernel
theorem dX4_stock_1 : decode cX4_stock 1 = .ok (.iconst 0, 1) := by decide +kernel
theorem dX4_stock_2 : decode cX4_stock 2 = .ok (.putfield 74, 3) := by decide +kernel
theorem dX4_stock_5 : decode cX4_stock 5 = .ok (.iconst 0, 1) := by decide +kernel
theorem dX4_stock_6 : decode cX4_stock 6 = .ok (.istore_n 1, 1) := by decide +kernel
theorem dX4_stock_7 : decode cX4_stock 7 = .ok (.iconst 0, 1) := by decide +kernel
theorem dX4_stock_8 : decode cX4_stock 8 = .ok (.istore_n 2, 1) := by decide +kernel
theorem dX4_stock_9 : decode cX4_stock 9 = .ok (.iload_n 2, 1) := by decide +kernel
theorem dX4_stock_10 : decode cX4_stock 10 = .ok (.aload_n 0, 1) := by decide +kernel
theorem dX4_stock_11 : decode cX4_stock 11 = .ok (.getfield 78, 3) := by decide +kernel
theorem dX4_stock_14 : decode cX4_stock 14 = .ok (.if_icmp .ge 75, 3) := by decide +kernel
theorem dX4_stock_17 : decode cX4_stock 17 = .ok (.iload_n 1, 1) := by decide +kernel
theorem dX4_stock_18 : decode cX4_stock 18 = .ok (.aload_n 0, 1) := by decide +kernel
theorem dX4_stock_19 : decode cX4_stock 19 = .ok (.iload_n 2, 1) := by decide +kernel
theorem dX4_stock_20 : decode cX4_stock 20 = .ok (.invokevirtual 126, 3) := by decide +kernel
theorem dX4_stock_23 : decode cX4_stock 23 = .ok (.aload_n 0, 1) := by decide +kernel
theorem dX4_stock_24 : decode cX4_stock 24 = .ok (.iload_n 2, 1) := by decide +kernel
theorem dX4_stock_25 : decode cX4_stock 25 = .ok (.invokevirtual 107, 3) := by decide +kernel
theorem dX4_stock_28 : decode cX4_stock 28 = .ok (.iadd, 1) := by decide +kernel
theorem dX4_stock_29 : decode cX4_stock 29 = .ok (.aload_n 0, 1) := by decide +kernel
theorem dX4_stock_30 : decode cX4_stock 30 = .ok (.getfield 29, 3) := by decide +kernel
theorem dX4_stock_33 : decode cX4_stock 33 = .ok (.iload_n 2, 1) := by decide +kernel
theorem dX4_stock_34 : decode cX4_stock 34 = .ok (.iaload, 1) := by decide +kernel
theorem dX4_stock_35 : decode cX4_stock 35 = .ok (.ifCond .le 12, 3) := by decide +kernel
theorem dX4_stock_38 : decode cX4_stock 38 = .ok (.aload_n 0, 1) := by decide +kernel
theorem dX4_stock_39 : decode cX4_stock 39 = .ok (.getfield 13, 3) := by decide +kernel
theorem dX4_stock_42 : decode cX4_stock 42 = .ok (.iload_n 2, 1) := by decide +kernel
theorem dX4_stock_43 : decode cX4_stock 43 = .ok (.iaload, 1) := by decide +kernel
theorem dX4_stock_44 : decode cX4_stock 44 = .ok (.goto 4, 3) := by decide +kernel
theorem dX4_stock_47 : decode cX4_stock 47 = .ok (.iconst 0, 1) := by decide +kernel
theorem dX4_stock_48 : decode cX4_stock 48 = .ok (.iadd, 1) := by decide +kernel
theorem dX4_stock_49 : decode cX4_stock 49 = .ok (.iadd, 1) := by decide +kernel
theorem dX4_stock_50 : decode cX4_stock 50 = .ok (.istore_n 1, 1) := by decide +kernel
theorem dX4_stock_51 : decode cX4_stock 51 = .ok (.iconst 0, 1) := by decide +kernel
theorem dX4_stock_52 : decode cX4_stock 52 = .ok (.istore_n 3, 1) := by decide +kernel
theorem dX4_stock_53 : decode cX4_stock 53 = .ok (.iload_n 3, 1) := by decide +kernel
theorem dX4_stock_54 : decode cX4_stock 54 = .ok (.aload_n 0, 1) := by decide +kernel
theorem dX4_stock_55 : decode cX4_stock 55 = .ok (.getfield 71, 3) := by decide +kernel
theorem dX4_stock_58 : decode cX4_stock 58 = .ok (.iload_n 2, 1) := by decide +kernel
theorem dX4_stock_59 : decode cX4_stock 59 = .ok (.iaload, 1) := by decide +kernel
theorem dX4_stock_60 : decode cX4_stock 60 = .ok (.if_icmp .ge 23, 3) := by decide +kernel
theorem dX4_stock_63 : decode cX4_stock 63 = .ok (.iload_n 1, 1) := by decide +kernel
theorem dX4_stock_64 : decode cX4_stock 64 = .ok (.aload_n 0, 1) := by decide +kernel
theorem dX4_stock_65 : decode cX4_stock 65 = .ok (.getfield 65, 3) := by decide +kernel
theorem dX4_stock_68 : decode cX4_stock 68 = .ok (.bipush 16, 2) := by decide +kernel
theorem dX4_stock_70 : decode cX4_stock 70 = .ok (.iload_n 2, 1) := by decide +kernel
theorem dX4_stock_71 : decode cX4_stock 71 = .ok (.imul, 1) := by decide +kernel
theorem dX4_stock_72 : decode cX4_stock 72 = .ok (.iload_n 3, 1) := by decide +kernel
theorem dX4_stock_73 : decode cX4_stock 73 = .ok (.iadd, 1) := by decide +kernel
theorem dX4_stock_74 : decode cX4_stock 74 = .ok (.iaload, 1) := by decide +kernel
theorem dX4_stock_75 : decode cX4_stock 75 = .ok (.iadd, 1) := by decide +kernel
theorem dX4_stock_76 : decode cX4_stock 76 = .ok (.istore_n 1, 1) := by decide +kernel
theorem dX4_stock_77 : decode cX4_stock 77 = .ok (.iinc 3 1, 3) := by decide +kernel
theorem dX4_stock_80 : decode cX4_stock 80 = .ok (.goto (-27), 3) := by decide +kernel
theorem dX4_stock_83 : decode cX4_stock 83 = .ok (.iinc 2 1, 3) := by decide +kernel
theorem dX4_stock_86 : decode cX4_stock 86 = .ok (.goto (-77), 3) := by decide +kernel
theorem dX4_stock_89 : decode cX4_stock 89 = .ok (.iload_n 1, 1) := by decide +kernel
theorem dX4_stock_90 : decode cX4_stock 90 = .ok (.ireturn, 1) := by decide +kernel
theorem dX4_stockByFlow_0 : decode cX4_stockByFlow 0 = .ok (.aload_n 0, 1) := by decide +kernel
theorem dX4_stockByFlow_1 : decode cX4_stockByFlow 1 = .ok (.iconst 0, 1) := by decide +kernel
theorem dX4_stockByFlow_2 : decode cX4_stockByFlow 2 = .ok (.putfield 74, 3) := by decide +kernel
theorem dX4_stockByFlow_5 : decode cX4_stockByFlow 5 = .ok (.aload_n 0, 1) := by decide +kernel
theorem dX4_stockByFlow_6 : decode cX4_stockByFlow 6 = .ok (.getfield 89, 3) := by decide +kernel
theorem dX4_stockByFlow_9 : decode cX4_stockByFlow 9 = .ok (.aload_n 0, 1) := by decide +kernel
theorem dX4_stockByFlow_10 : decode cX4_stockByFlow 10 = .ok (.getfield 117, 3) := by decide +kernel
theorem dX4_stockByFlow_13 : decode cX4_stockByFlow 13 = .ok (.isub, 1) := by decide +kernel
theorem dX4_stockByFlow_14 : decode cX4_stockByFlow 14 = .ok (.ireturn, 1) := by decide +kernel
