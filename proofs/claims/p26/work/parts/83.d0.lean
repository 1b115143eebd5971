theorem dL_low_0 : decode cL_low 0 = .ok (.iload_n 0, 1) := by decide +kernel
theorem dL_low_1 : decode cL_low 1 = .ok (.ldc 7, 2) := by decide +kernel
theorem dL_low_3 : decode cL_low 3 = .ok (.iand, 1) := by decide +kernel
theorem dL_low_4 : decode cL_low 4 = .ok (.iload_n 1, 1) := by decide +kernel
theorem dL_low_5 : decode cL_low 5 = .ok (.irem, 1) := by decide +kernel
theorem dL_low_6 : decode cL_low 6 = .ok (.ireturn, 1) := by decide +kernel
theorem dL_cell_0 : decode cL_cell 0 = .ok (.iload_n 1, 1) := by decide +kernel
theorem dL_cell_1 : decode cL_cell 1 = .ok (.aload_n 0, 1) := by decide +kernel
theorem dL_cell_2 : decode cL_cell 2 = .ok (.arraylength, 1) := by decide +kernel
theorem dL_cell_3 : decode cL_cell 3 = .ok (.if_icmp .ge 9, 3) := by decide +kernel
theorem dL_cell_6 : decode cL_cell 6 = .ok (.aload_n 0, 1) := by decide +kernel
theorem dL_cell_7 : decode cL_cell 7 = .ok (.iload_n 1, 1) := by decide +kernel
theorem dL_cell_8 : decode cL_cell 8 = .ok (.iaload, 1) := by decide +kernel
theorem dL_cell_9 : decode cL_cell 9 = .ok (.goto 11, 3) := by decide +kernel
theorem dL_cell_12 : decode cL_cell 12 = .ok (.ldc 8, 2) := by decide +kernel
theorem dL_cell_14 : decode cL_cell 14 = .ok (.iload_n 1, 1) := by decide +kernel
theorem dL_cell_15 : decode cL_cell 15 = .ok (.imul, 1) := by decide +kernel
theorem dL_cell_16 : decode cL_cell 16 = .ok (.sipush 977, 3) := by decide +kernel
theorem dL_cell_19 : decode cL_cell 19 = .ok (.iadd, 1) := by decide +kernel
theorem dL_cell_20 : decode cL_cell 20 = .ok (.ireturn, 1) := by decide +kernel
theorem dL_undo_0 : decode cL_undo 0 = .ok (.aload_n 0, 1) := by decide +kernel
theorem dL_undo_1 : decode cL_undo 1 = .ok (.invokevirtual 9, 3) := by decide +kernel
theorem dL_undo_4 : decode cL_undo 4 = .ok (.ireturn, 1) := by decide +kernel
theorem dL_undo_5 : decode cL_undo 5 = .ok (.astore_n 1, 1) := by decide +kernel
theorem dL_undo_6 : decode cL_undo 6 = .ok (.bipush (-3), 2) := by decide +kernel
theorem dL_undo_8 : decode cL_undo 8 = .ok (.ireturn, 1) := by decide +kernel
theorem dL_number_0 : decode cL_number 0 = .ok (.aload_n 0, 1) := by decide +kernel
theorem dL_number_1 : decode cL_number 1 = .ok (.iload_n 1, 1) := by decide +kernel
theorem dL_number_2 : decode cL_number 2 = .ok (.iload_n 2, 1) := by decide +kernel
theorem dL_number_3 : decode cL_number 3 = .ok (.iload_n 3, 1) := by decide +kernel
theorem dL_number_4 : decode cL_number 4 = .ok (.invokevirtual 17, 3) := by decide +kernel
theorem dL_number_7 : decode cL_number 7 = .ok (.ireturn, 1) := by decide +kernel
theorem dL_number_8 : decode cL_number 8 = .ok (.astore 4, 2) := by decide +kernel
theorem dL_number_10 : decode cL_number 10 = .ok (.bipush (-2), 2) := by decide +kernel
theorem dL_number_12 : decode cL_number 12 = .ok (.ireturn, 1) := by decide +kernel
theorem dL_ones_0 : decode cL_ones 0 = .ok (.iconst 0, 1) := by decide +kernel
theorem dL_ones_1 : decode cL_ones 1 = .ok (.istore_n 1, 1) := by decide +kernel
theorem dL_ones_2 : decode cL_ones 2 = .ok (.iload_n 0, 1) := by decide +kernel
theorem dL_ones_3 : decode cL_ones 3 = .ok (.istore_n 2, 1) := by decide +kernel
theorem dL_ones_4 : decode cL_ones 4 = .ok (.iload_n 2, 1) := by decide +kernel
theorem dL_ones_5 : decode cL_ones 5 = .ok (.ifCond .eq 15, 3) := by decide +kernel
theorem dL_ones_8 : decode cL_ones 8 = .ok (.iinc 1 1, 3) := by decide +kernel
theorem dL_ones_11 : decode cL_ones 11 = .ok (.iload_n 2, 1) := by decide +kernel
theorem dL_ones_12 : decode cL_ones 12 = .ok (.iload_n 2, 1) := by decide +kernel
theorem dL_ones_13 : decode cL_ones 13 = .ok (.iconst 1, 1) := by decide +kernel
theorem dL_ones_14 : decode cL_ones 14 = .ok (.isub, 1) := by decide +kernel
theorem dL_ones_15 : decode cL_ones 15 = .ok (.iand, 1) := by decide +kernel
theorem dL_ones_16 : decode cL_ones 16 = .ok (.istore_n 2, 1) := by decide +kernel
theorem dL_ones_17 : decode cL_ones 17 = .ok (.goto (-13), 3) := by decide +kernel
theorem dL_ones_20 : decode cL_ones 20 = .ok (.iload_n 1, 1) := by decide +kernel
theorem dL_ones_21 : decode cL_ones 21 = .ok (.ireturn, 1) := by decide +kernel
theorem dL_digit_0 : decode cL_digit 0 = .ok (.iconst 0, 1) := by decide +kernel
theorem dL_digit_1 : decode cL_digit 1 = .ok (.istore_n 2, 1) := by decide +kernel
theorem dL_digit_2 : decode cL_digit 2 = .ok (.iconst 1, 1) := by decide +kernel
theorem dL_digit_3 : decode cL_digit 3 = .ok (.istore_n 3, 1) := by decide +kernel
theorem dL_digit_4 : decode cL_digit 4 = .ok (.iconst 0, 1) := by decide +kernel
theorem dL_digit_5 : decode cL_digit 5 = .ok (.istore 4, 2) := by decide +kernel
theorem dL_digit_7 : decode cL_digit 7 = .ok (.iload 4, 2) := by decide +kernel
theorem dL_digit_9 : decode cL_digit 9 = .ok (.bipush 7, 2) := by decide +kernel
theorem dL_digit_11 : decode cL_digit 11 = .ok (.if_icmp .ge 56, 3) := by decide +kernel
theorem dL_digit_14 : decode cL_digit 14 = .ok (.iload_n 3, 1) := by decide +kernel
theorem dL_digit_15 : decode cL_digit 15 = .ok (.ifCond .eq 52, 3) := by decide +kernel
theorem dL_digit_18 : decode cL_digit 18 = .ok (.iload_n 2, 1) := by decide +kernel
theorem dL_digit_19 : decode cL_digit 19 = .ok (.aload_n 0, 1) := by decide +kernel
theorem dL_digit_20 : decode cL_digit 20 = .ok (.iload_n 1, 1) := by decide +kernel
theorem dL_digit_21 : decode cL_digit 21 = .ok (.iload 4, 2) := by decide +kernel
theorem dL_digit_23 : decode cL_digit 23 = .ok (.invokevirtual 23, 3) := by decide +kernel
theorem dL_digit_26 : decode cL_digit 26 = .ok (.iadd, 1) := by decide +kernel
theorem dL_digit_27 : decode cL_digit 27 = .ok (.istore_n 2, 1) := by decide +kernel
theorem dL_digit_28 : decode cL_digit 28 = .ok (.aload_n 0, 1) := by decide +kernel
theorem dL_digit_29 : decode cL_digit 29 = .ok (.iload_n 1, 1) := by decide +kernel
theorem dL_digit_30 : decode cL_digit 30 = .ok (.iload 4, 2) := by decide +kernel
theorem dL_digit_32 : decode cL_digit 32 = .ok (.invokevirtual 23, 3) := by decide +kernel
theorem dL_digit_35 : decode cL_digit 35 = .ok (.ifCond .lt 24, 3) := by decide +kernel
theorem dL_digit_38 : decode cL_digit 38 = .ok (.aload_n 0, 1) := by decide +kernel
theorem dL_digit_39 : decode cL_digit 39 = .ok (.iload_n 1, 1) := by decide +kernel
theorem dL_digit_40 : decode cL_digit 40 = .ok (.iload 4, 2) := by decide +kernel
theorem dL_digit_42 : decode cL_digit 42 = .ok (.invokevirtual 23, 3) := by decide +kernel
theorem dL_digit_45 : decode cL_digit 45 = .ok (.aload_n 0, 1) := by decide +kernel
theorem dL_digit_46 : decode cL_digit 46 = .ok (.iload_n 1, 1) := by decide +kernel
theorem dL_digit_47 : decode cL_digit 47 = .ok (.bipush 11, 2) := by decide +kernel
theorem dL_digit_49 : decode cL_digit 49 = .ok (.invokevirtual 27, 3) := by decide +kernel
theorem dL_digit_52 : decode cL_digit 52 = .ok (.if_icmp .gt 7, 3) := by decide +kernel
theorem dL_digit_55 : decode cL_digit 55 = .ok (.iconst 1, 1) := by decide +kernel
theorem dL_digit_56 : decode cL_digit 56 = .ok (.goto 4, 3) := by decide +kernel
theorem dL_digit_59 : decode cL_digit 59 = .ok (.iconst 0, 1) := by decide +kernel
theorem dL_digit_60 : decode cL_digit 60 = .ok (.istore_n 3, 1) := by decide +kernel
theorem dL_digit_61 : decode cL_digit 61 = .ok (.iinc 4 1, 3) := by decide +kernel
theorem dL_digit_64 : decode cL_digit 64 = .ok (.goto (-57), 3) := by decide +kernel
theorem dL_digit_67 : decode cL_digit 67 = .ok (.iload_n 3, 1) := by decide +kernel
theorem dL_digit_68 : decode cL_digit 68 = .ok (.ifCond .eq 63, 3) := by decide +kernel
theorem dL_digit_71 : decode cL_digit 71 = .ok (.iload_n 2, 1) := by decide +kernel
theorem dL_digit_72 : decode cL_digit 72 = .ok (.bipush 7, 2) := by decide +kernel
theorem dL_digit_74 : decode cL_digit 74 = .ok (.aload_n 0, 1) := by decide +kernel
theorem dL_digit_75 : decode cL_digit 75 = .ok (.iload_n 1, 1) := by decide +kernel
theorem dL_digit_76 : decode cL_digit 76 = .ok (.bipush 11, 2) := by decide +kernel
theorem dL_digit_78 : decode cL_digit 78 = .ok (.invokevirtual 27, 3) := by decide +kernel
theorem dL_digit_81 : decode cL_digit 81 = .ok (.imul, 1) := by decide +kernel
theorem dL_digit_82 : decode cL_digit 82 = .ok (.if_icmp .gt 49, 3) := by decide +kernel
theorem dL_digit_85 : decode cL_digit 85 = .ok (.aload_n 0, 1) := by decide +kernel
theorem dL_digit_86 : decode cL_digit 86 = .ok (.iload_n 1, 1) := by decide +kernel
theorem dL_digit_87 : decode cL_digit 87 = .ok (.bipush 11, 2) := by decide +kernel
theorem dL_digit_89 : decode cL_digit 89 = .ok (.invokevirtual 27, 3) := by decide +kernel
theorem dL_digit_92 : decode cL_digit 92 = .ok (.aload_n 0, 1) := by decide +kernel
theorem dL_digit_93 : decode cL_digit 93 = .ok (.iconst 0, 1) := by decide +kernel
theorem dL_digit_94 : decode cL_digit 94 = .ok (.invokevirtual 30, 3) := by decide +kernel
theorem dL_digit_97 : decode cL_digit 97 = .ok (.if_icmp .gt 34, 3) := by decide +kernel
theorem dL_digit_100 : decode cL_digit 100 = .ok (.aload_n 0, 1) := by decide +kernel
theorem dL_digit_101 : decode cL_digit 101 = .ok (.iload_n 1, 1) := by decide +kernel
theorem dL_digit_102 : decode cL_digit 102 = .ok (.iconst 1, 1) := by decide +kernel
theorem dL_digit_103 : decode cL_digit 103 = .ok (.invokevirtual 27, 3) := by decide +kernel
theorem dL_digit_106 : decode cL_digit 106 = .ok (.ifCond .gt 21, 3) := by decide +kernel
theorem dL_digit_109 : decode cL_digit 109 = .ok (.aload_n 0, 1) := by decide +kernel
theorem dL_digit_110 : decode cL_digit 110 = .ok (.iload_n 1, 1) := by decide +kernel
theorem dL_digit_111 : decode cL_digit 111 = .ok (.iconst 5, 1) := by decide +kernel
theorem dL_digit_112 : decode cL_digit 112 = .ok (.invokevirtual 27, 3) := by decide +kernel
theorem dL_digit_115 : decode cL_digit 115 = .ok (.ifCond .ne 16, 3) := by decide +kernel
theorem dL_digit_118 : decode cL_digit 118 = .ok (.aload_n 0, 1) := by decide +kernel
theorem dL_digit_119 : decode cL_digit 119 = .ok (.iload_n 1, 1) := by decide +kernel
theorem dL_digit_120 : decode cL_digit 120 = .ok (.iconst 4, 1) := by decide +kernel
theorem dL_digit_121 : decode cL_digit 121 = .ok (.invokevirtual 27, 3) := by decide +kernel
theorem dL_digit_124 : decode cL_digit 124 = .ok (.ifCond .gt 7, 3) := by decide +kernel
theorem dL_digit_127 : decode cL_digit 127 = .ok (.iconst 1, 1) := by decide +kernel
theorem dL_digit_128 : decode cL_digit 128 = .ok (.goto 4, 3) := by decide +kernel
theorem dL_digit_131 : decode cL_digit 131 = .ok (.iconst 0, 1) := by decide +kernel
theorem dL_digit_132 : decode cL_digit 132 = .ok (.istore_n 3, 1) := by decide +kernel
theorem dL_digit_133 : decode cL_digit 133 = .ok (.iload_n 3, 1) := by decide +kernel
theorem dL_digit_134 : decode cL_digit 134 = .ok (.ifCond .eq 74, 3) := by decide +kernel
theorem dL_digit_137 : decode cL_digit 137 = .ok (.aload_n 0, 1) := by decide +kernel
theorem dL_digit_138 : decode cL_digit 138 = .ok (.iload_n 1, 1) := by decide +kernel
theorem dL_digit_139 : decode cL_digit 139 = .ok (.bipush 10, 2) := by decide +kernel
theorem dL_digit_141 : decode cL_digit 141 = .ok (.invokevirtual 27, 3) := by decide +kernel
theorem dL_digit_144 : decode cL_digit 144 = .ok (.aload_n 0, 1) := by decide +kernel
theorem dL_digit_145 : decode cL_digit 145 = .ok (.iload_n 1, 1) := by decide +kernel
theorem dL_digit_146 : decode cL_digit 146 = .ok (.iconst 0, 1) := by decide +kernel
theorem dL_digit_147 : decode cL_digit 147 = .ok (.invokevirtual 27, 3) := by decide +kernel
theorem dL_digit_150 : decode cL_digit 150 = .ok (.ishr, 1) := by decide +kernel
theorem dL_digit_151 : decode cL_digit 151 = .ok (.iconst 1, 1) := by decide +kernel
theorem dL_digit_152 : decode cL_digit 152 = .ok (.iand, 1) := by decide +kernel
theorem dL_digit_153 : decode cL_digit 153 = .ok (.iconst 1, 1) := by decide +kernel
