/-! the law's instructions -/
theorem dL_cell_0 : decode cL_cell 0 = .ok (.iload_n 1, 1) := by decide +kernel
theorem dL_cell_1 : decode cL_cell 1 = .ok (.aload_n 0, 1) := by decide +kernel
theorem dL_cell_2 : decode cL_cell 2 = .ok (.arraylength, 1) := by decide +kernel
theorem dL_cell_3 : decode cL_cell 3 = .ok (.if_icmp .ge 9, 3) := by decide +kernel
theorem dL_cell_6 : decode cL_cell 6 = .ok (.aload_n 0, 1) := by decide +kernel
theorem dL_cell_7 : decode cL_cell 7 = .ok (.iload_n 1, 1) := by decide +kernel
theorem dL_cell_8 : decode cL_cell 8 = .ok (.iaload, 1) := by decide +kernel
theorem dL_cell_9 : decode cL_cell 9 = .ok (.goto 11, 3) := by decide +kernel
theorem dL_cell_12 : decode cL_cell 12 = .ok (.ldc 7, 2) := by decide +kernel
theorem dL_cell_14 : decode cL_cell 14 = .ok (.iload_n 1, 1) := by decide +kernel
theorem dL_cell_15 : decode cL_cell 15 = .ok (.imul, 1) := by decide +kernel
theorem dL_cell_16 : decode cL_cell 16 = .ok (.sipush 263, 3) := by decide +kernel
theorem dL_cell_19 : decode cL_cell 19 = .ok (.iadd, 1) := by decide +kernel
theorem dL_cell_20 : decode cL_cell 20 = .ok (.ldc 8, 2) := by decide +kernel
theorem dL_cell_22 : decode cL_cell 22 = .ok (.iand, 1) := by decide +kernel
theorem dL_cell_23 : decode cL_cell 23 = .ok (.ireturn, 1) := by decide +kernel
theorem dL_draws_0 : decode cL_draws 0 = .ok (.aload_n 0, 1) := by decide +kernel
theorem dL_draws_1 : decode cL_draws 1 = .ok (.iconst 0, 1) := by decide +kernel
theorem dL_draws_2 : decode cL_draws 2 = .ok (.iload_n 1, 1) := by decide +kernel
theorem dL_draws_3 : decode cL_draws 3 = .ok (.invokevirtual 9, 3) := by decide +kernel
theorem dL_draws_6 : decode cL_draws 6 = .ok (.lconst 0, 1) := by decide +kernel
theorem dL_draws_7 : decode cL_draws 7 = .ok (.lcmp, 1) := by decide +kernel
theorem dL_draws_8 : decode cL_draws 8 = .ok (.ifCond .ne 28, 3) := by decide +kernel
theorem dL_draws_11 : decode cL_draws 11 = .ok (.aload_n 0, 1) := by decide +kernel
theorem dL_draws_12 : decode cL_draws 12 = .ok (.iload_n 1, 1) := by decide +kernel
theorem dL_draws_13 : decode cL_draws 13 = .ok (.iconst 0, 1) := by decide +kernel
theorem dL_draws_14 : decode cL_draws 14 = .ok (.iload 4, 2) := by decide +kernel
theorem dL_draws_16 : decode cL_draws 16 = .ok (.iconst 2, 1) := by decide +kernel
theorem dL_draws_17 : decode cL_draws 17 = .ok (.iload_n 3, 1) := by decide +kernel
theorem dL_draws_18 : decode cL_draws 18 = .ok (.imul, 1) := by decide +kernel
theorem dL_draws_19 : decode cL_draws 19 = .ok (.iconst 1, 1) := by decide +kernel
theorem dL_draws_20 : decode cL_draws 20 = .ok (.iadd, 1) := by decide +kernel
theorem dL_draws_21 : decode cL_draws 21 = .ok (.irem, 1) := by decide +kernel
theorem dL_draws_22 : decode cL_draws 22 = .ok (.iload_n 3, 1) := by decide +kernel
theorem dL_draws_23 : decode cL_draws 23 = .ok (.isub, 1) := by decide +kernel
theorem dL_draws_24 : decode cL_draws 24 = .ok (.invokevirtual 15, 3) := by decide +kernel
theorem dL_draws_27 : decode cL_draws 27 = .ok (.lconst 0, 1) := by decide +kernel
theorem dL_draws_28 : decode cL_draws 28 = .ok (.lcmp, 1) := by decide +kernel
theorem dL_draws_29 : decode cL_draws 29 = .ok (.ifCond .ne 7, 3) := by decide +kernel
theorem dL_draws_32 : decode cL_draws 32 = .ok (.iconst 1, 1) := by decide +kernel
theorem dL_draws_33 : decode cL_draws 33 = .ok (.goto 4, 3) := by decide +kernel
theorem dL_draws_36 : decode cL_draws 36 = .ok (.iconst 0, 1) := by decide +kernel
theorem dL_draws_37 : decode cL_draws 37 = .ok (.istore 5, 2) := by decide +kernel
theorem dL_draws_39 : decode cL_draws 39 = .ok (.iload 4, 2) := by decide +kernel
theorem dL_draws_41 : decode cL_draws 41 = .ok (.istore 6, 2) := by decide +kernel
theorem dL_draws_43 : decode cL_draws 43 = .ok (.iconst 1, 1) := by decide +kernel
theorem dL_draws_44 : decode cL_draws 44 = .ok (.istore 7, 2) := by decide +kernel
theorem dL_draws_46 : decode cL_draws 46 = .ok (.iload 7, 2) := by decide +kernel
theorem dL_draws_48 : decode cL_draws 48 = .ok (.iload_n 2, 1) := by decide +kernel
theorem dL_draws_49 : decode cL_draws 49 = .ok (.if_icmp .gt 73, 3) := by decide +kernel
theorem dL_draws_52 : decode cL_draws 52 = .ok (.iload 5, 2) := by decide +kernel
theorem dL_draws_54 : decode cL_draws 54 = .ok (.ifCond .eq 68, 3) := by decide +kernel
theorem dL_draws_57 : decode cL_draws 57 = .ok (.iload 6, 2) := by decide +kernel
theorem dL_draws_59 : decode cL_draws 59 = .ok (.ldc 19, 2) := by decide +kernel
theorem dL_draws_61 : decode cL_draws 61 = .ok (.imul, 1) := by decide +kernel
theorem dL_draws_62 : decode cL_draws 62 = .ok (.sipush 12345, 3) := by decide +kernel
theorem dL_draws_65 : decode cL_draws 65 = .ok (.iadd, 1) := by decide +kernel
theorem dL_draws_66 : decode cL_draws 66 = .ok (.ldc 8, 2) := by decide +kernel
theorem dL_draws_68 : decode cL_draws 68 = .ok (.iand, 1) := by decide +kernel
theorem dL_draws_69 : decode cL_draws 69 = .ok (.istore 6, 2) := by decide +kernel
theorem dL_draws_71 : decode cL_draws 71 = .ok (.aload_n 0, 1) := by decide +kernel
theorem dL_draws_72 : decode cL_draws 72 = .ok (.iload_n 1, 1) := by decide +kernel
theorem dL_draws_73 : decode cL_draws 73 = .ok (.iload 7, 2) := by decide +kernel
theorem dL_draws_75 : decode cL_draws 75 = .ok (.iload 6, 2) := by decide +kernel
theorem dL_draws_77 : decode cL_draws 77 = .ok (.iconst 5, 1) := by decide +kernel
theorem dL_draws_78 : decode cL_draws 78 = .ok (.irem, 1) := by decide +kernel
theorem dL_draws_79 : decode cL_draws 79 = .ok (.ifCond .ne 13, 3) := by decide +kernel
theorem dL_draws_82 : decode cL_draws 82 = .ok (.iload 7, 2) := by decide +kernel
theorem dL_draws_84 : decode cL_draws 84 = .ok (.iload_n 2, 1) := by decide +kernel
theorem dL_draws_85 : decode cL_draws 85 = .ok (.if_icmp .ge 7, 3) := by decide +kernel
theorem dL_draws_88 : decode cL_draws 88 = .ok (.iconst 0, 1) := by decide +kernel
theorem dL_draws_89 : decode cL_draws 89 = .ok (.goto 12, 3) := by decide +kernel
theorem dL_draws_92 : decode cL_draws 92 = .ok (.iconst 1, 1) := by decide +kernel
theorem dL_draws_93 : decode cL_draws 93 = .ok (.iload 6, 2) := by decide +kernel
theorem dL_draws_95 : decode cL_draws 95 = .ok (.bipush 8, 2) := by decide +kernel
theorem dL_draws_97 : decode cL_draws 97 = .ok (.ishr, 1) := by decide +kernel
theorem dL_draws_98 : decode cL_draws 98 = .ok (.iload_n 3, 1) := by decide +kernel
theorem dL_draws_99 : decode cL_draws 99 = .ok (.irem, 1) := by decide +kernel
theorem dL_draws_100 : decode cL_draws 100 = .ok (.iadd, 1) := by decide +kernel
theorem dL_draws_101 : decode cL_draws 101 = .ok (.invokevirtual 15, 3) := by decide +kernel
theorem dL_draws_104 : decode cL_draws 104 = .ok (.lconst 0, 1) := by decide +kernel
theorem dL_draws_105 : decode cL_draws 105 = .ok (.lcmp, 1) := by decide +kernel
theorem dL_draws_106 : decode cL_draws 106 = .ok (.ifCond .lt 7, 3) := by decide +kernel
theorem dL_draws_109 : decode cL_draws 109 = .ok (.iconst 1, 1) := by decide +kernel
theorem dL_draws_110 : decode cL_draws 110 = .ok (.goto 4, 3) := by decide +kernel
theorem dL_draws_113 : decode cL_draws 113 = .ok (.iconst 0, 1) := by decide +kernel
theorem dL_draws_114 : decode cL_draws 114 = .ok (.istore 5, 2) := by decide +kernel
theorem dL_draws_116 : decode cL_draws 116 = .ok (.iinc 7 1, 3) := by decide +kernel
theorem dL_draws_119 : decode cL_draws 119 = .ok (.goto (-73), 3) := by decide +kernel
theorem dL_draws_122 : decode cL_draws 122 = .ok (.iload 5, 2) := by decide +kernel
theorem dL_draws_124 : decode cL_draws 124 = .ok (.ifCond .eq 18, 3) := by decide +kernel
theorem dL_draws_127 : decode cL_draws 127 = .ok (.aload_n 0, 1) := by decide +kernel
theorem dL_draws_128 : decode cL_draws 128 = .ok (.iload_n 1, 1) := by decide +kernel
theorem dL_draws_129 : decode cL_draws 129 = .ok (.invokevirtual 20, 3) := by decide +kernel
theorem dL_draws_132 : decode cL_draws 132 = .ok (.iload_n 2, 1) := by decide +kernel
theorem dL_draws_133 : decode cL_draws 133 = .ok (.i2l, 1) := by decide +kernel
theorem dL_draws_134 : decode cL_draws 134 = .ok (.lcmp, 1) := by decide +kernel
theorem dL_draws_135 : decode cL_draws 135 = .ok (.ifCond .ne 7, 3) := by decide +kernel
theorem dL_draws_138 : decode cL_draws 138 = .ok (.iconst 1, 1) := by decide +kernel
theorem dL_draws_139 : decode cL_draws 139 = .ok (.goto 4, 3) := by decide +kernel
theorem dL_draws_142 : decode cL_draws 142 = .ok (.iconst 0, 1) := by decide +kernel
theorem dL_draws_143 : decode cL_draws 143 = .ok (.ireturn, 1) := by decide +kernel
theorem dL_areBasics_0 : decode cL_areBasics 0 = .ok (.aload_n 0, 1) := by decide +kernel
theorem dL_areBasics_1 : decode cL_areBasics 1 = .ok (.iload_n 1, 1) := by decide +kernel
theorem dL_areBasics_2 : decode cL_areBasics 2 = .ok (.iconst 0, 1) := by decide +kernel
theorem dL_areBasics_3 : decode cL_areBasics 3 = .ok (.invokevirtual 9, 3) := by decide +kernel
theorem dL_areBasics_6 : decode cL_areBasics 6 = .ok (.iload_n 1, 1) := by decide +kernel
theorem dL_areBasics_7 : decode cL_areBasics 7 = .ok (.i2l, 1) := by decide +kernel
theorem dL_areBasics_8 : decode cL_areBasics 8 = .ok (.lcmp, 1) := by decide +kernel
theorem dL_areBasics_9 : decode cL_areBasics 9 = .ok (.ifCond .ne 70, 3) := by decide +kernel
theorem dL_areBasics_12 : decode cL_areBasics 12 = .ok (.aload_n 0, 1) := by decide +kernel
theorem dL_areBasics_13 : decode cL_areBasics 13 = .ok (.iload_n 2, 1) := by decide +kernel
theorem dL_areBasics_14 : decode cL_areBasics 14 = .ok (.iconst 1, 1) := by decide +kernel
theorem dL_areBasics_15 : decode cL_areBasics 15 = .ok (.invokevirtual 9, 3) := by decide +kernel
theorem dL_areBasics_18 : decode cL_areBasics 18 = .ok (.iload_n 2, 1) := by decide +kernel
theorem dL_areBasics_19 : decode cL_areBasics 19 = .ok (.i2l, 1) := by decide +kernel
theorem dL_areBasics_20 : decode cL_areBasics 20 = .ok (.lcmp, 1) := by decide +kernel
theorem dL_areBasics_21 : decode cL_areBasics 21 = .ok (.ifCond .ne 58, 3) := by decide +kernel
theorem dL_areBasics_24 : decode cL_areBasics 24 = .ok (.aload_n 0, 1) := by decide +kernel
theorem dL_areBasics_25 : decode cL_areBasics 25 = .ok (.iconst 0, 1) := by decide +kernel
theorem dL_areBasics_26 : decode cL_areBasics 26 = .ok (.invokevirtual 20, 3) := by decide +kernel
theorem dL_areBasics_29 : decode cL_areBasics 29 = .ok (.iload_n 1, 1) := by decide +kernel
theorem dL_areBasics_30 : decode cL_areBasics 30 = .ok (.i2l, 1) := by decide +kernel
theorem dL_areBasics_31 : decode cL_areBasics 31 = .ok (.lcmp, 1) := by decide +kernel
theorem dL_areBasics_32 : decode cL_areBasics 32 = .ok (.ifCond .ne 47, 3) := by decide +kernel
theorem dL_areBasics_35 : decode cL_areBasics 35 = .ok (.aload_n 0, 1) := by decide +kernel
theorem dL_areBasics_36 : decode cL_areBasics 36 = .ok (.iconst 0, 1) := by decide +kernel
theorem dL_areBasics_37 : decode cL_areBasics 37 = .ok (.ldc 24, 2) := by decide +kernel
theorem dL_areBasics_39 : decode cL_areBasics 39 = .ok (.invokevirtual 25, 3) := by decide +kernel
theorem dL_areBasics_42 : decode cL_areBasics 42 = .ok (.ldc2_w 28, 3) := by decide +kernel
theorem dL_areBasics_45 : decode cL_areBasics 45 = .ok (.lcmp, 1) := by decide +kernel
theorem dL_areBasics_46 : decode cL_areBasics 46 = .ok (.ifCond .ne 33, 3) := by decide +kernel
theorem dL_areBasics_49 : decode cL_areBasics 49 = .ok (.aload_n 0, 1) := by decide +kernel
theorem dL_areBasics_50 : decode cL_areBasics 50 = .ok (.iconst 0, 1) := by decide +kernel
theorem dL_areBasics_51 : decode cL_areBasics 51 = .ok (.ldc 30, 2) := by decide +kernel
theorem dL_areBasics_53 : decode cL_areBasics 53 = .ok (.invokevirtual 25, 3) := by decide +kernel
theorem dL_areBasics_56 : decode cL_areBasics 56 = .ok (.iload_n 1, 1) := by decide +kernel
theorem dL_areBasics_57 : decode cL_areBasics 57 = .ok (.iconst 2, 1) := by decide +kernel
theorem dL_areBasics_58 : decode cL_areBasics 58 = .ok (.irem, 1) := by decide +kernel
theorem dL_areBasics_59 : decode cL_areBasics 59 = .ok (.ifCond .ne 9, 3) := by decide +kernel
theorem dL_areBasics_62 : decode cL_areBasics 62 = .ok (.ldc2_w 28, 3) := by decide +kernel
theorem dL_areBasics_65 : decode cL_areBasics 65 = .ok (.goto 6, 3) := by decide +kernel
theorem dL_areBasics_68 : decode cL_areBasics 68 = .ok (.ldc2_w 31, 3) := by decide +kernel
theorem dL_areBasics_71 : decode cL_areBasics 71 = .ok (.lcmp, 1) := by decide +kernel
theorem dL_areBasics_72 : decode cL_areBasics 72 = .ok (.ifCond .ne 7, 3) := by decide +kernel
theorem dL_areBasics_75 : decode cL_areBasics 75 = .ok (.iconst 1, 1) := by decide +kernel
theorem dL_areBasics_76 : decode cL_areBasics 76 = .ok (.goto 4, 3) := by decide +kernel
theorem dL_areBasics_79 : decode cL_areBasics 79 = .ok (.iconst 0, 1) := by decide +kernel
theorem dL_areBasics_80 : decode cL_areBasics 80 = .ok (.istore_n 3, 1) := by decide +kernel
theorem dL_areBasics_81 : decode cL_areBasics 81 = .ok (.iload_n 1, 1) := by decide +kernel
theorem dL_areBasics_82 : decode cL_areBasics 82 = .ok (.iload_n 2, 1) := by decide +kernel
theorem dL_areBasics_83 : decode cL_areBasics 83 = .ok (.if_icmp .le 9, 3) := by decide +kernel
theorem dL_areBasics_86 : decode cL_areBasics 86 = .ok (.iload_n 1, 1) := by decide +kernel
theorem dL_areBasics_87 : decode cL_areBasics 87 = .ok (.iload_n 2, 1) := by decide +kernel
theorem dL_areBasics_88 : decode cL_areBasics 88 = .ok (.isub, 1) := by decide +kernel
theorem dL_areBasics_89 : decode cL_areBasics 89 = .ok (.goto 6, 3) := by decide +kernel
theorem dL_areBasics_92 : decode cL_areBasics 92 = .ok (.iload_n 2, 1) := by decide +kernel
theorem dL_areBasics_93 : decode cL_areBasics 93 = .ok (.iload_n 1, 1) := by decide +kernel
theorem dL_areBasics_94 : decode cL_areBasics 94 = .ok (.isub, 1) := by decide +kernel
theorem dL_areBasics_95 : decode cL_areBasics 95 = .ok (.istore 4, 2) := by decide +kernel
theorem dL_areBasics_97 : decode cL_areBasics 97 = .ok (.iload_n 1, 1) := by decide +kernel
theorem dL_areBasics_98 : decode cL_areBasics 98 = .ok (.iload_n 2, 1) := by decide +kernel
theorem dL_areBasics_99 : decode cL_areBasics 99 = .ok (.iadd, 1) := by decide +kernel
theorem dL_areBasics_100 : decode cL_areBasics 100 = .ok (.bipush 24, 2) := by decide +kernel
theorem dL_areBasics_102 : decode cL_areBasics 102 = .ok (.if_icmp .le 27, 3) := by decide +kernel
theorem dL_areBasics_105 : decode cL_areBasics 105 = .ok (.iload_n 3, 1) := by decide +kernel
theorem dL_areBasics_106 : decode cL_areBasics 106 = .ok (.ifCond .eq 21, 3) := by decide +kernel
theorem dL_areBasics_109 : decode cL_areBasics 109 = .ok (.aload_n 0, 1) := by decide +kernel
theorem dL_areBasics_110 : decode cL_areBasics 110 = .ok (.iconst 0, 1) := by decide +kernel
theorem dL_areBasics_111 : decode cL_areBasics 111 = .ok (.iconst 1, 1) := by decide +kernel
theorem dL_areBasics_112 : decode cL_areBasics 112 = .ok (.iconst 2, 1) := by decide +kernel
theorem dL_areBasics_113 : decode cL_areBasics 113 = .ok (.invokevirtual 33, 3) := by decide +kernel
theorem dL_areBasics_116 : decode cL_areBasics 116 = .ok (.ldc2_w 36, 3) := by decide +kernel
theorem dL_areBasics_119 : decode cL_areBasics 119 = .ok (.lcmp, 1) := by decide +kernel
theorem dL_areBasics_120 : decode cL_areBasics 120 = .ok (.ifCond .ne 7, 3) := by decide +kernel
theorem dL_areBasics_123 : decode cL_areBasics 123 = .ok (.iconst 1, 1) := by decide +kernel
theorem dL_areBasics_124 : decode cL_areBasics 124 = .ok (.goto 4, 3) := by decide +kernel
theorem dL_areBasics_127 : decode cL_areBasics 127 = .ok (.iconst 0, 1) := by decide +kernel
theorem dL_areBasics_128 : decode cL_areBasics 128 = .ok (.ireturn, 1) := by decide +kernel
theorem dL_areBasics_129 : decode cL_areBasics 129 = .ok (.iload_n 3, 1) := by decide +kernel
theorem dL_areBasics_130 : decode cL_areBasics 130 = .ok (.ifCond .eq 79, 3) := by decide +kernel
theorem dL_areBasics_133 : decode cL_areBasics 133 = .ok (.aload_n 0, 1) := by decide +kernel
theorem dL_areBasics_134 : decode cL_areBasics 134 = .ok (.iconst 0, 1) := by decide +kernel
theorem dL_areBasics_135 : decode cL_areBasics 135 = .ok (.iconst 1, 1) := by decide +kernel
theorem dL_areBasics_136 : decode cL_areBasics 136 = .ok (.iconst 2, 1) := by decide +kernel
theorem dL_areBasics_137 : decode cL_areBasics 137 = .ok (.invokevirtual 33, 3) := by decide +kernel
theorem dL_areBasics_140 : decode cL_areBasics 140 = .ok (.iload_n 1, 1) := by decide +kernel
theorem dL_areBasics_141 : decode cL_areBasics 141 = .ok (.iload_n 2, 1) := by decide +kernel
theorem dL_areBasics_142 : decode cL_areBasics 142 = .ok (.iadd, 1) := by decide +kernel
theorem dL_areBasics_143 : decode cL_areBasics 143 = .ok (.i2l, 1) := by decide +kernel
theorem dL_areBasics_144 : decode cL_areBasics 144 = .ok (.lcmp, 1) := by decide +kernel
theorem dL_areBasics_145 : decode cL_areBasics 145 = .ok (.ifCond .ne 64, 3) := by decide +kernel
theorem dL_areBasics_148 : decode cL_areBasics 148 = .ok (.aload_n 0, 1) := by decide +kernel
theorem dL_areBasics_149 : decode cL_areBasics 149 = .ok (.iconst 2, 1) := by decide +kernel
theorem dL_areBasics_150 : decode cL_areBasics 150 = .ok (.iload_n 1, 1) := by decide +kernel
theorem dL_areBasics_151 : decode cL_areBasics 151 = .ok (.iload_n 2, 1) := by decide +kernel
theorem dL_areBasics_152 : decode cL_areBasics 152 = .ok (.iadd, 1) := by decide +kernel
theorem dL_areBasics_153 : decode cL_areBasics 153 = .ok (.invokevirtual 38, 3) := by decide +kernel
theorem dL_areBasics_156 : decode cL_areBasics 156 = .ok (.iload 4, 2) := by decide +kernel
theorem dL_areBasics_158 : decode cL_areBasics 158 = .ok (.iload_n 1, 1) := by decide +kernel
theorem dL_areBasics_159 : decode cL_areBasics 159 = .ok (.iload_n 2, 1) := by decide +kernel
theorem dL_areBasics_160 : decode cL_areBasics 160 = .ok (.iadd, 1) := by decide +kernel
theorem dL_areBasics_161 : decode cL_areBasics 161 = .ok (.if_icmp .ne 9, 3) := by decide +kernel
theorem dL_areBasics_164 : decode cL_areBasics 164 = .ok (.ldc2_w 28, 3) := by decide +kernel
theorem dL_areBasics_167 : decode cL_areBasics 167 = .ok (.goto 6, 3) := by decide +kernel
theorem dL_areBasics_170 : decode cL_areBasics 170 = .ok (.ldc2_w 41, 3) := by decide +kernel
theorem dL_areBasics_173 : decode cL_areBasics 173 = .ok (.lcmp, 1) := by decide +kernel
theorem dL_areBasics_174 : decode cL_areBasics 174 = .ok (.ifCond .ne 35, 3) := by decide +kernel
theorem dL_areBasics_177 : decode cL_areBasics 177 = .ok (.aload_n 0, 1) := by decide +kernel
theorem dL_areBasics_178 : decode cL_areBasics 178 = .ok (.iconst 2, 1) := by decide +kernel
theorem dL_areBasics_179 : decode cL_areBasics 179 = .ok (.iload 4, 2) := by decide +kernel
theorem dL_areBasics_181 : decode cL_areBasics 181 = .ok (.invokevirtual 38, 3) := by decide +kernel
theorem dL_areBasics_184 : decode cL_areBasics 184 = .ok (.iload 4, 2) := by decide +kernel
theorem dL_areBasics_186 : decode cL_areBasics 186 = .ok (.iload_n 1, 1) := by decide +kernel
theorem dL_areBasics_187 : decode cL_areBasics 187 = .ok (.iload_n 2, 1) := by decide +kernel
theorem dL_areBasics_188 : decode cL_areBasics 188 = .ok (.iadd, 1) := by decide +kernel
theorem dL_areBasics_189 : decode cL_areBasics 189 = .ok (.if_icmp .ne 9, 3) := by decide +kernel
theorem dL_areBasics_192 : decode cL_areBasics 192 = .ok (.ldc2_w 28, 3) := by decide +kernel
theorem dL_areBasics_195 : decode cL_areBasics 195 = .ok (.goto 6, 3) := by decide +kernel
theorem dL_areBasics_198 : decode cL_areBasics 198 = .ok (.ldc2_w 41, 3) := by decide +kernel
theorem dL_areBasics_201 : decode cL_areBasics 201 = .ok (.lcmp, 1) := by decide +kernel
theorem dL_areBasics_202 : decode cL_areBasics 202 = .ok (.ifCond .ne 7, 3) := by decide +kernel
theorem dL_areBasics_205 : decode cL_areBasics 205 = .ok (.iconst 1, 1) := by decide +kernel
theorem dL_areBasics_206 : decode cL_areBasics 206 = .ok (.goto 4, 3) := by decide +kernel
theorem dL_areBasics_209 : decode cL_areBasics 209 = .ok (.iconst 0, 1) := by decide +kernel
theorem dL_areBasics_210 : decode cL_areBasics 210 = .ok (.istore_n 3, 1) := by decide +kernel
theorem dL_areBasics_211 : decode cL_areBasics 211 = .ok (.iload_n 3, 1) := by decide +kernel
theorem dL_areBasics_212 : decode cL_areBasics 212 = .ok (.ifCond .eq 105, 3) := by decide +kernel
theorem dL_areBasics_215 : decode cL_areBasics 215 = .ok (.iload_n 1, 1) := by decide +kernel
theorem dL_areBasics_216 : decode cL_areBasics 216 = .ok (.iload_n 2, 1) := by decide +kernel
theorem dL_areBasics_217 : decode cL_areBasics 217 = .ok (.imul, 1) := by decide +kernel
theorem dL_areBasics_218 : decode cL_areBasics 218 = .ok (.bipush 24, 2) := by decide +kernel
theorem dL_areBasics_220 : decode cL_areBasics 220 = .ok (.if_icmp .gt 45, 3) := by decide +kernel
theorem dL_areBasics_223 : decode cL_areBasics 223 = .ok (.aload_n 0, 1) := by decide +kernel
theorem dL_areBasics_224 : decode cL_areBasics 224 = .ok (.iconst 0, 1) := by decide +kernel
theorem dL_areBasics_225 : decode cL_areBasics 225 = .ok (.iconst 1, 1) := by decide +kernel
theorem dL_areBasics_226 : decode cL_areBasics 226 = .ok (.iconst 2, 1) := by decide +kernel
theorem dL_areBasics_227 : decode cL_areBasics 227 = .ok (.invokevirtual 43, 3) := by decide +kernel
theorem dL_areBasics_230 : decode cL_areBasics 230 = .ok (.iload_n 1, 1) := by decide +kernel
theorem dL_areBasics_231 : decode cL_areBasics 231 = .ok (.iload_n 2, 1) := by decide +kernel
theorem dL_areBasics_232 : decode cL_areBasics 232 = .ok (.imul, 1) := by decide +kernel
theorem dL_areBasics_233 : decode cL_areBasics 233 = .ok (.i2l, 1) := by decide +kernel
theorem dL_areBasics_234 : decode cL_areBasics 234 = .ok (.lcmp, 1) := by decide +kernel
theorem dL_areBasics_235 : decode cL_areBasics 235 = .ok (.ifCond .ne 82, 3) := by decide +kernel
theorem dL_areBasics_238 : decode cL_areBasics 238 = .ok (.aload_n 0, 1) := by decide +kernel
theorem dL_areBasics_239 : decode cL_areBasics 239 = .ok (.iconst 2, 1) := by decide +kernel
theorem dL_areBasics_240 : decode cL_areBasics 240 = .ok (.iload_n 1, 1) := by decide +kernel
theorem dL_areBasics_241 : decode cL_areBasics 241 = .ok (.iload_n 2, 1) := by decide +kernel
theorem dL_areBasics_242 : decode cL_areBasics 242 = .ok (.imul, 1) := by decide +kernel
theorem dL_areBasics_243 : decode cL_areBasics 243 = .ok (.invokevirtual 38, 3) := by decide +kernel
theorem dL_areBasics_246 : decode cL_areBasics 246 = .ok (.ldc2_w 28, 3) := by decide +kernel
theorem dL_areBasics_249 : decode cL_areBasics 249 = .ok (.lcmp, 1) := by decide +kernel
theorem dL_areBasics_250 : decode cL_areBasics 250 = .ok (.ifCond .ne 67, 3) := by decide +kernel
theorem dL_areBasics_253 : decode cL_areBasics 253 = .ok (.aload_n 0, 1) := by decide +kernel
theorem dL_areBasics_254 : decode cL_areBasics 254 = .ok (.iconst 2, 1) := by decide +kernel
theorem dL_areBasics_255 : decode cL_areBasics 255 = .ok (.invokevirtual 46, 3) := by decide +kernel
theorem dL_areBasics_258 : decode cL_areBasics 258 = .ok (.ldc2_w 28, 3) := by decide +kernel
theorem dL_areBasics_261 : decode cL_areBasics 261 = .ok (.lcmp, 1) := by decide +kernel
theorem dL_areBasics_262 : decode cL_areBasics 262 = .ok (.ifCond .ne 55, 3) := by decide +kernel
theorem dL_areBasics_265 : decode cL_areBasics 265 = .ok (.aload_n 0, 1) := by decide +kernel
theorem dL_areBasics_266 : decode cL_areBasics 266 = .ok (.iconst 0, 1) := by decide +kernel
theorem dL_areBasics_267 : decode cL_areBasics 267 = .ok (.iconst 1, 1) := by decide +kernel
theorem dL_areBasics_268 : decode cL_areBasics 268 = .ok (.invokevirtual 49, 3) := by decide +kernel
theorem dL_areBasics_271 : decode cL_areBasics 271 = .ok (.iload_n 1, 1) := by decide +kernel
theorem dL_areBasics_272 : decode cL_areBasics 272 = .ok (.iload_n 2, 1) := by decide +kernel
theorem dL_areBasics_273 : decode cL_areBasics 273 = .ok (.if_icmp .eq 7, 3) := by decide +kernel
theorem dL_areBasics_276 : decode cL_areBasics 276 = .ok (.lconst 0, 1) := by decide +kernel
theorem dL_areBasics_277 : decode cL_areBasics 277 = .ok (.goto 16, 3) := by decide +kernel
theorem dL_areBasics_280 : decode cL_areBasics 280 = .ok (.iload_n 1, 1) := by decide +kernel
theorem dL_areBasics_281 : decode cL_areBasics 281 = .ok (.ifCond .ne 9, 3) := by decide +kernel
theorem dL_areBasics_284 : decode cL_areBasics 284 = .ok (.ldc2_w 52, 3) := by decide +kernel
theorem dL_areBasics_287 : decode cL_areBasics 287 = .ok (.goto 6, 3) := by decide +kernel
theorem dL_areBasics_290 : decode cL_areBasics 290 = .ok (.ldc2_w 28, 3) := by decide +kernel
theorem dL_areBasics_293 : decode cL_areBasics 293 = .ok (.lcmp, 1) := by decide +kernel
theorem dL_areBasics_294 : decode cL_areBasics 294 = .ok (.ifCond .ne 23, 3) := by decide +kernel
theorem dL_areBasics_297 : decode cL_areBasics 297 = .ok (.iload_n 1, 1) := by decide +kernel
theorem dL_areBasics_298 : decode cL_areBasics 298 = .ok (.iload_n 2, 1) := by decide +kernel
theorem dL_areBasics_299 : decode cL_areBasics 299 = .ok (.if_icmp .eq 14, 3) := by decide +kernel
theorem dL_areBasics_302 : decode cL_areBasics 302 = .ok (.aload_n 0, 1) := by decide +kernel
theorem dL_areBasics_303 : decode cL_areBasics 303 = .ok (.iconst 0, 1) := by decide +kernel
theorem dL_areBasics_304 : decode cL_areBasics 304 = .ok (.iconst 1, 1) := by decide +kernel
theorem dL_areBasics_305 : decode cL_areBasics 305 = .ok (.invokevirtual 49, 3) := by decide +kernel
theorem dL_areBasics_308 : decode cL_areBasics 308 = .ok (.lconst 0, 1) := by decide +kernel
theorem dL_areBasics_309 : decode cL_areBasics 309 = .ok (.lcmp, 1) := by decide +kernel
theorem dL_areBasics_310 : decode cL_areBasics 310 = .ok (.ifCond .ne 7, 3) := by decide +kernel
theorem dL_areBasics_313 : decode cL_areBasics 313 = .ok (.iconst 1, 1) := by decide +kernel
theorem dL_areBasics_314 : decode cL_areBasics 314 = .ok (.goto 4, 3) := by decide +kernel
theorem dL_areBasics_317 : decode cL_areBasics 317 = .ok (.iconst 0, 1) := by decide +kernel
theorem dL_areBasics_318 : decode cL_areBasics 318 = .ok (.ireturn, 1) := by decide +kernel
theorem dL_isInverse_0 : decode cL_isInverse 0 = .ok (.aload_n 0, 1) := by decide +kernel
theorem dL_isInverse_1 : decode cL_isInverse 1 = .ok (.iconst 0, 1) := by decide +kernel
theorem dL_isInverse_2 : decode cL_isInverse 2 = .ok (.iload_n 1, 1) := by decide +kernel
theorem dL_isInverse_3 : decode cL_isInverse 3 = .ok (.ldc 54, 2) := by decide +kernel
theorem dL_isInverse_5 : decode cL_isInverse 5 = .ok (.iload_n 2, 1) := by decide +kernel
theorem dL_isInverse_6 : decode cL_isInverse 6 = .ok (.invokestatic 55, 3) := by decide +kernel
theorem dL_isInverse_9 : decode cL_isInverse 9 = .ok (.ifCond .eq 57, 3) := by decide +kernel
theorem dL_isInverse_12 : decode cL_isInverse 12 = .ok (.aload_n 0, 1) := by decide +kernel
theorem dL_isInverse_13 : decode cL_isInverse 13 = .ok (.iconst 0, 1) := by decide +kernel
theorem dL_isInverse_14 : decode cL_isInverse 14 = .ok (.iconst 1, 1) := by decide +kernel
theorem dL_isInverse_15 : decode cL_isInverse 15 = .ok (.invokevirtual 61, 3) := by decide +kernel
theorem dL_isInverse_18 : decode cL_isInverse 18 = .ok (.lconst 0, 1) := by decide +kernel
theorem dL_isInverse_19 : decode cL_isInverse 19 = .ok (.lcmp, 1) := by decide +kernel
theorem dL_isInverse_20 : decode cL_isInverse 20 = .ok (.ifCond .lt 46, 3) := by decide +kernel
theorem dL_isInverse_23 : decode cL_isInverse 23 = .ok (.aload_n 0, 1) := by decide +kernel
theorem dL_isInverse_24 : decode cL_isInverse 24 = .ok (.iconst 1, 1) := by decide +kernel
theorem dL_isInverse_25 : decode cL_isInverse 25 = .ok (.iconst 2, 1) := by decide +kernel
theorem dL_isInverse_26 : decode cL_isInverse 26 = .ok (.invokevirtual 64, 3) := by decide +kernel
theorem dL_isInverse_29 : decode cL_isInverse 29 = .ok (.lconst 0, 1) := by decide +kernel
theorem dL_isInverse_30 : decode cL_isInverse 30 = .ok (.lcmp, 1) := by decide +kernel
theorem dL_isInverse_31 : decode cL_isInverse 31 = .ok (.ifCond .lt 35, 3) := by decide +kernel
theorem dL_isInverse_34 : decode cL_isInverse 34 = .ok (.aload_n 0, 1) := by decide +kernel
theorem dL_isInverse_35 : decode cL_isInverse 35 = .ok (.iconst 1, 1) := by decide +kernel
theorem dL_isInverse_36 : decode cL_isInverse 36 = .ok (.ldc 30, 2) := by decide +kernel
theorem dL_isInverse_38 : decode cL_isInverse 38 = .ok (.invokevirtual 25, 3) := by decide +kernel
theorem dL_isInverse_41 : decode cL_isInverse 41 = .ok (.ldc2_w 67, 3) := by decide +kernel
theorem dL_isInverse_44 : decode cL_isInverse 44 = .ok (.lcmp, 1) := by decide +kernel
theorem dL_isInverse_45 : decode cL_isInverse 45 = .ok (.ifCond .lt 21, 3) := by decide +kernel
theorem dL_isInverse_48 : decode cL_isInverse 48 = .ok (.aload_n 0, 1) := by decide +kernel
theorem dL_isInverse_49 : decode cL_isInverse 49 = .ok (.iconst 1, 1) := by decide +kernel
theorem dL_isInverse_50 : decode cL_isInverse 50 = .ok (.ldc 30, 2) := by decide +kernel
theorem dL_isInverse_52 : decode cL_isInverse 52 = .ok (.invokevirtual 25, 3) := by decide +kernel
theorem dL_isInverse_55 : decode cL_isInverse 55 = .ok (.ldc2_w 69, 3) := by decide +kernel
theorem dL_isInverse_58 : decode cL_isInverse 58 = .ok (.lcmp, 1) := by decide +kernel
theorem dL_isInverse_59 : decode cL_isInverse 59 = .ok (.ifCond .gt 7, 3) := by decide +kernel
theorem dL_isInverse_62 : decode cL_isInverse 62 = .ok (.iconst 1, 1) := by decide +kernel
theorem dL_isInverse_63 : decode cL_isInverse 63 = .ok (.goto 4, 3) := by decide +kernel
theorem dL_isInverse_66 : decode cL_isInverse 66 = .ok (.iconst 0, 1) := by decide +kernel
theorem dL_isInverse_67 : decode cL_isInverse 67 = .ok (.istore_n 3, 1) := by decide +kernel
theorem dL_isInverse_68 : decode cL_isInverse 68 = .ok (.iconst 0, 1) := by decide +kernel
theorem dL_isInverse_69 : decode cL_isInverse 69 = .ok (.istore 4, 2) := by decide +kernel
theorem dL_isInverse_71 : decode cL_isInverse 71 = .ok (.iload 4, 2) := by decide +kernel
theorem dL_isInverse_73 : decode cL_isInverse 73 = .ok (.bipush 24, 2) := by decide +kernel
theorem dL_isInverse_75 : decode cL_isInverse 75 = .ok (.if_icmp .gt 54, 3) := by decide +kernel
theorem dL_isInverse_78 : decode cL_isInverse 78 = .ok (.iload_n 3, 1) := by decide +kernel
theorem dL_isInverse_79 : decode cL_isInverse 79 = .ok (.ifCond .eq 50, 3) := by decide +kernel
theorem dL_isInverse_82 : decode cL_isInverse 82 = .ok (.aload_n 0, 1) := by decide +kernel
theorem dL_isInverse_83 : decode cL_isInverse 83 = .ok (.iconst 2, 1) := by decide +kernel
theorem dL_isInverse_84 : decode cL_isInverse 84 = .ok (.iload 4, 2) := by decide +kernel
theorem dL_isInverse_86 : decode cL_isInverse 86 = .ok (.invokevirtual 38, 3) := by decide +kernel
theorem dL_isInverse_89 : decode cL_isInverse 89 = .ok (.aload_n 0, 1) := by decide +kernel
theorem dL_isInverse_90 : decode cL_isInverse 90 = .ok (.iconst 0, 1) := by decide +kernel
theorem dL_isInverse_91 : decode cL_isInverse 91 = .ok (.iload 4, 2) := by decide +kernel
theorem dL_isInverse_93 : decode cL_isInverse 93 = .ok (.invokevirtual 38, 3) := by decide +kernel
theorem dL_isInverse_96 : decode cL_isInverse 96 = .ok (.lsub, 1) := by decide +kernel
theorem dL_isInverse_97 : decode cL_isInverse 97 = .ok (.lstore 5, 2) := by decide +kernel
theorem dL_isInverse_99 : decode cL_isInverse 99 = .ok (.lload 5, 2) := by decide +kernel
theorem dL_isInverse_101 : decode cL_isInverse 101 = .ok (.ldc2_w 71, 3) := by decide +kernel
theorem dL_isInverse_104 : decode cL_isInverse 104 = .ok (.lcmp, 1) := by decide +kernel
theorem dL_isInverse_105 : decode cL_isInverse 105 = .ok (.ifCond .ge 16, 3) := by decide +kernel
theorem dL_isInverse_108 : decode cL_isInverse 108 = .ok (.lload 5, 2) := by decide +kernel
theorem dL_isInverse_110 : decode cL_isInverse 110 = .ok (.ldc2_w 73, 3) := by decide +kernel
theorem dL_isInverse_113 : decode cL_isInverse 113 = .ok (.lcmp, 1) := by decide +kernel
theorem dL_isInverse_114 : decode cL_isInverse 114 = .ok (.ifCond .le 7, 3) := by decide +kernel
theorem dL_isInverse_117 : decode cL_isInverse 117 = .ok (.iconst 1, 1) := by decide +kernel
theorem dL_isInverse_118 : decode cL_isInverse 118 = .ok (.goto 4, 3) := by decide +kernel
theorem dL_isInverse_121 : decode cL_isInverse 121 = .ok (.iconst 0, 1) := by decide +kernel
theorem dL_isInverse_122 : decode cL_isInverse 122 = .ok (.istore_n 3, 1) := by decide +kernel
theorem dL_isInverse_123 : decode cL_isInverse 123 = .ok (.iinc 4 1, 3) := by decide +kernel
theorem dL_isInverse_126 : decode cL_isInverse 126 = .ok (.goto (-55), 3) := by decide +kernel
theorem dL_isInverse_129 : decode cL_isInverse 129 = .ok (.aload_n 0, 1) := by decide +kernel
theorem dL_isInverse_130 : decode cL_isInverse 130 = .ok (.iconst 1, 1) := by decide +kernel
theorem dL_isInverse_131 : decode cL_isInverse 131 = .ok (.ldc 24, 2) := by decide +kernel
theorem dL_isInverse_133 : decode cL_isInverse 133 = .ok (.invokevirtual 25, 3) := by decide +kernel
theorem dL_isInverse_136 : decode cL_isInverse 136 = .ok (.aload_n 0, 1) := by decide +kernel
theorem dL_isInverse_137 : decode cL_isInverse 137 = .ok (.iconst 0, 1) := by decide +kernel
theorem dL_isInverse_138 : decode cL_isInverse 138 = .ok (.invokevirtual 75, 3) := by decide +kernel
theorem dL_isInverse_141 : decode cL_isInverse 141 = .ok (.lsub, 1) := by decide +kernel
theorem dL_isInverse_142 : decode cL_isInverse 142 = .ok (.lstore 4, 2) := by decide +kernel
theorem dL_isInverse_144 : decode cL_isInverse 144 = .ok (.iload_n 3, 1) := by decide +kernel
theorem dL_isInverse_145 : decode cL_isInverse 145 = .ok (.ifCond .eq 38, 3) := by decide +kernel
theorem dL_isInverse_148 : decode cL_isInverse 148 = .ok (.lload 4, 2) := by decide +kernel
theorem dL_isInverse_150 : decode cL_isInverse 150 = .ok (.ldc2_w 78, 3) := by decide +kernel
theorem dL_isInverse_153 : decode cL_isInverse 153 = .ok (.lcmp, 1) := by decide +kernel
theorem dL_isInverse_154 : decode cL_isInverse 154 = .ok (.ifCond .ge 29, 3) := by decide +kernel
theorem dL_isInverse_157 : decode cL_isInverse 157 = .ok (.lload 4, 2) := by decide +kernel
theorem dL_isInverse_159 : decode cL_isInverse 159 = .ok (.ldc2_w 80, 3) := by decide +kernel
theorem dL_isInverse_162 : decode cL_isInverse 162 = .ok (.lcmp, 1) := by decide +kernel
theorem dL_isInverse_163 : decode cL_isInverse 163 = .ok (.ifCond .le 20, 3) := by decide +kernel
theorem dL_isInverse_166 : decode cL_isInverse 166 = .ok (.aload_n 0, 1) := by decide +kernel
theorem dL_isInverse_167 : decode cL_isInverse 167 = .ok (.iconst 2, 1) := by decide +kernel
theorem dL_isInverse_168 : decode cL_isInverse 168 = .ok (.invokevirtual 20, 3) := by decide +kernel
theorem dL_isInverse_171 : decode cL_isInverse 171 = .ok (.iload_n 1, 1) := by decide +kernel
theorem dL_isInverse_172 : decode cL_isInverse 172 = .ok (.iconst 1, 1) := by decide +kernel
theorem dL_isInverse_173 : decode cL_isInverse 173 = .ok (.iadd, 1) := by decide +kernel
theorem dL_isInverse_174 : decode cL_isInverse 174 = .ok (.i2l, 1) := by decide +kernel
theorem dL_isInverse_175 : decode cL_isInverse 175 = .ok (.lcmp, 1) := by decide +kernel
theorem dL_isInverse_176 : decode cL_isInverse 176 = .ok (.ifCond .gt 7, 3) := by decide +kernel
theorem dL_isInverse_179 : decode cL_isInverse 179 = .ok (.iconst 1, 1) := by decide +kernel
theorem dL_isInverse_180 : decode cL_isInverse 180 = .ok (.goto 4, 3) := by decide +kernel
theorem dL_isInverse_183 : decode cL_isInverse 183 = .ok (.iconst 0, 1) := by decide +kernel
theorem dL_isInverse_184 : decode cL_isInverse 184 = .ok (.ireturn, 1) := by decide +kernel
