/-! the law's instructions -/
theorem dL_isSampled_0 : decode cL_isSampled 0 = .ok (.iconst 1, 1) := by decide +kernel
theorem dL_isSampled_1 : decode cL_isSampled 1 = .ok (.iload_n 1, 1) := by decide +kernel
theorem dL_isSampled_2 : decode cL_isSampled 2 = .ok (.ishl, 1) := by decide +kernel
theorem dL_isSampled_3 : decode cL_isSampled 3 = .ok (.istore_n 3, 1) := by decide +kernel
theorem dL_isSampled_4 : decode cL_isSampled 4 = .ok (.iload_n 2, 1) := by decide +kernel
theorem dL_isSampled_5 : decode cL_isSampled 5 = .ok (.iload_n 3, 1) := by decide +kernel
theorem dL_isSampled_6 : decode cL_isSampled 6 = .ok (.iconst 1, 1) := by decide +kernel
theorem dL_isSampled_7 : decode cL_isSampled 7 = .ok (.iadd, 1) := by decide +kernel
theorem dL_isSampled_8 : decode cL_isSampled 8 = .ok (.irem, 1) := by decide +kernel
theorem dL_isSampled_9 : decode cL_isSampled 9 = .ok (.istore 4, 2) := by decide +kernel
theorem dL_isSampled_11 : decode cL_isSampled 11 = .ok (.aload_n 0, 1) := by decide +kernel
theorem dL_isSampled_12 : decode cL_isSampled 12 = .ok (.iconst 0, 1) := by decide +kernel
theorem dL_isSampled_13 : decode cL_isSampled 13 = .ok (.iload 4, 2) := by decide +kernel
theorem dL_isSampled_15 : decode cL_isSampled 15 = .ok (.ldc 82, 2) := by decide +kernel
theorem dL_isSampled_17 : decode cL_isSampled 17 = .ok (.iload_n 2, 1) := by decide +kernel
theorem dL_isSampled_18 : decode cL_isSampled 18 = .ok (.invokestatic 55, 3) := by decide +kernel
theorem dL_isSampled_21 : decode cL_isSampled 21 = .ok (.ifCond .eq 43, 3) := by decide +kernel
theorem dL_isSampled_24 : decode cL_isSampled 24 = .ok (.aload_n 0, 1) := by decide +kernel
theorem dL_isSampled_25 : decode cL_isSampled 25 = .ok (.iconst 0, 1) := by decide +kernel
theorem dL_isSampled_26 : decode cL_isSampled 26 = .ok (.iload_n 1, 1) := by decide +kernel
theorem dL_isSampled_27 : decode cL_isSampled 27 = .ok (.invokevirtual 128, 3) := by decide +kernel
theorem dL_isSampled_30 : decode cL_isSampled 30 = .ok (.iload_n 3, 1) := by decide +kernel
theorem dL_isSampled_31 : decode cL_isSampled 31 = .ok (.iconst 1, 1) := by decide +kernel
theorem dL_isSampled_32 : decode cL_isSampled 32 = .ok (.iadd, 1) := by decide +kernel
theorem dL_isSampled_33 : decode cL_isSampled 33 = .ok (.i2l, 1) := by decide +kernel
theorem dL_isSampled_34 : decode cL_isSampled 34 = .ok (.lcmp, 1) := by decide +kernel
theorem dL_isSampled_35 : decode cL_isSampled 35 = .ok (.ifCond .ne 29, 3) := by decide +kernel
theorem dL_isSampled_38 : decode cL_isSampled 38 = .ok (.aload_n 0, 1) := by decide +kernel
theorem dL_isSampled_39 : decode cL_isSampled 39 = .ok (.iconst 0, 1) := by decide +kernel
theorem dL_isSampled_40 : decode cL_isSampled 40 = .ok (.iload_n 1, 1) := by decide +kernel
theorem dL_isSampled_41 : decode cL_isSampled 41 = .ok (.invokevirtual 131, 3) := by decide +kernel
theorem dL_isSampled_44 : decode cL_isSampled 44 = .ok (.lconst 0, 1) := by decide +kernel
theorem dL_isSampled_45 : decode cL_isSampled 45 = .ok (.lcmp, 1) := by decide +kernel
theorem dL_isSampled_46 : decode cL_isSampled 46 = .ok (.ifCond .ne 18, 3) := by decide +kernel
theorem dL_isSampled_49 : decode cL_isSampled 49 = .ok (.aload_n 0, 1) := by decide +kernel
theorem dL_isSampled_50 : decode cL_isSampled 50 = .ok (.iload_n 1, 1) := by decide +kernel
theorem dL_isSampled_51 : decode cL_isSampled 51 = .ok (.iconst 1, 1) := by decide +kernel
theorem dL_isSampled_52 : decode cL_isSampled 52 = .ok (.invokevirtual 134, 3) := by decide +kernel
theorem dL_isSampled_55 : decode cL_isSampled 55 = .ok (.lconst 0, 1) := by decide +kernel
theorem dL_isSampled_56 : decode cL_isSampled 56 = .ok (.lcmp, 1) := by decide +kernel
theorem dL_isSampled_57 : decode cL_isSampled 57 = .ok (.ifCond .lt 7, 3) := by decide +kernel
theorem dL_isSampled_60 : decode cL_isSampled 60 = .ok (.iconst 1, 1) := by decide +kernel
theorem dL_isSampled_61 : decode cL_isSampled 61 = .ok (.goto 4, 3) := by decide +kernel
theorem dL_isSampled_64 : decode cL_isSampled 64 = .ok (.iconst 0, 1) := by decide +kernel
theorem dL_isSampled_65 : decode cL_isSampled 65 = .ok (.istore 5, 2) := by decide +kernel
theorem dL_isSampled_67 : decode cL_isSampled 67 = .ok (.iconst 0, 1) := by decide +kernel
theorem dL_isSampled_68 : decode cL_isSampled 68 = .ok (.istore 6, 2) := by decide +kernel
theorem dL_isSampled_70 : decode cL_isSampled 70 = .ok (.iload 6, 2) := by decide +kernel
theorem dL_isSampled_72 : decode cL_isSampled 72 = .ok (.iload_n 3, 1) := by decide +kernel
theorem dL_isSampled_73 : decode cL_isSampled 73 = .ok (.if_icmp .gt 56, 3) := by decide +kernel
theorem dL_isSampled_76 : decode cL_isSampled 76 = .ok (.iload 5, 2) := by decide +kernel
theorem dL_isSampled_78 : decode cL_isSampled 78 = .ok (.ifCond .eq 51, 3) := by decide +kernel
theorem dL_isSampled_81 : decode cL_isSampled 81 = .ok (.aload_n 0, 1) := by decide +kernel
theorem dL_isSampled_82 : decode cL_isSampled 82 = .ok (.iconst 1, 1) := by decide +kernel
theorem dL_isSampled_83 : decode cL_isSampled 83 = .ok (.iload 6, 2) := by decide +kernel
theorem dL_isSampled_85 : decode cL_isSampled 85 = .ok (.invokevirtual 38, 3) := by decide +kernel
theorem dL_isSampled_88 : decode cL_isSampled 88 = .ok (.aload_n 0, 1) := by decide +kernel
theorem dL_isSampled_89 : decode cL_isSampled 89 = .ok (.iconst 0, 1) := by decide +kernel
theorem dL_isSampled_90 : decode cL_isSampled 90 = .ok (.iload 6, 2) := by decide +kernel
theorem dL_isSampled_92 : decode cL_isSampled 92 = .ok (.invokevirtual 38, 3) := by decide +kernel
theorem dL_isSampled_95 : decode cL_isSampled 95 = .ok (.lsub, 1) := by decide +kernel
theorem dL_isSampled_96 : decode cL_isSampled 96 = .ok (.lstore 7, 2) := by decide +kernel
theorem dL_isSampled_98 : decode cL_isSampled 98 = .ok (.lload 7, 2) := by decide +kernel
theorem dL_isSampled_100 : decode cL_isSampled 100 = .ok (.ldc2_w 137, 3) := by decide +kernel
theorem dL_isSampled_103 : decode cL_isSampled 103 = .ok (.lcmp, 1) := by decide +kernel
theorem dL_isSampled_104 : decode cL_isSampled 104 = .ok (.ifCond .gt 16, 3) := by decide +kernel
theorem dL_isSampled_107 : decode cL_isSampled 107 = .ok (.lload 7, 2) := by decide +kernel
theorem dL_isSampled_109 : decode cL_isSampled 109 = .ok (.ldc2_w 139, 3) := by decide +kernel
theorem dL_isSampled_112 : decode cL_isSampled 112 = .ok (.lcmp, 1) := by decide +kernel
theorem dL_isSampled_113 : decode cL_isSampled 113 = .ok (.ifCond .lt 7, 3) := by decide +kernel
theorem dL_isSampled_116 : decode cL_isSampled 116 = .ok (.iconst 1, 1) := by decide +kernel
theorem dL_isSampled_117 : decode cL_isSampled 117 = .ok (.goto 4, 3) := by decide +kernel
theorem dL_isSampled_120 : decode cL_isSampled 120 = .ok (.iconst 0, 1) := by decide +kernel
theorem dL_isSampled_121 : decode cL_isSampled 121 = .ok (.istore 5, 2) := by decide +kernel
theorem dL_isSampled_123 : decode cL_isSampled 123 = .ok (.iinc 6 1, 3) := by decide +kernel
theorem dL_isSampled_126 : decode cL_isSampled 126 = .ok (.goto (-56), 3) := by decide +kernel
theorem dL_isSampled_129 : decode cL_isSampled 129 = .ok (.iconst 0, 1) := by decide +kernel
theorem dL_isSampled_130 : decode cL_isSampled 130 = .ok (.istore 6, 2) := by decide +kernel
theorem dL_isSampled_132 : decode cL_isSampled 132 = .ok (.iload 6, 2) := by decide +kernel
theorem dL_isSampled_134 : decode cL_isSampled 134 = .ok (.iload_n 3, 1) := by decide +kernel
theorem dL_isSampled_135 : decode cL_isSampled 135 = .ok (.if_icmp .gt 67, 3) := by decide +kernel
theorem dL_isSampled_138 : decode cL_isSampled 138 = .ok (.iload 5, 2) := by decide +kernel
theorem dL_isSampled_140 : decode cL_isSampled 140 = .ok (.ifCond .eq 62, 3) := by decide +kernel
theorem dL_isSampled_143 : decode cL_isSampled 143 = .ok (.aload_n 0, 1) := by decide +kernel
theorem dL_isSampled_144 : decode cL_isSampled 144 = .ok (.iload_n 1, 1) := by decide +kernel
theorem dL_isSampled_145 : decode cL_isSampled 145 = .ok (.iload 6, 2) := by decide +kernel
theorem dL_isSampled_147 : decode cL_isSampled 147 = .ok (.invokevirtual 141, 3) := by decide +kernel
theorem dL_isSampled_150 : decode cL_isSampled 150 = .ok (.aload_n 0, 1) := by decide +kernel
theorem dL_isSampled_151 : decode cL_isSampled 151 = .ok (.iload_n 1, 1) := by decide +kernel
theorem dL_isSampled_152 : decode cL_isSampled 152 = .ok (.iload_n 3, 1) := by decide +kernel
theorem dL_isSampled_153 : decode cL_isSampled 153 = .ok (.iload 6, 2) := by decide +kernel
theorem dL_isSampled_155 : decode cL_isSampled 155 = .ok (.isub, 1) := by decide +kernel
theorem dL_isSampled_156 : decode cL_isSampled 156 = .ok (.invokevirtual 141, 3) := by decide +kernel
theorem dL_isSampled_159 : decode cL_isSampled 159 = .ok (.lneg, 1) := by decide +kernel
theorem dL_isSampled_160 : decode cL_isSampled 160 = .ok (.lcmp, 1) := by decide +kernel
theorem dL_isSampled_161 : decode cL_isSampled 161 = .ok (.ifCond .ne 32, 3) := by decide +kernel
theorem dL_isSampled_164 : decode cL_isSampled 164 = .ok (.iload 6, 2) := by decide +kernel
theorem dL_isSampled_166 : decode cL_isSampled 166 = .ok (.ifCond .eq 23, 3) := by decide +kernel
theorem dL_isSampled_169 : decode cL_isSampled 169 = .ok (.aload_n 0, 1) := by decide +kernel
theorem dL_isSampled_170 : decode cL_isSampled 170 = .ok (.iload_n 1, 1) := by decide +kernel
theorem dL_isSampled_171 : decode cL_isSampled 171 = .ok (.iload 6, 2) := by decide +kernel
theorem dL_isSampled_173 : decode cL_isSampled 173 = .ok (.invokevirtual 141, 3) := by decide +kernel
theorem dL_isSampled_176 : decode cL_isSampled 176 = .ok (.aload_n 0, 1) := by decide +kernel
theorem dL_isSampled_177 : decode cL_isSampled 177 = .ok (.iload_n 1, 1) := by decide +kernel
theorem dL_isSampled_178 : decode cL_isSampled 178 = .ok (.iload 6, 2) := by decide +kernel
theorem dL_isSampled_180 : decode cL_isSampled 180 = .ok (.iconst 1, 1) := by decide +kernel
theorem dL_isSampled_181 : decode cL_isSampled 181 = .ok (.isub, 1) := by decide +kernel
theorem dL_isSampled_182 : decode cL_isSampled 182 = .ok (.invokevirtual 141, 3) := by decide +kernel
theorem dL_isSampled_185 : decode cL_isSampled 185 = .ok (.lcmp, 1) := by decide +kernel
theorem dL_isSampled_186 : decode cL_isSampled 186 = .ok (.ifCond .ge 7, 3) := by decide +kernel
theorem dL_isSampled_189 : decode cL_isSampled 189 = .ok (.iconst 1, 1) := by decide +kernel
theorem dL_isSampled_190 : decode cL_isSampled 190 = .ok (.goto 4, 3) := by decide +kernel
theorem dL_isSampled_193 : decode cL_isSampled 193 = .ok (.iconst 0, 1) := by decide +kernel
theorem dL_isSampled_194 : decode cL_isSampled 194 = .ok (.istore 5, 2) := by decide +kernel
theorem dL_isSampled_196 : decode cL_isSampled 196 = .ok (.iinc 6 1, 3) := by decide +kernel
theorem dL_isSampled_199 : decode cL_isSampled 199 = .ok (.goto (-67), 3) := by decide +kernel
theorem dL_isSampled_202 : decode cL_isSampled 202 = .ok (.iload 5, 2) := by decide +kernel
theorem dL_isSampled_204 : decode cL_isSampled 204 = .ok (.ifCond .eq 33, 3) := by decide +kernel
theorem dL_isSampled_207 : decode cL_isSampled 207 = .ok (.aload_n 0, 1) := by decide +kernel
theorem dL_isSampled_208 : decode cL_isSampled 208 = .ok (.iload_n 1, 1) := by decide +kernel
theorem dL_isSampled_209 : decode cL_isSampled 209 = .ok (.iconst 0, 1) := by decide +kernel
theorem dL_isSampled_210 : decode cL_isSampled 210 = .ok (.invokevirtual 141, 3) := by decide +kernel
theorem dL_isSampled_213 : decode cL_isSampled 213 = .ok (.ldc2_w 28, 3) := by decide +kernel
theorem dL_isSampled_216 : decode cL_isSampled 216 = .ok (.lcmp, 1) := by decide +kernel
theorem dL_isSampled_217 : decode cL_isSampled 217 = .ok (.ifCond .ne 20, 3) := by decide +kernel
theorem dL_isSampled_220 : decode cL_isSampled 220 = .ok (.aload_n 0, 1) := by decide +kernel
theorem dL_isSampled_221 : decode cL_isSampled 221 = .ok (.iconst 5, 1) := by decide +kernel
theorem dL_isSampled_222 : decode cL_isSampled 222 = .ok (.iconst 0, 1) := by decide +kernel
theorem dL_isSampled_223 : decode cL_isSampled 223 = .ok (.invokevirtual 141, 3) := by decide +kernel
theorem dL_isSampled_226 : decode cL_isSampled 226 = .ok (.ldc2_w 144, 3) := by decide +kernel
theorem dL_isSampled_229 : decode cL_isSampled 229 = .ok (.lcmp, 1) := by decide +kernel
theorem dL_isSampled_230 : decode cL_isSampled 230 = .ok (.ifCond .ne 7, 3) := by decide +kernel
theorem dL_isSampled_233 : decode cL_isSampled 233 = .ok (.iconst 1, 1) := by decide +kernel
theorem dL_isSampled_234 : decode cL_isSampled 234 = .ok (.goto 4, 3) := by decide +kernel
theorem dL_isSampled_237 : decode cL_isSampled 237 = .ok (.iconst 0, 1) := by decide +kernel
theorem dL_isSampled_238 : decode cL_isSampled 238 = .ok (.ireturn, 1) := by decide +kernel
theorem dL_law_0 : decode cL_law 0 = .ok (.new 10, 3) := by decide +kernel
theorem dL_law_3 : decode cL_law 3 = .ok (.dup, 1) := by decide +kernel
theorem dL_law_4 : decode cL_law 4 = .ok (.invokespecial 146, 3) := by decide +kernel
theorem dL_law_7 : decode cL_law 7 = .ok (.astore_n 1, 1) := by decide +kernel
theorem dL_law_8 : decode cL_law 8 = .ok (.iconst 1, 1) := by decide +kernel
theorem dL_law_9 : decode cL_law 9 = .ok (.istore_n 2, 1) := by decide +kernel
theorem dL_law_10 : decode cL_law 10 = .ok (.iconst 0, 1) := by decide +kernel
theorem dL_law_11 : decode cL_law 11 = .ok (.istore_n 3, 1) := by decide +kernel
theorem dL_law_12 : decode cL_law 12 = .ok (.iload_n 3, 1) := by decide +kernel
theorem dL_law_13 : decode cL_law 13 = .ok (.bipush 6, 2) := by decide +kernel
theorem dL_law_15 : decode cL_law 15 = .ok (.if_icmp .ge 133, 3) := by decide +kernel
theorem dL_law_18 : decode cL_law 18 = .ok (.iload_n 2, 1) := by decide +kernel
theorem dL_law_19 : decode cL_law 19 = .ok (.ifCond .eq 129, 3) := by decide +kernel
theorem dL_law_22 : decode cL_law 22 = .ok (.aload_n 0, 1) := by decide +kernel
theorem dL_law_23 : decode cL_law 23 = .ok (.iload_n 3, 1) := by decide +kernel
theorem dL_law_24 : decode cL_law 24 = .ok (.invokestatic 147, 3) := by decide +kernel
theorem dL_law_27 : decode cL_law 27 = .ok (.istore 4, 2) := by decide +kernel
theorem dL_law_29 : decode cL_law 29 = .ok (.aload_n 0, 1) := by decide +kernel
theorem dL_law_30 : decode cL_law 30 = .ok (.bipush 6, 2) := by decide +kernel
theorem dL_law_32 : decode cL_law 32 = .ok (.iload_n 3, 1) := by decide +kernel
theorem dL_law_33 : decode cL_law 33 = .ok (.iadd, 1) := by decide +kernel
theorem dL_law_34 : decode cL_law 34 = .ok (.invokestatic 147, 3) := by decide +kernel
theorem dL_law_37 : decode cL_law 37 = .ok (.istore 5, 2) := by decide +kernel
theorem dL_law_39 : decode cL_law 39 = .ok (.aload_n 1, 1) := by decide +kernel
theorem dL_law_40 : decode cL_law 40 = .ok (.iload 4, 2) := by decide +kernel
theorem dL_law_42 : decode cL_law 42 = .ok (.bipush 25, 2) := by decide +kernel
theorem dL_law_44 : decode cL_law 44 = .ok (.irem, 1) := by decide +kernel
theorem dL_law_45 : decode cL_law 45 = .ok (.iload 4, 2) := by decide +kernel
theorem dL_law_47 : decode cL_law 47 = .ok (.iconst 5, 1) := by decide +kernel
theorem dL_law_48 : decode cL_law 48 = .ok (.ishr, 1) := by decide +kernel
theorem dL_law_49 : decode cL_law 49 = .ok (.bipush 25, 2) := by decide +kernel
theorem dL_law_51 : decode cL_law 51 = .ok (.irem, 1) := by decide +kernel
theorem dL_law_52 : decode cL_law 52 = .ok (.invokestatic 151, 3) := by decide +kernel
theorem dL_law_55 : decode cL_law 55 = .ok (.ifCond .eq 85, 3) := by decide +kernel
theorem dL_law_58 : decode cL_law 58 = .ok (.aload_n 1, 1) := by decide +kernel
theorem dL_law_59 : decode cL_law 59 = .ok (.iload 5, 2) := by decide +kernel
theorem dL_law_61 : decode cL_law 61 = .ok (.bipush 6, 2) := by decide +kernel
theorem dL_law_63 : decode cL_law 63 = .ok (.irem, 1) := by decide +kernel
theorem dL_law_64 : decode cL_law 64 = .ok (.iload 5, 2) := by decide +kernel
theorem dL_law_66 : decode cL_law 66 = .ok (.iconst 4, 1) := by decide +kernel
theorem dL_law_67 : decode cL_law 67 = .ok (.ishr, 1) := by decide +kernel
theorem dL_law_68 : decode cL_law 68 = .ok (.iconst 5, 1) := by decide +kernel
theorem dL_law_69 : decode cL_law 69 = .ok (.irem, 1) := by decide +kernel
theorem dL_law_70 : decode cL_law 70 = .ok (.invokestatic 151, 3) := by decide +kernel
theorem dL_law_73 : decode cL_law 73 = .ok (.ifCond .eq 67, 3) := by decide +kernel
theorem dL_law_76 : decode cL_law 76 = .ok (.aload_n 1, 1) := by decide +kernel
theorem dL_law_77 : decode cL_law 77 = .ok (.iload 5, 2) := by decide +kernel
theorem dL_law_79 : decode cL_law 79 = .ok (.iconst 3, 1) := by decide +kernel
theorem dL_law_80 : decode cL_law 80 = .ok (.ishr, 1) := by decide +kernel
theorem dL_law_81 : decode cL_law 81 = .ok (.bipush 12, 2) := by decide +kernel
theorem dL_law_83 : decode cL_law 83 = .ok (.irem, 1) := by decide +kernel
theorem dL_law_84 : decode cL_law 84 = .ok (.iload 4, 2) := by decide +kernel
theorem dL_law_86 : decode cL_law 86 = .ok (.invokestatic 155, 3) := by decide +kernel
theorem dL_law_89 : decode cL_law 89 = .ok (.ifCond .eq 51, 3) := by decide +kernel
theorem dL_law_92 : decode cL_law 92 = .ok (.aload_n 1, 1) := by decide +kernel
theorem dL_law_93 : decode cL_law 93 = .ok (.iload 4, 2) := by decide +kernel
theorem dL_law_95 : decode cL_law 95 = .ok (.bipush 7, 2) := by decide +kernel
theorem dL_law_97 : decode cL_law 97 = .ok (.ishr, 1) := by decide +kernel
theorem dL_law_98 : decode cL_law 98 = .ok (.bipush 25, 2) := by decide +kernel
theorem dL_law_100 : decode cL_law 100 = .ok (.irem, 1) := by decide +kernel
theorem dL_law_101 : decode cL_law 101 = .ok (.iload 5, 2) := by decide +kernel
theorem dL_law_103 : decode cL_law 103 = .ok (.invokestatic 158, 3) := by decide +kernel
theorem dL_law_106 : decode cL_law 106 = .ok (.ifCond .eq 34, 3) := by decide +kernel
theorem dL_law_109 : decode cL_law 109 = .ok (.aload_n 1, 1) := by decide +kernel
theorem dL_law_110 : decode cL_law 110 = .ok (.iload 4, 2) := by decide +kernel
theorem dL_law_112 : decode cL_law 112 = .ok (.invokestatic 161, 3) := by decide +kernel
theorem dL_law_115 : decode cL_law 115 = .ok (.ifCond .eq 25, 3) := by decide +kernel
theorem dL_law_118 : decode cL_law 118 = .ok (.aload_n 1, 1) := by decide +kernel
theorem dL_law_119 : decode cL_law 119 = .ok (.iload 5, 2) := by decide +kernel
theorem dL_law_121 : decode cL_law 121 = .ok (.bipush 8, 2) := by decide +kernel
theorem dL_law_123 : decode cL_law 123 = .ok (.ishr, 1) := by decide +kernel
theorem dL_law_124 : decode cL_law 124 = .ok (.iconst 5, 1) := by decide +kernel
theorem dL_law_125 : decode cL_law 125 = .ok (.irem, 1) := by decide +kernel
theorem dL_law_126 : decode cL_law 126 = .ok (.iload 4, 2) := by decide +kernel
theorem dL_law_128 : decode cL_law 128 = .ok (.iconst 1, 1) := by decide +kernel
theorem dL_law_129 : decode cL_law 129 = .ok (.ishr, 1) := by decide +kernel
theorem dL_law_130 : decode cL_law 130 = .ok (.invokestatic 165, 3) := by decide +kernel
theorem dL_law_133 : decode cL_law 133 = .ok (.ifCond .eq 7, 3) := by decide +kernel
theorem dL_law_136 : decode cL_law 136 = .ok (.iconst 1, 1) := by decide +kernel
theorem dL_law_137 : decode cL_law 137 = .ok (.goto 4, 3) := by decide +kernel
theorem dL_law_140 : decode cL_law 140 = .ok (.iconst 0, 1) := by decide +kernel
theorem dL_law_141 : decode cL_law 141 = .ok (.istore_n 2, 1) := by decide +kernel
theorem dL_law_142 : decode cL_law 142 = .ok (.iinc 3 1, 3) := by decide +kernel
theorem dL_law_145 : decode cL_law 145 = .ok (.goto (-133), 3) := by decide +kernel
theorem dL_law_148 : decode cL_law 148 = .ok (.iload_n 2, 1) := by decide +kernel
theorem dL_law_149 : decode cL_law 149 = .ok (.ireturn, 1) := by decide +kernel
