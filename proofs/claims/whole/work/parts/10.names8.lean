set_option maxRecDepth 20000 in
theorem gX3_isFree_X3_rounded : GoodIn wsX3_isFree (va_wsS RX3 88 yX3_rounded wsX3_rounded) := goodIn_app (goodIn_of _ (by decide +kernel)) ggX3_isFree_X3_rounded
theorem dX3_isFree_0 : decode cX3_isFree 0 = .ok (.iload_n 2, 1) := by decide +kernel
theorem dX3_isFree_1 : decode cX3_isFree 1 = .ok (.iload_n 3, 1) := by decide +kernel
theorem dX3_isFree_2 : decode cX3_isFree 2 = .ok (.invokestatic 149, 3) := by decide +kernel
theorem dX3_isFree_5 : decode cX3_isFree 5 = .ok (.istore 4, 2) := by decide +kernel
theorem dX3_isFree_7 : decode cX3_isFree 7 = .ok (.iload_n 3, 1) := by decide +kernel
theorem dX3_isFree_8 : decode cX3_isFree 8 = .ok (.iload 4, 2) := by decide +kernel
theorem dX3_isFree_10 : decode cX3_isFree 10 = .ok (.isub, 1) := by decide +kernel
theorem dX3_isFree_11 : decode cX3_isFree 11 = .ok (.iload 4, 2) := by decide +kernel
theorem dX3_isFree_13 : decode cX3_isFree 13 = .ok (.iload_n 2, 1) := by decide +kernel
theorem dX3_isFree_14 : decode cX3_isFree 14 = .ok (.isub, 1) := by decide +kernel
theorem dX3_isFree_15 : decode cX3_isFree 15 = .ok (.if_icmp .le 11, 3) := by decide +kernel
theorem dX3_isFree_18 : decode cX3_isFree 18 = .ok (.iload_n 3, 1) := by decide +kernel
theorem dX3_isFree_19 : decode cX3_isFree 19 = .ok (.iload 4, 2) := by decide +kernel
theorem dX3_isFree_21 : decode cX3_isFree 21 = .ok (.isub, 1) := by decide +kernel
theorem dX3_isFree_22 : decode cX3_isFree 22 = .ok (.i2l, 1) := by decide +kernel
theorem dX3_isFree_23 : decode cX3_isFree 23 = .ok (.goto 8, 3) := by decide +kernel
theorem dX3_isFree_26 : decode cX3_isFree 26 = .ok (.iload 4, 2) := by decide +kernel
theorem dX3_isFree_28 : decode cX3_isFree 28 = .ok (.iload_n 2, 1) := by decide +kernel
theorem dX3_isFree_29 : decode cX3_isFree 29 = .ok (.isub, 1) := by decide +kernel
theorem dX3_isFree_30 : decode cX3_isFree 30 = .ok (.i2l, 1) := by decide +kernel
theorem dX3_isFree_31 : decode cX3_isFree 31 = .ok (.lstore 5, 2) := by decide +kernel
theorem dX3_isFree_33 : decode cX3_isFree 33 = .ok (.lconst 0, 1) := by decide +kernel
theorem dX3_isFree_34 : decode cX3_isFree 34 = .ok (.lstore 7, 2) := by decide +kernel
theorem dX3_isFree_36 : decode cX3_isFree 36 = .ok (.iconst 1, 1) := by decide +kernel
theorem dX3_isFree_37 : decode cX3_isFree 37 = .ok (.istore 9, 2) := by decide +kernel
theorem dX3_isFree_39 : decode cX3_isFree 39 = .ok (.iload 9, 2) := by decide +kernel
theorem dX3_isFree_41 : decode cX3_isFree 41 = .ok (.aload_n 0, 1) := by decide +kernel
theorem dX3_isFree_42 : decode cX3_isFree 42 = .ok (.getfield 13, 3) := by decide +kernel
theorem dX3_isFree_45 : decode cX3_isFree 45 = .ok (.iload_n 1, 1) := by decide +kernel
theorem dX3_isFree_46 : decode cX3_isFree 46 = .ok (.iaload, 1) := by decide +kernel
theorem dX3_isFree_47 : decode cX3_isFree 47 = .ok (.if_icmp .gt 32, 3) := by decide +kernel
theorem dX3_isFree_50 : decode cX3_isFree 50 = .ok (.lload 7, 2) := by decide +kernel
theorem dX3_isFree_52 : decode cX3_isFree 52 = .ok (.iload 9, 2) := by decide +kernel
theorem dX3_isFree_54 : decode cX3_isFree 54 = .ok (.i2l, 1) := by decide +kernel
theorem dX3_isFree_55 : decode cX3_isFree 55 = .ok (.iload 9, 2) := by decide +kernel
theorem dX3_isFree_57 : decode cX3_isFree 57 = .ok (.i2l, 1) := by decide +kernel
theorem dX3_isFree_58 : decode cX3_isFree 58 = .ok (.lmul, 1) := by decide +kernel
theorem dX3_isFree_59 : decode cX3_isFree 59 = .ok (.aload_n 0, 1) := by decide +kernel
theorem dX3_isFree_60 : decode cX3_isFree 60 = .ok (.iload_n 1, 1) := by decide +kernel
theorem dX3_isFree_61 : decode cX3_isFree 61 = .ok (.iload 9, 2) := by decide +kernel
theorem dX3_isFree_63 : decode cX3_isFree 63 = .ok (.invokevirtual 53, 3) := by decide +kernel
theorem dX3_isFree_66 : decode cX3_isFree 66 = .ok (.invokestatic 59, 3) := by decide +kernel
theorem dX3_isFree_69 : decode cX3_isFree 69 = .ok (.lmul, 1) := by decide +kernel
theorem dX3_isFree_70 : decode cX3_isFree 70 = .ok (.ladd, 1) := by decide +kernel
theorem dX3_isFree_71 : decode cX3_isFree 71 = .ok (.lstore 7, 2) := by decide +kernel
theorem dX3_isFree_73 : decode cX3_isFree 73 = .ok (.iinc 9 1, 3) := by decide +kernel
theorem dX3_isFree_76 : decode cX3_isFree 76 = .ok (.goto (-37), 3) := by decide +kernel
theorem dX3_isFree_79 : decode cX3_isFree 79 = .ok (.aload_n 0, 1) := by decide +kernel
theorem dX3_isFree_80 : decode cX3_isFree 80 = .ok (.iload_n 1, 1) := by decide +kernel
theorem dX3_isFree_81 : decode cX3_isFree 81 = .ok (.iload 4, 2) := by decide +kernel
theorem dX3_isFree_83 : decode cX3_isFree 83 = .ok (.i2l, 1) := by decide +kernel
theorem dX3_isFree_84 : decode cX3_isFree 84 = .ok (.invokevirtual 95, 3) := by decide +kernel
theorem dX3_isFree_87 : decode cX3_isFree 87 = .ok (.invokestatic 59, 3) := by decide +kernel
theorem dX3_isFree_90 : decode cX3_isFree 90 = .ok (.lload 7, 2) := by decide +kernel
theorem dX3_isFree_92 : decode cX3_isFree 92 = .ok (.lload 5, 2) := by decide +kernel
theorem dX3_isFree_94 : decode cX3_isFree 94 = .ok (.lmul, 1) := by decide +kernel
theorem dX3_isFree_95 : decode cX3_isFree 95 = .ok (.ldc2_w 45, 3) := by decide +kernel
theorem dX3_isFree_98 : decode cX3_isFree 98 = .ok (.invokestatic 88, 3) := by decide +kernel
theorem dX3_isFree_101 : decode cX3_isFree 101 = .ok (.ldc2_w 153, 3) := by decide +kernel
theorem dX3_isFree_104 : decode cX3_isFree 104 = .ok (.aload_n 0, 1) := by decide +kernel
theorem dX3_isFree_105 : decode cX3_isFree 105 = .ok (.getfield 13, 3) := by decide +kernel
theorem dX3_isFree_108 : decode cX3_isFree 108 = .ok (.iload_n 1, 1) := by decide +kernel
theorem dX3_isFree_109 : decode cX3_isFree 109 = .ok (.iaload, 1) := by decide +kernel
theorem dX3_isFree_110 : decode cX3_isFree 110 = .ok (.iconst 1, 1) := by decide +kernel
theorem dX3_isFree_111 : decode cX3_isFree 111 = .ok (.iadd, 1) := by decide +kernel
theorem dX3_isFree_112 : decode cX3_isFree 112 = .ok (.i2l, 1) := by decide +kernel
theorem dX3_isFree_113 : decode cX3_isFree 113 = .ok (.lmul, 1) := by decide +kernel
theorem dX3_isFree_114 : decode cX3_isFree 114 = .ok (.ladd, 1) := by decide +kernel
theorem dX3_isFree_115 : decode cX3_isFree 115 = .ok (.lcmp, 1) := by decide +kernel
theorem dX3_isFree_116 : decode cX3_isFree 116 = .ok (.ifCond .le 7, 3) := by decide +kernel
theorem dX3_isFree_119 : decode cX3_isFree 119 = .ok (.iconst 1, 1) := by decide +kernel
theorem dX3_isFree_120 : decode cX3_isFree 120 = .ok (.goto 4, 3) := by decide +kernel
theorem dX3_isFree_123 : decode cX3_isFree 123 = .ok (.iconst 0, 1) := by decide +kernel
theorem dX3_isFree_124 : decode cX3_isFree 124 = .ok (.ireturn, 1) := by decide +kernel
set_option maxRecDepth 20000 in
theorem ggX3_searches_X3_isFree : GoodIn wsX3_searches wsX3_isFree := goodIn_r _ [11, 12, 13, 14, 15, 16, 10, 17, 18, 19, 20, 21, 22, 23, 24, 25, 26, 27, 28, 29, 30, 31, 32, 33, 34, 35, 36, 37, 38, 39, 40, 41] (by decide +kernel) (by decide +kernel)
set_option maxRecDepth 20000 in
theorem gX3_searches_X3_isFree : GoodIn wsX3_searches (wsV RX3 163 RX3 yX3_isFree wsX3_isFree) := goodIn_app (goodIn_of _ (by decide +kernel)) ggX3_searches_X3_isFree
set_option maxRecDepth 20000 in
theorem ggX3_searches_X3_middle : GoodIn wsX3_searches wsX3_middle := goodIn_r _ [17] (by decide +kernel) (by decide +kernel)
set_option maxRecDepth 20000 in
theorem gX3_searches_X3_middle : GoodIn wsX3_searches (va_wsS RX3 149 yX3_middle wsX3_middle) := goodIn_app (goodIn_of _ (by decide +kernel)) ggX3_searches_X3_middle
theorem dX3_searches_0 : decode cX3_searches 0 = .ok (.aload_n 0, 1) := by decide +kernel
theorem dX3_searches_1 : decode cX3_searches 1 = .ok (.iconst 0, 1) := by decide +kernel
theorem dX3_searches_2 : decode cX3_searches 2 = .ok (.putfield 155, 3) := by decide +kernel
theorem dX3_searches_5 : decode cX3_searches 5 = .ok (.aload_n 0, 1) := by decide +kernel
theorem dX3_searches_6 : decode cX3_searches 6 = .ok (.iconst 0, 1) := by decide +kernel
theorem dX3_searches_7 : decode cX3_searches 7 = .ok (.putfield 159, 3) := by decide +kernel
theorem dX3_searches_10 : decode cX3_searches 10 = .ok (.iconst 1, 1) := by decide +kernel
theorem dX3_searches_11 : decode cX3_searches 11 = .ok (.istore_n 2, 1) := by decide +kernel
theorem dX3_searches_12 : decode cX3_searches 12 = .ok (.aload_n 0, 1) := by decide +kernel
theorem dX3_searches_13 : decode cX3_searches 13 = .ok (.getfield 34, 3) := by decide +kernel
theorem dX3_searches_16 : decode cX3_searches 16 = .ok (.iconst 0, 1) := by decide +kernel
theorem dX3_searches_17 : decode cX3_searches 17 = .ok (.ldc 162, 2) := by decide +kernel
theorem dX3_searches_19 : decode cX3_searches 19 = .ok (.iastore, 1) := by decide +kernel
theorem dX3_searches_20 : decode cX3_searches 20 = .ok (.aload_n 0, 1) := by decide +kernel
theorem dX3_searches_21 : decode cX3_searches 21 = .ok (.getfield 34, 3) := by decide +kernel
theorem dX3_searches_24 : decode cX3_searches 24 = .ok (.iconst 1, 1) := by decide +kernel
theorem dX3_searches_25 : decode cX3_searches 25 = .ok (.ldc 20, 2) := by decide +kernel
theorem dX3_searches_27 : decode cX3_searches 27 = .ok (.iastore, 1) := by decide +kernel
theorem dX3_searches_28 : decode cX3_searches 28 = .ok (.iload_n 2, 1) := by decide +kernel
theorem dX3_searches_29 : decode cX3_searches 29 = .ok (.ifCond .le 187, 3) := by decide +kernel
theorem dX3_searches_32 : decode cX3_searches 32 = .ok (.aload_n 0, 1) := by decide +kernel
theorem dX3_searches_33 : decode cX3_searches 33 = .ok (.getfield 155, 3) := by decide +kernel
theorem dX3_searches_36 : decode cX3_searches 36 = .ok (.bipush 24, 2) := by decide +kernel
theorem dX3_searches_38 : decode cX3_searches 38 = .ok (.if_icmp .ge 178, 3) := by decide +kernel
theorem dX3_searches_41 : decode cX3_searches 41 = .ok (.aload_n 0, 1) := by decide +kernel
theorem dX3_searches_42 : decode cX3_searches 42 = .ok (.getfield 159, 3) := by decide +kernel
theorem dX3_searches_45 : decode cX3_searches 45 = .ok (.sipush 2000, 3) := by decide +kernel
theorem dX3_searches_48 : decode cX3_searches 48 = .ok (.if_icmp .ge 168, 3) := by decide +kernel
theorem dX3_searches_51 : decode cX3_searches 51 = .ok (.iinc 2 (-1), 3) := by decide +kernel
theorem dX3_searches_54 : decode cX3_searches 54 = .ok (.aload_n 0, 1) := by decide +kernel
theorem dX3_searches_55 : decode cX3_searches 55 = .ok (.getfield 34, 3) := by decide +kernel
theorem dX3_searches_58 : decode cX3_searches 58 = .ok (.iconst 2, 1) := by decide +kernel
theorem dX3_searches_59 : decode cX3_searches 59 = .ok (.iload_n 2, 1) := by decide +kernel
theorem dX3_searches_60 : decode cX3_searches 60 = .ok (.imul, 1) := by decide +kernel
theorem dX3_searches_61 : decode cX3_searches 61 = .ok (.iaload, 1) := by decide +kernel
theorem dX3_searches_62 : decode cX3_searches 62 = .ok (.istore_n 3, 1) := by decide +kernel
theorem dX3_searches_63 : decode cX3_searches 63 = .ok (.aload_n 0, 1) := by decide +kernel
theorem dX3_searches_64 : decode cX3_searches 64 = .ok (.getfield 34, 3) := by decide +kernel
theorem dX3_searches_67 : decode cX3_searches 67 = .ok (.iconst 2, 1) := by decide +kernel
theorem dX3_searches_68 : decode cX3_searches 68 = .ok (.iload_n 2, 1) := by decide +kernel
theorem dX3_searches_69 : decode cX3_searches 69 = .ok (.imul, 1) := by decide +kernel
theorem dX3_searches_70 : decode cX3_searches 70 = .ok (.iconst 1, 1) := by decide +kernel
theorem dX3_searches_71 : decode cX3_searches 71 = .ok (.iadd, 1) := by decide +kernel
theorem dX3_searches_72 : decode cX3_searches 72 = .ok (.iaload, 1) := by decide +kernel
theorem dX3_searches_73 : decode cX3_searches 73 = .ok (.istore 4, 2) := by decide +kernel
theorem dX3_searches_75 : decode cX3_searches 75 = .ok (.aload_n 0, 1) := by decide +kernel
theorem dX3_searches_76 : decode cX3_searches 76 = .ok (.dup, 1) := by decide +kernel
theorem dX3_searches_77 : decode cX3_searches 77 = .ok (.getfield 159, 3) := by decide +kernel
theorem dX3_searches_80 : decode cX3_searches 80 = .ok (.iconst 1, 1) := by decide +kernel
theorem dX3_searches_81 : decode cX3_searches 81 = .ok (.iadd, 1) := by decide +kernel
theorem dX3_searches_82 : decode cX3_searches 82 = .ok (.putfield 159, 3) := by decide +kernel
theorem dX3_searches_85 : decode cX3_searches 85 = .ok (.aload_n 0, 1) := by decide +kernel
theorem dX3_searches_86 : decode cX3_searches 86 = .ok (.iload_n 1, 1) := by decide +kernel
theorem dX3_searches_87 : decode cX3_searches 87 = .ok (.iload_n 3, 1) := by decide +kernel
theorem dX3_searches_88 : decode cX3_searches 88 = .ok (.iload 4, 2) := by decide +kernel
theorem dX3_searches_90 : decode cX3_searches 90 = .ok (.invokevirtual 163, 3) := by decide +kernel
theorem dX3_searches_93 : decode cX3_searches 93 = .ok (.ifCond .eq 6, 3) := by decide +kernel
theorem dX3_searches_96 : decode cX3_searches 96 = .ok (.goto (-68), 3) := by decide +kernel
theorem dX3_searches_99 : decode cX3_searches 99 = .ok (.iload_n 3, 1) := by decide +kernel
theorem dX3_searches_100 : decode cX3_searches 100 = .ok (.iload 4, 2) := by decide +kernel
theorem dX3_searches_102 : decode cX3_searches 102 = .ok (.invokestatic 149, 3) := by decide +kernel
theorem dX3_searches_105 : decode cX3_searches 105 = .ok (.istore 5, 2) := by decide +kernel
theorem dX3_searches_107 : decode cX3_searches 107 = .ok (.iload 4, 2) := by decide +kernel
theorem dX3_searches_109 : decode cX3_searches 109 = .ok (.iload_n 3, 1) := by decide +kernel
theorem dX3_searches_110 : decode cX3_searches 110 = .ok (.isub, 1) := by decide +kernel
theorem dX3_searches_111 : decode cX3_searches 111 = .ok (.bipush 16, 2) := by decide +kernel
theorem dX3_searches_113 : decode cX3_searches 113 = .ok (.if_icmp .le 54, 3) := by decide +kernel
theorem dX3_searches_116 : decode cX3_searches 116 = .ok (.aload_n 0, 1) := by decide +kernel
theorem dX3_searches_117 : decode cX3_searches 117 = .ok (.getfield 34, 3) := by decide +kernel
theorem dX3_searches_120 : decode cX3_searches 120 = .ok (.iconst 2, 1) := by decide +kernel
theorem dX3_searches_121 : decode cX3_searches 121 = .ok (.iload_n 2, 1) := by decide +kernel
theorem dX3_searches_122 : decode cX3_searches 122 = .ok (.imul, 1) := by decide +kernel
theorem dX3_searches_123 : decode cX3_searches 123 = .ok (.iload 5, 2) := by decide +kernel
theorem dX3_searches_125 : decode cX3_searches 125 = .ok (.iastore, 1) := by decide +kernel
theorem dX3_searches_126 : decode cX3_searches 126 = .ok (.aload_n 0, 1) := by decide +kernel
theorem dX3_searches_127 : decode cX3_searches 127 = .ok (.getfield 34, 3) := by decide +kernel
theorem dX3_searches_130 : decode cX3_searches 130 = .ok (.iconst 2, 1) := by decide +kernel
theorem dX3_searches_131 : decode cX3_searches 131 = .ok (.iload_n 2, 1) := by decide +kernel
theorem dX3_searches_132 : decode cX3_searches 132 = .ok (.imul, 1) := by decide +kernel
theorem dX3_searches_133 : decode cX3_searches 133 = .ok (.iconst 1, 1) := by decide +kernel
theorem dX3_searches_134 : decode cX3_searches 134 = .ok (.iadd, 1) := by decide +kernel
theorem dX3_searches_135 : decode cX3_searches 135 = .ok (.iload 4, 2) := by decide +kernel
theorem dX3_searches_137 : decode cX3_searches 137 = .ok (.iastore, 1) := by decide +kernel
theorem dX3_searches_138 : decode cX3_searches 138 = .ok (.aload_n 0, 1) := by decide +kernel
theorem dX3_searches_139 : decode cX3_searches 139 = .ok (.getfield 34, 3) := by decide +kernel
theorem dX3_searches_142 : decode cX3_searches 142 = .ok (.iconst 2, 1) := by decide +kernel
theorem dX3_searches_143 : decode cX3_searches 143 = .ok (.iload_n 2, 1) := by decide +kernel
theorem dX3_searches_144 : decode cX3_searches 144 = .ok (.imul, 1) := by decide +kernel
theorem dX3_searches_145 : decode cX3_searches 145 = .ok (.iconst 2, 1) := by decide +kernel
theorem dX3_searches_146 : decode cX3_searches 146 = .ok (.iadd, 1) := by decide +kernel
theorem dX3_searches_147 : decode cX3_searches 147 = .ok (.iload_n 3, 1) := by decide +kernel
theorem dX3_searches_148 : decode cX3_searches 148 = .ok (.iastore, 1) := by decide +kernel
theorem dX3_searches_149 : decode cX3_searches 149 = .ok (.aload_n 0, 1) := by decide +kernel
theorem dX3_searches_150 : decode cX3_searches 150 = .ok (.getfield 34, 3) := by decide +kernel
theorem dX3_searches_153 : decode cX3_searches 153 = .ok (.iconst 2, 1) := by decide +kernel
theorem dX3_searches_154 : decode cX3_searches 154 = .ok (.iload_n 2, 1) := by decide +kernel
theorem dX3_searches_155 : decode cX3_searches 155 = .ok (.imul, 1) := by decide +kernel
theorem dX3_searches_156 : decode cX3_searches 156 = .ok (.iconst 3, 1) := by decide +kernel
theorem dX3_searches_157 : decode cX3_searches 157 = .ok (.iadd, 1) := by decide +kernel
theorem dX3_searches_158 : decode cX3_searches 158 = .ok (.iload 5, 2) := by decide +kernel
theorem dX3_searches_160 : decode cX3_searches 160 = .ok (.iastore, 1) := by decide +kernel
theorem dX3_searches_161 : decode cX3_searches 161 = .ok (.iinc 2 2, 3) := by decide +kernel
theorem dX3_searches_164 : decode cX3_searches 164 = .ok (.goto 49, 3) := by decide +kernel
theorem dX3_searches_167 : decode cX3_searches 167 = .ok (.aload_n 0, 1) := by decide +kernel
theorem dX3_searches_168 : decode cX3_searches 168 = .ok (.getfield 155, 3) := by decide +kernel
theorem dX3_searches_171 : decode cX3_searches 171 = .ok (.ifCond .eq 21, 3) := by decide +kernel
theorem dX3_searches_174 : decode cX3_searches 174 = .ok (.aload_n 0, 1) := by decide +kernel
theorem dX3_searches_175 : decode cX3_searches 175 = .ok (.getfield 31, 3) := by decide +kernel
theorem dX3_searches_178 : decode cX3_searches 178 = .ok (.aload_n 0, 1) := by decide +kernel
theorem dX3_searches_179 : decode cX3_searches 179 = .ok (.getfield 155, 3) := by decide +kernel
theorem dX3_searches_182 : decode cX3_searches 182 = .ok (.iconst 1, 1) := by decide +kernel
theorem dX3_searches_183 : decode cX3_searches 183 = .ok (.isub, 1) := by decide +kernel
theorem dX3_searches_184 : decode cX3_searches 184 = .ok (.iaload, 1) := by decide +kernel
theorem dX3_searches_185 : decode cX3_searches 185 = .ok (.iload_n 3, 1) := by decide +kernel
theorem dX3_searches_186 : decode cX3_searches 186 = .ok (.bipush 16, 2) := by decide +kernel
theorem dX3_searches_188 : decode cX3_searches 188 = .ok (.isub, 1) := by decide +kernel
theorem dX3_searches_189 : decode cX3_searches 189 = .ok (.if_icmp .ge 24, 3) := by decide +kernel
theorem dX3_searches_192 : decode cX3_searches 192 = .ok (.aload_n 0, 1) := by decide +kernel
theorem dX3_searches_193 : decode cX3_searches 193 = .ok (.getfield 31, 3) := by decide +kernel
theorem dX3_searches_196 : decode cX3_searches 196 = .ok (.aload_n 0, 1) := by decide +kernel
theorem dX3_searches_197 : decode cX3_searches 197 = .ok (.getfield 155, 3) := by decide +kernel
theorem dX3_searches_200 : decode cX3_searches 200 = .ok (.iload 5, 2) := by decide +kernel
theorem dX3_searches_202 : decode cX3_searches 202 = .ok (.iastore, 1) := by decide +kernel
theorem dX3_searches_203 : decode cX3_searches 203 = .ok (.aload_n 0, 1) := by decide +kernel
theorem dX3_searches_204 : decode cX3_searches 204 = .ok (.dup, 1) := by decide +kernel
theorem dX3_searches_205 : decode cX3_searches 205 = .ok (.getfield 155, 3) := by decide +kernel
theorem dX3_searches_208 : decode cX3_searches 208 = .ok (.iconst 1, 1) := by decide +kernel
theorem dX3_searches_209 : decode cX3_searches 209 = .ok (.iadd, 1) := by decide +kernel
theorem dX3_searches_210 : decode cX3_searches 210 = .ok (.putfield 155, 3) := by decide +kernel
theorem dX3_searches_213 : decode cX3_searches 213 = .ok (.goto (-185), 3) := by decide +kernel
theorem dX3_searches_216 : decode cX3_searches 216 = .ok (.return_, 1) := by decide +kernel
set_option maxRecDepth 20000 in
theorem ggX3_root_X3_isSeries : GoodIn wsX3_root wsX3_isSeries := goodIn_r _ [8, 9, 10, 11, 7, 12] (by decide +kernel) (by decide +kernel)
set_option maxRecDepth 20000 in
theorem gX3_root_X3_isSeries : GoodIn wsX3_root (va_wsS RX3 75 yX3_isSeries wsX3_isSeries) := goodIn_app (goodIn_of _ (by decide +kernel)) ggX3_root_X3_isSeries
set_option maxRecDepth 20000 in
theorem ggX3_root_X3_searches : GoodIn wsX3_root wsX3_searches := goodIn_r _ [16, 2, 17, 18, 19, 20, 3, 21, 22, 23, 7, 24, 25, 26, 27, 28, 29, 30, 31, 32, 33, 34, 35, 36, 37, 38, 39, 40, 41, 42, 43, 44, 45, 46, 47, 48, 49, 50, 51, 52, 53, 54] (by decide +kernel) (by decide +kernel)
set_option maxRecDepth 20000 in
theorem gX3_root_X3_searches : GoodIn wsX3_root (wsV RX3 167 RX3 yX3_searches wsX3_searches) := goodIn_app (goodIn_of _ (by decide +kernel)) ggX3_root_X3_searches
theorem dX3_root_0 : decode cX3_root 0 = .ok (.iload_n 1, 1) := by decide +kernel
theorem dX3_root_1 : decode cX3_root 1 = .ok (.invokestatic 75, 3) := by decide +kernel
theorem dX3_root_4 : decode cX3_root 4 = .ok (.ifCond .eq 8, 3) := by decide +kernel
theorem dX3_root_7 : decode cX3_root 7 = .ok (.iload_n 2, 1) := by decide +kernel
theorem dX3_root_8 : decode cX3_root 8 = .ok (.iconst (-1), 1) := by decide +kernel
theorem dX3_root_9 : decode cX3_root 9 = .ok (.if_icmp .ge 7, 3) := by decide +kernel
theorem dX3_root_12 : decode cX3_root 12 = .ok (.ldc2_w 83, 3) := by decide +kernel
theorem dX3_root_15 : decode cX3_root 15 = .ok (.lreturn, 1) := by decide +kernel
theorem dX3_root_16 : decode cX3_root 16 = .ok (.aload_n 0, 1) := by decide +kernel
theorem dX3_root_17 : decode cX3_root 17 = .ok (.iload_n 1, 1) := by decide +kernel
theorem dX3_root_18 : decode cX3_root 18 = .ok (.invokevirtual 167, 3) := by decide +kernel
theorem dX3_root_21 : decode cX3_root 21 = .ok (.iload_n 2, 1) := by decide +kernel
theorem dX3_root_22 : decode cX3_root 22 = .ok (.ifCond .ge 11, 3) := by decide +kernel
theorem dX3_root_25 : decode cX3_root 25 = .ok (.aload_n 0, 1) := by decide +kernel
theorem dX3_root_26 : decode cX3_root 26 = .ok (.getfield 155, 3) := by decide +kernel
theorem dX3_root_29 : decode cX3_root 29 = .ok (.i2l, 1) := by decide +kernel
theorem dX3_root_30 : decode cX3_root 30 = .ok (.goto 24, 3) := by decide +kernel
theorem dX3_root_33 : decode cX3_root 33 = .ok (.iload_n 2, 1) := by decide +kernel
theorem dX3_root_34 : decode cX3_root 34 = .ok (.aload_n 0, 1) := by decide +kernel
theorem dX3_root_35 : decode cX3_root 35 = .ok (.getfield 155, 3) := by decide +kernel
theorem dX3_root_38 : decode cX3_root 38 = .ok (.if_icmp .ge 13, 3) := by decide +kernel
theorem dX3_root_41 : decode cX3_root 41 = .ok (.aload_n 0, 1) := by decide +kernel
theorem dX3_root_42 : decode cX3_root 42 = .ok (.getfield 31, 3) := by decide +kernel
theorem dX3_root_45 : decode cX3_root 45 = .ok (.iload_n 2, 1) := by decide +kernel
theorem dX3_root_46 : decode cX3_root 46 = .ok (.iaload, 1) := by decide +kernel
theorem dX3_root_47 : decode cX3_root 47 = .ok (.i2l, 1) := by decide +kernel
theorem dX3_root_48 : decode cX3_root 48 = .ok (.goto 6, 3) := by decide +kernel
theorem dX3_root_51 : decode cX3_root 51 = .ok (.ldc2_w 130, 3) := by decide +kernel
theorem dX3_root_54 : decode cX3_root 54 = .ok (.lreturn, 1) := by decide +kernel
set_option maxRecDepth 20000 in
theorem ggX3_intervals_X3_isSeries : GoodIn wsX3_intervals wsX3_isSeries := goodIn_r _ [6, 7, 8, 9, 5, 10] (by decide +kernel) (by decide +kernel)
set_option maxRecDepth 20000 in
theorem gX3_intervals_X3_isSeries : GoodIn wsX3_intervals (va_wsS RX3 75 yX3_isSeries wsX3_isSeries) := goodIn_app (goodIn_of _ (by decide +kernel)) ggX3_intervals_X3_isSeries
set_option maxRecDepth 20000 in
theorem ggX3_intervals_X3_searches : GoodIn wsX3_intervals wsX3_searches := goodIn_r _ [14, 15, 2, 16, 17, 18, 19, 20, 21, 22, 5, 23, 24, 25, 26, 27, 28, 29, 30, 31, 32, 33, 34, 35, 36, 37, 38, 39, 40, 41, 42, 43, 44, 45, 46, 47, 48, 49, 50, 51, 52, 53] (by decide +kernel) (by decide +kernel)
set_option maxRecDepth 20000 in
theorem gX3_intervals_X3_searches : GoodIn wsX3_intervals (wsV RX3 167 RX3 yX3_searches wsX3_searches) := goodIn_app (goodIn_of _ (by decide +kernel)) ggX3_intervals_X3_searches
theorem dX3_intervals_0 : decode cX3_intervals 0 = .ok (.iload_n 1, 1) := by decide +kernel
theorem dX3_intervals_1 : decode cX3_intervals 1 = .ok (.invokestatic 75, 3) := by decide +kernel
theorem dX3_intervals_4 : decode cX3_intervals 4 = .ok (.ifCond .ne 7, 3) := by decide +kernel
theorem dX3_intervals_7 : decode cX3_intervals 7 = .ok (.ldc2_w 83, 3) := by decide +kernel
theorem dX3_intervals_10 : decode cX3_intervals 10 = .ok (.lreturn, 1) := by decide +kernel
theorem dX3_intervals_11 : decode cX3_intervals 11 = .ok (.aload_n 0, 1) := by decide +kernel
theorem dX3_intervals_12 : decode cX3_intervals 12 = .ok (.iload_n 1, 1) := by decide +kernel
theorem dX3_intervals_13 : decode cX3_intervals 13 = .ok (.invokevirtual 167, 3) := by decide +kernel
theorem dX3_intervals_16 : decode cX3_intervals 16 = .ok (.aload_n 0, 1) := by decide +kernel
theorem dX3_intervals_17 : decode cX3_intervals 17 = .ok (.getfield 159, 3) := by decide +kernel
theorem dX3_intervals_20 : decode cX3_intervals 20 = .ok (.i2l, 1) := by decide +kernel
theorem dX3_intervals_21 : decode cX3_intervals 21 = .ok (.lreturn, 1) := by decide +kernel
set_option maxRecDepth 20000 in
theorem ggX3_greatest_X3_isSeries : GoodIn wsX3_greatest wsX3_isSeries := goodIn_r _ [10, 11, 12, 13, 9, 14] (by decide +kernel) (by decide +kernel)
set_option maxRecDepth 20000 in
theorem gX3_greatest_X3_isSeries : GoodIn wsX3_greatest (va_wsS RX3 75 yX3_isSeries wsX3_isSeries) := goodIn_app (goodIn_of _ (by decide +kernel)) ggX3_greatest_X3_isSeries
set_option maxRecDepth 20000 in
theorem ggX3_greatest_X3_derives : GoodIn wsX3_greatest wsX3_derives := goodIn_r _ [18, 19, 20, 21, 22, 23, 9, 24, 25, 26, 27, 28, 29, 30, 31, 32, 33, 34, 35, 36, 66, 67, 68, 69, 70, 71, 72, 73] (by decide +kernel) (by decide +kernel)
set_option maxRecDepth 20000 in
theorem gX3_greatest_X3_derives : GoodIn wsX3_greatest (wsV RX3 111 RX3 yX3_derives wsX3_derives) := goodIn_app (goodIn_of _ (by decide +kernel)) ggX3_greatest_X3_derives
set_option maxRecDepth 20000 in
theorem ggX3_greatest_X3_trims : GoodIn wsX3_greatest wsX3_trims := goodIn_r _ [40, 19, 41, 42, 2, 30, 31, 32, 9, 33, 29, 43, 44, 45, 66, 67, 68, 69, 70, 71, 72, 73] (by decide +kernel) (by decide +kernel)
set_option maxRecDepth 20000 in
theorem gX3_greatest_X3_trims : GoodIn wsX3_greatest (wsV RX3 67 RX3 yX3_trims wsX3_trims) := goodIn_app (goodIn_of _ (by decide +kernel)) ggX3_greatest_X3_trims
set_option maxRecDepth 20000 in
theorem ggX3_greatest_X3_searches : GoodIn wsX3_greatest wsX3_searches := goodIn_r _ [49, 5, 50, 51, 52, 53, 6, 54, 55, 56, 9, 57, 19, 4, 58, 59, 60, 61, 30, 31, 32, 33, 29, 43, 44, 45, 62, 63, 64, 65, 20, 34, 35, 36, 66, 67, 68, 69, 70, 71, 72, 73] (by decide +kernel) (by decide +kernel)
set_option maxRecDepth 20000 in
theorem gX3_greatest_X3_searches : GoodIn wsX3_greatest (wsV RX3 167 RX3 yX3_searches wsX3_searches) := goodIn_app (goodIn_of _ (by decide +kernel)) ggX3_greatest_X3_searches
set_option maxRecDepth 20000 in
theorem ggX3_greatest_X3_valueAt : GoodIn wsX3_greatest wsX3_valueAt := goodIn_r _ [65, 19, 20, 4, 30, 31, 32, 9, 33, 29, 34, 35, 36, 66, 67, 68, 69, 70, 71, 72, 73] (by decide +kernel) (by decide +kernel)
set_option maxRecDepth 20000 in
theorem gX3_greatest_X3_valueAt : GoodIn wsX3_greatest (wsV RX3 95 RX3 yX3_valueAt wsX3_valueAt) := goodIn_app (goodIn_of _ (by decide +kernel)) ggX3_greatest_X3_valueAt
theorem dX3_greatest_0 : decode cX3_greatest 0 = .ok (.iload_n 1, 1) := by decide +kernel
theorem dX3_greatest_1 : decode cX3_greatest 1 = .ok (.invokestatic 75, 3) := by decide +kernel
theorem dX3_greatest_4 : decode cX3_greatest 4 = .ok (.ifCond .ne 7, 3) := by decide +kernel
theorem dX3_greatest_7 : decode cX3_greatest 7 = .ok (.ldc2_w 83, 3) := by decide +kernel
theorem dX3_greatest_10 : decode cX3_greatest 10 = .ok (.lreturn, 1) := by decide +kernel
theorem dX3_greatest_11 : decode cX3_greatest 11 = .ok (.aload_n 0, 1) := by decide +kernel
theorem dX3_greatest_12 : decode cX3_greatest 12 = .ok (.iload_n 1, 1) := by decide +kernel
theorem dX3_greatest_13 : decode cX3_greatest 13 = .ok (.invokevirtual 111, 3) := by decide +kernel
theorem dX3_greatest_16 : decode cX3_greatest 16 = .ok (.aload_n 0, 1) := by decide +kernel
theorem dX3_greatest_17 : decode cX3_greatest 17 = .ok (.bipush 8, 2) := by decide +kernel
theorem dX3_greatest_19 : decode cX3_greatest 19 = .ok (.invokevirtual 67, 3) := by decide +kernel
theorem dX3_greatest_22 : decode cX3_greatest 22 = .ok (.lconst 0, 1) := by decide +kernel
theorem dX3_greatest_23 : decode cX3_greatest 23 = .ok (.lcmp, 1) := by decide +kernel
theorem dX3_greatest_24 : decode cX3_greatest 24 = .ok (.ifCond .eq 7, 3) := by decide +kernel
theorem dX3_greatest_27 : decode cX3_greatest 27 = .ok (.ldc2_w 65, 3) := by decide +kernel
theorem dX3_greatest_30 : decode cX3_greatest 30 = .ok (.lreturn, 1) := by decide +kernel
theorem dX3_greatest_31 : decode cX3_greatest 31 = .ok (.aload_n 0, 1) := by decide +kernel
theorem dX3_greatest_32 : decode cX3_greatest 32 = .ok (.bipush 8, 2) := by decide +kernel
theorem dX3_greatest_34 : decode cX3_greatest 34 = .ok (.invokevirtual 167, 3) := by decide +kernel
theorem dX3_greatest_37 : decode cX3_greatest 37 = .ok (.aload_n 0, 1) := by decide +kernel
theorem dX3_greatest_38 : decode cX3_greatest 38 = .ok (.iload_n 1, 1) := by decide +kernel
theorem dX3_greatest_39 : decode cX3_greatest 39 = .ok (.ldc2_w 43, 3) := by decide +kernel
theorem dX3_greatest_42 : decode cX3_greatest 42 = .ok (.invokevirtual 95, 3) := by decide +kernel
theorem dX3_greatest_45 : decode cX3_greatest 45 = .ok (.lstore_n 2, 1) := by decide +kernel
theorem dX3_greatest_46 : decode cX3_greatest 46 = .ok (.aload_n 0, 1) := by decide +kernel
theorem dX3_greatest_47 : decode cX3_greatest 47 = .ok (.iload_n 1, 1) := by decide +kernel
theorem dX3_greatest_48 : decode cX3_greatest 48 = .ok (.ldc2_w 45, 3) := by decide +kernel
theorem dX3_greatest_51 : decode cX3_greatest 51 = .ok (.invokevirtual 95, 3) := by decide +kernel
theorem dX3_greatest_54 : decode cX3_greatest 54 = .ok (.lstore 4, 2) := by decide +kernel
theorem dX3_greatest_56 : decode cX3_greatest 56 = .ok (.lload 4, 2) := by decide +kernel
theorem dX3_greatest_58 : decode cX3_greatest 58 = .ok (.lload_n 2, 1) := by decide +kernel
theorem dX3_greatest_59 : decode cX3_greatest 59 = .ok (.lcmp, 1) := by decide +kernel
theorem dX3_greatest_60 : decode cX3_greatest 60 = .ok (.ifCond .le 8, 3) := by decide +kernel
theorem dX3_greatest_63 : decode cX3_greatest 63 = .ok (.lload 4, 2) := by decide +kernel
theorem dX3_greatest_65 : decode cX3_greatest 65 = .ok (.goto 4, 3) := by decide +kernel
theorem dX3_greatest_68 : decode cX3_greatest 68 = .ok (.lload_n 2, 1) := by decide +kernel
theorem dX3_greatest_69 : decode cX3_greatest 69 = .ok (.lstore_n 2, 1) := by decide +kernel
theorem dX3_greatest_70 : decode cX3_greatest 70 = .ok (.iconst 0, 1) := by decide +kernel
theorem dX3_greatest_71 : decode cX3_greatest 71 = .ok (.istore 6, 2) := by decide +kernel
theorem dX3_greatest_73 : decode cX3_greatest 73 = .ok (.iload 6, 2) := by decide +kernel
theorem dX3_greatest_75 : decode cX3_greatest 75 = .ok (.aload_n 0, 1) := by decide +kernel
theorem dX3_greatest_76 : decode cX3_greatest 76 = .ok (.getfield 155, 3) := by decide +kernel
theorem dX3_greatest_79 : decode cX3_greatest 79 = .ok (.if_icmp .ge 38, 3) := by decide +kernel
theorem dX3_greatest_82 : decode cX3_greatest 82 = .ok (.aload_n 0, 1) := by decide +kernel
theorem dX3_greatest_83 : decode cX3_greatest 83 = .ok (.iload_n 1, 1) := by decide +kernel
theorem dX3_greatest_84 : decode cX3_greatest 84 = .ok (.aload_n 0, 1) := by decide +kernel
theorem dX3_greatest_85 : decode cX3_greatest 85 = .ok (.getfield 31, 3) := by decide +kernel
theorem dX3_greatest_88 : decode cX3_greatest 88 = .ok (.iload 6, 2) := by decide +kernel
theorem dX3_greatest_90 : decode cX3_greatest 90 = .ok (.iaload, 1) := by decide +kernel
theorem dX3_greatest_91 : decode cX3_greatest 91 = .ok (.i2l, 1) := by decide +kernel
theorem dX3_greatest_92 : decode cX3_greatest 92 = .ok (.invokevirtual 95, 3) := by decide +kernel
theorem dX3_greatest_95 : decode cX3_greatest 95 = .ok (.lstore 7, 2) := by decide +kernel
theorem dX3_greatest_97 : decode cX3_greatest 97 = .ok (.lload 7, 2) := by decide +kernel
theorem dX3_greatest_99 : decode cX3_greatest 99 = .ok (.lload_n 2, 1) := by decide +kernel
theorem dX3_greatest_100 : decode cX3_greatest 100 = .ok (.lcmp, 1) := by decide +kernel
theorem dX3_greatest_101 : decode cX3_greatest 101 = .ok (.ifCond .le 8, 3) := by decide +kernel
theorem dX3_greatest_104 : decode cX3_greatest 104 = .ok (.lload 7, 2) := by decide +kernel
theorem dX3_greatest_106 : decode cX3_greatest 106 = .ok (.goto 4, 3) := by decide +kernel
theorem dX3_greatest_109 : decode cX3_greatest 109 = .ok (.lload_n 2, 1) := by decide +kernel
theorem dX3_greatest_110 : decode cX3_greatest 110 = .ok (.lstore_n 2, 1) := by decide +kernel
theorem dX3_greatest_111 : decode cX3_greatest 111 = .ok (.iinc 6 1, 3) := by decide +kernel
theorem dX3_greatest_114 : decode cX3_greatest 114 = .ok (.goto (-41), 3) := by decide +kernel
theorem dX3_greatest_117 : decode cX3_greatest 117 = .ok (.lload_n 2, 1) := by decide +kernel
theorem dX3_greatest_118 : decode cX3_greatest 118 = .ok (.lreturn, 1) := by decide +kernel
set_option maxRecDepth 20000 in
theorem ggJ9_floorDiv_b2ac5_J9_floorDiv_f86c9 : GoodIn wsJ9_floorDiv_b2ac5 wsJ9_floorDiv_f86c9 := goodIn_r _ [4] (by decide +kernel) (by decide +kernel)
set_option maxRecDepth 20000 in
theorem gJ9_floorDiv_b2ac5_J9_floorDiv_f86c9 : GoodIn wsJ9_floorDiv_b2ac5 (va_wsS RJ9 143 yJ9_floorDiv_f86c9 wsJ9_floorDiv_f86c9) := goodIn_app (goodIn_of _ (by decide +kernel)) ggJ9_floorDiv_b2ac5_J9_floorDiv_f86c9
theorem dJ9_floorDiv_b2ac5_0 : decode cJ9_floorDiv_b2ac5 0 = .ok (.lload_n 0, 1) := by decide +kernel
theorem dJ9_floorDiv_b2ac5_1 : decode cJ9_floorDiv_b2ac5 1 = .ok (.iload_n 2, 1) := by decide +kernel
theorem dJ9_floorDiv_b2ac5_2 : decode cJ9_floorDiv_b2ac5 2 = .ok (.i2l, 1) := by decide +kernel
theorem dJ9_floorDiv_b2ac5_3 : decode cJ9_floorDiv_b2ac5 3 = .ok (.invokestatic 143, 3) := by decide +kernel
theorem dJ9_floorDiv_b2ac5_6 : decode cJ9_floorDiv_b2ac5 6 = .ok (.lreturn, 1) := by decide +kernel
theorem dJ9_floorDiv_f86c9_0 : decode cJ9_floorDiv_f86c9 0 = .ok (.lload_n 0, 1) := by decide +kernel
theorem dJ9_floorDiv_f86c9_1 : decode cJ9_floorDiv_f86c9 1 = .ok (.lload_n 2, 1) := by decide +kernel
theorem dJ9_floorDiv_f86c9_2 : decode cJ9_floorDiv_f86c9 2 = .ok (.ldiv, 1) := by decide +kernel
theorem dJ9_floorDiv_f86c9_3 : decode cJ9_floorDiv_f86c9 3 = .ok (.lstore 4, 2) := by decide +kernel
theorem dJ9_floorDiv_f86c9_5 : decode cJ9_floorDiv_f86c9 5 = .ok (.lload_n 0, 1) := by decide +kernel
theorem dJ9_floorDiv_f86c9_6 : decode cJ9_floorDiv_f86c9 6 = .ok (.lload_n 2, 1) := by decide +kernel
theorem dJ9_floorDiv_f86c9_7 : decode cJ9_floorDiv_f86c9 7 = .ok (.lxor, 1) := by decide +kernel
theorem dJ9_floorDiv_f86c9_8 : decode cJ9_floorDiv_f86c9 8 = .ok (.lconst 0, 1) := by decide +kernel
theorem dJ9_floorDiv_f86c9_9 : decode cJ9_floorDiv_f86c9 9 = .ok (.lcmp, 1) := by decide +kernel
theorem dJ9_floorDiv_f86c9_10 : decode cJ9_floorDiv_f86c9 10 = .ok (.ifCond .ge 17, 3) := by decide +kernel
theorem dJ9_floorDiv_f86c9_13 : decode cJ9_floorDiv_f86c9 13 = .ok (.lload 4, 2) := by decide +kernel
theorem dJ9_floorDiv_f86c9_15 : decode cJ9_floorDiv_f86c9 15 = .ok (.lload_n 2, 1) := by decide +kernel
theorem dJ9_floorDiv_f86c9_16 : decode cJ9_floorDiv_f86c9 16 = .ok (.lmul, 1) := by decide +kernel
theorem dJ9_floorDiv_f86c9_17 : decode cJ9_floorDiv_f86c9 17 = .ok (.lload_n 0, 1) := by decide +kernel
theorem dJ9_floorDiv_f86c9_18 : decode cJ9_floorDiv_f86c9 18 = .ok (.lcmp, 1) := by decide +kernel
theorem dJ9_floorDiv_f86c9_19 : decode cJ9_floorDiv_f86c9 19 = .ok (.ifCond .eq 8, 3) := by decide +kernel
theorem dJ9_floorDiv_f86c9_22 : decode cJ9_floorDiv_f86c9 22 = .ok (.lload 4, 2) := by decide +kernel
theorem dJ9_floorDiv_f86c9_24 : decode cJ9_floorDiv_f86c9 24 = .ok (.lconst 1, 1) := by decide +kernel
theorem dJ9_floorDiv_f86c9_25 : decode cJ9_floorDiv_f86c9 25 = .ok (.lsub, 1) := by decide +kernel
theorem dJ9_floorDiv_f86c9_26 : decode cJ9_floorDiv_f86c9 26 = .ok (.lreturn, 1) := by decide +kernel
theorem dJ9_floorDiv_f86c9_27 : decode cJ9_floorDiv_f86c9 27 = .ok (.lload 4, 2) := by decide +kernel
theorem dJ9_floorDiv_f86c9_29 : decode cJ9_floorDiv_f86c9 29 = .ok (.lreturn, 1) := by decide +kernel
theorem dJ9_abs_0f7a4_0 : decode cJ9_abs_0f7a4 0 = .ok (.iload_n 0, 1) := by decide +kernel
theorem dJ9_abs_0f7a4_1 : decode cJ9_abs_0f7a4 1 = .ok (.ifCond .ge 8, 3) := by decide +kernel
theorem dJ9_abs_0f7a4_4 : decode cJ9_abs_0f7a4 4 = .ok (.iload_n 0, 1) := by decide +kernel
theorem dJ9_abs_0f7a4_5 : decode cJ9_abs_0f7a4 5 = .ok (.ineg, 1) := by decide +kernel
theorem dJ9_abs_0f7a4_6 : decode cJ9_abs_0f7a4 6 = .ok (.goto 4, 3) := by decide +kernel
theorem dJ9_abs_0f7a4_9 : decode cJ9_abs_0f7a4 9 = .ok (.iload_n 0, 1) := by decide +kernel
theorem dJ9_abs_0f7a4_10 : decode cJ9_abs_0f7a4 10 = .ok (.ireturn, 1) := by decide +kernel
theorem dJ9_abs_067f4_0 : decode cJ9_abs_067f4 0 = .ok (.lload_n 0, 1) := by decide +kernel
theorem dJ9_abs_067f4_1 : decode cJ9_abs_067f4 1 = .ok (.lconst 0, 1) := by decide +kernel
theorem dJ9_abs_067f4_2 : decode cJ9_abs_067f4 2 = .ok (.lcmp, 1) := by decide +kernel
theorem dJ9_abs_067f4_3 : decode cJ9_abs_067f4 3 = .ok (.ifCond .ge 8, 3) := by decide +kernel
theorem dJ9_abs_067f4_6 : decode cJ9_abs_067f4 6 = .ok (.lload_n 0, 1) := by decide +kernel
theorem dJ9_abs_067f4_7 : decode cJ9_abs_067f4 7 = .ok (.lneg, 1) := by decide +kernel
theorem dJ9_abs_067f4_8 : decode cJ9_abs_067f4 8 = .ok (.goto 4, 3) := by decide +kernel
theorem dJ9_abs_067f4_11 : decode cJ9_abs_067f4 11 = .ok (.lload_n 0, 1) := by decide +kernel
theorem dJ9_abs_067f4_12 : decode cJ9_abs_067f4 12 = .ok (.lreturn, 1) := by decide +kernel
theorem dJ9_max_7cf53_0 : decode cJ9_max_7cf53 0 = .ok (.iload_n 0, 1) := by decide +kernel
theorem dJ9_max_7cf53_1 : decode cJ9_max_7cf53 1 = .ok (.iload_n 1, 1) := by decide +kernel
theorem dJ9_max_7cf53_2 : decode cJ9_max_7cf53 2 = .ok (.if_icmp .lt 7, 3) := by decide +kernel
theorem dJ9_max_7cf53_5 : decode cJ9_max_7cf53 5 = .ok (.iload_n 0, 1) := by decide +kernel
theorem dJ9_max_7cf53_6 : decode cJ9_max_7cf53 6 = .ok (.goto 4, 3) := by decide +kernel
theorem dJ9_max_7cf53_9 : decode cJ9_max_7cf53 9 = .ok (.iload_n 1, 1) := by decide +kernel
theorem dJ9_max_7cf53_10 : decode cJ9_max_7cf53 10 = .ok (.ireturn, 1) := by decide +kernel
theorem dJ9_max_f86c9_0 : decode cJ9_max_f86c9 0 = .ok (.lload_n 0, 1) := by decide +kernel
theorem dJ9_max_f86c9_1 : decode cJ9_max_f86c9 1 = .ok (.lload_n 2, 1) := by decide +kernel
theorem dJ9_max_f86c9_2 : decode cJ9_max_f86c9 2 = .ok (.lcmp, 1) := by decide +kernel
theorem dJ9_max_f86c9_3 : decode cJ9_max_f86c9 3 = .ok (.ifCond .lt 7, 3) := by decide +kernel
theorem dJ9_max_f86c9_6 : decode cJ9_max_f86c9 6 = .ok (.lload_n 0, 1) := by decide +kernel
theorem dJ9_max_f86c9_7 : decode cJ9_max_f86c9 7 = .ok (.goto 4, 3) := by decide +kernel
theorem dJ9_max_f86c9_10 : decode cJ9_max_f86c9 10 = .ok (.lload_n 2, 1) := by decide +kernel
theorem dJ9_max_f86c9_11 : decode cJ9_max_f86c9 11 = .ok (.lreturn, 1) := by decide +kernel
theorem dJ7_fill_d0a16_0 : decode cJ7_fill_d0a16 0 = .ok (.iconst 0, 1) := by decide +kernel
theorem dJ7_fill_d0a16_1 : decode cJ7_fill_d0a16 1 = .ok (.istore_n 3, 1) := by decide +kernel
theorem dJ7_fill_d0a16_2 : decode cJ7_fill_d0a16 2 = .ok (.aload_n 0, 1) := by decide +kernel
theorem dJ7_fill_d0a16_3 : decode cJ7_fill_d0a16 3 = .ok (.arraylength, 1) := by decide +kernel
theorem dJ7_fill_d0a16_4 : decode cJ7_fill_d0a16 4 = .ok (.istore 4, 2) := by decide +kernel
theorem dJ7_fill_d0a16_6 : decode cJ7_fill_d0a16 6 = .ok (.iload_n 3, 1) := by decide +kernel
theorem dJ7_fill_d0a16_7 : decode cJ7_fill_d0a16 7 = .ok (.iload 4, 2) := by decide +kernel
theorem dJ7_fill_d0a16_9 : decode cJ7_fill_d0a16 9 = .ok (.if_icmp .ge 13, 3) := by decide +kernel
theorem dJ7_fill_d0a16_12 : decode cJ7_fill_d0a16 12 = .ok (.aload_n 0, 1) := by decide +kernel
theorem dJ7_fill_d0a16_13 : decode cJ7_fill_d0a16 13 = .ok (.iload_n 3, 1) := by decide +kernel
theorem dJ7_fill_d0a16_14 : decode cJ7_fill_d0a16 14 = .ok (.lload_n 1, 1) := by decide +kernel
theorem dJ7_fill_d0a16_15 : decode cJ7_fill_d0a16 15 = .ok (.lastore, 1) := by decide +kernel
theorem dJ7_fill_d0a16_16 : decode cJ7_fill_d0a16 16 = .ok (.iinc 3 1, 3) := by decide +kernel
theorem dJ7_fill_d0a16_19 : decode cJ7_fill_d0a16 19 = .ok (.goto (-13), 3) := by decide +kernel
theorem dJ7_fill_d0a16_22 : decode cJ7_fill_d0a16 22 = .ok (.return_, 1) := by decide +kernel
