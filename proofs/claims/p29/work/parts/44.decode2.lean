/-! the law's instructions -/
theorem dL_isBounded_0 : decode cL_isBounded 0 = .ok (.aload_n 0, 1) := by decide +kernel
theorem dL_isBounded_1 : decode cL_isBounded 1 = .ok (.iconst 0, 1) := by decide +kernel
theorem dL_isBounded_2 : decode cL_isBounded 2 = .ok (.iload_n 1, 1) := by decide +kernel
theorem dL_isBounded_3 : decode cL_isBounded 3 = .ok (.ldc 82, 2) := by decide +kernel
theorem dL_isBounded_5 : decode cL_isBounded 5 = .ok (.iload_n 2, 1) := by decide +kernel
theorem dL_isBounded_6 : decode cL_isBounded 6 = .ok (.invokestatic 55, 3) := by decide +kernel
theorem dL_isBounded_9 : decode cL_isBounded 9 = .ok (.ifCond .eq 26, 3) := by decide +kernel
theorem dL_isBounded_12 : decode cL_isBounded 12 = .ok (.aload_n 0, 1) := by decide +kernel
theorem dL_isBounded_13 : decode cL_isBounded 13 = .ok (.iconst 1, 1) := by decide +kernel
theorem dL_isBounded_14 : decode cL_isBounded 14 = .ok (.iload_n 2, 1) := by decide +kernel
theorem dL_isBounded_15 : decode cL_isBounded 15 = .ok (.iconst 4, 1) := by decide +kernel
theorem dL_isBounded_16 : decode cL_isBounded 16 = .ok (.ishr, 1) := by decide +kernel
theorem dL_isBounded_17 : decode cL_isBounded 17 = .ok (.bipush 25, 2) := by decide +kernel
theorem dL_isBounded_19 : decode cL_isBounded 19 = .ok (.irem, 1) := by decide +kernel
theorem dL_isBounded_20 : decode cL_isBounded 20 = .ok (.ldc 83, 2) := by decide +kernel
theorem dL_isBounded_22 : decode cL_isBounded 22 = .ok (.iload_n 2, 1) := by decide +kernel
theorem dL_isBounded_23 : decode cL_isBounded 23 = .ok (.iconst 2, 1) := by decide +kernel
theorem dL_isBounded_24 : decode cL_isBounded 24 = .ok (.ishr, 1) := by decide +kernel
theorem dL_isBounded_25 : decode cL_isBounded 25 = .ok (.invokestatic 55, 3) := by decide +kernel
theorem dL_isBounded_28 : decode cL_isBounded 28 = .ok (.ifCond .eq 7, 3) := by decide +kernel
theorem dL_isBounded_31 : decode cL_isBounded 31 = .ok (.iconst 1, 1) := by decide +kernel
theorem dL_isBounded_32 : decode cL_isBounded 32 = .ok (.goto 4, 3) := by decide +kernel
theorem dL_isBounded_35 : decode cL_isBounded 35 = .ok (.iconst 0, 1) := by decide +kernel
theorem dL_isBounded_36 : decode cL_isBounded 36 = .ok (.istore_n 3, 1) := by decide +kernel
theorem dL_isBounded_37 : decode cL_isBounded 37 = .ok (.iload_n 2, 1) := by decide +kernel
theorem dL_isBounded_38 : decode cL_isBounded 38 = .ok (.iconst 5, 1) := by decide +kernel
theorem dL_isBounded_39 : decode cL_isBounded 39 = .ok (.ishr, 1) := by decide +kernel
theorem dL_isBounded_40 : decode cL_isBounded 40 = .ok (.ldc 84, 2) := by decide +kernel
theorem dL_isBounded_42 : decode cL_isBounded 42 = .ok (.irem, 1) := by decide +kernel
theorem dL_isBounded_43 : decode cL_isBounded 43 = .ok (.istore 4, 2) := by decide +kernel
theorem dL_isBounded_45 : decode cL_isBounded 45 = .ok (.aload_n 0, 1) := by decide +kernel
theorem dL_isBounded_46 : decode cL_isBounded 46 = .ok (.iconst 0, 1) := by decide +kernel
theorem dL_isBounded_47 : decode cL_isBounded 47 = .ok (.invokevirtual 46, 3) := by decide +kernel
theorem dL_isBounded_50 : decode cL_isBounded 50 = .ok (.lstore 5, 2) := by decide +kernel
theorem dL_isBounded_52 : decode cL_isBounded 52 = .ok (.iload_n 2, 1) := by decide +kernel
theorem dL_isBounded_53 : decode cL_isBounded 53 = .ok (.iconst 3, 1) := by decide +kernel
theorem dL_isBounded_54 : decode cL_isBounded 54 = .ok (.ishr, 1) := by decide +kernel
theorem dL_isBounded_55 : decode cL_isBounded 55 = .ok (.ldc 85, 2) := by decide +kernel
theorem dL_isBounded_57 : decode cL_isBounded 57 = .ok (.irem, 1) := by decide +kernel
theorem dL_isBounded_58 : decode cL_isBounded 58 = .ok (.ldc 24, 2) := by decide +kernel
theorem dL_isBounded_60 : decode cL_isBounded 60 = .ok (.isub, 1) := by decide +kernel
theorem dL_isBounded_61 : decode cL_isBounded 61 = .ok (.istore 7, 2) := by decide +kernel
theorem dL_isBounded_63 : decode cL_isBounded 63 = .ok (.aload_n 0, 1) := by decide +kernel
theorem dL_isBounded_64 : decode cL_isBounded 64 = .ok (.iconst 0, 1) := by decide +kernel
theorem dL_isBounded_65 : decode cL_isBounded 65 = .ok (.iload 7, 2) := by decide +kernel
theorem dL_isBounded_67 : decode cL_isBounded 67 = .ok (.invokevirtual 25, 3) := by decide +kernel
theorem dL_isBounded_70 : decode cL_isBounded 70 = .ok (.lstore 8, 2) := by decide +kernel
theorem dL_isBounded_72 : decode cL_isBounded 72 = .ok (.ldc2_w 69, 3) := by decide +kernel
theorem dL_isBounded_75 : decode cL_isBounded 75 = .ok (.iload_n 1, 1) := by decide +kernel
theorem dL_isBounded_76 : decode cL_isBounded 76 = .ok (.iconst 1, 1) := by decide +kernel
theorem dL_isBounded_77 : decode cL_isBounded 77 = .ok (.iadd, 1) := by decide +kernel
theorem dL_isBounded_78 : decode cL_isBounded 78 = .ok (.i2l, 1) := by decide +kernel
theorem dL_isBounded_79 : decode cL_isBounded 79 = .ok (.lmul, 1) := by decide +kernel
theorem dL_isBounded_80 : decode cL_isBounded 80 = .ok (.lstore 10, 2) := by decide +kernel
theorem dL_isBounded_82 : decode cL_isBounded 82 = .ok (.iload_n 3, 1) := by decide +kernel
theorem dL_isBounded_83 : decode cL_isBounded 83 = .ok (.ifCond .eq 93, 3) := by decide +kernel
theorem dL_isBounded_86 : decode cL_isBounded 86 = .ok (.lload 8, 2) := by decide +kernel
theorem dL_isBounded_88 : decode cL_isBounded 88 = .ok (.lload 5, 2) := by decide +kernel
theorem dL_isBounded_90 : decode cL_isBounded 90 = .ok (.lload 10, 2) := by decide +kernel
theorem dL_isBounded_92 : decode cL_isBounded 92 = .ok (.ladd, 1) := by decide +kernel
theorem dL_isBounded_93 : decode cL_isBounded 93 = .ok (.lcmp, 1) := by decide +kernel
theorem dL_isBounded_94 : decode cL_isBounded 94 = .ok (.ifCond .gt 82, 3) := by decide +kernel
theorem dL_isBounded_97 : decode cL_isBounded 97 = .ok (.lload 8, 2) := by decide +kernel
theorem dL_isBounded_99 : decode cL_isBounded 99 = .ok (.lneg, 1) := by decide +kernel
theorem dL_isBounded_100 : decode cL_isBounded 100 = .ok (.lload 5, 2) := by decide +kernel
theorem dL_isBounded_102 : decode cL_isBounded 102 = .ok (.lload 10, 2) := by decide +kernel
theorem dL_isBounded_104 : decode cL_isBounded 104 = .ok (.ladd, 1) := by decide +kernel
theorem dL_isBounded_105 : decode cL_isBounded 105 = .ok (.lcmp, 1) := by decide +kernel
theorem dL_isBounded_106 : decode cL_isBounded 106 = .ok (.ifCond .gt 70, 3) := by decide +kernel
theorem dL_isBounded_109 : decode cL_isBounded 109 = .ok (.aload_n 0, 1) := by decide +kernel
theorem dL_isBounded_110 : decode cL_isBounded 110 = .ok (.iconst 0, 1) := by decide +kernel
theorem dL_isBounded_111 : decode cL_isBounded 111 = .ok (.iconst 2, 1) := by decide +kernel
theorem dL_isBounded_112 : decode cL_isBounded 112 = .ok (.invokevirtual 86, 3) := by decide +kernel
theorem dL_isBounded_115 : decode cL_isBounded 115 = .ok (.iload_n 1, 1) := by decide +kernel
theorem dL_isBounded_116 : decode cL_isBounded 116 = .ok (.i2l, 1) := by decide +kernel
theorem dL_isBounded_117 : decode cL_isBounded 117 = .ok (.lcmp, 1) := by decide +kernel
theorem dL_isBounded_118 : decode cL_isBounded 118 = .ok (.ifCond .ne 58, 3) := by decide +kernel
theorem dL_isBounded_121 : decode cL_isBounded 121 = .ok (.aload_n 0, 1) := by decide +kernel
theorem dL_isBounded_122 : decode cL_isBounded 122 = .ok (.iconst 2, 1) := by decide +kernel
theorem dL_isBounded_123 : decode cL_isBounded 123 = .ok (.iload 4, 2) := by decide +kernel
theorem dL_isBounded_125 : decode cL_isBounded 125 = .ok (.invokevirtual 89, 3) := by decide +kernel
theorem dL_isBounded_128 : decode cL_isBounded 128 = .ok (.iload_n 1, 1) := by decide +kernel
theorem dL_isBounded_129 : decode cL_isBounded 129 = .ok (.i2l, 1) := by decide +kernel
theorem dL_isBounded_130 : decode cL_isBounded 130 = .ok (.aload_n 0, 1) := by decide +kernel
theorem dL_isBounded_131 : decode cL_isBounded 131 = .ok (.iconst 2, 1) := by decide +kernel
theorem dL_isBounded_132 : decode cL_isBounded 132 = .ok (.iload 4, 2) := by decide +kernel
theorem dL_isBounded_134 : decode cL_isBounded 134 = .ok (.invokevirtual 92, 3) := by decide +kernel
theorem dL_isBounded_137 : decode cL_isBounded 137 = .ok (.lsub, 1) := by decide +kernel
theorem dL_isBounded_138 : decode cL_isBounded 138 = .ok (.lcmp, 1) := by decide +kernel
theorem dL_isBounded_139 : decode cL_isBounded 139 = .ok (.ifCond .ne 37, 3) := by decide +kernel
theorem dL_isBounded_142 : decode cL_isBounded 142 = .ok (.aload_n 0, 1) := by decide +kernel
theorem dL_isBounded_143 : decode cL_isBounded 143 = .ok (.iconst 2, 1) := by decide +kernel
theorem dL_isBounded_144 : decode cL_isBounded 144 = .ok (.invokevirtual 46, 3) := by decide +kernel
theorem dL_isBounded_147 : decode cL_isBounded 147 = .ok (.iload 4, 2) := by decide +kernel
theorem dL_isBounded_149 : decode cL_isBounded 149 = .ok (.i2l, 1) := by decide +kernel
theorem dL_isBounded_150 : decode cL_isBounded 150 = .ok (.ladd, 1) := by decide +kernel
theorem dL_isBounded_151 : decode cL_isBounded 151 = .ok (.lload 5, 2) := by decide +kernel
theorem dL_isBounded_153 : decode cL_isBounded 153 = .ok (.lcmp, 1) := by decide +kernel
theorem dL_isBounded_154 : decode cL_isBounded 154 = .ok (.ifCond .lt 22, 3) := by decide +kernel
theorem dL_isBounded_157 : decode cL_isBounded 157 = .ok (.aload_n 0, 1) := by decide +kernel
theorem dL_isBounded_158 : decode cL_isBounded 158 = .ok (.iconst 2, 1) := by decide +kernel
theorem dL_isBounded_159 : decode cL_isBounded 159 = .ok (.iconst 0, 1) := by decide +kernel
theorem dL_isBounded_160 : decode cL_isBounded 160 = .ok (.invokevirtual 89, 3) := by decide +kernel
theorem dL_isBounded_163 : decode cL_isBounded 163 = .ok (.aload_n 0, 1) := by decide +kernel
theorem dL_isBounded_164 : decode cL_isBounded 164 = .ok (.iconst 2, 1) := by decide +kernel
theorem dL_isBounded_165 : decode cL_isBounded 165 = .ok (.invokevirtual 20, 3) := by decide +kernel
theorem dL_isBounded_168 : decode cL_isBounded 168 = .ok (.lcmp, 1) := by decide +kernel
theorem dL_isBounded_169 : decode cL_isBounded 169 = .ok (.ifCond .ne 7, 3) := by decide +kernel
theorem dL_isBounded_172 : decode cL_isBounded 172 = .ok (.iconst 1, 1) := by decide +kernel
theorem dL_isBounded_173 : decode cL_isBounded 173 = .ok (.goto 4, 3) := by decide +kernel
theorem dL_isBounded_176 : decode cL_isBounded 176 = .ok (.iconst 0, 1) := by decide +kernel
theorem dL_isBounded_177 : decode cL_isBounded 177 = .ok (.istore_n 3, 1) := by decide +kernel
theorem dL_isBounded_178 : decode cL_isBounded 178 = .ok (.aload_n 0, 1) := by decide +kernel
theorem dL_isBounded_179 : decode cL_isBounded 179 = .ok (.iconst 2, 1) := by decide +kernel
theorem dL_isBounded_180 : decode cL_isBounded 180 = .ok (.iload 7, 2) := by decide +kernel
theorem dL_isBounded_182 : decode cL_isBounded 182 = .ok (.invokevirtual 25, 3) := by decide +kernel
theorem dL_isBounded_185 : decode cL_isBounded 185 = .ok (.lload 8, 2) := by decide +kernel
theorem dL_isBounded_187 : decode cL_isBounded 187 = .ok (.lsub, 1) := by decide +kernel
theorem dL_isBounded_188 : decode cL_isBounded 188 = .ok (.lstore 12, 2) := by decide +kernel
theorem dL_isBounded_190 : decode cL_isBounded 190 = .ok (.iload_n 3, 1) := by decide +kernel
theorem dL_isBounded_191 : decode cL_isBounded 191 = .ok (.ifCond .eq 40, 3) := by decide +kernel
theorem dL_isBounded_194 : decode cL_isBounded 194 = .ok (.lload 12, 2) := by decide +kernel
theorem dL_isBounded_196 : decode cL_isBounded 196 = .ok (.iload 4, 2) := by decide +kernel
theorem dL_isBounded_198 : decode cL_isBounded 198 = .ok (.i2l, 1) := by decide +kernel
theorem dL_isBounded_199 : decode cL_isBounded 199 = .ok (.ldc2_w 95, 3) := by decide +kernel
theorem dL_isBounded_202 : decode cL_isBounded 202 = .ok (.lload 10, 2) := by decide +kernel
theorem dL_isBounded_204 : decode cL_isBounded 204 = .ok (.lmul, 1) := by decide +kernel
theorem dL_isBounded_205 : decode cL_isBounded 205 = .ok (.ladd, 1) := by decide +kernel
theorem dL_isBounded_206 : decode cL_isBounded 206 = .ok (.lcmp, 1) := by decide +kernel
theorem dL_isBounded_207 : decode cL_isBounded 207 = .ok (.ifCond .gt 24, 3) := by decide +kernel
theorem dL_isBounded_210 : decode cL_isBounded 210 = .ok (.lload 12, 2) := by decide +kernel
theorem dL_isBounded_212 : decode cL_isBounded 212 = .ok (.lneg, 1) := by decide +kernel
theorem dL_isBounded_213 : decode cL_isBounded 213 = .ok (.iload 4, 2) := by decide +kernel
theorem dL_isBounded_215 : decode cL_isBounded 215 = .ok (.i2l, 1) := by decide +kernel
theorem dL_isBounded_216 : decode cL_isBounded 216 = .ok (.ldc2_w 95, 3) := by decide +kernel
theorem dL_isBounded_219 : decode cL_isBounded 219 = .ok (.lload 10, 2) := by decide +kernel
theorem dL_isBounded_221 : decode cL_isBounded 221 = .ok (.lmul, 1) := by decide +kernel
theorem dL_isBounded_222 : decode cL_isBounded 222 = .ok (.ladd, 1) := by decide +kernel
theorem dL_isBounded_223 : decode cL_isBounded 223 = .ok (.lcmp, 1) := by decide +kernel
theorem dL_isBounded_224 : decode cL_isBounded 224 = .ok (.ifCond .gt 7, 3) := by decide +kernel
theorem dL_isBounded_227 : decode cL_isBounded 227 = .ok (.iconst 1, 1) := by decide +kernel
theorem dL_isBounded_228 : decode cL_isBounded 228 = .ok (.goto 4, 3) := by decide +kernel
theorem dL_isBounded_231 : decode cL_isBounded 231 = .ok (.iconst 0, 1) := by decide +kernel
theorem dL_isBounded_232 : decode cL_isBounded 232 = .ok (.istore_n 3, 1) := by decide +kernel
theorem dL_isBounded_233 : decode cL_isBounded 233 = .ok (.iload_n 3, 1) := by decide +kernel
theorem dL_isBounded_234 : decode cL_isBounded 234 = .ok (.ifCond .eq 71, 3) := by decide +kernel
theorem dL_isBounded_237 : decode cL_isBounded 237 = .ok (.aload_n 0, 1) := by decide +kernel
theorem dL_isBounded_238 : decode cL_isBounded 238 = .ok (.iconst 0, 1) := by decide +kernel
theorem dL_isBounded_239 : decode cL_isBounded 239 = .ok (.iconst 1, 1) := by decide +kernel
theorem dL_isBounded_240 : decode cL_isBounded 240 = .ok (.iconst 1, 1) := by decide +kernel
theorem dL_isBounded_241 : decode cL_isBounded 241 = .ok (.iconst 1, 1) := by decide +kernel
theorem dL_isBounded_242 : decode cL_isBounded 242 = .ok (.iconst 2, 1) := by decide +kernel
theorem dL_isBounded_243 : decode cL_isBounded 243 = .ok (.invokevirtual 97, 3) := by decide +kernel
theorem dL_isBounded_246 : decode cL_isBounded 246 = .ok (.lconst 0, 1) := by decide +kernel
theorem dL_isBounded_247 : decode cL_isBounded 247 = .ok (.lcmp, 1) := by decide +kernel
theorem dL_isBounded_248 : decode cL_isBounded 248 = .ok (.ifCond .lt 57, 3) := by decide +kernel
theorem dL_isBounded_251 : decode cL_isBounded 251 = .ok (.aload_n 0, 1) := by decide +kernel
theorem dL_isBounded_252 : decode cL_isBounded 252 = .ok (.iconst 2, 1) := by decide +kernel
theorem dL_isBounded_253 : decode cL_isBounded 253 = .ok (.iconst 1, 1) := by decide +kernel
theorem dL_isBounded_254 : decode cL_isBounded 254 = .ok (.iconst 1, 1) := by decide +kernel
theorem dL_isBounded_255 : decode cL_isBounded 255 = .ok (.iconst (-1), 1) := by decide +kernel
theorem dL_isBounded_256 : decode cL_isBounded 256 = .ok (.iconst 2, 1) := by decide +kernel
theorem dL_isBounded_257 : decode cL_isBounded 257 = .ok (.invokevirtual 97, 3) := by decide +kernel
theorem dL_isBounded_260 : decode cL_isBounded 260 = .ok (.iload_n 1, 1) := by decide +kernel
theorem dL_isBounded_261 : decode cL_isBounded 261 = .ok (.i2l, 1) := by decide +kernel
theorem dL_isBounded_262 : decode cL_isBounded 262 = .ok (.lcmp, 1) := by decide +kernel
theorem dL_isBounded_263 : decode cL_isBounded 263 = .ok (.ifCond .ne 42, 3) := by decide +kernel
theorem dL_isBounded_266 : decode cL_isBounded 266 = .ok (.aload_n 0, 1) := by decide +kernel
theorem dL_isBounded_267 : decode cL_isBounded 267 = .ok (.iconst 2, 1) := by decide +kernel
theorem dL_isBounded_268 : decode cL_isBounded 268 = .ok (.iconst 1, 1) := by decide +kernel
theorem dL_isBounded_269 : decode cL_isBounded 269 = .ok (.iconst 0, 1) := by decide +kernel
theorem dL_isBounded_270 : decode cL_isBounded 270 = .ok (.iconst (-1), 1) := by decide +kernel
theorem dL_isBounded_271 : decode cL_isBounded 271 = .ok (.iconst 3, 1) := by decide +kernel
theorem dL_isBounded_272 : decode cL_isBounded 272 = .ok (.invokevirtual 97, 3) := by decide +kernel
theorem dL_isBounded_275 : decode cL_isBounded 275 = .ok (.lconst 0, 1) := by decide +kernel
theorem dL_isBounded_276 : decode cL_isBounded 276 = .ok (.lcmp, 1) := by decide +kernel
theorem dL_isBounded_277 : decode cL_isBounded 277 = .ok (.ifCond .ne 28, 3) := by decide +kernel
theorem dL_isBounded_280 : decode cL_isBounded 280 = .ok (.aload_n 0, 1) := by decide +kernel
theorem dL_isBounded_281 : decode cL_isBounded 281 = .ok (.iconst 3, 1) := by decide +kernel
theorem dL_isBounded_282 : decode cL_isBounded 282 = .ok (.iconst 0, 1) := by decide +kernel
theorem dL_isBounded_283 : decode cL_isBounded 283 = .ok (.invokevirtual 38, 3) := by decide +kernel
theorem dL_isBounded_286 : decode cL_isBounded 286 = .ok (.lconst 0, 1) := by decide +kernel
theorem dL_isBounded_287 : decode cL_isBounded 287 = .ok (.lcmp, 1) := by decide +kernel
theorem dL_isBounded_288 : decode cL_isBounded 288 = .ok (.ifCond .ne 17, 3) := by decide +kernel
theorem dL_isBounded_291 : decode cL_isBounded 291 = .ok (.aload_n 0, 1) := by decide +kernel
theorem dL_isBounded_292 : decode cL_isBounded 292 = .ok (.iconst 3, 1) := by decide +kernel
theorem dL_isBounded_293 : decode cL_isBounded 293 = .ok (.invokevirtual 46, 3) := by decide +kernel
theorem dL_isBounded_296 : decode cL_isBounded 296 = .ok (.lconst 0, 1) := by decide +kernel
theorem dL_isBounded_297 : decode cL_isBounded 297 = .ok (.lcmp, 1) := by decide +kernel
theorem dL_isBounded_298 : decode cL_isBounded 298 = .ok (.ifCond .ne 7, 3) := by decide +kernel
theorem dL_isBounded_301 : decode cL_isBounded 301 = .ok (.iconst 1, 1) := by decide +kernel
theorem dL_isBounded_302 : decode cL_isBounded 302 = .ok (.goto 4, 3) := by decide +kernel
theorem dL_isBounded_305 : decode cL_isBounded 305 = .ok (.iconst 0, 1) := by decide +kernel
theorem dL_isBounded_306 : decode cL_isBounded 306 = .ok (.istore_n 3, 1) := by decide +kernel
theorem dL_isBounded_307 : decode cL_isBounded 307 = .ok (.iload_n 3, 1) := by decide +kernel
theorem dL_isBounded_308 : decode cL_isBounded 308 = .ok (.ifCond .eq 55, 3) := by decide +kernel
theorem dL_isBounded_311 : decode cL_isBounded 311 = .ok (.aload_n 0, 1) := by decide +kernel
theorem dL_isBounded_312 : decode cL_isBounded 312 = .ok (.iconst 3, 1) := by decide +kernel
theorem dL_isBounded_313 : decode cL_isBounded 313 = .ok (.iconst 0, 1) := by decide +kernel
theorem dL_isBounded_314 : decode cL_isBounded 314 = .ok (.invokevirtual 101, 3) := by decide +kernel
theorem dL_isBounded_317 : decode cL_isBounded 317 = .ok (.lconst 0, 1) := by decide +kernel
theorem dL_isBounded_318 : decode cL_isBounded 318 = .ok (.lcmp, 1) := by decide +kernel
theorem dL_isBounded_319 : decode cL_isBounded 319 = .ok (.ifCond .ne 44, 3) := by decide +kernel
theorem dL_isBounded_322 : decode cL_isBounded 322 = .ok (.aload_n 0, 1) := by decide +kernel
theorem dL_isBounded_323 : decode cL_isBounded 323 = .ok (.iconst 3, 1) := by decide +kernel
theorem dL_isBounded_324 : decode cL_isBounded 324 = .ok (.iconst 1, 1) := by decide +kernel
theorem dL_isBounded_325 : decode cL_isBounded 325 = .ok (.invokevirtual 101, 3) := by decide +kernel
theorem dL_isBounded_328 : decode cL_isBounded 328 = .ok (.ldc2_w 104, 3) := by decide +kernel
theorem dL_isBounded_331 : decode cL_isBounded 331 = .ok (.lcmp, 1) := by decide +kernel
theorem dL_isBounded_332 : decode cL_isBounded 332 = .ok (.ifCond .ne 31, 3) := by decide +kernel
theorem dL_isBounded_335 : decode cL_isBounded 335 = .ok (.lload 5, 2) := by decide +kernel
theorem dL_isBounded_337 : decode cL_isBounded 337 = .ok (.lconst 0, 1) := by decide +kernel
theorem dL_isBounded_338 : decode cL_isBounded 338 = .ok (.lcmp, 1) := by decide +kernel
theorem dL_isBounded_339 : decode cL_isBounded 339 = .ok (.ifCond .eq 20, 3) := by decide +kernel
theorem dL_isBounded_342 : decode cL_isBounded 342 = .ok (.aload_n 0, 1) := by decide +kernel
theorem dL_isBounded_343 : decode cL_isBounded 343 = .ok (.iconst 0, 1) := by decide +kernel
theorem dL_isBounded_344 : decode cL_isBounded 344 = .ok (.aload_n 0, 1) := by decide +kernel
theorem dL_isBounded_345 : decode cL_isBounded 345 = .ok (.iconst 0, 1) := by decide +kernel
theorem dL_isBounded_346 : decode cL_isBounded 346 = .ok (.iconst 0, 1) := by decide +kernel
theorem dL_isBounded_347 : decode cL_isBounded 347 = .ok (.invokevirtual 101, 3) := by decide +kernel
theorem dL_isBounded_350 : decode cL_isBounded 350 = .ok (.l2i, 1) := by decide +kernel
theorem dL_isBounded_351 : decode cL_isBounded 351 = .ok (.invokevirtual 38, 3) := by decide +kernel
theorem dL_isBounded_354 : decode cL_isBounded 354 = .ok (.lconst 0, 1) := by decide +kernel
theorem dL_isBounded_355 : decode cL_isBounded 355 = .ok (.lcmp, 1) := by decide +kernel
theorem dL_isBounded_356 : decode cL_isBounded 356 = .ok (.ifCond .eq 7, 3) := by decide +kernel
theorem dL_isBounded_359 : decode cL_isBounded 359 = .ok (.iconst 1, 1) := by decide +kernel
theorem dL_isBounded_360 : decode cL_isBounded 360 = .ok (.goto 4, 3) := by decide +kernel
theorem dL_isBounded_363 : decode cL_isBounded 363 = .ok (.iconst 0, 1) := by decide +kernel
theorem dL_isBounded_364 : decode cL_isBounded 364 = .ok (.ireturn, 1) := by decide +kernel
theorem dL_isRooted_0 : decode cL_isRooted 0 = .ok (.iload_n 1, 1) := by decide +kernel
theorem dL_isRooted_1 : decode cL_isRooted 1 = .ok (.iconst 2, 1) := by decide +kernel
theorem dL_isRooted_2 : decode cL_isRooted 2 = .ok (.ishr, 1) := by decide +kernel
theorem dL_isRooted_3 : decode cL_isRooted 3 = .ok (.ldc 106, 2) := by decide +kernel
theorem dL_isRooted_5 : decode cL_isRooted 5 = .ok (.irem, 1) := by decide +kernel
theorem dL_isRooted_6 : decode cL_isRooted 6 = .ok (.ldc 107, 2) := by decide +kernel
theorem dL_isRooted_8 : decode cL_isRooted 8 = .ok (.isub, 1) := by decide +kernel
theorem dL_isRooted_9 : decode cL_isRooted 9 = .ok (.istore_n 2, 1) := by decide +kernel
theorem dL_isRooted_10 : decode cL_isRooted 10 = .ok (.aload_n 0, 1) := by decide +kernel
theorem dL_isRooted_11 : decode cL_isRooted 11 = .ok (.iconst 1, 1) := by decide +kernel
theorem dL_isRooted_12 : decode cL_isRooted 12 = .ok (.iconst 0, 1) := by decide +kernel
theorem dL_isRooted_13 : decode cL_isRooted 13 = .ok (.invokevirtual 9, 3) := by decide +kernel
theorem dL_isRooted_16 : decode cL_isRooted 16 = .ok (.lconst 1, 1) := by decide +kernel
theorem dL_isRooted_17 : decode cL_isRooted 17 = .ok (.lcmp, 1) := by decide +kernel
theorem dL_isRooted_18 : decode cL_isRooted 18 = .ok (.ifCond .ne 57, 3) := by decide +kernel
theorem dL_isRooted_21 : decode cL_isRooted 21 = .ok (.aload_n 0, 1) := by decide +kernel
theorem dL_isRooted_22 : decode cL_isRooted 22 = .ok (.iconst 0, 1) := by decide +kernel
theorem dL_isRooted_23 : decode cL_isRooted 23 = .ok (.iconst 0, 1) := by decide +kernel
theorem dL_isRooted_24 : decode cL_isRooted 24 = .ok (.iload_n 2, 1) := by decide +kernel
theorem dL_isRooted_25 : decode cL_isRooted 25 = .ok (.ineg, 1) := by decide +kernel
theorem dL_isRooted_26 : decode cL_isRooted 26 = .ok (.invokevirtual 15, 3) := by decide +kernel
theorem dL_isRooted_29 : decode cL_isRooted 29 = .ok (.lconst 1, 1) := by decide +kernel
theorem dL_isRooted_30 : decode cL_isRooted 30 = .ok (.lcmp, 1) := by decide +kernel
theorem dL_isRooted_31 : decode cL_isRooted 31 = .ok (.ifCond .ne 44, 3) := by decide +kernel
theorem dL_isRooted_34 : decode cL_isRooted 34 = .ok (.aload_n 0, 1) := by decide +kernel
theorem dL_isRooted_35 : decode cL_isRooted 35 = .ok (.iconst 0, 1) := by decide +kernel
theorem dL_isRooted_36 : decode cL_isRooted 36 = .ok (.iload_n 2, 1) := by decide +kernel
theorem dL_isRooted_37 : decode cL_isRooted 37 = .ok (.invokevirtual 25, 3) := by decide +kernel
theorem dL_isRooted_40 : decode cL_isRooted 40 = .ok (.lconst 0, 1) := by decide +kernel
theorem dL_isRooted_41 : decode cL_isRooted 41 = .ok (.lcmp, 1) := by decide +kernel
theorem dL_isRooted_42 : decode cL_isRooted 42 = .ok (.ifCond .ne 33, 3) := by decide +kernel
theorem dL_isRooted_45 : decode cL_isRooted 45 = .ok (.aload_n 0, 1) := by decide +kernel
theorem dL_isRooted_46 : decode cL_isRooted 46 = .ok (.iconst 0, 1) := by decide +kernel
theorem dL_isRooted_47 : decode cL_isRooted 47 = .ok (.iconst (-1), 1) := by decide +kernel
theorem dL_isRooted_48 : decode cL_isRooted 48 = .ok (.invokevirtual 108, 3) := by decide +kernel
theorem dL_isRooted_51 : decode cL_isRooted 51 = .ok (.lconst 1, 1) := by decide +kernel
theorem dL_isRooted_52 : decode cL_isRooted 52 = .ok (.lcmp, 1) := by decide +kernel
theorem dL_isRooted_53 : decode cL_isRooted 53 = .ok (.ifCond .lt 22, 3) := by decide +kernel
theorem dL_isRooted_56 : decode cL_isRooted 56 = .ok (.aload_n 0, 1) := by decide +kernel
theorem dL_isRooted_57 : decode cL_isRooted 57 = .ok (.iconst 0, 1) := by decide +kernel
theorem dL_isRooted_58 : decode cL_isRooted 58 = .ok (.invokevirtual 111, 3) := by decide +kernel
theorem dL_isRooted_61 : decode cL_isRooted 61 = .ok (.ldc2_w 28, 3) := by decide +kernel
theorem dL_isRooted_64 : decode cL_isRooted 64 = .ok (.iload_n 2, 1) := by decide +kernel
theorem dL_isRooted_65 : decode cL_isRooted 65 = .ok (.i2l, 1) := by decide +kernel
theorem dL_isRooted_66 : decode cL_isRooted 66 = .ok (.lsub, 1) := by decide +kernel
theorem dL_isRooted_67 : decode cL_isRooted 67 = .ok (.lcmp, 1) := by decide +kernel
theorem dL_isRooted_68 : decode cL_isRooted 68 = .ok (.ifCond .ne 7, 3) := by decide +kernel
theorem dL_isRooted_71 : decode cL_isRooted 71 = .ok (.iconst 1, 1) := by decide +kernel
theorem dL_isRooted_72 : decode cL_isRooted 72 = .ok (.goto 4, 3) := by decide +kernel
theorem dL_isRooted_75 : decode cL_isRooted 75 = .ok (.iconst 0, 1) := by decide +kernel
theorem dL_isRooted_76 : decode cL_isRooted 76 = .ok (.istore_n 3, 1) := by decide +kernel
theorem dL_isRooted_77 : decode cL_isRooted 77 = .ok (.aload_n 0, 1) := by decide +kernel
theorem dL_isRooted_78 : decode cL_isRooted 78 = .ok (.iconst 0, 1) := by decide +kernel
theorem dL_isRooted_79 : decode cL_isRooted 79 = .ok (.iconst (-1), 1) := by decide +kernel
theorem dL_isRooted_80 : decode cL_isRooted 80 = .ok (.invokevirtual 108, 3) := by decide +kernel
theorem dL_isRooted_83 : decode cL_isRooted 83 = .ok (.lstore 4, 2) := by decide +kernel
theorem dL_isRooted_85 : decode cL_isRooted 85 = .ok (.iconst 0, 1) := by decide +kernel
theorem dL_isRooted_86 : decode cL_isRooted 86 = .ok (.istore 6, 2) := by decide +kernel
theorem dL_isRooted_88 : decode cL_isRooted 88 = .ok (.iconst 0, 1) := by decide +kernel
theorem dL_isRooted_89 : decode cL_isRooted 89 = .ok (.istore 7, 2) := by decide +kernel
theorem dL_isRooted_91 : decode cL_isRooted 91 = .ok (.iload 7, 2) := by decide +kernel
theorem dL_isRooted_93 : decode cL_isRooted 93 = .ok (.i2l, 1) := by decide +kernel
theorem dL_isRooted_94 : decode cL_isRooted 94 = .ok (.lload 4, 2) := by decide +kernel
theorem dL_isRooted_96 : decode cL_isRooted 96 = .ok (.lcmp, 1) := by decide +kernel
theorem dL_isRooted_97 : decode cL_isRooted 97 = .ok (.ifCond .ge 51, 3) := by decide +kernel
theorem dL_isRooted_100 : decode cL_isRooted 100 = .ok (.aload_n 0, 1) := by decide +kernel
theorem dL_isRooted_101 : decode cL_isRooted 101 = .ok (.iconst 0, 1) := by decide +kernel
theorem dL_isRooted_102 : decode cL_isRooted 102 = .ok (.iload 7, 2) := by decide +kernel
theorem dL_isRooted_104 : decode cL_isRooted 104 = .ok (.invokevirtual 108, 3) := by decide +kernel
theorem dL_isRooted_107 : decode cL_isRooted 107 = .ok (.iload_n 2, 1) := by decide +kernel
theorem dL_isRooted_108 : decode cL_isRooted 108 = .ok (.i2l, 1) := by decide +kernel
theorem dL_isRooted_109 : decode cL_isRooted 109 = .ok (.lsub, 1) := by decide +kernel
theorem dL_isRooted_110 : decode cL_isRooted 110 = .ok (.lstore 8, 2) := by decide +kernel
theorem dL_isRooted_112 : decode cL_isRooted 112 = .ok (.iload 6, 2) := by decide +kernel
theorem dL_isRooted_114 : decode cL_isRooted 114 = .ok (.ifCond .ne 21, 3) := by decide +kernel
theorem dL_isRooted_117 : decode cL_isRooted 117 = .ok (.lload 8, 2) := by decide +kernel
theorem dL_isRooted_119 : decode cL_isRooted 119 = .ok (.ldc2_w 114, 3) := by decide +kernel
theorem dL_isRooted_122 : decode cL_isRooted 122 = .ok (.lcmp, 1) := by decide +kernel
theorem dL_isRooted_123 : decode cL_isRooted 123 = .ok (.ifCond .gt 16, 3) := by decide +kernel
theorem dL_isRooted_126 : decode cL_isRooted 126 = .ok (.lload 8, 2) := by decide +kernel
theorem dL_isRooted_128 : decode cL_isRooted 128 = .ok (.ldc2_w 116, 3) := by decide +kernel
theorem dL_isRooted_131 : decode cL_isRooted 131 = .ok (.lcmp, 1) := by decide +kernel
theorem dL_isRooted_132 : decode cL_isRooted 132 = .ok (.ifCond .lt 7, 3) := by decide +kernel
theorem dL_isRooted_135 : decode cL_isRooted 135 = .ok (.iconst 1, 1) := by decide +kernel
theorem dL_isRooted_136 : decode cL_isRooted 136 = .ok (.goto 4, 3) := by decide +kernel
theorem dL_isRooted_139 : decode cL_isRooted 139 = .ok (.iconst 0, 1) := by decide +kernel
theorem dL_isRooted_140 : decode cL_isRooted 140 = .ok (.istore 6, 2) := by decide +kernel
theorem dL_isRooted_142 : decode cL_isRooted 142 = .ok (.iinc 7 1, 3) := by decide +kernel
theorem dL_isRooted_145 : decode cL_isRooted 145 = .ok (.goto (-54), 3) := by decide +kernel
theorem dL_isRooted_148 : decode cL_isRooted 148 = .ok (.iload_n 3, 1) := by decide +kernel
theorem dL_isRooted_149 : decode cL_isRooted 149 = .ok (.ifCond .eq 47, 3) := by decide +kernel
theorem dL_isRooted_152 : decode cL_isRooted 152 = .ok (.iload 6, 2) := by decide +kernel
theorem dL_isRooted_154 : decode cL_isRooted 154 = .ok (.ifCond .eq 42, 3) := by decide +kernel
theorem dL_isRooted_157 : decode cL_isRooted 157 = .ok (.aload_n 0, 1) := by decide +kernel
theorem dL_isRooted_158 : decode cL_isRooted 158 = .ok (.iconst 0, 1) := by decide +kernel
theorem dL_isRooted_159 : decode cL_isRooted 159 = .ok (.iload_n 2, 1) := by decide +kernel
theorem dL_isRooted_160 : decode cL_isRooted 160 = .ok (.iconst 1, 1) := by decide +kernel
theorem dL_isRooted_161 : decode cL_isRooted 161 = .ok (.invokevirtual 118, 3) := by decide +kernel
theorem dL_isRooted_164 : decode cL_isRooted 164 = .ok (.lconst 0, 1) := by decide +kernel
theorem dL_isRooted_165 : decode cL_isRooted 165 = .ok (.lcmp, 1) := by decide +kernel
theorem dL_isRooted_166 : decode cL_isRooted 166 = .ok (.ifCond .ne 30, 3) := by decide +kernel
theorem dL_isRooted_169 : decode cL_isRooted 169 = .ok (.aload_n 0, 1) := by decide +kernel
theorem dL_isRooted_170 : decode cL_isRooted 170 = .ok (.iconst 1, 1) := by decide +kernel
theorem dL_isRooted_171 : decode cL_isRooted 171 = .ok (.invokevirtual 20, 3) := by decide +kernel
theorem dL_isRooted_174 : decode cL_isRooted 174 = .ok (.lconst 0, 1) := by decide +kernel
theorem dL_isRooted_175 : decode cL_isRooted 175 = .ok (.lcmp, 1) := by decide +kernel
theorem dL_isRooted_176 : decode cL_isRooted 176 = .ok (.ifCond .ne 20, 3) := by decide +kernel
theorem dL_isRooted_179 : decode cL_isRooted 179 = .ok (.aload_n 0, 1) := by decide +kernel
theorem dL_isRooted_180 : decode cL_isRooted 180 = .ok (.iconst 1, 1) := by decide +kernel
theorem dL_isRooted_181 : decode cL_isRooted 181 = .ok (.iconst 0, 1) := by decide +kernel
theorem dL_isRooted_182 : decode cL_isRooted 182 = .ok (.invokevirtual 38, 3) := by decide +kernel
theorem dL_isRooted_185 : decode cL_isRooted 185 = .ok (.ldc2_w 28, 3) := by decide +kernel
theorem dL_isRooted_188 : decode cL_isRooted 188 = .ok (.lcmp, 1) := by decide +kernel
theorem dL_isRooted_189 : decode cL_isRooted 189 = .ok (.ifCond .ne 7, 3) := by decide +kernel
theorem dL_isRooted_192 : decode cL_isRooted 192 = .ok (.iconst 1, 1) := by decide +kernel
theorem dL_isRooted_193 : decode cL_isRooted 193 = .ok (.goto 4, 3) := by decide +kernel
theorem dL_isRooted_196 : decode cL_isRooted 196 = .ok (.iconst 0, 1) := by decide +kernel
theorem dL_isRooted_197 : decode cL_isRooted 197 = .ok (.istore_n 3, 1) := by decide +kernel
theorem dL_isRooted_198 : decode cL_isRooted 198 = .ok (.iload_n 3, 1) := by decide +kernel
theorem dL_isRooted_199 : decode cL_isRooted 199 = .ok (.ifCond .eq 49, 3) := by decide +kernel
theorem dL_isRooted_202 : decode cL_isRooted 202 = .ok (.aload_n 0, 1) := by decide +kernel
theorem dL_isRooted_203 : decode cL_isRooted 203 = .ok (.iconst 0, 1) := by decide +kernel
theorem dL_isRooted_204 : decode cL_isRooted 204 = .ok (.iconst 2, 1) := by decide +kernel
theorem dL_isRooted_205 : decode cL_isRooted 205 = .ok (.invokevirtual 9, 3) := by decide +kernel
theorem dL_isRooted_208 : decode cL_isRooted 208 = .ok (.lconst 0, 1) := by decide +kernel
theorem dL_isRooted_209 : decode cL_isRooted 209 = .ok (.lcmp, 1) := by decide +kernel
theorem dL_isRooted_210 : decode cL_isRooted 210 = .ok (.ifCond .ne 38, 3) := by decide +kernel
theorem dL_isRooted_213 : decode cL_isRooted 213 = .ok (.aload_n 0, 1) := by decide +kernel
theorem dL_isRooted_214 : decode cL_isRooted 214 = .ok (.iconst 2, 1) := by decide +kernel
theorem dL_isRooted_215 : decode cL_isRooted 215 = .ok (.iconst 1, 1) := by decide +kernel
theorem dL_isRooted_216 : decode cL_isRooted 216 = .ok (.iconst 1, 1) := by decide +kernel
theorem dL_isRooted_217 : decode cL_isRooted 217 = .ok (.iload_n 1, 1) := by decide +kernel
theorem dL_isRooted_218 : decode cL_isRooted 218 = .ok (.ldc 121, 2) := by decide +kernel
theorem dL_isRooted_220 : decode cL_isRooted 220 = .ok (.irem, 1) := by decide +kernel
theorem dL_isRooted_221 : decode cL_isRooted 221 = .ok (.iadd, 1) := by decide +kernel
theorem dL_isRooted_222 : decode cL_isRooted 222 = .ok (.invokevirtual 15, 3) := by decide +kernel
theorem dL_isRooted_225 : decode cL_isRooted 225 = .ok (.lconst 1, 1) := by decide +kernel
theorem dL_isRooted_226 : decode cL_isRooted 226 = .ok (.lcmp, 1) := by decide +kernel
theorem dL_isRooted_227 : decode cL_isRooted 227 = .ok (.ifCond .ne 21, 3) := by decide +kernel
theorem dL_isRooted_230 : decode cL_isRooted 230 = .ok (.aload_n 0, 1) := by decide +kernel
theorem dL_isRooted_231 : decode cL_isRooted 231 = .ok (.iconst 0, 1) := by decide +kernel
theorem dL_isRooted_232 : decode cL_isRooted 232 = .ok (.iconst 2, 1) := by decide +kernel
theorem dL_isRooted_233 : decode cL_isRooted 233 = .ok (.iconst 3, 1) := by decide +kernel
theorem dL_isRooted_234 : decode cL_isRooted 234 = .ok (.invokevirtual 33, 3) := by decide +kernel
theorem dL_isRooted_237 : decode cL_isRooted 237 = .ok (.ldc2_w 95, 3) := by decide +kernel
theorem dL_isRooted_240 : decode cL_isRooted 240 = .ok (.lcmp, 1) := by decide +kernel
theorem dL_isRooted_241 : decode cL_isRooted 241 = .ok (.ifCond .ne 7, 3) := by decide +kernel
theorem dL_isRooted_244 : decode cL_isRooted 244 = .ok (.iconst 1, 1) := by decide +kernel
theorem dL_isRooted_245 : decode cL_isRooted 245 = .ok (.goto 4, 3) := by decide +kernel
theorem dL_isRooted_248 : decode cL_isRooted 248 = .ok (.iconst 0, 1) := by decide +kernel
theorem dL_isRooted_249 : decode cL_isRooted 249 = .ok (.istore_n 3, 1) := by decide +kernel
theorem dL_isRooted_250 : decode cL_isRooted 250 = .ok (.aload_n 0, 1) := by decide +kernel
theorem dL_isRooted_251 : decode cL_isRooted 251 = .ok (.iconst 3, 1) := by decide +kernel
theorem dL_isRooted_252 : decode cL_isRooted 252 = .ok (.iload_n 2, 1) := by decide +kernel
theorem dL_isRooted_253 : decode cL_isRooted 253 = .ok (.iconst 4, 1) := by decide +kernel
theorem dL_isRooted_254 : decode cL_isRooted 254 = .ok (.invokevirtual 118, 3) := by decide +kernel
theorem dL_isRooted_257 : decode cL_isRooted 257 = .ok (.lstore 7, 2) := by decide +kernel
theorem dL_isRooted_259 : decode cL_isRooted 259 = .ok (.aload_n 0, 1) := by decide +kernel
theorem dL_isRooted_260 : decode cL_isRooted 260 = .ok (.iconst 4, 1) := by decide +kernel
theorem dL_isRooted_261 : decode cL_isRooted 261 = .ok (.iconst 1, 1) := by decide +kernel
theorem dL_isRooted_262 : decode cL_isRooted 262 = .ok (.invokevirtual 38, 3) := by decide +kernel
theorem dL_isRooted_265 : decode cL_isRooted 265 = .ok (.aload_n 0, 1) := by decide +kernel
theorem dL_isRooted_266 : decode cL_isRooted 266 = .ok (.iconst 2, 1) := by decide +kernel
theorem dL_isRooted_267 : decode cL_isRooted 267 = .ok (.iconst 1, 1) := by decide +kernel
theorem dL_isRooted_268 : decode cL_isRooted 268 = .ok (.invokevirtual 38, 3) := by decide +kernel
theorem dL_isRooted_271 : decode cL_isRooted 271 = .ok (.lsub, 1) := by decide +kernel
theorem dL_isRooted_272 : decode cL_isRooted 272 = .ok (.lstore 9, 2) := by decide +kernel
theorem dL_isRooted_274 : decode cL_isRooted 274 = .ok (.iload_n 3, 1) := by decide +kernel
theorem dL_isRooted_275 : decode cL_isRooted 275 = .ok (.ifCond .eq 67, 3) := by decide +kernel
theorem dL_isRooted_278 : decode cL_isRooted 278 = .ok (.lload 7, 2) := by decide +kernel
theorem dL_isRooted_280 : decode cL_isRooted 280 = .ok (.ldc2_w 122, 3) := by decide +kernel
theorem dL_isRooted_283 : decode cL_isRooted 283 = .ok (.lcmp, 1) := by decide +kernel
theorem dL_isRooted_284 : decode cL_isRooted 284 = .ok (.ifCond .gt 58, 3) := by decide +kernel
theorem dL_isRooted_287 : decode cL_isRooted 287 = .ok (.lload 7, 2) := by decide +kernel
theorem dL_isRooted_289 : decode cL_isRooted 289 = .ok (.ldc2_w 124, 3) := by decide +kernel
theorem dL_isRooted_292 : decode cL_isRooted 292 = .ok (.lcmp, 1) := by decide +kernel
theorem dL_isRooted_293 : decode cL_isRooted 293 = .ok (.ifCond .lt 49, 3) := by decide +kernel
theorem dL_isRooted_296 : decode cL_isRooted 296 = .ok (.lload 9, 2) := by decide +kernel
theorem dL_isRooted_298 : decode cL_isRooted 298 = .ok (.ldc2_w 122, 3) := by decide +kernel
theorem dL_isRooted_301 : decode cL_isRooted 301 = .ok (.lcmp, 1) := by decide +kernel
theorem dL_isRooted_302 : decode cL_isRooted 302 = .ok (.ifCond .gt 40, 3) := by decide +kernel
theorem dL_isRooted_305 : decode cL_isRooted 305 = .ok (.lload 9, 2) := by decide +kernel
theorem dL_isRooted_307 : decode cL_isRooted 307 = .ok (.ldc2_w 124, 3) := by decide +kernel
theorem dL_isRooted_310 : decode cL_isRooted 310 = .ok (.lcmp, 1) := by decide +kernel
theorem dL_isRooted_311 : decode cL_isRooted 311 = .ok (.ifCond .lt 31, 3) := by decide +kernel
theorem dL_isRooted_314 : decode cL_isRooted 314 = .ok (.aload_n 0, 1) := by decide +kernel
theorem dL_isRooted_315 : decode cL_isRooted 315 = .ok (.iconst 2, 1) := by decide +kernel
theorem dL_isRooted_316 : decode cL_isRooted 316 = .ok (.iload_n 2, 1) := by decide +kernel
theorem dL_isRooted_317 : decode cL_isRooted 317 = .ok (.iconst 2, 1) := by decide +kernel
theorem dL_isRooted_318 : decode cL_isRooted 318 = .ok (.invokevirtual 118, 3) := by decide +kernel
theorem dL_isRooted_321 : decode cL_isRooted 321 = .ok (.ldc2_w 126, 3) := by decide +kernel
theorem dL_isRooted_324 : decode cL_isRooted 324 = .ok (.lcmp, 1) := by decide +kernel
theorem dL_isRooted_325 : decode cL_isRooted 325 = .ok (.ifCond .lt 17, 3) := by decide +kernel
theorem dL_isRooted_328 : decode cL_isRooted 328 = .ok (.aload_n 0, 1) := by decide +kernel
theorem dL_isRooted_329 : decode cL_isRooted 329 = .ok (.iconst 2, 1) := by decide +kernel
theorem dL_isRooted_330 : decode cL_isRooted 330 = .ok (.invokevirtual 20, 3) := by decide +kernel
theorem dL_isRooted_333 : decode cL_isRooted 333 = .ok (.lconst 0, 1) := by decide +kernel
theorem dL_isRooted_334 : decode cL_isRooted 334 = .ok (.lcmp, 1) := by decide +kernel
theorem dL_isRooted_335 : decode cL_isRooted 335 = .ok (.ifCond .ne 7, 3) := by decide +kernel
theorem dL_isRooted_338 : decode cL_isRooted 338 = .ok (.iconst 1, 1) := by decide +kernel
theorem dL_isRooted_339 : decode cL_isRooted 339 = .ok (.goto 4, 3) := by decide +kernel
theorem dL_isRooted_342 : decode cL_isRooted 342 = .ok (.iconst 0, 1) := by decide +kernel
theorem dL_isRooted_343 : decode cL_isRooted 343 = .ok (.ireturn, 1) := by decide +kernel
