theorem dMO_payment_69 : decode bMO_payment 69 = .ok (.invokevirtual 20, 3) := by decide +kernel
theorem dMO_payment_72 : decode bMO_payment 72 = .ok (.ifCond .eq 16, 3) := by decide +kernel
theorem dMO_payment_75 : decode bMO_payment 75 = .ok (.aload_n 0, 1) := by decide +kernel
theorem dMO_payment_76 : decode bMO_payment 76 = .ok (.getfield 7, 3) := by decide +kernel
theorem dMO_payment_79 : decode bMO_payment 79 = .ok (.iconst 1, 1) := by decide +kernel
theorem dMO_payment_80 : decode bMO_payment 80 = .ok (.laload, 1) := by decide +kernel
theorem dMO_payment_81 : decode bMO_payment 81 = .ok (.ldc2_w 34, 3) := by decide +kernel
theorem dMO_payment_84 : decode bMO_payment 84 = .ok (.lcmp, 1) := by decide +kernel
theorem dMO_payment_85 : decode bMO_payment 85 = .ok (.ifCond .ne 5, 3) := by decide +kernel
theorem dMO_payment_88 : decode bMO_payment 88 = .ok (.iconst (-1), 1) := by decide +kernel
theorem dMO_payment_89 : decode bMO_payment 89 = .ok (.ireturn, 1) := by decide +kernel
theorem dMO_payment_90 : decode bMO_payment 90 = .ok (.aload_n 0, 1) := by decide +kernel
theorem dMO_payment_91 : decode bMO_payment 91 = .ok (.iload_n 1, 1) := by decide +kernel
theorem dMO_payment_92 : decode bMO_payment 92 = .ok (.invokevirtual 70, 3) := by decide +kernel
theorem dMO_payment_95 : decode bMO_payment 95 = .ok (.ifCond .ne 45, 3) := by decide +kernel
theorem dMO_payment_98 : decode bMO_payment 98 = .ok (.aload_n 0, 1) := by decide +kernel
theorem dMO_payment_99 : decode bMO_payment 99 = .ok (.getfield 7, 3) := by decide +kernel
theorem dMO_payment_102 : decode bMO_payment 102 = .ok (.iconst 4, 1) := by decide +kernel
theorem dMO_payment_103 : decode bMO_payment 103 = .ok (.laload, 1) := by decide +kernel
theorem dMO_payment_104 : decode bMO_payment 104 = .ok (.ldc2_w 73, 3) := by decide +kernel
theorem dMO_payment_107 : decode bMO_payment 107 = .ok (.lcmp, 1) := by decide +kernel
theorem dMO_payment_108 : decode bMO_payment 108 = .ok (.ifCond .ge 30, 3) := by decide +kernel
theorem dMO_payment_111 : decode bMO_payment 111 = .ok (.aload_n 0, 1) := by decide +kernel
theorem dMO_payment_112 : decode bMO_payment 112 = .ok (.getfield 7, 3) := by decide +kernel
theorem dMO_payment_115 : decode bMO_payment 115 = .ok (.sipush 1200, 3) := by decide +kernel
theorem dMO_payment_118 : decode bMO_payment 118 = .ok (.aload_n 0, 1) := by decide +kernel
theorem dMO_payment_119 : decode bMO_payment 119 = .ok (.getfield 7, 3) := by decide +kernel
theorem dMO_payment_122 : decode bMO_payment 122 = .ok (.iconst 4, 1) := by decide +kernel
theorem dMO_payment_123 : decode bMO_payment 123 = .ok (.laload, 1) := by decide +kernel
theorem dMO_payment_124 : decode bMO_payment 124 = .ok (.l2i, 1) := by decide +kernel
theorem dMO_payment_125 : decode bMO_payment 125 = .ok (.iadd, 1) := by decide +kernel
theorem dMO_payment_126 : decode bMO_payment 126 = .ok (.lload_n 2, 1) := by decide +kernel
theorem dMO_payment_127 : decode bMO_payment 127 = .ok (.lastore, 1) := by decide +kernel
theorem dMO_payment_128 : decode bMO_payment 128 = .ok (.aload_n 0, 1) := by decide +kernel
theorem dMO_payment_129 : decode bMO_payment 129 = .ok (.getfield 7, 3) := by decide +kernel
theorem dMO_payment_132 : decode bMO_payment 132 = .ok (.iconst 4, 1) := by decide +kernel
theorem dMO_payment_133 : decode bMO_payment 133 = .ok (.dup2, 1) := by decide +kernel
theorem dMO_payment_134 : decode bMO_payment 134 = .ok (.laload, 1) := by decide +kernel
theorem dMO_payment_135 : decode bMO_payment 135 = .ok (.lconst 1, 1) := by decide +kernel
theorem dMO_payment_136 : decode bMO_payment 136 = .ok (.ladd, 1) := by decide +kernel
theorem dMO_payment_137 : decode bMO_payment 137 = .ok (.lastore, 1) := by decide +kernel
theorem dMO_payment_138 : decode bMO_payment 138 = .ok (.iconst (-1), 1) := by decide +kernel
theorem dMO_payment_139 : decode bMO_payment 139 = .ok (.ireturn, 1) := by decide +kernel
theorem dMO_payment_140 : decode bMO_payment 140 = .ok (.aload_n 0, 1) := by decide +kernel
theorem dMO_payment_141 : decode bMO_payment 141 = .ok (.lload 4, 2) := by decide +kernel
theorem dMO_payment_143 : decode bMO_payment 143 = .ok (.iconst 1, 1) := by decide +kernel
theorem dMO_payment_144 : decode bMO_payment 144 = .ok (.invokevirtual 43, 3) := by decide +kernel
theorem dMO_payment_147 : decode bMO_payment 147 = .ok (.istore 7, 2) := by decide +kernel
theorem dMO_payment_149 : decode bMO_payment 149 = .ok (.aload_n 0, 1) := by decide +kernel
theorem dMO_payment_150 : decode bMO_payment 150 = .ok (.iload 7, 2) := by decide +kernel
theorem dMO_payment_152 : decode bMO_payment 152 = .ok (.iload 6, 2) := by decide +kernel
theorem dMO_payment_154 : decode bMO_payment 154 = .ok (.lload_n 2, 1) := by decide +kernel
theorem dMO_payment_155 : decode bMO_payment 155 = .ok (.invokevirtual 56, 3) := by decide +kernel
theorem dMO_payment_158 : decode bMO_payment 158 = .ok (.aload_n 0, 1) := by decide +kernel
theorem dMO_payment_159 : decode bMO_payment 159 = .ok (.iload 7, 2) := by decide +kernel
theorem dMO_payment_161 : decode bMO_payment 161 = .ok (.iload_n 1, 1) := by decide +kernel
theorem dMO_payment_162 : decode bMO_payment 162 = .ok (.lload_n 2, 1) := by decide +kernel
theorem dMO_payment_163 : decode bMO_payment 163 = .ok (.lneg, 1) := by decide +kernel
theorem dMO_payment_164 : decode bMO_payment 164 = .ok (.invokevirtual 56, 3) := by decide +kernel
theorem dMO_payment_167 : decode bMO_payment 167 = .ok (.aload_n 0, 1) := by decide +kernel
theorem dMO_payment_168 : decode bMO_payment 168 = .ok (.getfield 7, 3) := by decide +kernel
theorem dMO_payment_171 : decode bMO_payment 171 = .ok (.sipush 140, 3) := by decide +kernel
theorem dMO_payment_174 : decode bMO_payment 174 = .ok (.iload 7, 2) := by decide +kernel
theorem dMO_payment_176 : decode bMO_payment 176 = .ok (.iadd, 1) := by decide +kernel
theorem dMO_payment_177 : decode bMO_payment 177 = .ok (.lconst 1, 1) := by decide +kernel
theorem dMO_payment_178 : decode bMO_payment 178 = .ok (.lastore, 1) := by decide +kernel
theorem dMO_payment_179 : decode bMO_payment 179 = .ok (.lload_n 2, 1) := by decide +kernel
theorem dMO_payment_180 : decode bMO_payment 180 = .ok (.lstore 8, 2) := by decide +kernel
theorem dMO_payment_182 : decode bMO_payment 182 = .ok (.iconst 0, 1) := by decide +kernel
theorem dMO_payment_183 : decode bMO_payment 183 = .ok (.istore 10, 2) := by decide +kernel
theorem dMO_payment_185 : decode bMO_payment 185 = .ok (.aload_n 0, 1) := by decide +kernel
theorem dMO_payment_186 : decode bMO_payment 186 = .ok (.iload_n 1, 1) := by decide +kernel
theorem dMO_payment_187 : decode bMO_payment 187 = .ok (.iload 10, 2) := by decide +kernel
theorem dMO_payment_189 : decode bMO_payment 189 = .ok (.invokevirtual 75, 3) := by decide +kernel
theorem dMO_payment_192 : decode bMO_payment 192 = .ok (.ifCond .lt 112, 3) := by decide +kernel
theorem dMO_payment_195 : decode bMO_payment 195 = .ok (.aload_n 0, 1) := by decide +kernel
theorem dMO_payment_196 : decode bMO_payment 196 = .ok (.iload_n 1, 1) := by decide +kernel
theorem dMO_payment_197 : decode bMO_payment 197 = .ok (.iload 10, 2) := by decide +kernel
theorem dMO_payment_199 : decode bMO_payment 199 = .ok (.invokevirtual 75, 3) := by decide +kernel
theorem dMO_payment_202 : decode bMO_payment 202 = .ok (.istore 11, 2) := by decide +kernel
theorem dMO_payment_204 : decode bMO_payment 204 = .ok (.lload 8, 2) := by decide +kernel
theorem dMO_payment_206 : decode bMO_payment 206 = .ok (.aload_n 0, 1) := by decide +kernel
theorem dMO_payment_207 : decode bMO_payment 207 = .ok (.getfield 7, 3) := by decide +kernel
theorem dMO_payment_210 : decode bMO_payment 210 = .ok (.sipush 780, 3) := by decide +kernel
theorem dMO_payment_213 : decode bMO_payment 213 = .ok (.iload 11, 2) := by decide +kernel
theorem dMO_payment_215 : decode bMO_payment 215 = .ok (.iadd, 1) := by decide +kernel
theorem dMO_payment_216 : decode bMO_payment 216 = .ok (.laload, 1) := by decide +kernel
theorem dMO_payment_217 : decode bMO_payment 217 = .ok (.lcmp, 1) := by decide +kernel
theorem dMO_payment_218 : decode bMO_payment 218 = .ok (.ifCond .ge 8, 3) := by decide +kernel
theorem dMO_payment_221 : decode bMO_payment 221 = .ok (.lload 8, 2) := by decide +kernel
theorem dMO_payment_223 : decode bMO_payment 223 = .ok (.goto 14, 3) := by decide +kernel
theorem dMO_payment_226 : decode bMO_payment 226 = .ok (.aload_n 0, 1) := by decide +kernel
theorem dMO_payment_227 : decode bMO_payment 227 = .ok (.getfield 7, 3) := by decide +kernel
theorem dMO_payment_230 : decode bMO_payment 230 = .ok (.sipush 780, 3) := by decide +kernel
theorem dMO_payment_233 : decode bMO_payment 233 = .ok (.iload 11, 2) := by decide +kernel
theorem dMO_payment_235 : decode bMO_payment 235 = .ok (.iadd, 1) := by decide +kernel
theorem dMO_payment_236 : decode bMO_payment 236 = .ok (.laload, 1) := by decide +kernel
theorem dMO_payment_237 : decode bMO_payment 237 = .ok (.lstore 12, 2) := by decide +kernel
theorem dMO_payment_239 : decode bMO_payment 239 = .ok (.lload 12, 2) := by decide +kernel
theorem dMO_payment_241 : decode bMO_payment 241 = .ok (.lconst 0, 1) := by decide +kernel
theorem dMO_payment_242 : decode bMO_payment 242 = .ok (.lcmp, 1) := by decide +kernel
theorem dMO_payment_243 : decode bMO_payment 243 = .ok (.ifCond .le 55, 3) := by decide +kernel
theorem dMO_payment_246 : decode bMO_payment 246 = .ok (.aload_n 0, 1) := by decide +kernel
theorem dMO_payment_247 : decode bMO_payment 247 = .ok (.getfield 7, 3) := by decide +kernel
theorem dMO_payment_250 : decode bMO_payment 250 = .ok (.sipush 780, 3) := by decide +kernel
theorem dMO_payment_253 : decode bMO_payment 253 = .ok (.iload 11, 2) := by decide +kernel
theorem dMO_payment_255 : decode bMO_payment 255 = .ok (.iadd, 1) := by decide +kernel
theorem dMO_payment_256 : decode bMO_payment 256 = .ok (.dup2, 1) := by decide +kernel
theorem dMO_payment_257 : decode bMO_payment 257 = .ok (.laload, 1) := by decide +kernel
theorem dMO_payment_258 : decode bMO_payment 258 = .ok (.lload 12, 2) := by decide +kernel
theorem dMO_payment_260 : decode bMO_payment 260 = .ok (.lsub, 1) := by decide +kernel
theorem dMO_payment_261 : decode bMO_payment 261 = .ok (.lastore, 1) := by decide +kernel
theorem dMO_payment_262 : decode bMO_payment 262 = .ok (.lload 8, 2) := by decide +kernel
theorem dMO_payment_264 : decode bMO_payment 264 = .ok (.lload 12, 2) := by decide +kernel
theorem dMO_payment_266 : decode bMO_payment 266 = .ok (.lsub, 1) := by decide +kernel
theorem dMO_payment_267 : decode bMO_payment 267 = .ok (.lstore 8, 2) := by decide +kernel
theorem dMO_payment_269 : decode bMO_payment 269 = .ok (.aload_n 0, 1) := by decide +kernel
theorem dMO_payment_270 : decode bMO_payment 270 = .ok (.getfield 7, 3) := by decide +kernel
theorem dMO_payment_273 : decode bMO_payment 273 = .ok (.sipush 1020, 3) := by decide +kernel
theorem dMO_payment_276 : decode bMO_payment 276 = .ok (.iconst 4, 1) := by decide +kernel
theorem dMO_payment_277 : decode bMO_payment 277 = .ok (.iload 7, 2) := by decide +kernel
theorem dMO_payment_279 : decode bMO_payment 279 = .ok (.imul, 1) := by decide +kernel
theorem dMO_payment_280 : decode bMO_payment 280 = .ok (.iadd, 1) := by decide +kernel
theorem dMO_payment_281 : decode bMO_payment 281 = .ok (.iload 11, 2) := by decide +kernel
theorem dMO_payment_283 : decode bMO_payment 283 = .ok (.bipush 60, 2) := by decide +kernel
theorem dMO_payment_285 : decode bMO_payment 285 = .ok (.idiv, 1) := by decide +kernel
theorem dMO_payment_286 : decode bMO_payment 286 = .ok (.iadd, 1) := by decide +kernel
theorem dMO_payment_287 : decode bMO_payment 287 = .ok (.dup2, 1) := by decide +kernel
theorem dMO_payment_288 : decode bMO_payment 288 = .ok (.laload, 1) := by decide +kernel
theorem dMO_payment_289 : decode bMO_payment 289 = .ok (.lconst 1, 1) := by decide +kernel
theorem dMO_payment_290 : decode bMO_payment 290 = .ok (.iload 11, 2) := by decide +kernel
theorem dMO_payment_292 : decode bMO_payment 292 = .ok (.bipush 60, 2) := by decide +kernel
theorem dMO_payment_294 : decode bMO_payment 294 = .ok (.irem, 1) := by decide +kernel
theorem dMO_payment_295 : decode bMO_payment 295 = .ok (.lshl, 1) := by decide +kernel
theorem dMO_payment_296 : decode bMO_payment 296 = .ok (.lor, 1) := by decide +kernel
theorem dMO_payment_297 : decode bMO_payment 297 = .ok (.lastore, 1) := by decide +kernel
theorem dMO_payment_298 : decode bMO_payment 298 = .ok (.iinc 10 1, 3) := by decide +kernel
theorem dMO_payment_301 : decode bMO_payment 301 = .ok (.goto (-116), 3) := by decide +kernel
theorem dMO_payment_304 : decode bMO_payment 304 = .ok (.iload 7, 2) := by decide +kernel
theorem dMO_payment_306 : decode bMO_payment 306 = .ok (.ireturn, 1) := by decide +kernel
theorem dMO_rate_0 : decode bMO_rate 0 = .ok (.aload_n 0, 1) := by decide +kernel
theorem dMO_rate_1 : decode bMO_rate 1 = .ok (.iconst 0, 1) := by decide +kernel
theorem dMO_rate_2 : decode bMO_rate 2 = .ok (.putfield 16, 3) := by decide +kernel
theorem dMO_rate_5 : decode bMO_rate 5 = .ok (.lload_n 1, 1) := by decide +kernel
theorem dMO_rate_6 : decode bMO_rate 6 = .ok (.lconst 0, 1) := by decide +kernel
theorem dMO_rate_7 : decode bMO_rate 7 = .ok (.ldc2_w 127, 3) := by decide +kernel
theorem dMO_rate_10 : decode bMO_rate 10 = .ok (.invokestatic 26, 3) := by decide +kernel
theorem dMO_rate_13 : decode bMO_rate 13 = .ok (.ifCond .eq 14, 3) := by decide +kernel
theorem dMO_rate_16 : decode bMO_rate 16 = .ok (.lload_n 3, 1) := by decide +kernel
theorem dMO_rate_17 : decode bMO_rate 17 = .ok (.lconst 1, 1) := by decide +kernel
theorem dMO_rate_18 : decode bMO_rate 18 = .ok (.ldc2_w 127, 3) := by decide +kernel
theorem dMO_rate_21 : decode bMO_rate 21 = .ok (.invokestatic 26, 3) := by decide +kernel
theorem dMO_rate_24 : decode bMO_rate 24 = .ok (.ifCond .ne 5, 3) := by decide +kernel
theorem dMO_rate_27 : decode bMO_rate 27 = .ok (.iconst 0, 1) := by decide +kernel
theorem dMO_rate_28 : decode bMO_rate 28 = .ok (.ireturn, 1) := by decide +kernel
theorem dMO_rate_29 : decode bMO_rate 29 = .ok (.aload_n 0, 1) := by decide +kernel
theorem dMO_rate_30 : decode bMO_rate 30 = .ok (.getfield 7, 3) := by decide +kernel
theorem dMO_rate_33 : decode bMO_rate 33 = .ok (.iconst 5, 1) := by decide +kernel
theorem dMO_rate_34 : decode bMO_rate 34 = .ok (.lload_n 1, 1) := by decide +kernel
theorem dMO_rate_35 : decode bMO_rate 35 = .ok (.lastore, 1) := by decide +kernel
theorem dMO_rate_36 : decode bMO_rate 36 = .ok (.aload_n 0, 1) := by decide +kernel
theorem dMO_rate_37 : decode bMO_rate 37 = .ok (.getfield 7, 3) := by decide +kernel
theorem dMO_rate_40 : decode bMO_rate 40 = .ok (.bipush 6, 2) := by decide +kernel
theorem dMO_rate_42 : decode bMO_rate 42 = .ok (.lload_n 3, 1) := by decide +kernel
theorem dMO_rate_43 : decode bMO_rate 43 = .ok (.lastore, 1) := by decide +kernel
theorem dMO_rate_44 : decode bMO_rate 44 = .ok (.iconst 1, 1) := by decide +kernel
theorem dMO_rate_45 : decode bMO_rate 45 = .ok (.ireturn, 1) := by decide +kernel
theorem dMO_reverse_0 : decode bMO_reverse 0 = .ok (.aload_n 0, 1) := by decide +kernel
theorem dMO_reverse_1 : decode bMO_reverse 1 = .ok (.iconst 0, 1) := by decide +kernel
theorem dMO_reverse_2 : decode bMO_reverse 2 = .ok (.putfield 16, 3) := by decide +kernel
theorem dMO_reverse_5 : decode bMO_reverse 5 = .ok (.aload_n 0, 1) := by decide +kernel
theorem dMO_reverse_6 : decode bMO_reverse 6 = .ok (.iload_n 1, 1) := by decide +kernel
theorem dMO_reverse_7 : decode bMO_reverse 7 = .ok (.invokevirtual 47, 3) := by decide +kernel
theorem dMO_reverse_10 : decode bMO_reverse 10 = .ok (.ifCond .eq 76, 3) := by decide +kernel
theorem dMO_reverse_13 : decode bMO_reverse 13 = .ok (.aload_n 0, 1) := by decide +kernel
theorem dMO_reverse_14 : decode bMO_reverse 14 = .ok (.getfield 7, 3) := by decide +kernel
theorem dMO_reverse_17 : decode bMO_reverse 17 = .ok (.sipush 140, 3) := by decide +kernel
theorem dMO_reverse_20 : decode bMO_reverse 20 = .ok (.iload_n 1, 1) := by decide +kernel
theorem dMO_reverse_21 : decode bMO_reverse 21 = .ok (.iadd, 1) := by decide +kernel
theorem dMO_reverse_22 : decode bMO_reverse 22 = .ok (.laload, 1) := by decide +kernel
theorem dMO_reverse_23 : decode bMO_reverse 23 = .ok (.lconst 0, 1) := by decide +kernel
theorem dMO_reverse_24 : decode bMO_reverse 24 = .ok (.lcmp, 1) := by decide +kernel
theorem dMO_reverse_25 : decode bMO_reverse 25 = .ok (.ifCond .eq 61, 3) := by decide +kernel
theorem dMO_reverse_28 : decode bMO_reverse 28 = .ok (.aload_n 0, 1) := by decide +kernel
theorem dMO_reverse_29 : decode bMO_reverse 29 = .ok (.getfield 7, 3) := by decide +kernel
theorem dMO_reverse_32 : decode bMO_reverse 32 = .ok (.sipush 220, 3) := by decide +kernel
theorem dMO_reverse_35 : decode bMO_reverse 35 = .ok (.iload_n 1, 1) := by decide +kernel
theorem dMO_reverse_36 : decode bMO_reverse 36 = .ok (.iadd, 1) := by decide +kernel
theorem dMO_reverse_37 : decode bMO_reverse 37 = .ok (.laload, 1) := by decide +kernel
theorem dMO_reverse_38 : decode bMO_reverse 38 = .ok (.lconst 0, 1) := by decide +kernel
theorem dMO_reverse_39 : decode bMO_reverse 39 = .ok (.lcmp, 1) := by decide +kernel
theorem dMO_reverse_40 : decode bMO_reverse 40 = .ok (.ifCond .gt 46, 3) := by decide +kernel
theorem dMO_reverse_43 : decode bMO_reverse 43 = .ok (.aload_n 0, 1) := by decide +kernel
theorem dMO_reverse_44 : decode bMO_reverse 44 = .ok (.getfield 7, 3) := by decide +kernel
theorem dMO_reverse_47 : decode bMO_reverse 47 = .ok (.sipush 180, 3) := by decide +kernel
theorem dMO_reverse_50 : decode bMO_reverse 50 = .ok (.iload_n 1, 1) := by decide +kernel
theorem dMO_reverse_51 : decode bMO_reverse 51 = .ok (.iadd, 1) := by decide +kernel
theorem dMO_reverse_52 : decode bMO_reverse 52 = .ok (.laload, 1) := by decide +kernel
theorem dMO_reverse_53 : decode bMO_reverse 53 = .ok (.lconst 0, 1) := by decide +kernel
theorem dMO_reverse_54 : decode bMO_reverse 54 = .ok (.lcmp, 1) := by decide +kernel
theorem dMO_reverse_55 : decode bMO_reverse 55 = .ok (.ifCond .gt 31, 3) := by decide +kernel
theorem dMO_reverse_58 : decode bMO_reverse 58 = .ok (.aload_n 0, 1) := by decide +kernel
theorem dMO_reverse_59 : decode bMO_reverse 59 = .ok (.iload_n 1, 1) := by decide +kernel
theorem dMO_reverse_60 : decode bMO_reverse 60 = .ok (.invokevirtual 120, 3) := by decide +kernel
theorem dMO_reverse_63 : decode bMO_reverse 63 = .ok (.ifCond .ne 23, 3) := by decide +kernel
theorem dMO_reverse_66 : decode bMO_reverse 66 = .ok (.lload_n 2, 1) := by decide +kernel
theorem dMO_reverse_67 : decode bMO_reverse 67 = .ok (.invokestatic 36, 3) := by decide +kernel
theorem dMO_reverse_70 : decode bMO_reverse 70 = .ok (.ifCond .eq 16, 3) := by decide +kernel
theorem dMO_reverse_73 : decode bMO_reverse 73 = .ok (.aload_n 0, 1) := by decide +kernel
theorem dMO_reverse_74 : decode bMO_reverse 74 = .ok (.getfield 7, 3) := by decide +kernel
theorem dMO_reverse_77 : decode bMO_reverse 77 = .ok (.iconst 1, 1) := by decide +kernel
theorem dMO_reverse_78 : decode bMO_reverse 78 = .ok (.laload, 1) := by decide +kernel
theorem dMO_reverse_79 : decode bMO_reverse 79 = .ok (.ldc2_w 34, 3) := by decide +kernel
theorem dMO_reverse_82 : decode bMO_reverse 82 = .ok (.lcmp, 1) := by decide +kernel
theorem dMO_reverse_83 : decode bMO_reverse 83 = .ok (.ifCond .ne 5, 3) := by decide +kernel
theorem dMO_reverse_86 : decode bMO_reverse 86 = .ok (.iconst (-1), 1) := by decide +kernel
theorem dMO_reverse_87 : decode bMO_reverse 87 = .ok (.ireturn, 1) := by decide +kernel
theorem dMO_reverse_88 : decode bMO_reverse 88 = .ok (.aload_n 0, 1) := by decide +kernel
theorem dMO_reverse_89 : decode bMO_reverse 89 = .ok (.lload_n 2, 1) := by decide +kernel
theorem dMO_reverse_90 : decode bMO_reverse 90 = .ok (.iconst 2, 1) := by decide +kernel
theorem dMO_reverse_91 : decode bMO_reverse 91 = .ok (.invokevirtual 43, 3) := by decide +kernel
theorem dMO_reverse_94 : decode bMO_reverse 94 = .ok (.istore 4, 2) := by decide +kernel
theorem dMO_reverse_96 : decode bMO_reverse 96 = .ok (.iconst 0, 1) := by decide +kernel
theorem dMO_reverse_97 : decode bMO_reverse 97 = .ok (.istore 5, 2) := by decide +kernel
theorem dMO_reverse_99 : decode bMO_reverse 99 = .ok (.iload 5, 2) := by decide +kernel
theorem dMO_reverse_101 : decode bMO_reverse 101 = .ok (.i2l, 1) := by decide +kernel
theorem dMO_reverse_102 : decode bMO_reverse 102 = .ok (.aload_n 0, 1) := by decide +kernel
theorem dMO_reverse_103 : decode bMO_reverse 103 = .ok (.getfield 7, 3) := by decide +kernel
theorem dMO_reverse_106 : decode bMO_reverse 106 = .ok (.sipush 260, 3) := by decide +kernel
theorem dMO_reverse_109 : decode bMO_reverse 109 = .ok (.iload_n 1, 1) := by decide +kernel
theorem dMO_reverse_110 : decode bMO_reverse 110 = .ok (.iadd, 1) := by decide +kernel
theorem dMO_reverse_111 : decode bMO_reverse 111 = .ok (.laload, 1) := by decide +kernel
theorem dMO_reverse_112 : decode bMO_reverse 112 = .ok (.lcmp, 1) := by decide +kernel
theorem dMO_reverse_113 : decode bMO_reverse 113 = .ok (.ifCond .ge 66, 3) := by decide +kernel
theorem dMO_reverse_116 : decode bMO_reverse 116 = .ok (.aload_n 0, 1) := by decide +kernel
theorem dMO_reverse_117 : decode bMO_reverse 117 = .ok (.iload 4, 2) := by decide +kernel
theorem dMO_reverse_119 : decode bMO_reverse 119 = .ok (.aload_n 0, 1) := by decide +kernel
theorem dMO_reverse_120 : decode bMO_reverse 120 = .ok (.getfield 7, 3) := by decide +kernel
theorem dMO_reverse_123 : decode bMO_reverse 123 = .ok (.sipush 300, 3) := by decide +kernel
theorem dMO_reverse_126 : decode bMO_reverse 126 = .ok (.bipush 6, 2) := by decide +kernel
theorem dMO_reverse_128 : decode bMO_reverse 128 = .ok (.iload_n 1, 1) := by decide +kernel
theorem dMO_reverse_129 : decode bMO_reverse 129 = .ok (.imul, 1) := by decide +kernel
theorem dMO_reverse_130 : decode bMO_reverse 130 = .ok (.iadd, 1) := by decide +kernel
theorem dMO_reverse_131 : decode bMO_reverse 131 = .ok (.iload 5, 2) := by decide +kernel
theorem dMO_reverse_133 : decode bMO_reverse 133 = .ok (.iadd, 1) := by decide +kernel
theorem dMO_reverse_134 : decode bMO_reverse 134 = .ok (.laload, 1) := by decide +kernel
theorem dMO_reverse_135 : decode bMO_reverse 135 = .ok (.l2i, 1) := by decide +kernel
theorem dMO_reverse_136 : decode bMO_reverse 136 = .ok (.aload_n 0, 1) := by decide +kernel
theorem dMO_reverse_137 : decode bMO_reverse 137 = .ok (.getfield 7, 3) := by decide +kernel
theorem dMO_reverse_140 : decode bMO_reverse 140 = .ok (.sipush 540, 3) := by decide +kernel
theorem dMO_reverse_143 : decode bMO_reverse 143 = .ok (.bipush 6, 2) := by decide +kernel
theorem dMO_reverse_145 : decode bMO_reverse 145 = .ok (.iload_n 1, 1) := by decide +kernel
theorem dMO_reverse_146 : decode bMO_reverse 146 = .ok (.imul, 1) := by decide +kernel
theorem dMO_reverse_147 : decode bMO_reverse 147 = .ok (.iadd, 1) := by decide +kernel
theorem dMO_reverse_148 : decode bMO_reverse 148 = .ok (.iload 5, 2) := by decide +kernel
theorem dMO_reverse_150 : decode bMO_reverse 150 = .ok (.iadd, 1) := by decide +kernel
theorem dMO_reverse_151 : decode bMO_reverse 151 = .ok (.laload, 1) := by decide +kernel
theorem dMO_reverse_152 : decode bMO_reverse 152 = .ok (.lneg, 1) := by decide +kernel
theorem dMO_reverse_153 : decode bMO_reverse 153 = .ok (.invokevirtual 56, 3) := by decide +kernel
theorem dMO_reverse_156 : decode bMO_reverse 156 = .ok (.aload_n 0, 1) := by decide +kernel
theorem dMO_reverse_157 : decode bMO_reverse 157 = .ok (.getfield 7, 3) := by decide +kernel
theorem dMO_reverse_160 : decode bMO_reverse 160 = .ok (.sipush 780, 3) := by decide +kernel
theorem dMO_reverse_163 : decode bMO_reverse 163 = .ok (.bipush 6, 2) := by decide +kernel
theorem dMO_reverse_165 : decode bMO_reverse 165 = .ok (.iload_n 1, 1) := by decide +kernel
theorem dMO_reverse_166 : decode bMO_reverse 166 = .ok (.imul, 1) := by decide +kernel
theorem dMO_reverse_167 : decode bMO_reverse 167 = .ok (.iadd, 1) := by decide +kernel
theorem dMO_reverse_168 : decode bMO_reverse 168 = .ok (.iload 5, 2) := by decide +kernel
theorem dMO_reverse_170 : decode bMO_reverse 170 = .ok (.iadd, 1) := by decide +kernel
theorem dMO_reverse_171 : decode bMO_reverse 171 = .ok (.lconst 0, 1) := by decide +kernel
theorem dMO_reverse_172 : decode bMO_reverse 172 = .ok (.lastore, 1) := by decide +kernel
theorem dMO_reverse_173 : decode bMO_reverse 173 = .ok (.iinc 5 1, 3) := by decide +kernel
theorem dMO_reverse_176 : decode bMO_reverse 176 = .ok (.goto (-77), 3) := by decide +kernel
theorem dMO_reverse_179 : decode bMO_reverse 179 = .ok (.aload_n 0, 1) := by decide +kernel
theorem dMO_reverse_180 : decode bMO_reverse 180 = .ok (.getfield 7, 3) := by decide +kernel
theorem dMO_reverse_183 : decode bMO_reverse 183 = .ok (.sipush 140, 3) := by decide +kernel
theorem dMO_reverse_186 : decode bMO_reverse 186 = .ok (.iload 4, 2) := by decide +kernel
theorem dMO_reverse_188 : decode bMO_reverse 188 = .ok (.iadd, 1) := by decide +kernel
theorem dMO_reverse_189 : decode bMO_reverse 189 = .ok (.lconst 1, 1) := by decide +kernel
theorem dMO_reverse_190 : decode bMO_reverse 190 = .ok (.lastore, 1) := by decide +kernel
theorem dMO_reverse_191 : decode bMO_reverse 191 = .ok (.aload_n 0, 1) := by decide +kernel
theorem dMO_reverse_192 : decode bMO_reverse 192 = .ok (.getfield 7, 3) := by decide +kernel
theorem dMO_reverse_195 : decode bMO_reverse 195 = .ok (.sipush 220, 3) := by decide +kernel
theorem dMO_reverse_198 : decode bMO_reverse 198 = .ok (.iload_n 1, 1) := by decide +kernel
theorem dMO_reverse_199 : decode bMO_reverse 199 = .ok (.iadd, 1) := by decide +kernel
theorem dMO_reverse_200 : decode bMO_reverse 200 = .ok (.lconst 1, 1) := by decide +kernel
theorem dMO_reverse_201 : decode bMO_reverse 201 = .ok (.lastore, 1) := by decide +kernel
theorem dMO_reverse_202 : decode bMO_reverse 202 = .ok (.iload 4, 2) := by decide +kernel
theorem dMO_reverse_204 : decode bMO_reverse 204 = .ok (.ireturn, 1) := by decide +kernel
theorem dMO_row_0 : decode bMO_row 0 = .ok (.aload_n 0, 1) := by decide +kernel
theorem dMO_row_1 : decode bMO_row 1 = .ok (.iconst 0, 1) := by decide +kernel
theorem dMO_row_2 : decode bMO_row 2 = .ok (.putfield 16, 3) := by decide +kernel
theorem dMO_row_5 : decode bMO_row 5 = .ok (.aload_n 0, 1) := by decide +kernel
theorem dMO_row_6 : decode bMO_row 6 = .ok (.iload_n 1, 1) := by decide +kernel
theorem dMO_row_7 : decode bMO_row 7 = .ok (.invokevirtual 47, 3) := by decide +kernel
theorem dMO_row_10 : decode bMO_row 10 = .ok (.ifCond .eq 62, 3) := by decide +kernel
theorem dMO_row_13 : decode bMO_row 13 = .ok (.aload_n 0, 1) := by decide +kernel
theorem dMO_row_14 : decode bMO_row 14 = .ok (.iload_n 2, 1) := by decide +kernel
theorem dMO_row_15 : decode bMO_row 15 = .ok (.invokevirtual 20, 3) := by decide +kernel
theorem dMO_row_18 : decode bMO_row 18 = .ok (.ifCond .eq 54, 3) := by decide +kernel
theorem dMO_row_21 : decode bMO_row 21 = .ok (.aload_n 0, 1) := by decide +kernel
theorem dMO_row_22 : decode bMO_row 22 = .ok (.getfield 7, 3) := by decide +kernel
theorem dMO_row_25 : decode bMO_row 25 = .ok (.sipush 140, 3) := by decide +kernel
theorem dMO_row_28 : decode bMO_row 28 = .ok (.iload_n 1, 1) := by decide +kernel
theorem dMO_row_29 : decode bMO_row 29 = .ok (.iadd, 1) := by decide +kernel
theorem dMO_row_30 : decode bMO_row 30 = .ok (.laload, 1) := by decide +kernel
theorem dMO_row_31 : decode bMO_row 31 = .ok (.lconst 0, 1) := by decide +kernel
theorem dMO_row_32 : decode bMO_row 32 = .ok (.lcmp, 1) := by decide +kernel
theorem dMO_row_33 : decode bMO_row 33 = .ok (.ifCond .gt 39, 3) := by decide +kernel
theorem dMO_row_36 : decode bMO_row 36 = .ok (.aload_n 0, 1) := by decide +kernel
theorem dMO_row_37 : decode bMO_row 37 = .ok (.getfield 7, 3) := by decide +kernel
theorem dMO_row_40 : decode bMO_row 40 = .ok (.sipush 260, 3) := by decide +kernel
theorem dMO_row_43 : decode bMO_row 43 = .ok (.iload_n 1, 1) := by decide +kernel
theorem dMO_row_44 : decode bMO_row 44 = .ok (.iadd, 1) := by decide +kernel
theorem dMO_row_45 : decode bMO_row 45 = .ok (.laload, 1) := by decide +kernel
theorem dMO_row_46 : decode bMO_row 46 = .ok (.ldc2_w 50, 3) := by decide +kernel
theorem dMO_row_49 : decode bMO_row 49 = .ok (.lcmp, 1) := by decide +kernel
theorem dMO_row_50 : decode bMO_row 50 = .ok (.ifCond .eq 22, 3) := by decide +kernel
theorem dMO_row_53 : decode bMO_row 53 = .ok (.lload_n 3, 1) := by decide +kernel
theorem dMO_row_54 : decode bMO_row 54 = .ok (.lconst 0, 1) := by decide +kernel
theorem dMO_row_55 : decode bMO_row 55 = .ok (.lcmp, 1) := by decide +kernel
theorem dMO_row_56 : decode bMO_row 56 = .ok (.ifCond .eq 16, 3) := by decide +kernel
theorem dMO_row_59 : decode bMO_row 59 = .ok (.lload_n 3, 1) := by decide +kernel
theorem dMO_row_60 : decode bMO_row 60 = .ok (.ldc2_w 52, 3) := by decide +kernel
theorem dMO_row_63 : decode bMO_row 63 = .ok (.ldc2_w 54, 3) := by decide +kernel
theorem dMO_row_66 : decode bMO_row 66 = .ok (.invokestatic 26, 3) := by decide +kernel
theorem dMO_row_69 : decode bMO_row 69 = .ok (.ifCond .ne 5, 3) := by decide +kernel
theorem dMO_row_72 : decode bMO_row 72 = .ok (.iconst 0, 1) := by decide +kernel
theorem dMO_row_73 : decode bMO_row 73 = .ok (.ireturn, 1) := by decide +kernel
theorem dMO_row_74 : decode bMO_row 74 = .ok (.aload_n 0, 1) := by decide +kernel
theorem dMO_row_75 : decode bMO_row 75 = .ok (.iload_n 1, 1) := by decide +kernel
theorem dMO_row_76 : decode bMO_row 76 = .ok (.iload_n 2, 1) := by decide +kernel
theorem dMO_row_77 : decode bMO_row 77 = .ok (.lload_n 3, 1) := by decide +kernel
theorem dMO_row_78 : decode bMO_row 78 = .ok (.invokevirtual 56, 3) := by decide +kernel
theorem dMO_row_81 : decode bMO_row 81 = .ok (.iconst 1, 1) := by decide +kernel
theorem dMO_row_82 : decode bMO_row 82 = .ok (.ireturn, 1) := by decide +kernel
theorem dMO_share_0 : decode bMO_share 0 = .ok (.aload_n 0, 1) := by decide +kernel
theorem dMO_share_1 : decode bMO_share 1 = .ok (.iconst 0, 1) := by decide +kernel
theorem dMO_share_2 : decode bMO_share 2 = .ok (.putfield 16, 3) := by decide +kernel
theorem dMO_share_5 : decode bMO_share 5 = .ok (.aload_n 0, 1) := by decide +kernel
theorem dMO_share_6 : decode bMO_share 6 = .ok (.iload_n 1, 1) := by decide +kernel
theorem dMO_share_7 : decode bMO_share 7 = .ok (.invokevirtual 70, 3) := by decide +kernel
theorem dMO_share_10 : decode bMO_share 10 = .ok (.ifCond .eq 22, 3) := by decide +kernel
theorem dMO_share_13 : decode bMO_share 13 = .ok (.iload_n 2, 1) := by decide +kernel
theorem dMO_share_14 : decode bMO_share 14 = .ok (.ifCond .lt 18, 3) := by decide +kernel
theorem dMO_share_17 : decode bMO_share 17 = .ok (.iload_n 2, 1) := by decide +kernel
theorem dMO_share_18 : decode bMO_share 18 = .ok (.bipush 120, 2) := by decide +kernel
theorem dMO_share_20 : decode bMO_share 20 = .ok (.if_icmp .ge 12, 3) := by decide +kernel
theorem dMO_share_23 : decode bMO_share 23 = .ok (.iload_n 3, 1) := by decide +kernel
theorem dMO_share_24 : decode bMO_share 24 = .ok (.ifCond .lt 8, 3) := by decide +kernel
theorem dMO_share_27 : decode bMO_share 27 = .ok (.iload_n 3, 1) := by decide +kernel
theorem dMO_share_28 : decode bMO_share 28 = .ok (.iconst 1, 1) := by decide +kernel
theorem dMO_share_29 : decode bMO_share 29 = .ok (.if_icmp .le 7, 3) := by decide +kernel
theorem dMO_share_32 : decode bMO_share 32 = .ok (.ldc2_w 79, 3) := by decide +kernel
theorem dMO_share_35 : decode bMO_share 35 = .ok (.lreturn, 1) := by decide +kernel
theorem dMO_share_36 : decode bMO_share 36 = .ok (.iconst 0, 1) := by decide +kernel
theorem dMO_share_37 : decode bMO_share 37 = .ok (.istore 4, 2) := by decide +kernel
theorem dMO_share_39 : decode bMO_share 39 = .ok (.bipush 30, 2) := by decide +kernel
theorem dMO_share_41 : decode bMO_share 41 = .ok (.iload_n 2, 1) := by decide +kernel
theorem dMO_share_42 : decode bMO_share 42 = .ok (.imul, 1) := by decide +kernel
theorem dMO_share_43 : decode bMO_share 43 = .ok (.istore 5, 2) := by decide +kernel
theorem dMO_share_45 : decode bMO_share 45 = .ok (.iload 5, 2) := by decide +kernel
theorem dMO_share_47 : decode bMO_share 47 = .ok (.bipush 30, 2) := by decide +kernel
theorem dMO_share_49 : decode bMO_share 49 = .ok (.iload_n 2, 1) := by decide +kernel
theorem dMO_share_50 : decode bMO_share 50 = .ok (.imul, 1) := by decide +kernel
theorem dMO_share_51 : decode bMO_share 51 = .ok (.bipush 30, 2) := by decide +kernel
theorem dMO_share_53 : decode bMO_share 53 = .ok (.iadd, 1) := by decide +kernel
theorem dMO_share_54 : decode bMO_share 54 = .ok (.if_icmp .ge 107, 3) := by decide +kernel
theorem dMO_share_57 : decode bMO_share 57 = .ok (.aload_n 0, 1) := by decide +kernel
theorem dMO_share_58 : decode bMO_share 58 = .ok (.getfield 7, 3) := by decide +kernel
theorem dMO_share_61 : decode bMO_share 61 = .ok (.bipush 70, 2) := by decide +kernel
theorem dMO_share_63 : decode bMO_share 63 = .ok (.iload_n 1, 1) := by decide +kernel
theorem dMO_share_64 : decode bMO_share 64 = .ok (.iadd, 1) := by decide +kernel
theorem dMO_share_65 : decode bMO_share 65 = .ok (.laload, 1) := by decide +kernel
theorem dMO_share_66 : decode bMO_share 66 = .ok (.lconst 0, 1) := by decide +kernel
theorem dMO_share_67 : decode bMO_share 67 = .ok (.lcmp, 1) := by decide +kernel
theorem dMO_share_68 : decode bMO_share 68 = .ok (.ifCond .le 25, 3) := by decide +kernel
theorem dMO_share_71 : decode bMO_share 71 = .ok (.iload 5, 2) := by decide +kernel
theorem dMO_share_73 : decode bMO_share 73 = .ok (.i2l, 1) := by decide +kernel
theorem dMO_share_74 : decode bMO_share 74 = .ok (.aload_n 0, 1) := by decide +kernel
theorem dMO_share_75 : decode bMO_share 75 = .ok (.getfield 7, 3) := by decide +kernel
theorem dMO_share_78 : decode bMO_share 78 = .ok (.bipush 70, 2) := by decide +kernel
theorem dMO_share_80 : decode bMO_share 80 = .ok (.iload_n 1, 1) := by decide +kernel
theorem dMO_share_81 : decode bMO_share 81 = .ok (.iadd, 1) := by decide +kernel
theorem dMO_share_82 : decode bMO_share 82 = .ok (.laload, 1) := by decide +kernel
theorem dMO_share_83 : decode bMO_share 83 = .ok (.lconst 1, 1) := by decide +kernel
theorem dMO_share_84 : decode bMO_share 84 = .ok (.lsub, 1) := by decide +kernel
theorem dMO_share_85 : decode bMO_share 85 = .ok (.lcmp, 1) := by decide +kernel
theorem dMO_share_86 : decode bMO_share 86 = .ok (.ifCond .lt 7, 3) := by decide +kernel
theorem dMO_share_89 : decode bMO_share 89 = .ok (.iconst 1, 1) := by decide +kernel
theorem dMO_share_90 : decode bMO_share 90 = .ok (.goto 4, 3) := by decide +kernel
theorem dMO_share_93 : decode bMO_share 93 = .ok (.iconst 0, 1) := by decide +kernel
theorem dMO_share_94 : decode bMO_share 94 = .ok (.istore 6, 2) := by decide +kernel
theorem dMO_share_96 : decode bMO_share 96 = .ok (.aload_n 0, 1) := by decide +kernel
theorem dMO_share_97 : decode bMO_share 97 = .ok (.getfield 7, 3) := by decide +kernel
theorem dMO_share_100 : decode bMO_share 100 = .ok (.bipush 80, 2) := by decide +kernel
theorem dMO_share_102 : decode bMO_share 102 = .ok (.iload_n 1, 1) := by decide +kernel
theorem dMO_share_103 : decode bMO_share 103 = .ok (.iadd, 1) := by decide +kernel
theorem dMO_share_104 : decode bMO_share 104 = .ok (.laload, 1) := by decide +kernel
theorem dMO_share_105 : decode bMO_share 105 = .ok (.lconst 0, 1) := by decide +kernel
theorem dMO_share_106 : decode bMO_share 106 = .ok (.lcmp, 1) := by decide +kernel
theorem dMO_share_107 : decode bMO_share 107 = .ok (.ifCond .le 25, 3) := by decide +kernel
theorem dMO_share_110 : decode bMO_share 110 = .ok (.iload 5, 2) := by decide +kernel
theorem dMO_share_112 : decode bMO_share 112 = .ok (.i2l, 1) := by decide +kernel
theorem dMO_share_113 : decode bMO_share 113 = .ok (.aload_n 0, 1) := by decide +kernel
theorem dMO_share_114 : decode bMO_share 114 = .ok (.getfield 7, 3) := by decide +kernel
theorem dMO_share_117 : decode bMO_share 117 = .ok (.bipush 80, 2) := by decide +kernel
theorem dMO_share_119 : decode bMO_share 119 = .ok (.iload_n 1, 1) := by decide +kernel
theorem dMO_share_120 : decode bMO_share 120 = .ok (.iadd, 1) := by decide +kernel
theorem dMO_share_121 : decode bMO_share 121 = .ok (.laload, 1) := by decide +kernel
theorem dMO_share_122 : decode bMO_share 122 = .ok (.lconst 1, 1) := by decide +kernel
theorem dMO_share_123 : decode bMO_share 123 = .ok (.lsub, 1) := by decide +kernel
theorem dMO_share_124 : decode bMO_share 124 = .ok (.lcmp, 1) := by decide +kernel
theorem dMO_share_125 : decode bMO_share 125 = .ok (.ifCond .ge 7, 3) := by decide +kernel
theorem dMO_share_128 : decode bMO_share 128 = .ok (.iconst 1, 1) := by decide +kernel
theorem dMO_share_129 : decode bMO_share 129 = .ok (.goto 4, 3) := by decide +kernel
theorem dMO_share_132 : decode bMO_share 132 = .ok (.iconst 0, 1) := by decide +kernel
theorem dMO_share_133 : decode bMO_share 133 = .ok (.istore 7, 2) := by decide +kernel
theorem dMO_share_135 : decode bMO_share 135 = .ok (.iload 4, 2) := by decide +kernel
theorem dMO_share_137 : decode bMO_share 137 = .ok (.iload 6, 2) := by decide +kernel
theorem dMO_share_139 : decode bMO_share 139 = .ok (.ifCond .ne 8, 3) := by decide +kernel
theorem dMO_share_142 : decode bMO_share 142 = .ok (.iload 7, 2) := by decide +kernel
theorem dMO_share_144 : decode bMO_share 144 = .ok (.ifCond .eq 7, 3) := by decide +kernel
theorem dMO_share_147 : decode bMO_share 147 = .ok (.iconst 0, 1) := by decide +kernel
theorem dMO_share_148 : decode bMO_share 148 = .ok (.goto 4, 3) := by decide +kernel
theorem dMO_share_151 : decode bMO_share 151 = .ok (.iconst 1, 1) := by decide +kernel
theorem dMO_share_152 : decode bMO_share 152 = .ok (.iadd, 1) := by decide +kernel
theorem dMO_share_153 : decode bMO_share 153 = .ok (.istore 4, 2) := by decide +kernel
theorem dMO_share_155 : decode bMO_share 155 = .ok (.iinc 5 1, 3) := by decide +kernel
theorem dMO_share_158 : decode bMO_share 158 = .ok (.goto (-113), 3) := by decide +kernel
theorem dMO_share_161 : decode bMO_share 161 = .ok (.iload 4, 2) := by decide +kernel
theorem dMO_share_163 : decode bMO_share 163 = .ok (.i2l, 1) := by decide +kernel
theorem dMO_share_164 : decode bMO_share 164 = .ok (.ldc2_w 30, 3) := by decide +kernel
theorem dMO_share_167 : decode bMO_share 167 = .ok (.iload_n 3, 1) := by decide +kernel
theorem dMO_share_168 : decode bMO_share 168 = .ok (.invokestatic 107, 3) := by decide +kernel
theorem dMO_share_171 : decode bMO_share 171 = .ok (.lreturn, 1) := by decide +kernel
theorem dMO_statement_0 : decode bMO_statement 0 = .ok (.aload_n 0, 1) := by decide +kernel
theorem dMO_statement_1 : decode bMO_statement 1 = .ok (.iconst 0, 1) := by decide +kernel
theorem dMO_statement_2 : decode bMO_statement 2 = .ok (.putfield 16, 3) := by decide +kernel
theorem dMO_statement_5 : decode bMO_statement 5 = .ok (.iconst 0, 1) := by decide +kernel
theorem dMO_statement_6 : decode bMO_statement 6 = .ok (.istore 4, 2) := by decide +kernel
theorem dMO_statement_8 : decode bMO_statement 8 = .ok (.iconst 0, 1) := by decide +kernel
theorem dMO_statement_9 : decode bMO_statement 9 = .ok (.istore 5, 2) := by decide +kernel
theorem dMO_statement_11 : decode bMO_statement 11 = .ok (.iload 5, 2) := by decide +kernel
theorem dMO_statement_13 : decode bMO_statement 13 = .ok (.i2l, 1) := by decide +kernel
theorem dMO_statement_14 : decode bMO_statement 14 = .ok (.aload_n 0, 1) := by decide +kernel
theorem dMO_statement_15 : decode bMO_statement 15 = .ok (.getfield 7, 3) := by decide +kernel
theorem dMO_statement_18 : decode bMO_statement 18 = .ok (.iconst 1, 1) := by decide +kernel
theorem dMO_statement_19 : decode bMO_statement 19 = .ok (.laload, 1) := by decide +kernel
theorem dMO_statement_20 : decode bMO_statement 20 = .ok (.lcmp, 1) := by decide +kernel
theorem dMO_statement_21 : decode bMO_statement 21 = .ok (.ifCond .ge 145, 3) := by decide +kernel
theorem dMO_statement_24 : decode bMO_statement 24 = .ok (.iconst 0, 1) := by decide +kernel
theorem dMO_statement_25 : decode bMO_statement 25 = .ok (.istore 6, 2) := by decide +kernel
theorem dMO_statement_27 : decode bMO_statement 27 = .ok (.iload 6, 2) := by decide +kernel
theorem dMO_statement_29 : decode bMO_statement 29 = .ok (.i2l, 1) := by decide +kernel
theorem dMO_statement_30 : decode bMO_statement 30 = .ok (.aload_n 0, 1) := by decide +kernel
theorem dMO_statement_31 : decode bMO_statement 31 = .ok (.getfield 7, 3) := by decide +kernel
theorem dMO_statement_34 : decode bMO_statement 34 = .ok (.sipush 260, 3) := by decide +kernel
theorem dMO_statement_37 : decode bMO_statement 37 = .ok (.iload 5, 2) := by decide +kernel
theorem dMO_statement_39 : decode bMO_statement 39 = .ok (.iadd, 1) := by decide +kernel
theorem dMO_statement_40 : decode bMO_statement 40 = .ok (.laload, 1) := by decide +kernel
theorem dMO_statement_41 : decode bMO_statement 41 = .ok (.lcmp, 1) := by decide +kernel
theorem dMO_statement_42 : decode bMO_statement 42 = .ok (.ifCond .ge 118, 3) := by decide +kernel
theorem dMO_statement_45 : decode bMO_statement 45 = .ok (.aload_n 0, 1) := by decide +kernel
theorem dMO_statement_46 : decode bMO_statement 46 = .ok (.iload_n 1, 1) := by decide +kernel
theorem dMO_statement_47 : decode bMO_statement 47 = .ok (.invokevirtual 20, 3) := by decide +kernel
theorem dMO_statement_50 : decode bMO_statement 50 = .ok (.ifCond .eq 66, 3) := by decide +kernel
theorem dMO_statement_53 : decode bMO_statement 53 = .ok (.aload_n 0, 1) := by decide +kernel
theorem dMO_statement_54 : decode bMO_statement 54 = .ok (.getfield 7, 3) := by decide +kernel
theorem dMO_statement_57 : decode bMO_statement 57 = .ok (.sipush 140, 3) := by decide +kernel
theorem dMO_statement_60 : decode bMO_statement 60 = .ok (.iload 5, 2) := by decide +kernel
theorem dMO_statement_62 : decode bMO_statement 62 = .ok (.iadd, 1) := by decide +kernel
theorem dMO_statement_63 : decode bMO_statement 63 = .ok (.laload, 1) := by decide +kernel
theorem dMO_statement_64 : decode bMO_statement 64 = .ok (.lconst 0, 1) := by decide +kernel
theorem dMO_statement_65 : decode bMO_statement 65 = .ok (.lcmp, 1) := by decide +kernel
theorem dMO_statement_66 : decode bMO_statement 66 = .ok (.ifCond .le 50, 3) := by decide +kernel
theorem dMO_statement_69 : decode bMO_statement 69 = .ok (.aload_n 0, 1) := by decide +kernel
theorem dMO_statement_70 : decode bMO_statement 70 = .ok (.getfield 7, 3) := by decide +kernel
theorem dMO_statement_73 : decode bMO_statement 73 = .ok (.bipush 100, 2) := by decide +kernel
theorem dMO_statement_75 : decode bMO_statement 75 = .ok (.iload 5, 2) := by decide +kernel
theorem dMO_statement_77 : decode bMO_statement 77 = .ok (.iadd, 1) := by decide +kernel
theorem dMO_statement_78 : decode bMO_statement 78 = .ok (.laload, 1) := by decide +kernel
theorem dMO_statement_79 : decode bMO_statement 79 = .ok (.ldc2_w 30, 3) := by decide +kernel
theorem dMO_statement_82 : decode bMO_statement 82 = .ok (.ldiv, 1) := by decide +kernel
theorem dMO_statement_83 : decode bMO_statement 83 = .ok (.iload_n 2, 1) := by decide +kernel
theorem dMO_statement_84 : decode bMO_statement 84 = .ok (.i2l, 1) := by decide +kernel
theorem dMO_statement_85 : decode bMO_statement 85 = .ok (.lcmp, 1) := by decide +kernel
theorem dMO_statement_86 : decode bMO_statement 86 = .ok (.ifCond .ne 30, 3) := by decide +kernel
theorem dMO_statement_89 : decode bMO_statement 89 = .ok (.aload_n 0, 1) := by decide +kernel
theorem dMO_statement_90 : decode bMO_statement 90 = .ok (.getfield 7, 3) := by decide +kernel
theorem dMO_statement_93 : decode bMO_statement 93 = .ok (.sipush 300, 3) := by decide +kernel
theorem dMO_statement_96 : decode bMO_statement 96 = .ok (.bipush 6, 2) := by decide +kernel
theorem dMO_statement_98 : decode bMO_statement 98 = .ok (.iload 5, 2) := by decide +kernel
theorem dMO_statement_100 : decode bMO_statement 100 = .ok (.imul, 1) := by decide +kernel
theorem dMO_statement_101 : decode bMO_statement 101 = .ok (.iadd, 1) := by decide +kernel
theorem dMO_statement_102 : decode bMO_statement 102 = .ok (.iload 6, 2) := by decide +kernel
theorem dMO_statement_104 : decode bMO_statement 104 = .ok (.iadd, 1) := by decide +kernel
theorem dMO_statement_105 : decode bMO_statement 105 = .ok (.laload, 1) := by decide +kernel
theorem dMO_statement_106 : decode bMO_statement 106 = .ok (.iload_n 1, 1) := by decide +kernel
theorem dMO_statement_107 : decode bMO_statement 107 = .ok (.i2l, 1) := by decide +kernel
theorem dMO_statement_108 : decode bMO_statement 108 = .ok (.lcmp, 1) := by decide +kernel
