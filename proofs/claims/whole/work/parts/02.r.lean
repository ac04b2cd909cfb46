/-! decode rows of the reference (printed rows of the claim) -/
theorem dX8_thrown_0 : decode cX8_thrown 0 = .ok (.aload_n 0, 1) := by decide +kernel
theorem dX8_thrown_1 : decode cX8_thrown 1 = .ok (.getfield 1, 3) := by decide +kernel
theorem dX8_thrown_4 : decode cX8_thrown 4 = .ok (.ireturn, 1) := by decide +kernel
theorem dX8_may_0 : decode cX8_may 0 = .ok (.iload_n 1, 1) := by decide +kernel
theorem dX8_may_1 : decode cX8_may 1 = .ok (.ifCond .ne 15, 3) := by decide +kernel
theorem dX8_may_4 : decode cX8_may 4 = .ok (.aload_n 0, 1) := by decide +kernel
theorem dX8_may_5 : decode cX8_may 5 = .ok (.getfield 1, 3) := by decide +kernel
theorem dX8_may_8 : decode cX8_may 8 = .ok (.ifCond .ne 8, 3) := by decide +kernel
theorem dX8_may_11 : decode cX8_may 11 = .ok (.aload_n 0, 1) := by decide +kernel
theorem dX8_may_12 : decode cX8_may 12 = .ok (.iload_n 2, 1) := by decide +kernel
theorem dX8_may_13 : decode cX8_may 13 = .ok (.putfield 1, 3) := by decide +kernel
theorem dX8_may_16 : decode cX8_may 16 = .ok (.aload_n 0, 1) := by decide +kernel
theorem dX8_may_17 : decode cX8_may 17 = .ok (.getfield 1, 3) := by decide +kernel
theorem dX8_may_20 : decode cX8_may 20 = .ok (.ifCond .ne 7, 3) := by decide +kernel
theorem dX8_may_23 : decode cX8_may 23 = .ok (.iconst 1, 1) := by decide +kernel
theorem dX8_may_24 : decode cX8_may 24 = .ok (.goto 4, 3) := by decide +kernel
theorem dX8_may_27 : decode cX8_may 27 = .ok (.iconst 0, 1) := by decide +kernel
theorem dX8_may_28 : decode cX8_may 28 = .ok (.ireturn, 1) := by decide +kernel
theorem dX8_within_0 : decode cX8_within 0 = .ok (.iload_n 0, 1) := by decide +kernel
theorem dX8_within_1 : decode cX8_within 1 = .ok (.iload_n 1, 1) := by decide +kernel
theorem dX8_within_2 : decode cX8_within 2 = .ok (.if_icmp .lt 12, 3) := by decide +kernel
theorem dX8_within_5 : decode cX8_within 5 = .ok (.iload_n 0, 1) := by decide +kernel
theorem dX8_within_6 : decode cX8_within 6 = .ok (.iload_n 2, 1) := by decide +kernel
theorem dX8_within_7 : decode cX8_within 7 = .ok (.if_icmp .gt 7, 3) := by decide +kernel
theorem dX8_within_10 : decode cX8_within 10 = .ok (.iconst 1, 1) := by decide +kernel
theorem dX8_within_11 : decode cX8_within 11 = .ok (.goto 4, 3) := by decide +kernel
theorem dX8_within_14 : decode cX8_within 14 = .ok (.iconst 0, 1) := by decide +kernel
theorem dX8_within_15 : decode cX8_within 15 = .ok (.ireturn, 1) := by decide +kernel
theorem dX8_init_0 : decode cX8_init 0 = .ok (.aload_n 0, 1) := by decide +kernel
theorem dX8_init_1 : decode cX8_init 1 = .ok (.invokespecial 7, 3) := by decide +kernel
theorem dX8_init_4 : decode cX8_init 4 = .ok (.aload_n 0, 1) := by decide +kernel
theorem dX8_init_5 : decode cX8_init 5 = .ok (.sipush 3464, 3) := by decide +kernel
theorem dX8_init_8 : decode cX8_init 8 = .ok (.newarray .int, 2) := by decide +kernel
theorem dX8_init_10 : decode cX8_init 10 = .ok (.putfield 13, 3) := by decide +kernel
theorem dX8_init_13 : decode cX8_init 13 = .ok (.aload_n 0, 1) := by decide +kernel
theorem dX8_init_14 : decode cX8_init 14 = .ok (.sipush 3464, 3) := by decide +kernel
theorem dX8_init_17 : decode cX8_init 17 = .ok (.newarray .int, 2) := by decide +kernel
theorem dX8_init_19 : decode cX8_init 19 = .ok (.putfield 17, 3) := by decide +kernel
theorem dX8_init_22 : decode cX8_init 22 = .ok (.aload_n 0, 1) := by decide +kernel
theorem dX8_init_23 : decode cX8_init 23 = .ok (.aload_n 0, 1) := by decide +kernel
theorem dX8_init_24 : decode cX8_init 24 = .ok (.getfield 13, 3) := by decide +kernel
theorem dX8_init_27 : decode cX8_init 27 = .ok (.putfield 20, 3) := by decide +kernel
theorem dX8_init_30 : decode cX8_init 30 = .ok (.aload_n 0, 1) := by decide +kernel
theorem dX8_init_31 : decode cX8_init 31 = .ok (.iconst (-1), 1) := by decide +kernel
theorem dX8_init_32 : decode cX8_init 32 = .ok (.putfield 23, 3) := by decide +kernel
theorem dX8_init_35 : decode cX8_init 35 = .ok (.aload_n 0, 1) := by decide +kernel
theorem dX8_init_36 : decode cX8_init 36 = .ok (.sipush 300, 3) := by decide +kernel
theorem dX8_init_39 : decode cX8_init 39 = .ok (.newarray .int, 2) := by decide +kernel
theorem dX8_init_41 : decode cX8_init 41 = .ok (.putfield 26, 3) := by decide +kernel
theorem dX8_init_44 : decode cX8_init 44 = .ok (.aload_n 0, 1) := by decide +kernel
theorem dX8_init_45 : decode cX8_init 45 = .ok (.bipush 6, 2) := by decide +kernel
theorem dX8_init_47 : decode cX8_init 47 = .ok (.newarray .int, 2) := by decide +kernel
theorem dX8_init_49 : decode cX8_init 49 = .ok (.putfield 29, 3) := by decide +kernel
theorem dX8_init_52 : decode cX8_init 52 = .ok (.aload_n 0, 1) := by decide +kernel
theorem dX8_init_53 : decode cX8_init 53 = .ok (.bipush 72, 2) := by decide +kernel
theorem dX8_init_55 : decode cX8_init 55 = .ok (.newarray .int, 2) := by decide +kernel
theorem dX8_init_57 : decode cX8_init 57 = .ok (.putfield 32, 3) := by decide +kernel
theorem dX8_init_60 : decode cX8_init 60 = .ok (.aload_n 0, 1) := by decide +kernel
theorem dX8_init_61 : decode cX8_init 61 = .ok (.bipush 72, 2) := by decide +kernel
theorem dX8_init_63 : decode cX8_init 63 = .ok (.newarray .int, 2) := by decide +kernel
theorem dX8_init_65 : decode cX8_init 65 = .ok (.putfield 35, 3) := by decide +kernel
theorem dX8_init_68 : decode cX8_init 68 = .ok (.aload_n 0, 1) := by decide +kernel
theorem dX8_init_69 : decode cX8_init 69 = .ok (.bipush 72, 2) := by decide +kernel
theorem dX8_init_71 : decode cX8_init 71 = .ok (.newarray .int, 2) := by decide +kernel
theorem dX8_init_73 : decode cX8_init 73 = .ok (.putfield 38, 3) := by decide +kernel
theorem dX8_init_76 : decode cX8_init 76 = .ok (.aload_n 0, 1) := by decide +kernel
theorem dX8_init_77 : decode cX8_init 77 = .ok (.bipush 72, 2) := by decide +kernel
theorem dX8_init_79 : decode cX8_init 79 = .ok (.newarray .int, 2) := by decide +kernel
theorem dX8_init_81 : decode cX8_init 81 = .ok (.putfield 41, 3) := by decide +kernel
theorem dX8_init_84 : decode cX8_init 84 = .ok (.aload_n 0, 1) := by decide +kernel
theorem dX8_init_85 : decode cX8_init 85 = .ok (.sipush 1800, 3) := by decide +kernel
theorem dX8_init_88 : decode cX8_init 88 = .ok (.newarray .int, 2) := by decide +kernel
theorem dX8_init_90 : decode cX8_init 90 = .ok (.putfield 44, 3) := by decide +kernel
theorem dX8_init_93 : decode cX8_init 93 = .ok (.aload_n 0, 1) := by decide +kernel
theorem dX8_init_94 : decode cX8_init 94 = .ok (.sipush 1800, 3) := by decide +kernel
theorem dX8_init_97 : decode cX8_init 97 = .ok (.newarray .int, 2) := by decide +kernel
theorem dX8_init_99 : decode cX8_init 99 = .ok (.putfield 47, 3) := by decide +kernel
theorem dX8_init_102 : decode cX8_init 102 = .ok (.aload_n 0, 1) := by decide +kernel
theorem dX8_init_103 : decode cX8_init 103 = .ok (.iconst (-1), 1) := by decide +kernel
theorem dX8_init_104 : decode cX8_init 104 = .ok (.putfield 50, 3) := by decide +kernel
theorem dX8_init_107 : decode cX8_init 107 = .ok (.aload_n 0, 1) := by decide +kernel
theorem dX8_init_108 : decode cX8_init 108 = .ok (.sipush 160, 3) := by decide +kernel
theorem dX8_init_111 : decode cX8_init 111 = .ok (.newarray .int, 2) := by decide +kernel
theorem dX8_init_113 : decode cX8_init 113 = .ok (.putfield 53, 3) := by decide +kernel
theorem dX8_init_116 : decode cX8_init 116 = .ok (.aload_n 0, 1) := by decide +kernel
theorem dX8_init_117 : decode cX8_init 117 = .ok (.iconst 3, 1) := by decide +kernel
theorem dX8_init_118 : decode cX8_init 118 = .ok (.newarray .int, 2) := by decide +kernel
theorem dX8_init_120 : decode cX8_init 120 = .ok (.putfield 56, 3) := by decide +kernel
theorem dX8_init_123 : decode cX8_init 123 = .ok (.aload_n 0, 1) := by decide +kernel
theorem dX8_init_124 : decode cX8_init 124 = .ok (.iconst 3, 1) := by decide +kernel
theorem dX8_init_125 : decode cX8_init 125 = .ok (.newarray .int, 2) := by decide +kernel
theorem dX8_init_127 : decode cX8_init 127 = .ok (.putfield 59, 3) := by decide +kernel
theorem dX8_init_130 : decode cX8_init 130 = .ok (.aload_n 0, 1) := by decide +kernel
theorem dX8_init_131 : decode cX8_init 131 = .ok (.iconst 3, 1) := by decide +kernel
theorem dX8_init_132 : decode cX8_init 132 = .ok (.newarray .int, 2) := by decide +kernel
theorem dX8_init_134 : decode cX8_init 134 = .ok (.putfield 62, 3) := by decide +kernel
theorem dX8_init_137 : decode cX8_init 137 = .ok (.aload_n 0, 1) := by decide +kernel
theorem dX8_init_138 : decode cX8_init 138 = .ok (.sipush 30000, 3) := by decide +kernel
theorem dX8_init_141 : decode cX8_init 141 = .ok (.newarray .int, 2) := by decide +kernel
theorem dX8_init_143 : decode cX8_init 143 = .ok (.putfield 65, 3) := by decide +kernel
theorem dX8_init_146 : decode cX8_init 146 = .ok (.aload_n 0, 1) := by decide +kernel
theorem dX8_init_147 : decode cX8_init 147 = .ok (.bipush 12, 2) := by decide +kernel
theorem dX8_init_149 : decode cX8_init 149 = .ok (.newarray .int, 2) := by decide +kernel
theorem dX8_init_151 : decode cX8_init 151 = .ok (.putfield 68, 3) := by decide +kernel
theorem dX8_init_154 : decode cX8_init 154 = .ok (.aload_n 0, 1) := by decide +kernel
theorem dX8_init_155 : decode cX8_init 155 = .ok (.sipush 144, 3) := by decide +kernel
theorem dX8_init_158 : decode cX8_init 158 = .ok (.newarray .int, 2) := by decide +kernel
theorem dX8_init_160 : decode cX8_init 160 = .ok (.putfield 71, 3) := by decide +kernel
theorem dX8_init_163 : decode cX8_init 163 = .ok (.aload_n 0, 1) := by decide +kernel
theorem dX8_init_164 : decode cX8_init 164 = .ok (.bipush 24, 2) := by decide +kernel
theorem dX8_init_166 : decode cX8_init 166 = .ok (.newarray .int, 2) := by decide +kernel
theorem dX8_init_168 : decode cX8_init 168 = .ok (.putfield 74, 3) := by decide +kernel
theorem dX8_init_171 : decode cX8_init 171 = .ok (.aload_n 0, 1) := by decide +kernel
theorem dX8_init_172 : decode cX8_init 172 = .ok (.iconst (-1), 1) := by decide +kernel
theorem dX8_init_173 : decode cX8_init 173 = .ok (.putfield 77, 3) := by decide +kernel
theorem dX8_init_176 : decode cX8_init 176 = .ok (.aload_n 0, 1) := by decide +kernel
theorem dX8_init_177 : decode cX8_init 177 = .ok (.iconst 3, 1) := by decide +kernel
theorem dX8_init_178 : decode cX8_init 178 = .ok (.newarray .int, 2) := by decide +kernel
theorem dX8_init_180 : decode cX8_init 180 = .ok (.putfield 80, 3) := by decide +kernel
theorem dX8_init_183 : decode cX8_init 183 = .ok (.aload_n 0, 1) := by decide +kernel
theorem dX8_init_184 : decode cX8_init 184 = .ok (.iconst 3, 1) := by decide +kernel
theorem dX8_init_185 : decode cX8_init 185 = .ok (.newarray .int, 2) := by decide +kernel
theorem dX8_init_187 : decode cX8_init 187 = .ok (.putfield 83, 3) := by decide +kernel
theorem dX8_init_190 : decode cX8_init 190 = .ok (.aload_n 0, 1) := by decide +kernel
theorem dX8_init_191 : decode cX8_init 191 = .ok (.sipush 10392, 3) := by decide +kernel
theorem dX8_init_194 : decode cX8_init 194 = .ok (.newarray .int, 2) := by decide +kernel
theorem dX8_init_196 : decode cX8_init 196 = .ok (.putfield 86, 3) := by decide +kernel
theorem dX8_init_199 : decode cX8_init 199 = .ok (.aload_n 0, 1) := by decide +kernel
theorem dX8_init_200 : decode cX8_init 200 = .ok (.sipush 300, 3) := by decide +kernel
theorem dX8_init_203 : decode cX8_init 203 = .ok (.newarray .boolean, 2) := by decide +kernel
theorem dX8_init_205 : decode cX8_init 205 = .ok (.putfield 89, 3) := by decide +kernel
theorem dX8_init_208 : decode cX8_init 208 = .ok (.aload_n 0, 1) := by decide +kernel
theorem dX8_init_209 : decode cX8_init 209 = .ok (.bipush 9, 2) := by decide +kernel
theorem dX8_init_211 : decode cX8_init 211 = .ok (.newarray .int, 2) := by decide +kernel
theorem dX8_init_213 : decode cX8_init 213 = .ok (.putfield 93, 3) := by decide +kernel
theorem dX8_init_216 : decode cX8_init 216 = .ok (.aload_n 0, 1) := by decide +kernel
theorem dX8_init_217 : decode cX8_init 217 = .ok (.sipush 192, 3) := by decide +kernel
theorem dX8_init_220 : decode cX8_init 220 = .ok (.newarray .int, 2) := by decide +kernel
theorem dX8_init_222 : decode cX8_init 222 = .ok (.putfield 96, 3) := by decide +kernel
theorem dX8_init_225 : decode cX8_init 225 = .ok (.aload_n 0, 1) := by decide +kernel
theorem dX8_init_226 : decode cX8_init 226 = .ok (.bipush 24, 2) := by decide +kernel
theorem dX8_init_228 : decode cX8_init 228 = .ok (.newarray .int, 2) := by decide +kernel
theorem dX8_init_230 : decode cX8_init 230 = .ok (.putfield 99, 3) := by decide +kernel
theorem dX8_init_233 : decode cX8_init 233 = .ok (.aload_n 0, 1) := by decide +kernel
theorem dX8_init_234 : decode cX8_init 234 = .ok (.sipush 13856, 3) := by decide +kernel
theorem dX8_init_237 : decode cX8_init 237 = .ok (.newarray .int, 2) := by decide +kernel
theorem dX8_init_239 : decode cX8_init 239 = .ok (.putfield 102, 3) := by decide +kernel
theorem dX8_init_242 : decode cX8_init 242 = .ok (.aload_n 0, 1) := by decide +kernel
theorem dX8_init_243 : decode cX8_init 243 = .ok (.getfield 13, 3) := by decide +kernel
theorem dX8_init_246 : decode cX8_init 246 = .ok (.iconst 0, 1) := by decide +kernel
theorem dX8_init_247 : decode cX8_init 247 = .ok (.iconst 1, 1) := by decide +kernel
theorem dX8_init_248 : decode cX8_init 248 = .ok (.iastore, 1) := by decide +kernel
theorem dX8_init_249 : decode cX8_init 249 = .ok (.aload_n 0, 1) := by decide +kernel
theorem dX8_init_250 : decode cX8_init 250 = .ok (.getfield 13, 3) := by decide +kernel
theorem dX8_init_253 : decode cX8_init 253 = .ok (.iconst 1, 1) := by decide +kernel
theorem dX8_init_254 : decode cX8_init 254 = .ok (.iconst 1, 1) := by decide +kernel
theorem dX8_init_255 : decode cX8_init 255 = .ok (.iastore, 1) := by decide +kernel
theorem dX8_init_256 : decode cX8_init 256 = .ok (.aload_n 0, 1) := by decide +kernel
theorem dX8_init_257 : decode cX8_init 257 = .ok (.getfield 13, 3) := by decide +kernel
theorem dX8_init_260 : decode cX8_init 260 = .ok (.iconst 3, 1) := by decide +kernel
theorem dX8_init_261 : decode cX8_init 261 = .ok (.sipush 1000, 3) := by decide +kernel
theorem dX8_init_264 : decode cX8_init 264 = .ok (.iastore, 1) := by decide +kernel
theorem dX8_init_265 : decode cX8_init 265 = .ok (.aload_n 0, 1) := by decide +kernel
theorem dX8_init_266 : decode cX8_init 266 = .ok (.getfield 13, 3) := by decide +kernel
theorem dX8_init_269 : decode cX8_init 269 = .ok (.iconst 4, 1) := by decide +kernel
theorem dX8_init_270 : decode cX8_init 270 = .ok (.bipush 50, 2) := by decide +kernel
theorem dX8_init_272 : decode cX8_init 272 = .ok (.iastore, 1) := by decide +kernel
theorem dX8_init_273 : decode cX8_init 273 = .ok (.aload_n 0, 1) := by decide +kernel
theorem dX8_init_274 : decode cX8_init 274 = .ok (.getfield 13, 3) := by decide +kernel
theorem dX8_init_277 : decode cX8_init 277 = .ok (.iconst 5, 1) := by decide +kernel
theorem dX8_init_278 : decode cX8_init 278 = .ok (.iconst (-1), 1) := by decide +kernel
theorem dX8_init_279 : decode cX8_init 279 = .ok (.iastore, 1) := by decide +kernel
theorem dX8_init_280 : decode cX8_init 280 = .ok (.iconst 0, 1) := by decide +kernel
theorem dX8_init_281 : decode cX8_init 281 = .ok (.istore_n 1, 1) := by decide +kernel
theorem dX8_init_282 : decode cX8_init 282 = .ok (.iload_n 1, 1) := by decide +kernel
theorem dX8_init_283 : decode cX8_init 283 = .ok (.bipush 12, 2) := by decide +kernel
theorem dX8_init_285 : decode cX8_init 285 = .ok (.if_icmp .ge 16, 3) := by decide +kernel
theorem dX8_init_288 : decode cX8_init 288 = .ok (.aload_n 0, 1) := by decide +kernel
theorem dX8_init_289 : decode cX8_init 289 = .ok (.getfield 68, 3) := by decide +kernel
theorem dX8_init_292 : decode cX8_init 292 = .ok (.iload_n 1, 1) := by decide +kernel
theorem dX8_init_293 : decode cX8_init 293 = .ok (.iconst (-1), 1) := by decide +kernel
theorem dX8_init_294 : decode cX8_init 294 = .ok (.iastore, 1) := by decide +kernel
theorem dX8_init_295 : decode cX8_init 295 = .ok (.iinc 1 1, 3) := by decide +kernel
theorem dX8_init_298 : decode cX8_init 298 = .ok (.goto (-16), 3) := by decide +kernel
theorem dX8_init_301 : decode cX8_init 301 = .ok (.iconst 0, 1) := by decide +kernel
theorem dX8_init_302 : decode cX8_init 302 = .ok (.istore_n 1, 1) := by decide +kernel
theorem dX8_init_303 : decode cX8_init 303 = .ok (.iload_n 1, 1) := by decide +kernel
theorem dX8_init_304 : decode cX8_init 304 = .ok (.sipush 144, 3) := by decide +kernel
theorem dX8_init_307 : decode cX8_init 307 = .ok (.if_icmp .ge 16, 3) := by decide +kernel
theorem dX8_init_310 : decode cX8_init 310 = .ok (.aload_n 0, 1) := by decide +kernel
theorem dX8_init_311 : decode cX8_init 311 = .ok (.getfield 71, 3) := by decide +kernel
theorem dX8_init_314 : decode cX8_init 314 = .ok (.iload_n 1, 1) := by decide +kernel
theorem dX8_init_315 : decode cX8_init 315 = .ok (.iconst (-1), 1) := by decide +kernel
theorem dX8_init_316 : decode cX8_init 316 = .ok (.iastore, 1) := by decide +kernel
theorem dX8_init_317 : decode cX8_init 317 = .ok (.iinc 1 1, 3) := by decide +kernel
theorem dX8_init_320 : decode cX8_init 320 = .ok (.goto (-17), 3) := by decide +kernel
theorem dX8_init_323 : decode cX8_init 323 = .ok (.return_, 1) := by decide +kernel
theorem dX8_draw_0 : decode cX8_draw 0 = .ok (.aload_n 0, 1) := by decide +kernel
theorem dX8_draw_1 : decode cX8_draw 1 = .ok (.getfield 20, 3) := by decide +kernel
theorem dX8_draw_4 : decode cX8_draw 4 = .ok (.iload_n 1, 1) := by decide +kernel
theorem dX8_draw_5 : decode cX8_draw 5 = .ok (.aload_n 0, 1) := by decide +kernel
theorem dX8_draw_6 : decode cX8_draw 6 = .ok (.getfield 20, 3) := by decide +kernel
theorem dX8_draw_9 : decode cX8_draw 9 = .ok (.iload_n 1, 1) := by decide +kernel
theorem dX8_draw_10 : decode cX8_draw 10 = .ok (.iaload, 1) := by decide +kernel
theorem dX8_draw_11 : decode cX8_draw 11 = .ok (.ldc 105, 2) := by decide +kernel
theorem dX8_draw_13 : decode cX8_draw 13 = .ok (.imul, 1) := by decide +kernel
theorem dX8_draw_14 : decode cX8_draw 14 = .ok (.sipush 12345, 3) := by decide +kernel
theorem dX8_draw_17 : decode cX8_draw 17 = .ok (.iadd, 1) := by decide +kernel
theorem dX8_draw_18 : decode cX8_draw 18 = .ok (.iastore, 1) := by decide +kernel
theorem dX8_draw_19 : decode cX8_draw 19 = .ok (.aload_n 0, 1) := by decide +kernel
theorem dX8_draw_20 : decode cX8_draw 20 = .ok (.getfield 20, 3) := by decide +kernel
theorem dX8_draw_23 : decode cX8_draw 23 = .ok (.iload_n 1, 1) := by decide +kernel
theorem dX8_draw_24 : decode cX8_draw 24 = .ok (.iaload, 1) := by decide +kernel
theorem dX8_draw_25 : decode cX8_draw 25 = .ok (.bipush 16, 2) := by decide +kernel
theorem dX8_draw_27 : decode cX8_draw 27 = .ok (.ishr, 1) := by decide +kernel
theorem dX8_draw_28 : decode cX8_draw 28 = .ok (.sipush 32767, 3) := by decide +kernel
theorem dX8_draw_31 : decode cX8_draw 31 = .ok (.iand, 1) := by decide +kernel
theorem dX8_draw_32 : decode cX8_draw 32 = .ok (.iload_n 2, 1) := by decide +kernel
theorem dX8_draw_33 : decode cX8_draw 33 = .ok (.irem, 1) := by decide +kernel
theorem dX8_draw_34 : decode cX8_draw 34 = .ok (.ireturn, 1) := by decide +kernel
theorem dX8_at_0 : decode cX8_at 0 = .ok (.bipush 56, 2) := by decide +kernel
theorem dX8_at_2 : decode cX8_at 2 = .ok (.sipush 142, 3) := by decide +kernel
theorem dX8_at_5 : decode cX8_at 5 = .ok (.iload_n 0, 1) := by decide +kernel
theorem dX8_at_6 : decode cX8_at 6 = .ok (.imul, 1) := by decide +kernel
theorem dX8_at_7 : decode cX8_at 7 = .ok (.iadd, 1) := by decide +kernel
theorem dX8_at_8 : decode cX8_at 8 = .ok (.ireturn, 1) := by decide +kernel
theorem dX8_isChild_0 : decode cX8_isChild 0 = .ok (.aload_n 0, 1) := by decide +kernel
theorem dX8_isChild_1 : decode cX8_isChild 1 = .ok (.iload_n 1, 1) := by decide +kernel
theorem dX8_isChild_2 : decode cX8_isChild 2 = .ok (.iconst 0, 1) := by decide +kernel
theorem dX8_isChild_3 : decode cX8_isChild 3 = .ok (.aload_n 0, 1) := by decide +kernel
theorem dX8_isChild_4 : decode cX8_isChild 4 = .ok (.getfield 13, 3) := by decide +kernel
theorem dX8_isChild_7 : decode cX8_isChild 7 = .ok (.bipush 6, 2) := by decide +kernel
theorem dX8_isChild_9 : decode cX8_isChild 9 = .ok (.iaload, 1) := by decide +kernel
theorem dX8_isChild_10 : decode cX8_isChild 10 = .ok (.iconst 1, 1) := by decide +kernel
theorem dX8_isChild_11 : decode cX8_isChild 11 = .ok (.isub, 1) := by decide +kernel
theorem dX8_isChild_12 : decode cX8_isChild 12 = .ok (.invokestatic 106, 3) := by decide +kernel
theorem dX8_isChild_15 : decode cX8_isChild 15 = .ok (.iconst 1, 1) := by decide +kernel
theorem dX8_isChild_16 : decode cX8_isChild 16 = .ok (.invokevirtual 110, 3) := by decide +kernel
theorem dX8_isChild_19 : decode cX8_isChild 19 = .ok (.ireturn, 1) := by decide +kernel
theorem dX8_isYard_0 : decode cX8_isYard 0 = .ok (.iload_n 0, 1) := by decide +kernel
theorem dX8_isYard_1 : decode cX8_isYard 1 = .ok (.iconst 0, 1) := by decide +kernel
theorem dX8_isYard_2 : decode cX8_isYard 2 = .ok (.iconst 2, 1) := by decide +kernel
theorem dX8_isYard_3 : decode cX8_isYard 3 = .ok (.invokestatic 106, 3) := by decide +kernel
theorem dX8_isYard_6 : decode cX8_isYard 6 = .ok (.ireturn, 1) := by decide +kernel
theorem dX8_isOrder_0 : decode cX8_isOrder 0 = .ok (.iload_n 0, 1) := by decide +kernel
theorem dX8_isOrder_1 : decode cX8_isOrder 1 = .ok (.iconst 0, 1) := by decide +kernel
theorem dX8_isOrder_2 : decode cX8_isOrder 2 = .ok (.iconst 5, 1) := by decide +kernel
theorem dX8_isOrder_3 : decode cX8_isOrder 3 = .ok (.invokestatic 106, 3) := by decide +kernel
theorem dX8_isOrder_6 : decode cX8_isOrder 6 = .ok (.ireturn, 1) := by decide +kernel
theorem dX8_seeds_0 : decode cX8_seeds 0 = .ok (.aload_n 0, 1) := by decide +kernel
theorem dX8_seeds_1 : decode cX8_seeds 1 = .ok (.iconst 0, 1) := by decide +kernel
theorem dX8_seeds_2 : decode cX8_seeds 2 = .ok (.putfield 1, 3) := by decide +kernel
theorem dX8_seeds_5 : decode cX8_seeds 5 = .ok (.aload_n 0, 1) := by decide +kernel
theorem dX8_seeds_6 : decode cX8_seeds 6 = .ok (.getfield 13, 3) := by decide +kernel
theorem dX8_seeds_9 : decode cX8_seeds 9 = .ok (.iconst 0, 1) := by decide +kernel
theorem dX8_seeds_10 : decode cX8_seeds 10 = .ok (.iload_n 1, 1) := by decide +kernel
theorem dX8_seeds_11 : decode cX8_seeds 11 = .ok (.iastore, 1) := by decide +kernel
theorem dX8_seeds_12 : decode cX8_seeds 12 = .ok (.aload_n 0, 1) := by decide +kernel
theorem dX8_seeds_13 : decode cX8_seeds 13 = .ok (.getfield 13, 3) := by decide +kernel
theorem dX8_seeds_16 : decode cX8_seeds 16 = .ok (.iconst 1, 1) := by decide +kernel
theorem dX8_seeds_17 : decode cX8_seeds 17 = .ok (.iload_n 2, 1) := by decide +kernel
theorem dX8_seeds_18 : decode cX8_seeds 18 = .ok (.iastore, 1) := by decide +kernel
theorem dX8_seeds_19 : decode cX8_seeds 19 = .ok (.aload_n 0, 1) := by decide +kernel
theorem dX8_seeds_20 : decode cX8_seeds 20 = .ok (.invokevirtual 114, 3) := by decide +kernel
theorem dX8_seeds_23 : decode cX8_seeds 23 = .ok (.return_, 1) := by decide +kernel
theorem dX8_come_0 : decode cX8_come 0 = .ok (.aload_n 0, 1) := by decide +kernel
theorem dX8_come_1 : decode cX8_come 1 = .ok (.iconst 0, 1) := by decide +kernel
theorem dX8_come_2 : decode cX8_come 2 = .ok (.putfield 1, 3) := by decide +kernel
theorem dX8_come_5 : decode cX8_come 5 = .ok (.aload_n 0, 1) := by decide +kernel
theorem dX8_come_6 : decode cX8_come 6 = .ok (.iload_n 1, 1) := by decide +kernel
theorem dX8_come_7 : decode cX8_come 7 = .ok (.invokestatic 117, 3) := by decide +kernel
theorem dX8_come_10 : decode cX8_come 10 = .ok (.ifCond .eq 17, 3) := by decide +kernel
theorem dX8_come_13 : decode cX8_come 13 = .ok (.iload_n 2, 1) := by decide +kernel
theorem dX8_come_14 : decode cX8_come 14 = .ok (.iconst 0, 1) := by decide +kernel
theorem dX8_come_15 : decode cX8_come 15 = .ok (.bipush 20, 2) := by decide +kernel
theorem dX8_come_17 : decode cX8_come 17 = .ok (.invokestatic 106, 3) := by decide +kernel
theorem dX8_come_20 : decode cX8_come 20 = .ok (.ifCond .eq 7, 3) := by decide +kernel
theorem dX8_come_23 : decode cX8_come 23 = .ok (.iconst 1, 1) := by decide +kernel
theorem dX8_come_24 : decode cX8_come 24 = .ok (.goto 4, 3) := by decide +kernel
theorem dX8_come_27 : decode cX8_come 27 = .ok (.iconst 0, 1) := by decide +kernel
theorem dX8_come_28 : decode cX8_come 28 = .ok (.iconst 1, 1) := by decide +kernel
theorem dX8_come_29 : decode cX8_come 29 = .ok (.invokevirtual 110, 3) := by decide +kernel
theorem dX8_come_32 : decode cX8_come 32 = .ok (.ifCond .ne 5, 3) := by decide +kernel
theorem dX8_come_35 : decode cX8_come 35 = .ok (.iconst 0, 1) := by decide +kernel
theorem dX8_come_36 : decode cX8_come 36 = .ok (.ireturn, 1) := by decide +kernel
theorem dX8_come_37 : decode cX8_come 37 = .ok (.aload_n 0, 1) := by decide +kernel
theorem dX8_come_38 : decode cX8_come 38 = .ok (.getfield 13, 3) := by decide +kernel
theorem dX8_come_41 : decode cX8_come 41 = .ok (.bipush 6, 2) := by decide +kernel
theorem dX8_come_43 : decode cX8_come 43 = .ok (.iaload, 1) := by decide +kernel
theorem dX8_come_44 : decode cX8_come 44 = .ok (.bipush 24, 2) := by decide +kernel
theorem dX8_come_46 : decode cX8_come 46 = .ok (.if_icmp .ne 5, 3) := by decide +kernel
theorem dX8_come_49 : decode cX8_come 49 = .ok (.iconst (-1), 1) := by decide +kernel
theorem dX8_come_50 : decode cX8_come 50 = .ok (.ireturn, 1) := by decide +kernel
theorem dX8_come_51 : decode cX8_come 51 = .ok (.aload_n 0, 1) := by decide +kernel
theorem dX8_come_52 : decode cX8_come 52 = .ok (.getfield 13, 3) := by decide +kernel
theorem dX8_come_55 : decode cX8_come 55 = .ok (.bipush 6, 2) := by decide +kernel
theorem dX8_come_57 : decode cX8_come 57 = .ok (.iaload, 1) := by decide +kernel
theorem dX8_come_58 : decode cX8_come 58 = .ok (.istore 4, 2) := by decide +kernel
theorem dX8_come_60 : decode cX8_come 60 = .ok (.iload 4, 2) := by decide +kernel
theorem dX8_come_62 : decode cX8_come 62 = .ok (.invokestatic 121, 3) := by decide +kernel
theorem dX8_come_65 : decode cX8_come 65 = .ok (.istore 5, 2) := by decide +kernel
theorem dX8_come_67 : decode cX8_come 67 = .ok (.iconst 0, 1) := by decide +kernel
theorem dX8_come_68 : decode cX8_come 68 = .ok (.istore 6, 2) := by decide +kernel
theorem dX8_come_70 : decode cX8_come 70 = .ok (.iload 6, 2) := by decide +kernel
theorem dX8_come_72 : decode cX8_come 72 = .ok (.sipush 142, 3) := by decide +kernel
theorem dX8_come_75 : decode cX8_come 75 = .ok (.if_icmp .ge 20, 3) := by decide +kernel
theorem dX8_come_78 : decode cX8_come 78 = .ok (.aload_n 0, 1) := by decide +kernel
theorem dX8_come_79 : decode cX8_come 79 = .ok (.getfield 13, 3) := by decide +kernel
theorem dX8_come_82 : decode cX8_come 82 = .ok (.iload 5, 2) := by decide +kernel
theorem dX8_come_84 : decode cX8_come 84 = .ok (.iload 6, 2) := by decide +kernel
theorem dX8_come_86 : decode cX8_come 86 = .ok (.iadd, 1) := by decide +kernel
theorem dX8_come_87 : decode cX8_come 87 = .ok (.iconst 0, 1) := by decide +kernel
theorem dX8_come_88 : decode cX8_come 88 = .ok (.iastore, 1) := by decide +kernel
theorem dX8_come_89 : decode cX8_come 89 = .ok (.iinc 6 1, 3) := by decide +kernel
theorem dX8_come_92 : decode cX8_come 92 = .ok (.goto (-22), 3) := by decide +kernel
theorem dX8_come_95 : decode cX8_come 95 = .ok (.aload_n 0, 1) := by decide +kernel
theorem dX8_come_96 : decode cX8_come 96 = .ok (.getfield 13, 3) := by decide +kernel
theorem dX8_come_99 : decode cX8_come 99 = .ok (.iload 5, 2) := by decide +kernel
theorem dX8_come_101 : decode cX8_come 101 = .ok (.iconst 0, 1) := by decide +kernel
theorem dX8_come_102 : decode cX8_come 102 = .ok (.iadd, 1) := by decide +kernel
theorem dX8_come_103 : decode cX8_come 103 = .ok (.iload_n 1, 1) := by decide +kernel
theorem dX8_come_104 : decode cX8_come 104 = .ok (.iastore, 1) := by decide +kernel
theorem dX8_come_105 : decode cX8_come 105 = .ok (.aload_n 0, 1) := by decide +kernel
theorem dX8_come_106 : decode cX8_come 106 = .ok (.getfield 13, 3) := by decide +kernel
theorem dX8_come_109 : decode cX8_come 109 = .ok (.iload 5, 2) := by decide +kernel
theorem dX8_come_111 : decode cX8_come 111 = .ok (.iconst 1, 1) := by decide +kernel
theorem dX8_come_112 : decode cX8_come 112 = .ok (.iadd, 1) := by decide +kernel
theorem dX8_come_113 : decode cX8_come 113 = .ok (.iload_n 2, 1) := by decide +kernel
theorem dX8_come_114 : decode cX8_come 114 = .ok (.iastore, 1) := by decide +kernel
theorem dX8_come_115 : decode cX8_come 115 = .ok (.aload_n 0, 1) := by decide +kernel
theorem dX8_come_116 : decode cX8_come 116 = .ok (.getfield 13, 3) := by decide +kernel
theorem dX8_come_119 : decode cX8_come 119 = .ok (.iload 5, 2) := by decide +kernel
theorem dX8_come_121 : decode cX8_come 121 = .ok (.iconst 2, 1) := by decide +kernel
theorem dX8_come_122 : decode cX8_come 122 = .ok (.iadd, 1) := by decide +kernel
theorem dX8_come_123 : decode cX8_come 123 = .ok (.aload_n 0, 1) := by decide +kernel
theorem dX8_come_124 : decode cX8_come 124 = .ok (.getfield 13, 3) := by decide +kernel
theorem dX8_come_127 : decode cX8_come 127 = .ok (.iconst 2, 1) := by decide +kernel
theorem dX8_come_128 : decode cX8_come 128 = .ok (.iaload, 1) := by decide +kernel
theorem dX8_come_129 : decode cX8_come 129 = .ok (.iastore, 1) := by decide +kernel
theorem dX8_come_130 : decode cX8_come 130 = .ok (.aload_n 0, 1) := by decide +kernel
theorem dX8_come_131 : decode cX8_come 131 = .ok (.getfield 13, 3) := by decide +kernel
theorem dX8_come_134 : decode cX8_come 134 = .ok (.iload 5, 2) := by decide +kernel
theorem dX8_come_136 : decode cX8_come 136 = .ok (.iconst 3, 1) := by decide +kernel
theorem dX8_come_137 : decode cX8_come 137 = .ok (.iadd, 1) := by decide +kernel
theorem dX8_come_138 : decode cX8_come 138 = .ok (.iconst 1, 1) := by decide +kernel
theorem dX8_come_139 : decode cX8_come 139 = .ok (.iastore, 1) := by decide +kernel
theorem dX8_come_140 : decode cX8_come 140 = .ok (.aload_n 0, 1) := by decide +kernel
theorem dX8_come_141 : decode cX8_come 141 = .ok (.getfield 13, 3) := by decide +kernel
theorem dX8_come_144 : decode cX8_come 144 = .ok (.iload 5, 2) := by decide +kernel
theorem dX8_come_146 : decode cX8_come 146 = .ok (.iconst 4, 1) := by decide +kernel
theorem dX8_come_147 : decode cX8_come 147 = .ok (.iadd, 1) := by decide +kernel
theorem dX8_come_148 : decode cX8_come 148 = .ok (.iload_n 3, 1) := by decide +kernel
theorem dX8_come_149 : decode cX8_come 149 = .ok (.ifCond .eq 7, 3) := by decide +kernel
theorem dX8_come_152 : decode cX8_come 152 = .ok (.iconst 3, 1) := by decide +kernel
theorem dX8_come_153 : decode cX8_come 153 = .ok (.goto 24, 3) := by decide +kernel
theorem dX8_come_156 : decode cX8_come 156 = .ok (.iload_n 2, 1) := by decide +kernel
theorem dX8_come_157 : decode cX8_come 157 = .ok (.bipush 7, 2) := by decide +kernel
theorem dX8_come_159 : decode cX8_come 159 = .ok (.if_icmp .ge 7, 3) := by decide +kernel
theorem dX8_come_162 : decode cX8_come 162 = .ok (.iconst 0, 1) := by decide +kernel
theorem dX8_come_163 : decode cX8_come 163 = .ok (.goto 14, 3) := by decide +kernel
theorem dX8_come_166 : decode cX8_come 166 = .ok (.iload_n 2, 1) := by decide +kernel
theorem dX8_come_167 : decode cX8_come 167 = .ok (.bipush 12, 2) := by decide +kernel
theorem dX8_come_169 : decode cX8_come 169 = .ok (.if_icmp .lt 7, 3) := by decide +kernel
theorem dX8_come_172 : decode cX8_come 172 = .ok (.iconst 2, 1) := by decide +kernel
theorem dX8_come_173 : decode cX8_come 173 = .ok (.goto 4, 3) := by decide +kernel
theorem dX8_come_176 : decode cX8_come 176 = .ok (.iconst 1, 1) := by decide +kernel
theorem dX8_come_177 : decode cX8_come 177 = .ok (.iastore, 1) := by decide +kernel
theorem dX8_come_178 : decode cX8_come 178 = .ok (.iconst 0, 1) := by decide +kernel
theorem dX8_come_179 : decode cX8_come 179 = .ok (.istore 6, 2) := by decide +kernel
theorem dX8_come_181 : decode cX8_come 181 = .ok (.iload 6, 2) := by decide +kernel
theorem dX8_come_183 : decode cX8_come 183 = .ok (.bipush 8, 2) := by decide +kernel
theorem dX8_come_185 : decode cX8_come 185 = .ok (.if_icmp .ge 69, 3) := by decide +kernel
theorem dX8_come_188 : decode cX8_come 188 = .ok (.iload_n 3, 1) := by decide +kernel
theorem dX8_come_189 : decode cX8_come 189 = .ok (.ifCond .eq 28, 3) := by decide +kernel
theorem dX8_come_192 : decode cX8_come 192 = .ok (.aload_n 0, 1) := by decide +kernel
theorem dX8_come_193 : decode cX8_come 193 = .ok (.getfield 13, 3) := by decide +kernel
theorem dX8_come_196 : decode cX8_come 196 = .ok (.iload 5, 2) := by decide +kernel
theorem dX8_come_198 : decode cX8_come 198 = .ok (.bipush 8, 2) := by decide +kernel
theorem dX8_come_200 : decode cX8_come 200 = .ok (.iadd, 1) := by decide +kernel
theorem dX8_come_201 : decode cX8_come 201 = .ok (.bipush 16, 2) := by decide +kernel
theorem dX8_come_203 : decode cX8_come 203 = .ok (.iload 6, 2) := by decide +kernel
theorem dX8_come_205 : decode cX8_come 205 = .ok (.imul, 1) := by decide +kernel
theorem dX8_come_206 : decode cX8_come 206 = .ok (.iadd, 1) := by decide +kernel
theorem dX8_come_207 : decode cX8_come 207 = .ok (.iload 6, 2) := by decide +kernel
theorem dX8_come_209 : decode cX8_come 209 = .ok (.iadd, 1) := by decide +kernel
theorem dX8_come_210 : decode cX8_come 210 = .ok (.sipush 500, 3) := by decide +kernel
theorem dX8_come_213 : decode cX8_come 213 = .ok (.iastore, 1) := by decide +kernel
theorem dX8_come_214 : decode cX8_come 214 = .ok (.goto 34, 3) := by decide +kernel
theorem dX8_come_217 : decode cX8_come 217 = .ok (.aload_n 0, 1) := by decide +kernel
theorem dX8_come_218 : decode cX8_come 218 = .ok (.getfield 13, 3) := by decide +kernel
theorem dX8_come_221 : decode cX8_come 221 = .ok (.iload 5, 2) := by decide +kernel
theorem dX8_come_223 : decode cX8_come 223 = .ok (.bipush 8, 2) := by decide +kernel
theorem dX8_come_225 : decode cX8_come 225 = .ok (.iadd, 1) := by decide +kernel
theorem dX8_come_226 : decode cX8_come 226 = .ok (.bipush 16, 2) := by decide +kernel
theorem dX8_come_228 : decode cX8_come 228 = .ok (.iload 6, 2) := by decide +kernel
theorem dX8_come_230 : decode cX8_come 230 = .ok (.imul, 1) := by decide +kernel
theorem dX8_come_231 : decode cX8_come 231 = .ok (.iadd, 1) := by decide +kernel
theorem dX8_come_232 : decode cX8_come 232 = .ok (.iconst 5, 1) := by decide +kernel
theorem dX8_come_233 : decode cX8_come 233 = .ok (.iload 4, 2) := by decide +kernel
theorem dX8_come_235 : decode cX8_come 235 = .ok (.imul, 1) := by decide +kernel
theorem dX8_come_236 : decode cX8_come 236 = .ok (.iconst 3, 1) := by decide +kernel
theorem dX8_come_237 : decode cX8_come 237 = .ok (.iload 6, 2) := by decide +kernel
theorem dX8_come_239 : decode cX8_come 239 = .ok (.imul, 1) := by decide +kernel
theorem dX8_come_240 : decode cX8_come 240 = .ok (.iadd, 1) := by decide +kernel
theorem dX8_come_241 : decode cX8_come 241 = .ok (.bipush 16, 2) := by decide +kernel
theorem dX8_come_243 : decode cX8_come 243 = .ok (.irem, 1) := by decide +kernel
theorem dX8_come_244 : decode cX8_come 244 = .ok (.iadd, 1) := by decide +kernel
theorem dX8_come_245 : decode cX8_come 245 = .ok (.bipush 10, 2) := by decide +kernel
theorem dX8_come_247 : decode cX8_come 247 = .ok (.iastore, 1) := by decide +kernel
theorem dX8_come_248 : decode cX8_come 248 = .ok (.iinc 6 1, 3) := by decide +kernel
theorem dX8_come_251 : decode cX8_come 251 = .ok (.goto (-70), 3) := by decide +kernel
theorem dX8_come_254 : decode cX8_come 254 = .ok (.iload_n 3, 1) := by decide +kernel
theorem dX8_come_255 : decode cX8_come 255 = .ok (.ifCond .eq 17, 3) := by decide +kernel
theorem dX8_come_258 : decode cX8_come 258 = .ok (.aload_n 0, 1) := by decide +kernel
theorem dX8_come_259 : decode cX8_come 259 = .ok (.getfield 13, 3) := by decide +kernel
theorem dX8_come_262 : decode cX8_come 262 = .ok (.iload 5, 2) := by decide +kernel
theorem dX8_come_264 : decode cX8_come 264 = .ok (.sipush 136, 3) := by decide +kernel
theorem dX8_come_267 : decode cX8_come 267 = .ok (.iadd, 1) := by decide +kernel
theorem dX8_come_268 : decode cX8_come 268 = .ok (.sipush 500, 3) := by decide +kernel
theorem dX8_come_271 : decode cX8_come 271 = .ok (.iastore, 1) := by decide +kernel
theorem dX8_come_272 : decode cX8_come 272 = .ok (.aload_n 0, 1) := by decide +kernel
theorem dX8_come_273 : decode cX8_come 273 = .ok (.getfield 13, 3) := by decide +kernel
theorem dX8_come_276 : decode cX8_come 276 = .ok (.bipush 6, 2) := by decide +kernel
theorem dX8_come_278 : decode cX8_come 278 = .ok (.dup2, 1) := by decide +kernel
theorem dX8_come_279 : decode cX8_come 279 = .ok (.iaload, 1) := by decide +kernel
theorem dX8_come_280 : decode cX8_come 280 = .ok (.iconst 1, 1) := by decide +kernel
theorem dX8_come_281 : decode cX8_come 281 = .ok (.iadd, 1) := by decide +kernel
theorem dX8_come_282 : decode cX8_come 282 = .ok (.iastore, 1) := by decide +kernel
theorem dX8_come_283 : decode cX8_come 283 = .ok (.aload_n 0, 1) := by decide +kernel
theorem dX8_come_284 : decode cX8_come 284 = .ok (.invokevirtual 114, 3) := by decide +kernel
theorem dX8_come_287 : decode cX8_come 287 = .ok (.iload 4, 2) := by decide +kernel
theorem dX8_come_289 : decode cX8_come 289 = .ok (.ireturn, 1) := by decide +kernel
theorem dX8_leave_0 : decode cX8_leave 0 = .ok (.aload_n 0, 1) := by decide +kernel
theorem dX8_leave_1 : decode cX8_leave 1 = .ok (.iconst 0, 1) := by decide +kernel
theorem dX8_leave_2 : decode cX8_leave 2 = .ok (.putfield 1, 3) := by decide +kernel
theorem dX8_leave_5 : decode cX8_leave 5 = .ok (.aload_n 0, 1) := by decide +kernel
theorem dX8_leave_6 : decode cX8_leave 6 = .ok (.iload_n 1, 1) := by decide +kernel
theorem dX8_leave_7 : decode cX8_leave 7 = .ok (.invokevirtual 125, 3) := by decide +kernel
theorem dX8_leave_10 : decode cX8_leave 10 = .ok (.ifCond .ne 5, 3) := by decide +kernel
theorem dX8_leave_13 : decode cX8_leave 13 = .ok (.iconst 0, 1) := by decide +kernel
theorem dX8_leave_14 : decode cX8_leave 14 = .ok (.ireturn, 1) := by decide +kernel
theorem dX8_leave_15 : decode cX8_leave 15 = .ok (.aload_n 0, 1) := by decide +kernel
theorem dX8_leave_16 : decode cX8_leave 16 = .ok (.getfield 13, 3) := by decide +kernel
theorem dX8_leave_19 : decode cX8_leave 19 = .ok (.iload_n 1, 1) := by decide +kernel
theorem dX8_leave_20 : decode cX8_leave 20 = .ok (.invokestatic 121, 3) := by decide +kernel
theorem dX8_leave_23 : decode cX8_leave 23 = .ok (.iconst 3, 1) := by decide +kernel
theorem dX8_leave_24 : decode cX8_leave 24 = .ok (.iadd, 1) := by decide +kernel
theorem dX8_leave_25 : decode cX8_leave 25 = .ok (.iaload, 1) := by decide +kernel
theorem dX8_leave_26 : decode cX8_leave 26 = .ok (.ifCond .ne 5, 3) := by decide +kernel
theorem dX8_leave_29 : decode cX8_leave 29 = .ok (.iconst 0, 1) := by decide +kernel
theorem dX8_leave_30 : decode cX8_leave 30 = .ok (.ireturn, 1) := by decide +kernel
theorem dX8_leave_31 : decode cX8_leave 31 = .ok (.aload_n 0, 1) := by decide +kernel
theorem dX8_leave_32 : decode cX8_leave 32 = .ok (.getfield 13, 3) := by decide +kernel
theorem dX8_leave_35 : decode cX8_leave 35 = .ok (.iload_n 1, 1) := by decide +kernel
theorem dX8_leave_36 : decode cX8_leave 36 = .ok (.invokestatic 121, 3) := by decide +kernel
theorem dX8_leave_39 : decode cX8_leave 39 = .ok (.iconst 3, 1) := by decide +kernel
theorem dX8_leave_40 : decode cX8_leave 40 = .ok (.iadd, 1) := by decide +kernel
theorem dX8_leave_41 : decode cX8_leave 41 = .ok (.iconst 0, 1) := by decide +kernel
theorem dX8_leave_42 : decode cX8_leave 42 = .ok (.iastore, 1) := by decide +kernel
theorem dX8_leave_43 : decode cX8_leave 43 = .ok (.aload_n 0, 1) := by decide +kernel
theorem dX8_leave_44 : decode cX8_leave 44 = .ok (.invokevirtual 114, 3) := by decide +kernel
theorem dX8_leave_47 : decode cX8_leave 47 = .ok (.iconst 1, 1) := by decide +kernel
theorem dX8_leave_48 : decode cX8_leave 48 = .ok (.ireturn, 1) := by decide +kernel
theorem dX8_visit_0 : decode cX8_visit 0 = .ok (.aload_n 0, 1) := by decide +kernel
theorem dX8_visit_1 : decode cX8_visit 1 = .ok (.iconst 0, 1) := by decide +kernel
theorem dX8_visit_2 : decode cX8_visit 2 = .ok (.putfield 1, 3) := by decide +kernel
theorem dX8_visit_5 : decode cX8_visit 5 = .ok (.aload_n 0, 1) := by decide +kernel
theorem dX8_visit_6 : decode cX8_visit 6 = .ok (.iload_n 1, 1) := by decide +kernel
theorem dX8_visit_7 : decode cX8_visit 7 = .ok (.invokevirtual 125, 3) := by decide +kernel
theorem dX8_visit_10 : decode cX8_visit 10 = .ok (.ifCond .eq 15, 3) := by decide +kernel
theorem dX8_visit_13 : decode cX8_visit 13 = .ok (.aload_n 0, 1) := by decide +kernel
theorem dX8_visit_14 : decode cX8_visit 14 = .ok (.iload_n 2, 1) := by decide +kernel
theorem dX8_visit_15 : decode cX8_visit 15 = .ok (.invokestatic 117, 3) := by decide +kernel
theorem dX8_visit_18 : decode cX8_visit 18 = .ok (.iconst 2, 1) := by decide +kernel
theorem dX8_visit_19 : decode cX8_visit 19 = .ok (.invokevirtual 110, 3) := by decide +kernel
theorem dX8_visit_22 : decode cX8_visit 22 = .ok (.ifCond .ne 5, 3) := by decide +kernel
theorem dX8_visit_25 : decode cX8_visit 25 = .ok (.iconst 0, 1) := by decide +kernel
theorem dX8_visit_26 : decode cX8_visit 26 = .ok (.ireturn, 1) := by decide +kernel
theorem dX8_visit_27 : decode cX8_visit 27 = .ok (.aload_n 0, 1) := by decide +kernel
theorem dX8_visit_28 : decode cX8_visit 28 = .ok (.getfield 13, 3) := by decide +kernel
theorem dX8_visit_31 : decode cX8_visit 31 = .ok (.iload_n 1, 1) := by decide +kernel
theorem dX8_visit_32 : decode cX8_visit 32 = .ok (.invokestatic 121, 3) := by decide +kernel
theorem dX8_visit_35 : decode cX8_visit 35 = .ok (.iconst 3, 1) := by decide +kernel
theorem dX8_visit_36 : decode cX8_visit 36 = .ok (.iadd, 1) := by decide +kernel
theorem dX8_visit_37 : decode cX8_visit 37 = .ok (.iaload, 1) := by decide +kernel
theorem dX8_visit_38 : decode cX8_visit 38 = .ok (.ifCond .ne 5, 3) := by decide +kernel
theorem dX8_visit_41 : decode cX8_visit 41 = .ok (.iconst (-1), 1) := by decide +kernel
theorem dX8_visit_42 : decode cX8_visit 42 = .ok (.ireturn, 1) := by decide +kernel
theorem dX8_visit_43 : decode cX8_visit 43 = .ok (.aload_n 0, 1) := by decide +kernel
theorem dX8_visit_44 : decode cX8_visit 44 = .ok (.getfield 13, 3) := by decide +kernel
theorem dX8_visit_47 : decode cX8_visit 47 = .ok (.iload_n 1, 1) := by decide +kernel
theorem dX8_visit_48 : decode cX8_visit 48 = .ok (.invokestatic 121, 3) := by decide +kernel
theorem dX8_visit_51 : decode cX8_visit 51 = .ok (.iconst 0, 1) := by decide +kernel
theorem dX8_visit_52 : decode cX8_visit 52 = .ok (.iadd, 1) := by decide +kernel
theorem dX8_visit_53 : decode cX8_visit 53 = .ok (.iaload, 1) := by decide +kernel
theorem dX8_visit_54 : decode cX8_visit 54 = .ok (.istore_n 3, 1) := by decide +kernel
theorem dX8_visit_55 : decode cX8_visit 55 = .ok (.aload_n 0, 1) := by decide +kernel
theorem dX8_visit_56 : decode cX8_visit 56 = .ok (.getfield 13, 3) := by decide +kernel
theorem dX8_visit_59 : decode cX8_visit 59 = .ok (.iload_n 1, 1) := by decide +kernel
theorem dX8_visit_60 : decode cX8_visit 60 = .ok (.invokestatic 121, 3) := by decide +kernel
theorem dX8_visit_63 : decode cX8_visit 63 = .ok (.iconst 0, 1) := by decide +kernel
theorem dX8_visit_64 : decode cX8_visit 64 = .ok (.iadd, 1) := by decide +kernel
theorem dX8_visit_65 : decode cX8_visit 65 = .ok (.iload_n 2, 1) := by decide +kernel
theorem dX8_visit_66 : decode cX8_visit 66 = .ok (.iastore, 1) := by decide +kernel
theorem dX8_visit_67 : decode cX8_visit 67 = .ok (.aload_n 0, 1) := by decide +kernel
theorem dX8_visit_68 : decode cX8_visit 68 = .ok (.invokevirtual 114, 3) := by decide +kernel
theorem dX8_visit_71 : decode cX8_visit 71 = .ok (.iload_n 3, 1) := by decide +kernel
theorem dX8_visit_72 : decode cX8_visit 72 = .ok (.ireturn, 1) := by decide +kernel
theorem dX8_of_0 : decode cX8_of 0 = .ok (.aload_n 0, 1) := by decide +kernel
theorem dX8_of_1 : decode cX8_of 1 = .ok (.iconst 0, 1) := by decide +kernel
theorem dX8_of_2 : decode cX8_of 2 = .ok (.putfield 1, 3) := by decide +kernel
theorem dX8_of_5 : decode cX8_of 5 = .ok (.aload_n 0, 1) := by decide +kernel
theorem dX8_of_6 : decode cX8_of 6 = .ok (.iload_n 1, 1) := by decide +kernel
theorem dX8_of_7 : decode cX8_of 7 = .ok (.invokevirtual 125, 3) := by decide +kernel
theorem dX8_of_10 : decode cX8_of 10 = .ok (.ifCond .eq 18, 3) := by decide +kernel
theorem dX8_of_13 : decode cX8_of 13 = .ok (.aload_n 0, 1) := by decide +kernel
theorem dX8_of_14 : decode cX8_of 14 = .ok (.iload_n 2, 1) := by decide +kernel
theorem dX8_of_15 : decode cX8_of 15 = .ok (.iconst 0, 1) := by decide +kernel
theorem dX8_of_16 : decode cX8_of 16 = .ok (.bipush 6, 2) := by decide +kernel
theorem dX8_of_18 : decode cX8_of 18 = .ok (.invokestatic 106, 3) := by decide +kernel
theorem dX8_of_21 : decode cX8_of 21 = .ok (.iconst 2, 1) := by decide +kernel
theorem dX8_of_22 : decode cX8_of 22 = .ok (.invokevirtual 110, 3) := by decide +kernel
theorem dX8_of_25 : decode cX8_of 25 = .ok (.ifCond .ne 5, 3) := by decide +kernel
theorem dX8_of_28 : decode cX8_of 28 = .ok (.iconst 0, 1) := by decide +kernel
theorem dX8_of_29 : decode cX8_of 29 = .ok (.ireturn, 1) := by decide +kernel
theorem dX8_of_30 : decode cX8_of 30 = .ok (.iload_n 1, 1) := by decide +kernel
theorem dX8_of_31 : decode cX8_of 31 = .ok (.invokestatic 121, 3) := by decide +kernel
theorem dX8_of_34 : decode cX8_of 34 = .ok (.istore_n 3, 1) := by decide +kernel
theorem dX8_of_35 : decode cX8_of 35 = .ok (.iload_n 2, 1) := by decide +kernel
theorem dX8_of_36 : decode cX8_of 36 = .ok (.tableswitch 111 0 5 #[40, 49, 74, 83, 92, 101], 40) := by decide +kernel
theorem dX8_of_76 : decode cX8_of 76 = .ok (.aload_n 0, 1) := by decide +kernel
theorem dX8_of_77 : decode cX8_of 77 = .ok (.getfield 13, 3) := by decide +kernel
theorem dX8_of_80 : decode cX8_of 80 = .ok (.iload_n 3, 1) := by decide +kernel
theorem dX8_of_81 : decode cX8_of 81 = .ok (.iconst 0, 1) := by decide +kernel
theorem dX8_of_82 : decode cX8_of 82 = .ok (.iadd, 1) := by decide +kernel
theorem dX8_of_83 : decode cX8_of 83 = .ok (.iaload, 1) := by decide +kernel
theorem dX8_of_84 : decode cX8_of 84 = .ok (.ireturn, 1) := by decide +kernel
theorem dX8_of_85 : decode cX8_of 85 = .ok (.aload_n 0, 1) := by decide +kernel
theorem dX8_of_86 : decode cX8_of 86 = .ok (.getfield 13, 3) := by decide +kernel
theorem dX8_of_89 : decode cX8_of 89 = .ok (.iconst 2, 1) := by decide +kernel
theorem dX8_of_90 : decode cX8_of 90 = .ok (.iaload, 1) := by decide +kernel
theorem dX8_of_91 : decode cX8_of 91 = .ok (.aload_n 0, 1) := by decide +kernel
theorem dX8_of_92 : decode cX8_of 92 = .ok (.getfield 13, 3) := by decide +kernel
theorem dX8_of_95 : decode cX8_of 95 = .ok (.iload_n 3, 1) := by decide +kernel
theorem dX8_of_96 : decode cX8_of 96 = .ok (.iconst 2, 1) := by decide +kernel
theorem dX8_of_97 : decode cX8_of 97 = .ok (.iadd, 1) := by decide +kernel
theorem dX8_of_98 : decode cX8_of 98 = .ok (.iaload, 1) := by decide +kernel
theorem dX8_of_99 : decode cX8_of 99 = .ok (.isub, 1) := by decide +kernel
theorem dX8_of_100 : decode cX8_of 100 = .ok (.aload_n 0, 1) := by decide +kernel
theorem dX8_of_101 : decode cX8_of 101 = .ok (.getfield 13, 3) := by decide +kernel
theorem dX8_of_104 : decode cX8_of 104 = .ok (.iload_n 3, 1) := by decide +kernel
theorem dX8_of_105 : decode cX8_of 105 = .ok (.iconst 1, 1) := by decide +kernel
theorem dX8_of_106 : decode cX8_of 106 = .ok (.iadd, 1) := by decide +kernel
theorem dX8_of_107 : decode cX8_of 107 = .ok (.iaload, 1) := by decide +kernel
theorem dX8_of_108 : decode cX8_of 108 = .ok (.iadd, 1) := by decide +kernel
theorem dX8_of_109 : decode cX8_of 109 = .ok (.ireturn, 1) := by decide +kernel
theorem dX8_of_110 : decode cX8_of 110 = .ok (.aload_n 0, 1) := by decide +kernel
theorem dX8_of_111 : decode cX8_of 111 = .ok (.getfield 13, 3) := by decide +kernel
theorem dX8_of_114 : decode cX8_of 114 = .ok (.iload_n 3, 1) := by decide +kernel
theorem dX8_of_115 : decode cX8_of 115 = .ok (.iconst 4, 1) := by decide +kernel
theorem dX8_of_116 : decode cX8_of 116 = .ok (.iadd, 1) := by decide +kernel
theorem dX8_of_117 : decode cX8_of 117 = .ok (.iaload, 1) := by decide +kernel
theorem dX8_of_118 : decode cX8_of 118 = .ok (.ireturn, 1) := by decide +kernel
theorem dX8_of_119 : decode cX8_of 119 = .ok (.aload_n 0, 1) := by decide +kernel
theorem dX8_of_120 : decode cX8_of 120 = .ok (.getfield 13, 3) := by decide +kernel
theorem dX8_of_123 : decode cX8_of 123 = .ok (.iload_n 3, 1) := by decide +kernel
theorem dX8_of_124 : decode cX8_of 124 = .ok (.iconst 3, 1) := by decide +kernel
theorem dX8_of_125 : decode cX8_of 125 = .ok (.iadd, 1) := by decide +kernel
theorem dX8_of_126 : decode cX8_of 126 = .ok (.iaload, 1) := by decide +kernel
theorem dX8_of_127 : decode cX8_of 127 = .ok (.ireturn, 1) := by decide +kernel
theorem dX8_of_128 : decode cX8_of 128 = .ok (.aload_n 0, 1) := by decide +kernel
theorem dX8_of_129 : decode cX8_of 129 = .ok (.getfield 13, 3) := by decide +kernel
theorem dX8_of_132 : decode cX8_of 132 = .ok (.iload_n 3, 1) := by decide +kernel
theorem dX8_of_133 : decode cX8_of 133 = .ok (.iconst 5, 1) := by decide +kernel
theorem dX8_of_134 : decode cX8_of 134 = .ok (.iadd, 1) := by decide +kernel
theorem dX8_of_135 : decode cX8_of 135 = .ok (.iaload, 1) := by decide +kernel
theorem dX8_of_136 : decode cX8_of 136 = .ok (.ireturn, 1) := by decide +kernel
theorem dX8_of_137 : decode cX8_of 137 = .ok (.aload_n 0, 1) := by decide +kernel
theorem dX8_of_138 : decode cX8_of 138 = .ok (.getfield 13, 3) := by decide +kernel
theorem dX8_of_141 : decode cX8_of 141 = .ok (.iload_n 3, 1) := by decide +kernel
theorem dX8_of_142 : decode cX8_of 142 = .ok (.bipush 6, 2) := by decide +kernel
theorem dX8_of_144 : decode cX8_of 144 = .ok (.iadd, 1) := by decide +kernel
theorem dX8_of_145 : decode cX8_of 145 = .ok (.iaload, 1) := by decide +kernel
theorem dX8_of_146 : decode cX8_of 146 = .ok (.ireturn, 1) := by decide +kernel
theorem dX8_of_147 : decode cX8_of 147 = .ok (.iconst 0, 1) := by decide +kernel
theorem dX8_of_148 : decode cX8_of 148 = .ok (.istore 4, 2) := by decide +kernel
theorem dX8_of_150 : decode cX8_of 150 = .ok (.iconst 0, 1) := by decide +kernel
theorem dX8_of_151 : decode cX8_of 151 = .ok (.istore 5, 2) := by decide +kernel
theorem dX8_of_153 : decode cX8_of 153 = .ok (.iload 5, 2) := by decide +kernel
theorem dX8_of_155 : decode cX8_of 155 = .ok (.bipush 6, 2) := by decide +kernel
theorem dX8_of_157 : decode cX8_of 157 = .ok (.if_icmp .ge 29, 3) := by decide +kernel
theorem dX8_of_160 : decode cX8_of 160 = .ok (.iload 4, 2) := by decide +kernel
theorem dX8_of_162 : decode cX8_of 162 = .ok (.aload_n 0, 1) := by decide +kernel
theorem dX8_of_163 : decode cX8_of 163 = .ok (.iload_n 1, 1) := by decide +kernel
theorem dX8_of_164 : decode cX8_of 164 = .ok (.iload 5, 2) := by decide +kernel
theorem dX8_of_166 : decode cX8_of 166 = .ok (.invokevirtual 128, 3) := by decide +kernel
theorem dX8_of_169 : decode cX8_of 169 = .ok (.ifCond .eq 7, 3) := by decide +kernel
theorem dX8_of_172 : decode cX8_of 172 = .ok (.iconst 1, 1) := by decide +kernel
theorem dX8_of_173 : decode cX8_of 173 = .ok (.goto 4, 3) := by decide +kernel
theorem dX8_of_176 : decode cX8_of 176 = .ok (.iconst 0, 1) := by decide +kernel
theorem dX8_of_177 : decode cX8_of 177 = .ok (.iadd, 1) := by decide +kernel
theorem dX8_of_178 : decode cX8_of 178 = .ok (.istore 4, 2) := by decide +kernel
theorem dX8_of_180 : decode cX8_of 180 = .ok (.iinc 5 1, 3) := by decide +kernel
theorem dX8_of_183 : decode cX8_of 183 = .ok (.goto (-30), 3) := by decide +kernel
theorem dX8_of_186 : decode cX8_of 186 = .ok (.iload 4, 2) := by decide +kernel
theorem dX8_of_188 : decode cX8_of 188 = .ok (.ireturn, 1) := by decide +kernel
theorem dX8_sign_0 : decode cX8_sign 0 = .ok (.aload_n 0, 1) := by decide +kernel
theorem dX8_sign_1 : decode cX8_sign 1 = .ok (.iconst 0, 1) := by decide +kernel
theorem dX8_sign_2 : decode cX8_sign 2 = .ok (.putfield 1, 3) := by decide +kernel
theorem dX8_sign_5 : decode cX8_sign 5 = .ok (.aload_n 0, 1) := by decide +kernel
theorem dX8_sign_6 : decode cX8_sign 6 = .ok (.iload_n 1, 1) := by decide +kernel
theorem dX8_sign_7 : decode cX8_sign 7 = .ok (.invokevirtual 125, 3) := by decide +kernel
theorem dX8_sign_10 : decode cX8_sign 10 = .ok (.ifCond .eq 36, 3) := by decide +kernel
theorem dX8_sign_13 : decode cX8_sign 13 = .ok (.aload_n 0, 1) := by decide +kernel
theorem dX8_sign_14 : decode cX8_sign 14 = .ok (.iload_n 2, 1) := by decide +kernel
theorem dX8_sign_15 : decode cX8_sign 15 = .ok (.iconst 0, 1) := by decide +kernel
theorem dX8_sign_16 : decode cX8_sign 16 = .ok (.bipush 7, 2) := by decide +kernel
theorem dX8_sign_18 : decode cX8_sign 18 = .ok (.invokestatic 106, 3) := by decide +kernel
theorem dX8_sign_21 : decode cX8_sign 21 = .ok (.ifCond .eq 17, 3) := by decide +kernel
theorem dX8_sign_24 : decode cX8_sign 24 = .ok (.iload_n 3, 1) := by decide +kernel
theorem dX8_sign_25 : decode cX8_sign 25 = .ok (.iconst 0, 1) := by decide +kernel
theorem dX8_sign_26 : decode cX8_sign 26 = .ok (.bipush 15, 2) := by decide +kernel
theorem dX8_sign_28 : decode cX8_sign 28 = .ok (.invokestatic 106, 3) := by decide +kernel
theorem dX8_sign_31 : decode cX8_sign 31 = .ok (.ifCond .eq 7, 3) := by decide +kernel
theorem dX8_sign_34 : decode cX8_sign 34 = .ok (.iconst 1, 1) := by decide +kernel
theorem dX8_sign_35 : decode cX8_sign 35 = .ok (.goto 4, 3) := by decide +kernel
theorem dX8_sign_38 : decode cX8_sign 38 = .ok (.iconst 0, 1) := by decide +kernel
theorem dX8_sign_39 : decode cX8_sign 39 = .ok (.iconst 2, 1) := by decide +kernel
theorem dX8_sign_40 : decode cX8_sign 40 = .ok (.invokevirtual 110, 3) := by decide +kernel
theorem dX8_sign_43 : decode cX8_sign 43 = .ok (.ifCond .ne 5, 3) := by decide +kernel
theorem dX8_sign_46 : decode cX8_sign 46 = .ok (.iconst 0, 1) := by decide +kernel
theorem dX8_sign_47 : decode cX8_sign 47 = .ok (.ireturn, 1) := by decide +kernel
theorem dX8_sign_48 : decode cX8_sign 48 = .ok (.aload_n 0, 1) := by decide +kernel
theorem dX8_sign_49 : decode cX8_sign 49 = .ok (.getfield 13, 3) := by decide +kernel
theorem dX8_sign_52 : decode cX8_sign 52 = .ok (.iload_n 1, 1) := by decide +kernel
theorem dX8_sign_53 : decode cX8_sign 53 = .ok (.invokestatic 121, 3) := by decide +kernel
theorem dX8_sign_56 : decode cX8_sign 56 = .ok (.bipush 8, 2) := by decide +kernel
theorem dX8_sign_58 : decode cX8_sign 58 = .ok (.iadd, 1) := by decide +kernel
theorem dX8_sign_59 : decode cX8_sign 59 = .ok (.bipush 16, 2) := by decide +kernel
theorem dX8_sign_61 : decode cX8_sign 61 = .ok (.iload_n 2, 1) := by decide +kernel
theorem dX8_sign_62 : decode cX8_sign 62 = .ok (.imul, 1) := by decide +kernel
theorem dX8_sign_63 : decode cX8_sign 63 = .ok (.iadd, 1) := by decide +kernel
theorem dX8_sign_64 : decode cX8_sign 64 = .ok (.iload_n 3, 1) := by decide +kernel
theorem dX8_sign_65 : decode cX8_sign 65 = .ok (.iadd, 1) := by decide +kernel
theorem dX8_sign_66 : decode cX8_sign 66 = .ok (.iaload, 1) := by decide +kernel
theorem dX8_sign_67 : decode cX8_sign 67 = .ok (.ireturn, 1) := by decide +kernel
theorem dX8_order_0 : decode cX8_order 0 = .ok (.aload_n 0, 1) := by decide +kernel
theorem dX8_order_1 : decode cX8_order 1 = .ok (.iconst 0, 1) := by decide +kernel
theorem dX8_order_2 : decode cX8_order 2 = .ok (.putfield 1, 3) := by decide +kernel
theorem dX8_order_5 : decode cX8_order 5 = .ok (.aload_n 0, 1) := by decide +kernel
theorem dX8_order_6 : decode cX8_order 6 = .ok (.iload_n 1, 1) := by decide +kernel
theorem dX8_order_7 : decode cX8_order 7 = .ok (.invokevirtual 125, 3) := by decide +kernel
theorem dX8_order_10 : decode cX8_order 10 = .ok (.ifCond .eq 15, 3) := by decide +kernel
theorem dX8_order_13 : decode cX8_order 13 = .ok (.aload_n 0, 1) := by decide +kernel
theorem dX8_order_14 : decode cX8_order 14 = .ok (.iload_n 2, 1) := by decide +kernel
theorem dX8_order_15 : decode cX8_order 15 = .ok (.invokestatic 132, 3) := by decide +kernel
theorem dX8_order_18 : decode cX8_order 18 = .ok (.iconst 2, 1) := by decide +kernel
theorem dX8_order_19 : decode cX8_order 19 = .ok (.invokevirtual 110, 3) := by decide +kernel
theorem dX8_order_22 : decode cX8_order 22 = .ok (.ifCond .ne 5, 3) := by decide +kernel
theorem dX8_order_25 : decode cX8_order 25 = .ok (.iconst 0, 1) := by decide +kernel
theorem dX8_order_26 : decode cX8_order 26 = .ok (.ireturn, 1) := by decide +kernel
theorem dX8_order_27 : decode cX8_order 27 = .ok (.aload_n 0, 1) := by decide +kernel
theorem dX8_order_28 : decode cX8_order 28 = .ok (.getfield 13, 3) := by decide +kernel
theorem dX8_order_31 : decode cX8_order 31 = .ok (.iload_n 1, 1) := by decide +kernel
theorem dX8_order_32 : decode cX8_order 32 = .ok (.invokestatic 121, 3) := by decide +kernel
theorem dX8_order_35 : decode cX8_order 35 = .ok (.sipush 136, 3) := by decide +kernel
theorem dX8_order_38 : decode cX8_order 38 = .ok (.iadd, 1) := by decide +kernel
theorem dX8_order_39 : decode cX8_order 39 = .ok (.iload_n 2, 1) := by decide +kernel
theorem dX8_order_40 : decode cX8_order 40 = .ok (.iadd, 1) := by decide +kernel
theorem dX8_order_41 : decode cX8_order 41 = .ok (.iaload, 1) := by decide +kernel
theorem dX8_order_42 : decode cX8_order 42 = .ok (.ireturn, 1) := by decide +kernel
theorem dX8_holds_0 : decode cX8_holds 0 = .ok (.aload_n 0, 1) := by decide +kernel
theorem dX8_holds_1 : decode cX8_holds 1 = .ok (.iconst 0, 1) := by decide +kernel
theorem dX8_holds_2 : decode cX8_holds 2 = .ok (.putfield 1, 3) := by decide +kernel
theorem dX8_holds_5 : decode cX8_holds 5 = .ok (.aload_n 0, 1) := by decide +kernel
theorem dX8_holds_6 : decode cX8_holds 6 = .ok (.iload_n 1, 1) := by decide +kernel
theorem dX8_holds_7 : decode cX8_holds 7 = .ok (.invokevirtual 125, 3) := by decide +kernel
theorem dX8_holds_10 : decode cX8_holds 10 = .ok (.ifCond .eq 15, 3) := by decide +kernel
theorem dX8_holds_13 : decode cX8_holds 13 = .ok (.aload_n 0, 1) := by decide +kernel
theorem dX8_holds_14 : decode cX8_holds 14 = .ok (.iload_n 2, 1) := by decide +kernel
theorem dX8_holds_15 : decode cX8_holds 15 = .ok (.invokestatic 132, 3) := by decide +kernel
theorem dX8_holds_18 : decode cX8_holds 18 = .ok (.iconst 2, 1) := by decide +kernel
theorem dX8_holds_19 : decode cX8_holds 19 = .ok (.invokevirtual 110, 3) := by decide +kernel
theorem dX8_holds_22 : decode cX8_holds 22 = .ok (.ifCond .ne 5, 3) := by decide +kernel
theorem dX8_holds_25 : decode cX8_holds 25 = .ok (.iconst 0, 1) := by decide +kernel
theorem dX8_holds_26 : decode cX8_holds 26 = .ok (.ireturn, 1) := by decide +kernel
theorem dX8_holds_27 : decode cX8_holds 27 = .ok (.aload_n 0, 1) := by decide +kernel
theorem dX8_holds_28 : decode cX8_holds 28 = .ok (.iload_n 1, 1) := by decide +kernel
theorem dX8_holds_29 : decode cX8_holds 29 = .ok (.iload_n 2, 1) := by decide +kernel
theorem dX8_holds_30 : decode cX8_holds 30 = .ok (.invokevirtual 128, 3) := by decide +kernel
theorem dX8_holds_33 : decode cX8_holds 33 = .ok (.ireturn, 1) := by decide +kernel
theorem dX8_set_0 : decode cX8_set 0 = .ok (.aload_n 0, 1) := by decide +kernel
theorem dX8_set_1 : decode cX8_set 1 = .ok (.iconst 0, 1) := by decide +kernel
theorem dX8_set_2 : decode cX8_set 2 = .ok (.putfield 1, 3) := by decide +kernel
theorem dX8_set_5 : decode cX8_set 5 = .ok (.aload_n 0, 1) := by decide +kernel
theorem dX8_set_6 : decode cX8_set 6 = .ok (.iload_n 1, 1) := by decide +kernel
theorem dX8_set_7 : decode cX8_set 7 = .ok (.iconst 0, 1) := by decide +kernel
theorem dX8_set_8 : decode cX8_set 8 = .ok (.iconst 1, 1) := by decide +kernel
theorem dX8_set_9 : decode cX8_set 9 = .ok (.invokestatic 106, 3) := by decide +kernel
theorem dX8_set_12 : decode cX8_set 12 = .ok (.ifCond .eq 36, 3) := by decide +kernel
theorem dX8_set_15 : decode cX8_set 15 = .ok (.iload_n 1, 1) := by decide +kernel
theorem dX8_set_16 : decode cX8_set 16 = .ok (.ifCond .ne 18, 3) := by decide +kernel
theorem dX8_set_19 : decode cX8_set 19 = .ok (.iload_n 2, 1) := by decide +kernel
theorem dX8_set_20 : decode cX8_set 20 = .ok (.bipush 10, 2) := by decide +kernel
theorem dX8_set_22 : decode cX8_set 22 = .ok (.sipush 10000, 3) := by decide +kernel
theorem dX8_set_25 : decode cX8_set 25 = .ok (.invokestatic 106, 3) := by decide +kernel
theorem dX8_set_28 : decode cX8_set 28 = .ok (.ifCond .eq 20, 3) := by decide +kernel
theorem dX8_set_31 : decode cX8_set 31 = .ok (.goto 13, 3) := by decide +kernel
theorem dX8_set_34 : decode cX8_set 34 = .ok (.iload_n 2, 1) := by decide +kernel
theorem dX8_set_35 : decode cX8_set 35 = .ok (.iconst 0, 1) := by decide +kernel
theorem dX8_set_36 : decode cX8_set 36 = .ok (.bipush 100, 2) := by decide +kernel
theorem dX8_set_38 : decode cX8_set 38 = .ok (.invokestatic 106, 3) := by decide +kernel
theorem dX8_set_41 : decode cX8_set 41 = .ok (.ifCond .eq 7, 3) := by decide +kernel
theorem dX8_set_44 : decode cX8_set 44 = .ok (.iconst 1, 1) := by decide +kernel
theorem dX8_set_45 : decode cX8_set 45 = .ok (.goto 4, 3) := by decide +kernel
theorem dX8_set_48 : decode cX8_set 48 = .ok (.iconst 0, 1) := by decide +kernel
theorem dX8_set_49 : decode cX8_set 49 = .ok (.iconst 1, 1) := by decide +kernel
theorem dX8_set_50 : decode cX8_set 50 = .ok (.invokevirtual 110, 3) := by decide +kernel
theorem dX8_set_53 : decode cX8_set 53 = .ok (.ifCond .ne 5, 3) := by decide +kernel
theorem dX8_set_56 : decode cX8_set 56 = .ok (.iconst 0, 1) := by decide +kernel
theorem dX8_set_57 : decode cX8_set 57 = .ok (.ireturn, 1) := by decide +kernel
theorem dX8_set_58 : decode cX8_set 58 = .ok (.aload_n 0, 1) := by decide +kernel
theorem dX8_set_59 : decode cX8_set 59 = .ok (.getfield 13, 3) := by decide +kernel
theorem dX8_set_62 : decode cX8_set 62 = .ok (.iload_n 1, 1) := by decide +kernel
theorem dX8_set_63 : decode cX8_set 63 = .ok (.ifCond .ne 7, 3) := by decide +kernel
theorem dX8_set_66 : decode cX8_set 66 = .ok (.iconst 3, 1) := by decide +kernel
theorem dX8_set_67 : decode cX8_set 67 = .ok (.goto 4, 3) := by decide +kernel
theorem dX8_set_70 : decode cX8_set 70 = .ok (.iconst 4, 1) := by decide +kernel
theorem dX8_set_71 : decode cX8_set 71 = .ok (.iaload, 1) := by decide +kernel
theorem dX8_set_72 : decode cX8_set 72 = .ok (.istore_n 3, 1) := by decide +kernel
theorem dX8_set_73 : decode cX8_set 73 = .ok (.aload_n 0, 1) := by decide +kernel
theorem dX8_set_74 : decode cX8_set 74 = .ok (.getfield 13, 3) := by decide +kernel
theorem dX8_set_77 : decode cX8_set 77 = .ok (.iload_n 1, 1) := by decide +kernel
theorem dX8_set_78 : decode cX8_set 78 = .ok (.ifCond .ne 7, 3) := by decide +kernel
theorem dX8_set_81 : decode cX8_set 81 = .ok (.iconst 3, 1) := by decide +kernel
theorem dX8_set_82 : decode cX8_set 82 = .ok (.goto 4, 3) := by decide +kernel
theorem dX8_set_85 : decode cX8_set 85 = .ok (.iconst 4, 1) := by decide +kernel
theorem dX8_set_86 : decode cX8_set 86 = .ok (.iload_n 2, 1) := by decide +kernel
theorem dX8_set_87 : decode cX8_set 87 = .ok (.iastore, 1) := by decide +kernel
theorem dX8_set_88 : decode cX8_set 88 = .ok (.aload_n 0, 1) := by decide +kernel
theorem dX8_set_89 : decode cX8_set 89 = .ok (.invokevirtual 114, 3) := by decide +kernel
theorem dX8_set_92 : decode cX8_set 92 = .ok (.iload_n 3, 1) := by decide +kernel
theorem dX8_set_93 : decode cX8_set 93 = .ok (.ireturn, 1) := by decide +kernel
theorem dX8_years_0 : decode cX8_years 0 = .ok (.aload_n 0, 1) := by decide +kernel
theorem dX8_years_1 : decode cX8_years 1 = .ok (.iconst 0, 1) := by decide +kernel
theorem dX8_years_2 : decode cX8_years 2 = .ok (.putfield 1, 3) := by decide +kernel
theorem dX8_years_5 : decode cX8_years 5 = .ok (.aload_n 0, 1) := by decide +kernel
theorem dX8_years_6 : decode cX8_years 6 = .ok (.iload_n 1, 1) := by decide +kernel
theorem dX8_years_7 : decode cX8_years 7 = .ok (.iconst 0, 1) := by decide +kernel
theorem dX8_years_8 : decode cX8_years 8 = .ok (.bipush 60, 2) := by decide +kernel
theorem dX8_years_10 : decode cX8_years 10 = .ok (.invokestatic 106, 3) := by decide +kernel
theorem dX8_years_13 : decode cX8_years 13 = .ok (.iconst 1, 1) := by decide +kernel
theorem dX8_years_14 : decode cX8_years 14 = .ok (.invokevirtual 110, 3) := by decide +kernel
theorem dX8_years_17 : decode cX8_years 17 = .ok (.ifCond .eq 29, 3) := by decide +kernel
theorem dX8_years_20 : decode cX8_years 20 = .ok (.aload_n 0, 1) := by decide +kernel
theorem dX8_years_21 : decode cX8_years 21 = .ok (.aload_n 0, 1) := by decide +kernel
theorem dX8_years_22 : decode cX8_years 22 = .ok (.getfield 13, 3) := by decide +kernel
theorem dX8_years_25 : decode cX8_years 25 = .ok (.iconst 2, 1) := by decide +kernel
theorem dX8_years_26 : decode cX8_years 26 = .ok (.iaload, 1) := by decide +kernel
theorem dX8_years_27 : decode cX8_years 27 = .ok (.iload_n 1, 1) := by decide +kernel
theorem dX8_years_28 : decode cX8_years 28 = .ok (.iadd, 1) := by decide +kernel
theorem dX8_years_29 : decode cX8_years 29 = .ok (.bipush 60, 2) := by decide +kernel
theorem dX8_years_31 : decode cX8_years 31 = .ok (.if_icmp .gt 7, 3) := by decide +kernel
theorem dX8_years_34 : decode cX8_years 34 = .ok (.iconst 1, 1) := by decide +kernel
theorem dX8_years_35 : decode cX8_years 35 = .ok (.goto 4, 3) := by decide +kernel
theorem dX8_years_38 : decode cX8_years 38 = .ok (.iconst 0, 1) := by decide +kernel
theorem dX8_years_39 : decode cX8_years 39 = .ok (.iconst 2, 1) := by decide +kernel
theorem dX8_years_40 : decode cX8_years 40 = .ok (.invokevirtual 110, 3) := by decide +kernel
theorem dX8_years_43 : decode cX8_years 43 = .ok (.ifCond .ne 5, 3) := by decide +kernel
theorem dX8_years_46 : decode cX8_years 46 = .ok (.iconst 0, 1) := by decide +kernel
theorem dX8_years_47 : decode cX8_years 47 = .ok (.ireturn, 1) := by decide +kernel
theorem dX8_years_48 : decode cX8_years 48 = .ok (.aload_n 0, 1) := by decide +kernel
theorem dX8_years_49 : decode cX8_years 49 = .ok (.getfield 13, 3) := by decide +kernel
theorem dX8_years_52 : decode cX8_years 52 = .ok (.iconst 2, 1) := by decide +kernel
theorem dX8_years_53 : decode cX8_years 53 = .ok (.dup2, 1) := by decide +kernel
theorem dX8_years_54 : decode cX8_years 54 = .ok (.iaload, 1) := by decide +kernel
theorem dX8_years_55 : decode cX8_years 55 = .ok (.iload_n 1, 1) := by decide +kernel
theorem dX8_years_56 : decode cX8_years 56 = .ok (.iadd, 1) := by decide +kernel
theorem dX8_years_57 : decode cX8_years 57 = .ok (.iastore, 1) := by decide +kernel
theorem dX8_years_58 : decode cX8_years 58 = .ok (.aload_n 0, 1) := by decide +kernel
theorem dX8_years_59 : decode cX8_years 59 = .ok (.invokevirtual 114, 3) := by decide +kernel
theorem dX8_years_62 : decode cX8_years 62 = .ok (.aload_n 0, 1) := by decide +kernel
theorem dX8_years_63 : decode cX8_years 63 = .ok (.getfield 13, 3) := by decide +kernel
theorem dX8_years_66 : decode cX8_years 66 = .ok (.iconst 2, 1) := by decide +kernel
theorem dX8_years_67 : decode cX8_years 67 = .ok (.iaload, 1) := by decide +kernel
theorem dX8_years_68 : decode cX8_years 68 = .ok (.ireturn, 1) := by decide +kernel
theorem dX8_feed_0 : decode cX8_feed 0 = .ok (.aload_n 0, 1) := by decide +kernel
theorem dX8_feed_1 : decode cX8_feed 1 = .ok (.iconst 0, 1) := by decide +kernel
theorem dX8_feed_2 : decode cX8_feed 2 = .ok (.putfield 1, 3) := by decide +kernel
theorem dX8_feed_5 : decode cX8_feed 5 = .ok (.aload_n 0, 1) := by decide +kernel
theorem dX8_feed_6 : decode cX8_feed 6 = .ok (.getfield 135, 3) := by decide +kernel
theorem dX8_feed_9 : decode cX8_feed 9 = .ok (.bipush 20, 2) := by decide +kernel
theorem dX8_feed_11 : decode cX8_feed 11 = .ok (.iadd, 1) := by decide +kernel
theorem dX8_feed_12 : decode cX8_feed 12 = .ok (.sipush 300, 3) := by decide +kernel
theorem dX8_feed_15 : decode cX8_feed 15 = .ok (.if_icmp .le 5, 3) := by decide +kernel
theorem dX8_feed_18 : decode cX8_feed 18 = .ok (.iconst (-1), 1) := by decide +kernel
theorem dX8_feed_19 : decode cX8_feed 19 = .ok (.ireturn, 1) := by decide +kernel
theorem dX8_feed_20 : decode cX8_feed 20 = .ok (.iconst 0, 1) := by decide +kernel
theorem dX8_feed_21 : decode cX8_feed 21 = .ok (.istore 6, 2) := by decide +kernel
theorem dX8_feed_23 : decode cX8_feed 23 = .ok (.iload 6, 2) := by decide +kernel
theorem dX8_feed_25 : decode cX8_feed 25 = .ok (.bipush 20, 2) := by decide +kernel
theorem dX8_feed_27 : decode cX8_feed 27 = .ok (.if_icmp .ge 93, 3) := by decide +kernel
theorem dX8_feed_30 : decode cX8_feed 30 = .ok (.iload 6, 2) := by decide +kernel
theorem dX8_feed_32 : decode cX8_feed 32 = .ok (.iconst 4, 1) := by decide +kernel
theorem dX8_feed_33 : decode cX8_feed 33 = .ok (.if_icmp .ge 7, 3) := by decide +kernel
theorem dX8_feed_36 : decode cX8_feed 36 = .ok (.iload_n 1, 1) := by decide +kernel
theorem dX8_feed_37 : decode cX8_feed 37 = .ok (.goto 39, 3) := by decide +kernel
theorem dX8_feed_40 : decode cX8_feed 40 = .ok (.iload 6, 2) := by decide +kernel
theorem dX8_feed_42 : decode cX8_feed 42 = .ok (.bipush 8, 2) := by decide +kernel
theorem dX8_feed_44 : decode cX8_feed 44 = .ok (.if_icmp .ge 7, 3) := by decide +kernel
theorem dX8_feed_47 : decode cX8_feed 47 = .ok (.iload_n 2, 1) := by decide +kernel
theorem dX8_feed_48 : decode cX8_feed 48 = .ok (.goto 28, 3) := by decide +kernel
theorem dX8_feed_51 : decode cX8_feed 51 = .ok (.iload 6, 2) := by decide +kernel
theorem dX8_feed_53 : decode cX8_feed 53 = .ok (.bipush 12, 2) := by decide +kernel
theorem dX8_feed_55 : decode cX8_feed 55 = .ok (.if_icmp .ge 7, 3) := by decide +kernel
theorem dX8_feed_58 : decode cX8_feed 58 = .ok (.iload_n 3, 1) := by decide +kernel
theorem dX8_feed_59 : decode cX8_feed 59 = .ok (.goto 17, 3) := by decide +kernel
theorem dX8_feed_62 : decode cX8_feed 62 = .ok (.iload 6, 2) := by decide +kernel
theorem dX8_feed_64 : decode cX8_feed 64 = .ok (.bipush 16, 2) := by decide +kernel
theorem dX8_feed_66 : decode cX8_feed 66 = .ok (.if_icmp .ge 8, 3) := by decide +kernel
theorem dX8_feed_69 : decode cX8_feed 69 = .ok (.iload 4, 2) := by decide +kernel
theorem dX8_feed_71 : decode cX8_feed 71 = .ok (.goto 5, 3) := by decide +kernel
theorem dX8_feed_74 : decode cX8_feed 74 = .ok (.iload 5, 2) := by decide +kernel
theorem dX8_feed_76 : decode cX8_feed 76 = .ok (.istore 7, 2) := by decide +kernel
theorem dX8_feed_78 : decode cX8_feed 78 = .ok (.aload_n 0, 1) := by decide +kernel
theorem dX8_feed_79 : decode cX8_feed 79 = .ok (.getfield 26, 3) := by decide +kernel
theorem dX8_feed_82 : decode cX8_feed 82 = .ok (.aload_n 0, 1) := by decide +kernel
theorem dX8_feed_83 : decode cX8_feed 83 = .ok (.getfield 135, 3) := by decide +kernel
theorem dX8_feed_86 : decode cX8_feed 86 = .ok (.iload 7, 2) := by decide +kernel
theorem dX8_feed_88 : decode cX8_feed 88 = .ok (.bipush 24, 2) := by decide +kernel
theorem dX8_feed_90 : decode cX8_feed 90 = .ok (.bipush 8, 2) := by decide +kernel
theorem dX8_feed_92 : decode cX8_feed 92 = .ok (.iload 6, 2) := by decide +kernel
theorem dX8_feed_94 : decode cX8_feed 94 = .ok (.iconst 4, 1) := by decide +kernel
theorem dX8_feed_95 : decode cX8_feed 95 = .ok (.irem, 1) := by decide +kernel
theorem dX8_feed_96 : decode cX8_feed 96 = .ok (.imul, 1) := by decide +kernel
theorem dX8_feed_97 : decode cX8_feed 97 = .ok (.isub, 1) := by decide +kernel
theorem dX8_feed_98 : decode cX8_feed 98 = .ok (.ishr, 1) := by decide +kernel
theorem dX8_feed_99 : decode cX8_feed 99 = .ok (.sipush 255, 3) := by decide +kernel
theorem dX8_feed_102 : decode cX8_feed 102 = .ok (.iand, 1) := by decide +kernel
theorem dX8_feed_103 : decode cX8_feed 103 = .ok (.iastore, 1) := by decide +kernel
theorem dX8_feed_104 : decode cX8_feed 104 = .ok (.aload_n 0, 1) := by decide +kernel
theorem dX8_feed_105 : decode cX8_feed 105 = .ok (.dup, 1) := by decide +kernel
theorem dX8_feed_106 : decode cX8_feed 106 = .ok (.getfield 135, 3) := by decide +kernel
theorem dX8_feed_109 : decode cX8_feed 109 = .ok (.iconst 1, 1) := by decide +kernel
theorem dX8_feed_110 : decode cX8_feed 110 = .ok (.iadd, 1) := by decide +kernel
theorem dX8_feed_111 : decode cX8_feed 111 = .ok (.putfield 135, 3) := by decide +kernel
theorem dX8_feed_114 : decode cX8_feed 114 = .ok (.iinc 6 1, 3) := by decide +kernel
theorem dX8_feed_117 : decode cX8_feed 117 = .ok (.goto (-94), 3) := by decide +kernel
theorem dX8_feed_120 : decode cX8_feed 120 = .ok (.aload_n 0, 1) := by decide +kernel
theorem dX8_feed_121 : decode cX8_feed 121 = .ok (.getfield 135, 3) := by decide +kernel
theorem dX8_feed_124 : decode cX8_feed 124 = .ok (.ireturn, 1) := by decide +kernel
theorem dX8_fine_0 : decode cX8_fine 0 = .ok (.aload_n 0, 1) := by decide +kernel
theorem dX8_fine_1 : decode cX8_fine 1 = .ok (.getfield 138, 3) := by decide +kernel
theorem dX8_fine_4 : decode cX8_fine 4 = .ok (.iconst (-1), 1) := by decide +kernel
theorem dX8_fine_5 : decode cX8_fine 5 = .ok (.if_icmp .ne 7, 3) := by decide +kernel
theorem dX8_fine_8 : decode cX8_fine 8 = .ok (.iconst 1, 1) := by decide +kernel
theorem dX8_fine_9 : decode cX8_fine 9 = .ok (.goto 4, 3) := by decide +kernel
theorem dX8_fine_12 : decode cX8_fine 12 = .ok (.iconst 0, 1) := by decide +kernel
theorem dX8_fine_13 : decode cX8_fine 13 = .ok (.ireturn, 1) := by decide +kernel
theorem dX8_wrong_0 : decode cX8_wrong 0 = .ok (.aload_n 0, 1) := by decide +kernel
theorem dX8_wrong_1 : decode cX8_wrong 1 = .ok (.getfield 138, 3) := by decide +kernel
theorem dX8_wrong_4 : decode cX8_wrong 4 = .ok (.iconst (-1), 1) := by decide +kernel
theorem dX8_wrong_5 : decode cX8_wrong 5 = .ok (.if_icmp .eq 4, 3) := by decide +kernel
theorem dX8_wrong_8 : decode cX8_wrong 8 = .ok (.return_, 1) := by decide +kernel
theorem dX8_wrong_9 : decode cX8_wrong 9 = .ok (.aload_n 0, 1) := by decide +kernel
theorem dX8_wrong_10 : decode cX8_wrong 10 = .ok (.iload_n 2, 1) := by decide +kernel
theorem dX8_wrong_11 : decode cX8_wrong 11 = .ok (.putfield 138, 3) := by decide +kernel
theorem dX8_wrong_14 : decode cX8_wrong 14 = .ok (.aload_n 0, 1) := by decide +kernel
theorem dX8_wrong_15 : decode cX8_wrong 15 = .ok (.iload_n 1, 1) := by decide +kernel
theorem dX8_wrong_16 : decode cX8_wrong 16 = .ok (.putfield 141, 3) := by decide +kernel
theorem dX8_wrong_19 : decode cX8_wrong 19 = .ok (.return_, 1) := by decide +kernel
theorem dX8_here_0 : decode cX8_here 0 = .ok (.aload_n 0, 1) := by decide +kernel
theorem dX8_here_1 : decode cX8_here 1 = .ok (.getfield 144, 3) := by decide +kernel
theorem dX8_here_4 : decode cX8_here 4 = .ok (.aload_n 0, 1) := by decide +kernel
theorem dX8_here_5 : decode cX8_here 5 = .ok (.getfield 147, 3) := by decide +kernel
theorem dX8_here_8 : decode cX8_here 8 = .ok (.if_icmp .ge 30, 3) := by decide +kernel
theorem dX8_here_11 : decode cX8_here 11 = .ok (.aload_n 0, 1) := by decide +kernel
theorem dX8_here_12 : decode cX8_here 12 = .ok (.getfield 26, 3) := by decide +kernel
theorem dX8_here_15 : decode cX8_here 15 = .ok (.aload_n 0, 1) := by decide +kernel
theorem dX8_here_16 : decode cX8_here 16 = .ok (.getfield 144, 3) := by decide +kernel
theorem dX8_here_19 : decode cX8_here 19 = .ok (.iaload, 1) := by decide +kernel
theorem dX8_here_20 : decode cX8_here 20 = .ok (.bipush 32, 2) := by decide +kernel
theorem dX8_here_22 : decode cX8_here 22 = .ok (.if_icmp .ne 16, 3) := by decide +kernel
theorem dX8_here_25 : decode cX8_here 25 = .ok (.aload_n 0, 1) := by decide +kernel
theorem dX8_here_26 : decode cX8_here 26 = .ok (.dup, 1) := by decide +kernel
theorem dX8_here_27 : decode cX8_here 27 = .ok (.getfield 144, 3) := by decide +kernel
theorem dX8_here_30 : decode cX8_here 30 = .ok (.iconst 1, 1) := by decide +kernel
theorem dX8_here_31 : decode cX8_here 31 = .ok (.iadd, 1) := by decide +kernel
theorem dX8_here_32 : decode cX8_here 32 = .ok (.putfield 144, 3) := by decide +kernel
theorem dX8_here_35 : decode cX8_here 35 = .ok (.goto (-35), 3) := by decide +kernel
theorem dX8_here_38 : decode cX8_here 38 = .ok (.aload_n 0, 1) := by decide +kernel
theorem dX8_here_39 : decode cX8_here 39 = .ok (.getfield 144, 3) := by decide +kernel
theorem dX8_here_42 : decode cX8_here 42 = .ok (.aload_n 0, 1) := by decide +kernel
theorem dX8_here_43 : decode cX8_here 43 = .ok (.getfield 147, 3) := by decide +kernel
theorem dX8_here_46 : decode cX8_here 46 = .ok (.if_icmp .ge 15, 3) := by decide +kernel
theorem dX8_here_49 : decode cX8_here 49 = .ok (.aload_n 0, 1) := by decide +kernel
theorem dX8_here_50 : decode cX8_here 50 = .ok (.getfield 26, 3) := by decide +kernel
theorem dX8_here_53 : decode cX8_here 53 = .ok (.aload_n 0, 1) := by decide +kernel
theorem dX8_here_54 : decode cX8_here 54 = .ok (.getfield 144, 3) := by decide +kernel
theorem dX8_here_57 : decode cX8_here 57 = .ok (.iaload, 1) := by decide +kernel
theorem dX8_here_58 : decode cX8_here 58 = .ok (.goto 4, 3) := by decide +kernel
theorem dX8_here_61 : decode cX8_here 61 = .ok (.iconst 0, 1) := by decide +kernel
theorem dX8_here_62 : decode cX8_here 62 = .ok (.ireturn, 1) := by decide +kernel
theorem dX8_isSmall_0 : decode cX8_isSmall 0 = .ok (.iload_n 0, 1) := by decide +kernel
theorem dX8_isSmall_1 : decode cX8_isSmall 1 = .ok (.bipush 97, 2) := by decide +kernel
theorem dX8_isSmall_3 : decode cX8_isSmall 3 = .ok (.if_icmp .lt 13, 3) := by decide +kernel
theorem dX8_isSmall_6 : decode cX8_isSmall 6 = .ok (.iload_n 0, 1) := by decide +kernel
theorem dX8_isSmall_7 : decode cX8_isSmall 7 = .ok (.bipush 122, 2) := by decide +kernel
theorem dX8_isSmall_9 : decode cX8_isSmall 9 = .ok (.if_icmp .gt 7, 3) := by decide +kernel
theorem dX8_isSmall_12 : decode cX8_isSmall 12 = .ok (.iconst 1, 1) := by decide +kernel
theorem dX8_isSmall_13 : decode cX8_isSmall 13 = .ok (.goto 4, 3) := by decide +kernel
theorem dX8_isSmall_16 : decode cX8_isSmall 16 = .ok (.iconst 0, 1) := by decide +kernel
theorem dX8_isSmall_17 : decode cX8_isSmall 17 = .ok (.ireturn, 1) := by decide +kernel
theorem dX8_isDigit_0 : decode cX8_isDigit 0 = .ok (.iload_n 0, 1) := by decide +kernel
theorem dX8_isDigit_1 : decode cX8_isDigit 1 = .ok (.bipush 48, 2) := by decide +kernel
theorem dX8_isDigit_3 : decode cX8_isDigit 3 = .ok (.if_icmp .lt 13, 3) := by decide +kernel
theorem dX8_isDigit_6 : decode cX8_isDigit 6 = .ok (.iload_n 0, 1) := by decide +kernel
theorem dX8_isDigit_7 : decode cX8_isDigit 7 = .ok (.bipush 57, 2) := by decide +kernel
theorem dX8_isDigit_9 : decode cX8_isDigit 9 = .ok (.if_icmp .gt 7, 3) := by decide +kernel
theorem dX8_isDigit_12 : decode cX8_isDigit 12 = .ok (.iconst 1, 1) := by decide +kernel
theorem dX8_isDigit_13 : decode cX8_isDigit 13 = .ok (.goto 4, 3) := by decide +kernel
theorem dX8_isDigit_16 : decode cX8_isDigit 16 = .ok (.iconst 0, 1) := by decide +kernel
theorem dX8_isDigit_17 : decode cX8_isDigit 17 = .ok (.ireturn, 1) := by decide +kernel
theorem dX8_word_0 : decode cX8_word 0 = .ok (.aload_n 0, 1) := by decide +kernel
theorem dX8_word_1 : decode cX8_word 1 = .ok (.invokevirtual 150, 3) := by decide +kernel
theorem dX8_word_4 : decode cX8_word 4 = .ok (.pop, 1) := by decide +kernel
theorem dX8_word_5 : decode cX8_word 5 = .ok (.iconst 0, 1) := by decide +kernel
theorem dX8_word_6 : decode cX8_word 6 = .ok (.istore_n 1, 1) := by decide +kernel
theorem dX8_word_7 : decode cX8_word 7 = .ok (.iconst 0, 1) := by decide +kernel
theorem dX8_word_8 : decode cX8_word 8 = .ok (.istore_n 2, 1) := by decide +kernel
theorem dX8_word_9 : decode cX8_word 9 = .ok (.aload_n 0, 1) := by decide +kernel
theorem dX8_word_10 : decode cX8_word 10 = .ok (.getfield 144, 3) := by decide +kernel
theorem dX8_word_13 : decode cX8_word 13 = .ok (.istore_n 3, 1) := by decide +kernel
theorem dX8_word_14 : decode cX8_word 14 = .ok (.iload_n 3, 1) := by decide +kernel
theorem dX8_word_15 : decode cX8_word 15 = .ok (.aload_n 0, 1) := by decide +kernel
theorem dX8_word_16 : decode cX8_word 16 = .ok (.getfield 147, 3) := by decide +kernel
theorem dX8_word_19 : decode cX8_word 19 = .ok (.if_icmp .ge 48, 3) := by decide +kernel
theorem dX8_word_22 : decode cX8_word 22 = .ok (.aload_n 0, 1) := by decide +kernel
theorem dX8_word_23 : decode cX8_word 23 = .ok (.getfield 26, 3) := by decide +kernel
theorem dX8_word_26 : decode cX8_word 26 = .ok (.iload_n 3, 1) := by decide +kernel
theorem dX8_word_27 : decode cX8_word 27 = .ok (.iaload, 1) := by decide +kernel
theorem dX8_word_28 : decode cX8_word 28 = .ok (.invokestatic 154, 3) := by decide +kernel
theorem dX8_word_31 : decode cX8_word 31 = .ok (.ifCond .eq 36, 3) := by decide +kernel
theorem dX8_word_34 : decode cX8_word 34 = .ok (.iload_n 2, 1) := by decide +kernel
theorem dX8_word_35 : decode cX8_word 35 = .ok (.bipush 6, 2) := by decide +kernel
theorem dX8_word_37 : decode cX8_word 37 = .ok (.if_icmp .ge 19, 3) := by decide +kernel
theorem dX8_word_40 : decode cX8_word 40 = .ok (.iload_n 1, 1) := by decide +kernel
theorem dX8_word_41 : decode cX8_word 41 = .ok (.iconst 5, 1) := by decide +kernel
theorem dX8_word_42 : decode cX8_word 42 = .ok (.ishl, 1) := by decide +kernel
theorem dX8_word_43 : decode cX8_word 43 = .ok (.aload_n 0, 1) := by decide +kernel
theorem dX8_word_44 : decode cX8_word 44 = .ok (.getfield 26, 3) := by decide +kernel
theorem dX8_word_47 : decode cX8_word 47 = .ok (.iload_n 3, 1) := by decide +kernel
theorem dX8_word_48 : decode cX8_word 48 = .ok (.iaload, 1) := by decide +kernel
theorem dX8_word_49 : decode cX8_word 49 = .ok (.bipush 96, 2) := by decide +kernel
theorem dX8_word_51 : decode cX8_word 51 = .ok (.isub, 1) := by decide +kernel
theorem dX8_word_52 : decode cX8_word 52 = .ok (.ior, 1) := by decide +kernel
theorem dX8_word_53 : decode cX8_word 53 = .ok (.goto 4, 3) := by decide +kernel
theorem dX8_word_56 : decode cX8_word 56 = .ok (.iconst 0, 1) := by decide +kernel
theorem dX8_word_57 : decode cX8_word 57 = .ok (.istore_n 1, 1) := by decide +kernel
theorem dX8_word_58 : decode cX8_word 58 = .ok (.iinc 2 1, 3) := by decide +kernel
theorem dX8_word_61 : decode cX8_word 61 = .ok (.iinc 3 1, 3) := by decide +kernel
theorem dX8_word_64 : decode cX8_word 64 = .ok (.goto (-50), 3) := by decide +kernel
theorem dX8_word_67 : decode cX8_word 67 = .ok (.iload_n 2, 1) := by decide +kernel
theorem dX8_word_68 : decode cX8_word 68 = .ok (.bipush 6, 2) := by decide +kernel
theorem dX8_word_70 : decode cX8_word 70 = .ok (.if_icmp .le 7, 3) := by decide +kernel
theorem dX8_word_73 : decode cX8_word 73 = .ok (.iconst 0, 1) := by decide +kernel
theorem dX8_word_74 : decode cX8_word 74 = .ok (.goto 4, 3) := by decide +kernel
theorem dX8_word_77 : decode cX8_word 77 = .ok (.iload_n 1, 1) := by decide +kernel
theorem dX8_word_78 : decode cX8_word 78 = .ok (.ireturn, 1) := by decide +kernel
theorem dX8_pass_0 : decode cX8_pass 0 = .ok (.aload_n 0, 1) := by decide +kernel
theorem dX8_pass_1 : decode cX8_pass 1 = .ok (.getfield 144, 3) := by decide +kernel
theorem dX8_pass_4 : decode cX8_pass 4 = .ok (.aload_n 0, 1) := by decide +kernel
theorem dX8_pass_5 : decode cX8_pass 5 = .ok (.getfield 147, 3) := by decide +kernel
theorem dX8_pass_8 : decode cX8_pass 8 = .ok (.if_icmp .ge 31, 3) := by decide +kernel
theorem dX8_pass_11 : decode cX8_pass 11 = .ok (.aload_n 0, 1) := by decide +kernel
theorem dX8_pass_12 : decode cX8_pass 12 = .ok (.getfield 26, 3) := by decide +kernel
theorem dX8_pass_15 : decode cX8_pass 15 = .ok (.aload_n 0, 1) := by decide +kernel
theorem dX8_pass_16 : decode cX8_pass 16 = .ok (.getfield 144, 3) := by decide +kernel
theorem dX8_pass_19 : decode cX8_pass 19 = .ok (.iaload, 1) := by decide +kernel
theorem dX8_pass_20 : decode cX8_pass 20 = .ok (.invokestatic 154, 3) := by decide +kernel
theorem dX8_pass_23 : decode cX8_pass 23 = .ok (.ifCond .eq 16, 3) := by decide +kernel
theorem dX8_pass_26 : decode cX8_pass 26 = .ok (.aload_n 0, 1) := by decide +kernel
theorem dX8_pass_27 : decode cX8_pass 27 = .ok (.dup, 1) := by decide +kernel
theorem dX8_pass_28 : decode cX8_pass 28 = .ok (.getfield 144, 3) := by decide +kernel
theorem dX8_pass_31 : decode cX8_pass 31 = .ok (.iconst 1, 1) := by decide +kernel
theorem dX8_pass_32 : decode cX8_pass 32 = .ok (.iadd, 1) := by decide +kernel
theorem dX8_pass_33 : decode cX8_pass 33 = .ok (.putfield 144, 3) := by decide +kernel
theorem dX8_pass_36 : decode cX8_pass 36 = .ok (.goto (-36), 3) := by decide +kernel
theorem dX8_pass_39 : decode cX8_pass 39 = .ok (.return_, 1) := by decide +kernel
theorem dX8_readNumber_0 : decode cX8_readNumber 0 = .ok (.aload_n 0, 1) := by decide +kernel
theorem dX8_readNumber_1 : decode cX8_readNumber 1 = .ok (.getfield 144, 3) := by decide +kernel
theorem dX8_readNumber_4 : decode cX8_readNumber 4 = .ok (.istore_n 1, 1) := by decide +kernel
theorem dX8_readNumber_5 : decode cX8_readNumber 5 = .ok (.iconst 0, 1) := by decide +kernel
theorem dX8_readNumber_6 : decode cX8_readNumber 6 = .ok (.istore_n 2, 1) := by decide +kernel
theorem dX8_readNumber_7 : decode cX8_readNumber 7 = .ok (.aload_n 0, 1) := by decide +kernel
theorem dX8_readNumber_8 : decode cX8_readNumber 8 = .ok (.getfield 144, 3) := by decide +kernel
theorem dX8_readNumber_11 : decode cX8_readNumber 11 = .ok (.aload_n 0, 1) := by decide +kernel
theorem dX8_readNumber_12 : decode cX8_readNumber 12 = .ok (.getfield 147, 3) := by decide +kernel
theorem dX8_readNumber_15 : decode cX8_readNumber 15 = .ok (.if_icmp .ge 62, 3) := by decide +kernel
theorem dX8_readNumber_18 : decode cX8_readNumber 18 = .ok (.aload_n 0, 1) := by decide +kernel
theorem dX8_readNumber_19 : decode cX8_readNumber 19 = .ok (.getfield 26, 3) := by decide +kernel
theorem dX8_readNumber_22 : decode cX8_readNumber 22 = .ok (.aload_n 0, 1) := by decide +kernel
theorem dX8_readNumber_23 : decode cX8_readNumber 23 = .ok (.getfield 144, 3) := by decide +kernel
theorem dX8_readNumber_26 : decode cX8_readNumber 26 = .ok (.iaload, 1) := by decide +kernel
theorem dX8_readNumber_27 : decode cX8_readNumber 27 = .ok (.invokestatic 157, 3) := by decide +kernel
theorem dX8_readNumber_30 : decode cX8_readNumber 30 = .ok (.ifCond .eq 47, 3) := by decide +kernel
theorem dX8_readNumber_33 : decode cX8_readNumber 33 = .ok (.iload_n 2, 1) := by decide +kernel
theorem dX8_readNumber_34 : decode cX8_readNumber 34 = .ok (.sipush 999, 3) := by decide +kernel
theorem dX8_readNumber_37 : decode cX8_readNumber 37 = .ok (.if_icmp .le 9, 3) := by decide +kernel
theorem dX8_readNumber_40 : decode cX8_readNumber 40 = .ok (.sipush 1000, 3) := by decide +kernel
theorem dX8_readNumber_43 : decode cX8_readNumber 43 = .ok (.goto 20, 3) := by decide +kernel
theorem dX8_readNumber_46 : decode cX8_readNumber 46 = .ok (.bipush 10, 2) := by decide +kernel
theorem dX8_readNumber_48 : decode cX8_readNumber 48 = .ok (.iload_n 2, 1) := by decide +kernel
theorem dX8_readNumber_49 : decode cX8_readNumber 49 = .ok (.imul, 1) := by decide +kernel
theorem dX8_readNumber_50 : decode cX8_readNumber 50 = .ok (.aload_n 0, 1) := by decide +kernel
theorem dX8_readNumber_51 : decode cX8_readNumber 51 = .ok (.getfield 26, 3) := by decide +kernel
theorem dX8_readNumber_54 : decode cX8_readNumber 54 = .ok (.aload_n 0, 1) := by decide +kernel
theorem dX8_readNumber_55 : decode cX8_readNumber 55 = .ok (.getfield 144, 3) := by decide +kernel
theorem dX8_readNumber_58 : decode cX8_readNumber 58 = .ok (.iaload, 1) := by decide +kernel
theorem dX8_readNumber_59 : decode cX8_readNumber 59 = .ok (.iadd, 1) := by decide +kernel
theorem dX8_readNumber_60 : decode cX8_readNumber 60 = .ok (.bipush 48, 2) := by decide +kernel
theorem dX8_readNumber_62 : decode cX8_readNumber 62 = .ok (.isub, 1) := by decide +kernel
theorem dX8_readNumber_63 : decode cX8_readNumber 63 = .ok (.istore_n 2, 1) := by decide +kernel
theorem dX8_readNumber_64 : decode cX8_readNumber 64 = .ok (.aload_n 0, 1) := by decide +kernel
theorem dX8_readNumber_65 : decode cX8_readNumber 65 = .ok (.dup, 1) := by decide +kernel
theorem dX8_readNumber_66 : decode cX8_readNumber 66 = .ok (.getfield 144, 3) := by decide +kernel
theorem dX8_readNumber_69 : decode cX8_readNumber 69 = .ok (.iconst 1, 1) := by decide +kernel
theorem dX8_readNumber_70 : decode cX8_readNumber 70 = .ok (.iadd, 1) := by decide +kernel
theorem dX8_readNumber_71 : decode cX8_readNumber 71 = .ok (.putfield 144, 3) := by decide +kernel
theorem dX8_readNumber_74 : decode cX8_readNumber 74 = .ok (.goto (-67), 3) := by decide +kernel
theorem dX8_readNumber_77 : decode cX8_readNumber 77 = .ok (.iload_n 2, 1) := by decide +kernel
theorem dX8_readNumber_78 : decode cX8_readNumber 78 = .ok (.sipush 999, 3) := by decide +kernel
theorem dX8_readNumber_81 : decode cX8_readNumber 81 = .ok (.if_icmp .le 9, 3) := by decide +kernel
theorem dX8_readNumber_84 : decode cX8_readNumber 84 = .ok (.aload_n 0, 1) := by decide +kernel
theorem dX8_readNumber_85 : decode cX8_readNumber 85 = .ok (.iconst 2, 1) := by decide +kernel
theorem dX8_readNumber_86 : decode cX8_readNumber 86 = .ok (.iload_n 1, 1) := by decide +kernel
theorem dX8_readNumber_87 : decode cX8_readNumber 87 = .ok (.invokevirtual 160, 3) := by decide +kernel
theorem dX8_readNumber_90 : decode cX8_readNumber 90 = .ok (.iload_n 2, 1) := by decide +kernel
theorem dX8_readNumber_91 : decode cX8_readNumber 91 = .ok (.ireturn, 1) := by decide +kernel
theorem dX8_need_0 : decode cX8_need 0 = .ok (.aload_n 0, 1) := by decide +kernel
theorem dX8_need_1 : decode cX8_need 1 = .ok (.invokevirtual 164, 3) := by decide +kernel
theorem dX8_need_4 : decode cX8_need 4 = .ok (.ifCond .eq 20, 3) := by decide +kernel
theorem dX8_need_7 : decode cX8_need 7 = .ok (.aload_n 0, 1) := by decide +kernel
theorem dX8_need_8 : decode cX8_need 8 = .ok (.invokevirtual 150, 3) := by decide +kernel
theorem dX8_need_11 : decode cX8_need 11 = .ok (.iload_n 1, 1) := by decide +kernel
theorem dX8_need_12 : decode cX8_need 12 = .ok (.if_icmp .eq 12, 3) := by decide +kernel
theorem dX8_need_15 : decode cX8_need 15 = .ok (.aload_n 0, 1) := by decide +kernel
theorem dX8_need_16 : decode cX8_need 16 = .ok (.iconst 1, 1) := by decide +kernel
theorem dX8_need_17 : decode cX8_need 17 = .ok (.aload_n 0, 1) := by decide +kernel
theorem dX8_need_18 : decode cX8_need 18 = .ok (.getfield 144, 3) := by decide +kernel
theorem dX8_need_21 : decode cX8_need 21 = .ok (.invokevirtual 160, 3) := by decide +kernel
theorem dX8_need_24 : decode cX8_need 24 = .ok (.aload_n 0, 1) := by decide +kernel
theorem dX8_need_25 : decode cX8_need 25 = .ok (.invokevirtual 164, 3) := by decide +kernel
theorem dX8_need_28 : decode cX8_need 28 = .ok (.ifCond .eq 13, 3) := by decide +kernel
theorem dX8_need_31 : decode cX8_need 31 = .ok (.aload_n 0, 1) := by decide +kernel
theorem dX8_need_32 : decode cX8_need 32 = .ok (.dup, 1) := by decide +kernel
theorem dX8_need_33 : decode cX8_need 33 = .ok (.getfield 144, 3) := by decide +kernel
theorem dX8_need_36 : decode cX8_need 36 = .ok (.iconst 1, 1) := by decide +kernel
theorem dX8_need_37 : decode cX8_need 37 = .ok (.iadd, 1) := by decide +kernel
theorem dX8_need_38 : decode cX8_need 38 = .ok (.putfield 144, 3) := by decide +kernel
theorem dX8_need_41 : decode cX8_need 41 = .ok (.return_, 1) := by decide +kernel
theorem dX8_emit_0 : decode cX8_emit 0 = .ok (.aload_n 0, 1) := by decide +kernel
theorem dX8_emit_1 : decode cX8_emit 1 = .ok (.invokevirtual 164, 3) := by decide +kernel
theorem dX8_emit_4 : decode cX8_emit 4 = .ok (.ifCond .ne 4, 3) := by decide +kernel
theorem dX8_emit_7 : decode cX8_emit 7 = .ok (.return_, 1) := by decide +kernel
theorem dX8_emit_8 : decode cX8_emit 8 = .ok (.aload_n 0, 1) := by decide +kernel
theorem dX8_emit_9 : decode cX8_emit 9 = .ok (.getfield 44, 3) := by decide +kernel
theorem dX8_emit_12 : decode cX8_emit 12 = .ok (.sipush 300, 3) := by decide +kernel
theorem dX8_emit_15 : decode cX8_emit 15 = .ok (.aload_n 0, 1) := by decide +kernel
theorem dX8_emit_16 : decode cX8_emit 16 = .ok (.getfield 168, 3) := by decide +kernel
theorem dX8_emit_19 : decode cX8_emit 19 = .ok (.imul, 1) := by decide +kernel
theorem dX8_emit_20 : decode cX8_emit 20 = .ok (.aload_n 0, 1) := by decide +kernel
theorem dX8_emit_21 : decode cX8_emit 21 = .ok (.getfield 171, 3) := by decide +kernel
theorem dX8_emit_24 : decode cX8_emit 24 = .ok (.iadd, 1) := by decide +kernel
theorem dX8_emit_25 : decode cX8_emit 25 = .ok (.iload_n 1, 1) := by decide +kernel
theorem dX8_emit_26 : decode cX8_emit 26 = .ok (.iastore, 1) := by decide +kernel
theorem dX8_emit_27 : decode cX8_emit 27 = .ok (.aload_n 0, 1) := by decide +kernel
theorem dX8_emit_28 : decode cX8_emit 28 = .ok (.getfield 47, 3) := by decide +kernel
theorem dX8_emit_31 : decode cX8_emit 31 = .ok (.sipush 300, 3) := by decide +kernel
theorem dX8_emit_34 : decode cX8_emit 34 = .ok (.aload_n 0, 1) := by decide +kernel
theorem dX8_emit_35 : decode cX8_emit 35 = .ok (.getfield 168, 3) := by decide +kernel
theorem dX8_emit_38 : decode cX8_emit 38 = .ok (.imul, 1) := by decide +kernel
theorem dX8_emit_39 : decode cX8_emit 39 = .ok (.aload_n 0, 1) := by decide +kernel
theorem dX8_emit_40 : decode cX8_emit 40 = .ok (.getfield 171, 3) := by decide +kernel
theorem dX8_emit_43 : decode cX8_emit 43 = .ok (.iadd, 1) := by decide +kernel
theorem dX8_emit_44 : decode cX8_emit 44 = .ok (.iload_n 2, 1) := by decide +kernel
theorem dX8_emit_45 : decode cX8_emit 45 = .ok (.iastore, 1) := by decide +kernel
theorem dX8_emit_46 : decode cX8_emit 46 = .ok (.aload_n 0, 1) := by decide +kernel
theorem dX8_emit_47 : decode cX8_emit 47 = .ok (.dup, 1) := by decide +kernel
theorem dX8_emit_48 : decode cX8_emit 48 = .ok (.getfield 171, 3) := by decide +kernel
theorem dX8_emit_51 : decode cX8_emit 51 = .ok (.iconst 1, 1) := by decide +kernel
theorem dX8_emit_52 : decode cX8_emit 52 = .ok (.iadd, 1) := by decide +kernel
theorem dX8_emit_53 : decode cX8_emit 53 = .ok (.putfield 171, 3) := by decide +kernel
theorem dX8_emit_56 : decode cX8_emit 56 = .ok (.return_, 1) := by decide +kernel
theorem dX8_opensAt_0 : decode cX8_opensAt 0 = .ok (.aload_n 0, 1) := by decide +kernel
theorem dX8_opensAt_1 : decode cX8_opensAt 1 = .ok (.invokevirtual 164, 3) := by decide +kernel
theorem dX8_opensAt_4 : decode cX8_opensAt 4 = .ok (.ifCond .ne 4, 3) := by decide +kernel
theorem dX8_opensAt_7 : decode cX8_opensAt 7 = .ok (.return_, 1) := by decide +kernel
theorem dX8_opensAt_8 : decode cX8_opensAt 8 = .ok (.iload_n 1, 1) := by decide +kernel
theorem dX8_opensAt_9 : decode cX8_opensAt 9 = .ok (.ifCond .eq 23, 3) := by decide +kernel
theorem dX8_opensAt_12 : decode cX8_opensAt 12 = .ok (.aload_n 0, 1) := by decide +kernel
theorem dX8_opensAt_13 : decode cX8_opensAt 13 = .ok (.invokevirtual 150, 3) := by decide +kernel
theorem dX8_opensAt_16 : decode cX8_opensAt 16 = .ok (.iload_n 1, 1) := by decide +kernel
theorem dX8_opensAt_17 : decode cX8_opensAt 17 = .ok (.if_icmp .eq 15, 3) := by decide +kernel
theorem dX8_opensAt_20 : decode cX8_opensAt 20 = .ok (.aload_n 0, 1) := by decide +kernel
theorem dX8_opensAt_21 : decode cX8_opensAt 21 = .ok (.iconst 1, 1) := by decide +kernel
theorem dX8_opensAt_22 : decode cX8_opensAt 22 = .ok (.aload_n 0, 1) := by decide +kernel
theorem dX8_opensAt_23 : decode cX8_opensAt 23 = .ok (.getfield 144, 3) := by decide +kernel
theorem dX8_opensAt_26 : decode cX8_opensAt 26 = .ok (.invokevirtual 160, 3) := by decide +kernel
theorem dX8_opensAt_29 : decode cX8_opensAt 29 = .ok (.goto 21, 3) := by decide +kernel
theorem dX8_opensAt_32 : decode cX8_opensAt 32 = .ok (.aload_n 0, 1) := by decide +kernel
theorem dX8_opensAt_33 : decode cX8_opensAt 33 = .ok (.getfield 174, 3) := by decide +kernel
theorem dX8_opensAt_36 : decode cX8_opensAt 36 = .ok (.bipush 6, 2) := by decide +kernel
theorem dX8_opensAt_38 : decode cX8_opensAt 38 = .ok (.if_icmp .ne 12, 3) := by decide +kernel
theorem dX8_opensAt_41 : decode cX8_opensAt 41 = .ok (.aload_n 0, 1) := by decide +kernel
theorem dX8_opensAt_42 : decode cX8_opensAt 42 = .ok (.iconst 3, 1) := by decide +kernel
theorem dX8_opensAt_43 : decode cX8_opensAt 43 = .ok (.aload_n 0, 1) := by decide +kernel
theorem dX8_opensAt_44 : decode cX8_opensAt 44 = .ok (.getfield 144, 3) := by decide +kernel
theorem dX8_opensAt_47 : decode cX8_opensAt 47 = .ok (.invokevirtual 160, 3) := by decide +kernel
theorem dX8_opensAt_50 : decode cX8_opensAt 50 = .ok (.aload_n 0, 1) := by decide +kernel
theorem dX8_opensAt_51 : decode cX8_opensAt 51 = .ok (.invokevirtual 164, 3) := by decide +kernel
theorem dX8_opensAt_54 : decode cX8_opensAt 54 = .ok (.ifCond .eq 13, 3) := by decide +kernel
theorem dX8_opensAt_57 : decode cX8_opensAt 57 = .ok (.aload_n 0, 1) := by decide +kernel
theorem dX8_opensAt_58 : decode cX8_opensAt 58 = .ok (.dup, 1) := by decide +kernel
theorem dX8_opensAt_59 : decode cX8_opensAt 59 = .ok (.getfield 144, 3) := by decide +kernel
theorem dX8_opensAt_62 : decode cX8_opensAt 62 = .ok (.iload_n 2, 1) := by decide +kernel
theorem dX8_opensAt_63 : decode cX8_opensAt 63 = .ok (.iadd, 1) := by decide +kernel
theorem dX8_opensAt_64 : decode cX8_opensAt 64 = .ok (.putfield 144, 3) := by decide +kernel
theorem dX8_opensAt_67 : decode cX8_opensAt 67 = .ok (.aload_n 0, 1) := by decide +kernel
theorem dX8_opensAt_68 : decode cX8_opensAt 68 = .ok (.dup, 1) := by decide +kernel
theorem dX8_opensAt_69 : decode cX8_opensAt 69 = .ok (.getfield 174, 3) := by decide +kernel
theorem dX8_opensAt_72 : decode cX8_opensAt 72 = .ok (.iconst 1, 1) := by decide +kernel
theorem dX8_opensAt_73 : decode cX8_opensAt 73 = .ok (.iadd, 1) := by decide +kernel
theorem dX8_opensAt_74 : decode cX8_opensAt 74 = .ok (.putfield 174, 3) := by decide +kernel
theorem dX8_opensAt_77 : decode cX8_opensAt 77 = .ok (.return_, 1) := by decide +kernel
theorem dX8_closesAt_0 : decode cX8_closesAt 0 = .ok (.aload_n 0, 1) := by decide +kernel
theorem dX8_closesAt_1 : decode cX8_closesAt 1 = .ok (.iload_n 1, 1) := by decide +kernel
theorem dX8_closesAt_2 : decode cX8_closesAt 2 = .ok (.invokevirtual 177, 3) := by decide +kernel
theorem dX8_closesAt_5 : decode cX8_closesAt 5 = .ok (.aload_n 0, 1) := by decide +kernel
theorem dX8_closesAt_6 : decode cX8_closesAt 6 = .ok (.dup, 1) := by decide +kernel
theorem dX8_closesAt_7 : decode cX8_closesAt 7 = .ok (.getfield 174, 3) := by decide +kernel
theorem dX8_closesAt_10 : decode cX8_closesAt 10 = .ok (.iconst 1, 1) := by decide +kernel
theorem dX8_closesAt_11 : decode cX8_closesAt 11 = .ok (.isub, 1) := by decide +kernel
theorem dX8_closesAt_12 : decode cX8_closesAt 12 = .ok (.putfield 174, 3) := by decide +kernel
theorem dX8_closesAt_15 : decode cX8_closesAt 15 = .ok (.return_, 1) := by decide +kernel
theorem dX8_name_0 : decode cX8_name 0 = .ok (.iload_n 0, 1) := by decide +kernel
theorem dX8_name_1 : decode cX8_name 1 = .ok (.sipush 1253, 3) := by decide +kernel
theorem dX8_name_4 : decode cX8_name 4 = .ok (.if_icmp .ne 7, 3) := by decide +kernel
theorem dX8_name_7 : decode cX8_name 7 = .ok (.iconst 1, 1) := by decide +kernel
theorem dX8_name_8 : decode cX8_name 8 = .ok (.goto 55, 3) := by decide +kernel
theorem dX8_name_11 : decode cX8_name 11 = .ok (.iload_n 0, 1) := by decide +kernel
theorem dX8_name_12 : decode cX8_name 12 = .ok (.ldc 181, 2) := by decide +kernel
theorem dX8_name_14 : decode cX8_name 14 = .ok (.if_icmp .ne 7, 3) := by decide +kernel
theorem dX8_name_17 : decode cX8_name 17 = .ok (.iconst 2, 1) := by decide +kernel
theorem dX8_name_18 : decode cX8_name 18 = .ok (.goto 45, 3) := by decide +kernel
theorem dX8_name_21 : decode cX8_name 21 = .ok (.iload_n 0, 1) := by decide +kernel
theorem dX8_name_22 : decode cX8_name 22 = .ok (.ldc 182, 2) := by decide +kernel
theorem dX8_name_24 : decode cX8_name 24 = .ok (.if_icmp .ne 7, 3) := by decide +kernel
theorem dX8_name_27 : decode cX8_name 27 = .ok (.iconst 3, 1) := by decide +kernel
theorem dX8_name_28 : decode cX8_name 28 = .ok (.goto 35, 3) := by decide +kernel
theorem dX8_name_31 : decode cX8_name 31 = .ok (.iload_n 0, 1) := by decide +kernel
theorem dX8_name_32 : decode cX8_name 32 = .ok (.ldc 183, 2) := by decide +kernel
theorem dX8_name_34 : decode cX8_name 34 = .ok (.if_icmp .ne 7, 3) := by decide +kernel
theorem dX8_name_37 : decode cX8_name 37 = .ok (.iconst 4, 1) := by decide +kernel
theorem dX8_name_38 : decode cX8_name 38 = .ok (.goto 25, 3) := by decide +kernel
theorem dX8_name_41 : decode cX8_name 41 = .ok (.iload_n 0, 1) := by decide +kernel
theorem dX8_name_42 : decode cX8_name 42 = .ok (.ldc 184, 2) := by decide +kernel
theorem dX8_name_44 : decode cX8_name 44 = .ok (.if_icmp .ne 7, 3) := by decide +kernel
theorem dX8_name_47 : decode cX8_name 47 = .ok (.iconst 5, 1) := by decide +kernel
theorem dX8_name_48 : decode cX8_name 48 = .ok (.goto 15, 3) := by decide +kernel
theorem dX8_name_51 : decode cX8_name 51 = .ok (.iload_n 0, 1) := by decide +kernel
theorem dX8_name_52 : decode cX8_name 52 = .ok (.ldc 185, 2) := by decide +kernel
theorem dX8_name_54 : decode cX8_name 54 = .ok (.if_icmp .ne 8, 3) := by decide +kernel
theorem dX8_name_57 : decode cX8_name 57 = .ok (.bipush 6, 2) := by decide +kernel
theorem dX8_name_59 : decode cX8_name 59 = .ok (.goto 4, 3) := by decide +kernel
theorem dX8_name_62 : decode cX8_name 62 = .ok (.iconst (-1), 1) := by decide +kernel
theorem dX8_name_63 : decode cX8_name 63 = .ok (.ireturn, 1) := by decide +kernel
theorem dX8_unit_0 : decode cX8_unit 0 = .ok (.aload_n 0, 1) := by decide +kernel
theorem dX8_unit_1 : decode cX8_unit 1 = .ok (.invokevirtual 164, 3) := by decide +kernel
theorem dX8_unit_4 : decode cX8_unit 4 = .ok (.ifCond .ne 4, 3) := by decide +kernel
theorem dX8_unit_7 : decode cX8_unit 7 = .ok (.return_, 1) := by decide +kernel
theorem dX8_unit_8 : decode cX8_unit 8 = .ok (.aload_n 0, 1) := by decide +kernel
theorem dX8_unit_9 : decode cX8_unit 9 = .ok (.invokevirtual 150, 3) := by decide +kernel
theorem dX8_unit_12 : decode cX8_unit 12 = .ok (.istore_n 1, 1) := by decide +kernel
theorem dX8_unit_13 : decode cX8_unit 13 = .ok (.iload_n 1, 1) := by decide +kernel
theorem dX8_unit_14 : decode cX8_unit 14 = .ok (.invokestatic 157, 3) := by decide +kernel
theorem dX8_unit_17 : decode cX8_unit 17 = .ok (.ifCond .eq 13, 3) := by decide +kernel
theorem dX8_unit_20 : decode cX8_unit 20 = .ok (.aload_n 0, 1) := by decide +kernel
theorem dX8_unit_21 : decode cX8_unit 21 = .ok (.iconst 0, 1) := by decide +kernel
theorem dX8_unit_22 : decode cX8_unit 22 = .ok (.aload_n 0, 1) := by decide +kernel
theorem dX8_unit_23 : decode cX8_unit 23 = .ok (.invokevirtual 186, 3) := by decide +kernel
theorem dX8_unit_26 : decode cX8_unit 26 = .ok (.invokevirtual 189, 3) := by decide +kernel
theorem dX8_unit_29 : decode cX8_unit 29 = .ok (.return_, 1) := by decide +kernel
theorem dX8_unit_30 : decode cX8_unit 30 = .ok (.iload_n 1, 1) := by decide +kernel
theorem dX8_unit_31 : decode cX8_unit 31 = .ok (.bipush 40, 2) := by decide +kernel
theorem dX8_unit_33 : decode cX8_unit 33 = .ok (.if_icmp .ne 21, 3) := by decide +kernel
theorem dX8_unit_36 : decode cX8_unit 36 = .ok (.aload_n 0, 1) := by decide +kernel
theorem dX8_unit_37 : decode cX8_unit 37 = .ok (.bipush 40, 2) := by decide +kernel
theorem dX8_unit_39 : decode cX8_unit 39 = .ok (.iconst 1, 1) := by decide +kernel
theorem dX8_unit_40 : decode cX8_unit 40 = .ok (.invokevirtual 192, 3) := by decide +kernel
theorem dX8_unit_43 : decode cX8_unit 43 = .ok (.aload_n 0, 1) := by decide +kernel
theorem dX8_unit_44 : decode cX8_unit 44 = .ok (.invokevirtual 195, 3) := by decide +kernel
theorem dX8_unit_47 : decode cX8_unit 47 = .ok (.aload_n 0, 1) := by decide +kernel
theorem dX8_unit_48 : decode cX8_unit 48 = .ok (.bipush 41, 2) := by decide +kernel
theorem dX8_unit_50 : decode cX8_unit 50 = .ok (.invokevirtual 198, 3) := by decide +kernel
theorem dX8_unit_53 : decode cX8_unit 53 = .ok (.return_, 1) := by decide +kernel
theorem dX8_unit_54 : decode cX8_unit 54 = .ok (.aload_n 0, 1) := by decide +kernel
theorem dX8_unit_55 : decode cX8_unit 55 = .ok (.invokevirtual 201, 3) := by decide +kernel
theorem dX8_unit_58 : decode cX8_unit 58 = .ok (.istore_n 2, 1) := by decide +kernel
theorem dX8_unit_59 : decode cX8_unit 59 = .ok (.iload_n 2, 1) := by decide +kernel
theorem dX8_unit_60 : decode cX8_unit 60 = .ok (.ldc 204, 2) := by decide +kernel
theorem dX8_unit_62 : decode cX8_unit 62 = .ok (.if_icmp .eq 9, 3) := by decide +kernel
theorem dX8_unit_65 : decode cX8_unit 65 = .ok (.iload_n 2, 1) := by decide +kernel
theorem dX8_unit_66 : decode cX8_unit 66 = .ok (.ldc 205, 2) := by decide +kernel
theorem dX8_unit_68 : decode cX8_unit 68 = .ok (.if_icmp .ne 55, 3) := by decide +kernel
theorem dX8_unit_71 : decode cX8_unit 71 = .ok (.aload_n 0, 1) := by decide +kernel
theorem dX8_unit_72 : decode cX8_unit 72 = .ok (.invokevirtual 206, 3) := by decide +kernel
theorem dX8_unit_75 : decode cX8_unit 75 = .ok (.aload_n 0, 1) := by decide +kernel
theorem dX8_unit_76 : decode cX8_unit 76 = .ok (.bipush 40, 2) := by decide +kernel
theorem dX8_unit_78 : decode cX8_unit 78 = .ok (.iconst 1, 1) := by decide +kernel
theorem dX8_unit_79 : decode cX8_unit 79 = .ok (.invokevirtual 192, 3) := by decide +kernel
theorem dX8_unit_82 : decode cX8_unit 82 = .ok (.aload_n 0, 1) := by decide +kernel
theorem dX8_unit_83 : decode cX8_unit 83 = .ok (.invokevirtual 195, 3) := by decide +kernel
theorem dX8_unit_86 : decode cX8_unit 86 = .ok (.aload_n 0, 1) := by decide +kernel
theorem dX8_unit_87 : decode cX8_unit 87 = .ok (.bipush 44, 2) := by decide +kernel
theorem dX8_unit_89 : decode cX8_unit 89 = .ok (.invokevirtual 177, 3) := by decide +kernel
theorem dX8_unit_92 : decode cX8_unit 92 = .ok (.aload_n 0, 1) := by decide +kernel
theorem dX8_unit_93 : decode cX8_unit 93 = .ok (.invokevirtual 195, 3) := by decide +kernel
theorem dX8_unit_96 : decode cX8_unit 96 = .ok (.aload_n 0, 1) := by decide +kernel
theorem dX8_unit_97 : decode cX8_unit 97 = .ok (.bipush 41, 2) := by decide +kernel
theorem dX8_unit_99 : decode cX8_unit 99 = .ok (.invokevirtual 198, 3) := by decide +kernel
theorem dX8_unit_102 : decode cX8_unit 102 = .ok (.aload_n 0, 1) := by decide +kernel
theorem dX8_unit_103 : decode cX8_unit 103 = .ok (.iload_n 2, 1) := by decide +kernel
theorem dX8_unit_104 : decode cX8_unit 104 = .ok (.ldc 204, 2) := by decide +kernel
theorem dX8_unit_106 : decode cX8_unit 106 = .ok (.if_icmp .ne 8, 3) := by decide +kernel
theorem dX8_unit_109 : decode cX8_unit 109 = .ok (.bipush 11, 2) := by decide +kernel
theorem dX8_unit_111 : decode cX8_unit 111 = .ok (.goto 5, 3) := by decide +kernel
theorem dX8_unit_114 : decode cX8_unit 114 = .ok (.bipush 12, 2) := by decide +kernel
theorem dX8_unit_116 : decode cX8_unit 116 = .ok (.iconst 0, 1) := by decide +kernel
theorem dX8_unit_117 : decode cX8_unit 117 = .ok (.invokevirtual 189, 3) := by decide +kernel
theorem dX8_unit_120 : decode cX8_unit 120 = .ok (.goto 36, 3) := by decide +kernel
theorem dX8_unit_123 : decode cX8_unit 123 = .ok (.iload_n 2, 1) := by decide +kernel
theorem dX8_unit_124 : decode cX8_unit 124 = .ok (.invokestatic 209, 3) := by decide +kernel
theorem dX8_unit_127 : decode cX8_unit 127 = .ok (.iconst (-1), 1) := by decide +kernel
theorem dX8_unit_128 : decode cX8_unit 128 = .ok (.if_icmp .ne 15, 3) := by decide +kernel
theorem dX8_unit_131 : decode cX8_unit 131 = .ok (.aload_n 0, 1) := by decide +kernel
theorem dX8_unit_132 : decode cX8_unit 132 = .ok (.iconst 1, 1) := by decide +kernel
theorem dX8_unit_133 : decode cX8_unit 133 = .ok (.aload_n 0, 1) := by decide +kernel
theorem dX8_unit_134 : decode cX8_unit 134 = .ok (.getfield 144, 3) := by decide +kernel
theorem dX8_unit_137 : decode cX8_unit 137 = .ok (.invokevirtual 160, 3) := by decide +kernel
theorem dX8_unit_140 : decode cX8_unit 140 = .ok (.goto 16, 3) := by decide +kernel
theorem dX8_unit_143 : decode cX8_unit 143 = .ok (.aload_n 0, 1) := by decide +kernel
theorem dX8_unit_144 : decode cX8_unit 144 = .ok (.invokevirtual 206, 3) := by decide +kernel
theorem dX8_unit_147 : decode cX8_unit 147 = .ok (.aload_n 0, 1) := by decide +kernel
theorem dX8_unit_148 : decode cX8_unit 148 = .ok (.iload_n 2, 1) := by decide +kernel
theorem dX8_unit_149 : decode cX8_unit 149 = .ok (.invokestatic 209, 3) := by decide +kernel
theorem dX8_unit_152 : decode cX8_unit 152 = .ok (.iconst 0, 1) := by decide +kernel
theorem dX8_unit_153 : decode cX8_unit 153 = .ok (.invokevirtual 189, 3) := by decide +kernel
theorem dX8_unit_156 : decode cX8_unit 156 = .ok (.return_, 1) := by decide +kernel
theorem dX8_product_0 : decode cX8_product 0 = .ok (.aload_n 0, 1) := by decide +kernel
theorem dX8_product_1 : decode cX8_product 1 = .ok (.invokevirtual 212, 3) := by decide +kernel
theorem dX8_product_4 : decode cX8_product 4 = .ok (.aload_n 0, 1) := by decide +kernel
theorem dX8_product_5 : decode cX8_product 5 = .ok (.invokevirtual 164, 3) := by decide +kernel
theorem dX8_product_8 : decode cX8_product 8 = .ok (.ifCond .eq 61, 3) := by decide +kernel
theorem dX8_product_11 : decode cX8_product 11 = .ok (.aload_n 0, 1) := by decide +kernel
theorem dX8_product_12 : decode cX8_product 12 = .ok (.invokevirtual 150, 3) := by decide +kernel
theorem dX8_product_15 : decode cX8_product 15 = .ok (.bipush 42, 2) := by decide +kernel
theorem dX8_product_17 : decode cX8_product 17 = .ok (.if_icmp .eq 12, 3) := by decide +kernel
theorem dX8_product_20 : decode cX8_product 20 = .ok (.aload_n 0, 1) := by decide +kernel
theorem dX8_product_21 : decode cX8_product 21 = .ok (.invokevirtual 150, 3) := by decide +kernel
theorem dX8_product_24 : decode cX8_product 24 = .ok (.bipush 47, 2) := by decide +kernel
theorem dX8_product_26 : decode cX8_product 26 = .ok (.if_icmp .ne 43, 3) := by decide +kernel
theorem dX8_product_29 : decode cX8_product 29 = .ok (.aload_n 0, 1) := by decide +kernel
theorem dX8_product_30 : decode cX8_product 30 = .ok (.invokevirtual 150, 3) := by decide +kernel
theorem dX8_product_33 : decode cX8_product 33 = .ok (.istore_n 1, 1) := by decide +kernel
theorem dX8_product_34 : decode cX8_product 34 = .ok (.aload_n 0, 1) := by decide +kernel
theorem dX8_product_35 : decode cX8_product 35 = .ok (.dup, 1) := by decide +kernel
theorem dX8_product_36 : decode cX8_product 36 = .ok (.getfield 144, 3) := by decide +kernel
theorem dX8_product_39 : decode cX8_product 39 = .ok (.iconst 1, 1) := by decide +kernel
theorem dX8_product_40 : decode cX8_product 40 = .ok (.iadd, 1) := by decide +kernel
theorem dX8_product_41 : decode cX8_product 41 = .ok (.putfield 144, 3) := by decide +kernel
theorem dX8_product_44 : decode cX8_product 44 = .ok (.aload_n 0, 1) := by decide +kernel
theorem dX8_product_45 : decode cX8_product 45 = .ok (.invokevirtual 212, 3) := by decide +kernel
theorem dX8_product_48 : decode cX8_product 48 = .ok (.aload_n 0, 1) := by decide +kernel
theorem dX8_product_49 : decode cX8_product 49 = .ok (.iload_n 1, 1) := by decide +kernel
theorem dX8_product_50 : decode cX8_product 50 = .ok (.bipush 42, 2) := by decide +kernel
theorem dX8_product_52 : decode cX8_product 52 = .ok (.if_icmp .ne 8, 3) := by decide +kernel
theorem dX8_product_55 : decode cX8_product 55 = .ok (.bipush 9, 2) := by decide +kernel
theorem dX8_product_57 : decode cX8_product 57 = .ok (.goto 5, 3) := by decide +kernel
theorem dX8_product_60 : decode cX8_product 60 = .ok (.bipush 10, 2) := by decide +kernel
theorem dX8_product_62 : decode cX8_product 62 = .ok (.iconst 0, 1) := by decide +kernel
theorem dX8_product_63 : decode cX8_product 63 = .ok (.invokevirtual 189, 3) := by decide +kernel
theorem dX8_product_66 : decode cX8_product 66 = .ok (.goto (-62), 3) := by decide +kernel
theorem dX8_product_69 : decode cX8_product 69 = .ok (.return_, 1) := by decide +kernel
theorem dX8_sum_0 : decode cX8_sum 0 = .ok (.aload_n 0, 1) := by decide +kernel
theorem dX8_sum_1 : decode cX8_sum 1 = .ok (.invokevirtual 215, 3) := by decide +kernel
theorem dX8_sum_4 : decode cX8_sum 4 = .ok (.aload_n 0, 1) := by decide +kernel
theorem dX8_sum_5 : decode cX8_sum 5 = .ok (.invokevirtual 164, 3) := by decide +kernel
theorem dX8_sum_8 : decode cX8_sum 8 = .ok (.ifCond .eq 61, 3) := by decide +kernel
theorem dX8_sum_11 : decode cX8_sum 11 = .ok (.aload_n 0, 1) := by decide +kernel
theorem dX8_sum_12 : decode cX8_sum 12 = .ok (.invokevirtual 150, 3) := by decide +kernel
theorem dX8_sum_15 : decode cX8_sum 15 = .ok (.bipush 43, 2) := by decide +kernel
theorem dX8_sum_17 : decode cX8_sum 17 = .ok (.if_icmp .eq 12, 3) := by decide +kernel
theorem dX8_sum_20 : decode cX8_sum 20 = .ok (.aload_n 0, 1) := by decide +kernel
theorem dX8_sum_21 : decode cX8_sum 21 = .ok (.invokevirtual 150, 3) := by decide +kernel
theorem dX8_sum_24 : decode cX8_sum 24 = .ok (.bipush 45, 2) := by decide +kernel
theorem dX8_sum_26 : decode cX8_sum 26 = .ok (.if_icmp .ne 43, 3) := by decide +kernel
theorem dX8_sum_29 : decode cX8_sum 29 = .ok (.aload_n 0, 1) := by decide +kernel
theorem dX8_sum_30 : decode cX8_sum 30 = .ok (.invokevirtual 150, 3) := by decide +kernel
theorem dX8_sum_33 : decode cX8_sum 33 = .ok (.istore_n 1, 1) := by decide +kernel
theorem dX8_sum_34 : decode cX8_sum 34 = .ok (.aload_n 0, 1) := by decide +kernel
theorem dX8_sum_35 : decode cX8_sum 35 = .ok (.dup, 1) := by decide +kernel
theorem dX8_sum_36 : decode cX8_sum 36 = .ok (.getfield 144, 3) := by decide +kernel
theorem dX8_sum_39 : decode cX8_sum 39 = .ok (.iconst 1, 1) := by decide +kernel
theorem dX8_sum_40 : decode cX8_sum 40 = .ok (.iadd, 1) := by decide +kernel
theorem dX8_sum_41 : decode cX8_sum 41 = .ok (.putfield 144, 3) := by decide +kernel
theorem dX8_sum_44 : decode cX8_sum 44 = .ok (.aload_n 0, 1) := by decide +kernel
theorem dX8_sum_45 : decode cX8_sum 45 = .ok (.invokevirtual 215, 3) := by decide +kernel
theorem dX8_sum_48 : decode cX8_sum 48 = .ok (.aload_n 0, 1) := by decide +kernel
theorem dX8_sum_49 : decode cX8_sum 49 = .ok (.iload_n 1, 1) := by decide +kernel
theorem dX8_sum_50 : decode cX8_sum 50 = .ok (.bipush 43, 2) := by decide +kernel
theorem dX8_sum_52 : decode cX8_sum 52 = .ok (.if_icmp .ne 8, 3) := by decide +kernel
theorem dX8_sum_55 : decode cX8_sum 55 = .ok (.bipush 7, 2) := by decide +kernel
theorem dX8_sum_57 : decode cX8_sum 57 = .ok (.goto 5, 3) := by decide +kernel
theorem dX8_sum_60 : decode cX8_sum 60 = .ok (.bipush 8, 2) := by decide +kernel
theorem dX8_sum_62 : decode cX8_sum 62 = .ok (.iconst 0, 1) := by decide +kernel
theorem dX8_sum_63 : decode cX8_sum 63 = .ok (.invokevirtual 189, 3) := by decide +kernel
theorem dX8_sum_66 : decode cX8_sum 66 = .ok (.goto (-62), 3) := by decide +kernel
theorem dX8_sum_69 : decode cX8_sum 69 = .ok (.return_, 1) := by decide +kernel
theorem dX8_anyOf_0 : decode cX8_anyOf 0 = .ok (.aload_n 0, 1) := by decide +kernel
theorem dX8_anyOf_1 : decode cX8_anyOf 1 = .ok (.invokevirtual 218, 3) := by decide +kernel
theorem dX8_anyOf_4 : decode cX8_anyOf 4 = .ok (.aload_n 0, 1) := by decide +kernel
theorem dX8_anyOf_5 : decode cX8_anyOf 5 = .ok (.invokevirtual 164, 3) := by decide +kernel
theorem dX8_anyOf_8 : decode cX8_anyOf 8 = .ok (.ifCond .eq 31, 3) := by decide +kernel
theorem dX8_anyOf_11 : decode cX8_anyOf 11 = .ok (.aload_n 0, 1) := by decide +kernel
theorem dX8_anyOf_12 : decode cX8_anyOf 12 = .ok (.invokevirtual 201, 3) := by decide +kernel
theorem dX8_anyOf_15 : decode cX8_anyOf 15 = .ok (.sipush 498, 3) := by decide +kernel
theorem dX8_anyOf_18 : decode cX8_anyOf 18 = .ok (.if_icmp .ne 21, 3) := by decide +kernel
theorem dX8_anyOf_21 : decode cX8_anyOf 21 = .ok (.aload_n 0, 1) := by decide +kernel
theorem dX8_anyOf_22 : decode cX8_anyOf 22 = .ok (.invokevirtual 206, 3) := by decide +kernel
theorem dX8_anyOf_25 : decode cX8_anyOf 25 = .ok (.aload_n 0, 1) := by decide +kernel
theorem dX8_anyOf_26 : decode cX8_anyOf 26 = .ok (.invokevirtual 218, 3) := by decide +kernel
theorem dX8_anyOf_29 : decode cX8_anyOf 29 = .ok (.aload_n 0, 1) := by decide +kernel
theorem dX8_anyOf_30 : decode cX8_anyOf 30 = .ok (.bipush 16, 2) := by decide +kernel
theorem dX8_anyOf_32 : decode cX8_anyOf 32 = .ok (.iconst 0, 1) := by decide +kernel
theorem dX8_anyOf_33 : decode cX8_anyOf 33 = .ok (.invokevirtual 189, 3) := by decide +kernel
theorem dX8_anyOf_36 : decode cX8_anyOf 36 = .ok (.goto (-32), 3) := by decide +kernel
theorem dX8_anyOf_39 : decode cX8_anyOf 39 = .ok (.return_, 1) := by decide +kernel
theorem dX8_allOf_0 : decode cX8_allOf 0 = .ok (.aload_n 0, 1) := by decide +kernel
theorem dX8_allOf_1 : decode cX8_allOf 1 = .ok (.invokevirtual 221, 3) := by decide +kernel
theorem dX8_allOf_4 : decode cX8_allOf 4 = .ok (.aload_n 0, 1) := by decide +kernel
theorem dX8_allOf_5 : decode cX8_allOf 5 = .ok (.invokevirtual 164, 3) := by decide +kernel
theorem dX8_allOf_8 : decode cX8_allOf 8 = .ok (.ifCond .eq 31, 3) := by decide +kernel
theorem dX8_allOf_11 : decode cX8_allOf 11 = .ok (.aload_n 0, 1) := by decide +kernel
theorem dX8_allOf_12 : decode cX8_allOf 12 = .ok (.invokevirtual 201, 3) := by decide +kernel
theorem dX8_allOf_15 : decode cX8_allOf 15 = .ok (.sipush 1476, 3) := by decide +kernel
theorem dX8_allOf_18 : decode cX8_allOf 18 = .ok (.if_icmp .ne 21, 3) := by decide +kernel
theorem dX8_allOf_21 : decode cX8_allOf 21 = .ok (.aload_n 0, 1) := by decide +kernel
theorem dX8_allOf_22 : decode cX8_allOf 22 = .ok (.invokevirtual 206, 3) := by decide +kernel
theorem dX8_allOf_25 : decode cX8_allOf 25 = .ok (.aload_n 0, 1) := by decide +kernel
theorem dX8_allOf_26 : decode cX8_allOf 26 = .ok (.invokevirtual 221, 3) := by decide +kernel
theorem dX8_allOf_29 : decode cX8_allOf 29 = .ok (.aload_n 0, 1) := by decide +kernel
theorem dX8_allOf_30 : decode cX8_allOf 30 = .ok (.bipush 17, 2) := by decide +kernel
theorem dX8_allOf_32 : decode cX8_allOf 32 = .ok (.iconst 0, 1) := by decide +kernel
theorem dX8_allOf_33 : decode cX8_allOf 33 = .ok (.invokevirtual 189, 3) := by decide +kernel
theorem dX8_allOf_36 : decode cX8_allOf 36 = .ok (.goto (-32), 3) := by decide +kernel
theorem dX8_allOf_39 : decode cX8_allOf 39 = .ok (.return_, 1) := by decide +kernel
theorem dX8_term_0 : decode cX8_term 0 = .ok (.aload_n 0, 1) := by decide +kernel
theorem dX8_term_1 : decode cX8_term 1 = .ok (.invokevirtual 164, 3) := by decide +kernel
theorem dX8_term_4 : decode cX8_term 4 = .ok (.ifCond .ne 4, 3) := by decide +kernel
theorem dX8_term_7 : decode cX8_term 7 = .ok (.return_, 1) := by decide +kernel
theorem dX8_term_8 : decode cX8_term 8 = .ok (.aload_n 0, 1) := by decide +kernel
theorem dX8_term_9 : decode cX8_term 9 = .ok (.invokevirtual 150, 3) := by decide +kernel
theorem dX8_term_12 : decode cX8_term 12 = .ok (.bipush 91, 2) := by decide +kernel
theorem dX8_term_14 : decode cX8_term 14 = .ok (.if_icmp .ne 23, 3) := by decide +kernel
theorem dX8_term_17 : decode cX8_term 17 = .ok (.aload_n 0, 1) := by decide +kernel
theorem dX8_term_18 : decode cX8_term 18 = .ok (.bipush 91, 2) := by decide +kernel
theorem dX8_term_20 : decode cX8_term 20 = .ok (.iconst 1, 1) := by decide +kernel
theorem dX8_term_21 : decode cX8_term 21 = .ok (.invokevirtual 192, 3) := by decide +kernel
theorem dX8_term_24 : decode cX8_term 24 = .ok (.aload_n 0, 1) := by decide +kernel
theorem dX8_term_25 : decode cX8_term 25 = .ok (.invokevirtual 224, 3) := by decide +kernel
theorem dX8_term_28 : decode cX8_term 28 = .ok (.aload_n 0, 1) := by decide +kernel
theorem dX8_term_29 : decode cX8_term 29 = .ok (.bipush 93, 2) := by decide +kernel
theorem dX8_term_31 : decode cX8_term 31 = .ok (.invokevirtual 198, 3) := by decide +kernel
theorem dX8_term_34 : decode cX8_term 34 = .ok (.goto 140, 3) := by decide +kernel
theorem dX8_term_37 : decode cX8_term 37 = .ok (.aload_n 0, 1) := by decide +kernel
theorem dX8_term_38 : decode cX8_term 38 = .ok (.invokevirtual 201, 3) := by decide +kernel
theorem dX8_term_41 : decode cX8_term 41 = .ok (.sipush 14836, 3) := by decide +kernel
theorem dX8_term_44 : decode cX8_term 44 = .ok (.if_icmp .ne 33, 3) := by decide +kernel
theorem dX8_term_47 : decode cX8_term 47 = .ok (.aload_n 0, 1) := by decide +kernel
theorem dX8_term_48 : decode cX8_term 48 = .ok (.iconst 0, 1) := by decide +kernel
theorem dX8_term_49 : decode cX8_term 49 = .ok (.iconst 3, 1) := by decide +kernel
theorem dX8_term_50 : decode cX8_term 50 = .ok (.invokevirtual 192, 3) := by decide +kernel
theorem dX8_term_53 : decode cX8_term 53 = .ok (.aload_n 0, 1) := by decide +kernel
theorem dX8_term_54 : decode cX8_term 54 = .ok (.invokevirtual 221, 3) := by decide +kernel
theorem dX8_term_57 : decode cX8_term 57 = .ok (.aload_n 0, 1) := by decide +kernel
theorem dX8_term_58 : decode cX8_term 58 = .ok (.dup, 1) := by decide +kernel
theorem dX8_term_59 : decode cX8_term 59 = .ok (.getfield 174, 3) := by decide +kernel
theorem dX8_term_62 : decode cX8_term 62 = .ok (.iconst 1, 1) := by decide +kernel
theorem dX8_term_63 : decode cX8_term 63 = .ok (.isub, 1) := by decide +kernel
theorem dX8_term_64 : decode cX8_term 64 = .ok (.putfield 174, 3) := by decide +kernel
theorem dX8_term_67 : decode cX8_term 67 = .ok (.aload_n 0, 1) := by decide +kernel
theorem dX8_term_68 : decode cX8_term 68 = .ok (.bipush 18, 2) := by decide +kernel
theorem dX8_term_70 : decode cX8_term 70 = .ok (.iconst 0, 1) := by decide +kernel
theorem dX8_term_71 : decode cX8_term 71 = .ok (.invokevirtual 189, 3) := by decide +kernel
theorem dX8_term_74 : decode cX8_term 74 = .ok (.goto 100, 3) := by decide +kernel
theorem dX8_term_77 : decode cX8_term 77 = .ok (.aload_n 0, 1) := by decide +kernel
theorem dX8_term_78 : decode cX8_term 78 = .ok (.invokevirtual 195, 3) := by decide +kernel
theorem dX8_term_81 : decode cX8_term 81 = .ok (.aload_n 0, 1) := by decide +kernel
theorem dX8_term_82 : decode cX8_term 82 = .ok (.invokevirtual 164, 3) := by decide +kernel
theorem dX8_term_85 : decode cX8_term 85 = .ok (.ifCond .eq 10, 3) := by decide +kernel
theorem dX8_term_88 : decode cX8_term 88 = .ok (.aload_n 0, 1) := by decide +kernel
theorem dX8_term_89 : decode cX8_term 89 = .ok (.invokevirtual 150, 3) := by decide +kernel
theorem dX8_term_92 : decode cX8_term 92 = .ok (.goto 4, 3) := by decide +kernel
theorem dX8_term_95 : decode cX8_term 95 = .ok (.iconst 0, 1) := by decide +kernel
theorem dX8_term_96 : decode cX8_term 96 = .ok (.istore_n 1, 1) := by decide +kernel
theorem dX8_term_97 : decode cX8_term 97 = .ok (.iload_n 1, 1) := by decide +kernel
theorem dX8_term_98 : decode cX8_term 98 = .ok (.bipush 60, 2) := by decide +kernel
theorem dX8_term_100 : decode cX8_term 100 = .ok (.if_icmp .eq 24, 3) := by decide +kernel
theorem dX8_term_103 : decode cX8_term 103 = .ok (.iload_n 1, 1) := by decide +kernel
theorem dX8_term_104 : decode cX8_term 104 = .ok (.bipush 62, 2) := by decide +kernel
theorem dX8_term_106 : decode cX8_term 106 = .ok (.if_icmp .eq 18, 3) := by decide +kernel
theorem dX8_term_109 : decode cX8_term 109 = .ok (.iload_n 1, 1) := by decide +kernel
theorem dX8_term_110 : decode cX8_term 110 = .ok (.bipush 61, 2) := by decide +kernel
theorem dX8_term_112 : decode cX8_term 112 = .ok (.if_icmp .eq 12, 3) := by decide +kernel
theorem dX8_term_115 : decode cX8_term 115 = .ok (.aload_n 0, 1) := by decide +kernel
theorem dX8_term_116 : decode cX8_term 116 = .ok (.iconst 1, 1) := by decide +kernel
theorem dX8_term_117 : decode cX8_term 117 = .ok (.aload_n 0, 1) := by decide +kernel
theorem dX8_term_118 : decode cX8_term 118 = .ok (.getfield 144, 3) := by decide +kernel
theorem dX8_term_121 : decode cX8_term 121 = .ok (.invokevirtual 160, 3) := by decide +kernel
theorem dX8_term_124 : decode cX8_term 124 = .ok (.aload_n 0, 1) := by decide +kernel
theorem dX8_term_125 : decode cX8_term 125 = .ok (.invokevirtual 164, 3) := by decide +kernel
theorem dX8_term_128 : decode cX8_term 128 = .ok (.ifCond .eq 13, 3) := by decide +kernel
theorem dX8_term_131 : decode cX8_term 131 = .ok (.aload_n 0, 1) := by decide +kernel
theorem dX8_term_132 : decode cX8_term 132 = .ok (.dup, 1) := by decide +kernel
theorem dX8_term_133 : decode cX8_term 133 = .ok (.getfield 144, 3) := by decide +kernel
theorem dX8_term_136 : decode cX8_term 136 = .ok (.iconst 1, 1) := by decide +kernel
theorem dX8_term_137 : decode cX8_term 137 = .ok (.iadd, 1) := by decide +kernel
theorem dX8_term_138 : decode cX8_term 138 = .ok (.putfield 144, 3) := by decide +kernel
theorem dX8_term_141 : decode cX8_term 141 = .ok (.aload_n 0, 1) := by decide +kernel
theorem dX8_term_142 : decode cX8_term 142 = .ok (.invokevirtual 195, 3) := by decide +kernel
theorem dX8_term_145 : decode cX8_term 145 = .ok (.aload_n 0, 1) := by decide +kernel
theorem dX8_term_146 : decode cX8_term 146 = .ok (.iload_n 1, 1) := by decide +kernel
theorem dX8_term_147 : decode cX8_term 147 = .ok (.bipush 60, 2) := by decide +kernel
theorem dX8_term_149 : decode cX8_term 149 = .ok (.if_icmp .ne 8, 3) := by decide +kernel
theorem dX8_term_152 : decode cX8_term 152 = .ok (.bipush 13, 2) := by decide +kernel
theorem dX8_term_154 : decode cX8_term 154 = .ok (.goto 16, 3) := by decide +kernel
theorem dX8_term_157 : decode cX8_term 157 = .ok (.iload_n 1, 1) := by decide +kernel
theorem dX8_term_158 : decode cX8_term 158 = .ok (.bipush 62, 2) := by decide +kernel
theorem dX8_term_160 : decode cX8_term 160 = .ok (.if_icmp .ne 8, 3) := by decide +kernel
theorem dX8_term_163 : decode cX8_term 163 = .ok (.bipush 14, 2) := by decide +kernel
theorem dX8_term_165 : decode cX8_term 165 = .ok (.goto 5, 3) := by decide +kernel
theorem dX8_term_168 : decode cX8_term 168 = .ok (.bipush 15, 2) := by decide +kernel
theorem dX8_term_170 : decode cX8_term 170 = .ok (.iconst 0, 1) := by decide +kernel
theorem dX8_term_171 : decode cX8_term 171 = .ok (.invokevirtual 189, 3) := by decide +kernel
theorem dX8_term_174 : decode cX8_term 174 = .ok (.return_, 1) := by decide +kernel
theorem dX8_readClause_0 : decode cX8_readClause 0 = .ok (.aload_n 0, 1) := by decide +kernel
theorem dX8_readClause_1 : decode cX8_readClause 1 = .ok (.invokevirtual 201, 3) := by decide +kernel
theorem dX8_readClause_4 : decode cX8_readClause 4 = .ok (.istore_n 1, 1) := by decide +kernel
theorem dX8_readClause_5 : decode cX8_readClause 5 = .ok (.iload_n 1, 1) := by decide +kernel
theorem dX8_readClause_6 : decode cX8_readClause 6 = .ok (.ldc 227, 2) := by decide +kernel
theorem dX8_readClause_8 : decode cX8_readClause 8 = .ok (.if_icmp .ne 7, 3) := by decide +kernel
theorem dX8_readClause_11 : decode cX8_readClause 11 = .ok (.iconst 0, 1) := by decide +kernel
theorem dX8_readClause_12 : decode cX8_readClause 12 = .ok (.goto 34, 3) := by decide +kernel
theorem dX8_readClause_15 : decode cX8_readClause 15 = .ok (.iload_n 1, 1) := by decide +kernel
theorem dX8_readClause_16 : decode cX8_readClause 16 = .ok (.ldc 228, 2) := by decide +kernel
theorem dX8_readClause_18 : decode cX8_readClause 18 = .ok (.if_icmp .ne 7, 3) := by decide +kernel
theorem dX8_readClause_21 : decode cX8_readClause 21 = .ok (.iconst 1, 1) := by decide +kernel
theorem dX8_readClause_22 : decode cX8_readClause 22 = .ok (.goto 24, 3) := by decide +kernel
theorem dX8_readClause_25 : decode cX8_readClause 25 = .ok (.iload_n 1, 1) := by decide +kernel
theorem dX8_readClause_26 : decode cX8_readClause 26 = .ok (.ldc 229, 2) := by decide +kernel
theorem dX8_readClause_28 : decode cX8_readClause 28 = .ok (.if_icmp .ne 7, 3) := by decide +kernel
theorem dX8_readClause_31 : decode cX8_readClause 31 = .ok (.iconst 2, 1) := by decide +kernel
theorem dX8_readClause_32 : decode cX8_readClause 32 = .ok (.goto 14, 3) := by decide +kernel
theorem dX8_readClause_35 : decode cX8_readClause 35 = .ok (.iload_n 1, 1) := by decide +kernel
theorem dX8_readClause_36 : decode cX8_readClause 36 = .ok (.ldc 230, 2) := by decide +kernel
theorem dX8_readClause_38 : decode cX8_readClause 38 = .ok (.if_icmp .ne 7, 3) := by decide +kernel
theorem dX8_readClause_41 : decode cX8_readClause 41 = .ok (.iconst 3, 1) := by decide +kernel
theorem dX8_readClause_42 : decode cX8_readClause 42 = .ok (.goto 4, 3) := by decide +kernel
theorem dX8_readClause_45 : decode cX8_readClause 45 = .ok (.iconst (-1), 1) := by decide +kernel
theorem dX8_readClause_46 : decode cX8_readClause 46 = .ok (.istore_n 2, 1) := by decide +kernel
theorem dX8_readClause_47 : decode cX8_readClause 47 = .ok (.iload_n 2, 1) := by decide +kernel
theorem dX8_readClause_48 : decode cX8_readClause 48 = .ok (.iconst (-1), 1) := by decide +kernel
theorem dX8_readClause_49 : decode cX8_readClause 49 = .ok (.if_icmp .ne 15, 3) := by decide +kernel
theorem dX8_readClause_52 : decode cX8_readClause 52 = .ok (.aload_n 0, 1) := by decide +kernel
theorem dX8_readClause_53 : decode cX8_readClause 53 = .ok (.iconst 1, 1) := by decide +kernel
theorem dX8_readClause_54 : decode cX8_readClause 54 = .ok (.aload_n 0, 1) := by decide +kernel
theorem dX8_readClause_55 : decode cX8_readClause 55 = .ok (.getfield 144, 3) := by decide +kernel
theorem dX8_readClause_58 : decode cX8_readClause 58 = .ok (.invokevirtual 160, 3) := by decide +kernel
theorem dX8_readClause_61 : decode cX8_readClause 61 = .ok (.goto 26, 3) := by decide +kernel
theorem dX8_readClause_64 : decode cX8_readClause 64 = .ok (.aload_n 0, 1) := by decide +kernel
theorem dX8_readClause_65 : decode cX8_readClause 65 = .ok (.getfield 29, 3) := by decide +kernel
theorem dX8_readClause_68 : decode cX8_readClause 68 = .ok (.aload_n 0, 1) := by decide +kernel
theorem dX8_readClause_69 : decode cX8_readClause 69 = .ok (.getfield 168, 3) := by decide +kernel
theorem dX8_readClause_72 : decode cX8_readClause 72 = .ok (.iaload, 1) := by decide +kernel
theorem dX8_readClause_73 : decode cX8_readClause 73 = .ok (.bipush 12, 2) := by decide +kernel
theorem dX8_readClause_75 : decode cX8_readClause 75 = .ok (.if_icmp .ne 12, 3) := by decide +kernel
theorem dX8_readClause_78 : decode cX8_readClause 78 = .ok (.aload_n 0, 1) := by decide +kernel
theorem dX8_readClause_79 : decode cX8_readClause 79 = .ok (.iconst 3, 1) := by decide +kernel
theorem dX8_readClause_80 : decode cX8_readClause 80 = .ok (.aload_n 0, 1) := by decide +kernel
theorem dX8_readClause_81 : decode cX8_readClause 81 = .ok (.getfield 144, 3) := by decide +kernel
theorem dX8_readClause_84 : decode cX8_readClause 84 = .ok (.invokevirtual 160, 3) := by decide +kernel
theorem dX8_readClause_87 : decode cX8_readClause 87 = .ok (.aload_n 0, 1) := by decide +kernel
theorem dX8_readClause_88 : decode cX8_readClause 88 = .ok (.invokevirtual 164, 3) := by decide +kernel
theorem dX8_readClause_91 : decode cX8_readClause 91 = .ok (.ifCond .ne 4, 3) := by decide +kernel
theorem dX8_readClause_94 : decode cX8_readClause 94 = .ok (.return_, 1) := by decide +kernel
theorem dX8_readClause_95 : decode cX8_readClause 95 = .ok (.aload_n 0, 1) := by decide +kernel
theorem dX8_readClause_96 : decode cX8_readClause 96 = .ok (.invokevirtual 206, 3) := by decide +kernel
theorem dX8_readClause_99 : decode cX8_readClause 99 = .ok (.bipush 12, 2) := by decide +kernel
theorem dX8_readClause_101 : decode cX8_readClause 101 = .ok (.aload_n 0, 1) := by decide +kernel
theorem dX8_readClause_102 : decode cX8_readClause 102 = .ok (.getfield 168, 3) := by decide +kernel
theorem dX8_readClause_105 : decode cX8_readClause 105 = .ok (.imul, 1) := by decide +kernel
theorem dX8_readClause_106 : decode cX8_readClause 106 = .ok (.aload_n 0, 1) := by decide +kernel
theorem dX8_readClause_107 : decode cX8_readClause 107 = .ok (.getfield 29, 3) := by decide +kernel
theorem dX8_readClause_110 : decode cX8_readClause 110 = .ok (.aload_n 0, 1) := by decide +kernel
theorem dX8_readClause_111 : decode cX8_readClause 111 = .ok (.getfield 168, 3) := by decide +kernel
theorem dX8_readClause_114 : decode cX8_readClause 114 = .ok (.iaload, 1) := by decide +kernel
theorem dX8_readClause_115 : decode cX8_readClause 115 = .ok (.iadd, 1) := by decide +kernel
theorem dX8_readClause_116 : decode cX8_readClause 116 = .ok (.istore_n 3, 1) := by decide +kernel
theorem dX8_readClause_117 : decode cX8_readClause 117 = .ok (.aload_n 0, 1) := by decide +kernel
theorem dX8_readClause_118 : decode cX8_readClause 118 = .ok (.getfield 29, 3) := by decide +kernel
theorem dX8_readClause_121 : decode cX8_readClause 121 = .ok (.aload_n 0, 1) := by decide +kernel
theorem dX8_readClause_122 : decode cX8_readClause 122 = .ok (.getfield 168, 3) := by decide +kernel
theorem dX8_readClause_125 : decode cX8_readClause 125 = .ok (.dup2, 1) := by decide +kernel
theorem dX8_readClause_126 : decode cX8_readClause 126 = .ok (.iaload, 1) := by decide +kernel
theorem dX8_readClause_127 : decode cX8_readClause 127 = .ok (.iconst 1, 1) := by decide +kernel
theorem dX8_readClause_128 : decode cX8_readClause 128 = .ok (.iadd, 1) := by decide +kernel
theorem dX8_readClause_129 : decode cX8_readClause 129 = .ok (.iastore, 1) := by decide +kernel
theorem dX8_readClause_130 : decode cX8_readClause 130 = .ok (.aload_n 0, 1) := by decide +kernel
theorem dX8_readClause_131 : decode cX8_readClause 131 = .ok (.getfield 32, 3) := by decide +kernel
theorem dX8_readClause_134 : decode cX8_readClause 134 = .ok (.iload_n 3, 1) := by decide +kernel
theorem dX8_readClause_135 : decode cX8_readClause 135 = .ok (.iload_n 2, 1) := by decide +kernel
theorem dX8_readClause_136 : decode cX8_readClause 136 = .ok (.iastore, 1) := by decide +kernel
theorem dX8_readClause_137 : decode cX8_readClause 137 = .ok (.aload_n 0, 1) := by decide +kernel
theorem dX8_readClause_138 : decode cX8_readClause 138 = .ok (.getfield 35, 3) := by decide +kernel
theorem dX8_readClause_141 : decode cX8_readClause 141 = .ok (.iload_n 3, 1) := by decide +kernel
theorem dX8_readClause_142 : decode cX8_readClause 142 = .ok (.aload_n 0, 1) := by decide +kernel
theorem dX8_readClause_143 : decode cX8_readClause 143 = .ok (.getfield 171, 3) := by decide +kernel
theorem dX8_readClause_146 : decode cX8_readClause 146 = .ok (.iastore, 1) := by decide +kernel
theorem dX8_readClause_147 : decode cX8_readClause 147 = .ok (.aload_n 0, 1) := by decide +kernel
theorem dX8_readClause_148 : decode cX8_readClause 148 = .ok (.invokevirtual 195, 3) := by decide +kernel
theorem dX8_readClause_151 : decode cX8_readClause 151 = .ok (.aload_n 0, 1) := by decide +kernel
theorem dX8_readClause_152 : decode cX8_readClause 152 = .ok (.getfield 38, 3) := by decide +kernel
theorem dX8_readClause_155 : decode cX8_readClause 155 = .ok (.iload_n 3, 1) := by decide +kernel
theorem dX8_readClause_156 : decode cX8_readClause 156 = .ok (.aload_n 0, 1) := by decide +kernel
theorem dX8_readClause_157 : decode cX8_readClause 157 = .ok (.getfield 171, 3) := by decide +kernel
theorem dX8_readClause_160 : decode cX8_readClause 160 = .ok (.iastore, 1) := by decide +kernel
theorem dX8_readClause_161 : decode cX8_readClause 161 = .ok (.aload_n 0, 1) := by decide +kernel
theorem dX8_readClause_162 : decode cX8_readClause 162 = .ok (.invokevirtual 164, 3) := by decide +kernel
theorem dX8_readClause_165 : decode cX8_readClause 165 = .ok (.ifCond .eq 21, 3) := by decide +kernel
theorem dX8_readClause_168 : decode cX8_readClause 168 = .ok (.aload_n 0, 1) := by decide +kernel
theorem dX8_readClause_169 : decode cX8_readClause 169 = .ok (.invokevirtual 201, 3) := by decide +kernel
theorem dX8_readClause_172 : decode cX8_readClause 172 = .ok (.sipush 294, 3) := by decide +kernel
theorem dX8_readClause_175 : decode cX8_readClause 175 = .ok (.if_icmp .ne 11, 3) := by decide +kernel
theorem dX8_readClause_178 : decode cX8_readClause 178 = .ok (.aload_n 0, 1) := by decide +kernel
theorem dX8_readClause_179 : decode cX8_readClause 179 = .ok (.invokevirtual 206, 3) := by decide +kernel
theorem dX8_readClause_182 : decode cX8_readClause 182 = .ok (.aload_n 0, 1) := by decide +kernel
theorem dX8_readClause_183 : decode cX8_readClause 183 = .ok (.invokevirtual 224, 3) := by decide +kernel
theorem dX8_readClause_186 : decode cX8_readClause 186 = .ok (.aload_n 0, 1) := by decide +kernel
theorem dX8_readClause_187 : decode cX8_readClause 187 = .ok (.getfield 41, 3) := by decide +kernel
theorem dX8_readClause_190 : decode cX8_readClause 190 = .ok (.iload_n 3, 1) := by decide +kernel
theorem dX8_readClause_191 : decode cX8_readClause 191 = .ok (.aload_n 0, 1) := by decide +kernel
theorem dX8_readClause_192 : decode cX8_readClause 192 = .ok (.getfield 171, 3) := by decide +kernel
theorem dX8_readClause_195 : decode cX8_readClause 195 = .ok (.iastore, 1) := by decide +kernel
theorem dX8_readClause_196 : decode cX8_readClause 196 = .ok (.aload_n 0, 1) := by decide +kernel
theorem dX8_readClause_197 : decode cX8_readClause 197 = .ok (.bipush 59, 2) := by decide +kernel
theorem dX8_readClause_199 : decode cX8_readClause 199 = .ok (.invokevirtual 177, 3) := by decide +kernel
theorem dX8_readClause_202 : decode cX8_readClause 202 = .ok (.return_, 1) := by decide +kernel
theorem dX8_isMore_0 : decode cX8_isMore 0 = .ok (.aload_n 0, 1) := by decide +kernel
theorem dX8_isMore_1 : decode cX8_isMore 1 = .ok (.invokevirtual 150, 3) := by decide +kernel
theorem dX8_isMore_4 : decode cX8_isMore 4 = .ok (.pop, 1) := by decide +kernel
theorem dX8_isMore_5 : decode cX8_isMore 5 = .ok (.aload_n 0, 1) := by decide +kernel
theorem dX8_isMore_6 : decode cX8_isMore 6 = .ok (.getfield 144, 3) := by decide +kernel
theorem dX8_isMore_9 : decode cX8_isMore 9 = .ok (.aload_n 0, 1) := by decide +kernel
theorem dX8_isMore_10 : decode cX8_isMore 10 = .ok (.getfield 147, 3) := by decide +kernel
theorem dX8_isMore_13 : decode cX8_isMore 13 = .ok (.if_icmp .ge 7, 3) := by decide +kernel
theorem dX8_isMore_16 : decode cX8_isMore 16 = .ok (.iconst 1, 1) := by decide +kernel
theorem dX8_isMore_17 : decode cX8_isMore 17 = .ok (.goto 4, 3) := by decide +kernel
theorem dX8_isMore_20 : decode cX8_isMore 20 = .ok (.iconst 0, 1) := by decide +kernel
theorem dX8_isMore_21 : decode cX8_isMore 21 = .ok (.ireturn, 1) := by decide +kernel
theorem dX8_law_0 : decode cX8_law 0 = .ok (.aload_n 0, 1) := by decide +kernel
theorem dX8_law_1 : decode cX8_law 1 = .ok (.iconst 0, 1) := by decide +kernel
theorem dX8_law_2 : decode cX8_law 2 = .ok (.putfield 1, 3) := by decide +kernel
theorem dX8_law_5 : decode cX8_law 5 = .ok (.aload_n 0, 1) := by decide +kernel
theorem dX8_law_6 : decode cX8_law 6 = .ok (.iload_n 1, 1) := by decide +kernel
theorem dX8_law_7 : decode cX8_law 7 = .ok (.ifCond .lt 15, 3) := by decide +kernel
theorem dX8_law_10 : decode cX8_law 10 = .ok (.iload_n 1, 1) := by decide +kernel
theorem dX8_law_11 : decode cX8_law 11 = .ok (.aload_n 0, 1) := by decide +kernel
theorem dX8_law_12 : decode cX8_law 12 = .ok (.getfield 135, 3) := by decide +kernel
theorem dX8_law_15 : decode cX8_law 15 = .ok (.if_icmp .gt 7, 3) := by decide +kernel
theorem dX8_law_18 : decode cX8_law 18 = .ok (.iconst 1, 1) := by decide +kernel
theorem dX8_law_19 : decode cX8_law 19 = .ok (.goto 4, 3) := by decide +kernel
theorem dX8_law_22 : decode cX8_law 22 = .ok (.iconst 0, 1) := by decide +kernel
theorem dX8_law_23 : decode cX8_law 23 = .ok (.iconst 1, 1) := by decide +kernel
theorem dX8_law_24 : decode cX8_law 24 = .ok (.invokevirtual 110, 3) := by decide +kernel
theorem dX8_law_27 : decode cX8_law 27 = .ok (.ifCond .ne 5, 3) := by decide +kernel
theorem dX8_law_30 : decode cX8_law 30 = .ok (.iconst 0, 1) := by decide +kernel
theorem dX8_law_31 : decode cX8_law 31 = .ok (.ireturn, 1) := by decide +kernel
theorem dX8_law_32 : decode cX8_law 32 = .ok (.aload_n 0, 1) := by decide +kernel
theorem dX8_law_33 : decode cX8_law 33 = .ok (.iconst 0, 1) := by decide +kernel
theorem dX8_law_34 : decode cX8_law 34 = .ok (.putfield 135, 3) := by decide +kernel
theorem dX8_law_37 : decode cX8_law 37 = .ok (.aload_n 0, 1) := by decide +kernel
theorem dX8_law_38 : decode cX8_law 38 = .ok (.iconst (-1), 1) := by decide +kernel
theorem dX8_law_39 : decode cX8_law 39 = .ok (.putfield 23, 3) := by decide +kernel
theorem dX8_law_42 : decode cX8_law 42 = .ok (.aload_n 0, 1) := by decide +kernel
theorem dX8_law_43 : decode cX8_law 43 = .ok (.getfield 168, 3) := by decide +kernel
theorem dX8_law_46 : decode cX8_law 46 = .ok (.bipush 6, 2) := by decide +kernel
theorem dX8_law_48 : decode cX8_law 48 = .ok (.if_icmp .ne 5, 3) := by decide +kernel
theorem dX8_law_51 : decode cX8_law 51 = .ok (.iconst (-1), 1) := by decide +kernel
theorem dX8_law_52 : decode cX8_law 52 = .ok (.ireturn, 1) := by decide +kernel
theorem dX8_law_53 : decode cX8_law 53 = .ok (.aload_n 0, 1) := by decide +kernel
theorem dX8_law_54 : decode cX8_law 54 = .ok (.iload_n 1, 1) := by decide +kernel
theorem dX8_law_55 : decode cX8_law 55 = .ok (.putfield 147, 3) := by decide +kernel
theorem dX8_law_58 : decode cX8_law 58 = .ok (.aload_n 0, 1) := by decide +kernel
theorem dX8_law_59 : decode cX8_law 59 = .ok (.iconst 0, 1) := by decide +kernel
theorem dX8_law_60 : decode cX8_law 60 = .ok (.putfield 144, 3) := by decide +kernel
theorem dX8_law_63 : decode cX8_law 63 = .ok (.aload_n 0, 1) := by decide +kernel
theorem dX8_law_64 : decode cX8_law 64 = .ok (.iconst (-1), 1) := by decide +kernel
theorem dX8_law_65 : decode cX8_law 65 = .ok (.putfield 138, 3) := by decide +kernel
theorem dX8_law_68 : decode cX8_law 68 = .ok (.aload_n 0, 1) := by decide +kernel
theorem dX8_law_69 : decode cX8_law 69 = .ok (.iconst 0, 1) := by decide +kernel
theorem dX8_law_70 : decode cX8_law 70 = .ok (.putfield 174, 3) := by decide +kernel
theorem dX8_law_73 : decode cX8_law 73 = .ok (.aload_n 0, 1) := by decide +kernel
theorem dX8_law_74 : decode cX8_law 74 = .ok (.iconst 0, 1) := by decide +kernel
theorem dX8_law_75 : decode cX8_law 75 = .ok (.putfield 171, 3) := by decide +kernel
theorem dX8_law_78 : decode cX8_law 78 = .ok (.aload_n 0, 1) := by decide +kernel
theorem dX8_law_79 : decode cX8_law 79 = .ok (.getfield 29, 3) := by decide +kernel
theorem dX8_law_82 : decode cX8_law 82 = .ok (.aload_n 0, 1) := by decide +kernel
theorem dX8_law_83 : decode cX8_law 83 = .ok (.getfield 168, 3) := by decide +kernel
theorem dX8_law_86 : decode cX8_law 86 = .ok (.iconst 0, 1) := by decide +kernel
theorem dX8_law_87 : decode cX8_law 87 = .ok (.iastore, 1) := by decide +kernel
theorem dX8_law_88 : decode cX8_law 88 = .ok (.aload_n 0, 1) := by decide +kernel
theorem dX8_law_89 : decode cX8_law 89 = .ok (.invokevirtual 164, 3) := by decide +kernel
theorem dX8_law_92 : decode cX8_law 92 = .ok (.ifCond .eq 17, 3) := by decide +kernel
theorem dX8_law_95 : decode cX8_law 95 = .ok (.aload_n 0, 1) := by decide +kernel
theorem dX8_law_96 : decode cX8_law 96 = .ok (.invokevirtual 231, 3) := by decide +kernel
theorem dX8_law_99 : decode cX8_law 99 = .ok (.ifCond .eq 10, 3) := by decide +kernel
theorem dX8_law_102 : decode cX8_law 102 = .ok (.aload_n 0, 1) := by decide +kernel
theorem dX8_law_103 : decode cX8_law 103 = .ok (.invokevirtual 234, 3) := by decide +kernel
theorem dX8_law_106 : decode cX8_law 106 = .ok (.goto (-18), 3) := by decide +kernel
theorem dX8_law_109 : decode cX8_law 109 = .ok (.aload_n 0, 1) := by decide +kernel
theorem dX8_law_110 : decode cX8_law 110 = .ok (.aload_n 0, 1) := by decide +kernel
theorem dX8_law_111 : decode cX8_law 111 = .ok (.getfield 138, 3) := by decide +kernel
theorem dX8_law_114 : decode cX8_law 114 = .ok (.putfield 23, 3) := by decide +kernel
theorem dX8_law_117 : decode cX8_law 117 = .ok (.aload_n 0, 1) := by decide +kernel
theorem dX8_law_118 : decode cX8_law 118 = .ok (.invokevirtual 164, 3) := by decide +kernel
theorem dX8_law_121 : decode cX8_law 121 = .ok (.ifCond .ne 11, 3) := by decide +kernel
theorem dX8_law_124 : decode cX8_law 124 = .ok (.aload_n 0, 1) := by decide +kernel
theorem dX8_law_125 : decode cX8_law 125 = .ok (.getfield 141, 3) := by decide +kernel
theorem dX8_law_128 : decode cX8_law 128 = .ok (.bipush 10, 2) := by decide +kernel
theorem dX8_law_130 : decode cX8_law 130 = .ok (.isub, 1) := by decide +kernel
theorem dX8_law_131 : decode cX8_law 131 = .ok (.ireturn, 1) := by decide +kernel
theorem dX8_law_132 : decode cX8_law 132 = .ok (.aload_n 0, 1) := by decide +kernel
theorem dX8_law_133 : decode cX8_law 133 = .ok (.dup, 1) := by decide +kernel
theorem dX8_law_134 : decode cX8_law 134 = .ok (.getfield 168, 3) := by decide +kernel
theorem dX8_law_137 : decode cX8_law 137 = .ok (.iconst 1, 1) := by decide +kernel
theorem dX8_law_138 : decode cX8_law 138 = .ok (.iadd, 1) := by decide +kernel
theorem dX8_law_139 : decode cX8_law 139 = .ok (.putfield 168, 3) := by decide +kernel
theorem dX8_law_142 : decode cX8_law 142 = .ok (.aload_n 0, 1) := by decide +kernel
theorem dX8_law_143 : decode cX8_law 143 = .ok (.getfield 168, 3) := by decide +kernel
theorem dX8_law_146 : decode cX8_law 146 = .ok (.iconst 1, 1) := by decide +kernel
theorem dX8_law_147 : decode cX8_law 147 = .ok (.isub, 1) := by decide +kernel
theorem dX8_law_148 : decode cX8_law 148 = .ok (.ireturn, 1) := by decide +kernel
theorem dX8_fault_0 : decode cX8_fault 0 = .ok (.aload_n 0, 1) := by decide +kernel
theorem dX8_fault_1 : decode cX8_fault 1 = .ok (.iconst 0, 1) := by decide +kernel
theorem dX8_fault_2 : decode cX8_fault 2 = .ok (.putfield 1, 3) := by decide +kernel
theorem dX8_fault_5 : decode cX8_fault 5 = .ok (.aload_n 0, 1) := by decide +kernel
theorem dX8_fault_6 : decode cX8_fault 6 = .ok (.getfield 23, 3) := by decide +kernel
theorem dX8_fault_9 : decode cX8_fault 9 = .ok (.ireturn, 1) := by decide +kernel
theorem dX8_isLawOrNone_0 : decode cX8_isLawOrNone 0 = .ok (.aload_n 0, 1) := by decide +kernel
theorem dX8_isLawOrNone_1 : decode cX8_isLawOrNone 1 = .ok (.iload_n 1, 1) := by decide +kernel
theorem dX8_isLawOrNone_2 : decode cX8_isLawOrNone 2 = .ok (.iconst (-1), 1) := by decide +kernel
theorem dX8_isLawOrNone_3 : decode cX8_isLawOrNone 3 = .ok (.aload_n 0, 1) := by decide +kernel
theorem dX8_isLawOrNone_4 : decode cX8_isLawOrNone 4 = .ok (.getfield 168, 3) := by decide +kernel
theorem dX8_isLawOrNone_7 : decode cX8_isLawOrNone 7 = .ok (.iconst 1, 1) := by decide +kernel
theorem dX8_isLawOrNone_8 : decode cX8_isLawOrNone 8 = .ok (.isub, 1) := by decide +kernel
theorem dX8_isLawOrNone_9 : decode cX8_isLawOrNone 9 = .ok (.invokestatic 106, 3) := by decide +kernel
theorem dX8_isLawOrNone_12 : decode cX8_isLawOrNone 12 = .ok (.iconst 1, 1) := by decide +kernel
theorem dX8_isLawOrNone_13 : decode cX8_isLawOrNone 13 = .ok (.invokevirtual 110, 3) := by decide +kernel
theorem dX8_isLawOrNone_16 : decode cX8_isLawOrNone 16 = .ok (.ireturn, 1) := by decide +kernel
theorem dX8_force_0 : decode cX8_force 0 = .ok (.aload_n 0, 1) := by decide +kernel
theorem dX8_force_1 : decode cX8_force 1 = .ok (.iconst 0, 1) := by decide +kernel
theorem dX8_force_2 : decode cX8_force 2 = .ok (.putfield 1, 3) := by decide +kernel
theorem dX8_force_5 : decode cX8_force 5 = .ok (.aload_n 0, 1) := by decide +kernel
theorem dX8_force_6 : decode cX8_force 6 = .ok (.iload_n 1, 1) := by decide +kernel
theorem dX8_force_7 : decode cX8_force 7 = .ok (.invokevirtual 237, 3) := by decide +kernel
theorem dX8_force_10 : decode cX8_force 10 = .ok (.ifCond .ne 5, 3) := by decide +kernel
theorem dX8_force_13 : decode cX8_force 13 = .ok (.iconst 0, 1) := by decide +kernel
theorem dX8_force_14 : decode cX8_force 14 = .ok (.ireturn, 1) := by decide +kernel
theorem dX8_force_15 : decode cX8_force 15 = .ok (.aload_n 0, 1) := by decide +kernel
theorem dX8_force_16 : decode cX8_force 16 = .ok (.getfield 13, 3) := by decide +kernel
theorem dX8_force_19 : decode cX8_force 19 = .ok (.iconst 5, 1) := by decide +kernel
theorem dX8_force_20 : decode cX8_force 20 = .ok (.iaload, 1) := by decide +kernel
theorem dX8_force_21 : decode cX8_force 21 = .ok (.istore_n 2, 1) := by decide +kernel
theorem dX8_force_22 : decode cX8_force 22 = .ok (.aload_n 0, 1) := by decide +kernel
theorem dX8_force_23 : decode cX8_force 23 = .ok (.getfield 13, 3) := by decide +kernel
theorem dX8_force_26 : decode cX8_force 26 = .ok (.iconst 5, 1) := by decide +kernel
theorem dX8_force_27 : decode cX8_force 27 = .ok (.iload_n 1, 1) := by decide +kernel
theorem dX8_force_28 : decode cX8_force 28 = .ok (.iastore, 1) := by decide +kernel
theorem dX8_force_29 : decode cX8_force 29 = .ok (.aload_n 0, 1) := by decide +kernel
theorem dX8_force_30 : decode cX8_force 30 = .ok (.invokevirtual 114, 3) := by decide +kernel
theorem dX8_force_33 : decode cX8_force 33 = .ok (.iload_n 2, 1) := by decide +kernel
theorem dX8_force_34 : decode cX8_force 34 = .ok (.ireturn, 1) := by decide +kernel
theorem dX8_asked_0 : decode cX8_asked 0 = .ok (.iload_n 1, 1) := by decide +kernel
theorem dX8_asked_1 : decode cX8_asked 1 = .ok (.tableswitch 60 1 5 #[35, 40, 45, 50, 55], 35) := by decide +kernel
theorem dX8_asked_36 : decode cX8_asked 36 = .ok (.aload_n 0, 1) := by decide +kernel
theorem dX8_asked_37 : decode cX8_asked 37 = .ok (.getfield 240, 3) := by decide +kernel
theorem dX8_asked_40 : decode cX8_asked 40 = .ok (.ireturn, 1) := by decide +kernel
theorem dX8_asked_41 : decode cX8_asked 41 = .ok (.aload_n 0, 1) := by decide +kernel
theorem dX8_asked_42 : decode cX8_asked 42 = .ok (.getfield 243, 3) := by decide +kernel
theorem dX8_asked_45 : decode cX8_asked 45 = .ok (.ireturn, 1) := by decide +kernel
theorem dX8_asked_46 : decode cX8_asked 46 = .ok (.aload_n 0, 1) := by decide +kernel
theorem dX8_asked_47 : decode cX8_asked 47 = .ok (.getfield 246, 3) := by decide +kernel
theorem dX8_asked_50 : decode cX8_asked 50 = .ok (.ireturn, 1) := by decide +kernel
theorem dX8_asked_51 : decode cX8_asked 51 = .ok (.aload_n 0, 1) := by decide +kernel
theorem dX8_asked_52 : decode cX8_asked 52 = .ok (.getfield 249, 3) := by decide +kernel
theorem dX8_asked_55 : decode cX8_asked 55 = .ok (.ireturn, 1) := by decide +kernel
theorem dX8_asked_56 : decode cX8_asked 56 = .ok (.aload_n 0, 1) := by decide +kernel
theorem dX8_asked_57 : decode cX8_asked 57 = .ok (.getfield 252, 3) := by decide +kernel
theorem dX8_asked_60 : decode cX8_asked 60 = .ok (.ireturn, 1) := by decide +kernel
theorem dX8_asked_61 : decode cX8_asked 61 = .ok (.aload_n 0, 1) := by decide +kernel
theorem dX8_asked_62 : decode cX8_asked 62 = .ok (.getfield 255, 3) := by decide +kernel
theorem dX8_asked_65 : decode cX8_asked 65 = .ok (.ireturn, 1) := by decide +kernel
theorem dX8_valueOf_0 : decode cX8_valueOf 0 = .ok (.iconst 0, 1) := by decide +kernel
theorem dX8_valueOf_1 : decode cX8_valueOf 1 = .ok (.istore_n 3, 1) := by decide +kernel
theorem dX8_valueOf_2 : decode cX8_valueOf 2 = .ok (.iload_n 1, 1) := by decide +kernel
theorem dX8_valueOf_3 : decode cX8_valueOf 3 = .ok (.istore 4, 2) := by decide +kernel
theorem dX8_valueOf_5 : decode cX8_valueOf 5 = .ok (.iload 4, 2) := by decide +kernel
theorem dX8_valueOf_7 : decode cX8_valueOf 7 = .ok (.iload_n 2, 1) := by decide +kernel
theorem dX8_valueOf_8 : decode cX8_valueOf 8 = .ok (.if_icmp .ge 116, 3) := by decide +kernel
theorem dX8_valueOf_11 : decode cX8_valueOf 11 = .ok (.aload_n 0, 1) := by decide +kernel
theorem dX8_valueOf_12 : decode cX8_valueOf 12 = .ok (.getfield 44, 3) := by decide +kernel
theorem dX8_valueOf_15 : decode cX8_valueOf 15 = .ok (.iload 4, 2) := by decide +kernel
theorem dX8_valueOf_17 : decode cX8_valueOf 17 = .ok (.iaload, 1) := by decide +kernel
theorem dX8_valueOf_18 : decode cX8_valueOf 18 = .ok (.istore 5, 2) := by decide +kernel
theorem dX8_valueOf_20 : decode cX8_valueOf 20 = .ok (.iload 5, 2) := by decide +kernel
theorem dX8_valueOf_22 : decode cX8_valueOf 22 = .ok (.bipush 6, 2) := by decide +kernel
theorem dX8_valueOf_24 : decode cX8_valueOf 24 = .ok (.if_icmp .gt 36, 3) := by decide +kernel
theorem dX8_valueOf_27 : decode cX8_valueOf 27 = .ok (.aload_n 0, 1) := by decide +kernel
theorem dX8_valueOf_28 : decode cX8_valueOf 28 = .ok (.getfield 53, 3) := by decide +kernel
theorem dX8_valueOf_31 : decode cX8_valueOf 31 = .ok (.iload_n 3, 1) := by decide +kernel
theorem dX8_valueOf_32 : decode cX8_valueOf 32 = .ok (.iload 5, 2) := by decide +kernel
theorem dX8_valueOf_34 : decode cX8_valueOf 34 = .ok (.ifCond .ne 13, 3) := by decide +kernel
theorem dX8_valueOf_37 : decode cX8_valueOf 37 = .ok (.aload_n 0, 1) := by decide +kernel
theorem dX8_valueOf_38 : decode cX8_valueOf 38 = .ok (.getfield 47, 3) := by decide +kernel
theorem dX8_valueOf_41 : decode cX8_valueOf 41 = .ok (.iload 4, 2) := by decide +kernel
theorem dX8_valueOf_43 : decode cX8_valueOf 43 = .ok (.iaload, 1) := by decide +kernel
theorem dX8_valueOf_44 : decode cX8_valueOf 44 = .ok (.goto 9, 3) := by decide +kernel
theorem dX8_valueOf_47 : decode cX8_valueOf 47 = .ok (.aload_n 0, 1) := by decide +kernel
theorem dX8_valueOf_48 : decode cX8_valueOf 48 = .ok (.iload 5, 2) := by decide +kernel
theorem dX8_valueOf_50 : decode cX8_valueOf 50 = .ok (.invokevirtual 258, 3) := by decide +kernel
theorem dX8_valueOf_53 : decode cX8_valueOf 53 = .ok (.iastore, 1) := by decide +kernel
theorem dX8_valueOf_54 : decode cX8_valueOf 54 = .ok (.iinc 3 1, 3) := by decide +kernel
theorem dX8_valueOf_57 : decode cX8_valueOf 57 = .ok (.goto 61, 3) := by decide +kernel
theorem dX8_valueOf_60 : decode cX8_valueOf 60 = .ok (.iload 5, 2) := by decide +kernel
theorem dX8_valueOf_62 : decode cX8_valueOf 62 = .ok (.bipush 18, 2) := by decide +kernel
theorem dX8_valueOf_64 : decode cX8_valueOf 64 = .ok (.if_icmp .ne 24, 3) := by decide +kernel
theorem dX8_valueOf_67 : decode cX8_valueOf 67 = .ok (.aload_n 0, 1) := by decide +kernel
theorem dX8_valueOf_68 : decode cX8_valueOf 68 = .ok (.getfield 53, 3) := by decide +kernel
theorem dX8_valueOf_71 : decode cX8_valueOf 71 = .ok (.iload_n 3, 1) := by decide +kernel
theorem dX8_valueOf_72 : decode cX8_valueOf 72 = .ok (.iconst 1, 1) := by decide +kernel
theorem dX8_valueOf_73 : decode cX8_valueOf 73 = .ok (.isub, 1) := by decide +kernel
theorem dX8_valueOf_74 : decode cX8_valueOf 74 = .ok (.iconst 1, 1) := by decide +kernel
theorem dX8_valueOf_75 : decode cX8_valueOf 75 = .ok (.aload_n 0, 1) := by decide +kernel
theorem dX8_valueOf_76 : decode cX8_valueOf 76 = .ok (.getfield 53, 3) := by decide +kernel
theorem dX8_valueOf_79 : decode cX8_valueOf 79 = .ok (.iload_n 3, 1) := by decide +kernel
theorem dX8_valueOf_80 : decode cX8_valueOf 80 = .ok (.iconst 1, 1) := by decide +kernel
theorem dX8_valueOf_81 : decode cX8_valueOf 81 = .ok (.isub, 1) := by decide +kernel
theorem dX8_valueOf_82 : decode cX8_valueOf 82 = .ok (.iaload, 1) := by decide +kernel
theorem dX8_valueOf_83 : decode cX8_valueOf 83 = .ok (.isub, 1) := by decide +kernel
theorem dX8_valueOf_84 : decode cX8_valueOf 84 = .ok (.iastore, 1) := by decide +kernel
theorem dX8_valueOf_85 : decode cX8_valueOf 85 = .ok (.goto 33, 3) := by decide +kernel
theorem dX8_valueOf_88 : decode cX8_valueOf 88 = .ok (.iinc 3 (-1), 3) := by decide +kernel
theorem dX8_valueOf_91 : decode cX8_valueOf 91 = .ok (.aload_n 0, 1) := by decide +kernel
theorem dX8_valueOf_92 : decode cX8_valueOf 92 = .ok (.getfield 53, 3) := by decide +kernel
theorem dX8_valueOf_95 : decode cX8_valueOf 95 = .ok (.iload_n 3, 1) := by decide +kernel
theorem dX8_valueOf_96 : decode cX8_valueOf 96 = .ok (.iconst 1, 1) := by decide +kernel
theorem dX8_valueOf_97 : decode cX8_valueOf 97 = .ok (.isub, 1) := by decide +kernel
theorem dX8_valueOf_98 : decode cX8_valueOf 98 = .ok (.iload 5, 2) := by decide +kernel
theorem dX8_valueOf_100 : decode cX8_valueOf 100 = .ok (.aload_n 0, 1) := by decide +kernel
theorem dX8_valueOf_101 : decode cX8_valueOf 101 = .ok (.getfield 53, 3) := by decide +kernel
theorem dX8_valueOf_104 : decode cX8_valueOf 104 = .ok (.iload_n 3, 1) := by decide +kernel
theorem dX8_valueOf_105 : decode cX8_valueOf 105 = .ok (.iconst 1, 1) := by decide +kernel
theorem dX8_valueOf_106 : decode cX8_valueOf 106 = .ok (.isub, 1) := by decide +kernel
theorem dX8_valueOf_107 : decode cX8_valueOf 107 = .ok (.iaload, 1) := by decide +kernel
theorem dX8_valueOf_108 : decode cX8_valueOf 108 = .ok (.aload_n 0, 1) := by decide +kernel
theorem dX8_valueOf_109 : decode cX8_valueOf 109 = .ok (.getfield 53, 3) := by decide +kernel
theorem dX8_valueOf_112 : decode cX8_valueOf 112 = .ok (.iload_n 3, 1) := by decide +kernel
theorem dX8_valueOf_113 : decode cX8_valueOf 113 = .ok (.iaload, 1) := by decide +kernel
theorem dX8_valueOf_114 : decode cX8_valueOf 114 = .ok (.invokestatic 261, 3) := by decide +kernel
theorem dX8_valueOf_117 : decode cX8_valueOf 117 = .ok (.iastore, 1) := by decide +kernel
theorem dX8_valueOf_118 : decode cX8_valueOf 118 = .ok (.iinc 4 1, 3) := by decide +kernel
theorem dX8_valueOf_121 : decode cX8_valueOf 121 = .ok (.goto (-116), 3) := by decide +kernel
theorem dX8_valueOf_124 : decode cX8_valueOf 124 = .ok (.aload_n 0, 1) := by decide +kernel
theorem dX8_valueOf_125 : decode cX8_valueOf 125 = .ok (.getfield 53, 3) := by decide +kernel
theorem dX8_valueOf_128 : decode cX8_valueOf 128 = .ok (.iconst 0, 1) := by decide +kernel
theorem dX8_valueOf_129 : decode cX8_valueOf 129 = .ok (.iaload, 1) := by decide +kernel
theorem dX8_valueOf_130 : decode cX8_valueOf 130 = .ok (.ireturn, 1) := by decide +kernel
theorem dX8_two_0 : decode cX8_two 0 = .ok (.iload_n 0, 1) := by decide +kernel
theorem dX8_two_1 : decode cX8_two 1 = .ok (.tableswitch 156 7 16 #[55, 59, 63, 67, 89, 100, 111, 122, 133, 144], 55) := by decide +kernel
theorem dX8_two_56 : decode cX8_two 56 = .ok (.iload_n 1, 1) := by decide +kernel
theorem dX8_two_57 : decode cX8_two 57 = .ok (.iload_n 2, 1) := by decide +kernel
theorem dX8_two_58 : decode cX8_two 58 = .ok (.iadd, 1) := by decide +kernel
theorem dX8_two_59 : decode cX8_two 59 = .ok (.ireturn, 1) := by decide +kernel
theorem dX8_two_60 : decode cX8_two 60 = .ok (.iload_n 1, 1) := by decide +kernel
theorem dX8_two_61 : decode cX8_two 61 = .ok (.iload_n 2, 1) := by decide +kernel
theorem dX8_two_62 : decode cX8_two 62 = .ok (.isub, 1) := by decide +kernel
theorem dX8_two_63 : decode cX8_two 63 = .ok (.ireturn, 1) := by decide +kernel
theorem dX8_two_64 : decode cX8_two 64 = .ok (.iload_n 1, 1) := by decide +kernel
theorem dX8_two_65 : decode cX8_two 65 = .ok (.iload_n 2, 1) := by decide +kernel
theorem dX8_two_66 : decode cX8_two 66 = .ok (.imul, 1) := by decide +kernel
theorem dX8_two_67 : decode cX8_two 67 = .ok (.ireturn, 1) := by decide +kernel
theorem dX8_two_68 : decode cX8_two 68 = .ok (.iload_n 2, 1) := by decide +kernel
theorem dX8_two_69 : decode cX8_two 69 = .ok (.ifCond .ne 7, 3) := by decide +kernel
theorem dX8_two_72 : decode cX8_two 72 = .ok (.iconst 0, 1) := by decide +kernel
theorem dX8_two_73 : decode cX8_two 73 = .ok (.goto 16, 3) := by decide +kernel
theorem dX8_two_76 : decode cX8_two 76 = .ok (.iload_n 2, 1) := by decide +kernel
theorem dX8_two_77 : decode cX8_two 77 = .ok (.iconst (-1), 1) := by decide +kernel
theorem dX8_two_78 : decode cX8_two 78 = .ok (.if_icmp .ne 8, 3) := by decide +kernel
theorem dX8_two_81 : decode cX8_two 81 = .ok (.iload_n 1, 1) := by decide +kernel
theorem dX8_two_82 : decode cX8_two 82 = .ok (.ineg, 1) := by decide +kernel
theorem dX8_two_83 : decode cX8_two 83 = .ok (.goto 6, 3) := by decide +kernel
theorem dX8_two_86 : decode cX8_two 86 = .ok (.iload_n 1, 1) := by decide +kernel
theorem dX8_two_87 : decode cX8_two 87 = .ok (.iload_n 2, 1) := by decide +kernel
theorem dX8_two_88 : decode cX8_two 88 = .ok (.idiv, 1) := by decide +kernel
theorem dX8_two_89 : decode cX8_two 89 = .ok (.ireturn, 1) := by decide +kernel
theorem dX8_two_90 : decode cX8_two 90 = .ok (.iload_n 1, 1) := by decide +kernel
theorem dX8_two_91 : decode cX8_two 91 = .ok (.iload_n 2, 1) := by decide +kernel
theorem dX8_two_92 : decode cX8_two 92 = .ok (.if_icmp .ge 7, 3) := by decide +kernel
theorem dX8_two_95 : decode cX8_two 95 = .ok (.iload_n 1, 1) := by decide +kernel
theorem dX8_two_96 : decode cX8_two 96 = .ok (.goto 4, 3) := by decide +kernel
theorem dX8_two_99 : decode cX8_two 99 = .ok (.iload_n 2, 1) := by decide +kernel
theorem dX8_two_100 : decode cX8_two 100 = .ok (.ireturn, 1) := by decide +kernel
theorem dX8_two_101 : decode cX8_two 101 = .ok (.iload_n 1, 1) := by decide +kernel
theorem dX8_two_102 : decode cX8_two 102 = .ok (.iload_n 2, 1) := by decide +kernel
theorem dX8_two_103 : decode cX8_two 103 = .ok (.if_icmp .le 7, 3) := by decide +kernel
theorem dX8_two_106 : decode cX8_two 106 = .ok (.iload_n 1, 1) := by decide +kernel
theorem dX8_two_107 : decode cX8_two 107 = .ok (.goto 4, 3) := by decide +kernel
theorem dX8_two_110 : decode cX8_two 110 = .ok (.iload_n 2, 1) := by decide +kernel
theorem dX8_two_111 : decode cX8_two 111 = .ok (.ireturn, 1) := by decide +kernel
theorem dX8_two_112 : decode cX8_two 112 = .ok (.iload_n 1, 1) := by decide +kernel
theorem dX8_two_113 : decode cX8_two 113 = .ok (.iload_n 2, 1) := by decide +kernel
theorem dX8_two_114 : decode cX8_two 114 = .ok (.if_icmp .ge 7, 3) := by decide +kernel
theorem dX8_two_117 : decode cX8_two 117 = .ok (.iconst 1, 1) := by decide +kernel
theorem dX8_two_118 : decode cX8_two 118 = .ok (.goto 4, 3) := by decide +kernel
theorem dX8_two_121 : decode cX8_two 121 = .ok (.iconst 0, 1) := by decide +kernel
theorem dX8_two_122 : decode cX8_two 122 = .ok (.ireturn, 1) := by decide +kernel
theorem dX8_two_123 : decode cX8_two 123 = .ok (.iload_n 1, 1) := by decide +kernel
theorem dX8_two_124 : decode cX8_two 124 = .ok (.iload_n 2, 1) := by decide +kernel
theorem dX8_two_125 : decode cX8_two 125 = .ok (.if_icmp .le 7, 3) := by decide +kernel
theorem dX8_two_128 : decode cX8_two 128 = .ok (.iconst 1, 1) := by decide +kernel
theorem dX8_two_129 : decode cX8_two 129 = .ok (.goto 4, 3) := by decide +kernel
theorem dX8_two_132 : decode cX8_two 132 = .ok (.iconst 0, 1) := by decide +kernel
theorem dX8_two_133 : decode cX8_two 133 = .ok (.ireturn, 1) := by decide +kernel
theorem dX8_two_134 : decode cX8_two 134 = .ok (.iload_n 1, 1) := by decide +kernel
theorem dX8_two_135 : decode cX8_two 135 = .ok (.iload_n 2, 1) := by decide +kernel
theorem dX8_two_136 : decode cX8_two 136 = .ok (.if_icmp .ne 7, 3) := by decide +kernel
theorem dX8_two_139 : decode cX8_two 139 = .ok (.iconst 1, 1) := by decide +kernel
theorem dX8_two_140 : decode cX8_two 140 = .ok (.goto 4, 3) := by decide +kernel
theorem dX8_two_143 : decode cX8_two 143 = .ok (.iconst 0, 1) := by decide +kernel
theorem dX8_two_144 : decode cX8_two 144 = .ok (.ireturn, 1) := by decide +kernel
theorem dX8_two_145 : decode cX8_two 145 = .ok (.iload_n 1, 1) := by decide +kernel
theorem dX8_two_146 : decode cX8_two 146 = .ok (.iload_n 2, 1) := by decide +kernel
theorem dX8_two_147 : decode cX8_two 147 = .ok (.iadd, 1) := by decide +kernel
theorem dX8_two_148 : decode cX8_two 148 = .ok (.ifCond .le 7, 3) := by decide +kernel
theorem dX8_two_151 : decode cX8_two 151 = .ok (.iconst 1, 1) := by decide +kernel
theorem dX8_two_152 : decode cX8_two 152 = .ok (.goto 4, 3) := by decide +kernel
theorem dX8_two_155 : decode cX8_two 155 = .ok (.iconst 0, 1) := by decide +kernel
theorem dX8_two_156 : decode cX8_two 156 = .ok (.ireturn, 1) := by decide +kernel
theorem dX8_two_157 : decode cX8_two 157 = .ok (.iload_n 1, 1) := by decide +kernel
theorem dX8_two_158 : decode cX8_two 158 = .ok (.iload_n 2, 1) := by decide +kernel
theorem dX8_two_159 : decode cX8_two 159 = .ok (.imul, 1) := by decide +kernel
theorem dX8_two_160 : decode cX8_two 160 = .ok (.ireturn, 1) := by decide +kernel
theorem dX8_bounded_0 : decode cX8_bounded 0 = .ok (.iload_n 0, 1) := by decide +kernel
theorem dX8_bounded_1 : decode cX8_bounded 1 = .ok (.ifCond .ge 7, 3) := by decide +kernel
theorem dX8_bounded_4 : decode cX8_bounded 4 = .ok (.iconst 0, 1) := by decide +kernel
theorem dX8_bounded_5 : decode cX8_bounded 5 = .ok (.goto 17, 3) := by decide +kernel
theorem dX8_bounded_8 : decode cX8_bounded 8 = .ok (.iload_n 0, 1) := by decide +kernel
theorem dX8_bounded_9 : decode cX8_bounded 9 = .ok (.sipush 999, 3) := by decide +kernel
theorem dX8_bounded_12 : decode cX8_bounded 12 = .ok (.if_icmp .le 9, 3) := by decide +kernel
theorem dX8_bounded_15 : decode cX8_bounded 15 = .ok (.sipush 999, 3) := by decide +kernel
theorem dX8_bounded_18 : decode cX8_bounded 18 = .ok (.goto 4, 3) := by decide +kernel
theorem dX8_bounded_21 : decode cX8_bounded 21 = .ok (.iload_n 0, 1) := by decide +kernel
theorem dX8_bounded_22 : decode cX8_bounded 22 = .ok (.ireturn, 1) := by decide +kernel
theorem dX8_told_0 : decode cX8_told 0 = .ok (.aload_n 0, 1) := by decide +kernel
theorem dX8_told_1 : decode cX8_told 1 = .ok (.iload_n 2, 1) := by decide +kernel
theorem dX8_told_2 : decode cX8_told 2 = .ok (.putfield 252, 3) := by decide +kernel
theorem dX8_told_5 : decode cX8_told 5 = .ok (.iconst (-1), 1) := by decide +kernel
theorem dX8_told_6 : decode cX8_told 6 = .ok (.istore_n 3, 1) := by decide +kernel
theorem dX8_told_7 : decode cX8_told 7 = .ok (.aload_n 0, 1) := by decide +kernel
theorem dX8_told_8 : decode cX8_told 8 = .ok (.getfield 20, 3) := by decide +kernel
theorem dX8_told_11 : decode cX8_told 11 = .ok (.iconst 5, 1) := by decide +kernel
theorem dX8_told_12 : decode cX8_told 12 = .ok (.iaload, 1) := by decide +kernel
theorem dX8_told_13 : decode cX8_told 13 = .ok (.istore 4, 2) := by decide +kernel
theorem dX8_told_15 : decode cX8_told 15 = .ok (.bipush 12, 2) := by decide +kernel
theorem dX8_told_17 : decode cX8_told 17 = .ok (.iload 4, 2) := by decide +kernel
theorem dX8_told_19 : decode cX8_told 19 = .ok (.imul, 1) := by decide +kernel
theorem dX8_told_20 : decode cX8_told 20 = .ok (.istore 5, 2) := by decide +kernel
theorem dX8_told_22 : decode cX8_told 22 = .ok (.iload 4, 2) := by decide +kernel
theorem dX8_told_24 : decode cX8_told 24 = .ok (.iconst (-1), 1) := by decide +kernel
theorem dX8_told_25 : decode cX8_told 25 = .ok (.if_icmp .eq 112, 3) := by decide +kernel
theorem dX8_told_28 : decode cX8_told 28 = .ok (.iload 5, 2) := by decide +kernel
theorem dX8_told_30 : decode cX8_told 30 = .ok (.bipush 12, 2) := by decide +kernel
theorem dX8_told_32 : decode cX8_told 32 = .ok (.iload 4, 2) := by decide +kernel
theorem dX8_told_34 : decode cX8_told 34 = .ok (.imul, 1) := by decide +kernel
theorem dX8_told_35 : decode cX8_told 35 = .ok (.aload_n 0, 1) := by decide +kernel
theorem dX8_told_36 : decode cX8_told 36 = .ok (.getfield 29, 3) := by decide +kernel
theorem dX8_told_39 : decode cX8_told 39 = .ok (.iload 4, 2) := by decide +kernel
theorem dX8_told_41 : decode cX8_told 41 = .ok (.iaload, 1) := by decide +kernel
theorem dX8_told_42 : decode cX8_told 42 = .ok (.iadd, 1) := by decide +kernel
theorem dX8_told_43 : decode cX8_told 43 = .ok (.if_icmp .ge 94, 3) := by decide +kernel
theorem dX8_told_46 : decode cX8_told 46 = .ok (.aload_n 0, 1) := by decide +kernel
theorem dX8_told_47 : decode cX8_told 47 = .ok (.getfield 32, 3) := by decide +kernel
theorem dX8_told_50 : decode cX8_told 50 = .ok (.iload 5, 2) := by decide +kernel
theorem dX8_told_52 : decode cX8_told 52 = .ok (.iaload, 1) := by decide +kernel
theorem dX8_told_53 : decode cX8_told 53 = .ok (.iload_n 1, 1) := by decide +kernel
theorem dX8_told_54 : decode cX8_told 54 = .ok (.if_icmp .ne 77, 3) := by decide +kernel
theorem dX8_told_57 : decode cX8_told 57 = .ok (.iload 5, 2) := by decide +kernel
theorem dX8_told_59 : decode cX8_told 59 = .ok (.bipush 12, 2) := by decide +kernel
theorem dX8_told_61 : decode cX8_told 61 = .ok (.iload 4, 2) := by decide +kernel
theorem dX8_told_63 : decode cX8_told 63 = .ok (.imul, 1) := by decide +kernel
theorem dX8_told_64 : decode cX8_told 64 = .ok (.isub, 1) := by decide +kernel
theorem dX8_told_65 : decode cX8_told 65 = .ok (.aload_n 0, 1) := by decide +kernel
theorem dX8_told_66 : decode cX8_told 66 = .ok (.getfield 50, 3) := by decide +kernel
theorem dX8_told_69 : decode cX8_told 69 = .ok (.if_icmp .ne 6, 3) := by decide +kernel
theorem dX8_told_72 : decode cX8_told 72 = .ok (.goto 59, 3) := by decide +kernel
theorem dX8_told_75 : decode cX8_told 75 = .ok (.aload_n 0, 1) := by decide +kernel
theorem dX8_told_76 : decode cX8_told 76 = .ok (.getfield 38, 3) := by decide +kernel
theorem dX8_told_79 : decode cX8_told 79 = .ok (.iload 5, 2) := by decide +kernel
theorem dX8_told_81 : decode cX8_told 81 = .ok (.iaload, 1) := by decide +kernel
theorem dX8_told_82 : decode cX8_told 82 = .ok (.aload_n 0, 1) := by decide +kernel
theorem dX8_told_83 : decode cX8_told 83 = .ok (.getfield 41, 3) := by decide +kernel
theorem dX8_told_86 : decode cX8_told 86 = .ok (.iload 5, 2) := by decide +kernel
theorem dX8_told_88 : decode cX8_told 88 = .ok (.iaload, 1) := by decide +kernel
theorem dX8_told_89 : decode cX8_told 89 = .ok (.if_icmp .eq 39, 3) := by decide +kernel
theorem dX8_told_92 : decode cX8_told 92 = .ok (.aload_n 0, 1) := by decide +kernel
theorem dX8_told_93 : decode cX8_told 93 = .ok (.sipush 300, 3) := by decide +kernel
theorem dX8_told_96 : decode cX8_told 96 = .ok (.iload 4, 2) := by decide +kernel
theorem dX8_told_98 : decode cX8_told 98 = .ok (.imul, 1) := by decide +kernel
theorem dX8_told_99 : decode cX8_told 99 = .ok (.aload_n 0, 1) := by decide +kernel
theorem dX8_told_100 : decode cX8_told 100 = .ok (.getfield 38, 3) := by decide +kernel
theorem dX8_told_103 : decode cX8_told 103 = .ok (.iload 5, 2) := by decide +kernel
theorem dX8_told_105 : decode cX8_told 105 = .ok (.iaload, 1) := by decide +kernel
theorem dX8_told_106 : decode cX8_told 106 = .ok (.iadd, 1) := by decide +kernel
theorem dX8_told_107 : decode cX8_told 107 = .ok (.sipush 300, 3) := by decide +kernel
theorem dX8_told_110 : decode cX8_told 110 = .ok (.iload 4, 2) := by decide +kernel
theorem dX8_told_112 : decode cX8_told 112 = .ok (.imul, 1) := by decide +kernel
theorem dX8_told_113 : decode cX8_told 113 = .ok (.aload_n 0, 1) := by decide +kernel
theorem dX8_told_114 : decode cX8_told 114 = .ok (.getfield 41, 3) := by decide +kernel
theorem dX8_told_117 : decode cX8_told 117 = .ok (.iload 5, 2) := by decide +kernel
theorem dX8_told_119 : decode cX8_told 119 = .ok (.iaload, 1) := by decide +kernel
theorem dX8_told_120 : decode cX8_told 120 = .ok (.iadd, 1) := by decide +kernel
theorem dX8_told_121 : decode cX8_told 121 = .ok (.invokevirtual 265, 3) := by decide +kernel
theorem dX8_told_124 : decode cX8_told 124 = .ok (.iconst 1, 1) := by decide +kernel
theorem dX8_told_125 : decode cX8_told 125 = .ok (.if_icmp .ne 6, 3) := by decide +kernel
theorem dX8_told_128 : decode cX8_told 128 = .ok (.iload 5, 2) := by decide +kernel
theorem dX8_told_130 : decode cX8_told 130 = .ok (.istore_n 3, 1) := by decide +kernel
theorem dX8_told_131 : decode cX8_told 131 = .ok (.iinc 5 1, 3) := by decide +kernel
theorem dX8_told_134 : decode cX8_told 134 = .ok (.goto (-112), 3) := by decide +kernel
theorem dX8_told_137 : decode cX8_told 137 = .ok (.iload_n 3, 1) := by decide +kernel
theorem dX8_told_138 : decode cX8_told 138 = .ok (.iconst (-1), 1) := by decide +kernel
theorem dX8_told_139 : decode cX8_told 139 = .ok (.if_icmp .ne 25, 3) := by decide +kernel
theorem dX8_told_142 : decode cX8_told 142 = .ok (.iload_n 1, 1) := by decide +kernel
theorem dX8_told_143 : decode cX8_told 143 = .ok (.iconst 2, 1) := by decide +kernel
theorem dX8_told_144 : decode cX8_told 144 = .ok (.if_icmp .ne 7, 3) := by decide +kernel
theorem dX8_told_147 : decode cX8_told 147 = .ok (.iconst 2, 1) := by decide +kernel
theorem dX8_told_148 : decode cX8_told 148 = .ok (.goto 15, 3) := by decide +kernel
theorem dX8_told_151 : decode cX8_told 151 = .ok (.iload_n 1, 1) := by decide +kernel
theorem dX8_told_152 : decode cX8_told 152 = .ok (.iconst 3, 1) := by decide +kernel
theorem dX8_told_153 : decode cX8_told 153 = .ok (.if_icmp .ne 8, 3) := by decide +kernel
theorem dX8_told_156 : decode cX8_told 156 = .ok (.bipush 100, 2) := by decide +kernel
theorem dX8_told_158 : decode cX8_told 158 = .ok (.goto 5, 3) := by decide +kernel
theorem dX8_told_161 : decode cX8_told 161 = .ok (.bipush 10, 2) := by decide +kernel
theorem dX8_told_163 : decode cX8_told 163 = .ok (.ireturn, 1) := by decide +kernel
theorem dX8_told_164 : decode cX8_told 164 = .ok (.aload_n 0, 1) := by decide +kernel
theorem dX8_told_165 : decode cX8_told 165 = .ok (.sipush 300, 3) := by decide +kernel
theorem dX8_told_168 : decode cX8_told 168 = .ok (.iload 4, 2) := by decide +kernel
theorem dX8_told_170 : decode cX8_told 170 = .ok (.imul, 1) := by decide +kernel
theorem dX8_told_171 : decode cX8_told 171 = .ok (.aload_n 0, 1) := by decide +kernel
theorem dX8_told_172 : decode cX8_told 172 = .ok (.getfield 35, 3) := by decide +kernel
theorem dX8_told_175 : decode cX8_told 175 = .ok (.iload_n 3, 1) := by decide +kernel
theorem dX8_told_176 : decode cX8_told 176 = .ok (.iaload, 1) := by decide +kernel
theorem dX8_told_177 : decode cX8_told 177 = .ok (.iadd, 1) := by decide +kernel
theorem dX8_told_178 : decode cX8_told 178 = .ok (.sipush 300, 3) := by decide +kernel
theorem dX8_told_181 : decode cX8_told 181 = .ok (.iload 4, 2) := by decide +kernel
theorem dX8_told_183 : decode cX8_told 183 = .ok (.imul, 1) := by decide +kernel
theorem dX8_told_184 : decode cX8_told 184 = .ok (.aload_n 0, 1) := by decide +kernel
theorem dX8_told_185 : decode cX8_told 185 = .ok (.getfield 38, 3) := by decide +kernel
theorem dX8_told_188 : decode cX8_told 188 = .ok (.iload_n 3, 1) := by decide +kernel
theorem dX8_told_189 : decode cX8_told 189 = .ok (.iaload, 1) := by decide +kernel
theorem dX8_told_190 : decode cX8_told 190 = .ok (.iadd, 1) := by decide +kernel
theorem dX8_told_191 : decode cX8_told 191 = .ok (.invokevirtual 265, 3) := by decide +kernel
theorem dX8_told_194 : decode cX8_told 194 = .ok (.invokestatic 269, 3) := by decide +kernel
theorem dX8_told_197 : decode cX8_told 197 = .ok (.ireturn, 1) := by decide +kernel
theorem dX8_asks_0 : decode cX8_asks 0 = .ok (.iload_n 1, 1) := by decide +kernel
theorem dX8_asks_1 : decode cX8_asks 1 = .ok (.invokestatic 121, 3) := by decide +kernel
theorem dX8_asks_4 : decode cX8_asks 4 = .ok (.istore 4, 2) := by decide +kernel
theorem dX8_asks_6 : decode cX8_asks 6 = .ok (.aload_n 0, 1) := by decide +kernel
theorem dX8_asks_7 : decode cX8_asks 7 = .ok (.aload_n 0, 1) := by decide +kernel
theorem dX8_asks_8 : decode cX8_asks 8 = .ok (.getfield 20, 3) := by decide +kernel
theorem dX8_asks_11 : decode cX8_asks 11 = .ok (.iconst 2, 1) := by decide +kernel
theorem dX8_asks_12 : decode cX8_asks 12 = .ok (.iaload, 1) := by decide +kernel
theorem dX8_asks_13 : decode cX8_asks 13 = .ok (.aload_n 0, 1) := by decide +kernel
theorem dX8_asks_14 : decode cX8_asks 14 = .ok (.getfield 20, 3) := by decide +kernel
theorem dX8_asks_17 : decode cX8_asks 17 = .ok (.iload 4, 2) := by decide +kernel
theorem dX8_asks_19 : decode cX8_asks 19 = .ok (.iconst 2, 1) := by decide +kernel
theorem dX8_asks_20 : decode cX8_asks 20 = .ok (.iadd, 1) := by decide +kernel
theorem dX8_asks_21 : decode cX8_asks 21 = .ok (.iaload, 1) := by decide +kernel
theorem dX8_asks_22 : decode cX8_asks 22 = .ok (.isub, 1) := by decide +kernel
theorem dX8_asks_23 : decode cX8_asks 23 = .ok (.putfield 243, 3) := by decide +kernel
theorem dX8_asks_26 : decode cX8_asks 26 = .ok (.aload_n 0, 1) := by decide +kernel
theorem dX8_asks_27 : decode cX8_asks 27 = .ok (.aload_n 0, 1) := by decide +kernel
theorem dX8_asks_28 : decode cX8_asks 28 = .ok (.getfield 243, 3) := by decide +kernel
theorem dX8_asks_31 : decode cX8_asks 31 = .ok (.aload_n 0, 1) := by decide +kernel
theorem dX8_asks_32 : decode cX8_asks 32 = .ok (.getfield 20, 3) := by decide +kernel
theorem dX8_asks_35 : decode cX8_asks 35 = .ok (.iload 4, 2) := by decide +kernel
theorem dX8_asks_37 : decode cX8_asks 37 = .ok (.iconst 1, 1) := by decide +kernel
theorem dX8_asks_38 : decode cX8_asks 38 = .ok (.iadd, 1) := by decide +kernel
theorem dX8_asks_39 : decode cX8_asks 39 = .ok (.iaload, 1) := by decide +kernel
theorem dX8_asks_40 : decode cX8_asks 40 = .ok (.iadd, 1) := by decide +kernel
theorem dX8_asks_41 : decode cX8_asks 41 = .ok (.putfield 240, 3) := by decide +kernel
theorem dX8_asks_44 : decode cX8_asks 44 = .ok (.aload_n 0, 1) := by decide +kernel
theorem dX8_asks_45 : decode cX8_asks 45 = .ok (.iload_n 2, 1) := by decide +kernel
theorem dX8_asks_46 : decode cX8_asks 46 = .ok (.putfield 246, 3) := by decide +kernel
theorem dX8_asks_49 : decode cX8_asks 49 = .ok (.aload_n 0, 1) := by decide +kernel
theorem dX8_asks_50 : decode cX8_asks 50 = .ok (.iload_n 3, 1) := by decide +kernel
theorem dX8_asks_51 : decode cX8_asks 51 = .ok (.putfield 249, 3) := by decide +kernel
theorem dX8_asks_54 : decode cX8_asks 54 = .ok (.aload_n 0, 1) := by decide +kernel
theorem dX8_asks_55 : decode cX8_asks 55 = .ok (.aload_n 0, 1) := by decide +kernel
theorem dX8_asks_56 : decode cX8_asks 56 = .ok (.getfield 20, 3) := by decide +kernel
theorem dX8_asks_59 : decode cX8_asks 59 = .ok (.iload 4, 2) := by decide +kernel
theorem dX8_asks_61 : decode cX8_asks 61 = .ok (.iconst 5, 1) := by decide +kernel
theorem dX8_asks_62 : decode cX8_asks 62 = .ok (.iadd, 1) := by decide +kernel
theorem dX8_asks_63 : decode cX8_asks 63 = .ok (.iaload, 1) := by decide +kernel
theorem dX8_asks_64 : decode cX8_asks 64 = .ok (.putfield 255, 3) := by decide +kernel
theorem dX8_asks_67 : decode cX8_asks 67 = .ok (.return_, 1) := by decide +kernel
theorem dX8_holdsNow_0 : decode cX8_holdsNow 0 = .ok (.aload_n 0, 1) := by decide +kernel
theorem dX8_holdsNow_1 : decode cX8_holdsNow 1 = .ok (.iload_n 1, 1) := by decide +kernel
theorem dX8_holdsNow_2 : decode cX8_holdsNow 2 = .ok (.iconst 0, 1) := by decide +kernel
theorem dX8_holdsNow_3 : decode cX8_holdsNow 3 = .ok (.iconst 0, 1) := by decide +kernel
theorem dX8_holdsNow_4 : decode cX8_holdsNow 4 = .ok (.invokevirtual 272, 3) := by decide +kernel
theorem dX8_holdsNow_7 : decode cX8_holdsNow 7 = .ok (.aload_n 0, 1) := by decide +kernel
theorem dX8_holdsNow_8 : decode cX8_holdsNow 8 = .ok (.getfield 20, 3) := by decide +kernel
theorem dX8_holdsNow_11 : decode cX8_holdsNow 11 = .ok (.iload_n 1, 1) := by decide +kernel
theorem dX8_holdsNow_12 : decode cX8_holdsNow 12 = .ok (.invokestatic 121, 3) := by decide +kernel
theorem dX8_holdsNow_15 : decode cX8_holdsNow 15 = .ok (.sipush 136, 3) := by decide +kernel
theorem dX8_holdsNow_18 : decode cX8_holdsNow 18 = .ok (.iadd, 1) := by decide +kernel
theorem dX8_holdsNow_19 : decode cX8_holdsNow 19 = .ok (.iload_n 2, 1) := by decide +kernel
theorem dX8_holdsNow_20 : decode cX8_holdsNow 20 = .ok (.iadd, 1) := by decide +kernel
theorem dX8_holdsNow_21 : decode cX8_holdsNow 21 = .ok (.iaload, 1) := by decide +kernel
theorem dX8_holdsNow_22 : decode cX8_holdsNow 22 = .ok (.istore_n 3, 1) := by decide +kernel
theorem dX8_holdsNow_23 : decode cX8_holdsNow 23 = .ok (.iload_n 3, 1) := by decide +kernel
theorem dX8_holdsNow_24 : decode cX8_holdsNow 24 = .ok (.aload_n 0, 1) := by decide +kernel
theorem dX8_holdsNow_25 : decode cX8_holdsNow 25 = .ok (.iconst 3, 1) := by decide +kernel
theorem dX8_holdsNow_26 : decode cX8_holdsNow 26 = .ok (.iload_n 3, 1) := by decide +kernel
theorem dX8_holdsNow_27 : decode cX8_holdsNow 27 = .ok (.invokevirtual 276, 3) := by decide +kernel
theorem dX8_holdsNow_30 : decode cX8_holdsNow 30 = .ok (.if_icmp .lt 7, 3) := by decide +kernel
theorem dX8_holdsNow_33 : decode cX8_holdsNow 33 = .ok (.iconst 1, 1) := by decide +kernel
theorem dX8_holdsNow_34 : decode cX8_holdsNow 34 = .ok (.goto 4, 3) := by decide +kernel
theorem dX8_holdsNow_37 : decode cX8_holdsNow 37 = .ok (.iconst 0, 1) := by decide +kernel
theorem dX8_holdsNow_38 : decode cX8_holdsNow 38 = .ok (.ireturn, 1) := by decide +kernel
theorem dX8_concept_0 : decode cX8_concept 0 = .ok (.iload_n 0, 1) := by decide +kernel
theorem dX8_concept_1 : decode cX8_concept 1 = .ok (.iconst 1, 1) := by decide +kernel
theorem dX8_concept_2 : decode cX8_concept 2 = .ok (.if_icmp .ne 9, 3) := by decide +kernel
theorem dX8_concept_5 : decode cX8_concept 5 = .ok (.iconst 4, 1) := by decide +kernel
theorem dX8_concept_6 : decode cX8_concept 6 = .ok (.iload_n 1, 1) := by decide +kernel
theorem dX8_concept_7 : decode cX8_concept 7 = .ok (.iadd, 1) := by decide +kernel
theorem dX8_concept_8 : decode cX8_concept 8 = .ok (.goto 4, 3) := by decide +kernel
theorem dX8_concept_11 : decode cX8_concept 11 = .ok (.iload_n 1, 1) := by decide +kernel
theorem dX8_concept_12 : decode cX8_concept 12 = .ok (.ireturn, 1) := by decide +kernel
theorem dX8_orderOf_0 : decode cX8_orderOf 0 = .ok (.iload_n 1, 1) := by decide +kernel
theorem dX8_orderOf_1 : decode cX8_orderOf 1 = .ok (.invokestatic 121, 3) := by decide +kernel
theorem dX8_orderOf_4 : decode cX8_orderOf 4 = .ok (.sipush 136, 3) := by decide +kernel
theorem dX8_orderOf_7 : decode cX8_orderOf 7 = .ok (.iadd, 1) := by decide +kernel
theorem dX8_orderOf_8 : decode cX8_orderOf 8 = .ok (.istore_n 2, 1) := by decide +kernel
theorem dX8_orderOf_9 : decode cX8_orderOf 9 = .ok (.iconst 0, 1) := by decide +kernel
theorem dX8_orderOf_10 : decode cX8_orderOf 10 = .ok (.istore_n 3, 1) := by decide +kernel
theorem dX8_orderOf_11 : decode cX8_orderOf 11 = .ok (.iconst 1, 1) := by decide +kernel
theorem dX8_orderOf_12 : decode cX8_orderOf 12 = .ok (.istore 4, 2) := by decide +kernel
theorem dX8_orderOf_14 : decode cX8_orderOf 14 = .ok (.iload 4, 2) := by decide +kernel
theorem dX8_orderOf_16 : decode cX8_orderOf 16 = .ok (.bipush 6, 2) := by decide +kernel
theorem dX8_orderOf_18 : decode cX8_orderOf 18 = .ok (.if_icmp .ge 32, 3) := by decide +kernel
theorem dX8_orderOf_21 : decode cX8_orderOf 21 = .ok (.aload_n 0, 1) := by decide +kernel
theorem dX8_orderOf_22 : decode cX8_orderOf 22 = .ok (.getfield 20, 3) := by decide +kernel
theorem dX8_orderOf_25 : decode cX8_orderOf 25 = .ok (.iload_n 2, 1) := by decide +kernel
theorem dX8_orderOf_26 : decode cX8_orderOf 26 = .ok (.iload 4, 2) := by decide +kernel
theorem dX8_orderOf_28 : decode cX8_orderOf 28 = .ok (.iadd, 1) := by decide +kernel
theorem dX8_orderOf_29 : decode cX8_orderOf 29 = .ok (.iaload, 1) := by decide +kernel
theorem dX8_orderOf_30 : decode cX8_orderOf 30 = .ok (.aload_n 0, 1) := by decide +kernel
theorem dX8_orderOf_31 : decode cX8_orderOf 31 = .ok (.getfield 20, 3) := by decide +kernel
theorem dX8_orderOf_34 : decode cX8_orderOf 34 = .ok (.iload_n 2, 1) := by decide +kernel
theorem dX8_orderOf_35 : decode cX8_orderOf 35 = .ok (.iload_n 3, 1) := by decide +kernel
theorem dX8_orderOf_36 : decode cX8_orderOf 36 = .ok (.iadd, 1) := by decide +kernel
theorem dX8_orderOf_37 : decode cX8_orderOf 37 = .ok (.iaload, 1) := by decide +kernel
theorem dX8_orderOf_38 : decode cX8_orderOf 38 = .ok (.if_icmp .le 6, 3) := by decide +kernel
theorem dX8_orderOf_41 : decode cX8_orderOf 41 = .ok (.iload 4, 2) := by decide +kernel
theorem dX8_orderOf_43 : decode cX8_orderOf 43 = .ok (.istore_n 3, 1) := by decide +kernel
theorem dX8_orderOf_44 : decode cX8_orderOf 44 = .ok (.iinc 4 1, 3) := by decide +kernel
theorem dX8_orderOf_47 : decode cX8_orderOf 47 = .ok (.goto (-33), 3) := by decide +kernel
theorem dX8_orderOf_50 : decode cX8_orderOf 50 = .ok (.aload_n 0, 1) := by decide +kernel
theorem dX8_orderOf_51 : decode cX8_orderOf 51 = .ok (.getfield 20, 3) := by decide +kernel
theorem dX8_orderOf_54 : decode cX8_orderOf 54 = .ok (.iload_n 2, 1) := by decide +kernel
theorem dX8_orderOf_55 : decode cX8_orderOf 55 = .ok (.iload_n 3, 1) := by decide +kernel
theorem dX8_orderOf_56 : decode cX8_orderOf 56 = .ok (.iadd, 1) := by decide +kernel
theorem dX8_orderOf_57 : decode cX8_orderOf 57 = .ok (.iaload, 1) := by decide +kernel
theorem dX8_orderOf_58 : decode cX8_orderOf 58 = .ok (.ifCond .ne 13, 3) := by decide +kernel
theorem dX8_orderOf_61 : decode cX8_orderOf 61 = .ok (.aload_n 0, 1) := by decide +kernel
theorem dX8_orderOf_62 : decode cX8_orderOf 62 = .ok (.iconst 1, 1) := by decide +kernel
theorem dX8_orderOf_63 : decode cX8_orderOf 63 = .ok (.bipush 6, 2) := by decide +kernel
theorem dX8_orderOf_65 : decode cX8_orderOf 65 = .ok (.invokevirtual 279, 3) := by decide +kernel
theorem dX8_orderOf_68 : decode cX8_orderOf 68 = .ok (.goto 4, 3) := by decide +kernel
theorem dX8_orderOf_71 : decode cX8_orderOf 71 = .ok (.iload_n 3, 1) := by decide +kernel
theorem dX8_orderOf_72 : decode cX8_orderOf 72 = .ok (.ireturn, 1) := by decide +kernel
theorem dX8_signOf_0 : decode cX8_signOf 0 = .ok (.iload_n 1, 1) := by decide +kernel
theorem dX8_signOf_1 : decode cX8_signOf 1 = .ok (.invokestatic 121, 3) := by decide +kernel
theorem dX8_signOf_4 : decode cX8_signOf 4 = .ok (.bipush 8, 2) := by decide +kernel
theorem dX8_signOf_6 : decode cX8_signOf 6 = .ok (.iadd, 1) := by decide +kernel
theorem dX8_signOf_7 : decode cX8_signOf 7 = .ok (.bipush 16, 2) := by decide +kernel
theorem dX8_signOf_9 : decode cX8_signOf 9 = .ok (.iload_n 2, 1) := by decide +kernel
theorem dX8_signOf_10 : decode cX8_signOf 10 = .ok (.imul, 1) := by decide +kernel
theorem dX8_signOf_11 : decode cX8_signOf 11 = .ok (.iadd, 1) := by decide +kernel
theorem dX8_signOf_12 : decode cX8_signOf 12 = .ok (.istore_n 3, 1) := by decide +kernel
theorem dX8_signOf_13 : decode cX8_signOf 13 = .ok (.iconst 0, 1) := by decide +kernel
theorem dX8_signOf_14 : decode cX8_signOf 14 = .ok (.istore 4, 2) := by decide +kernel
theorem dX8_signOf_16 : decode cX8_signOf 16 = .ok (.iconst 1, 1) := by decide +kernel
theorem dX8_signOf_17 : decode cX8_signOf 17 = .ok (.istore 5, 2) := by decide +kernel
theorem dX8_signOf_19 : decode cX8_signOf 19 = .ok (.iload 5, 2) := by decide +kernel
theorem dX8_signOf_21 : decode cX8_signOf 21 = .ok (.bipush 16, 2) := by decide +kernel
theorem dX8_signOf_23 : decode cX8_signOf 23 = .ok (.if_icmp .ge 34, 3) := by decide +kernel
theorem dX8_signOf_26 : decode cX8_signOf 26 = .ok (.aload_n 0, 1) := by decide +kernel
theorem dX8_signOf_27 : decode cX8_signOf 27 = .ok (.getfield 20, 3) := by decide +kernel
theorem dX8_signOf_30 : decode cX8_signOf 30 = .ok (.iload_n 3, 1) := by decide +kernel
theorem dX8_signOf_31 : decode cX8_signOf 31 = .ok (.iload 5, 2) := by decide +kernel
theorem dX8_signOf_33 : decode cX8_signOf 33 = .ok (.iadd, 1) := by decide +kernel
theorem dX8_signOf_34 : decode cX8_signOf 34 = .ok (.iaload, 1) := by decide +kernel
theorem dX8_signOf_35 : decode cX8_signOf 35 = .ok (.aload_n 0, 1) := by decide +kernel
theorem dX8_signOf_36 : decode cX8_signOf 36 = .ok (.getfield 20, 3) := by decide +kernel
theorem dX8_signOf_39 : decode cX8_signOf 39 = .ok (.iload_n 3, 1) := by decide +kernel
theorem dX8_signOf_40 : decode cX8_signOf 40 = .ok (.iload 4, 2) := by decide +kernel
theorem dX8_signOf_42 : decode cX8_signOf 42 = .ok (.iadd, 1) := by decide +kernel
theorem dX8_signOf_43 : decode cX8_signOf 43 = .ok (.iaload, 1) := by decide +kernel
theorem dX8_signOf_44 : decode cX8_signOf 44 = .ok (.if_icmp .le 7, 3) := by decide +kernel
theorem dX8_signOf_47 : decode cX8_signOf 47 = .ok (.iload 5, 2) := by decide +kernel
theorem dX8_signOf_49 : decode cX8_signOf 49 = .ok (.istore 4, 2) := by decide +kernel
theorem dX8_signOf_51 : decode cX8_signOf 51 = .ok (.iinc 5 1, 3) := by decide +kernel
theorem dX8_signOf_54 : decode cX8_signOf 54 = .ok (.goto (-35), 3) := by decide +kernel
theorem dX8_signOf_57 : decode cX8_signOf 57 = .ok (.aload_n 0, 1) := by decide +kernel
theorem dX8_signOf_58 : decode cX8_signOf 58 = .ok (.getfield 20, 3) := by decide +kernel
theorem dX8_signOf_61 : decode cX8_signOf 61 = .ok (.iload_n 3, 1) := by decide +kernel
theorem dX8_signOf_62 : decode cX8_signOf 62 = .ok (.iload 4, 2) := by decide +kernel
theorem dX8_signOf_64 : decode cX8_signOf 64 = .ok (.iadd, 1) := by decide +kernel
theorem dX8_signOf_65 : decode cX8_signOf 65 = .ok (.iaload, 1) := by decide +kernel
theorem dX8_signOf_66 : decode cX8_signOf 66 = .ok (.ifCond .ne 13, 3) := by decide +kernel
theorem dX8_signOf_69 : decode cX8_signOf 69 = .ok (.aload_n 0, 1) := by decide +kernel
theorem dX8_signOf_70 : decode cX8_signOf 70 = .ok (.iconst 1, 1) := by decide +kernel
theorem dX8_signOf_71 : decode cX8_signOf 71 = .ok (.bipush 16, 2) := by decide +kernel
theorem dX8_signOf_73 : decode cX8_signOf 73 = .ok (.invokevirtual 279, 3) := by decide +kernel
theorem dX8_signOf_76 : decode cX8_signOf 76 = .ok (.goto 5, 3) := by decide +kernel
theorem dX8_signOf_79 : decode cX8_signOf 79 = .ok (.iload 4, 2) := by decide +kernel
theorem dX8_signOf_81 : decode cX8_signOf 81 = .ok (.ireturn, 1) := by decide +kernel
theorem dX8_isWorn_0 : decode cX8_isWorn 0 = .ok (.aload_n 0, 1) := by decide +kernel
theorem dX8_isWorn_1 : decode cX8_isWorn 1 = .ok (.getfield 20, 3) := by decide +kernel
theorem dX8_isWorn_4 : decode cX8_isWorn 4 = .ok (.bipush 8, 2) := by decide +kernel
theorem dX8_isWorn_6 : decode cX8_isWorn 6 = .ok (.bipush 16, 2) := by decide +kernel
theorem dX8_isWorn_8 : decode cX8_isWorn 8 = .ok (.iload_n 1, 1) := by decide +kernel
theorem dX8_isWorn_9 : decode cX8_isWorn 9 = .ok (.imul, 1) := by decide +kernel
theorem dX8_isWorn_10 : decode cX8_isWorn 10 = .ok (.iadd, 1) := by decide +kernel
theorem dX8_isWorn_11 : decode cX8_isWorn 11 = .ok (.iload_n 2, 1) := by decide +kernel
theorem dX8_isWorn_12 : decode cX8_isWorn 12 = .ok (.iadd, 1) := by decide +kernel
theorem dX8_isWorn_13 : decode cX8_isWorn 13 = .ok (.iaload, 1) := by decide +kernel
theorem dX8_isWorn_14 : decode cX8_isWorn 14 = .ok (.aload_n 0, 1) := by decide +kernel
theorem dX8_isWorn_15 : decode cX8_isWorn 15 = .ok (.getfield 20, 3) := by decide +kernel
theorem dX8_isWorn_18 : decode cX8_isWorn 18 = .ok (.iconst 3, 1) := by decide +kernel
theorem dX8_isWorn_19 : decode cX8_isWorn 19 = .ok (.iaload, 1) := by decide +kernel
theorem dX8_isWorn_20 : decode cX8_isWorn 20 = .ok (.if_icmp .lt 7, 3) := by decide +kernel
theorem dX8_isWorn_23 : decode cX8_isWorn 23 = .ok (.iconst 1, 1) := by decide +kernel
theorem dX8_isWorn_24 : decode cX8_isWorn 24 = .ok (.goto 4, 3) := by decide +kernel
theorem dX8_isWorn_27 : decode cX8_isWorn 27 = .ok (.iconst 0, 1) := by decide +kernel
theorem dX8_isWorn_28 : decode cX8_isWorn 28 = .ok (.ireturn, 1) := by decide +kernel
theorem dX8_seenAs_0 : decode cX8_seenAs 0 = .ok (.aload_n 0, 1) := by decide +kernel
theorem dX8_seenAs_1 : decode cX8_seenAs 1 = .ok (.iload_n 1, 1) := by decide +kernel
theorem dX8_seenAs_2 : decode cX8_seenAs 2 = .ok (.iload_n 2, 1) := by decide +kernel
theorem dX8_seenAs_3 : decode cX8_seenAs 3 = .ok (.invokevirtual 282, 3) := by decide +kernel
theorem dX8_seenAs_6 : decode cX8_seenAs 6 = .ok (.ifCond .eq 21, 3) := by decide +kernel
theorem dX8_seenAs_9 : decode cX8_seenAs 9 = .ok (.aload_n 0, 1) := by decide +kernel
theorem dX8_seenAs_10 : decode cX8_seenAs 10 = .ok (.iload_n 1, 1) := by decide +kernel
theorem dX8_seenAs_11 : decode cX8_seenAs 11 = .ok (.iload_n 2, 1) := by decide +kernel
theorem dX8_seenAs_12 : decode cX8_seenAs 12 = .ok (.iconst 1, 1) := by decide +kernel
theorem dX8_seenAs_13 : decode cX8_seenAs 13 = .ok (.ixor, 1) := by decide +kernel
theorem dX8_seenAs_14 : decode cX8_seenAs 14 = .ok (.invokevirtual 282, 3) := by decide +kernel
theorem dX8_seenAs_17 : decode cX8_seenAs 17 = .ok (.ifCond .eq 10, 3) := by decide +kernel
theorem dX8_seenAs_20 : decode cX8_seenAs 20 = .ok (.iload_n 2, 1) := by decide +kernel
theorem dX8_seenAs_21 : decode cX8_seenAs 21 = .ok (.bipush (-2), 2) := by decide +kernel
theorem dX8_seenAs_23 : decode cX8_seenAs 23 = .ok (.iand, 1) := by decide +kernel
theorem dX8_seenAs_24 : decode cX8_seenAs 24 = .ok (.goto 4, 3) := by decide +kernel
theorem dX8_seenAs_27 : decode cX8_seenAs 27 = .ok (.iload_n 2, 1) := by decide +kernel
theorem dX8_seenAs_28 : decode cX8_seenAs 28 = .ok (.ireturn, 1) := by decide +kernel
theorem dX8_weightSeen_0 : decode cX8_weightSeen 0 = .ok (.iload_n 1, 1) := by decide +kernel
theorem dX8_weightSeen_1 : decode cX8_weightSeen 1 = .ok (.invokestatic 121, 3) := by decide +kernel
theorem dX8_weightSeen_4 : decode cX8_weightSeen 4 = .ok (.bipush 8, 2) := by decide +kernel
theorem dX8_weightSeen_6 : decode cX8_weightSeen 6 = .ok (.iadd, 1) := by decide +kernel
theorem dX8_weightSeen_7 : decode cX8_weightSeen 7 = .ok (.bipush 16, 2) := by decide +kernel
theorem dX8_weightSeen_9 : decode cX8_weightSeen 9 = .ok (.iload_n 2, 1) := by decide +kernel
theorem dX8_weightSeen_10 : decode cX8_weightSeen 10 = .ok (.imul, 1) := by decide +kernel
theorem dX8_weightSeen_11 : decode cX8_weightSeen 11 = .ok (.iadd, 1) := by decide +kernel
theorem dX8_weightSeen_12 : decode cX8_weightSeen 12 = .ok (.istore 5, 2) := by decide +kernel
theorem dX8_weightSeen_14 : decode cX8_weightSeen 14 = .ok (.aload_n 0, 1) := by decide +kernel
theorem dX8_weightSeen_15 : decode cX8_weightSeen 15 = .ok (.iload_n 3, 1) := by decide +kernel
theorem dX8_weightSeen_16 : decode cX8_weightSeen 16 = .ok (.iload 4, 2) := by decide +kernel
theorem dX8_weightSeen_18 : decode cX8_weightSeen 18 = .ok (.invokevirtual 282, 3) := by decide +kernel
theorem dX8_weightSeen_21 : decode cX8_weightSeen 21 = .ok (.ifCond .eq 19, 3) := by decide +kernel
theorem dX8_weightSeen_24 : decode cX8_weightSeen 24 = .ok (.aload_n 0, 1) := by decide +kernel
theorem dX8_weightSeen_25 : decode cX8_weightSeen 25 = .ok (.iload_n 3, 1) := by decide +kernel
theorem dX8_weightSeen_26 : decode cX8_weightSeen 26 = .ok (.iload 4, 2) := by decide +kernel
theorem dX8_weightSeen_28 : decode cX8_weightSeen 28 = .ok (.iconst 1, 1) := by decide +kernel
theorem dX8_weightSeen_29 : decode cX8_weightSeen 29 = .ok (.ixor, 1) := by decide +kernel
theorem dX8_weightSeen_30 : decode cX8_weightSeen 30 = .ok (.invokevirtual 282, 3) := by decide +kernel
theorem dX8_weightSeen_33 : decode cX8_weightSeen 33 = .ok (.ifCond .eq 7, 3) := by decide +kernel
theorem dX8_weightSeen_36 : decode cX8_weightSeen 36 = .ok (.iconst 1, 1) := by decide +kernel
theorem dX8_weightSeen_37 : decode cX8_weightSeen 37 = .ok (.goto 4, 3) := by decide +kernel
theorem dX8_weightSeen_40 : decode cX8_weightSeen 40 = .ok (.iconst 0, 1) := by decide +kernel
theorem dX8_weightSeen_41 : decode cX8_weightSeen 41 = .ok (.istore 6, 2) := by decide +kernel
theorem dX8_weightSeen_43 : decode cX8_weightSeen 43 = .ok (.iload 6, 2) := by decide +kernel
theorem dX8_weightSeen_45 : decode cX8_weightSeen 45 = .ok (.ifCond .eq 29, 3) := by decide +kernel
theorem dX8_weightSeen_48 : decode cX8_weightSeen 48 = .ok (.aload_n 0, 1) := by decide +kernel
theorem dX8_weightSeen_49 : decode cX8_weightSeen 49 = .ok (.getfield 20, 3) := by decide +kernel
theorem dX8_weightSeen_52 : decode cX8_weightSeen 52 = .ok (.iload 5, 2) := by decide +kernel
theorem dX8_weightSeen_54 : decode cX8_weightSeen 54 = .ok (.iload 4, 2) := by decide +kernel
theorem dX8_weightSeen_56 : decode cX8_weightSeen 56 = .ok (.iadd, 1) := by decide +kernel
theorem dX8_weightSeen_57 : decode cX8_weightSeen 57 = .ok (.iaload, 1) := by decide +kernel
theorem dX8_weightSeen_58 : decode cX8_weightSeen 58 = .ok (.aload_n 0, 1) := by decide +kernel
theorem dX8_weightSeen_59 : decode cX8_weightSeen 59 = .ok (.getfield 20, 3) := by decide +kernel
theorem dX8_weightSeen_62 : decode cX8_weightSeen 62 = .ok (.iload 5, 2) := by decide +kernel
theorem dX8_weightSeen_64 : decode cX8_weightSeen 64 = .ok (.iload 4, 2) := by decide +kernel
theorem dX8_weightSeen_66 : decode cX8_weightSeen 66 = .ok (.iconst 1, 1) := by decide +kernel
theorem dX8_weightSeen_67 : decode cX8_weightSeen 67 = .ok (.ixor, 1) := by decide +kernel
theorem dX8_weightSeen_68 : decode cX8_weightSeen 68 = .ok (.iadd, 1) := by decide +kernel
theorem dX8_weightSeen_69 : decode cX8_weightSeen 69 = .ok (.iaload, 1) := by decide +kernel
theorem dX8_weightSeen_70 : decode cX8_weightSeen 70 = .ok (.iadd, 1) := by decide +kernel
theorem dX8_weightSeen_71 : decode cX8_weightSeen 71 = .ok (.goto 13, 3) := by decide +kernel
theorem dX8_weightSeen_74 : decode cX8_weightSeen 74 = .ok (.aload_n 0, 1) := by decide +kernel
theorem dX8_weightSeen_75 : decode cX8_weightSeen 75 = .ok (.getfield 20, 3) := by decide +kernel
theorem dX8_weightSeen_78 : decode cX8_weightSeen 78 = .ok (.iload 5, 2) := by decide +kernel
theorem dX8_weightSeen_80 : decode cX8_weightSeen 80 = .ok (.iload 4, 2) := by decide +kernel
theorem dX8_weightSeen_82 : decode cX8_weightSeen 82 = .ok (.iadd, 1) := by decide +kernel
theorem dX8_weightSeen_83 : decode cX8_weightSeen 83 = .ok (.iaload, 1) := by decide +kernel
theorem dX8_weightSeen_84 : decode cX8_weightSeen 84 = .ok (.ireturn, 1) := by decide +kernel
theorem dX8_saysIt_0 : decode cX8_saysIt 0 = .ok (.aload_n 0, 1) := by decide +kernel
theorem dX8_saysIt_1 : decode cX8_saysIt 1 = .ok (.getfield 20, 3) := by decide +kernel
theorem dX8_saysIt_4 : decode cX8_saysIt 4 = .ok (.iload_n 1, 1) := by decide +kernel
theorem dX8_saysIt_5 : decode cX8_saysIt 5 = .ok (.invokestatic 121, 3) := by decide +kernel
theorem dX8_saysIt_8 : decode cX8_saysIt 8 = .ok (.iconst 0, 1) := by decide +kernel
theorem dX8_saysIt_9 : decode cX8_saysIt 9 = .ok (.iadd, 1) := by decide +kernel
theorem dX8_saysIt_10 : decode cX8_saysIt 10 = .ok (.iaload, 1) := by decide +kernel
theorem dX8_saysIt_11 : decode cX8_saysIt 11 = .ok (.istore_n 3, 1) := by decide +kernel
theorem dX8_saysIt_12 : decode cX8_saysIt 12 = .ok (.aload_n 0, 1) := by decide +kernel
theorem dX8_saysIt_13 : decode cX8_saysIt 13 = .ok (.aload_n 0, 1) := by decide +kernel
theorem dX8_saysIt_14 : decode cX8_saysIt 14 = .ok (.iload_n 1, 1) := by decide +kernel
theorem dX8_saysIt_15 : decode cX8_saysIt 15 = .ok (.invokevirtual 285, 3) := by decide +kernel
theorem dX8_saysIt_18 : decode cX8_saysIt 18 = .ok (.putfield 288, 3) := by decide +kernel
theorem dX8_saysIt_21 : decode cX8_saysIt 21 = .ok (.iconst 0, 1) := by decide +kernel
theorem dX8_saysIt_22 : decode cX8_saysIt 22 = .ok (.istore 4, 2) := by decide +kernel
theorem dX8_saysIt_24 : decode cX8_saysIt 24 = .ok (.iload 4, 2) := by decide +kernel
theorem dX8_saysIt_26 : decode cX8_saysIt 26 = .ok (.iconst 3, 1) := by decide +kernel
theorem dX8_saysIt_27 : decode cX8_saysIt 27 = .ok (.if_icmp .ge 48, 3) := by decide +kernel
theorem dX8_saysIt_30 : decode cX8_saysIt 30 = .ok (.getstatic 291, 3) := by decide +kernel
theorem dX8_saysIt_33 : decode cX8_saysIt 33 = .ok (.iconst 3, 1) := by decide +kernel
theorem dX8_saysIt_34 : decode cX8_saysIt 34 = .ok (.aload_n 0, 1) := by decide +kernel
theorem dX8_saysIt_35 : decode cX8_saysIt 35 = .ok (.getfield 288, 3) := by decide +kernel
theorem dX8_saysIt_38 : decode cX8_saysIt 38 = .ok (.imul, 1) := by decide +kernel
theorem dX8_saysIt_39 : decode cX8_saysIt 39 = .ok (.iload 4, 2) := by decide +kernel
theorem dX8_saysIt_41 : decode cX8_saysIt 41 = .ok (.iadd, 1) := by decide +kernel
theorem dX8_saysIt_42 : decode cX8_saysIt 42 = .ok (.iaload, 1) := by decide +kernel
theorem dX8_saysIt_43 : decode cX8_saysIt 43 = .ok (.istore 5, 2) := by decide +kernel
theorem dX8_saysIt_45 : decode cX8_saysIt 45 = .ok (.aload_n 0, 1) := by decide +kernel
theorem dX8_saysIt_46 : decode cX8_saysIt 46 = .ok (.getfield 59, 3) := by decide +kernel
theorem dX8_saysIt_49 : decode cX8_saysIt 49 = .ok (.iload 4, 2) := by decide +kernel
theorem dX8_saysIt_51 : decode cX8_saysIt 51 = .ok (.aload_n 0, 1) := by decide +kernel
theorem dX8_saysIt_52 : decode cX8_saysIt 52 = .ok (.iload_n 1, 1) := by decide +kernel
theorem dX8_saysIt_53 : decode cX8_saysIt 53 = .ok (.iload 5, 2) := by decide +kernel
theorem dX8_saysIt_55 : decode cX8_saysIt 55 = .ok (.aload_n 0, 1) := by decide +kernel
theorem dX8_saysIt_56 : decode cX8_saysIt 56 = .ok (.getfield 56, 3) := by decide +kernel
theorem dX8_saysIt_59 : decode cX8_saysIt 59 = .ok (.iload 5, 2) := by decide +kernel
theorem dX8_saysIt_61 : decode cX8_saysIt 61 = .ok (.iaload, 1) := by decide +kernel
theorem dX8_saysIt_62 : decode cX8_saysIt 62 = .ok (.invokestatic 294, 3) := by decide +kernel
theorem dX8_saysIt_65 : decode cX8_saysIt 65 = .ok (.invokevirtual 297, 3) := by decide +kernel
theorem dX8_saysIt_68 : decode cX8_saysIt 68 = .ok (.iastore, 1) := by decide +kernel
theorem dX8_saysIt_69 : decode cX8_saysIt 69 = .ok (.iinc 4 1, 3) := by decide +kernel
theorem dX8_saysIt_72 : decode cX8_saysIt 72 = .ok (.goto (-48), 3) := by decide +kernel
theorem dX8_saysIt_75 : decode cX8_saysIt 75 = .ok (.iconst 0, 1) := by decide +kernel
theorem dX8_saysIt_76 : decode cX8_saysIt 76 = .ok (.istore 4, 2) := by decide +kernel
theorem dX8_saysIt_78 : decode cX8_saysIt 78 = .ok (.iload 4, 2) := by decide +kernel
theorem dX8_saysIt_80 : decode cX8_saysIt 80 = .ok (.iconst 3, 1) := by decide +kernel
theorem dX8_saysIt_81 : decode cX8_saysIt 81 = .ok (.if_icmp .ge 33, 3) := by decide +kernel
theorem dX8_saysIt_84 : decode cX8_saysIt 84 = .ok (.aload_n 0, 1) := by decide +kernel
theorem dX8_saysIt_85 : decode cX8_saysIt 85 = .ok (.getfield 20, 3) := by decide +kernel
theorem dX8_saysIt_88 : decode cX8_saysIt 88 = .ok (.bipush 8, 2) := by decide +kernel
theorem dX8_saysIt_90 : decode cX8_saysIt 90 = .ok (.bipush 16, 2) := by decide +kernel
theorem dX8_saysIt_92 : decode cX8_saysIt 92 = .ok (.iload_n 3, 1) := by decide +kernel
theorem dX8_saysIt_93 : decode cX8_saysIt 93 = .ok (.imul, 1) := by decide +kernel
theorem dX8_saysIt_94 : decode cX8_saysIt 94 = .ok (.iadd, 1) := by decide +kernel
theorem dX8_saysIt_95 : decode cX8_saysIt 95 = .ok (.aload_n 0, 1) := by decide +kernel
theorem dX8_saysIt_96 : decode cX8_saysIt 96 = .ok (.getfield 59, 3) := by decide +kernel
theorem dX8_saysIt_99 : decode cX8_saysIt 99 = .ok (.iload 4, 2) := by decide +kernel
theorem dX8_saysIt_101 : decode cX8_saysIt 101 = .ok (.iaload, 1) := by decide +kernel
theorem dX8_saysIt_102 : decode cX8_saysIt 102 = .ok (.iadd, 1) := by decide +kernel
theorem dX8_saysIt_103 : decode cX8_saysIt 103 = .ok (.dup2, 1) := by decide +kernel
theorem dX8_saysIt_104 : decode cX8_saysIt 104 = .ok (.iaload, 1) := by decide +kernel
theorem dX8_saysIt_105 : decode cX8_saysIt 105 = .ok (.iconst 1, 1) := by decide +kernel
theorem dX8_saysIt_106 : decode cX8_saysIt 106 = .ok (.iadd, 1) := by decide +kernel
theorem dX8_saysIt_107 : decode cX8_saysIt 107 = .ok (.iastore, 1) := by decide +kernel
theorem dX8_saysIt_108 : decode cX8_saysIt 108 = .ok (.iinc 4 1, 3) := by decide +kernel
theorem dX8_saysIt_111 : decode cX8_saysIt 111 = .ok (.goto (-33), 3) := by decide +kernel
theorem dX8_saysIt_114 : decode cX8_saysIt 114 = .ok (.aload_n 0, 1) := by decide +kernel
theorem dX8_saysIt_115 : decode cX8_saysIt 115 = .ok (.aload_n 0, 1) := by decide +kernel
theorem dX8_saysIt_116 : decode cX8_saysIt 116 = .ok (.iload_n 2, 1) := by decide +kernel
theorem dX8_saysIt_117 : decode cX8_saysIt 117 = .ok (.invokevirtual 285, 3) := by decide +kernel
theorem dX8_saysIt_120 : decode cX8_saysIt 120 = .ok (.putfield 300, 3) := by decide +kernel
theorem dX8_saysIt_123 : decode cX8_saysIt 123 = .ok (.iconst 0, 1) := by decide +kernel
theorem dX8_saysIt_124 : decode cX8_saysIt 124 = .ok (.istore 4, 2) := by decide +kernel
theorem dX8_saysIt_126 : decode cX8_saysIt 126 = .ok (.iload 4, 2) := by decide +kernel
theorem dX8_saysIt_128 : decode cX8_saysIt 128 = .ok (.iconst 3, 1) := by decide +kernel
theorem dX8_saysIt_129 : decode cX8_saysIt 129 = .ok (.if_icmp .ge 98, 3) := by decide +kernel
theorem dX8_saysIt_132 : decode cX8_saysIt 132 = .ok (.getstatic 291, 3) := by decide +kernel
theorem dX8_saysIt_135 : decode cX8_saysIt 135 = .ok (.iconst 3, 1) := by decide +kernel
theorem dX8_saysIt_136 : decode cX8_saysIt 136 = .ok (.aload_n 0, 1) := by decide +kernel
theorem dX8_saysIt_137 : decode cX8_saysIt 137 = .ok (.getfield 300, 3) := by decide +kernel
theorem dX8_saysIt_140 : decode cX8_saysIt 140 = .ok (.imul, 1) := by decide +kernel
theorem dX8_saysIt_141 : decode cX8_saysIt 141 = .ok (.iload 4, 2) := by decide +kernel
theorem dX8_saysIt_143 : decode cX8_saysIt 143 = .ok (.iadd, 1) := by decide +kernel
theorem dX8_saysIt_144 : decode cX8_saysIt 144 = .ok (.iaload, 1) := by decide +kernel
theorem dX8_saysIt_145 : decode cX8_saysIt 145 = .ok (.istore 5, 2) := by decide +kernel
theorem dX8_saysIt_147 : decode cX8_saysIt 147 = .ok (.iconst 0, 1) := by decide +kernel
theorem dX8_saysIt_148 : decode cX8_saysIt 148 = .ok (.istore 6, 2) := by decide +kernel
theorem dX8_saysIt_150 : decode cX8_saysIt 150 = .ok (.iconst 1, 1) := by decide +kernel
theorem dX8_saysIt_151 : decode cX8_saysIt 151 = .ok (.istore 7, 2) := by decide +kernel
theorem dX8_saysIt_153 : decode cX8_saysIt 153 = .ok (.iload 7, 2) := by decide +kernel
theorem dX8_saysIt_155 : decode cX8_saysIt 155 = .ok (.iconst 4, 1) := by decide +kernel
theorem dX8_saysIt_156 : decode cX8_saysIt 156 = .ok (.if_icmp .ge 56, 3) := by decide +kernel
theorem dX8_saysIt_159 : decode cX8_saysIt 159 = .ok (.aload_n 0, 1) := by decide +kernel
theorem dX8_saysIt_160 : decode cX8_saysIt 160 = .ok (.iload_n 2, 1) := by decide +kernel
theorem dX8_saysIt_161 : decode cX8_saysIt 161 = .ok (.iload 5, 2) := by decide +kernel
theorem dX8_saysIt_163 : decode cX8_saysIt 163 = .ok (.iload 7, 2) := by decide +kernel
theorem dX8_saysIt_165 : decode cX8_saysIt 165 = .ok (.invokestatic 294, 3) := by decide +kernel
theorem dX8_saysIt_168 : decode cX8_saysIt 168 = .ok (.iload_n 3, 1) := by decide +kernel
theorem dX8_saysIt_169 : decode cX8_saysIt 169 = .ok (.aload_n 0, 1) := by decide +kernel
theorem dX8_saysIt_170 : decode cX8_saysIt 170 = .ok (.getfield 59, 3) := by decide +kernel
theorem dX8_saysIt_173 : decode cX8_saysIt 173 = .ok (.iload 4, 2) := by decide +kernel
theorem dX8_saysIt_175 : decode cX8_saysIt 175 = .ok (.iaload, 1) := by decide +kernel
theorem dX8_saysIt_176 : decode cX8_saysIt 176 = .ok (.invokevirtual 303, 3) := by decide +kernel
theorem dX8_saysIt_179 : decode cX8_saysIt 179 = .ok (.aload_n 0, 1) := by decide +kernel
theorem dX8_saysIt_180 : decode cX8_saysIt 180 = .ok (.iload_n 2, 1) := by decide +kernel
theorem dX8_saysIt_181 : decode cX8_saysIt 181 = .ok (.iload 5, 2) := by decide +kernel
theorem dX8_saysIt_183 : decode cX8_saysIt 183 = .ok (.iload 6, 2) := by decide +kernel
theorem dX8_saysIt_185 : decode cX8_saysIt 185 = .ok (.invokestatic 294, 3) := by decide +kernel
theorem dX8_saysIt_188 : decode cX8_saysIt 188 = .ok (.iload_n 3, 1) := by decide +kernel
theorem dX8_saysIt_189 : decode cX8_saysIt 189 = .ok (.aload_n 0, 1) := by decide +kernel
theorem dX8_saysIt_190 : decode cX8_saysIt 190 = .ok (.getfield 59, 3) := by decide +kernel
theorem dX8_saysIt_193 : decode cX8_saysIt 193 = .ok (.iload 4, 2) := by decide +kernel
theorem dX8_saysIt_195 : decode cX8_saysIt 195 = .ok (.iaload, 1) := by decide +kernel
theorem dX8_saysIt_196 : decode cX8_saysIt 196 = .ok (.invokevirtual 303, 3) := by decide +kernel
theorem dX8_saysIt_199 : decode cX8_saysIt 199 = .ok (.if_icmp .le 7, 3) := by decide +kernel
theorem dX8_saysIt_202 : decode cX8_saysIt 202 = .ok (.iload 7, 2) := by decide +kernel
theorem dX8_saysIt_204 : decode cX8_saysIt 204 = .ok (.istore 6, 2) := by decide +kernel
theorem dX8_saysIt_206 : decode cX8_saysIt 206 = .ok (.iinc 7 1, 3) := by decide +kernel
theorem dX8_saysIt_209 : decode cX8_saysIt 209 = .ok (.goto (-56), 3) := by decide +kernel
theorem dX8_saysIt_212 : decode cX8_saysIt 212 = .ok (.aload_n 0, 1) := by decide +kernel
theorem dX8_saysIt_213 : decode cX8_saysIt 213 = .ok (.getfield 62, 3) := by decide +kernel
theorem dX8_saysIt_216 : decode cX8_saysIt 216 = .ok (.iload 5, 2) := by decide +kernel
theorem dX8_saysIt_218 : decode cX8_saysIt 218 = .ok (.iload 6, 2) := by decide +kernel
theorem dX8_saysIt_220 : decode cX8_saysIt 220 = .ok (.iastore, 1) := by decide +kernel
theorem dX8_saysIt_221 : decode cX8_saysIt 221 = .ok (.iinc 4 1, 3) := by decide +kernel
theorem dX8_saysIt_224 : decode cX8_saysIt 224 = .ok (.goto (-98), 3) := by decide +kernel
theorem dX8_saysIt_227 : decode cX8_saysIt 227 = .ok (.aload_n 0, 1) := by decide +kernel
theorem dX8_saysIt_228 : decode cX8_saysIt 228 = .ok (.aload_n 0, 1) := by decide +kernel
theorem dX8_saysIt_229 : decode cX8_saysIt 229 = .ok (.getfield 62, 3) := by decide +kernel
theorem dX8_saysIt_232 : decode cX8_saysIt 232 = .ok (.iconst 0, 1) := by decide +kernel
theorem dX8_saysIt_233 : decode cX8_saysIt 233 = .ok (.iaload, 1) := by decide +kernel
theorem dX8_saysIt_234 : decode cX8_saysIt 234 = .ok (.aload_n 0, 1) := by decide +kernel
theorem dX8_saysIt_235 : decode cX8_saysIt 235 = .ok (.getfield 56, 3) := by decide +kernel
theorem dX8_saysIt_238 : decode cX8_saysIt 238 = .ok (.iconst 0, 1) := by decide +kernel
theorem dX8_saysIt_239 : decode cX8_saysIt 239 = .ok (.iaload, 1) := by decide +kernel
theorem dX8_saysIt_240 : decode cX8_saysIt 240 = .ok (.if_icmp .ne 37, 3) := by decide +kernel
theorem dX8_saysIt_243 : decode cX8_saysIt 243 = .ok (.aload_n 0, 1) := by decide +kernel
theorem dX8_saysIt_244 : decode cX8_saysIt 244 = .ok (.getfield 62, 3) := by decide +kernel
theorem dX8_saysIt_247 : decode cX8_saysIt 247 = .ok (.iconst 1, 1) := by decide +kernel
theorem dX8_saysIt_248 : decode cX8_saysIt 248 = .ok (.iaload, 1) := by decide +kernel
theorem dX8_saysIt_249 : decode cX8_saysIt 249 = .ok (.aload_n 0, 1) := by decide +kernel
theorem dX8_saysIt_250 : decode cX8_saysIt 250 = .ok (.getfield 56, 3) := by decide +kernel
theorem dX8_saysIt_253 : decode cX8_saysIt 253 = .ok (.iconst 1, 1) := by decide +kernel
theorem dX8_saysIt_254 : decode cX8_saysIt 254 = .ok (.iaload, 1) := by decide +kernel
theorem dX8_saysIt_255 : decode cX8_saysIt 255 = .ok (.if_icmp .ne 22, 3) := by decide +kernel
theorem dX8_saysIt_258 : decode cX8_saysIt 258 = .ok (.aload_n 0, 1) := by decide +kernel
theorem dX8_saysIt_259 : decode cX8_saysIt 259 = .ok (.getfield 62, 3) := by decide +kernel
theorem dX8_saysIt_262 : decode cX8_saysIt 262 = .ok (.iconst 2, 1) := by decide +kernel
theorem dX8_saysIt_263 : decode cX8_saysIt 263 = .ok (.iaload, 1) := by decide +kernel
theorem dX8_saysIt_264 : decode cX8_saysIt 264 = .ok (.aload_n 0, 1) := by decide +kernel
theorem dX8_saysIt_265 : decode cX8_saysIt 265 = .ok (.getfield 56, 3) := by decide +kernel
theorem dX8_saysIt_268 : decode cX8_saysIt 268 = .ok (.iconst 2, 1) := by decide +kernel
theorem dX8_saysIt_269 : decode cX8_saysIt 269 = .ok (.iaload, 1) := by decide +kernel
theorem dX8_saysIt_270 : decode cX8_saysIt 270 = .ok (.if_icmp .ne 7, 3) := by decide +kernel
theorem dX8_saysIt_273 : decode cX8_saysIt 273 = .ok (.iconst 1, 1) := by decide +kernel
theorem dX8_saysIt_274 : decode cX8_saysIt 274 = .ok (.goto 4, 3) := by decide +kernel
theorem dX8_saysIt_277 : decode cX8_saysIt 277 = .ok (.iconst 0, 1) := by decide +kernel
theorem dX8_saysIt_278 : decode cX8_saysIt 278 = .ok (.putfield 307, 3) := by decide +kernel
theorem dX8_saysIt_281 : decode cX8_saysIt 281 = .ok (.return_, 1) := by decide +kernel
theorem dX8_learns_0 : decode cX8_learns 0 = .ok (.iload_n 1, 1) := by decide +kernel
theorem dX8_learns_1 : decode cX8_learns 1 = .ok (.invokestatic 121, 3) := by decide +kernel
theorem dX8_learns_4 : decode cX8_learns 4 = .ok (.istore_n 3, 1) := by decide +kernel
theorem dX8_learns_5 : decode cX8_learns 5 = .ok (.aload_n 0, 1) := by decide +kernel
theorem dX8_learns_6 : decode cX8_learns 6 = .ok (.iload_n 1, 1) := by decide +kernel
theorem dX8_learns_7 : decode cX8_learns 7 = .ok (.aload_n 0, 1) := by decide +kernel
theorem dX8_learns_8 : decode cX8_learns 8 = .ok (.getfield 307, 3) := by decide +kernel
theorem dX8_learns_11 : decode cX8_learns 11 = .ok (.ifCond .eq 7, 3) := by decide +kernel
theorem dX8_learns_14 : decode cX8_learns 14 = .ok (.iconst 1, 1) := by decide +kernel
theorem dX8_learns_15 : decode cX8_learns 15 = .ok (.goto 4, 3) := by decide +kernel
theorem dX8_learns_18 : decode cX8_learns 18 = .ok (.iconst 0, 1) := by decide +kernel
theorem dX8_learns_19 : decode cX8_learns 19 = .ok (.aload_n 0, 1) := by decide +kernel
theorem dX8_learns_20 : decode cX8_learns 20 = .ok (.getfield 311, 3) := by decide +kernel
theorem dX8_learns_23 : decode cX8_learns 23 = .ok (.ifCond .eq 7, 3) := by decide +kernel
theorem dX8_learns_26 : decode cX8_learns 26 = .ok (.iconst 1, 1) := by decide +kernel
theorem dX8_learns_27 : decode cX8_learns 27 = .ok (.goto 4, 3) := by decide +kernel
theorem dX8_learns_30 : decode cX8_learns 30 = .ok (.iconst 0, 1) := by decide +kernel
theorem dX8_learns_31 : decode cX8_learns 31 = .ok (.invokevirtual 272, 3) := by decide +kernel
theorem dX8_learns_34 : decode cX8_learns 34 = .ok (.aload_n 0, 1) := by decide +kernel
theorem dX8_learns_35 : decode cX8_learns 35 = .ok (.getfield 311, 3) := by decide +kernel
theorem dX8_learns_38 : decode cX8_learns 38 = .ok (.ifCond .eq 10, 3) := by decide +kernel
theorem dX8_learns_41 : decode cX8_learns 41 = .ok (.aload_n 0, 1) := by decide +kernel
theorem dX8_learns_42 : decode cX8_learns 42 = .ok (.getfield 288, 3) := by decide +kernel
theorem dX8_learns_45 : decode cX8_learns 45 = .ok (.goto 7, 3) := by decide +kernel
theorem dX8_learns_48 : decode cX8_learns 48 = .ok (.aload_n 0, 1) := by decide +kernel
theorem dX8_learns_49 : decode cX8_learns 49 = .ok (.getfield 300, 3) := by decide +kernel
theorem dX8_learns_52 : decode cX8_learns 52 = .ok (.istore 4, 2) := by decide +kernel
theorem dX8_learns_54 : decode cX8_learns 54 = .ok (.iconst 0, 1) := by decide +kernel
theorem dX8_learns_55 : decode cX8_learns 55 = .ok (.istore 5, 2) := by decide +kernel
theorem dX8_learns_57 : decode cX8_learns 57 = .ok (.iload 5, 2) := by decide +kernel
theorem dX8_learns_59 : decode cX8_learns 59 = .ok (.iconst 3, 1) := by decide +kernel
theorem dX8_learns_60 : decode cX8_learns 60 = .ok (.if_icmp .ge 176, 3) := by decide +kernel
theorem dX8_learns_63 : decode cX8_learns 63 = .ok (.getstatic 291, 3) := by decide +kernel
theorem dX8_learns_66 : decode cX8_learns 66 = .ok (.iconst 3, 1) := by decide +kernel
theorem dX8_learns_67 : decode cX8_learns 67 = .ok (.iload 4, 2) := by decide +kernel
theorem dX8_learns_69 : decode cX8_learns 69 = .ok (.imul, 1) := by decide +kernel
theorem dX8_learns_70 : decode cX8_learns 70 = .ok (.iload 5, 2) := by decide +kernel
theorem dX8_learns_72 : decode cX8_learns 72 = .ok (.iadd, 1) := by decide +kernel
theorem dX8_learns_73 : decode cX8_learns 73 = .ok (.iaload, 1) := by decide +kernel
theorem dX8_learns_74 : decode cX8_learns 74 = .ok (.istore 6, 2) := by decide +kernel
theorem dX8_learns_76 : decode cX8_learns 76 = .ok (.iload_n 3, 1) := by decide +kernel
theorem dX8_learns_77 : decode cX8_learns 77 = .ok (.bipush 8, 2) := by decide +kernel
theorem dX8_learns_79 : decode cX8_learns 79 = .ok (.iadd, 1) := by decide +kernel
theorem dX8_learns_80 : decode cX8_learns 80 = .ok (.bipush 16, 2) := by decide +kernel
theorem dX8_learns_82 : decode cX8_learns 82 = .ok (.iload 6, 2) := by decide +kernel
theorem dX8_learns_84 : decode cX8_learns 84 = .ok (.aload_n 0, 1) := by decide +kernel
theorem dX8_learns_85 : decode cX8_learns 85 = .ok (.getfield 311, 3) := by decide +kernel
theorem dX8_learns_88 : decode cX8_learns 88 = .ok (.ifCond .eq 13, 3) := by decide +kernel
theorem dX8_learns_91 : decode cX8_learns 91 = .ok (.aload_n 0, 1) := by decide +kernel
theorem dX8_learns_92 : decode cX8_learns 92 = .ok (.getfield 56, 3) := by decide +kernel
theorem dX8_learns_95 : decode cX8_learns 95 = .ok (.iload 6, 2) := by decide +kernel
theorem dX8_learns_97 : decode cX8_learns 97 = .ok (.iaload, 1) := by decide +kernel
theorem dX8_learns_98 : decode cX8_learns 98 = .ok (.goto 10, 3) := by decide +kernel
theorem dX8_learns_101 : decode cX8_learns 101 = .ok (.aload_n 0, 1) := by decide +kernel
theorem dX8_learns_102 : decode cX8_learns 102 = .ok (.getfield 62, 3) := by decide +kernel
theorem dX8_learns_105 : decode cX8_learns 105 = .ok (.iload 6, 2) := by decide +kernel
theorem dX8_learns_107 : decode cX8_learns 107 = .ok (.iaload, 1) := by decide +kernel
theorem dX8_learns_108 : decode cX8_learns 108 = .ok (.invokestatic 294, 3) := by decide +kernel
theorem dX8_learns_111 : decode cX8_learns 111 = .ok (.imul, 1) := by decide +kernel
theorem dX8_learns_112 : decode cX8_learns 112 = .ok (.iadd, 1) := by decide +kernel
theorem dX8_learns_113 : decode cX8_learns 113 = .ok (.istore 7, 2) := by decide +kernel
theorem dX8_learns_115 : decode cX8_learns 115 = .ok (.aload_n 0, 1) := by decide +kernel
theorem dX8_learns_116 : decode cX8_learns 116 = .ok (.iload_n 2, 1) := by decide +kernel
theorem dX8_learns_117 : decode cX8_learns 117 = .ok (.aload_n 0, 1) := by decide +kernel
theorem dX8_learns_118 : decode cX8_learns 118 = .ok (.getfield 59, 3) := by decide +kernel
theorem dX8_learns_121 : decode cX8_learns 121 = .ok (.iload 5, 2) := by decide +kernel
theorem dX8_learns_123 : decode cX8_learns 123 = .ok (.iaload, 1) := by decide +kernel
theorem dX8_learns_124 : decode cX8_learns 124 = .ok (.invokevirtual 314, 3) := by decide +kernel
theorem dX8_learns_127 : decode cX8_learns 127 = .ok (.istore 8, 2) := by decide +kernel
theorem dX8_learns_129 : decode cX8_learns 129 = .ok (.aload_n 0, 1) := by decide +kernel
theorem dX8_learns_130 : decode cX8_learns 130 = .ok (.getfield 20, 3) := by decide +kernel
theorem dX8_learns_133 : decode cX8_learns 133 = .ok (.iload 7, 2) := by decide +kernel
theorem dX8_learns_135 : decode cX8_learns 135 = .ok (.iload 8, 2) := by decide +kernel
theorem dX8_learns_137 : decode cX8_learns 137 = .ok (.iadd, 1) := by decide +kernel
theorem dX8_learns_138 : decode cX8_learns 138 = .ok (.aload_n 0, 1) := by decide +kernel
theorem dX8_learns_139 : decode cX8_learns 139 = .ok (.getfield 20, 3) := by decide +kernel
theorem dX8_learns_142 : decode cX8_learns 142 = .ok (.iload 7, 2) := by decide +kernel
theorem dX8_learns_144 : decode cX8_learns 144 = .ok (.iload 8, 2) := by decide +kernel
theorem dX8_learns_146 : decode cX8_learns 146 = .ok (.iadd, 1) := by decide +kernel
theorem dX8_learns_147 : decode cX8_learns 147 = .ok (.iaload, 1) := by decide +kernel
theorem dX8_learns_148 : decode cX8_learns 148 = .ok (.aload_n 0, 1) := by decide +kernel
theorem dX8_learns_149 : decode cX8_learns 149 = .ok (.iconst 0, 1) := by decide +kernel
theorem dX8_learns_150 : decode cX8_learns 150 = .ok (.aload_n 0, 1) := by decide +kernel
theorem dX8_learns_151 : decode cX8_learns 151 = .ok (.getfield 20, 3) := by decide +kernel
theorem dX8_learns_154 : decode cX8_learns 154 = .ok (.iload 7, 2) := by decide +kernel
theorem dX8_learns_156 : decode cX8_learns 156 = .ok (.iload 8, 2) := by decide +kernel
theorem dX8_learns_158 : decode cX8_learns 158 = .ok (.iadd, 1) := by decide +kernel
theorem dX8_learns_159 : decode cX8_learns 159 = .ok (.iaload, 1) := by decide +kernel
theorem dX8_learns_160 : decode cX8_learns 160 = .ok (.invokevirtual 276, 3) := by decide +kernel
theorem dX8_learns_163 : decode cX8_learns 163 = .ok (.iadd, 1) := by decide +kernel
theorem dX8_learns_164 : decode cX8_learns 164 = .ok (.invokestatic 269, 3) := by decide +kernel
theorem dX8_learns_167 : decode cX8_learns 167 = .ok (.iastore, 1) := by decide +kernel
theorem dX8_learns_168 : decode cX8_learns 168 = .ok (.iconst 0, 1) := by decide +kernel
theorem dX8_learns_169 : decode cX8_learns 169 = .ok (.istore 9, 2) := by decide +kernel
theorem dX8_learns_171 : decode cX8_learns 171 = .ok (.iload 9, 2) := by decide +kernel
theorem dX8_learns_173 : decode cX8_learns 173 = .ok (.bipush 16, 2) := by decide +kernel
theorem dX8_learns_175 : decode cX8_learns 175 = .ok (.if_icmp .ge 55, 3) := by decide +kernel
theorem dX8_learns_178 : decode cX8_learns 178 = .ok (.iload 9, 2) := by decide +kernel
theorem dX8_learns_180 : decode cX8_learns 180 = .ok (.iload 8, 2) := by decide +kernel
theorem dX8_learns_182 : decode cX8_learns 182 = .ok (.if_icmp .eq 42, 3) := by decide +kernel
theorem dX8_learns_185 : decode cX8_learns 185 = .ok (.aload_n 0, 1) := by decide +kernel
theorem dX8_learns_186 : decode cX8_learns 186 = .ok (.getfield 20, 3) := by decide +kernel
theorem dX8_learns_189 : decode cX8_learns 189 = .ok (.iload 7, 2) := by decide +kernel
theorem dX8_learns_191 : decode cX8_learns 191 = .ok (.iload 9, 2) := by decide +kernel
theorem dX8_learns_193 : decode cX8_learns 193 = .ok (.iadd, 1) := by decide +kernel
theorem dX8_learns_194 : decode cX8_learns 194 = .ok (.aload_n 0, 1) := by decide +kernel
theorem dX8_learns_195 : decode cX8_learns 195 = .ok (.getfield 20, 3) := by decide +kernel
theorem dX8_learns_198 : decode cX8_learns 198 = .ok (.iload 7, 2) := by decide +kernel
theorem dX8_learns_200 : decode cX8_learns 200 = .ok (.iload 9, 2) := by decide +kernel
theorem dX8_learns_202 : decode cX8_learns 202 = .ok (.iadd, 1) := by decide +kernel
theorem dX8_learns_203 : decode cX8_learns 203 = .ok (.iaload, 1) := by decide +kernel
theorem dX8_learns_204 : decode cX8_learns 204 = .ok (.aload_n 0, 1) := by decide +kernel
theorem dX8_learns_205 : decode cX8_learns 205 = .ok (.iconst 2, 1) := by decide +kernel
theorem dX8_learns_206 : decode cX8_learns 206 = .ok (.aload_n 0, 1) := by decide +kernel
theorem dX8_learns_207 : decode cX8_learns 207 = .ok (.getfield 20, 3) := by decide +kernel
theorem dX8_learns_210 : decode cX8_learns 210 = .ok (.iload 7, 2) := by decide +kernel
theorem dX8_learns_212 : decode cX8_learns 212 = .ok (.iload 9, 2) := by decide +kernel
theorem dX8_learns_214 : decode cX8_learns 214 = .ok (.iadd, 1) := by decide +kernel
theorem dX8_learns_215 : decode cX8_learns 215 = .ok (.iaload, 1) := by decide +kernel
theorem dX8_learns_216 : decode cX8_learns 216 = .ok (.invokevirtual 276, 3) := by decide +kernel
theorem dX8_learns_219 : decode cX8_learns 219 = .ok (.isub, 1) := by decide +kernel
theorem dX8_learns_220 : decode cX8_learns 220 = .ok (.invokestatic 269, 3) := by decide +kernel
theorem dX8_learns_223 : decode cX8_learns 223 = .ok (.iastore, 1) := by decide +kernel
theorem dX8_learns_224 : decode cX8_learns 224 = .ok (.iinc 9 1, 3) := by decide +kernel
theorem dX8_learns_227 : decode cX8_learns 227 = .ok (.goto (-56), 3) := by decide +kernel
theorem dX8_learns_230 : decode cX8_learns 230 = .ok (.iinc 5 1, 3) := by decide +kernel
theorem dX8_learns_233 : decode cX8_learns 233 = .ok (.goto (-176), 3) := by decide +kernel
theorem dX8_learns_236 : decode cX8_learns 236 = .ok (.aload_n 0, 1) := by decide +kernel
theorem dX8_learns_237 : decode cX8_learns 237 = .ok (.getfield 20, 3) := by decide +kernel
theorem dX8_learns_240 : decode cX8_learns 240 = .ok (.iload_n 3, 1) := by decide +kernel
theorem dX8_learns_241 : decode cX8_learns 241 = .ok (.iconst 4, 1) := by decide +kernel
theorem dX8_learns_242 : decode cX8_learns 242 = .ok (.iadd, 1) := by decide +kernel
theorem dX8_learns_243 : decode cX8_learns 243 = .ok (.iaload, 1) := by decide +kernel
theorem dX8_learns_244 : decode cX8_learns 244 = .ok (.iconst 2, 1) := by decide +kernel
theorem dX8_learns_245 : decode cX8_learns 245 = .ok (.if_icmp .ne 4, 3) := by decide +kernel
theorem dX8_learns_248 : decode cX8_learns 248 = .ok (.return_, 1) := by decide +kernel
theorem dX8_learns_249 : decode cX8_learns 249 = .ok (.aload_n 0, 1) := by decide +kernel
theorem dX8_learns_250 : decode cX8_learns 250 = .ok (.iload 4, 2) := by decide +kernel
theorem dX8_learns_252 : decode cX8_learns 252 = .ok (.putfield 317, 3) := by decide +kernel
theorem dX8_learns_255 : decode cX8_learns 255 = .ok (.iload_n 3, 1) := by decide +kernel
theorem dX8_learns_256 : decode cX8_learns 256 = .ok (.sipush 136, 3) := by decide +kernel
theorem dX8_learns_259 : decode cX8_learns 259 = .ok (.iadd, 1) := by decide +kernel
theorem dX8_learns_260 : decode cX8_learns 260 = .ok (.istore 5, 2) := by decide +kernel
theorem dX8_learns_262 : decode cX8_learns 262 = .ok (.aload_n 0, 1) := by decide +kernel
theorem dX8_learns_263 : decode cX8_learns 263 = .ok (.getfield 20, 3) := by decide +kernel
theorem dX8_learns_266 : decode cX8_learns 266 = .ok (.iload 5, 2) := by decide +kernel
theorem dX8_learns_268 : decode cX8_learns 268 = .ok (.iload 4, 2) := by decide +kernel
theorem dX8_learns_270 : decode cX8_learns 270 = .ok (.iadd, 1) := by decide +kernel
theorem dX8_learns_271 : decode cX8_learns 271 = .ok (.aload_n 0, 1) := by decide +kernel
theorem dX8_learns_272 : decode cX8_learns 272 = .ok (.getfield 20, 3) := by decide +kernel
theorem dX8_learns_275 : decode cX8_learns 275 = .ok (.iload 5, 2) := by decide +kernel
theorem dX8_learns_277 : decode cX8_learns 277 = .ok (.iload 4, 2) := by decide +kernel
theorem dX8_learns_279 : decode cX8_learns 279 = .ok (.iadd, 1) := by decide +kernel
theorem dX8_learns_280 : decode cX8_learns 280 = .ok (.iaload, 1) := by decide +kernel
theorem dX8_learns_281 : decode cX8_learns 281 = .ok (.aload_n 0, 1) := by decide +kernel
theorem dX8_learns_282 : decode cX8_learns 282 = .ok (.iconst 1, 1) := by decide +kernel
theorem dX8_learns_283 : decode cX8_learns 283 = .ok (.aload_n 0, 1) := by decide +kernel
theorem dX8_learns_284 : decode cX8_learns 284 = .ok (.getfield 20, 3) := by decide +kernel
theorem dX8_learns_287 : decode cX8_learns 287 = .ok (.iload 5, 2) := by decide +kernel
theorem dX8_learns_289 : decode cX8_learns 289 = .ok (.iload 4, 2) := by decide +kernel
theorem dX8_learns_291 : decode cX8_learns 291 = .ok (.iadd, 1) := by decide +kernel
theorem dX8_learns_292 : decode cX8_learns 292 = .ok (.iaload, 1) := by decide +kernel
theorem dX8_learns_293 : decode cX8_learns 293 = .ok (.invokevirtual 276, 3) := by decide +kernel
theorem dX8_learns_296 : decode cX8_learns 296 = .ok (.iadd, 1) := by decide +kernel
theorem dX8_learns_297 : decode cX8_learns 297 = .ok (.invokestatic 269, 3) := by decide +kernel
theorem dX8_learns_300 : decode cX8_learns 300 = .ok (.iastore, 1) := by decide +kernel
theorem dX8_learns_301 : decode cX8_learns 301 = .ok (.iconst 0, 1) := by decide +kernel
theorem dX8_learns_302 : decode cX8_learns 302 = .ok (.istore 6, 2) := by decide +kernel
theorem dX8_learns_304 : decode cX8_learns 304 = .ok (.iconst 0, 1) := by decide +kernel
theorem dX8_learns_305 : decode cX8_learns 305 = .ok (.istore 7, 2) := by decide +kernel
theorem dX8_learns_307 : decode cX8_learns 307 = .ok (.iload 7, 2) := by decide +kernel
theorem dX8_learns_309 : decode cX8_learns 309 = .ok (.bipush 6, 2) := by decide +kernel
theorem dX8_learns_311 : decode cX8_learns 311 = .ok (.if_icmp .ge 73, 3) := by decide +kernel
theorem dX8_learns_314 : decode cX8_learns 314 = .ok (.iload 7, 2) := by decide +kernel
theorem dX8_learns_316 : decode cX8_learns 316 = .ok (.iload 4, 2) := by decide +kernel
theorem dX8_learns_318 : decode cX8_learns 318 = .ok (.if_icmp .ne 6, 3) := by decide +kernel
theorem dX8_learns_321 : decode cX8_learns 321 = .ok (.goto 57, 3) := by decide +kernel
theorem dX8_learns_324 : decode cX8_learns 324 = .ok (.aload_n 0, 1) := by decide +kernel
theorem dX8_learns_325 : decode cX8_learns 325 = .ok (.getfield 20, 3) := by decide +kernel
theorem dX8_learns_328 : decode cX8_learns 328 = .ok (.iload 5, 2) := by decide +kernel
theorem dX8_learns_330 : decode cX8_learns 330 = .ok (.iload 7, 2) := by decide +kernel
theorem dX8_learns_332 : decode cX8_learns 332 = .ok (.iadd, 1) := by decide +kernel
theorem dX8_learns_333 : decode cX8_learns 333 = .ok (.aload_n 0, 1) := by decide +kernel
theorem dX8_learns_334 : decode cX8_learns 334 = .ok (.getfield 20, 3) := by decide +kernel
theorem dX8_learns_337 : decode cX8_learns 337 = .ok (.iload 5, 2) := by decide +kernel
theorem dX8_learns_339 : decode cX8_learns 339 = .ok (.iload 7, 2) := by decide +kernel
theorem dX8_learns_341 : decode cX8_learns 341 = .ok (.iadd, 1) := by decide +kernel
theorem dX8_learns_342 : decode cX8_learns 342 = .ok (.iaload, 1) := by decide +kernel
theorem dX8_learns_343 : decode cX8_learns 343 = .ok (.aload_n 0, 1) := by decide +kernel
theorem dX8_learns_344 : decode cX8_learns 344 = .ok (.iconst 2, 1) := by decide +kernel
theorem dX8_learns_345 : decode cX8_learns 345 = .ok (.aload_n 0, 1) := by decide +kernel
theorem dX8_learns_346 : decode cX8_learns 346 = .ok (.getfield 20, 3) := by decide +kernel
theorem dX8_learns_349 : decode cX8_learns 349 = .ok (.iload 5, 2) := by decide +kernel
theorem dX8_learns_351 : decode cX8_learns 351 = .ok (.iload 7, 2) := by decide +kernel
theorem dX8_learns_353 : decode cX8_learns 353 = .ok (.iadd, 1) := by decide +kernel
theorem dX8_learns_354 : decode cX8_learns 354 = .ok (.iaload, 1) := by decide +kernel
theorem dX8_learns_355 : decode cX8_learns 355 = .ok (.invokevirtual 276, 3) := by decide +kernel
theorem dX8_learns_358 : decode cX8_learns 358 = .ok (.isub, 1) := by decide +kernel
theorem dX8_learns_359 : decode cX8_learns 359 = .ok (.invokestatic 269, 3) := by decide +kernel
theorem dX8_learns_362 : decode cX8_learns 362 = .ok (.iastore, 1) := by decide +kernel
theorem dX8_learns_363 : decode cX8_learns 363 = .ok (.iload 6, 2) := by decide +kernel
theorem dX8_learns_365 : decode cX8_learns 365 = .ok (.aload_n 0, 1) := by decide +kernel
theorem dX8_learns_366 : decode cX8_learns 366 = .ok (.getfield 20, 3) := by decide +kernel
theorem dX8_learns_369 : decode cX8_learns 369 = .ok (.iload 5, 2) := by decide +kernel
theorem dX8_learns_371 : decode cX8_learns 371 = .ok (.iload 7, 2) := by decide +kernel
theorem dX8_learns_373 : decode cX8_learns 373 = .ok (.iadd, 1) := by decide +kernel
theorem dX8_learns_374 : decode cX8_learns 374 = .ok (.iaload, 1) := by decide +kernel
theorem dX8_learns_375 : decode cX8_learns 375 = .ok (.iadd, 1) := by decide +kernel
theorem dX8_learns_376 : decode cX8_learns 376 = .ok (.istore 6, 2) := by decide +kernel
theorem dX8_learns_378 : decode cX8_learns 378 = .ok (.iinc 7 1, 3) := by decide +kernel
theorem dX8_learns_381 : decode cX8_learns 381 = .ok (.goto (-74), 3) := by decide +kernel
theorem dX8_learns_384 : decode cX8_learns 384 = .ok (.aload_n 0, 1) := by decide +kernel
theorem dX8_learns_385 : decode cX8_learns 385 = .ok (.getfield 20, 3) := by decide +kernel
theorem dX8_learns_388 : decode cX8_learns 388 = .ok (.iload_n 3, 1) := by decide +kernel
theorem dX8_learns_389 : decode cX8_learns 389 = .ok (.iconst 4, 1) := by decide +kernel
theorem dX8_learns_390 : decode cX8_learns 390 = .ok (.iadd, 1) := by decide +kernel
theorem dX8_learns_391 : decode cX8_learns 391 = .ok (.iaload, 1) := by decide +kernel
theorem dX8_learns_392 : decode cX8_learns 392 = .ok (.ifCond .ne 46, 3) := by decide +kernel
theorem dX8_learns_395 : decode cX8_learns 395 = .ok (.aload_n 0, 1) := by decide +kernel
theorem dX8_learns_396 : decode cX8_learns 396 = .ok (.getfield 20, 3) := by decide +kernel
theorem dX8_learns_399 : decode cX8_learns 399 = .ok (.iload 5, 2) := by decide +kernel
theorem dX8_learns_401 : decode cX8_learns 401 = .ok (.iload 4, 2) := by decide +kernel
theorem dX8_learns_403 : decode cX8_learns 403 = .ok (.iadd, 1) := by decide +kernel
theorem dX8_learns_404 : decode cX8_learns 404 = .ok (.iaload, 1) := by decide +kernel
theorem dX8_learns_405 : decode cX8_learns 405 = .ok (.iload 6, 2) := by decide +kernel
theorem dX8_learns_407 : decode cX8_learns 407 = .ok (.if_icmp .le 31, 3) := by decide +kernel
theorem dX8_learns_410 : decode cX8_learns 410 = .ok (.aload_n 0, 1) := by decide +kernel
theorem dX8_learns_411 : decode cX8_learns 411 = .ok (.getfield 20, 3) := by decide +kernel
theorem dX8_learns_414 : decode cX8_learns 414 = .ok (.iload 5, 2) := by decide +kernel
theorem dX8_learns_416 : decode cX8_learns 416 = .ok (.iload 4, 2) := by decide +kernel
theorem dX8_learns_418 : decode cX8_learns 418 = .ok (.iadd, 1) := by decide +kernel
theorem dX8_learns_419 : decode cX8_learns 419 = .ok (.iaload, 1) := by decide +kernel
theorem dX8_learns_420 : decode cX8_learns 420 = .ok (.aload_n 0, 1) := by decide +kernel
theorem dX8_learns_421 : decode cX8_learns 421 = .ok (.iconst 3, 1) := by decide +kernel
theorem dX8_learns_422 : decode cX8_learns 422 = .ok (.aload_n 0, 1) := by decide +kernel
theorem dX8_learns_423 : decode cX8_learns 423 = .ok (.getfield 20, 3) := by decide +kernel
theorem dX8_learns_426 : decode cX8_learns 426 = .ok (.iload 5, 2) := by decide +kernel
theorem dX8_learns_428 : decode cX8_learns 428 = .ok (.iload 4, 2) := by decide +kernel
theorem dX8_learns_430 : decode cX8_learns 430 = .ok (.iadd, 1) := by decide +kernel
theorem dX8_learns_431 : decode cX8_learns 431 = .ok (.iaload, 1) := by decide +kernel
theorem dX8_learns_432 : decode cX8_learns 432 = .ok (.invokevirtual 276, 3) := by decide +kernel
theorem dX8_learns_435 : decode cX8_learns 435 = .ok (.if_icmp .ge 4, 3) := by decide +kernel
theorem dX8_learns_438 : decode cX8_learns 438 = .ok (.return_, 1) := by decide +kernel
theorem dX8_learns_439 : decode cX8_learns 439 = .ok (.iconst 0, 1) := by decide +kernel
theorem dX8_learns_440 : decode cX8_learns 440 = .ok (.istore 7, 2) := by decide +kernel
theorem dX8_learns_442 : decode cX8_learns 442 = .ok (.iload 7, 2) := by decide +kernel
theorem dX8_learns_444 : decode cX8_learns 444 = .ok (.bipush 6, 2) := by decide +kernel
theorem dX8_learns_446 : decode cX8_learns 446 = .ok (.if_icmp .ge 33, 3) := by decide +kernel
theorem dX8_learns_449 : decode cX8_learns 449 = .ok (.aload_n 0, 1) := by decide +kernel
theorem dX8_learns_450 : decode cX8_learns 450 = .ok (.getfield 20, 3) := by decide +kernel
theorem dX8_learns_453 : decode cX8_learns 453 = .ok (.iload 5, 2) := by decide +kernel
theorem dX8_learns_455 : decode cX8_learns 455 = .ok (.iload 7, 2) := by decide +kernel
theorem dX8_learns_457 : decode cX8_learns 457 = .ok (.iadd, 1) := by decide +kernel
theorem dX8_learns_458 : decode cX8_learns 458 = .ok (.iload 7, 2) := by decide +kernel
theorem dX8_learns_460 : decode cX8_learns 460 = .ok (.iload 4, 2) := by decide +kernel
theorem dX8_learns_462 : decode cX8_learns 462 = .ok (.if_icmp .ne 9, 3) := by decide +kernel
theorem dX8_learns_465 : decode cX8_learns 465 = .ok (.sipush 999, 3) := by decide +kernel
theorem dX8_learns_468 : decode cX8_learns 468 = .ok (.goto 4, 3) := by decide +kernel
theorem dX8_learns_471 : decode cX8_learns 471 = .ok (.iconst 0, 1) := by decide +kernel
theorem dX8_learns_472 : decode cX8_learns 472 = .ok (.iastore, 1) := by decide +kernel
theorem dX8_learns_473 : decode cX8_learns 473 = .ok (.iinc 7 1, 3) := by decide +kernel
theorem dX8_learns_476 : decode cX8_learns 476 = .ok (.goto (-34), 3) := by decide +kernel
theorem dX8_learns_479 : decode cX8_learns 479 = .ok (.return_, 1) := by decide +kernel
theorem dX8_talks_0 : decode cX8_talks 0 = .ok (.aload_n 0, 1) := by decide +kernel
theorem dX8_talks_1 : decode cX8_talks 1 = .ok (.getfield 20, 3) := by decide +kernel
theorem dX8_talks_4 : decode cX8_talks 4 = .ok (.iload_n 1, 1) := by decide +kernel
theorem dX8_talks_5 : decode cX8_talks 5 = .ok (.invokestatic 121, 3) := by decide +kernel
theorem dX8_talks_8 : decode cX8_talks 8 = .ok (.iconst 0, 1) := by decide +kernel
theorem dX8_talks_9 : decode cX8_talks 9 = .ok (.iadd, 1) := by decide +kernel
theorem dX8_talks_10 : decode cX8_talks 10 = .ok (.iaload, 1) := by decide +kernel
theorem dX8_talks_11 : decode cX8_talks 11 = .ok (.istore_n 3, 1) := by decide +kernel
theorem dX8_talks_12 : decode cX8_talks 12 = .ok (.aload_n 0, 1) := by decide +kernel
theorem dX8_talks_13 : decode cX8_talks 13 = .ok (.iload_n 1, 1) := by decide +kernel
theorem dX8_talks_14 : decode cX8_talks 14 = .ok (.iload_n 2, 1) := by decide +kernel
theorem dX8_talks_15 : decode cX8_talks 15 = .ok (.invokevirtual 320, 3) := by decide +kernel
theorem dX8_talks_18 : decode cX8_talks 18 = .ok (.aload_n 0, 1) := by decide +kernel
theorem dX8_talks_19 : decode cX8_talks 19 = .ok (.aload_n 0, 1) := by decide +kernel
theorem dX8_talks_20 : decode cX8_talks 20 = .ok (.iconst 1, 1) := by decide +kernel
theorem dX8_talks_21 : decode cX8_talks 21 = .ok (.bipush 100, 2) := by decide +kernel
theorem dX8_talks_23 : decode cX8_talks 23 = .ok (.invokevirtual 279, 3) := by decide +kernel
theorem dX8_talks_26 : decode cX8_talks 26 = .ok (.aload_n 0, 1) := by decide +kernel
theorem dX8_talks_27 : decode cX8_talks 27 = .ok (.getfield 20, 3) := by decide +kernel
theorem dX8_talks_30 : decode cX8_talks 30 = .ok (.iconst 4, 1) := by decide +kernel
theorem dX8_talks_31 : decode cX8_talks 31 = .ok (.iaload, 1) := by decide +kernel
theorem dX8_talks_32 : decode cX8_talks 32 = .ok (.if_icmp .ge 7, 3) := by decide +kernel
theorem dX8_talks_35 : decode cX8_talks 35 = .ok (.iconst 1, 1) := by decide +kernel
theorem dX8_talks_36 : decode cX8_talks 36 = .ok (.goto 4, 3) := by decide +kernel
theorem dX8_talks_39 : decode cX8_talks 39 = .ok (.iconst 0, 1) := by decide +kernel
theorem dX8_talks_40 : decode cX8_talks 40 = .ok (.putfield 311, 3) := by decide +kernel
theorem dX8_talks_43 : decode cX8_talks 43 = .ok (.aload_n 0, 1) := by decide +kernel
theorem dX8_talks_44 : decode cX8_talks 44 = .ok (.iconst (-1), 1) := by decide +kernel
theorem dX8_talks_45 : decode cX8_talks 45 = .ok (.putfield 317, 3) := by decide +kernel
theorem dX8_talks_48 : decode cX8_talks 48 = .ok (.aload_n 0, 1) := by decide +kernel
theorem dX8_talks_49 : decode cX8_talks 49 = .ok (.getfield 20, 3) := by decide +kernel
theorem dX8_talks_52 : decode cX8_talks 52 = .ok (.iload_n 2, 1) := by decide +kernel
theorem dX8_talks_53 : decode cX8_talks 53 = .ok (.invokestatic 121, 3) := by decide +kernel
theorem dX8_talks_56 : decode cX8_talks 56 = .ok (.iconst 4, 1) := by decide +kernel
theorem dX8_talks_57 : decode cX8_talks 57 = .ok (.iadd, 1) := by decide +kernel
theorem dX8_talks_58 : decode cX8_talks 58 = .ok (.iaload, 1) := by decide +kernel
theorem dX8_talks_59 : decode cX8_talks 59 = .ok (.iconst 3, 1) := by decide +kernel
theorem dX8_talks_60 : decode cX8_talks 60 = .ok (.if_icmp .eq 9, 3) := by decide +kernel
theorem dX8_talks_63 : decode cX8_talks 63 = .ok (.aload_n 0, 1) := by decide +kernel
theorem dX8_talks_64 : decode cX8_talks 64 = .ok (.iload_n 2, 1) := by decide +kernel
theorem dX8_talks_65 : decode cX8_talks 65 = .ok (.iload_n 3, 1) := by decide +kernel
theorem dX8_talks_66 : decode cX8_talks 66 = .ok (.invokevirtual 323, 3) := by decide +kernel
theorem dX8_talks_69 : decode cX8_talks 69 = .ok (.iload_n 1, 1) := by decide +kernel
theorem dX8_talks_70 : decode cX8_talks 70 = .ok (.invokestatic 121, 3) := by decide +kernel
theorem dX8_talks_73 : decode cX8_talks 73 = .ok (.istore 4, 2) := by decide +kernel
theorem dX8_talks_75 : decode cX8_talks 75 = .ok (.aload_n 0, 1) := by decide +kernel
theorem dX8_talks_76 : decode cX8_talks 76 = .ok (.getfield 307, 3) := by decide +kernel
theorem dX8_talks_79 : decode cX8_talks 79 = .ok (.ifCond .eq 154, 3) := by decide +kernel
theorem dX8_talks_82 : decode cX8_talks 82 = .ok (.aload_n 0, 1) := by decide +kernel
theorem dX8_talks_83 : decode cX8_talks 83 = .ok (.getfield 20, 3) := by decide +kernel
theorem dX8_talks_86 : decode cX8_talks 86 = .ok (.iload 4, 2) := by decide +kernel
theorem dX8_talks_88 : decode cX8_talks 88 = .ok (.iconst 4, 1) := by decide +kernel
theorem dX8_talks_89 : decode cX8_talks 89 = .ok (.iadd, 1) := by decide +kernel
theorem dX8_talks_90 : decode cX8_talks 90 = .ok (.iaload, 1) := by decide +kernel
theorem dX8_talks_91 : decode cX8_talks 91 = .ok (.iconst 3, 1) := by decide +kernel
theorem dX8_talks_92 : decode cX8_talks 92 = .ok (.if_icmp .eq 141, 3) := by decide +kernel
theorem dX8_talks_95 : decode cX8_talks 95 = .ok (.iconst 0, 1) := by decide +kernel
theorem dX8_talks_96 : decode cX8_talks 96 = .ok (.istore 5, 2) := by decide +kernel
theorem dX8_talks_98 : decode cX8_talks 98 = .ok (.iload 5, 2) := by decide +kernel
theorem dX8_talks_100 : decode cX8_talks 100 = .ok (.iconst 3, 1) := by decide +kernel
theorem dX8_talks_101 : decode cX8_talks 101 = .ok (.if_icmp .ge 82, 3) := by decide +kernel
theorem dX8_talks_104 : decode cX8_talks 104 = .ok (.getstatic 291, 3) := by decide +kernel
theorem dX8_talks_107 : decode cX8_talks 107 = .ok (.iconst 3, 1) := by decide +kernel
theorem dX8_talks_108 : decode cX8_talks 108 = .ok (.aload_n 0, 1) := by decide +kernel
theorem dX8_talks_109 : decode cX8_talks 109 = .ok (.getfield 288, 3) := by decide +kernel
theorem dX8_talks_112 : decode cX8_talks 112 = .ok (.imul, 1) := by decide +kernel
theorem dX8_talks_113 : decode cX8_talks 113 = .ok (.iload 5, 2) := by decide +kernel
theorem dX8_talks_115 : decode cX8_talks 115 = .ok (.iadd, 1) := by decide +kernel
theorem dX8_talks_116 : decode cX8_talks 116 = .ok (.iaload, 1) := by decide +kernel
theorem dX8_talks_117 : decode cX8_talks 117 = .ok (.istore 6, 2) := by decide +kernel
theorem dX8_talks_119 : decode cX8_talks 119 = .ok (.iload 4, 2) := by decide +kernel
theorem dX8_talks_121 : decode cX8_talks 121 = .ok (.bipush 8, 2) := by decide +kernel
theorem dX8_talks_123 : decode cX8_talks 123 = .ok (.iadd, 1) := by decide +kernel
theorem dX8_talks_124 : decode cX8_talks 124 = .ok (.bipush 16, 2) := by decide +kernel
theorem dX8_talks_126 : decode cX8_talks 126 = .ok (.iload 6, 2) := by decide +kernel
theorem dX8_talks_128 : decode cX8_talks 128 = .ok (.aload_n 0, 1) := by decide +kernel
theorem dX8_talks_129 : decode cX8_talks 129 = .ok (.getfield 56, 3) := by decide +kernel
theorem dX8_talks_132 : decode cX8_talks 132 = .ok (.iload 6, 2) := by decide +kernel
theorem dX8_talks_134 : decode cX8_talks 134 = .ok (.iaload, 1) := by decide +kernel
theorem dX8_talks_135 : decode cX8_talks 135 = .ok (.invokestatic 294, 3) := by decide +kernel
theorem dX8_talks_138 : decode cX8_talks 138 = .ok (.imul, 1) := by decide +kernel
theorem dX8_talks_139 : decode cX8_talks 139 = .ok (.iadd, 1) := by decide +kernel
theorem dX8_talks_140 : decode cX8_talks 140 = .ok (.istore 7, 2) := by decide +kernel
theorem dX8_talks_142 : decode cX8_talks 142 = .ok (.aload_n 0, 1) := by decide +kernel
theorem dX8_talks_143 : decode cX8_talks 143 = .ok (.getfield 20, 3) := by decide +kernel
theorem dX8_talks_146 : decode cX8_talks 146 = .ok (.iload 7, 2) := by decide +kernel
theorem dX8_talks_148 : decode cX8_talks 148 = .ok (.aload_n 0, 1) := by decide +kernel
theorem dX8_talks_149 : decode cX8_talks 149 = .ok (.getfield 59, 3) := by decide +kernel
theorem dX8_talks_152 : decode cX8_talks 152 = .ok (.iload 5, 2) := by decide +kernel
theorem dX8_talks_154 : decode cX8_talks 154 = .ok (.iaload, 1) := by decide +kernel
theorem dX8_talks_155 : decode cX8_talks 155 = .ok (.iadd, 1) := by decide +kernel
theorem dX8_talks_156 : decode cX8_talks 156 = .ok (.aload_n 0, 1) := by decide +kernel
theorem dX8_talks_157 : decode cX8_talks 157 = .ok (.getfield 20, 3) := by decide +kernel
theorem dX8_talks_160 : decode cX8_talks 160 = .ok (.iload 7, 2) := by decide +kernel
theorem dX8_talks_162 : decode cX8_talks 162 = .ok (.aload_n 0, 1) := by decide +kernel
theorem dX8_talks_163 : decode cX8_talks 163 = .ok (.getfield 59, 3) := by decide +kernel
theorem dX8_talks_166 : decode cX8_talks 166 = .ok (.iload 5, 2) := by decide +kernel
theorem dX8_talks_168 : decode cX8_talks 168 = .ok (.iaload, 1) := by decide +kernel
theorem dX8_talks_169 : decode cX8_talks 169 = .ok (.iadd, 1) := by decide +kernel
theorem dX8_talks_170 : decode cX8_talks 170 = .ok (.iaload, 1) := by decide +kernel
theorem dX8_talks_171 : decode cX8_talks 171 = .ok (.iconst 1, 1) := by decide +kernel
theorem dX8_talks_172 : decode cX8_talks 172 = .ok (.iadd, 1) := by decide +kernel
theorem dX8_talks_173 : decode cX8_talks 173 = .ok (.invokestatic 269, 3) := by decide +kernel
theorem dX8_talks_176 : decode cX8_talks 176 = .ok (.iastore, 1) := by decide +kernel
theorem dX8_talks_177 : decode cX8_talks 177 = .ok (.iinc 5 1, 3) := by decide +kernel
theorem dX8_talks_180 : decode cX8_talks 180 = .ok (.goto (-82), 3) := by decide +kernel
theorem dX8_talks_183 : decode cX8_talks 183 = .ok (.aload_n 0, 1) := by decide +kernel
theorem dX8_talks_184 : decode cX8_talks 184 = .ok (.getfield 20, 3) := by decide +kernel
theorem dX8_talks_187 : decode cX8_talks 187 = .ok (.iload 4, 2) := by decide +kernel
theorem dX8_talks_189 : decode cX8_talks 189 = .ok (.iconst 4, 1) := by decide +kernel
theorem dX8_talks_190 : decode cX8_talks 190 = .ok (.iadd, 1) := by decide +kernel
theorem dX8_talks_191 : decode cX8_talks 191 = .ok (.iaload, 1) := by decide +kernel
theorem dX8_talks_192 : decode cX8_talks 192 = .ok (.iconst 2, 1) := by decide +kernel
theorem dX8_talks_193 : decode cX8_talks 193 = .ok (.if_icmp .eq 40, 3) := by decide +kernel
theorem dX8_talks_196 : decode cX8_talks 196 = .ok (.aload_n 0, 1) := by decide +kernel
theorem dX8_talks_197 : decode cX8_talks 197 = .ok (.getfield 20, 3) := by decide +kernel
theorem dX8_talks_200 : decode cX8_talks 200 = .ok (.iload 4, 2) := by decide +kernel
theorem dX8_talks_202 : decode cX8_talks 202 = .ok (.sipush 136, 3) := by decide +kernel
theorem dX8_talks_205 : decode cX8_talks 205 = .ok (.iadd, 1) := by decide +kernel
theorem dX8_talks_206 : decode cX8_talks 206 = .ok (.aload_n 0, 1) := by decide +kernel
theorem dX8_talks_207 : decode cX8_talks 207 = .ok (.getfield 288, 3) := by decide +kernel
theorem dX8_talks_210 : decode cX8_talks 210 = .ok (.iadd, 1) := by decide +kernel
theorem dX8_talks_211 : decode cX8_talks 211 = .ok (.aload_n 0, 1) := by decide +kernel
theorem dX8_talks_212 : decode cX8_talks 212 = .ok (.getfield 20, 3) := by decide +kernel
theorem dX8_talks_215 : decode cX8_talks 215 = .ok (.iload 4, 2) := by decide +kernel
theorem dX8_talks_217 : decode cX8_talks 217 = .ok (.sipush 136, 3) := by decide +kernel
theorem dX8_talks_220 : decode cX8_talks 220 = .ok (.iadd, 1) := by decide +kernel
theorem dX8_talks_221 : decode cX8_talks 221 = .ok (.aload_n 0, 1) := by decide +kernel
theorem dX8_talks_222 : decode cX8_talks 222 = .ok (.getfield 288, 3) := by decide +kernel
theorem dX8_talks_225 : decode cX8_talks 225 = .ok (.iadd, 1) := by decide +kernel
theorem dX8_talks_226 : decode cX8_talks 226 = .ok (.iaload, 1) := by decide +kernel
theorem dX8_talks_227 : decode cX8_talks 227 = .ok (.iconst 1, 1) := by decide +kernel
theorem dX8_talks_228 : decode cX8_talks 228 = .ok (.iadd, 1) := by decide +kernel
theorem dX8_talks_229 : decode cX8_talks 229 = .ok (.invokestatic 269, 3) := by decide +kernel
theorem dX8_talks_232 : decode cX8_talks 232 = .ok (.iastore, 1) := by decide +kernel
theorem dX8_talks_233 : decode cX8_talks 233 = .ok (.aload_n 0, 1) := by decide +kernel
theorem dX8_talks_234 : decode cX8_talks 234 = .ok (.getfield 20, 3) := by decide +kernel
theorem dX8_talks_237 : decode cX8_talks 237 = .ok (.iload_n 2, 1) := by decide +kernel
theorem dX8_talks_238 : decode cX8_talks 238 = .ok (.invokestatic 121, 3) := by decide +kernel
theorem dX8_talks_241 : decode cX8_talks 241 = .ok (.iconst 5, 1) := by decide +kernel
theorem dX8_talks_242 : decode cX8_talks 242 = .ok (.iadd, 1) := by decide +kernel
theorem dX8_talks_243 : decode cX8_talks 243 = .ok (.dup2, 1) := by decide +kernel
theorem dX8_talks_244 : decode cX8_talks 244 = .ok (.iaload, 1) := by decide +kernel
theorem dX8_talks_245 : decode cX8_talks 245 = .ok (.iconst 1, 1) := by decide +kernel
theorem dX8_talks_246 : decode cX8_talks 246 = .ok (.iadd, 1) := by decide +kernel
theorem dX8_talks_247 : decode cX8_talks 247 = .ok (.iastore, 1) := by decide +kernel
theorem dX8_talks_248 : decode cX8_talks 248 = .ok (.aload_n 0, 1) := by decide +kernel
theorem dX8_talks_249 : decode cX8_talks 249 = .ok (.getfield 20, 3) := by decide +kernel
theorem dX8_talks_252 : decode cX8_talks 252 = .ok (.iload 4, 2) := by decide +kernel
theorem dX8_talks_254 : decode cX8_talks 254 = .ok (.bipush 6, 2) := by decide +kernel
theorem dX8_talks_256 : decode cX8_talks 256 = .ok (.iadd, 1) := by decide +kernel
theorem dX8_talks_257 : decode cX8_talks 257 = .ok (.dup2, 1) := by decide +kernel
theorem dX8_talks_258 : decode cX8_talks 258 = .ok (.iaload, 1) := by decide +kernel
theorem dX8_talks_259 : decode cX8_talks 259 = .ok (.iconst 1, 1) := by decide +kernel
theorem dX8_talks_260 : decode cX8_talks 260 = .ok (.iadd, 1) := by decide +kernel
theorem dX8_talks_261 : decode cX8_talks 261 = .ok (.iastore, 1) := by decide +kernel
theorem dX8_talks_262 : decode cX8_talks 262 = .ok (.return_, 1) := by decide +kernel
theorem dX8_tells_0 : decode cX8_tells 0 = .ok (.aload_n 0, 1) := by decide +kernel
theorem dX8_tells_1 : decode cX8_tells 1 = .ok (.iload_n 1, 1) := by decide +kernel
theorem dX8_tells_2 : decode cX8_tells 2 = .ok (.iload_n 2, 1) := by decide +kernel
theorem dX8_tells_3 : decode cX8_tells 3 = .ok (.invokevirtual 326, 3) := by decide +kernel
theorem dX8_tells_6 : decode cX8_tells 6 = .ok (.bipush 20, 2) := by decide +kernel
theorem dX8_tells_8 : decode cX8_tells 8 = .ok (.aload_n 0, 1) := by decide +kernel
theorem dX8_tells_9 : decode cX8_tells 9 = .ok (.getfield 329, 3) := by decide +kernel
theorem dX8_tells_12 : decode cX8_tells 12 = .ok (.imul, 1) := by decide +kernel
theorem dX8_tells_13 : decode cX8_tells 13 = .ok (.istore_n 3, 1) := by decide +kernel
theorem dX8_tells_14 : decode cX8_tells 14 = .ok (.aload_n 0, 1) := by decide +kernel
theorem dX8_tells_15 : decode cX8_tells 15 = .ok (.getfield 65, 3) := by decide +kernel
theorem dX8_tells_18 : decode cX8_tells 18 = .ok (.iload_n 3, 1) := by decide +kernel
theorem dX8_tells_19 : decode cX8_tells 19 = .ok (.aload_n 0, 1) := by decide +kernel
theorem dX8_tells_20 : decode cX8_tells 20 = .ok (.getfield 20, 3) := by decide +kernel
theorem dX8_tells_23 : decode cX8_tells 23 = .ok (.iconst 2, 1) := by decide +kernel
theorem dX8_tells_24 : decode cX8_tells 24 = .ok (.iaload, 1) := by decide +kernel
theorem dX8_tells_25 : decode cX8_tells 25 = .ok (.iastore, 1) := by decide +kernel
theorem dX8_tells_26 : decode cX8_tells 26 = .ok (.aload_n 0, 1) := by decide +kernel
theorem dX8_tells_27 : decode cX8_tells 27 = .ok (.getfield 65, 3) := by decide +kernel
theorem dX8_tells_30 : decode cX8_tells 30 = .ok (.iload_n 3, 1) := by decide +kernel
theorem dX8_tells_31 : decode cX8_tells 31 = .ok (.iconst 1, 1) := by decide +kernel
theorem dX8_tells_32 : decode cX8_tells 32 = .ok (.iadd, 1) := by decide +kernel
theorem dX8_tells_33 : decode cX8_tells 33 = .ok (.iload_n 1, 1) := by decide +kernel
theorem dX8_tells_34 : decode cX8_tells 34 = .ok (.iastore, 1) := by decide +kernel
theorem dX8_tells_35 : decode cX8_tells 35 = .ok (.aload_n 0, 1) := by decide +kernel
theorem dX8_tells_36 : decode cX8_tells 36 = .ok (.getfield 65, 3) := by decide +kernel
theorem dX8_tells_39 : decode cX8_tells 39 = .ok (.iload_n 3, 1) := by decide +kernel
theorem dX8_tells_40 : decode cX8_tells 40 = .ok (.iconst 2, 1) := by decide +kernel
theorem dX8_tells_41 : decode cX8_tells 41 = .ok (.iadd, 1) := by decide +kernel
theorem dX8_tells_42 : decode cX8_tells 42 = .ok (.iload_n 2, 1) := by decide +kernel
theorem dX8_tells_43 : decode cX8_tells 43 = .ok (.iastore, 1) := by decide +kernel
theorem dX8_tells_44 : decode cX8_tells 44 = .ok (.iconst 0, 1) := by decide +kernel
theorem dX8_tells_45 : decode cX8_tells 45 = .ok (.istore 4, 2) := by decide +kernel
theorem dX8_tells_47 : decode cX8_tells 47 = .ok (.iload 4, 2) := by decide +kernel
theorem dX8_tells_49 : decode cX8_tells 49 = .ok (.iconst 3, 1) := by decide +kernel
theorem dX8_tells_50 : decode cX8_tells 50 = .ok (.if_icmp .ge 65, 3) := by decide +kernel
theorem dX8_tells_53 : decode cX8_tells 53 = .ok (.aload_n 0, 1) := by decide +kernel
theorem dX8_tells_54 : decode cX8_tells 54 = .ok (.getfield 65, 3) := by decide +kernel
theorem dX8_tells_57 : decode cX8_tells 57 = .ok (.iload_n 3, 1) := by decide +kernel
theorem dX8_tells_58 : decode cX8_tells 58 = .ok (.iconst 3, 1) := by decide +kernel
theorem dX8_tells_59 : decode cX8_tells 59 = .ok (.iadd, 1) := by decide +kernel
theorem dX8_tells_60 : decode cX8_tells 60 = .ok (.iload 4, 2) := by decide +kernel
theorem dX8_tells_62 : decode cX8_tells 62 = .ok (.iadd, 1) := by decide +kernel
theorem dX8_tells_63 : decode cX8_tells 63 = .ok (.aload_n 0, 1) := by decide +kernel
theorem dX8_tells_64 : decode cX8_tells 64 = .ok (.getfield 56, 3) := by decide +kernel
theorem dX8_tells_67 : decode cX8_tells 67 = .ok (.iload 4, 2) := by decide +kernel
theorem dX8_tells_69 : decode cX8_tells 69 = .ok (.iaload, 1) := by decide +kernel
theorem dX8_tells_70 : decode cX8_tells 70 = .ok (.iastore, 1) := by decide +kernel
theorem dX8_tells_71 : decode cX8_tells 71 = .ok (.aload_n 0, 1) := by decide +kernel
theorem dX8_tells_72 : decode cX8_tells 72 = .ok (.getfield 65, 3) := by decide +kernel
theorem dX8_tells_75 : decode cX8_tells 75 = .ok (.iload_n 3, 1) := by decide +kernel
theorem dX8_tells_76 : decode cX8_tells 76 = .ok (.bipush 7, 2) := by decide +kernel
theorem dX8_tells_78 : decode cX8_tells 78 = .ok (.iadd, 1) := by decide +kernel
theorem dX8_tells_79 : decode cX8_tells 79 = .ok (.iload 4, 2) := by decide +kernel
theorem dX8_tells_81 : decode cX8_tells 81 = .ok (.iadd, 1) := by decide +kernel
theorem dX8_tells_82 : decode cX8_tells 82 = .ok (.aload_n 0, 1) := by decide +kernel
theorem dX8_tells_83 : decode cX8_tells 83 = .ok (.getfield 59, 3) := by decide +kernel
theorem dX8_tells_86 : decode cX8_tells 86 = .ok (.iload 4, 2) := by decide +kernel
theorem dX8_tells_88 : decode cX8_tells 88 = .ok (.iaload, 1) := by decide +kernel
theorem dX8_tells_89 : decode cX8_tells 89 = .ok (.iastore, 1) := by decide +kernel
theorem dX8_tells_90 : decode cX8_tells 90 = .ok (.aload_n 0, 1) := by decide +kernel
theorem dX8_tells_91 : decode cX8_tells 91 = .ok (.getfield 65, 3) := by decide +kernel
theorem dX8_tells_94 : decode cX8_tells 94 = .ok (.iload_n 3, 1) := by decide +kernel
theorem dX8_tells_95 : decode cX8_tells 95 = .ok (.bipush 11, 2) := by decide +kernel
theorem dX8_tells_97 : decode cX8_tells 97 = .ok (.iadd, 1) := by decide +kernel
theorem dX8_tells_98 : decode cX8_tells 98 = .ok (.iload 4, 2) := by decide +kernel
theorem dX8_tells_100 : decode cX8_tells 100 = .ok (.iadd, 1) := by decide +kernel
theorem dX8_tells_101 : decode cX8_tells 101 = .ok (.aload_n 0, 1) := by decide +kernel
theorem dX8_tells_102 : decode cX8_tells 102 = .ok (.getfield 62, 3) := by decide +kernel
theorem dX8_tells_105 : decode cX8_tells 105 = .ok (.iload 4, 2) := by decide +kernel
theorem dX8_tells_107 : decode cX8_tells 107 = .ok (.iaload, 1) := by decide +kernel
theorem dX8_tells_108 : decode cX8_tells 108 = .ok (.iastore, 1) := by decide +kernel
theorem dX8_tells_109 : decode cX8_tells 109 = .ok (.iinc 4 1, 3) := by decide +kernel
theorem dX8_tells_112 : decode cX8_tells 112 = .ok (.goto (-65), 3) := by decide +kernel
theorem dX8_tells_115 : decode cX8_tells 115 = .ok (.aload_n 0, 1) := by decide +kernel
theorem dX8_tells_116 : decode cX8_tells 116 = .ok (.getfield 65, 3) := by decide +kernel
theorem dX8_tells_119 : decode cX8_tells 119 = .ok (.iload_n 3, 1) := by decide +kernel
theorem dX8_tells_120 : decode cX8_tells 120 = .ok (.bipush 6, 2) := by decide +kernel
theorem dX8_tells_122 : decode cX8_tells 122 = .ok (.iadd, 1) := by decide +kernel
theorem dX8_tells_123 : decode cX8_tells 123 = .ok (.aload_n 0, 1) := by decide +kernel
theorem dX8_tells_124 : decode cX8_tells 124 = .ok (.getfield 288, 3) := by decide +kernel
theorem dX8_tells_127 : decode cX8_tells 127 = .ok (.iastore, 1) := by decide +kernel
theorem dX8_tells_128 : decode cX8_tells 128 = .ok (.aload_n 0, 1) := by decide +kernel
theorem dX8_tells_129 : decode cX8_tells 129 = .ok (.getfield 65, 3) := by decide +kernel
theorem dX8_tells_132 : decode cX8_tells 132 = .ok (.iload_n 3, 1) := by decide +kernel
theorem dX8_tells_133 : decode cX8_tells 133 = .ok (.bipush 10, 2) := by decide +kernel
theorem dX8_tells_135 : decode cX8_tells 135 = .ok (.iadd, 1) := by decide +kernel
theorem dX8_tells_136 : decode cX8_tells 136 = .ok (.aload_n 0, 1) := by decide +kernel
theorem dX8_tells_137 : decode cX8_tells 137 = .ok (.getfield 300, 3) := by decide +kernel
theorem dX8_tells_140 : decode cX8_tells 140 = .ok (.iastore, 1) := by decide +kernel
theorem dX8_tells_141 : decode cX8_tells 141 = .ok (.aload_n 0, 1) := by decide +kernel
theorem dX8_tells_142 : decode cX8_tells 142 = .ok (.getfield 65, 3) := by decide +kernel
theorem dX8_tells_145 : decode cX8_tells 145 = .ok (.iload_n 3, 1) := by decide +kernel
theorem dX8_tells_146 : decode cX8_tells 146 = .ok (.bipush 14, 2) := by decide +kernel
theorem dX8_tells_148 : decode cX8_tells 148 = .ok (.iadd, 1) := by decide +kernel
theorem dX8_tells_149 : decode cX8_tells 149 = .ok (.aload_n 0, 1) := by decide +kernel
theorem dX8_tells_150 : decode cX8_tells 150 = .ok (.getfield 307, 3) := by decide +kernel
theorem dX8_tells_153 : decode cX8_tells 153 = .ok (.ifCond .eq 7, 3) := by decide +kernel
theorem dX8_tells_156 : decode cX8_tells 156 = .ok (.iconst 1, 1) := by decide +kernel
theorem dX8_tells_157 : decode cX8_tells 157 = .ok (.goto 4, 3) := by decide +kernel
theorem dX8_tells_160 : decode cX8_tells 160 = .ok (.iconst 0, 1) := by decide +kernel
theorem dX8_tells_161 : decode cX8_tells 161 = .ok (.iastore, 1) := by decide +kernel
theorem dX8_tells_162 : decode cX8_tells 162 = .ok (.aload_n 0, 1) := by decide +kernel
theorem dX8_tells_163 : decode cX8_tells 163 = .ok (.getfield 65, 3) := by decide +kernel
theorem dX8_tells_166 : decode cX8_tells 166 = .ok (.iload_n 3, 1) := by decide +kernel
theorem dX8_tells_167 : decode cX8_tells 167 = .ok (.bipush 15, 2) := by decide +kernel
theorem dX8_tells_169 : decode cX8_tells 169 = .ok (.iadd, 1) := by decide +kernel
theorem dX8_tells_170 : decode cX8_tells 170 = .ok (.aload_n 0, 1) := by decide +kernel
theorem dX8_tells_171 : decode cX8_tells 171 = .ok (.getfield 311, 3) := by decide +kernel
theorem dX8_tells_174 : decode cX8_tells 174 = .ok (.ifCond .eq 7, 3) := by decide +kernel
theorem dX8_tells_177 : decode cX8_tells 177 = .ok (.iconst 1, 1) := by decide +kernel
theorem dX8_tells_178 : decode cX8_tells 178 = .ok (.goto 4, 3) := by decide +kernel
theorem dX8_tells_181 : decode cX8_tells 181 = .ok (.iconst 0, 1) := by decide +kernel
theorem dX8_tells_182 : decode cX8_tells 182 = .ok (.iastore, 1) := by decide +kernel
theorem dX8_tells_183 : decode cX8_tells 183 = .ok (.aload_n 0, 1) := by decide +kernel
theorem dX8_tells_184 : decode cX8_tells 184 = .ok (.getfield 65, 3) := by decide +kernel
theorem dX8_tells_187 : decode cX8_tells 187 = .ok (.iload_n 3, 1) := by decide +kernel
theorem dX8_tells_188 : decode cX8_tells 188 = .ok (.bipush 16, 2) := by decide +kernel
theorem dX8_tells_190 : decode cX8_tells 190 = .ok (.iadd, 1) := by decide +kernel
theorem dX8_tells_191 : decode cX8_tells 191 = .ok (.aload_n 0, 1) := by decide +kernel
theorem dX8_tells_192 : decode cX8_tells 192 = .ok (.getfield 317, 3) := by decide +kernel
theorem dX8_tells_195 : decode cX8_tells 195 = .ok (.iastore, 1) := by decide +kernel
theorem dX8_tells_196 : decode cX8_tells 196 = .ok (.aload_n 0, 1) := by decide +kernel
theorem dX8_tells_197 : decode cX8_tells 197 = .ok (.getfield 65, 3) := by decide +kernel
theorem dX8_tells_200 : decode cX8_tells 200 = .ok (.iload_n 3, 1) := by decide +kernel
theorem dX8_tells_201 : decode cX8_tells 201 = .ok (.bipush 17, 2) := by decide +kernel
theorem dX8_tells_203 : decode cX8_tells 203 = .ok (.iadd, 1) := by decide +kernel
theorem dX8_tells_204 : decode cX8_tells 204 = .ok (.aload_n 0, 1) := by decide +kernel
theorem dX8_tells_205 : decode cX8_tells 205 = .ok (.getfield 20, 3) := by decide +kernel
theorem dX8_tells_208 : decode cX8_tells 208 = .ok (.iload_n 1, 1) := by decide +kernel
theorem dX8_tells_209 : decode cX8_tells 209 = .ok (.invokestatic 121, 3) := by decide +kernel
theorem dX8_tells_212 : decode cX8_tells 212 = .ok (.iconst 4, 1) := by decide +kernel
theorem dX8_tells_213 : decode cX8_tells 213 = .ok (.iadd, 1) := by decide +kernel
theorem dX8_tells_214 : decode cX8_tells 214 = .ok (.iaload, 1) := by decide +kernel
theorem dX8_tells_215 : decode cX8_tells 215 = .ok (.iastore, 1) := by decide +kernel
theorem dX8_tells_216 : decode cX8_tells 216 = .ok (.aload_n 0, 1) := by decide +kernel
theorem dX8_tells_217 : decode cX8_tells 217 = .ok (.getfield 65, 3) := by decide +kernel
theorem dX8_tells_220 : decode cX8_tells 220 = .ok (.iload_n 3, 1) := by decide +kernel
theorem dX8_tells_221 : decode cX8_tells 221 = .ok (.bipush 18, 2) := by decide +kernel
theorem dX8_tells_223 : decode cX8_tells 223 = .ok (.iadd, 1) := by decide +kernel
theorem dX8_tells_224 : decode cX8_tells 224 = .ok (.aload_n 0, 1) := by decide +kernel
theorem dX8_tells_225 : decode cX8_tells 225 = .ok (.getfield 20, 3) := by decide +kernel
theorem dX8_tells_228 : decode cX8_tells 228 = .ok (.iload_n 2, 1) := by decide +kernel
theorem dX8_tells_229 : decode cX8_tells 229 = .ok (.invokestatic 121, 3) := by decide +kernel
theorem dX8_tells_232 : decode cX8_tells 232 = .ok (.iconst 4, 1) := by decide +kernel
theorem dX8_tells_233 : decode cX8_tells 233 = .ok (.iadd, 1) := by decide +kernel
theorem dX8_tells_234 : decode cX8_tells 234 = .ok (.iaload, 1) := by decide +kernel
theorem dX8_tells_235 : decode cX8_tells 235 = .ok (.iastore, 1) := by decide +kernel
theorem dX8_tells_236 : decode cX8_tells 236 = .ok (.iconst 0, 1) := by decide +kernel
theorem dX8_tells_237 : decode cX8_tells 237 = .ok (.istore 4, 2) := by decide +kernel
theorem dX8_tells_239 : decode cX8_tells 239 = .ok (.iload 4, 2) := by decide +kernel
theorem dX8_tells_241 : decode cX8_tells 241 = .ok (.bipush 6, 2) := by decide +kernel
theorem dX8_tells_243 : decode cX8_tells 243 = .ok (.if_icmp .ge 161, 3) := by decide +kernel
theorem dX8_tells_246 : decode cX8_tells 246 = .ok (.aload_n 0, 1) := by decide +kernel
theorem dX8_tells_247 : decode cX8_tells 247 = .ok (.iload_n 2, 1) := by decide +kernel
theorem dX8_tells_248 : decode cX8_tells 248 = .ok (.iload 4, 2) := by decide +kernel
theorem dX8_tells_250 : decode cX8_tells 250 = .ok (.invokevirtual 128, 3) := by decide +kernel
theorem dX8_tells_253 : decode cX8_tells 253 = .ok (.istore 5, 2) := by decide +kernel
theorem dX8_tells_255 : decode cX8_tells 255 = .ok (.aload_n 0, 1) := by decide +kernel
theorem dX8_tells_256 : decode cX8_tells 256 = .ok (.iload_n 1, 1) := by decide +kernel
theorem dX8_tells_257 : decode cX8_tells 257 = .ok (.iload 4, 2) := by decide +kernel
theorem dX8_tells_259 : decode cX8_tells 259 = .ok (.invokevirtual 128, 3) := by decide +kernel
theorem dX8_tells_262 : decode cX8_tells 262 = .ok (.istore 6, 2) := by decide +kernel
theorem dX8_tells_264 : decode cX8_tells 264 = .ok (.iload 5, 2) := by decide +kernel
theorem dX8_tells_266 : decode cX8_tells 266 = .ok (.ifCond .eq 35, 3) := by decide +kernel
theorem dX8_tells_269 : decode cX8_tells 269 = .ok (.aload_n 0, 1) := by decide +kernel
theorem dX8_tells_270 : decode cX8_tells 270 = .ok (.getfield 71, 3) := by decide +kernel
theorem dX8_tells_273 : decode cX8_tells 273 = .ok (.bipush 6, 2) := by decide +kernel
theorem dX8_tells_275 : decode cX8_tells 275 = .ok (.iload_n 2, 1) := by decide +kernel
theorem dX8_tells_276 : decode cX8_tells 276 = .ok (.imul, 1) := by decide +kernel
theorem dX8_tells_277 : decode cX8_tells 277 = .ok (.iload 4, 2) := by decide +kernel
theorem dX8_tells_279 : decode cX8_tells 279 = .ok (.iadd, 1) := by decide +kernel
theorem dX8_tells_280 : decode cX8_tells 280 = .ok (.iaload, 1) := by decide +kernel
theorem dX8_tells_281 : decode cX8_tells 281 = .ok (.iconst (-1), 1) := by decide +kernel
theorem dX8_tells_282 : decode cX8_tells 282 = .ok (.if_icmp .ne 19, 3) := by decide +kernel
theorem dX8_tells_285 : decode cX8_tells 285 = .ok (.aload_n 0, 1) := by decide +kernel
theorem dX8_tells_286 : decode cX8_tells 286 = .ok (.getfield 71, 3) := by decide +kernel
theorem dX8_tells_289 : decode cX8_tells 289 = .ok (.bipush 6, 2) := by decide +kernel
theorem dX8_tells_291 : decode cX8_tells 291 = .ok (.iload_n 2, 1) := by decide +kernel
theorem dX8_tells_292 : decode cX8_tells 292 = .ok (.imul, 1) := by decide +kernel
theorem dX8_tells_293 : decode cX8_tells 293 = .ok (.iload 4, 2) := by decide +kernel
theorem dX8_tells_295 : decode cX8_tells 295 = .ok (.iadd, 1) := by decide +kernel
theorem dX8_tells_296 : decode cX8_tells 296 = .ok (.aload_n 0, 1) := by decide +kernel
theorem dX8_tells_297 : decode cX8_tells 297 = .ok (.getfield 329, 3) := by decide +kernel
theorem dX8_tells_300 : decode cX8_tells 300 = .ok (.iastore, 1) := by decide +kernel
theorem dX8_tells_301 : decode cX8_tells 301 = .ok (.iload 6, 2) := by decide +kernel
theorem dX8_tells_303 : decode cX8_tells 303 = .ok (.ifCond .eq 35, 3) := by decide +kernel
theorem dX8_tells_306 : decode cX8_tells 306 = .ok (.aload_n 0, 1) := by decide +kernel
theorem dX8_tells_307 : decode cX8_tells 307 = .ok (.getfield 71, 3) := by decide +kernel
theorem dX8_tells_310 : decode cX8_tells 310 = .ok (.bipush 6, 2) := by decide +kernel
theorem dX8_tells_312 : decode cX8_tells 312 = .ok (.iload_n 1, 1) := by decide +kernel
theorem dX8_tells_313 : decode cX8_tells 313 = .ok (.imul, 1) := by decide +kernel
theorem dX8_tells_314 : decode cX8_tells 314 = .ok (.iload 4, 2) := by decide +kernel
theorem dX8_tells_316 : decode cX8_tells 316 = .ok (.iadd, 1) := by decide +kernel
theorem dX8_tells_317 : decode cX8_tells 317 = .ok (.iaload, 1) := by decide +kernel
theorem dX8_tells_318 : decode cX8_tells 318 = .ok (.iconst (-1), 1) := by decide +kernel
theorem dX8_tells_319 : decode cX8_tells 319 = .ok (.if_icmp .ne 19, 3) := by decide +kernel
theorem dX8_tells_322 : decode cX8_tells 322 = .ok (.aload_n 0, 1) := by decide +kernel
theorem dX8_tells_323 : decode cX8_tells 323 = .ok (.getfield 71, 3) := by decide +kernel
theorem dX8_tells_326 : decode cX8_tells 326 = .ok (.bipush 6, 2) := by decide +kernel
theorem dX8_tells_328 : decode cX8_tells 328 = .ok (.iload_n 1, 1) := by decide +kernel
theorem dX8_tells_329 : decode cX8_tells 329 = .ok (.imul, 1) := by decide +kernel
theorem dX8_tells_330 : decode cX8_tells 330 = .ok (.iload 4, 2) := by decide +kernel
theorem dX8_tells_332 : decode cX8_tells 332 = .ok (.iadd, 1) := by decide +kernel
theorem dX8_tells_333 : decode cX8_tells 333 = .ok (.aload_n 0, 1) := by decide +kernel
theorem dX8_tells_334 : decode cX8_tells 334 = .ok (.getfield 329, 3) := by decide +kernel
theorem dX8_tells_337 : decode cX8_tells 337 = .ok (.iastore, 1) := by decide +kernel
theorem dX8_tells_338 : decode cX8_tells 338 = .ok (.aload_n 0, 1) := by decide +kernel
theorem dX8_tells_339 : decode cX8_tells 339 = .ok (.getfield 68, 3) := by decide +kernel
theorem dX8_tells_342 : decode cX8_tells 342 = .ok (.iconst 2, 1) := by decide +kernel
theorem dX8_tells_343 : decode cX8_tells 343 = .ok (.iload 4, 2) := by decide +kernel
theorem dX8_tells_345 : decode cX8_tells 345 = .ok (.imul, 1) := by decide +kernel
theorem dX8_tells_346 : decode cX8_tells 346 = .ok (.iaload, 1) := by decide +kernel
theorem dX8_tells_347 : decode cX8_tells 347 = .ok (.iconst (-1), 1) := by decide +kernel
theorem dX8_tells_348 : decode cX8_tells 348 = .ok (.if_icmp .ne 50, 3) := by decide +kernel
theorem dX8_tells_351 : decode cX8_tells 351 = .ok (.iload 5, 2) := by decide +kernel
theorem dX8_tells_353 : decode cX8_tells 353 = .ok (.ifCond .ne 11, 3) := by decide +kernel
theorem dX8_tells_356 : decode cX8_tells 356 = .ok (.iload 6, 2) := by decide +kernel
theorem dX8_tells_358 : decode cX8_tells 358 = .ok (.ifCond .ne 6, 3) := by decide +kernel
theorem dX8_tells_361 : decode cX8_tells 361 = .ok (.goto 37, 3) := by decide +kernel
theorem dX8_tells_364 : decode cX8_tells 364 = .ok (.aload_n 0, 1) := by decide +kernel
theorem dX8_tells_365 : decode cX8_tells 365 = .ok (.getfield 68, 3) := by decide +kernel
theorem dX8_tells_368 : decode cX8_tells 368 = .ok (.iconst 2, 1) := by decide +kernel
theorem dX8_tells_369 : decode cX8_tells 369 = .ok (.iload 4, 2) := by decide +kernel
theorem dX8_tells_371 : decode cX8_tells 371 = .ok (.imul, 1) := by decide +kernel
theorem dX8_tells_372 : decode cX8_tells 372 = .ok (.iload 5, 2) := by decide +kernel
theorem dX8_tells_374 : decode cX8_tells 374 = .ok (.ifCond .eq 7, 3) := by decide +kernel
theorem dX8_tells_377 : decode cX8_tells 377 = .ok (.iload_n 2, 1) := by decide +kernel
theorem dX8_tells_378 : decode cX8_tells 378 = .ok (.goto 4, 3) := by decide +kernel
theorem dX8_tells_381 : decode cX8_tells 381 = .ok (.iload_n 1, 1) := by decide +kernel
theorem dX8_tells_382 : decode cX8_tells 382 = .ok (.iastore, 1) := by decide +kernel
theorem dX8_tells_383 : decode cX8_tells 383 = .ok (.aload_n 0, 1) := by decide +kernel
theorem dX8_tells_384 : decode cX8_tells 384 = .ok (.getfield 68, 3) := by decide +kernel
theorem dX8_tells_387 : decode cX8_tells 387 = .ok (.iconst 2, 1) := by decide +kernel
theorem dX8_tells_388 : decode cX8_tells 388 = .ok (.iload 4, 2) := by decide +kernel
theorem dX8_tells_390 : decode cX8_tells 390 = .ok (.imul, 1) := by decide +kernel
theorem dX8_tells_391 : decode cX8_tells 391 = .ok (.iconst 1, 1) := by decide +kernel
theorem dX8_tells_392 : decode cX8_tells 392 = .ok (.iadd, 1) := by decide +kernel
theorem dX8_tells_393 : decode cX8_tells 393 = .ok (.aload_n 0, 1) := by decide +kernel
theorem dX8_tells_394 : decode cX8_tells 394 = .ok (.getfield 329, 3) := by decide +kernel
theorem dX8_tells_397 : decode cX8_tells 397 = .ok (.iastore, 1) := by decide +kernel
theorem dX8_tells_398 : decode cX8_tells 398 = .ok (.iinc 4 1, 3) := by decide +kernel
theorem dX8_tells_401 : decode cX8_tells 401 = .ok (.goto (-162), 3) := by decide +kernel
theorem dX8_tells_404 : decode cX8_tells 404 = .ok (.aload_n 0, 1) := by decide +kernel
theorem dX8_tells_405 : decode cX8_tells 405 = .ok (.dup, 1) := by decide +kernel
theorem dX8_tells_406 : decode cX8_tells 406 = .ok (.getfield 329, 3) := by decide +kernel
theorem dX8_tells_409 : decode cX8_tells 409 = .ok (.iconst 1, 1) := by decide +kernel
theorem dX8_tells_410 : decode cX8_tells 410 = .ok (.iadd, 1) := by decide +kernel
theorem dX8_tells_411 : decode cX8_tells 411 = .ok (.putfield 329, 3) := by decide +kernel
theorem dX8_tells_414 : decode cX8_tells 414 = .ok (.aload_n 0, 1) := by decide +kernel
theorem dX8_tells_415 : decode cX8_tells 415 = .ok (.getfield 77, 3) := by decide +kernel
theorem dX8_tells_418 : decode cX8_tells 418 = .ok (.iconst (-1), 1) := by decide +kernel
theorem dX8_tells_419 : decode cX8_tells 419 = .ok (.if_icmp .ne 4, 3) := by decide +kernel
theorem dX8_tells_422 : decode cX8_tells 422 = .ok (.return_, 1) := by decide +kernel
theorem dX8_tells_423 : decode cX8_tells 423 = .ok (.aload_n 0, 1) := by decide +kernel
theorem dX8_tells_424 : decode cX8_tells 424 = .ok (.getfield 83, 3) := by decide +kernel
theorem dX8_tells_427 : decode cX8_tells 427 = .ok (.aload_n 0, 1) := by decide +kernel
theorem dX8_tells_428 : decode cX8_tells 428 = .ok (.getfield 77, 3) := by decide +kernel
theorem dX8_tells_431 : decode cX8_tells 431 = .ok (.dup2, 1) := by decide +kernel
theorem dX8_tells_432 : decode cX8_tells 432 = .ok (.iaload, 1) := by decide +kernel
theorem dX8_tells_433 : decode cX8_tells 433 = .ok (.iconst 1, 1) := by decide +kernel
theorem dX8_tells_434 : decode cX8_tells 434 = .ok (.iadd, 1) := by decide +kernel
theorem dX8_tells_435 : decode cX8_tells 435 = .ok (.iastore, 1) := by decide +kernel
theorem dX8_tells_436 : decode cX8_tells 436 = .ok (.aload_n 0, 1) := by decide +kernel
theorem dX8_tells_437 : decode cX8_tells 437 = .ok (.getfield 83, 3) := by decide +kernel
theorem dX8_tells_440 : decode cX8_tells 440 = .ok (.aload_n 0, 1) := by decide +kernel
theorem dX8_tells_441 : decode cX8_tells 441 = .ok (.getfield 77, 3) := by decide +kernel
theorem dX8_tells_444 : decode cX8_tells 444 = .ok (.iaload, 1) := by decide +kernel
theorem dX8_tells_445 : decode cX8_tells 445 = .ok (.bipush 100, 2) := by decide +kernel
theorem dX8_tells_447 : decode cX8_tells 447 = .ok (.if_icmp .ne 8, 3) := by decide +kernel
theorem dX8_tells_450 : decode cX8_tells 450 = .ok (.aload_n 0, 1) := by decide +kernel
theorem dX8_tells_451 : decode cX8_tells 451 = .ok (.iconst (-1), 1) := by decide +kernel
theorem dX8_tells_452 : decode cX8_tells 452 = .ok (.putfield 77, 3) := by decide +kernel
theorem dX8_tells_455 : decode cX8_tells 455 = .ok (.return_, 1) := by decide +kernel
theorem dX8_talk_0 : decode cX8_talk 0 = .ok (.aload_n 0, 1) := by decide +kernel
theorem dX8_talk_1 : decode cX8_talk 1 = .ok (.iconst 0, 1) := by decide +kernel
theorem dX8_talk_2 : decode cX8_talk 2 = .ok (.putfield 1, 3) := by decide +kernel
theorem dX8_talk_5 : decode cX8_talk 5 = .ok (.aload_n 0, 1) := by decide +kernel
theorem dX8_talk_6 : decode cX8_talk 6 = .ok (.iload_n 1, 1) := by decide +kernel
theorem dX8_talk_7 : decode cX8_talk 7 = .ok (.invokevirtual 125, 3) := by decide +kernel
theorem dX8_talk_10 : decode cX8_talk 10 = .ok (.ifCond .eq 58, 3) := by decide +kernel
theorem dX8_talk_13 : decode cX8_talk 13 = .ok (.aload_n 0, 1) := by decide +kernel
theorem dX8_talk_14 : decode cX8_talk 14 = .ok (.iload_n 2, 1) := by decide +kernel
theorem dX8_talk_15 : decode cX8_talk 15 = .ok (.invokevirtual 125, 3) := by decide +kernel
theorem dX8_talk_18 : decode cX8_talk 18 = .ok (.ifCond .eq 50, 3) := by decide +kernel
theorem dX8_talk_21 : decode cX8_talk 21 = .ok (.aload_n 0, 1) := by decide +kernel
theorem dX8_talk_22 : decode cX8_talk 22 = .ok (.iload_n 1, 1) := by decide +kernel
theorem dX8_talk_23 : decode cX8_talk 23 = .ok (.iload_n 2, 1) := by decide +kernel
theorem dX8_talk_24 : decode cX8_talk 24 = .ok (.if_icmp .eq 36, 3) := by decide +kernel
theorem dX8_talk_27 : decode cX8_talk 27 = .ok (.iload_n 3, 1) := by decide +kernel
theorem dX8_talk_28 : decode cX8_talk 28 = .ok (.iconst 0, 1) := by decide +kernel
theorem dX8_talk_29 : decode cX8_talk 29 = .ok (.iconst 3, 1) := by decide +kernel
theorem dX8_talk_30 : decode cX8_talk 30 = .ok (.invokestatic 106, 3) := by decide +kernel
theorem dX8_talk_33 : decode cX8_talk 33 = .ok (.ifCond .eq 27, 3) := by decide +kernel
theorem dX8_talk_36 : decode cX8_talk 36 = .ok (.iload 4, 2) := by decide +kernel
theorem dX8_talk_38 : decode cX8_talk 38 = .ok (.iconst 0, 1) := by decide +kernel
theorem dX8_talk_39 : decode cX8_talk 39 = .ok (.iconst 3, 1) := by decide +kernel
theorem dX8_talk_40 : decode cX8_talk 40 = .ok (.invokestatic 106, 3) := by decide +kernel
theorem dX8_talk_43 : decode cX8_talk 43 = .ok (.ifCond .eq 17, 3) := by decide +kernel
theorem dX8_talk_46 : decode cX8_talk 46 = .ok (.iload 5, 2) := by decide +kernel
theorem dX8_talk_48 : decode cX8_talk 48 = .ok (.iconst 0, 1) := by decide +kernel
theorem dX8_talk_49 : decode cX8_talk 49 = .ok (.iconst 3, 1) := by decide +kernel
theorem dX8_talk_50 : decode cX8_talk 50 = .ok (.invokestatic 106, 3) := by decide +kernel
theorem dX8_talk_53 : decode cX8_talk 53 = .ok (.ifCond .eq 7, 3) := by decide +kernel
theorem dX8_talk_56 : decode cX8_talk 56 = .ok (.iconst 1, 1) := by decide +kernel
theorem dX8_talk_57 : decode cX8_talk 57 = .ok (.goto 4, 3) := by decide +kernel
theorem dX8_talk_60 : decode cX8_talk 60 = .ok (.iconst 0, 1) := by decide +kernel
theorem dX8_talk_61 : decode cX8_talk 61 = .ok (.iconst 2, 1) := by decide +kernel
theorem dX8_talk_62 : decode cX8_talk 62 = .ok (.invokevirtual 110, 3) := by decide +kernel
theorem dX8_talk_65 : decode cX8_talk 65 = .ok (.ifCond .ne 5, 3) := by decide +kernel
theorem dX8_talk_68 : decode cX8_talk 68 = .ok (.iconst 0, 1) := by decide +kernel
theorem dX8_talk_69 : decode cX8_talk 69 = .ok (.ireturn, 1) := by decide +kernel
theorem dX8_talk_70 : decode cX8_talk 70 = .ok (.aload_n 0, 1) := by decide +kernel
theorem dX8_talk_71 : decode cX8_talk 71 = .ok (.getfield 329, 3) := by decide +kernel
theorem dX8_talk_74 : decode cX8_talk 74 = .ok (.sipush 1500, 3) := by decide +kernel
theorem dX8_talk_77 : decode cX8_talk 77 = .ok (.if_icmp .ne 5, 3) := by decide +kernel
theorem dX8_talk_80 : decode cX8_talk 80 = .ok (.iconst (-1), 1) := by decide +kernel
theorem dX8_talk_81 : decode cX8_talk 81 = .ok (.ireturn, 1) := by decide +kernel
theorem dX8_talk_82 : decode cX8_talk 82 = .ok (.aload_n 0, 1) := by decide +kernel
theorem dX8_talk_83 : decode cX8_talk 83 = .ok (.getfield 13, 3) := by decide +kernel
theorem dX8_talk_86 : decode cX8_talk 86 = .ok (.iload_n 1, 1) := by decide +kernel
theorem dX8_talk_87 : decode cX8_talk 87 = .ok (.invokestatic 121, 3) := by decide +kernel
theorem dX8_talk_90 : decode cX8_talk 90 = .ok (.iconst 3, 1) := by decide +kernel
theorem dX8_talk_91 : decode cX8_talk 91 = .ok (.iadd, 1) := by decide +kernel
theorem dX8_talk_92 : decode cX8_talk 92 = .ok (.iaload, 1) := by decide +kernel
theorem dX8_talk_93 : decode cX8_talk 93 = .ok (.ifCond .eq 42, 3) := by decide +kernel
theorem dX8_talk_96 : decode cX8_talk 96 = .ok (.aload_n 0, 1) := by decide +kernel
theorem dX8_talk_97 : decode cX8_talk 97 = .ok (.getfield 13, 3) := by decide +kernel
theorem dX8_talk_100 : decode cX8_talk 100 = .ok (.iload_n 2, 1) := by decide +kernel
theorem dX8_talk_101 : decode cX8_talk 101 = .ok (.invokestatic 121, 3) := by decide +kernel
theorem dX8_talk_104 : decode cX8_talk 104 = .ok (.iconst 3, 1) := by decide +kernel
theorem dX8_talk_105 : decode cX8_talk 105 = .ok (.iadd, 1) := by decide +kernel
theorem dX8_talk_106 : decode cX8_talk 106 = .ok (.iaload, 1) := by decide +kernel
theorem dX8_talk_107 : decode cX8_talk 107 = .ok (.ifCond .eq 28, 3) := by decide +kernel
theorem dX8_talk_110 : decode cX8_talk 110 = .ok (.aload_n 0, 1) := by decide +kernel
theorem dX8_talk_111 : decode cX8_talk 111 = .ok (.getfield 13, 3) := by decide +kernel
theorem dX8_talk_114 : decode cX8_talk 114 = .ok (.iload_n 1, 1) := by decide +kernel
theorem dX8_talk_115 : decode cX8_talk 115 = .ok (.invokestatic 121, 3) := by decide +kernel
theorem dX8_talk_118 : decode cX8_talk 118 = .ok (.iconst 0, 1) := by decide +kernel
theorem dX8_talk_119 : decode cX8_talk 119 = .ok (.iadd, 1) := by decide +kernel
theorem dX8_talk_120 : decode cX8_talk 120 = .ok (.iaload, 1) := by decide +kernel
theorem dX8_talk_121 : decode cX8_talk 121 = .ok (.aload_n 0, 1) := by decide +kernel
theorem dX8_talk_122 : decode cX8_talk 122 = .ok (.getfield 13, 3) := by decide +kernel
theorem dX8_talk_125 : decode cX8_talk 125 = .ok (.iload_n 2, 1) := by decide +kernel
theorem dX8_talk_126 : decode cX8_talk 126 = .ok (.invokestatic 121, 3) := by decide +kernel
theorem dX8_talk_129 : decode cX8_talk 129 = .ok (.iconst 0, 1) := by decide +kernel
theorem dX8_talk_130 : decode cX8_talk 130 = .ok (.iadd, 1) := by decide +kernel
theorem dX8_talk_131 : decode cX8_talk 131 = .ok (.iaload, 1) := by decide +kernel
theorem dX8_talk_132 : decode cX8_talk 132 = .ok (.if_icmp .eq 6, 3) := by decide +kernel
theorem dX8_talk_135 : decode cX8_talk 135 = .ok (.bipush (-2), 2) := by decide +kernel
theorem dX8_talk_137 : decode cX8_talk 137 = .ok (.ireturn, 1) := by decide +kernel
theorem dX8_talk_138 : decode cX8_talk 138 = .ok (.aload_n 0, 1) := by decide +kernel
theorem dX8_talk_139 : decode cX8_talk 139 = .ok (.getfield 56, 3) := by decide +kernel
theorem dX8_talk_142 : decode cX8_talk 142 = .ok (.iconst 0, 1) := by decide +kernel
theorem dX8_talk_143 : decode cX8_talk 143 = .ok (.iload_n 3, 1) := by decide +kernel
theorem dX8_talk_144 : decode cX8_talk 144 = .ok (.iastore, 1) := by decide +kernel
theorem dX8_talk_145 : decode cX8_talk 145 = .ok (.aload_n 0, 1) := by decide +kernel
theorem dX8_talk_146 : decode cX8_talk 146 = .ok (.getfield 56, 3) := by decide +kernel
theorem dX8_talk_149 : decode cX8_talk 149 = .ok (.iconst 1, 1) := by decide +kernel
theorem dX8_talk_150 : decode cX8_talk 150 = .ok (.iload 4, 2) := by decide +kernel
theorem dX8_talk_152 : decode cX8_talk 152 = .ok (.iastore, 1) := by decide +kernel
theorem dX8_talk_153 : decode cX8_talk 153 = .ok (.aload_n 0, 1) := by decide +kernel
theorem dX8_talk_154 : decode cX8_talk 154 = .ok (.getfield 56, 3) := by decide +kernel
theorem dX8_talk_157 : decode cX8_talk 157 = .ok (.iconst 2, 1) := by decide +kernel
theorem dX8_talk_158 : decode cX8_talk 158 = .ok (.iload 5, 2) := by decide +kernel
theorem dX8_talk_160 : decode cX8_talk 160 = .ok (.iastore, 1) := by decide +kernel
theorem dX8_talk_161 : decode cX8_talk 161 = .ok (.aload_n 0, 1) := by decide +kernel
theorem dX8_talk_162 : decode cX8_talk 162 = .ok (.iload_n 1, 1) := by decide +kernel
theorem dX8_talk_163 : decode cX8_talk 163 = .ok (.iload_n 2, 1) := by decide +kernel
theorem dX8_talk_164 : decode cX8_talk 164 = .ok (.invokevirtual 332, 3) := by decide +kernel
theorem dX8_talk_167 : decode cX8_talk 167 = .ok (.aload_n 0, 1) := by decide +kernel
theorem dX8_talk_168 : decode cX8_talk 168 = .ok (.getfield 307, 3) := by decide +kernel
theorem dX8_talk_171 : decode cX8_talk 171 = .ok (.ifCond .eq 7, 3) := by decide +kernel
theorem dX8_talk_174 : decode cX8_talk 174 = .ok (.iconst 1, 1) := by decide +kernel
theorem dX8_talk_175 : decode cX8_talk 175 = .ok (.goto 4, 3) := by decide +kernel
theorem dX8_talk_178 : decode cX8_talk 178 = .ok (.iconst 0, 1) := by decide +kernel
theorem dX8_talk_179 : decode cX8_talk 179 = .ok (.ireturn, 1) := by decide +kernel
theorem dX8_findHere_0 : decode cX8_findHere 0 = .ok (.aload_n 0, 1) := by decide +kernel
theorem dX8_findHere_1 : decode cX8_findHere 1 = .ok (.iconst 0, 1) := by decide +kernel
theorem dX8_findHere_2 : decode cX8_findHere 2 = .ok (.putfield 335, 3) := by decide +kernel
theorem dX8_findHere_5 : decode cX8_findHere 5 = .ok (.iconst 0, 1) := by decide +kernel
theorem dX8_findHere_6 : decode cX8_findHere 6 = .ok (.istore_n 2, 1) := by decide +kernel
theorem dX8_findHere_7 : decode cX8_findHere 7 = .ok (.iload_n 2, 1) := by decide +kernel
theorem dX8_findHere_8 : decode cX8_findHere 8 = .ok (.aload_n 0, 1) := by decide +kernel
theorem dX8_findHere_9 : decode cX8_findHere 9 = .ok (.getfield 20, 3) := by decide +kernel
theorem dX8_findHere_12 : decode cX8_findHere 12 = .ok (.bipush 6, 2) := by decide +kernel
theorem dX8_findHere_14 : decode cX8_findHere 14 = .ok (.iaload, 1) := by decide +kernel
theorem dX8_findHere_15 : decode cX8_findHere 15 = .ok (.if_icmp .ge 61, 3) := by decide +kernel
theorem dX8_findHere_18 : decode cX8_findHere 18 = .ok (.aload_n 0, 1) := by decide +kernel
theorem dX8_findHere_19 : decode cX8_findHere 19 = .ok (.getfield 20, 3) := by decide +kernel
theorem dX8_findHere_22 : decode cX8_findHere 22 = .ok (.iload_n 2, 1) := by decide +kernel
theorem dX8_findHere_23 : decode cX8_findHere 23 = .ok (.invokestatic 121, 3) := by decide +kernel
theorem dX8_findHere_26 : decode cX8_findHere 26 = .ok (.iconst 3, 1) := by decide +kernel
theorem dX8_findHere_27 : decode cX8_findHere 27 = .ok (.iadd, 1) := by decide +kernel
theorem dX8_findHere_28 : decode cX8_findHere 28 = .ok (.iaload, 1) := by decide +kernel
theorem dX8_findHere_29 : decode cX8_findHere 29 = .ok (.ifCond .eq 41, 3) := by decide +kernel
theorem dX8_findHere_32 : decode cX8_findHere 32 = .ok (.aload_n 0, 1) := by decide +kernel
theorem dX8_findHere_33 : decode cX8_findHere 33 = .ok (.getfield 20, 3) := by decide +kernel
theorem dX8_findHere_36 : decode cX8_findHere 36 = .ok (.iload_n 2, 1) := by decide +kernel
theorem dX8_findHere_37 : decode cX8_findHere 37 = .ok (.invokestatic 121, 3) := by decide +kernel
theorem dX8_findHere_40 : decode cX8_findHere 40 = .ok (.iconst 0, 1) := by decide +kernel
theorem dX8_findHere_41 : decode cX8_findHere 41 = .ok (.iadd, 1) := by decide +kernel
theorem dX8_findHere_42 : decode cX8_findHere 42 = .ok (.iaload, 1) := by decide +kernel
theorem dX8_findHere_43 : decode cX8_findHere 43 = .ok (.iload_n 1, 1) := by decide +kernel
theorem dX8_findHere_44 : decode cX8_findHere 44 = .ok (.if_icmp .eq 6, 3) := by decide +kernel
theorem dX8_findHere_47 : decode cX8_findHere 47 = .ok (.goto 23, 3) := by decide +kernel
theorem dX8_findHere_50 : decode cX8_findHere 50 = .ok (.aload_n 0, 1) := by decide +kernel
theorem dX8_findHere_51 : decode cX8_findHere 51 = .ok (.getfield 74, 3) := by decide +kernel
theorem dX8_findHere_54 : decode cX8_findHere 54 = .ok (.aload_n 0, 1) := by decide +kernel
theorem dX8_findHere_55 : decode cX8_findHere 55 = .ok (.getfield 335, 3) := by decide +kernel
theorem dX8_findHere_58 : decode cX8_findHere 58 = .ok (.iload_n 2, 1) := by decide +kernel
theorem dX8_findHere_59 : decode cX8_findHere 59 = .ok (.iastore, 1) := by decide +kernel
theorem dX8_findHere_60 : decode cX8_findHere 60 = .ok (.aload_n 0, 1) := by decide +kernel
theorem dX8_findHere_61 : decode cX8_findHere 61 = .ok (.dup, 1) := by decide +kernel
theorem dX8_findHere_62 : decode cX8_findHere 62 = .ok (.getfield 335, 3) := by decide +kernel
theorem dX8_findHere_65 : decode cX8_findHere 65 = .ok (.iconst 1, 1) := by decide +kernel
theorem dX8_findHere_66 : decode cX8_findHere 66 = .ok (.iadd, 1) := by decide +kernel
theorem dX8_findHere_67 : decode cX8_findHere 67 = .ok (.putfield 335, 3) := by decide +kernel
theorem dX8_findHere_70 : decode cX8_findHere 70 = .ok (.iinc 2 1, 3) := by decide +kernel
theorem dX8_findHere_73 : decode cX8_findHere 73 = .ok (.goto (-66), 3) := by decide +kernel
theorem dX8_findHere_76 : decode cX8_findHere 76 = .ok (.return_, 1) := by decide +kernel
theorem dX8_draws_0 : decode cX8_draws 0 = .ok (.aload_n 0, 1) := by decide +kernel
theorem dX8_draws_1 : decode cX8_draws 1 = .ok (.iconst 0, 1) := by decide +kernel
theorem dX8_draws_2 : decode cX8_draws 2 = .ok (.aload_n 0, 1) := by decide +kernel
theorem dX8_draws_3 : decode cX8_draws 3 = .ok (.getfield 335, 3) := by decide +kernel
theorem dX8_draws_6 : decode cX8_draws 6 = .ok (.invokevirtual 279, 3) := by decide +kernel
theorem dX8_draws_9 : decode cX8_draws 9 = .ok (.istore_n 1, 1) := by decide +kernel
theorem dX8_draws_10 : decode cX8_draws 10 = .ok (.aload_n 0, 1) := by decide +kernel
theorem dX8_draws_11 : decode cX8_draws 11 = .ok (.iconst 0, 1) := by decide +kernel
theorem dX8_draws_12 : decode cX8_draws 12 = .ok (.aload_n 0, 1) := by decide +kernel
theorem dX8_draws_13 : decode cX8_draws 13 = .ok (.getfield 335, 3) := by decide +kernel
theorem dX8_draws_16 : decode cX8_draws 16 = .ok (.iconst 1, 1) := by decide +kernel
theorem dX8_draws_17 : decode cX8_draws 17 = .ok (.isub, 1) := by decide +kernel
theorem dX8_draws_18 : decode cX8_draws 18 = .ok (.invokevirtual 279, 3) := by decide +kernel
theorem dX8_draws_21 : decode cX8_draws 21 = .ok (.istore_n 2, 1) := by decide +kernel
theorem dX8_draws_22 : decode cX8_draws 22 = .ok (.iload_n 2, 1) := by decide +kernel
theorem dX8_draws_23 : decode cX8_draws 23 = .ok (.iload_n 1, 1) := by decide +kernel
theorem dX8_draws_24 : decode cX8_draws 24 = .ok (.if_icmp .lt 9, 3) := by decide +kernel
theorem dX8_draws_27 : decode cX8_draws 27 = .ok (.iload_n 2, 1) := by decide +kernel
theorem dX8_draws_28 : decode cX8_draws 28 = .ok (.iconst 1, 1) := by decide +kernel
theorem dX8_draws_29 : decode cX8_draws 29 = .ok (.iadd, 1) := by decide +kernel
theorem dX8_draws_30 : decode cX8_draws 30 = .ok (.goto 4, 3) := by decide +kernel
theorem dX8_draws_33 : decode cX8_draws 33 = .ok (.iload_n 2, 1) := by decide +kernel
theorem dX8_draws_34 : decode cX8_draws 34 = .ok (.istore_n 2, 1) := by decide +kernel
theorem dX8_draws_35 : decode cX8_draws 35 = .ok (.aload_n 0, 1) := by decide +kernel
theorem dX8_draws_36 : decode cX8_draws 36 = .ok (.aload_n 0, 1) := by decide +kernel
theorem dX8_draws_37 : decode cX8_draws 37 = .ok (.getfield 74, 3) := by decide +kernel
theorem dX8_draws_40 : decode cX8_draws 40 = .ok (.iload_n 1, 1) := by decide +kernel
theorem dX8_draws_41 : decode cX8_draws 41 = .ok (.iaload, 1) := by decide +kernel
theorem dX8_draws_42 : decode cX8_draws 42 = .ok (.putfield 338, 3) := by decide +kernel
theorem dX8_draws_45 : decode cX8_draws 45 = .ok (.aload_n 0, 1) := by decide +kernel
theorem dX8_draws_46 : decode cX8_draws 46 = .ok (.aload_n 0, 1) := by decide +kernel
theorem dX8_draws_47 : decode cX8_draws 47 = .ok (.getfield 74, 3) := by decide +kernel
theorem dX8_draws_50 : decode cX8_draws 50 = .ok (.iload_n 2, 1) := by decide +kernel
theorem dX8_draws_51 : decode cX8_draws 51 = .ok (.iaload, 1) := by decide +kernel
theorem dX8_draws_52 : decode cX8_draws 52 = .ok (.putfield 341, 3) := by decide +kernel
theorem dX8_draws_55 : decode cX8_draws 55 = .ok (.iconst 0, 1) := by decide +kernel
theorem dX8_draws_56 : decode cX8_draws 56 = .ok (.istore_n 3, 1) := by decide +kernel
theorem dX8_draws_57 : decode cX8_draws 57 = .ok (.iload_n 3, 1) := by decide +kernel
theorem dX8_draws_58 : decode cX8_draws 58 = .ok (.iconst 3, 1) := by decide +kernel
theorem dX8_draws_59 : decode cX8_draws 59 = .ok (.if_icmp .ge 21, 3) := by decide +kernel
theorem dX8_draws_62 : decode cX8_draws 62 = .ok (.aload_n 0, 1) := by decide +kernel
theorem dX8_draws_63 : decode cX8_draws 63 = .ok (.getfield 56, 3) := by decide +kernel
theorem dX8_draws_66 : decode cX8_draws 66 = .ok (.iload_n 3, 1) := by decide +kernel
theorem dX8_draws_67 : decode cX8_draws 67 = .ok (.aload_n 0, 1) := by decide +kernel
theorem dX8_draws_68 : decode cX8_draws 68 = .ok (.iconst 0, 1) := by decide +kernel
theorem dX8_draws_69 : decode cX8_draws 69 = .ok (.iconst 4, 1) := by decide +kernel
theorem dX8_draws_70 : decode cX8_draws 70 = .ok (.invokevirtual 279, 3) := by decide +kernel
theorem dX8_draws_73 : decode cX8_draws 73 = .ok (.iastore, 1) := by decide +kernel
theorem dX8_draws_74 : decode cX8_draws 74 = .ok (.iinc 3 1, 3) := by decide +kernel
theorem dX8_draws_77 : decode cX8_draws 77 = .ok (.goto (-20), 3) := by decide +kernel
theorem dX8_draws_80 : decode cX8_draws 80 = .ok (.return_, 1) := by decide +kernel
theorem dX8_run_0 : decode cX8_run 0 = .ok (.aload_n 0, 1) := by decide +kernel
theorem dX8_run_1 : decode cX8_run 1 = .ok (.iconst 0, 1) := by decide +kernel
theorem dX8_run_2 : decode cX8_run 2 = .ok (.putfield 1, 3) := by decide +kernel
theorem dX8_run_5 : decode cX8_run 5 = .ok (.aload_n 0, 1) := by decide +kernel
theorem dX8_run_6 : decode cX8_run 6 = .ok (.iload_n 1, 1) := by decide +kernel
theorem dX8_run_7 : decode cX8_run 7 = .ok (.invokestatic 117, 3) := by decide +kernel
theorem dX8_run_10 : decode cX8_run 10 = .ok (.ifCond .eq 18, 3) := by decide +kernel
theorem dX8_run_13 : decode cX8_run 13 = .ok (.iload_n 2, 1) := by decide +kernel
theorem dX8_run_14 : decode cX8_run 14 = .ok (.iconst 0, 1) := by decide +kernel
theorem dX8_run_15 : decode cX8_run 15 = .ok (.sipush 200, 3) := by decide +kernel
theorem dX8_run_18 : decode cX8_run 18 = .ok (.invokestatic 106, 3) := by decide +kernel
theorem dX8_run_21 : decode cX8_run 21 = .ok (.ifCond .eq 7, 3) := by decide +kernel
theorem dX8_run_24 : decode cX8_run 24 = .ok (.iconst 1, 1) := by decide +kernel
theorem dX8_run_25 : decode cX8_run 25 = .ok (.goto 4, 3) := by decide +kernel
theorem dX8_run_28 : decode cX8_run 28 = .ok (.iconst 0, 1) := by decide +kernel
theorem dX8_run_29 : decode cX8_run 29 = .ok (.iconst 1, 1) := by decide +kernel
theorem dX8_run_30 : decode cX8_run 30 = .ok (.invokevirtual 110, 3) := by decide +kernel
theorem dX8_run_33 : decode cX8_run 33 = .ok (.ifCond .ne 5, 3) := by decide +kernel
theorem dX8_run_36 : decode cX8_run 36 = .ok (.iconst 0, 1) := by decide +kernel
theorem dX8_run_37 : decode cX8_run 37 = .ok (.ireturn, 1) := by decide +kernel
theorem dX8_run_38 : decode cX8_run 38 = .ok (.aload_n 0, 1) := by decide +kernel
theorem dX8_run_39 : decode cX8_run 39 = .ok (.iload_n 1, 1) := by decide +kernel
theorem dX8_run_40 : decode cX8_run 40 = .ok (.invokevirtual 344, 3) := by decide +kernel
theorem dX8_run_43 : decode cX8_run 43 = .ok (.iconst 0, 1) := by decide +kernel
theorem dX8_run_44 : decode cX8_run 44 = .ok (.istore_n 3, 1) := by decide +kernel
theorem dX8_run_45 : decode cX8_run 45 = .ok (.aload_n 0, 1) := by decide +kernel
theorem dX8_run_46 : decode cX8_run 46 = .ok (.getfield 335, 3) := by decide +kernel
theorem dX8_run_49 : decode cX8_run 49 = .ok (.iconst 2, 1) := by decide +kernel
theorem dX8_run_50 : decode cX8_run 50 = .ok (.if_icmp .lt 40, 3) := by decide +kernel
theorem dX8_run_53 : decode cX8_run 53 = .ok (.iload_n 3, 1) := by decide +kernel
theorem dX8_run_54 : decode cX8_run 54 = .ok (.iload_n 2, 1) := by decide +kernel
theorem dX8_run_55 : decode cX8_run 55 = .ok (.if_icmp .ge 35, 3) := by decide +kernel
theorem dX8_run_58 : decode cX8_run 58 = .ok (.aload_n 0, 1) := by decide +kernel
theorem dX8_run_59 : decode cX8_run 59 = .ok (.getfield 329, 3) := by decide +kernel
theorem dX8_run_62 : decode cX8_run 62 = .ok (.sipush 1500, 3) := by decide +kernel
theorem dX8_run_65 : decode cX8_run 65 = .ok (.if_icmp .ge 25, 3) := by decide +kernel
theorem dX8_run_68 : decode cX8_run 68 = .ok (.aload_n 0, 1) := by decide +kernel
theorem dX8_run_69 : decode cX8_run 69 = .ok (.invokevirtual 347, 3) := by decide +kernel
theorem dX8_run_72 : decode cX8_run 72 = .ok (.aload_n 0, 1) := by decide +kernel
theorem dX8_run_73 : decode cX8_run 73 = .ok (.aload_n 0, 1) := by decide +kernel
theorem dX8_run_74 : decode cX8_run 74 = .ok (.getfield 338, 3) := by decide +kernel
theorem dX8_run_77 : decode cX8_run 77 = .ok (.aload_n 0, 1) := by decide +kernel
theorem dX8_run_78 : decode cX8_run 78 = .ok (.getfield 341, 3) := by decide +kernel
theorem dX8_run_81 : decode cX8_run 81 = .ok (.invokevirtual 332, 3) := by decide +kernel
theorem dX8_run_84 : decode cX8_run 84 = .ok (.iinc 3 1, 3) := by decide +kernel
theorem dX8_run_87 : decode cX8_run 87 = .ok (.goto (-42), 3) := by decide +kernel
theorem dX8_run_90 : decode cX8_run 90 = .ok (.iload_n 3, 1) := by decide +kernel
theorem dX8_run_91 : decode cX8_run 91 = .ok (.ireturn, 1) := by decide +kernel
theorem dX8_note_0 : decode cX8_note 0 = .ok (.aload_n 0, 1) := by decide +kernel
theorem dX8_note_1 : decode cX8_note 1 = .ok (.iconst 0, 1) := by decide +kernel
theorem dX8_note_2 : decode cX8_note 2 = .ok (.putfield 1, 3) := by decide +kernel
theorem dX8_note_5 : decode cX8_note 5 = .ok (.aload_n 0, 1) := by decide +kernel
theorem dX8_note_6 : decode cX8_note 6 = .ok (.iload_n 1, 1) := by decide +kernel
theorem dX8_note_7 : decode cX8_note 7 = .ok (.iconst 0, 1) := by decide +kernel
theorem dX8_note_8 : decode cX8_note 8 = .ok (.aload_n 0, 1) := by decide +kernel
theorem dX8_note_9 : decode cX8_note 9 = .ok (.getfield 329, 3) := by decide +kernel
theorem dX8_note_12 : decode cX8_note 12 = .ok (.iconst 1, 1) := by decide +kernel
theorem dX8_note_13 : decode cX8_note 13 = .ok (.isub, 1) := by decide +kernel
theorem dX8_note_14 : decode cX8_note 14 = .ok (.invokestatic 106, 3) := by decide +kernel
theorem dX8_note_17 : decode cX8_note 17 = .ok (.iconst 1, 1) := by decide +kernel
theorem dX8_note_18 : decode cX8_note 18 = .ok (.invokevirtual 110, 3) := by decide +kernel
theorem dX8_note_21 : decode cX8_note 21 = .ok (.ifCond .eq 18, 3) := by decide +kernel
theorem dX8_note_24 : decode cX8_note 24 = .ok (.aload_n 0, 1) := by decide +kernel
theorem dX8_note_25 : decode cX8_note 25 = .ok (.iload_n 2, 1) := by decide +kernel
theorem dX8_note_26 : decode cX8_note 26 = .ok (.iconst 0, 1) := by decide +kernel
theorem dX8_note_27 : decode cX8_note 27 = .ok (.bipush 16, 2) := by decide +kernel
theorem dX8_note_29 : decode cX8_note 29 = .ok (.invokestatic 106, 3) := by decide +kernel
theorem dX8_note_32 : decode cX8_note 32 = .ok (.iconst 2, 1) := by decide +kernel
theorem dX8_note_33 : decode cX8_note 33 = .ok (.invokevirtual 110, 3) := by decide +kernel
theorem dX8_note_36 : decode cX8_note 36 = .ok (.ifCond .ne 5, 3) := by decide +kernel
theorem dX8_note_39 : decode cX8_note 39 = .ok (.iconst 0, 1) := by decide +kernel
theorem dX8_note_40 : decode cX8_note 40 = .ok (.ireturn, 1) := by decide +kernel
theorem dX8_note_41 : decode cX8_note 41 = .ok (.aload_n 0, 1) := by decide +kernel
theorem dX8_note_42 : decode cX8_note 42 = .ok (.getfield 65, 3) := by decide +kernel
theorem dX8_note_45 : decode cX8_note 45 = .ok (.bipush 20, 2) := by decide +kernel
theorem dX8_note_47 : decode cX8_note 47 = .ok (.iload_n 1, 1) := by decide +kernel
theorem dX8_note_48 : decode cX8_note 48 = .ok (.imul, 1) := by decide +kernel
theorem dX8_note_49 : decode cX8_note 49 = .ok (.iload_n 2, 1) := by decide +kernel
theorem dX8_note_50 : decode cX8_note 50 = .ok (.iadd, 1) := by decide +kernel
theorem dX8_note_51 : decode cX8_note 51 = .ok (.iaload, 1) := by decide +kernel
theorem dX8_note_52 : decode cX8_note 52 = .ok (.ireturn, 1) := by decide +kernel
theorem dX8_isKind_0 : decode cX8_isKind 0 = .ok (.iload_n 0, 1) := by decide +kernel
theorem dX8_isKind_1 : decode cX8_isKind 1 = .ok (.iconst (-1), 1) := by decide +kernel
theorem dX8_isKind_2 : decode cX8_isKind 2 = .ok (.iconst 3, 1) := by decide +kernel
theorem dX8_isKind_3 : decode cX8_isKind 3 = .ok (.invokestatic 106, 3) := by decide +kernel
theorem dX8_isKind_6 : decode cX8_isKind 6 = .ok (.ireturn, 1) := by decide +kernel
theorem dX8_share_0 : decode cX8_share 0 = .ok (.aload_n 0, 1) := by decide +kernel
theorem dX8_share_1 : decode cX8_share 1 = .ok (.iconst 0, 1) := by decide +kernel
theorem dX8_share_2 : decode cX8_share 2 = .ok (.putfield 1, 3) := by decide +kernel
theorem dX8_share_5 : decode cX8_share 5 = .ok (.aload_n 0, 1) := by decide +kernel
theorem dX8_share_6 : decode cX8_share 6 = .ok (.iload_n 2, 1) := by decide +kernel
theorem dX8_share_7 : decode cX8_share 7 = .ok (.invokestatic 350, 3) := by decide +kernel
theorem dX8_share_10 : decode cX8_share 10 = .ok (.ifCond .eq 14, 3) := by decide +kernel
theorem dX8_share_13 : decode cX8_share 13 = .ok (.iload_n 3, 1) := by decide +kernel
theorem dX8_share_14 : decode cX8_share 14 = .ok (.invokestatic 350, 3) := by decide +kernel
theorem dX8_share_17 : decode cX8_share 17 = .ok (.ifCond .eq 7, 3) := by decide +kernel
theorem dX8_share_20 : decode cX8_share 20 = .ok (.iconst 1, 1) := by decide +kernel
theorem dX8_share_21 : decode cX8_share 21 = .ok (.goto 4, 3) := by decide +kernel
theorem dX8_share_24 : decode cX8_share 24 = .ok (.iconst 0, 1) := by decide +kernel
theorem dX8_share_25 : decode cX8_share 25 = .ok (.iconst 1, 1) := by decide +kernel
theorem dX8_share_26 : decode cX8_share 26 = .ok (.invokevirtual 110, 3) := by decide +kernel
theorem dX8_share_29 : decode cX8_share 29 = .ok (.ifCond .ne 5, 3) := by decide +kernel
theorem dX8_share_32 : decode cX8_share 32 = .ok (.iconst 0, 1) := by decide +kernel
theorem dX8_share_33 : decode cX8_share 33 = .ok (.ireturn, 1) := by decide +kernel
theorem dX8_share_34 : decode cX8_share 34 = .ok (.iconst 0, 1) := by decide +kernel
theorem dX8_share_35 : decode cX8_share 35 = .ok (.istore 5, 2) := by decide +kernel
theorem dX8_share_37 : decode cX8_share 37 = .ok (.iconst 0, 1) := by decide +kernel
theorem dX8_share_38 : decode cX8_share 38 = .ok (.istore 6, 2) := by decide +kernel
theorem dX8_share_40 : decode cX8_share 40 = .ok (.iload 6, 2) := by decide +kernel
theorem dX8_share_42 : decode cX8_share 42 = .ok (.aload_n 0, 1) := by decide +kernel
theorem dX8_share_43 : decode cX8_share 43 = .ok (.getfield 329, 3) := by decide +kernel
theorem dX8_share_46 : decode cX8_share 46 = .ok (.if_icmp .ge 106, 3) := by decide +kernel
theorem dX8_share_49 : decode cX8_share 49 = .ok (.bipush 20, 2) := by decide +kernel
theorem dX8_share_51 : decode cX8_share 51 = .ok (.iload 6, 2) := by decide +kernel
theorem dX8_share_53 : decode cX8_share 53 = .ok (.imul, 1) := by decide +kernel
theorem dX8_share_54 : decode cX8_share 54 = .ok (.istore 7, 2) := by decide +kernel
theorem dX8_share_56 : decode cX8_share 56 = .ok (.aload_n 0, 1) := by decide +kernel
theorem dX8_share_57 : decode cX8_share 57 = .ok (.getfield 65, 3) := by decide +kernel
theorem dX8_share_60 : decode cX8_share 60 = .ok (.iload 7, 2) := by decide +kernel
theorem dX8_share_62 : decode cX8_share 62 = .ok (.iaload, 1) := by decide +kernel
theorem dX8_share_63 : decode cX8_share 63 = .ok (.iload_n 1, 1) := by decide +kernel
theorem dX8_share_64 : decode cX8_share 64 = .ok (.if_icmp .ne 45, 3) := by decide +kernel
theorem dX8_share_67 : decode cX8_share 67 = .ok (.iload_n 2, 1) := by decide +kernel
theorem dX8_share_68 : decode cX8_share 68 = .ok (.iconst (-1), 1) := by decide +kernel
theorem dX8_share_69 : decode cX8_share 69 = .ok (.if_icmp .eq 17, 3) := by decide +kernel
theorem dX8_share_72 : decode cX8_share 72 = .ok (.aload_n 0, 1) := by decide +kernel
theorem dX8_share_73 : decode cX8_share 73 = .ok (.getfield 65, 3) := by decide +kernel
theorem dX8_share_76 : decode cX8_share 76 = .ok (.iload 7, 2) := by decide +kernel
theorem dX8_share_78 : decode cX8_share 78 = .ok (.bipush 17, 2) := by decide +kernel
theorem dX8_share_80 : decode cX8_share 80 = .ok (.iadd, 1) := by decide +kernel
theorem dX8_share_81 : decode cX8_share 81 = .ok (.iaload, 1) := by decide +kernel
theorem dX8_share_82 : decode cX8_share 82 = .ok (.iload_n 2, 1) := by decide +kernel
theorem dX8_share_83 : decode cX8_share 83 = .ok (.if_icmp .ne 26, 3) := by decide +kernel
theorem dX8_share_86 : decode cX8_share 86 = .ok (.iload_n 3, 1) := by decide +kernel
theorem dX8_share_87 : decode cX8_share 87 = .ok (.iconst (-1), 1) := by decide +kernel
theorem dX8_share_88 : decode cX8_share 88 = .ok (.if_icmp .eq 17, 3) := by decide +kernel
theorem dX8_share_91 : decode cX8_share 91 = .ok (.aload_n 0, 1) := by decide +kernel
theorem dX8_share_92 : decode cX8_share 92 = .ok (.getfield 65, 3) := by decide +kernel
theorem dX8_share_95 : decode cX8_share 95 = .ok (.iload 7, 2) := by decide +kernel
theorem dX8_share_97 : decode cX8_share 97 = .ok (.bipush 18, 2) := by decide +kernel
theorem dX8_share_99 : decode cX8_share 99 = .ok (.iadd, 1) := by decide +kernel
theorem dX8_share_100 : decode cX8_share 100 = .ok (.iaload, 1) := by decide +kernel
theorem dX8_share_101 : decode cX8_share 101 = .ok (.iload_n 3, 1) := by decide +kernel
theorem dX8_share_102 : decode cX8_share 102 = .ok (.if_icmp .ne 7, 3) := by decide +kernel
theorem dX8_share_105 : decode cX8_share 105 = .ok (.iconst 1, 1) := by decide +kernel
theorem dX8_share_106 : decode cX8_share 106 = .ok (.goto 4, 3) := by decide +kernel
theorem dX8_share_109 : decode cX8_share 109 = .ok (.iconst 0, 1) := by decide +kernel
theorem dX8_share_110 : decode cX8_share 110 = .ok (.istore 8, 2) := by decide +kernel
theorem dX8_share_112 : decode cX8_share 112 = .ok (.iload 5, 2) := by decide +kernel
theorem dX8_share_114 : decode cX8_share 114 = .ok (.iload 8, 2) := by decide +kernel
theorem dX8_share_116 : decode cX8_share 116 = .ok (.ifCond .eq 26, 3) := by decide +kernel
theorem dX8_share_119 : decode cX8_share 119 = .ok (.iload 4, 2) := by decide +kernel
theorem dX8_share_121 : decode cX8_share 121 = .ok (.ifCond .eq 17, 3) := by decide +kernel
theorem dX8_share_124 : decode cX8_share 124 = .ok (.aload_n 0, 1) := by decide +kernel
theorem dX8_share_125 : decode cX8_share 125 = .ok (.getfield 65, 3) := by decide +kernel
theorem dX8_share_128 : decode cX8_share 128 = .ok (.iload 7, 2) := by decide +kernel
theorem dX8_share_130 : decode cX8_share 130 = .ok (.bipush 14, 2) := by decide +kernel
theorem dX8_share_132 : decode cX8_share 132 = .ok (.iadd, 1) := by decide +kernel
theorem dX8_share_133 : decode cX8_share 133 = .ok (.iaload, 1) := by decide +kernel
theorem dX8_share_134 : decode cX8_share 134 = .ok (.iconst 1, 1) := by decide +kernel
theorem dX8_share_135 : decode cX8_share 135 = .ok (.if_icmp .ne 7, 3) := by decide +kernel
theorem dX8_share_138 : decode cX8_share 138 = .ok (.iconst 1, 1) := by decide +kernel
theorem dX8_share_139 : decode cX8_share 139 = .ok (.goto 4, 3) := by decide +kernel
theorem dX8_share_142 : decode cX8_share 142 = .ok (.iconst 0, 1) := by decide +kernel
theorem dX8_share_143 : decode cX8_share 143 = .ok (.iadd, 1) := by decide +kernel
theorem dX8_share_144 : decode cX8_share 144 = .ok (.istore 5, 2) := by decide +kernel
theorem dX8_share_146 : decode cX8_share 146 = .ok (.iinc 6 1, 3) := by decide +kernel
theorem dX8_share_149 : decode cX8_share 149 = .ok (.goto (-109), 3) := by decide +kernel
theorem dX8_share_152 : decode cX8_share 152 = .ok (.iload 5, 2) := by decide +kernel
theorem dX8_share_154 : decode cX8_share 154 = .ok (.ireturn, 1) := by decide +kernel
theorem dX8_heldIn_0 : decode cX8_heldIn 0 = .ok (.aload_n 0, 1) := by decide +kernel
theorem dX8_heldIn_1 : decode cX8_heldIn 1 = .ok (.iload_n 1, 1) := by decide +kernel
theorem dX8_heldIn_2 : decode cX8_heldIn 2 = .ok (.invokevirtual 344, 3) := by decide +kernel
theorem dX8_heldIn_5 : decode cX8_heldIn 5 = .ok (.iconst 0, 1) := by decide +kernel
theorem dX8_heldIn_6 : decode cX8_heldIn 6 = .ok (.istore_n 3, 1) := by decide +kernel
theorem dX8_heldIn_7 : decode cX8_heldIn 7 = .ok (.iconst 0, 1) := by decide +kernel
theorem dX8_heldIn_8 : decode cX8_heldIn 8 = .ok (.istore 4, 2) := by decide +kernel
theorem dX8_heldIn_10 : decode cX8_heldIn 10 = .ok (.iload 4, 2) := by decide +kernel
theorem dX8_heldIn_12 : decode cX8_heldIn 12 = .ok (.aload_n 0, 1) := by decide +kernel
theorem dX8_heldIn_13 : decode cX8_heldIn 13 = .ok (.getfield 335, 3) := by decide +kernel
theorem dX8_heldIn_16 : decode cX8_heldIn 16 = .ok (.if_icmp .ge 32, 3) := by decide +kernel
theorem dX8_heldIn_19 : decode cX8_heldIn 19 = .ok (.iload_n 3, 1) := by decide +kernel
theorem dX8_heldIn_20 : decode cX8_heldIn 20 = .ok (.aload_n 0, 1) := by decide +kernel
theorem dX8_heldIn_21 : decode cX8_heldIn 21 = .ok (.aload_n 0, 1) := by decide +kernel
theorem dX8_heldIn_22 : decode cX8_heldIn 22 = .ok (.getfield 74, 3) := by decide +kernel
theorem dX8_heldIn_25 : decode cX8_heldIn 25 = .ok (.iload 4, 2) := by decide +kernel
theorem dX8_heldIn_27 : decode cX8_heldIn 27 = .ok (.iaload, 1) := by decide +kernel
theorem dX8_heldIn_28 : decode cX8_heldIn 28 = .ok (.iload_n 2, 1) := by decide +kernel
theorem dX8_heldIn_29 : decode cX8_heldIn 29 = .ok (.invokevirtual 128, 3) := by decide +kernel
theorem dX8_heldIn_32 : decode cX8_heldIn 32 = .ok (.ifCond .eq 7, 3) := by decide +kernel
theorem dX8_heldIn_35 : decode cX8_heldIn 35 = .ok (.iconst 1, 1) := by decide +kernel
theorem dX8_heldIn_36 : decode cX8_heldIn 36 = .ok (.goto 4, 3) := by decide +kernel
theorem dX8_heldIn_39 : decode cX8_heldIn 39 = .ok (.iconst 0, 1) := by decide +kernel
theorem dX8_heldIn_40 : decode cX8_heldIn 40 = .ok (.iadd, 1) := by decide +kernel
theorem dX8_heldIn_41 : decode cX8_heldIn 41 = .ok (.istore_n 3, 1) := by decide +kernel
theorem dX8_heldIn_42 : decode cX8_heldIn 42 = .ok (.iinc 4 1, 3) := by decide +kernel
theorem dX8_heldIn_45 : decode cX8_heldIn 45 = .ok (.goto (-35), 3) := by decide +kernel
theorem dX8_heldIn_48 : decode cX8_heldIn 48 = .ok (.iload_n 3, 1) := by decide +kernel
theorem dX8_heldIn_49 : decode cX8_heldIn 49 = .ok (.ireturn, 1) := by decide +kernel
theorem dX8_held_0 : decode cX8_held 0 = .ok (.aload_n 0, 1) := by decide +kernel
theorem dX8_held_1 : decode cX8_held 1 = .ok (.iconst 0, 1) := by decide +kernel
theorem dX8_held_2 : decode cX8_held 2 = .ok (.putfield 1, 3) := by decide +kernel
theorem dX8_held_5 : decode cX8_held 5 = .ok (.aload_n 0, 1) := by decide +kernel
theorem dX8_held_6 : decode cX8_held 6 = .ok (.iload_n 1, 1) := by decide +kernel
theorem dX8_held_7 : decode cX8_held 7 = .ok (.invokestatic 117, 3) := by decide +kernel
theorem dX8_held_10 : decode cX8_held 10 = .ok (.ifCond .eq 14, 3) := by decide +kernel
theorem dX8_held_13 : decode cX8_held 13 = .ok (.iload_n 2, 1) := by decide +kernel
theorem dX8_held_14 : decode cX8_held 14 = .ok (.invokestatic 132, 3) := by decide +kernel
theorem dX8_held_17 : decode cX8_held 17 = .ok (.ifCond .eq 7, 3) := by decide +kernel
theorem dX8_held_20 : decode cX8_held 20 = .ok (.iconst 1, 1) := by decide +kernel
theorem dX8_held_21 : decode cX8_held 21 = .ok (.goto 4, 3) := by decide +kernel
theorem dX8_held_24 : decode cX8_held 24 = .ok (.iconst 0, 1) := by decide +kernel
theorem dX8_held_25 : decode cX8_held 25 = .ok (.iconst 1, 1) := by decide +kernel
theorem dX8_held_26 : decode cX8_held 26 = .ok (.invokevirtual 110, 3) := by decide +kernel
theorem dX8_held_29 : decode cX8_held 29 = .ok (.ifCond .ne 5, 3) := by decide +kernel
theorem dX8_held_32 : decode cX8_held 32 = .ok (.iconst 0, 1) := by decide +kernel
theorem dX8_held_33 : decode cX8_held 33 = .ok (.ireturn, 1) := by decide +kernel
theorem dX8_held_34 : decode cX8_held 34 = .ok (.aload_n 0, 1) := by decide +kernel
theorem dX8_held_35 : decode cX8_held 35 = .ok (.iload_n 1, 1) := by decide +kernel
theorem dX8_held_36 : decode cX8_held 36 = .ok (.iload_n 2, 1) := by decide +kernel
theorem dX8_held_37 : decode cX8_held 37 = .ok (.invokevirtual 353, 3) := by decide +kernel
theorem dX8_held_40 : decode cX8_held 40 = .ok (.ireturn, 1) := by decide +kernel
theorem dX8_first_0 : decode cX8_first 0 = .ok (.aload_n 0, 1) := by decide +kernel
theorem dX8_first_1 : decode cX8_first 1 = .ok (.iconst 0, 1) := by decide +kernel
theorem dX8_first_2 : decode cX8_first 2 = .ok (.putfield 1, 3) := by decide +kernel
theorem dX8_first_5 : decode cX8_first 5 = .ok (.aload_n 0, 1) := by decide +kernel
theorem dX8_first_6 : decode cX8_first 6 = .ok (.iload_n 1, 1) := by decide +kernel
theorem dX8_first_7 : decode cX8_first 7 = .ok (.invokestatic 132, 3) := by decide +kernel
theorem dX8_first_10 : decode cX8_first 10 = .ok (.ifCond .eq 16, 3) := by decide +kernel
theorem dX8_first_13 : decode cX8_first 13 = .ok (.iload_n 2, 1) := by decide +kernel
theorem dX8_first_14 : decode cX8_first 14 = .ok (.iconst 0, 1) := by decide +kernel
theorem dX8_first_15 : decode cX8_first 15 = .ok (.iconst 1, 1) := by decide +kernel
theorem dX8_first_16 : decode cX8_first 16 = .ok (.invokestatic 106, 3) := by decide +kernel
theorem dX8_first_19 : decode cX8_first 19 = .ok (.ifCond .eq 7, 3) := by decide +kernel
theorem dX8_first_22 : decode cX8_first 22 = .ok (.iconst 1, 1) := by decide +kernel
theorem dX8_first_23 : decode cX8_first 23 = .ok (.goto 4, 3) := by decide +kernel
theorem dX8_first_26 : decode cX8_first 26 = .ok (.iconst 0, 1) := by decide +kernel
theorem dX8_first_27 : decode cX8_first 27 = .ok (.iconst 1, 1) := by decide +kernel
theorem dX8_first_28 : decode cX8_first 28 = .ok (.invokevirtual 110, 3) := by decide +kernel
theorem dX8_first_31 : decode cX8_first 31 = .ok (.ifCond .ne 5, 3) := by decide +kernel
theorem dX8_first_34 : decode cX8_first 34 = .ok (.iconst 0, 1) := by decide +kernel
theorem dX8_first_35 : decode cX8_first 35 = .ok (.ireturn, 1) := by decide +kernel
theorem dX8_first_36 : decode cX8_first 36 = .ok (.aload_n 0, 1) := by decide +kernel
theorem dX8_first_37 : decode cX8_first 37 = .ok (.getfield 68, 3) := by decide +kernel
theorem dX8_first_40 : decode cX8_first 40 = .ok (.iconst 2, 1) := by decide +kernel
theorem dX8_first_41 : decode cX8_first 41 = .ok (.iload_n 1, 1) := by decide +kernel
theorem dX8_first_42 : decode cX8_first 42 = .ok (.imul, 1) := by decide +kernel
theorem dX8_first_43 : decode cX8_first 43 = .ok (.iload_n 2, 1) := by decide +kernel
theorem dX8_first_44 : decode cX8_first 44 = .ok (.iadd, 1) := by decide +kernel
theorem dX8_first_45 : decode cX8_first 45 = .ok (.iaload, 1) := by decide +kernel
theorem dX8_first_46 : decode cX8_first 46 = .ok (.ireturn, 1) := by decide +kernel
theorem dX8_back_0 : decode cX8_back 0 = .ok (.aload_n 0, 1) := by decide +kernel
theorem dX8_back_1 : decode cX8_back 1 = .ok (.iconst 0, 1) := by decide +kernel
theorem dX8_back_2 : decode cX8_back 2 = .ok (.putfield 1, 3) := by decide +kernel
theorem dX8_back_5 : decode cX8_back 5 = .ok (.aload_n 0, 1) := by decide +kernel
theorem dX8_back_6 : decode cX8_back 6 = .ok (.iload_n 1, 1) := by decide +kernel
theorem dX8_back_7 : decode cX8_back 7 = .ok (.invokevirtual 125, 3) := by decide +kernel
theorem dX8_back_10 : decode cX8_back 10 = .ok (.ifCond .eq 15, 3) := by decide +kernel
theorem dX8_back_13 : decode cX8_back 13 = .ok (.aload_n 0, 1) := by decide +kernel
theorem dX8_back_14 : decode cX8_back 14 = .ok (.iload_n 2, 1) := by decide +kernel
theorem dX8_back_15 : decode cX8_back 15 = .ok (.invokestatic 132, 3) := by decide +kernel
theorem dX8_back_18 : decode cX8_back 18 = .ok (.iconst 2, 1) := by decide +kernel
theorem dX8_back_19 : decode cX8_back 19 = .ok (.invokevirtual 110, 3) := by decide +kernel
theorem dX8_back_22 : decode cX8_back 22 = .ok (.ifCond .ne 5, 3) := by decide +kernel
theorem dX8_back_25 : decode cX8_back 25 = .ok (.iconst 0, 1) := by decide +kernel
theorem dX8_back_26 : decode cX8_back 26 = .ok (.ireturn, 1) := by decide +kernel
theorem dX8_back_27 : decode cX8_back 27 = .ok (.iconst 0, 1) := by decide +kernel
theorem dX8_back_28 : decode cX8_back 28 = .ok (.istore 4, 2) := by decide +kernel
theorem dX8_back_30 : decode cX8_back 30 = .ok (.iconst 0, 1) := by decide +kernel
theorem dX8_back_31 : decode cX8_back 31 = .ok (.istore 5, 2) := by decide +kernel
theorem dX8_back_33 : decode cX8_back 33 = .ok (.iload 5, 2) := by decide +kernel
theorem dX8_back_35 : decode cX8_back 35 = .ok (.aload_n 0, 1) := by decide +kernel
theorem dX8_back_36 : decode cX8_back 36 = .ok (.getfield 329, 3) := by decide +kernel
theorem dX8_back_39 : decode cX8_back 39 = .ok (.if_icmp .ge 57, 3) := by decide +kernel
theorem dX8_back_42 : decode cX8_back 42 = .ok (.aload_n 0, 1) := by decide +kernel
theorem dX8_back_43 : decode cX8_back 43 = .ok (.getfield 65, 3) := by decide +kernel
theorem dX8_back_46 : decode cX8_back 46 = .ok (.bipush 20, 2) := by decide +kernel
theorem dX8_back_48 : decode cX8_back 48 = .ok (.iload 5, 2) := by decide +kernel
theorem dX8_back_50 : decode cX8_back 50 = .ok (.imul, 1) := by decide +kernel
theorem dX8_back_51 : decode cX8_back 51 = .ok (.iconst 2, 1) := by decide +kernel
theorem dX8_back_52 : decode cX8_back 52 = .ok (.iadd, 1) := by decide +kernel
theorem dX8_back_53 : decode cX8_back 53 = .ok (.iaload, 1) := by decide +kernel
theorem dX8_back_54 : decode cX8_back 54 = .ok (.iload_n 1, 1) := by decide +kernel
theorem dX8_back_55 : decode cX8_back 55 = .ok (.if_icmp .ne 35, 3) := by decide +kernel
theorem dX8_back_58 : decode cX8_back 58 = .ok (.aload_n 0, 1) := by decide +kernel
theorem dX8_back_59 : decode cX8_back 59 = .ok (.getfield 65, 3) := by decide +kernel
theorem dX8_back_62 : decode cX8_back 62 = .ok (.bipush 20, 2) := by decide +kernel
theorem dX8_back_64 : decode cX8_back 64 = .ok (.iload 5, 2) := by decide +kernel
theorem dX8_back_66 : decode cX8_back 66 = .ok (.imul, 1) := by decide +kernel
theorem dX8_back_67 : decode cX8_back 67 = .ok (.bipush 16, 2) := by decide +kernel
theorem dX8_back_69 : decode cX8_back 69 = .ok (.iadd, 1) := by decide +kernel
theorem dX8_back_70 : decode cX8_back 70 = .ok (.iaload, 1) := by decide +kernel
theorem dX8_back_71 : decode cX8_back 71 = .ok (.iload_n 2, 1) := by decide +kernel
theorem dX8_back_72 : decode cX8_back 72 = .ok (.if_icmp .eq 6, 3) := by decide +kernel
theorem dX8_back_75 : decode cX8_back 75 = .ok (.goto 15, 3) := by decide +kernel
theorem dX8_back_78 : decode cX8_back 78 = .ok (.iload 4, 2) := by decide +kernel
theorem dX8_back_80 : decode cX8_back 80 = .ok (.iload_n 3, 1) := by decide +kernel
theorem dX8_back_81 : decode cX8_back 81 = .ok (.if_icmp .ne 6, 3) := by decide +kernel
theorem dX8_back_84 : decode cX8_back 84 = .ok (.iload 5, 2) := by decide +kernel
theorem dX8_back_86 : decode cX8_back 86 = .ok (.ireturn, 1) := by decide +kernel
theorem dX8_back_87 : decode cX8_back 87 = .ok (.iinc 4 1, 3) := by decide +kernel
theorem dX8_back_90 : decode cX8_back 90 = .ok (.iinc 5 1, 3) := by decide +kernel
theorem dX8_back_93 : decode cX8_back 93 = .ok (.goto (-60), 3) := by decide +kernel
theorem dX8_back_96 : decode cX8_back 96 = .ok (.iload_n 3, 1) := by decide +kernel
theorem dX8_back_97 : decode cX8_back 97 = .ok (.iconst (-1), 1) := by decide +kernel
theorem dX8_back_98 : decode cX8_back 98 = .ok (.if_icmp .ne 8, 3) := by decide +kernel
theorem dX8_back_101 : decode cX8_back 101 = .ok (.iload 4, 2) := by decide +kernel
theorem dX8_back_103 : decode cX8_back 103 = .ok (.goto 4, 3) := by decide +kernel
theorem dX8_back_106 : decode cX8_back 106 = .ok (.iconst (-1), 1) := by decide +kernel
theorem dX8_back_107 : decode cX8_back 107 = .ok (.ireturn, 1) := by decide +kernel
theorem dX8_uses_0 : decode cX8_uses 0 = .ok (.aload_n 0, 1) := by decide +kernel
theorem dX8_uses_1 : decode cX8_uses 1 = .ok (.iconst 0, 1) := by decide +kernel
theorem dX8_uses_2 : decode cX8_uses 2 = .ok (.putfield 1, 3) := by decide +kernel
theorem dX8_uses_5 : decode cX8_uses 5 = .ok (.aload_n 0, 1) := by decide +kernel
theorem dX8_uses_6 : decode cX8_uses 6 = .ok (.iload_n 1, 1) := by decide +kernel
theorem dX8_uses_7 : decode cX8_uses 7 = .ok (.invokestatic 117, 3) := by decide +kernel
theorem dX8_uses_10 : decode cX8_uses 10 = .ok (.ifCond .eq 17, 3) := by decide +kernel
theorem dX8_uses_13 : decode cX8_uses 13 = .ok (.iload_n 2, 1) := by decide +kernel
theorem dX8_uses_14 : decode cX8_uses 14 = .ok (.iconst 0, 1) := by decide +kernel
theorem dX8_uses_15 : decode cX8_uses 15 = .ok (.bipush 15, 2) := by decide +kernel
theorem dX8_uses_17 : decode cX8_uses 17 = .ok (.invokestatic 106, 3) := by decide +kernel
theorem dX8_uses_20 : decode cX8_uses 20 = .ok (.ifCond .eq 7, 3) := by decide +kernel
theorem dX8_uses_23 : decode cX8_uses 23 = .ok (.iconst 1, 1) := by decide +kernel
theorem dX8_uses_24 : decode cX8_uses 24 = .ok (.goto 4, 3) := by decide +kernel
theorem dX8_uses_27 : decode cX8_uses 27 = .ok (.iconst 0, 1) := by decide +kernel
theorem dX8_uses_28 : decode cX8_uses 28 = .ok (.iconst 1, 1) := by decide +kernel
theorem dX8_uses_29 : decode cX8_uses 29 = .ok (.invokevirtual 110, 3) := by decide +kernel
theorem dX8_uses_32 : decode cX8_uses 32 = .ok (.ifCond .ne 5, 3) := by decide +kernel
theorem dX8_uses_35 : decode cX8_uses 35 = .ok (.iconst 0, 1) := by decide +kernel
theorem dX8_uses_36 : decode cX8_uses 36 = .ok (.ireturn, 1) := by decide +kernel
theorem dX8_uses_37 : decode cX8_uses 37 = .ok (.aload_n 0, 1) := by decide +kernel
theorem dX8_uses_38 : decode cX8_uses 38 = .ok (.getfield 13, 3) := by decide +kernel
theorem dX8_uses_41 : decode cX8_uses 41 = .ok (.bipush 8, 2) := by decide +kernel
theorem dX8_uses_43 : decode cX8_uses 43 = .ok (.bipush 16, 2) := by decide +kernel
theorem dX8_uses_45 : decode cX8_uses 45 = .ok (.iload_n 1, 1) := by decide +kernel
theorem dX8_uses_46 : decode cX8_uses 46 = .ok (.imul, 1) := by decide +kernel
theorem dX8_uses_47 : decode cX8_uses 47 = .ok (.iadd, 1) := by decide +kernel
theorem dX8_uses_48 : decode cX8_uses 48 = .ok (.iload_n 2, 1) := by decide +kernel
theorem dX8_uses_49 : decode cX8_uses 49 = .ok (.iadd, 1) := by decide +kernel
theorem dX8_uses_50 : decode cX8_uses 50 = .ok (.iaload, 1) := by decide +kernel
theorem dX8_uses_51 : decode cX8_uses 51 = .ok (.ireturn, 1) := by decide +kernel
theorem dX8_seen_0 : decode cX8_seen 0 = .ok (.aload_n 0, 1) := by decide +kernel
theorem dX8_seen_1 : decode cX8_seen 1 = .ok (.iconst 0, 1) := by decide +kernel
theorem dX8_seen_2 : decode cX8_seen 2 = .ok (.putfield 1, 3) := by decide +kernel
theorem dX8_seen_5 : decode cX8_seen 5 = .ok (.aload_n 0, 1) := by decide +kernel
theorem dX8_seen_6 : decode cX8_seen 6 = .ok (.iload_n 1, 1) := by decide +kernel
theorem dX8_seen_7 : decode cX8_seen 7 = .ok (.invokestatic 117, 3) := by decide +kernel
theorem dX8_seen_10 : decode cX8_seen 10 = .ok (.ifCond .eq 17, 3) := by decide +kernel
theorem dX8_seen_13 : decode cX8_seen 13 = .ok (.iload_n 2, 1) := by decide +kernel
theorem dX8_seen_14 : decode cX8_seen 14 = .ok (.iconst 0, 1) := by decide +kernel
theorem dX8_seen_15 : decode cX8_seen 15 = .ok (.bipush 15, 2) := by decide +kernel
theorem dX8_seen_17 : decode cX8_seen 17 = .ok (.invokestatic 106, 3) := by decide +kernel
theorem dX8_seen_20 : decode cX8_seen 20 = .ok (.ifCond .eq 7, 3) := by decide +kernel
theorem dX8_seen_23 : decode cX8_seen 23 = .ok (.iconst 1, 1) := by decide +kernel
theorem dX8_seen_24 : decode cX8_seen 24 = .ok (.goto 4, 3) := by decide +kernel
theorem dX8_seen_27 : decode cX8_seen 27 = .ok (.iconst 0, 1) := by decide +kernel
theorem dX8_seen_28 : decode cX8_seen 28 = .ok (.iconst 1, 1) := by decide +kernel
theorem dX8_seen_29 : decode cX8_seen 29 = .ok (.invokevirtual 110, 3) := by decide +kernel
theorem dX8_seen_32 : decode cX8_seen 32 = .ok (.ifCond .ne 5, 3) := by decide +kernel
theorem dX8_seen_35 : decode cX8_seen 35 = .ok (.iconst 0, 1) := by decide +kernel
theorem dX8_seen_36 : decode cX8_seen 36 = .ok (.ireturn, 1) := by decide +kernel
theorem dX8_seen_37 : decode cX8_seen 37 = .ok (.aload_n 0, 1) := by decide +kernel
theorem dX8_seen_38 : decode cX8_seen 38 = .ok (.iload_n 1, 1) := by decide +kernel
theorem dX8_seen_39 : decode cX8_seen 39 = .ok (.iload_n 2, 1) := by decide +kernel
theorem dX8_seen_40 : decode cX8_seen 40 = .ok (.invokevirtual 314, 3) := by decide +kernel
theorem dX8_seen_43 : decode cX8_seen 43 = .ok (.ireturn, 1) := by decide +kernel
theorem dX8_ends_0 : decode cX8_ends 0 = .ok (.aload_n 0, 1) := by decide +kernel
theorem dX8_ends_1 : decode cX8_ends 1 = .ok (.iconst (-1), 1) := by decide +kernel
theorem dX8_ends_2 : decode cX8_ends 2 = .ok (.putfield 77, 3) := by decide +kernel
theorem dX8_ends_5 : decode cX8_ends 5 = .ok (.return_, 1) := by decide +kernel
theorem dX8_film_0 : decode cX8_film 0 = .ok (.aload_n 0, 1) := by decide +kernel
theorem dX8_film_1 : decode cX8_film 1 = .ok (.iconst 0, 1) := by decide +kernel
theorem dX8_film_2 : decode cX8_film 2 = .ok (.putfield 1, 3) := by decide +kernel
theorem dX8_film_5 : decode cX8_film 5 = .ok (.aload_n 0, 1) := by decide +kernel
theorem dX8_film_6 : decode cX8_film 6 = .ok (.getfield 356, 3) := by decide +kernel
theorem dX8_film_9 : decode cX8_film 9 = .ok (.iconst 3, 1) := by decide +kernel
theorem dX8_film_10 : decode cX8_film 10 = .ok (.if_icmp .ne 5, 3) := by decide +kernel
theorem dX8_film_13 : decode cX8_film 13 = .ok (.iconst (-1), 1) := by decide +kernel
theorem dX8_film_14 : decode cX8_film 14 = .ok (.ireturn, 1) := by decide +kernel
theorem dX8_film_15 : decode cX8_film 15 = .ok (.aload_n 0, 1) := by decide +kernel
theorem dX8_film_16 : decode cX8_film 16 = .ok (.getfield 77, 3) := by decide +kernel
theorem dX8_film_19 : decode cX8_film 19 = .ok (.iconst (-1), 1) := by decide +kernel
theorem dX8_film_20 : decode cX8_film 20 = .ok (.if_icmp .eq 6, 3) := by decide +kernel
theorem dX8_film_23 : decode cX8_film 23 = .ok (.bipush (-2), 2) := by decide +kernel
theorem dX8_film_25 : decode cX8_film 25 = .ok (.ireturn, 1) := by decide +kernel
theorem dX8_film_26 : decode cX8_film 26 = .ok (.iconst 0, 1) := by decide +kernel
theorem dX8_film_27 : decode cX8_film 27 = .ok (.istore_n 1, 1) := by decide +kernel
theorem dX8_film_28 : decode cX8_film 28 = .ok (.iload_n 1, 1) := by decide +kernel
theorem dX8_film_29 : decode cX8_film 29 = .ok (.sipush 3464, 3) := by decide +kernel
theorem dX8_film_32 : decode cX8_film 32 = .ok (.if_icmp .ge 30, 3) := by decide +kernel
theorem dX8_film_35 : decode cX8_film 35 = .ok (.aload_n 0, 1) := by decide +kernel
theorem dX8_film_36 : decode cX8_film 36 = .ok (.getfield 86, 3) := by decide +kernel
theorem dX8_film_39 : decode cX8_film 39 = .ok (.sipush 3464, 3) := by decide +kernel
theorem dX8_film_42 : decode cX8_film 42 = .ok (.aload_n 0, 1) := by decide +kernel
theorem dX8_film_43 : decode cX8_film 43 = .ok (.getfield 356, 3) := by decide +kernel
theorem dX8_film_46 : decode cX8_film 46 = .ok (.imul, 1) := by decide +kernel
theorem dX8_film_47 : decode cX8_film 47 = .ok (.iload_n 1, 1) := by decide +kernel
theorem dX8_film_48 : decode cX8_film 48 = .ok (.iadd, 1) := by decide +kernel
theorem dX8_film_49 : decode cX8_film 49 = .ok (.aload_n 0, 1) := by decide +kernel
theorem dX8_film_50 : decode cX8_film 50 = .ok (.getfield 13, 3) := by decide +kernel
theorem dX8_film_53 : decode cX8_film 53 = .ok (.iload_n 1, 1) := by decide +kernel
theorem dX8_film_54 : decode cX8_film 54 = .ok (.iaload, 1) := by decide +kernel
theorem dX8_film_55 : decode cX8_film 55 = .ok (.iastore, 1) := by decide +kernel
theorem dX8_film_56 : decode cX8_film 56 = .ok (.iinc 1 1, 3) := by decide +kernel
theorem dX8_film_59 : decode cX8_film 59 = .ok (.goto (-31), 3) := by decide +kernel
theorem dX8_film_62 : decode cX8_film 62 = .ok (.aload_n 0, 1) := by decide +kernel
theorem dX8_film_63 : decode cX8_film 63 = .ok (.getfield 80, 3) := by decide +kernel
theorem dX8_film_66 : decode cX8_film 66 = .ok (.aload_n 0, 1) := by decide +kernel
theorem dX8_film_67 : decode cX8_film 67 = .ok (.getfield 356, 3) := by decide +kernel
theorem dX8_film_70 : decode cX8_film 70 = .ok (.aload_n 0, 1) := by decide +kernel
theorem dX8_film_71 : decode cX8_film 71 = .ok (.getfield 329, 3) := by decide +kernel
theorem dX8_film_74 : decode cX8_film 74 = .ok (.iastore, 1) := by decide +kernel
theorem dX8_film_75 : decode cX8_film 75 = .ok (.aload_n 0, 1) := by decide +kernel
theorem dX8_film_76 : decode cX8_film 76 = .ok (.getfield 83, 3) := by decide +kernel
theorem dX8_film_79 : decode cX8_film 79 = .ok (.aload_n 0, 1) := by decide +kernel
theorem dX8_film_80 : decode cX8_film 80 = .ok (.getfield 356, 3) := by decide +kernel
theorem dX8_film_83 : decode cX8_film 83 = .ok (.iconst 0, 1) := by decide +kernel
theorem dX8_film_84 : decode cX8_film 84 = .ok (.iastore, 1) := by decide +kernel
theorem dX8_film_85 : decode cX8_film 85 = .ok (.aload_n 0, 1) := by decide +kernel
theorem dX8_film_86 : decode cX8_film 86 = .ok (.aload_n 0, 1) := by decide +kernel
theorem dX8_film_87 : decode cX8_film 87 = .ok (.getfield 356, 3) := by decide +kernel
theorem dX8_film_90 : decode cX8_film 90 = .ok (.putfield 77, 3) := by decide +kernel
theorem dX8_film_93 : decode cX8_film 93 = .ok (.aload_n 0, 1) := by decide +kernel
theorem dX8_film_94 : decode cX8_film 94 = .ok (.dup, 1) := by decide +kernel
theorem dX8_film_95 : decode cX8_film 95 = .ok (.getfield 356, 3) := by decide +kernel
theorem dX8_film_98 : decode cX8_film 98 = .ok (.iconst 1, 1) := by decide +kernel
theorem dX8_film_99 : decode cX8_film 99 = .ok (.iadd, 1) := by decide +kernel
theorem dX8_film_100 : decode cX8_film 100 = .ok (.putfield 356, 3) := by decide +kernel
theorem dX8_film_103 : decode cX8_film 103 = .ok (.aload_n 0, 1) := by decide +kernel
theorem dX8_film_104 : decode cX8_film 104 = .ok (.getfield 77, 3) := by decide +kernel
theorem dX8_film_107 : decode cX8_film 107 = .ok (.ireturn, 1) := by decide +kernel
theorem dX8_end_0 : decode cX8_end 0 = .ok (.aload_n 0, 1) := by decide +kernel
theorem dX8_end_1 : decode cX8_end 1 = .ok (.iconst 0, 1) := by decide +kernel
theorem dX8_end_2 : decode cX8_end 2 = .ok (.putfield 1, 3) := by decide +kernel
theorem dX8_end_5 : decode cX8_end 5 = .ok (.aload_n 0, 1) := by decide +kernel
theorem dX8_end_6 : decode cX8_end 6 = .ok (.getfield 77, 3) := by decide +kernel
theorem dX8_end_9 : decode cX8_end 9 = .ok (.iconst (-1), 1) := by decide +kernel
theorem dX8_end_10 : decode cX8_end 10 = .ok (.if_icmp .ne 5, 3) := by decide +kernel
theorem dX8_end_13 : decode cX8_end 13 = .ok (.iconst (-1), 1) := by decide +kernel
theorem dX8_end_14 : decode cX8_end 14 = .ok (.ireturn, 1) := by decide +kernel
theorem dX8_end_15 : decode cX8_end 15 = .ok (.aload_n 0, 1) := by decide +kernel
theorem dX8_end_16 : decode cX8_end 16 = .ok (.getfield 83, 3) := by decide +kernel
theorem dX8_end_19 : decode cX8_end 19 = .ok (.aload_n 0, 1) := by decide +kernel
theorem dX8_end_20 : decode cX8_end 20 = .ok (.getfield 77, 3) := by decide +kernel
theorem dX8_end_23 : decode cX8_end 23 = .ok (.iaload, 1) := by decide +kernel
theorem dX8_end_24 : decode cX8_end 24 = .ok (.istore_n 1, 1) := by decide +kernel
theorem dX8_end_25 : decode cX8_end 25 = .ok (.aload_n 0, 1) := by decide +kernel
theorem dX8_end_26 : decode cX8_end 26 = .ok (.iconst (-1), 1) := by decide +kernel
theorem dX8_end_27 : decode cX8_end 27 = .ok (.putfield 77, 3) := by decide +kernel
theorem dX8_end_30 : decode cX8_end 30 = .ok (.iload_n 1, 1) := by decide +kernel
theorem dX8_end_31 : decode cX8_end 31 = .ok (.ireturn, 1) := by decide +kernel
theorem dX8_isFilm_0 : decode cX8_isFilm 0 = .ok (.aload_n 0, 1) := by decide +kernel
theorem dX8_isFilm_1 : decode cX8_isFilm 1 = .ok (.iload_n 1, 1) := by decide +kernel
theorem dX8_isFilm_2 : decode cX8_isFilm 2 = .ok (.iconst 0, 1) := by decide +kernel
theorem dX8_isFilm_3 : decode cX8_isFilm 3 = .ok (.aload_n 0, 1) := by decide +kernel
theorem dX8_isFilm_4 : decode cX8_isFilm 4 = .ok (.getfield 356, 3) := by decide +kernel
theorem dX8_isFilm_7 : decode cX8_isFilm 7 = .ok (.iconst 1, 1) := by decide +kernel
theorem dX8_isFilm_8 : decode cX8_isFilm 8 = .ok (.isub, 1) := by decide +kernel
theorem dX8_isFilm_9 : decode cX8_isFilm 9 = .ok (.invokestatic 106, 3) := by decide +kernel
theorem dX8_isFilm_12 : decode cX8_isFilm 12 = .ok (.iconst 1, 1) := by decide +kernel
theorem dX8_isFilm_13 : decode cX8_isFilm 13 = .ok (.invokevirtual 110, 3) := by decide +kernel
theorem dX8_isFilm_16 : decode cX8_isFilm 16 = .ok (.ireturn, 1) := by decide +kernel
theorem dX8_gap_0 : decode cX8_gap 0 = .ok (.aload_n 0, 1) := by decide +kernel
theorem dX8_gap_1 : decode cX8_gap 1 = .ok (.iconst 0, 1) := by decide +kernel
theorem dX8_gap_2 : decode cX8_gap 2 = .ok (.putfield 1, 3) := by decide +kernel
theorem dX8_gap_5 : decode cX8_gap 5 = .ok (.aload_n 0, 1) := by decide +kernel
theorem dX8_gap_6 : decode cX8_gap 6 = .ok (.iload_n 1, 1) := by decide +kernel
theorem dX8_gap_7 : decode cX8_gap 7 = .ok (.invokevirtual 359, 3) := by decide +kernel
theorem dX8_gap_10 : decode cX8_gap 10 = .ok (.ifCond .eq 24, 3) := by decide +kernel
theorem dX8_gap_13 : decode cX8_gap 13 = .ok (.aload_n 0, 1) := by decide +kernel
theorem dX8_gap_14 : decode cX8_gap 14 = .ok (.iload_n 2, 1) := by decide +kernel
theorem dX8_gap_15 : decode cX8_gap 15 = .ok (.iconst 0, 1) := by decide +kernel
theorem dX8_gap_16 : decode cX8_gap 16 = .ok (.aload_n 0, 1) := by decide +kernel
theorem dX8_gap_17 : decode cX8_gap 17 = .ok (.getfield 83, 3) := by decide +kernel
theorem dX8_gap_20 : decode cX8_gap 20 = .ok (.iload_n 1, 1) := by decide +kernel
theorem dX8_gap_21 : decode cX8_gap 21 = .ok (.iaload, 1) := by decide +kernel
theorem dX8_gap_22 : decode cX8_gap 22 = .ok (.iconst 1, 1) := by decide +kernel
theorem dX8_gap_23 : decode cX8_gap 23 = .ok (.isub, 1) := by decide +kernel
theorem dX8_gap_24 : decode cX8_gap 24 = .ok (.invokestatic 106, 3) := by decide +kernel
theorem dX8_gap_27 : decode cX8_gap 27 = .ok (.iconst 2, 1) := by decide +kernel
theorem dX8_gap_28 : decode cX8_gap 28 = .ok (.invokevirtual 110, 3) := by decide +kernel
theorem dX8_gap_31 : decode cX8_gap 31 = .ok (.ifCond .ne 5, 3) := by decide +kernel
theorem dX8_gap_34 : decode cX8_gap 34 = .ok (.iconst 0, 1) := by decide +kernel
theorem dX8_gap_35 : decode cX8_gap 35 = .ok (.ireturn, 1) := by decide +kernel
theorem dX8_gap_36 : decode cX8_gap 36 = .ok (.aload_n 0, 1) := by decide +kernel
theorem dX8_gap_37 : decode cX8_gap 37 = .ok (.getfield 89, 3) := by decide +kernel
theorem dX8_gap_40 : decode cX8_gap 40 = .ok (.bipush 100, 2) := by decide +kernel
theorem dX8_gap_42 : decode cX8_gap 42 = .ok (.iload_n 1, 1) := by decide +kernel
theorem dX8_gap_43 : decode cX8_gap 43 = .ok (.imul, 1) := by decide +kernel
theorem dX8_gap_44 : decode cX8_gap 44 = .ok (.iload_n 2, 1) := by decide +kernel
theorem dX8_gap_45 : decode cX8_gap 45 = .ok (.iadd, 1) := by decide +kernel
theorem dX8_gap_46 : decode cX8_gap 46 = .ok (.baload, 1) := by decide +kernel
theorem dX8_gap_47 : decode cX8_gap 47 = .ok (.ifCond .eq 5, 3) := by decide +kernel
theorem dX8_gap_50 : decode cX8_gap 50 = .ok (.iconst 0, 1) := by decide +kernel
theorem dX8_gap_51 : decode cX8_gap 51 = .ok (.ireturn, 1) := by decide +kernel
theorem dX8_gap_52 : decode cX8_gap 52 = .ok (.aload_n 0, 1) := by decide +kernel
theorem dX8_gap_53 : decode cX8_gap 53 = .ok (.getfield 89, 3) := by decide +kernel
theorem dX8_gap_56 : decode cX8_gap 56 = .ok (.bipush 100, 2) := by decide +kernel
theorem dX8_gap_58 : decode cX8_gap 58 = .ok (.iload_n 1, 1) := by decide +kernel
theorem dX8_gap_59 : decode cX8_gap 59 = .ok (.imul, 1) := by decide +kernel
theorem dX8_gap_60 : decode cX8_gap 60 = .ok (.iload_n 2, 1) := by decide +kernel
theorem dX8_gap_61 : decode cX8_gap 61 = .ok (.iadd, 1) := by decide +kernel
theorem dX8_gap_62 : decode cX8_gap 62 = .ok (.iconst 1, 1) := by decide +kernel
theorem dX8_gap_63 : decode cX8_gap 63 = .ok (.bastore, 1) := by decide +kernel
theorem dX8_gap_64 : decode cX8_gap 64 = .ok (.iconst 1, 1) := by decide +kernel
theorem dX8_gap_65 : decode cX8_gap 65 = .ok (.ireturn, 1) := by decide +kernel
theorem dX8_fitting_0 : decode cX8_fitting 0 = .ok (.iconst 0, 1) := by decide +kernel
theorem dX8_fitting_1 : decode cX8_fitting 1 = .ok (.istore_n 3, 1) := by decide +kernel
theorem dX8_fitting_2 : decode cX8_fitting 2 = .ok (.iload_n 3, 1) := by decide +kernel
theorem dX8_fitting_3 : decode cX8_fitting 3 = .ok (.sipush 3464, 3) := by decide +kernel
theorem dX8_fitting_6 : decode cX8_fitting 6 = .ok (.if_icmp .ge 27, 3) := by decide +kernel
theorem dX8_fitting_9 : decode cX8_fitting 9 = .ok (.aload_n 0, 1) := by decide +kernel
theorem dX8_fitting_10 : decode cX8_fitting 10 = .ok (.getfield 17, 3) := by decide +kernel
theorem dX8_fitting_13 : decode cX8_fitting 13 = .ok (.iload_n 3, 1) := by decide +kernel
theorem dX8_fitting_14 : decode cX8_fitting 14 = .ok (.aload_n 0, 1) := by decide +kernel
theorem dX8_fitting_15 : decode cX8_fitting 15 = .ok (.getfield 86, 3) := by decide +kernel
theorem dX8_fitting_18 : decode cX8_fitting 18 = .ok (.sipush 3464, 3) := by decide +kernel
theorem dX8_fitting_21 : decode cX8_fitting 21 = .ok (.iload_n 1, 1) := by decide +kernel
theorem dX8_fitting_22 : decode cX8_fitting 22 = .ok (.imul, 1) := by decide +kernel
theorem dX8_fitting_23 : decode cX8_fitting 23 = .ok (.iload_n 3, 1) := by decide +kernel
theorem dX8_fitting_24 : decode cX8_fitting 24 = .ok (.iadd, 1) := by decide +kernel
theorem dX8_fitting_25 : decode cX8_fitting 25 = .ok (.iaload, 1) := by decide +kernel
theorem dX8_fitting_26 : decode cX8_fitting 26 = .ok (.iastore, 1) := by decide +kernel
theorem dX8_fitting_27 : decode cX8_fitting 27 = .ok (.iinc 3 1, 3) := by decide +kernel
theorem dX8_fitting_30 : decode cX8_fitting 30 = .ok (.goto (-28), 3) := by decide +kernel
theorem dX8_fitting_33 : decode cX8_fitting 33 = .ok (.aload_n 0, 1) := by decide +kernel
theorem dX8_fitting_34 : decode cX8_fitting 34 = .ok (.getfield 17, 3) := by decide +kernel
theorem dX8_fitting_37 : decode cX8_fitting 37 = .ok (.iconst 5, 1) := by decide +kernel
theorem dX8_fitting_38 : decode cX8_fitting 38 = .ok (.iload_n 2, 1) := by decide +kernel
theorem dX8_fitting_39 : decode cX8_fitting 39 = .ok (.iastore, 1) := by decide +kernel
theorem dX8_fitting_40 : decode cX8_fitting 40 = .ok (.aload_n 0, 1) := by decide +kernel
theorem dX8_fitting_41 : decode cX8_fitting 41 = .ok (.aload_n 0, 1) := by decide +kernel
theorem dX8_fitting_42 : decode cX8_fitting 42 = .ok (.getfield 17, 3) := by decide +kernel
theorem dX8_fitting_45 : decode cX8_fitting 45 = .ok (.putfield 20, 3) := by decide +kernel
theorem dX8_fitting_48 : decode cX8_fitting 48 = .ok (.iconst 0, 1) := by decide +kernel
theorem dX8_fitting_49 : decode cX8_fitting 49 = .ok (.istore_n 3, 1) := by decide +kernel
theorem dX8_fitting_50 : decode cX8_fitting 50 = .ok (.iconst 1, 1) := by decide +kernel
theorem dX8_fitting_51 : decode cX8_fitting 51 = .ok (.istore 4, 2) := by decide +kernel
theorem dX8_fitting_53 : decode cX8_fitting 53 = .ok (.iload 4, 2) := by decide +kernel
theorem dX8_fitting_55 : decode cX8_fitting 55 = .ok (.ifCond .eq 162, 3) := by decide +kernel
theorem dX8_fitting_58 : decode cX8_fitting 58 = .ok (.iload_n 3, 1) := by decide +kernel
theorem dX8_fitting_59 : decode cX8_fitting 59 = .ok (.aload_n 0, 1) := by decide +kernel
theorem dX8_fitting_60 : decode cX8_fitting 60 = .ok (.getfield 83, 3) := by decide +kernel
theorem dX8_fitting_63 : decode cX8_fitting 63 = .ok (.iload_n 1, 1) := by decide +kernel
theorem dX8_fitting_64 : decode cX8_fitting 64 = .ok (.iaload, 1) := by decide +kernel
theorem dX8_fitting_65 : decode cX8_fitting 65 = .ok (.if_icmp .ge 152, 3) := by decide +kernel
theorem dX8_fitting_68 : decode cX8_fitting 68 = .ok (.bipush 20, 2) := by decide +kernel
theorem dX8_fitting_70 : decode cX8_fitting 70 = .ok (.aload_n 0, 1) := by decide +kernel
theorem dX8_fitting_71 : decode cX8_fitting 71 = .ok (.getfield 80, 3) := by decide +kernel
theorem dX8_fitting_74 : decode cX8_fitting 74 = .ok (.iload_n 1, 1) := by decide +kernel
theorem dX8_fitting_75 : decode cX8_fitting 75 = .ok (.iaload, 1) := by decide +kernel
theorem dX8_fitting_76 : decode cX8_fitting 76 = .ok (.iload_n 3, 1) := by decide +kernel
theorem dX8_fitting_77 : decode cX8_fitting 77 = .ok (.iadd, 1) := by decide +kernel
theorem dX8_fitting_78 : decode cX8_fitting 78 = .ok (.imul, 1) := by decide +kernel
theorem dX8_fitting_79 : decode cX8_fitting 79 = .ok (.istore 5, 2) := by decide +kernel
theorem dX8_fitting_81 : decode cX8_fitting 81 = .ok (.iconst 0, 1) := by decide +kernel
theorem dX8_fitting_82 : decode cX8_fitting 82 = .ok (.istore 6, 2) := by decide +kernel
theorem dX8_fitting_84 : decode cX8_fitting 84 = .ok (.iload 6, 2) := by decide +kernel
theorem dX8_fitting_86 : decode cX8_fitting 86 = .ok (.iconst 3, 1) := by decide +kernel
theorem dX8_fitting_87 : decode cX8_fitting 87 = .ok (.if_icmp .ge 28, 3) := by decide +kernel
theorem dX8_fitting_90 : decode cX8_fitting 90 = .ok (.aload_n 0, 1) := by decide +kernel
theorem dX8_fitting_91 : decode cX8_fitting 91 = .ok (.getfield 56, 3) := by decide +kernel
theorem dX8_fitting_94 : decode cX8_fitting 94 = .ok (.iload 6, 2) := by decide +kernel
theorem dX8_fitting_96 : decode cX8_fitting 96 = .ok (.aload_n 0, 1) := by decide +kernel
theorem dX8_fitting_97 : decode cX8_fitting 97 = .ok (.getfield 65, 3) := by decide +kernel
theorem dX8_fitting_100 : decode cX8_fitting 100 = .ok (.iload 5, 2) := by decide +kernel
theorem dX8_fitting_102 : decode cX8_fitting 102 = .ok (.iconst 3, 1) := by decide +kernel
theorem dX8_fitting_103 : decode cX8_fitting 103 = .ok (.iadd, 1) := by decide +kernel
theorem dX8_fitting_104 : decode cX8_fitting 104 = .ok (.iload 6, 2) := by decide +kernel
theorem dX8_fitting_106 : decode cX8_fitting 106 = .ok (.iadd, 1) := by decide +kernel
theorem dX8_fitting_107 : decode cX8_fitting 107 = .ok (.iaload, 1) := by decide +kernel
theorem dX8_fitting_108 : decode cX8_fitting 108 = .ok (.iastore, 1) := by decide +kernel
theorem dX8_fitting_109 : decode cX8_fitting 109 = .ok (.iinc 6 1, 3) := by decide +kernel
theorem dX8_fitting_112 : decode cX8_fitting 112 = .ok (.goto (-28), 3) := by decide +kernel
theorem dX8_fitting_115 : decode cX8_fitting 115 = .ok (.aload_n 0, 1) := by decide +kernel
theorem dX8_fitting_116 : decode cX8_fitting 116 = .ok (.aload_n 0, 1) := by decide +kernel
theorem dX8_fitting_117 : decode cX8_fitting 117 = .ok (.getfield 65, 3) := by decide +kernel
theorem dX8_fitting_120 : decode cX8_fitting 120 = .ok (.iload 5, 2) := by decide +kernel
theorem dX8_fitting_122 : decode cX8_fitting 122 = .ok (.iconst 1, 1) := by decide +kernel
theorem dX8_fitting_123 : decode cX8_fitting 123 = .ok (.iadd, 1) := by decide +kernel
theorem dX8_fitting_124 : decode cX8_fitting 124 = .ok (.iaload, 1) := by decide +kernel
theorem dX8_fitting_125 : decode cX8_fitting 125 = .ok (.aload_n 0, 1) := by decide +kernel
theorem dX8_fitting_126 : decode cX8_fitting 126 = .ok (.getfield 65, 3) := by decide +kernel
theorem dX8_fitting_129 : decode cX8_fitting 129 = .ok (.iload 5, 2) := by decide +kernel
theorem dX8_fitting_131 : decode cX8_fitting 131 = .ok (.iconst 2, 1) := by decide +kernel
theorem dX8_fitting_132 : decode cX8_fitting 132 = .ok (.iadd, 1) := by decide +kernel
theorem dX8_fitting_133 : decode cX8_fitting 133 = .ok (.iaload, 1) := by decide +kernel
theorem dX8_fitting_134 : decode cX8_fitting 134 = .ok (.invokevirtual 326, 3) := by decide +kernel
theorem dX8_fitting_137 : decode cX8_fitting 137 = .ok (.iconst 0, 1) := by decide +kernel
theorem dX8_fitting_138 : decode cX8_fitting 138 = .ok (.istore 6, 2) := by decide +kernel
theorem dX8_fitting_140 : decode cX8_fitting 140 = .ok (.iload 6, 2) := by decide +kernel
theorem dX8_fitting_142 : decode cX8_fitting 142 = .ok (.iconst 3, 1) := by decide +kernel
theorem dX8_fitting_143 : decode cX8_fitting 143 = .ok (.if_icmp .ge 58, 3) := by decide +kernel
theorem dX8_fitting_146 : decode cX8_fitting 146 = .ok (.iload 4, 2) := by decide +kernel
theorem dX8_fitting_148 : decode cX8_fitting 148 = .ok (.ifCond .eq 44, 3) := by decide +kernel
theorem dX8_fitting_151 : decode cX8_fitting 151 = .ok (.aload_n 0, 1) := by decide +kernel
theorem dX8_fitting_152 : decode cX8_fitting 152 = .ok (.getfield 89, 3) := by decide +kernel
theorem dX8_fitting_155 : decode cX8_fitting 155 = .ok (.bipush 100, 2) := by decide +kernel
theorem dX8_fitting_157 : decode cX8_fitting 157 = .ok (.iload_n 1, 1) := by decide +kernel
theorem dX8_fitting_158 : decode cX8_fitting 158 = .ok (.imul, 1) := by decide +kernel
theorem dX8_fitting_159 : decode cX8_fitting 159 = .ok (.iload_n 3, 1) := by decide +kernel
theorem dX8_fitting_160 : decode cX8_fitting 160 = .ok (.iadd, 1) := by decide +kernel
theorem dX8_fitting_161 : decode cX8_fitting 161 = .ok (.baload, 1) := by decide +kernel
theorem dX8_fitting_162 : decode cX8_fitting 162 = .ok (.ifCond .ne 26, 3) := by decide +kernel
theorem dX8_fitting_165 : decode cX8_fitting 165 = .ok (.aload_n 0, 1) := by decide +kernel
theorem dX8_fitting_166 : decode cX8_fitting 166 = .ok (.getfield 59, 3) := by decide +kernel
theorem dX8_fitting_169 : decode cX8_fitting 169 = .ok (.iload 6, 2) := by decide +kernel
theorem dX8_fitting_171 : decode cX8_fitting 171 = .ok (.iaload, 1) := by decide +kernel
theorem dX8_fitting_172 : decode cX8_fitting 172 = .ok (.aload_n 0, 1) := by decide +kernel
theorem dX8_fitting_173 : decode cX8_fitting 173 = .ok (.getfield 65, 3) := by decide +kernel
theorem dX8_fitting_176 : decode cX8_fitting 176 = .ok (.iload 5, 2) := by decide +kernel
theorem dX8_fitting_178 : decode cX8_fitting 178 = .ok (.bipush 7, 2) := by decide +kernel
theorem dX8_fitting_180 : decode cX8_fitting 180 = .ok (.iadd, 1) := by decide +kernel
theorem dX8_fitting_181 : decode cX8_fitting 181 = .ok (.iload 6, 2) := by decide +kernel
theorem dX8_fitting_183 : decode cX8_fitting 183 = .ok (.iadd, 1) := by decide +kernel
theorem dX8_fitting_184 : decode cX8_fitting 184 = .ok (.iaload, 1) := by decide +kernel
theorem dX8_fitting_185 : decode cX8_fitting 185 = .ok (.if_icmp .ne 7, 3) := by decide +kernel
theorem dX8_fitting_188 : decode cX8_fitting 188 = .ok (.iconst 1, 1) := by decide +kernel
theorem dX8_fitting_189 : decode cX8_fitting 189 = .ok (.goto 4, 3) := by decide +kernel
theorem dX8_fitting_192 : decode cX8_fitting 192 = .ok (.iconst 0, 1) := by decide +kernel
theorem dX8_fitting_193 : decode cX8_fitting 193 = .ok (.istore 4, 2) := by decide +kernel
theorem dX8_fitting_195 : decode cX8_fitting 195 = .ok (.iinc 6 1, 3) := by decide +kernel
theorem dX8_fitting_198 : decode cX8_fitting 198 = .ok (.goto (-58), 3) := by decide +kernel
theorem dX8_fitting_201 : decode cX8_fitting 201 = .ok (.iload_n 3, 1) := by decide +kernel
theorem dX8_fitting_202 : decode cX8_fitting 202 = .ok (.iload 4, 2) := by decide +kernel
theorem dX8_fitting_204 : decode cX8_fitting 204 = .ok (.ifCond .eq 7, 3) := by decide +kernel
theorem dX8_fitting_207 : decode cX8_fitting 207 = .ok (.iconst 1, 1) := by decide +kernel
theorem dX8_fitting_208 : decode cX8_fitting 208 = .ok (.goto 4, 3) := by decide +kernel
theorem dX8_fitting_211 : decode cX8_fitting 211 = .ok (.iconst 0, 1) := by decide +kernel
theorem dX8_fitting_212 : decode cX8_fitting 212 = .ok (.iadd, 1) := by decide +kernel
theorem dX8_fitting_213 : decode cX8_fitting 213 = .ok (.istore_n 3, 1) := by decide +kernel
theorem dX8_fitting_214 : decode cX8_fitting 214 = .ok (.goto (-161), 3) := by decide +kernel
theorem dX8_fitting_217 : decode cX8_fitting 217 = .ok (.aload_n 0, 1) := by decide +kernel
theorem dX8_fitting_218 : decode cX8_fitting 218 = .ok (.aload_n 0, 1) := by decide +kernel
theorem dX8_fitting_219 : decode cX8_fitting 219 = .ok (.getfield 13, 3) := by decide +kernel
theorem dX8_fitting_222 : decode cX8_fitting 222 = .ok (.putfield 20, 3) := by decide +kernel
theorem dX8_fitting_225 : decode cX8_fitting 225 = .ok (.iload_n 3, 1) := by decide +kernel
theorem dX8_fitting_226 : decode cX8_fitting 226 = .ok (.ireturn, 1) := by decide +kernel
theorem dX8_fits_0 : decode cX8_fits 0 = .ok (.aload_n 0, 1) := by decide +kernel
theorem dX8_fits_1 : decode cX8_fits 1 = .ok (.iconst 0, 1) := by decide +kernel
theorem dX8_fits_2 : decode cX8_fits 2 = .ok (.putfield 1, 3) := by decide +kernel
theorem dX8_fits_5 : decode cX8_fits 5 = .ok (.aload_n 0, 1) := by decide +kernel
theorem dX8_fits_6 : decode cX8_fits 6 = .ok (.iload_n 1, 1) := by decide +kernel
theorem dX8_fits_7 : decode cX8_fits 7 = .ok (.invokevirtual 359, 3) := by decide +kernel
theorem dX8_fits_10 : decode cX8_fits 10 = .ok (.ifCond .eq 11, 3) := by decide +kernel
theorem dX8_fits_13 : decode cX8_fits 13 = .ok (.aload_n 0, 1) := by decide +kernel
theorem dX8_fits_14 : decode cX8_fits 14 = .ok (.iload_n 2, 1) := by decide +kernel
theorem dX8_fits_15 : decode cX8_fits 15 = .ok (.invokevirtual 237, 3) := by decide +kernel
theorem dX8_fits_18 : decode cX8_fits 18 = .ok (.ifCond .ne 5, 3) := by decide +kernel
theorem dX8_fits_21 : decode cX8_fits 21 = .ok (.iconst 0, 1) := by decide +kernel
theorem dX8_fits_22 : decode cX8_fits 22 = .ok (.ireturn, 1) := by decide +kernel
theorem dX8_fits_23 : decode cX8_fits 23 = .ok (.aload_n 0, 1) := by decide +kernel
theorem dX8_fits_24 : decode cX8_fits 24 = .ok (.iload_n 1, 1) := by decide +kernel
theorem dX8_fits_25 : decode cX8_fits 25 = .ok (.iload_n 2, 1) := by decide +kernel
theorem dX8_fits_26 : decode cX8_fits 26 = .ok (.invokevirtual 362, 3) := by decide +kernel
theorem dX8_fits_29 : decode cX8_fits 29 = .ok (.ireturn, 1) := by decide +kernel
theorem dX8_read_0 : decode cX8_read 0 = .ok (.aload_n 0, 1) := by decide +kernel
theorem dX8_read_1 : decode cX8_read 1 = .ok (.iconst 0, 1) := by decide +kernel
theorem dX8_read_2 : decode cX8_read 2 = .ok (.putfield 1, 3) := by decide +kernel
theorem dX8_read_5 : decode cX8_read 5 = .ok (.iconst 0, 1) := by decide +kernel
theorem dX8_read_6 : decode cX8_read 6 = .ok (.istore_n 1, 1) := by decide +kernel
theorem dX8_read_7 : decode cX8_read 7 = .ok (.iconst (-1), 1) := by decide +kernel
theorem dX8_read_8 : decode cX8_read 8 = .ok (.istore_n 2, 1) := by decide +kernel
theorem dX8_read_9 : decode cX8_read 9 = .ok (.iload_n 2, 1) := by decide +kernel
theorem dX8_read_10 : decode cX8_read 10 = .ok (.aload_n 0, 1) := by decide +kernel
theorem dX8_read_11 : decode cX8_read 11 = .ok (.getfield 168, 3) := by decide +kernel
theorem dX8_read_14 : decode cX8_read 14 = .ok (.if_icmp .ge 80, 3) := by decide +kernel
theorem dX8_read_17 : decode cX8_read 17 = .ok (.iconst 1, 1) := by decide +kernel
theorem dX8_read_18 : decode cX8_read 18 = .ok (.istore_n 3, 1) := by decide +kernel
theorem dX8_read_19 : decode cX8_read 19 = .ok (.iconst 0, 1) := by decide +kernel
theorem dX8_read_20 : decode cX8_read 20 = .ok (.istore 4, 2) := by decide +kernel
theorem dX8_read_22 : decode cX8_read 22 = .ok (.iload 4, 2) := by decide +kernel
theorem dX8_read_24 : decode cX8_read 24 = .ok (.aload_n 0, 1) := by decide +kernel
theorem dX8_read_25 : decode cX8_read 25 = .ok (.getfield 356, 3) := by decide +kernel
theorem dX8_read_28 : decode cX8_read 28 = .ok (.if_icmp .ge 36, 3) := by decide +kernel
theorem dX8_read_31 : decode cX8_read 31 = .ok (.iload_n 3, 1) := by decide +kernel
theorem dX8_read_32 : decode cX8_read 32 = .ok (.ifCond .eq 24, 3) := by decide +kernel
theorem dX8_read_35 : decode cX8_read 35 = .ok (.aload_n 0, 1) := by decide +kernel
theorem dX8_read_36 : decode cX8_read 36 = .ok (.iload 4, 2) := by decide +kernel
theorem dX8_read_38 : decode cX8_read 38 = .ok (.iload_n 2, 1) := by decide +kernel
theorem dX8_read_39 : decode cX8_read 39 = .ok (.invokevirtual 362, 3) := by decide +kernel
theorem dX8_read_42 : decode cX8_read 42 = .ok (.aload_n 0, 1) := by decide +kernel
theorem dX8_read_43 : decode cX8_read 43 = .ok (.getfield 83, 3) := by decide +kernel
theorem dX8_read_46 : decode cX8_read 46 = .ok (.iload 4, 2) := by decide +kernel
theorem dX8_read_48 : decode cX8_read 48 = .ok (.iaload, 1) := by decide +kernel
theorem dX8_read_49 : decode cX8_read 49 = .ok (.if_icmp .ne 7, 3) := by decide +kernel
theorem dX8_read_52 : decode cX8_read 52 = .ok (.iconst 1, 1) := by decide +kernel
theorem dX8_read_53 : decode cX8_read 53 = .ok (.goto 4, 3) := by decide +kernel
theorem dX8_read_56 : decode cX8_read 56 = .ok (.iconst 0, 1) := by decide +kernel
theorem dX8_read_57 : decode cX8_read 57 = .ok (.istore_n 3, 1) := by decide +kernel
theorem dX8_read_58 : decode cX8_read 58 = .ok (.iinc 4 1, 3) := by decide +kernel
theorem dX8_read_61 : decode cX8_read 61 = .ok (.goto (-39), 3) := by decide +kernel
theorem dX8_read_64 : decode cX8_read 64 = .ok (.iload_n 1, 1) := by decide +kernel
theorem dX8_read_65 : decode cX8_read 65 = .ok (.iload_n 3, 1) := by decide +kernel
theorem dX8_read_66 : decode cX8_read 66 = .ok (.ifCond .eq 19, 3) := by decide +kernel
theorem dX8_read_69 : decode cX8_read 69 = .ok (.iload_n 2, 1) := by decide +kernel
theorem dX8_read_70 : decode cX8_read 70 = .ok (.iconst (-1), 1) := by decide +kernel
theorem dX8_read_71 : decode cX8_read 71 = .ok (.if_icmp .ne 8, 3) := by decide +kernel
theorem dX8_read_74 : decode cX8_read 74 = .ok (.bipush 64, 2) := by decide +kernel
theorem dX8_read_76 : decode cX8_read 76 = .ok (.goto 10, 3) := by decide +kernel
theorem dX8_read_79 : decode cX8_read 79 = .ok (.iconst 1, 1) := by decide +kernel
theorem dX8_read_80 : decode cX8_read 80 = .ok (.iload_n 2, 1) := by decide +kernel
theorem dX8_read_81 : decode cX8_read 81 = .ok (.ishl, 1) := by decide +kernel
theorem dX8_read_82 : decode cX8_read 82 = .ok (.goto 4, 3) := by decide +kernel
theorem dX8_read_85 : decode cX8_read 85 = .ok (.iconst 0, 1) := by decide +kernel
theorem dX8_read_86 : decode cX8_read 86 = .ok (.ior, 1) := by decide +kernel
theorem dX8_read_87 : decode cX8_read 87 = .ok (.istore_n 1, 1) := by decide +kernel
theorem dX8_read_88 : decode cX8_read 88 = .ok (.iinc 2 1, 3) := by decide +kernel
theorem dX8_read_91 : decode cX8_read 91 = .ok (.goto (-82), 3) := by decide +kernel
theorem dX8_read_94 : decode cX8_read 94 = .ok (.iload_n 1, 1) := by decide +kernel
theorem dX8_read_95 : decode cX8_read 95 = .ok (.ireturn, 1) := by decide +kernel
theorem dX8_begins_0 : decode cX8_begins 0 = .ok (.iconst 0, 1) := by decide +kernel
theorem dX8_begins_1 : decode cX8_begins 1 = .ok (.istore_n 1, 1) := by decide +kernel
theorem dX8_begins_2 : decode cX8_begins 2 = .ok (.iload_n 1, 1) := by decide +kernel
theorem dX8_begins_3 : decode cX8_begins 3 = .ok (.sipush 3464, 3) := by decide +kernel
theorem dX8_begins_6 : decode cX8_begins 6 = .ok (.if_icmp .ge 21, 3) := by decide +kernel
theorem dX8_begins_9 : decode cX8_begins 9 = .ok (.aload_n 0, 1) := by decide +kernel
theorem dX8_begins_10 : decode cX8_begins 10 = .ok (.getfield 17, 3) := by decide +kernel
theorem dX8_begins_13 : decode cX8_begins 13 = .ok (.iload_n 1, 1) := by decide +kernel
theorem dX8_begins_14 : decode cX8_begins 14 = .ok (.aload_n 0, 1) := by decide +kernel
theorem dX8_begins_15 : decode cX8_begins 15 = .ok (.getfield 13, 3) := by decide +kernel
theorem dX8_begins_18 : decode cX8_begins 18 = .ok (.iload_n 1, 1) := by decide +kernel
theorem dX8_begins_19 : decode cX8_begins 19 = .ok (.iaload, 1) := by decide +kernel
theorem dX8_begins_20 : decode cX8_begins 20 = .ok (.iastore, 1) := by decide +kernel
theorem dX8_begins_21 : decode cX8_begins 21 = .ok (.iinc 1 1, 3) := by decide +kernel
theorem dX8_begins_24 : decode cX8_begins 24 = .ok (.goto (-22), 3) := by decide +kernel
theorem dX8_begins_27 : decode cX8_begins 27 = .ok (.aload_n 0, 1) := by decide +kernel
theorem dX8_begins_28 : decode cX8_begins 28 = .ok (.aload_n 0, 1) := by decide +kernel
theorem dX8_begins_29 : decode cX8_begins 29 = .ok (.getfield 17, 3) := by decide +kernel
theorem dX8_begins_32 : decode cX8_begins 32 = .ok (.putfield 20, 3) := by decide +kernel
theorem dX8_begins_35 : decode cX8_begins 35 = .ok (.return_, 1) := by decide +kernel
theorem dX8_tries_0 : decode cX8_tries 0 = .ok (.aload_n 0, 1) := by decide +kernel
theorem dX8_tries_1 : decode cX8_tries 1 = .ok (.iload_n 1, 1) := by decide +kernel
theorem dX8_tries_2 : decode cX8_tries 2 = .ok (.invokevirtual 344, 3) := by decide +kernel
theorem dX8_tries_5 : decode cX8_tries 5 = .ok (.iconst 0, 1) := by decide +kernel
theorem dX8_tries_6 : decode cX8_tries 6 = .ok (.istore_n 3, 1) := by decide +kernel
theorem dX8_tries_7 : decode cX8_tries 7 = .ok (.iload_n 3, 1) := by decide +kernel
theorem dX8_tries_8 : decode cX8_tries 8 = .ok (.iload_n 2, 1) := by decide +kernel
theorem dX8_tries_9 : decode cX8_tries 9 = .ok (.if_icmp .ge 33, 3) := by decide +kernel
theorem dX8_tries_12 : decode cX8_tries 12 = .ok (.aload_n 0, 1) := by decide +kernel
theorem dX8_tries_13 : decode cX8_tries 13 = .ok (.getfield 335, 3) := by decide +kernel
theorem dX8_tries_16 : decode cX8_tries 16 = .ok (.iconst 2, 1) := by decide +kernel
theorem dX8_tries_17 : decode cX8_tries 17 = .ok (.if_icmp .lt 25, 3) := by decide +kernel
theorem dX8_tries_20 : decode cX8_tries 20 = .ok (.aload_n 0, 1) := by decide +kernel
theorem dX8_tries_21 : decode cX8_tries 21 = .ok (.invokevirtual 347, 3) := by decide +kernel
theorem dX8_tries_24 : decode cX8_tries 24 = .ok (.aload_n 0, 1) := by decide +kernel
theorem dX8_tries_25 : decode cX8_tries 25 = .ok (.aload_n 0, 1) := by decide +kernel
theorem dX8_tries_26 : decode cX8_tries 26 = .ok (.getfield 338, 3) := by decide +kernel
theorem dX8_tries_29 : decode cX8_tries 29 = .ok (.aload_n 0, 1) := by decide +kernel
theorem dX8_tries_30 : decode cX8_tries 30 = .ok (.getfield 341, 3) := by decide +kernel
theorem dX8_tries_33 : decode cX8_tries 33 = .ok (.invokevirtual 326, 3) := by decide +kernel
theorem dX8_tries_36 : decode cX8_tries 36 = .ok (.iinc 3 1, 3) := by decide +kernel
theorem dX8_tries_39 : decode cX8_tries 39 = .ok (.goto (-32), 3) := by decide +kernel
theorem dX8_tries_42 : decode cX8_tries 42 = .ok (.return_, 1) := by decide +kernel
theorem dX8_tryWith_0 : decode cX8_tryWith 0 = .ok (.aload_n 0, 1) := by decide +kernel
theorem dX8_tryWith_1 : decode cX8_tryWith 1 = .ok (.invokevirtual 365, 3) := by decide +kernel
theorem dX8_tryWith_4 : decode cX8_tryWith 4 = .ok (.aload_n 0, 1) := by decide +kernel
theorem dX8_tryWith_5 : decode cX8_tryWith 5 = .ok (.getfield 20, 3) := by decide +kernel
theorem dX8_tryWith_8 : decode cX8_tryWith 8 = .ok (.iconst 5, 1) := by decide +kernel
theorem dX8_tryWith_9 : decode cX8_tryWith 9 = .ok (.iload_n 3, 1) := by decide +kernel
theorem dX8_tryWith_10 : decode cX8_tryWith 10 = .ok (.iastore, 1) := by decide +kernel
theorem dX8_tryWith_11 : decode cX8_tryWith 11 = .ok (.aload_n 0, 1) := by decide +kernel
theorem dX8_tryWith_12 : decode cX8_tryWith 12 = .ok (.iload_n 1, 1) := by decide +kernel
theorem dX8_tryWith_13 : decode cX8_tryWith 13 = .ok (.iload_n 2, 1) := by decide +kernel
theorem dX8_tryWith_14 : decode cX8_tryWith 14 = .ok (.invokevirtual 368, 3) := by decide +kernel
theorem dX8_tryWith_17 : decode cX8_tryWith 17 = .ok (.aload_n 0, 1) := by decide +kernel
theorem dX8_tryWith_18 : decode cX8_tryWith 18 = .ok (.iload_n 1, 1) := by decide +kernel
theorem dX8_tryWith_19 : decode cX8_tryWith 19 = .ok (.iload 4, 2) := by decide +kernel
theorem dX8_tryWith_21 : decode cX8_tryWith 21 = .ok (.invokevirtual 353, 3) := by decide +kernel
theorem dX8_tryWith_24 : decode cX8_tryWith 24 = .ok (.istore 5, 2) := by decide +kernel
theorem dX8_tryWith_26 : decode cX8_tryWith 26 = .ok (.aload_n 0, 1) := by decide +kernel
theorem dX8_tryWith_27 : decode cX8_tryWith 27 = .ok (.aload_n 0, 1) := by decide +kernel
theorem dX8_tryWith_28 : decode cX8_tryWith 28 = .ok (.getfield 13, 3) := by decide +kernel
theorem dX8_tryWith_31 : decode cX8_tryWith 31 = .ok (.putfield 20, 3) := by decide +kernel
theorem dX8_tryWith_34 : decode cX8_tryWith 34 = .ok (.iload 5, 2) := by decide +kernel
theorem dX8_tryWith_36 : decode cX8_tryWith 36 = .ok (.ireturn, 1) := by decide +kernel
theorem dX8_trial_0 : decode cX8_trial 0 = .ok (.aload_n 0, 1) := by decide +kernel
theorem dX8_trial_1 : decode cX8_trial 1 = .ok (.iconst 0, 1) := by decide +kernel
theorem dX8_trial_2 : decode cX8_trial 2 = .ok (.putfield 1, 3) := by decide +kernel
theorem dX8_trial_5 : decode cX8_trial 5 = .ok (.aload_n 0, 1) := by decide +kernel
theorem dX8_trial_6 : decode cX8_trial 6 = .ok (.iload_n 3, 1) := by decide +kernel
theorem dX8_trial_7 : decode cX8_trial 7 = .ok (.invokevirtual 237, 3) := by decide +kernel
theorem dX8_trial_10 : decode cX8_trial 10 = .ok (.ifCond .eq 42, 3) := by decide +kernel
theorem dX8_trial_13 : decode cX8_trial 13 = .ok (.aload_n 0, 1) := by decide +kernel
theorem dX8_trial_14 : decode cX8_trial 14 = .ok (.iload_n 1, 1) := by decide +kernel
theorem dX8_trial_15 : decode cX8_trial 15 = .ok (.invokestatic 117, 3) := by decide +kernel
theorem dX8_trial_18 : decode cX8_trial 18 = .ok (.ifCond .eq 26, 3) := by decide +kernel
theorem dX8_trial_21 : decode cX8_trial 21 = .ok (.iload_n 2, 1) := by decide +kernel
theorem dX8_trial_22 : decode cX8_trial 22 = .ok (.iconst 0, 1) := by decide +kernel
theorem dX8_trial_23 : decode cX8_trial 23 = .ok (.sipush 200, 3) := by decide +kernel
theorem dX8_trial_26 : decode cX8_trial 26 = .ok (.invokestatic 106, 3) := by decide +kernel
theorem dX8_trial_29 : decode cX8_trial 29 = .ok (.ifCond .eq 15, 3) := by decide +kernel
theorem dX8_trial_32 : decode cX8_trial 32 = .ok (.iload 4, 2) := by decide +kernel
theorem dX8_trial_34 : decode cX8_trial 34 = .ok (.invokestatic 132, 3) := by decide +kernel
theorem dX8_trial_37 : decode cX8_trial 37 = .ok (.ifCond .eq 7, 3) := by decide +kernel
theorem dX8_trial_40 : decode cX8_trial 40 = .ok (.iconst 1, 1) := by decide +kernel
theorem dX8_trial_41 : decode cX8_trial 41 = .ok (.goto 4, 3) := by decide +kernel
theorem dX8_trial_44 : decode cX8_trial 44 = .ok (.iconst 0, 1) := by decide +kernel
theorem dX8_trial_45 : decode cX8_trial 45 = .ok (.iconst 2, 1) := by decide +kernel
theorem dX8_trial_46 : decode cX8_trial 46 = .ok (.invokevirtual 110, 3) := by decide +kernel
theorem dX8_trial_49 : decode cX8_trial 49 = .ok (.ifCond .ne 5, 3) := by decide +kernel
theorem dX8_trial_52 : decode cX8_trial 52 = .ok (.iconst 0, 1) := by decide +kernel
theorem dX8_trial_53 : decode cX8_trial 53 = .ok (.ireturn, 1) := by decide +kernel
theorem dX8_trial_54 : decode cX8_trial 54 = .ok (.aload_n 0, 1) := by decide +kernel
theorem dX8_trial_55 : decode cX8_trial 55 = .ok (.iload_n 1, 1) := by decide +kernel
theorem dX8_trial_56 : decode cX8_trial 56 = .ok (.iload_n 2, 1) := by decide +kernel
theorem dX8_trial_57 : decode cX8_trial 57 = .ok (.iload_n 3, 1) := by decide +kernel
theorem dX8_trial_58 : decode cX8_trial 58 = .ok (.iload 4, 2) := by decide +kernel
theorem dX8_trial_60 : decode cX8_trial 60 = .ok (.invokevirtual 371, 3) := by decide +kernel
theorem dX8_trial_63 : decode cX8_trial 63 = .ok (.ireturn, 1) := by decide +kernel
theorem dX8_fewest_0 : decode cX8_fewest 0 = .ok (.aload_n 0, 1) := by decide +kernel
theorem dX8_fewest_1 : decode cX8_fewest 1 = .ok (.iconst 0, 1) := by decide +kernel
theorem dX8_fewest_2 : decode cX8_fewest 2 = .ok (.putfield 1, 3) := by decide +kernel
theorem dX8_fewest_5 : decode cX8_fewest 5 = .ok (.aload_n 0, 1) := by decide +kernel
theorem dX8_fewest_6 : decode cX8_fewest 6 = .ok (.iload_n 1, 1) := by decide +kernel
theorem dX8_fewest_7 : decode cX8_fewest 7 = .ok (.iload_n 2, 1) := by decide +kernel
theorem dX8_fewest_8 : decode cX8_fewest 8 = .ok (.iload 4, 2) := by decide +kernel
theorem dX8_fewest_10 : decode cX8_fewest 10 = .ok (.invokestatic 374, 3) := by decide +kernel
theorem dX8_fewest_13 : decode cX8_fewest 13 = .ok (.ifCond .eq 17, 3) := by decide +kernel
theorem dX8_fewest_16 : decode cX8_fewest 16 = .ok (.iload_n 3, 1) := by decide +kernel
theorem dX8_fewest_17 : decode cX8_fewest 17 = .ok (.iconst 1, 1) := by decide +kernel
theorem dX8_fewest_18 : decode cX8_fewest 18 = .ok (.bipush 100, 2) := by decide +kernel
theorem dX8_fewest_20 : decode cX8_fewest 20 = .ok (.invokestatic 106, 3) := by decide +kernel
theorem dX8_fewest_23 : decode cX8_fewest 23 = .ok (.ifCond .eq 7, 3) := by decide +kernel
theorem dX8_fewest_26 : decode cX8_fewest 26 = .ok (.iconst 1, 1) := by decide +kernel
theorem dX8_fewest_27 : decode cX8_fewest 27 = .ok (.goto 4, 3) := by decide +kernel
theorem dX8_fewest_30 : decode cX8_fewest 30 = .ok (.iconst 0, 1) := by decide +kernel
theorem dX8_fewest_31 : decode cX8_fewest 31 = .ok (.iconst 1, 1) := by decide +kernel
theorem dX8_fewest_32 : decode cX8_fewest 32 = .ok (.invokevirtual 110, 3) := by decide +kernel
theorem dX8_fewest_35 : decode cX8_fewest 35 = .ok (.ifCond .ne 5, 3) := by decide +kernel
theorem dX8_fewest_38 : decode cX8_fewest 38 = .ok (.iconst 0, 1) := by decide +kernel
theorem dX8_fewest_39 : decode cX8_fewest 39 = .ok (.ireturn, 1) := by decide +kernel
theorem dX8_fewest_40 : decode cX8_fewest 40 = .ok (.aload_n 0, 1) := by decide +kernel
theorem dX8_fewest_41 : decode cX8_fewest 41 = .ok (.iload_n 1, 1) := by decide +kernel
theorem dX8_fewest_42 : decode cX8_fewest 42 = .ok (.invokevirtual 344, 3) := by decide +kernel
theorem dX8_fewest_45 : decode cX8_fewest 45 = .ok (.aload_n 0, 1) := by decide +kernel
theorem dX8_fewest_46 : decode cX8_fewest 46 = .ok (.getfield 335, 3) := by decide +kernel
theorem dX8_fewest_49 : decode cX8_fewest 49 = .ok (.istore 5, 2) := by decide +kernel
theorem dX8_fewest_51 : decode cX8_fewest 51 = .ok (.iconst 2, 1) := by decide +kernel
theorem dX8_fewest_52 : decode cX8_fewest 52 = .ok (.istore 6, 2) := by decide +kernel
theorem dX8_fewest_54 : decode cX8_fewest 54 = .ok (.iload 6, 2) := by decide +kernel
theorem dX8_fewest_56 : decode cX8_fewest 56 = .ok (.iload 5, 2) := by decide +kernel
theorem dX8_fewest_58 : decode cX8_fewest 58 = .ok (.if_icmp .gt 91, 3) := by decide +kernel
theorem dX8_fewest_61 : decode cX8_fewest 61 = .ok (.aload_n 0, 1) := by decide +kernel
theorem dX8_fewest_62 : decode cX8_fewest 62 = .ok (.invokevirtual 365, 3) := by decide +kernel
theorem dX8_fewest_65 : decode cX8_fewest 65 = .ok (.aload_n 0, 1) := by decide +kernel
theorem dX8_fewest_66 : decode cX8_fewest 66 = .ok (.iload_n 1, 1) := by decide +kernel
theorem dX8_fewest_67 : decode cX8_fewest 67 = .ok (.invokevirtual 344, 3) := by decide +kernel
theorem dX8_fewest_70 : decode cX8_fewest 70 = .ok (.iload 6, 2) := by decide +kernel
theorem dX8_fewest_72 : decode cX8_fewest 72 = .ok (.istore 7, 2) := by decide +kernel
theorem dX8_fewest_74 : decode cX8_fewest 74 = .ok (.iload 7, 2) := by decide +kernel
theorem dX8_fewest_76 : decode cX8_fewest 76 = .ok (.iload 5, 2) := by decide +kernel
theorem dX8_fewest_78 : decode cX8_fewest 78 = .ok (.if_icmp .ge 27, 3) := by decide +kernel
theorem dX8_fewest_81 : decode cX8_fewest 81 = .ok (.aload_n 0, 1) := by decide +kernel
theorem dX8_fewest_82 : decode cX8_fewest 82 = .ok (.getfield 20, 3) := by decide +kernel
theorem dX8_fewest_85 : decode cX8_fewest 85 = .ok (.aload_n 0, 1) := by decide +kernel
theorem dX8_fewest_86 : decode cX8_fewest 86 = .ok (.getfield 74, 3) := by decide +kernel
theorem dX8_fewest_89 : decode cX8_fewest 89 = .ok (.iload 7, 2) := by decide +kernel
theorem dX8_fewest_91 : decode cX8_fewest 91 = .ok (.iaload, 1) := by decide +kernel
theorem dX8_fewest_92 : decode cX8_fewest 92 = .ok (.invokestatic 121, 3) := by decide +kernel
theorem dX8_fewest_95 : decode cX8_fewest 95 = .ok (.iconst 3, 1) := by decide +kernel
theorem dX8_fewest_96 : decode cX8_fewest 96 = .ok (.iadd, 1) := by decide +kernel
theorem dX8_fewest_97 : decode cX8_fewest 97 = .ok (.iconst 0, 1) := by decide +kernel
theorem dX8_fewest_98 : decode cX8_fewest 98 = .ok (.iastore, 1) := by decide +kernel
theorem dX8_fewest_99 : decode cX8_fewest 99 = .ok (.iinc 7 1, 3) := by decide +kernel
theorem dX8_fewest_102 : decode cX8_fewest 102 = .ok (.goto (-28), 3) := by decide +kernel
theorem dX8_fewest_105 : decode cX8_fewest 105 = .ok (.aload_n 0, 1) := by decide +kernel
theorem dX8_fewest_106 : decode cX8_fewest 106 = .ok (.iload_n 1, 1) := by decide +kernel
theorem dX8_fewest_107 : decode cX8_fewest 107 = .ok (.iload_n 2, 1) := by decide +kernel
theorem dX8_fewest_108 : decode cX8_fewest 108 = .ok (.invokevirtual 368, 3) := by decide +kernel
theorem dX8_fewest_111 : decode cX8_fewest 111 = .ok (.aload_n 0, 1) := by decide +kernel
theorem dX8_fewest_112 : decode cX8_fewest 112 = .ok (.iload_n 1, 1) := by decide +kernel
theorem dX8_fewest_113 : decode cX8_fewest 113 = .ok (.iload 4, 2) := by decide +kernel
theorem dX8_fewest_115 : decode cX8_fewest 115 = .ok (.invokevirtual 353, 3) := by decide +kernel
theorem dX8_fewest_118 : decode cX8_fewest 118 = .ok (.istore 7, 2) := by decide +kernel
theorem dX8_fewest_120 : decode cX8_fewest 120 = .ok (.aload_n 0, 1) := by decide +kernel
theorem dX8_fewest_121 : decode cX8_fewest 121 = .ok (.aload_n 0, 1) := by decide +kernel
theorem dX8_fewest_122 : decode cX8_fewest 122 = .ok (.getfield 13, 3) := by decide +kernel
theorem dX8_fewest_125 : decode cX8_fewest 125 = .ok (.putfield 20, 3) := by decide +kernel
theorem dX8_fewest_128 : decode cX8_fewest 128 = .ok (.bipush 100, 2) := by decide +kernel
theorem dX8_fewest_130 : decode cX8_fewest 130 = .ok (.iload 7, 2) := by decide +kernel
theorem dX8_fewest_132 : decode cX8_fewest 132 = .ok (.imul, 1) := by decide +kernel
theorem dX8_fewest_133 : decode cX8_fewest 133 = .ok (.iload 6, 2) := by decide +kernel
theorem dX8_fewest_135 : decode cX8_fewest 135 = .ok (.iload_n 3, 1) := by decide +kernel
theorem dX8_fewest_136 : decode cX8_fewest 136 = .ok (.imul, 1) := by decide +kernel
theorem dX8_fewest_137 : decode cX8_fewest 137 = .ok (.if_icmp .lt 6, 3) := by decide +kernel
theorem dX8_fewest_140 : decode cX8_fewest 140 = .ok (.iload 6, 2) := by decide +kernel
theorem dX8_fewest_142 : decode cX8_fewest 142 = .ok (.ireturn, 1) := by decide +kernel
theorem dX8_fewest_143 : decode cX8_fewest 143 = .ok (.iinc 6 1, 3) := by decide +kernel
theorem dX8_fewest_146 : decode cX8_fewest 146 = .ok (.goto (-92), 3) := by decide +kernel
theorem dX8_fewest_149 : decode cX8_fewest 149 = .ok (.iconst (-1), 1) := by decide +kernel
theorem dX8_fewest_150 : decode cX8_fewest 150 = .ok (.ireturn, 1) := by decide +kernel
theorem dX8_needed_0 : decode cX8_needed 0 = .ok (.aload_n 0, 1) := by decide +kernel
theorem dX8_needed_1 : decode cX8_needed 1 = .ok (.iconst 0, 1) := by decide +kernel
theorem dX8_needed_2 : decode cX8_needed 2 = .ok (.putfield 1, 3) := by decide +kernel
theorem dX8_needed_5 : decode cX8_needed 5 = .ok (.aload_n 0, 1) := by decide +kernel
theorem dX8_needed_6 : decode cX8_needed 6 = .ok (.iload_n 1, 1) := by decide +kernel
theorem dX8_needed_7 : decode cX8_needed 7 = .ok (.invokestatic 117, 3) := by decide +kernel
theorem dX8_needed_10 : decode cX8_needed 10 = .ok (.ifCond .eq 25, 3) := by decide +kernel
theorem dX8_needed_13 : decode cX8_needed 13 = .ok (.iload_n 2, 1) := by decide +kernel
theorem dX8_needed_14 : decode cX8_needed 14 = .ok (.iconst 0, 1) := by decide +kernel
theorem dX8_needed_15 : decode cX8_needed 15 = .ok (.sipush 200, 3) := by decide +kernel
theorem dX8_needed_18 : decode cX8_needed 18 = .ok (.invokestatic 106, 3) := by decide +kernel
theorem dX8_needed_21 : decode cX8_needed 21 = .ok (.ifCond .eq 14, 3) := by decide +kernel
theorem dX8_needed_24 : decode cX8_needed 24 = .ok (.iload_n 3, 1) := by decide +kernel
theorem dX8_needed_25 : decode cX8_needed 25 = .ok (.invokestatic 132, 3) := by decide +kernel
theorem dX8_needed_28 : decode cX8_needed 28 = .ok (.ifCond .eq 7, 3) := by decide +kernel
theorem dX8_needed_31 : decode cX8_needed 31 = .ok (.iconst 1, 1) := by decide +kernel
theorem dX8_needed_32 : decode cX8_needed 32 = .ok (.goto 4, 3) := by decide +kernel
theorem dX8_needed_35 : decode cX8_needed 35 = .ok (.iconst 0, 1) := by decide +kernel
theorem dX8_needed_36 : decode cX8_needed 36 = .ok (.iconst 1, 1) := by decide +kernel
theorem dX8_needed_37 : decode cX8_needed 37 = .ok (.invokevirtual 110, 3) := by decide +kernel
theorem dX8_needed_40 : decode cX8_needed 40 = .ok (.ifCond .ne 5, 3) := by decide +kernel
theorem dX8_needed_43 : decode cX8_needed 43 = .ok (.iconst 0, 1) := by decide +kernel
theorem dX8_needed_44 : decode cX8_needed 44 = .ok (.ireturn, 1) := by decide +kernel
theorem dX8_needed_45 : decode cX8_needed 45 = .ok (.aload_n 0, 1) := by decide +kernel
theorem dX8_needed_46 : decode cX8_needed 46 = .ok (.getfield 13, 3) := by decide +kernel
theorem dX8_needed_49 : decode cX8_needed 49 = .ok (.iconst 5, 1) := by decide +kernel
theorem dX8_needed_50 : decode cX8_needed 50 = .ok (.iaload, 1) := by decide +kernel
theorem dX8_needed_51 : decode cX8_needed 51 = .ok (.istore 4, 2) := by decide +kernel
theorem dX8_needed_53 : decode cX8_needed 53 = .ok (.iload 4, 2) := by decide +kernel
theorem dX8_needed_55 : decode cX8_needed 55 = .ok (.iconst (-1), 1) := by decide +kernel
theorem dX8_needed_56 : decode cX8_needed 56 = .ok (.if_icmp .ne 5, 3) := by decide +kernel
theorem dX8_needed_59 : decode cX8_needed 59 = .ok (.iconst 0, 1) := by decide +kernel
theorem dX8_needed_60 : decode cX8_needed 60 = .ok (.ireturn, 1) := by decide +kernel
theorem dX8_needed_61 : decode cX8_needed 61 = .ok (.aload_n 0, 1) := by decide +kernel
theorem dX8_needed_62 : decode cX8_needed 62 = .ok (.iload_n 1, 1) := by decide +kernel
theorem dX8_needed_63 : decode cX8_needed 63 = .ok (.iload_n 2, 1) := by decide +kernel
theorem dX8_needed_64 : decode cX8_needed 64 = .ok (.iload 4, 2) := by decide +kernel
theorem dX8_needed_66 : decode cX8_needed 66 = .ok (.iload_n 3, 1) := by decide +kernel
theorem dX8_needed_67 : decode cX8_needed 67 = .ok (.invokevirtual 371, 3) := by decide +kernel
theorem dX8_needed_70 : decode cX8_needed 70 = .ok (.istore 5, 2) := by decide +kernel
theorem dX8_needed_72 : decode cX8_needed 72 = .ok (.iconst 0, 1) := by decide +kernel
theorem dX8_needed_73 : decode cX8_needed 73 = .ok (.istore 6, 2) := by decide +kernel
theorem dX8_needed_75 : decode cX8_needed 75 = .ok (.iconst 0, 1) := by decide +kernel
theorem dX8_needed_76 : decode cX8_needed 76 = .ok (.istore 7, 2) := by decide +kernel
theorem dX8_needed_78 : decode cX8_needed 78 = .ok (.iload 7, 2) := by decide +kernel
theorem dX8_needed_80 : decode cX8_needed 80 = .ok (.aload_n 0, 1) := by decide +kernel
theorem dX8_needed_81 : decode cX8_needed 81 = .ok (.getfield 29, 3) := by decide +kernel
theorem dX8_needed_84 : decode cX8_needed 84 = .ok (.iload 4, 2) := by decide +kernel
theorem dX8_needed_86 : decode cX8_needed 86 = .ok (.iaload, 1) := by decide +kernel
theorem dX8_needed_87 : decode cX8_needed 87 = .ok (.if_icmp .ge 42, 3) := by decide +kernel
theorem dX8_needed_90 : decode cX8_needed 90 = .ok (.aload_n 0, 1) := by decide +kernel
theorem dX8_needed_91 : decode cX8_needed 91 = .ok (.iload 7, 2) := by decide +kernel
theorem dX8_needed_93 : decode cX8_needed 93 = .ok (.putfield 50, 3) := by decide +kernel
theorem dX8_needed_96 : decode cX8_needed 96 = .ok (.iload 6, 2) := by decide +kernel
theorem dX8_needed_98 : decode cX8_needed 98 = .ok (.aload_n 0, 1) := by decide +kernel
theorem dX8_needed_99 : decode cX8_needed 99 = .ok (.iload_n 1, 1) := by decide +kernel
theorem dX8_needed_100 : decode cX8_needed 100 = .ok (.iload_n 2, 1) := by decide +kernel
theorem dX8_needed_101 : decode cX8_needed 101 = .ok (.iload 4, 2) := by decide +kernel
theorem dX8_needed_103 : decode cX8_needed 103 = .ok (.iload_n 3, 1) := by decide +kernel
theorem dX8_needed_104 : decode cX8_needed 104 = .ok (.invokevirtual 371, 3) := by decide +kernel
theorem dX8_needed_107 : decode cX8_needed 107 = .ok (.iload 5, 2) := by decide +kernel
theorem dX8_needed_109 : decode cX8_needed 109 = .ok (.if_icmp .ge 10, 3) := by decide +kernel
theorem dX8_needed_112 : decode cX8_needed 112 = .ok (.iconst 1, 1) := by decide +kernel
theorem dX8_needed_113 : decode cX8_needed 113 = .ok (.iload 7, 2) := by decide +kernel
theorem dX8_needed_115 : decode cX8_needed 115 = .ok (.ishl, 1) := by decide +kernel
theorem dX8_needed_116 : decode cX8_needed 116 = .ok (.goto 4, 3) := by decide +kernel
theorem dX8_needed_119 : decode cX8_needed 119 = .ok (.iconst 0, 1) := by decide +kernel
theorem dX8_needed_120 : decode cX8_needed 120 = .ok (.ior, 1) := by decide +kernel
theorem dX8_needed_121 : decode cX8_needed 121 = .ok (.istore 6, 2) := by decide +kernel
theorem dX8_needed_123 : decode cX8_needed 123 = .ok (.iinc 7 1, 3) := by decide +kernel
theorem dX8_needed_126 : decode cX8_needed 126 = .ok (.goto (-48), 3) := by decide +kernel
theorem dX8_needed_129 : decode cX8_needed 129 = .ok (.aload_n 0, 1) := by decide +kernel
theorem dX8_needed_130 : decode cX8_needed 130 = .ok (.iconst (-1), 1) := by decide +kernel
theorem dX8_needed_131 : decode cX8_needed 131 = .ok (.putfield 50, 3) := by decide +kernel
theorem dX8_needed_134 : decode cX8_needed 134 = .ok (.iload 6, 2) := by decide +kernel
theorem dX8_needed_136 : decode cX8_needed 136 = .ok (.ireturn, 1) := by decide +kernel
theorem dX8_greatest_0 : decode cX8_greatest 0 = .ok (.iconst 0, 1) := by decide +kernel
theorem dX8_greatest_1 : decode cX8_greatest 1 = .ok (.istore_n 3, 1) := by decide +kernel
theorem dX8_greatest_2 : decode cX8_greatest 2 = .ok (.iconst (-1), 1) := by decide +kernel
theorem dX8_greatest_3 : decode cX8_greatest 3 = .ok (.istore 4, 2) := by decide +kernel
theorem dX8_greatest_5 : decode cX8_greatest 5 = .ok (.iconst 0, 1) := by decide +kernel
theorem dX8_greatest_6 : decode cX8_greatest 6 = .ok (.istore 5, 2) := by decide +kernel
theorem dX8_greatest_8 : decode cX8_greatest 8 = .ok (.iload 5, 2) := by decide +kernel
theorem dX8_greatest_10 : decode cX8_greatest 10 = .ok (.iload_n 2, 1) := by decide +kernel
theorem dX8_greatest_11 : decode cX8_greatest 11 = .ok (.if_icmp .ge 72, 3) := by decide +kernel
theorem dX8_greatest_14 : decode cX8_greatest 14 = .ok (.iconst 0, 1) := by decide +kernel
theorem dX8_greatest_15 : decode cX8_greatest 15 = .ok (.istore 6, 2) := by decide +kernel
theorem dX8_greatest_17 : decode cX8_greatest 17 = .ok (.iconst 0, 1) := by decide +kernel
theorem dX8_greatest_18 : decode cX8_greatest 18 = .ok (.istore 7, 2) := by decide +kernel
theorem dX8_greatest_20 : decode cX8_greatest 20 = .ok (.iload 7, 2) := by decide +kernel
theorem dX8_greatest_22 : decode cX8_greatest 22 = .ok (.aload_n 0, 1) := by decide +kernel
theorem dX8_greatest_23 : decode cX8_greatest 23 = .ok (.getfield 335, 3) := by decide +kernel
theorem dX8_greatest_26 : decode cX8_greatest 26 = .ok (.if_icmp .ge 34, 3) := by decide +kernel
theorem dX8_greatest_29 : decode cX8_greatest 29 = .ok (.iload 6, 2) := by decide +kernel
theorem dX8_greatest_31 : decode cX8_greatest 31 = .ok (.aload_n 0, 1) := by decide +kernel
theorem dX8_greatest_32 : decode cX8_greatest 32 = .ok (.getfield 20, 3) := by decide +kernel
theorem dX8_greatest_35 : decode cX8_greatest 35 = .ok (.aload_n 0, 1) := by decide +kernel
theorem dX8_greatest_36 : decode cX8_greatest 36 = .ok (.getfield 74, 3) := by decide +kernel
theorem dX8_greatest_39 : decode cX8_greatest 39 = .ok (.iload 7, 2) := by decide +kernel
theorem dX8_greatest_41 : decode cX8_greatest 41 = .ok (.iaload, 1) := by decide +kernel
theorem dX8_greatest_42 : decode cX8_greatest 42 = .ok (.invokestatic 121, 3) := by decide +kernel
theorem dX8_greatest_45 : decode cX8_greatest 45 = .ok (.iload_n 1, 1) := by decide +kernel
theorem dX8_greatest_46 : decode cX8_greatest 46 = .ok (.iadd, 1) := by decide +kernel
theorem dX8_greatest_47 : decode cX8_greatest 47 = .ok (.iload 5, 2) := by decide +kernel
theorem dX8_greatest_49 : decode cX8_greatest 49 = .ok (.iadd, 1) := by decide +kernel
theorem dX8_greatest_50 : decode cX8_greatest 50 = .ok (.iaload, 1) := by decide +kernel
theorem dX8_greatest_51 : decode cX8_greatest 51 = .ok (.iadd, 1) := by decide +kernel
theorem dX8_greatest_52 : decode cX8_greatest 52 = .ok (.istore 6, 2) := by decide +kernel
theorem dX8_greatest_54 : decode cX8_greatest 54 = .ok (.iinc 7 1, 3) := by decide +kernel
theorem dX8_greatest_57 : decode cX8_greatest 57 = .ok (.goto (-37), 3) := by decide +kernel
theorem dX8_greatest_60 : decode cX8_greatest 60 = .ok (.iload 6, 2) := by decide +kernel
theorem dX8_greatest_62 : decode cX8_greatest 62 = .ok (.iload 4, 2) := by decide +kernel
theorem dX8_greatest_64 : decode cX8_greatest 64 = .ok (.if_icmp .gt 6, 3) := by decide +kernel
theorem dX8_greatest_67 : decode cX8_greatest 67 = .ok (.goto 10, 3) := by decide +kernel
theorem dX8_greatest_70 : decode cX8_greatest 70 = .ok (.iload 6, 2) := by decide +kernel
theorem dX8_greatest_72 : decode cX8_greatest 72 = .ok (.istore 4, 2) := by decide +kernel
theorem dX8_greatest_74 : decode cX8_greatest 74 = .ok (.iload 5, 2) := by decide +kernel
theorem dX8_greatest_76 : decode cX8_greatest 76 = .ok (.istore_n 3, 1) := by decide +kernel
theorem dX8_greatest_77 : decode cX8_greatest 77 = .ok (.iinc 5 1, 3) := by decide +kernel
theorem dX8_greatest_80 : decode cX8_greatest 80 = .ok (.goto (-72), 3) := by decide +kernel
theorem dX8_greatest_83 : decode cX8_greatest 83 = .ok (.iload_n 3, 1) := by decide +kernel
theorem dX8_greatest_84 : decode cX8_greatest 84 = .ok (.ireturn, 1) := by decide +kernel
theorem dX8_unlike_0 : decode cX8_unlike 0 = .ok (.aload_n 0, 1) := by decide +kernel
theorem dX8_unlike_1 : decode cX8_unlike 1 = .ok (.iconst 0, 1) := by decide +kernel
theorem dX8_unlike_2 : decode cX8_unlike 2 = .ok (.putfield 1, 3) := by decide +kernel
theorem dX8_unlike_5 : decode cX8_unlike 5 = .ok (.aload_n 0, 1) := by decide +kernel
theorem dX8_unlike_6 : decode cX8_unlike 6 = .ok (.iload_n 1, 1) := by decide +kernel
theorem dX8_unlike_7 : decode cX8_unlike 7 = .ok (.invokestatic 117, 3) := by decide +kernel
theorem dX8_unlike_10 : decode cX8_unlike 10 = .ok (.ifCond .eq 14, 3) := by decide +kernel
theorem dX8_unlike_13 : decode cX8_unlike 13 = .ok (.iload_n 2, 1) := by decide +kernel
theorem dX8_unlike_14 : decode cX8_unlike 14 = .ok (.invokestatic 117, 3) := by decide +kernel
theorem dX8_unlike_17 : decode cX8_unlike 17 = .ok (.ifCond .eq 7, 3) := by decide +kernel
theorem dX8_unlike_20 : decode cX8_unlike 20 = .ok (.iconst 1, 1) := by decide +kernel
theorem dX8_unlike_21 : decode cX8_unlike 21 = .ok (.goto 4, 3) := by decide +kernel
theorem dX8_unlike_24 : decode cX8_unlike 24 = .ok (.iconst 0, 1) := by decide +kernel
theorem dX8_unlike_25 : decode cX8_unlike 25 = .ok (.iconst 1, 1) := by decide +kernel
theorem dX8_unlike_26 : decode cX8_unlike 26 = .ok (.invokevirtual 110, 3) := by decide +kernel
theorem dX8_unlike_29 : decode cX8_unlike 29 = .ok (.ifCond .ne 5, 3) := by decide +kernel
theorem dX8_unlike_32 : decode cX8_unlike 32 = .ok (.iconst 0, 1) := by decide +kernel
theorem dX8_unlike_33 : decode cX8_unlike 33 = .ok (.ireturn, 1) := by decide +kernel
theorem dX8_unlike_34 : decode cX8_unlike 34 = .ok (.aload_n 0, 1) := by decide +kernel
theorem dX8_unlike_35 : decode cX8_unlike 35 = .ok (.iload_n 1, 1) := by decide +kernel
theorem dX8_unlike_36 : decode cX8_unlike 36 = .ok (.iload_n 2, 1) := by decide +kernel
theorem dX8_unlike_37 : decode cX8_unlike 37 = .ok (.invokevirtual 377, 3) := by decide +kernel
theorem dX8_unlike_40 : decode cX8_unlike 40 = .ok (.ireturn, 1) := by decide +kernel
theorem dX8_unlikeOf_0 : decode cX8_unlikeOf 0 = .ok (.aload_n 0, 1) := by decide +kernel
theorem dX8_unlikeOf_1 : decode cX8_unlikeOf 1 = .ok (.iload_n 1, 1) := by decide +kernel
theorem dX8_unlikeOf_2 : decode cX8_unlikeOf 2 = .ok (.invokevirtual 344, 3) := by decide +kernel
theorem dX8_unlikeOf_5 : decode cX8_unlikeOf 5 = .ok (.aload_n 0, 1) := by decide +kernel
theorem dX8_unlikeOf_6 : decode cX8_unlikeOf 6 = .ok (.getfield 335, 3) := by decide +kernel
theorem dX8_unlikeOf_9 : decode cX8_unlikeOf 9 = .ok (.ifCond .ne 5, 3) := by decide +kernel
theorem dX8_unlikeOf_12 : decode cX8_unlikeOf 12 = .ok (.iconst (-1), 1) := by decide +kernel
theorem dX8_unlikeOf_13 : decode cX8_unlikeOf 13 = .ok (.ireturn, 1) := by decide +kernel
theorem dX8_unlikeOf_14 : decode cX8_unlikeOf 14 = .ok (.iconst 0, 1) := by decide +kernel
theorem dX8_unlikeOf_15 : decode cX8_unlikeOf 15 = .ok (.istore_n 3, 1) := by decide +kernel
theorem dX8_unlikeOf_16 : decode cX8_unlikeOf 16 = .ok (.iload_n 3, 1) := by decide +kernel
theorem dX8_unlikeOf_17 : decode cX8_unlikeOf 17 = .ok (.bipush 9, 2) := by decide +kernel
theorem dX8_unlikeOf_19 : decode cX8_unlikeOf 19 = .ok (.if_icmp .ge 46, 3) := by decide +kernel
theorem dX8_unlikeOf_22 : decode cX8_unlikeOf 22 = .ok (.aload_n 0, 1) := by decide +kernel
theorem dX8_unlikeOf_23 : decode cX8_unlikeOf 23 = .ok (.getfield 93, 3) := by decide +kernel
theorem dX8_unlikeOf_26 : decode cX8_unlikeOf 26 = .ok (.iload_n 3, 1) := by decide +kernel
theorem dX8_unlikeOf_27 : decode cX8_unlikeOf 27 = .ok (.iload_n 3, 1) := by decide +kernel
theorem dX8_unlikeOf_28 : decode cX8_unlikeOf 28 = .ok (.bipush 8, 2) := by decide +kernel
theorem dX8_unlikeOf_30 : decode cX8_unlikeOf 30 = .ok (.if_icmp .ge 19, 3) := by decide +kernel
theorem dX8_unlikeOf_33 : decode cX8_unlikeOf 33 = .ok (.aload_n 0, 1) := by decide +kernel
theorem dX8_unlikeOf_34 : decode cX8_unlikeOf 34 = .ok (.bipush 8, 2) := by decide +kernel
theorem dX8_unlikeOf_36 : decode cX8_unlikeOf 36 = .ok (.bipush 16, 2) := by decide +kernel
theorem dX8_unlikeOf_38 : decode cX8_unlikeOf 38 = .ok (.iload_n 3, 1) := by decide +kernel
theorem dX8_unlikeOf_39 : decode cX8_unlikeOf 39 = .ok (.imul, 1) := by decide +kernel
theorem dX8_unlikeOf_40 : decode cX8_unlikeOf 40 = .ok (.iadd, 1) := by decide +kernel
theorem dX8_unlikeOf_41 : decode cX8_unlikeOf 41 = .ok (.bipush 16, 2) := by decide +kernel
theorem dX8_unlikeOf_43 : decode cX8_unlikeOf 43 = .ok (.invokevirtual 380, 3) := by decide +kernel
theorem dX8_unlikeOf_46 : decode cX8_unlikeOf 46 = .ok (.goto 12, 3) := by decide +kernel
theorem dX8_unlikeOf_49 : decode cX8_unlikeOf 49 = .ok (.aload_n 0, 1) := by decide +kernel
theorem dX8_unlikeOf_50 : decode cX8_unlikeOf 50 = .ok (.sipush 136, 3) := by decide +kernel
theorem dX8_unlikeOf_53 : decode cX8_unlikeOf 53 = .ok (.bipush 6, 2) := by decide +kernel
theorem dX8_unlikeOf_55 : decode cX8_unlikeOf 55 = .ok (.invokevirtual 380, 3) := by decide +kernel
theorem dX8_unlikeOf_58 : decode cX8_unlikeOf 58 = .ok (.iastore, 1) := by decide +kernel
theorem dX8_unlikeOf_59 : decode cX8_unlikeOf 59 = .ok (.iinc 3 1, 3) := by decide +kernel
theorem dX8_unlikeOf_62 : decode cX8_unlikeOf 62 = .ok (.goto (-46), 3) := by decide +kernel
theorem dX8_unlikeOf_65 : decode cX8_unlikeOf 65 = .ok (.aload_n 0, 1) := by decide +kernel
theorem dX8_unlikeOf_66 : decode cX8_unlikeOf 66 = .ok (.iload_n 2, 1) := by decide +kernel
theorem dX8_unlikeOf_67 : decode cX8_unlikeOf 67 = .ok (.invokevirtual 344, 3) := by decide +kernel
theorem dX8_unlikeOf_70 : decode cX8_unlikeOf 70 = .ok (.aload_n 0, 1) := by decide +kernel
theorem dX8_unlikeOf_71 : decode cX8_unlikeOf 71 = .ok (.getfield 335, 3) := by decide +kernel
theorem dX8_unlikeOf_74 : decode cX8_unlikeOf 74 = .ok (.ifCond .ne 5, 3) := by decide +kernel
theorem dX8_unlikeOf_77 : decode cX8_unlikeOf 77 = .ok (.iconst (-1), 1) := by decide +kernel
theorem dX8_unlikeOf_78 : decode cX8_unlikeOf 78 = .ok (.ireturn, 1) := by decide +kernel
theorem dX8_unlikeOf_79 : decode cX8_unlikeOf 79 = .ok (.iconst 0, 1) := by decide +kernel
theorem dX8_unlikeOf_80 : decode cX8_unlikeOf 80 = .ok (.istore_n 3, 1) := by decide +kernel
theorem dX8_unlikeOf_81 : decode cX8_unlikeOf 81 = .ok (.iconst 0, 1) := by decide +kernel
theorem dX8_unlikeOf_82 : decode cX8_unlikeOf 82 = .ok (.istore 4, 2) := by decide +kernel
theorem dX8_unlikeOf_84 : decode cX8_unlikeOf 84 = .ok (.iload 4, 2) := by decide +kernel
theorem dX8_unlikeOf_86 : decode cX8_unlikeOf 86 = .ok (.bipush 9, 2) := by decide +kernel
theorem dX8_unlikeOf_88 : decode cX8_unlikeOf 88 = .ok (.if_icmp .ge 60, 3) := by decide +kernel
theorem dX8_unlikeOf_91 : decode cX8_unlikeOf 91 = .ok (.iload_n 3, 1) := by decide +kernel
theorem dX8_unlikeOf_92 : decode cX8_unlikeOf 92 = .ok (.aload_n 0, 1) := by decide +kernel
theorem dX8_unlikeOf_93 : decode cX8_unlikeOf 93 = .ok (.getfield 93, 3) := by decide +kernel
theorem dX8_unlikeOf_96 : decode cX8_unlikeOf 96 = .ok (.iload 4, 2) := by decide +kernel
theorem dX8_unlikeOf_98 : decode cX8_unlikeOf 98 = .ok (.iaload, 1) := by decide +kernel
theorem dX8_unlikeOf_99 : decode cX8_unlikeOf 99 = .ok (.iload 4, 2) := by decide +kernel
theorem dX8_unlikeOf_101 : decode cX8_unlikeOf 101 = .ok (.bipush 8, 2) := by decide +kernel
theorem dX8_unlikeOf_103 : decode cX8_unlikeOf 103 = .ok (.if_icmp .ge 20, 3) := by decide +kernel
theorem dX8_unlikeOf_106 : decode cX8_unlikeOf 106 = .ok (.aload_n 0, 1) := by decide +kernel
theorem dX8_unlikeOf_107 : decode cX8_unlikeOf 107 = .ok (.bipush 8, 2) := by decide +kernel
theorem dX8_unlikeOf_109 : decode cX8_unlikeOf 109 = .ok (.bipush 16, 2) := by decide +kernel
theorem dX8_unlikeOf_111 : decode cX8_unlikeOf 111 = .ok (.iload 4, 2) := by decide +kernel
theorem dX8_unlikeOf_113 : decode cX8_unlikeOf 113 = .ok (.imul, 1) := by decide +kernel
theorem dX8_unlikeOf_114 : decode cX8_unlikeOf 114 = .ok (.iadd, 1) := by decide +kernel
theorem dX8_unlikeOf_115 : decode cX8_unlikeOf 115 = .ok (.bipush 16, 2) := by decide +kernel
theorem dX8_unlikeOf_117 : decode cX8_unlikeOf 117 = .ok (.invokevirtual 380, 3) := by decide +kernel
theorem dX8_unlikeOf_120 : decode cX8_unlikeOf 120 = .ok (.goto 12, 3) := by decide +kernel
theorem dX8_unlikeOf_123 : decode cX8_unlikeOf 123 = .ok (.aload_n 0, 1) := by decide +kernel
theorem dX8_unlikeOf_124 : decode cX8_unlikeOf 124 = .ok (.sipush 136, 3) := by decide +kernel
theorem dX8_unlikeOf_127 : decode cX8_unlikeOf 127 = .ok (.bipush 6, 2) := by decide +kernel
theorem dX8_unlikeOf_129 : decode cX8_unlikeOf 129 = .ok (.invokevirtual 380, 3) := by decide +kernel
theorem dX8_unlikeOf_132 : decode cX8_unlikeOf 132 = .ok (.if_icmp .eq 7, 3) := by decide +kernel
theorem dX8_unlikeOf_135 : decode cX8_unlikeOf 135 = .ok (.iconst 1, 1) := by decide +kernel
theorem dX8_unlikeOf_136 : decode cX8_unlikeOf 136 = .ok (.goto 4, 3) := by decide +kernel
theorem dX8_unlikeOf_139 : decode cX8_unlikeOf 139 = .ok (.iconst 0, 1) := by decide +kernel
theorem dX8_unlikeOf_140 : decode cX8_unlikeOf 140 = .ok (.iadd, 1) := by decide +kernel
theorem dX8_unlikeOf_141 : decode cX8_unlikeOf 141 = .ok (.istore_n 3, 1) := by decide +kernel
theorem dX8_unlikeOf_142 : decode cX8_unlikeOf 142 = .ok (.iinc 4 1, 3) := by decide +kernel
theorem dX8_unlikeOf_145 : decode cX8_unlikeOf 145 = .ok (.goto (-61), 3) := by decide +kernel
theorem dX8_unlikeOf_148 : decode cX8_unlikeOf 148 = .ok (.iload_n 3, 1) := by decide +kernel
theorem dX8_unlikeOf_149 : decode cX8_unlikeOf 149 = .ok (.ireturn, 1) := by decide +kernel
theorem dX8_meets_0 : decode cX8_meets 0 = .ok (.aload_n 0, 1) := by decide +kernel
theorem dX8_meets_1 : decode cX8_meets 1 = .ok (.iconst 0, 1) := by decide +kernel
theorem dX8_meets_2 : decode cX8_meets 2 = .ok (.putfield 1, 3) := by decide +kernel
theorem dX8_meets_5 : decode cX8_meets 5 = .ok (.aload_n 0, 1) := by decide +kernel
theorem dX8_meets_6 : decode cX8_meets 6 = .ok (.iload_n 1, 1) := by decide +kernel
theorem dX8_meets_7 : decode cX8_meets 7 = .ok (.invokevirtual 125, 3) := by decide +kernel
theorem dX8_meets_10 : decode cX8_meets 10 = .ok (.ifCond .eq 29, 3) := by decide +kernel
theorem dX8_meets_13 : decode cX8_meets 13 = .ok (.aload_n 0, 1) := by decide +kernel
theorem dX8_meets_14 : decode cX8_meets 14 = .ok (.iload_n 2, 1) := by decide +kernel
theorem dX8_meets_15 : decode cX8_meets 15 = .ok (.invokevirtual 125, 3) := by decide +kernel
theorem dX8_meets_18 : decode cX8_meets 18 = .ok (.ifCond .eq 21, 3) := by decide +kernel
theorem dX8_meets_21 : decode cX8_meets 21 = .ok (.aload_n 0, 1) := by decide +kernel
theorem dX8_meets_22 : decode cX8_meets 22 = .ok (.iload_n 1, 1) := by decide +kernel
theorem dX8_meets_23 : decode cX8_meets 23 = .ok (.iload_n 2, 1) := by decide +kernel
theorem dX8_meets_24 : decode cX8_meets 24 = .ok (.if_icmp .eq 7, 3) := by decide +kernel
theorem dX8_meets_27 : decode cX8_meets 27 = .ok (.iconst 1, 1) := by decide +kernel
theorem dX8_meets_28 : decode cX8_meets 28 = .ok (.goto 4, 3) := by decide +kernel
theorem dX8_meets_31 : decode cX8_meets 31 = .ok (.iconst 0, 1) := by decide +kernel
theorem dX8_meets_32 : decode cX8_meets 32 = .ok (.iconst 2, 1) := by decide +kernel
theorem dX8_meets_33 : decode cX8_meets 33 = .ok (.invokevirtual 110, 3) := by decide +kernel
theorem dX8_meets_36 : decode cX8_meets 36 = .ok (.ifCond .ne 5, 3) := by decide +kernel
theorem dX8_meets_39 : decode cX8_meets 39 = .ok (.iconst 0, 1) := by decide +kernel
theorem dX8_meets_40 : decode cX8_meets 40 = .ok (.ireturn, 1) := by decide +kernel
theorem dX8_meets_41 : decode cX8_meets 41 = .ok (.aload_n 0, 1) := by decide +kernel
theorem dX8_meets_42 : decode cX8_meets 42 = .ok (.getfield 13, 3) := by decide +kernel
theorem dX8_meets_45 : decode cX8_meets 45 = .ok (.iload_n 1, 1) := by decide +kernel
theorem dX8_meets_46 : decode cX8_meets 46 = .ok (.invokestatic 121, 3) := by decide +kernel
theorem dX8_meets_49 : decode cX8_meets 49 = .ok (.iconst 3, 1) := by decide +kernel
theorem dX8_meets_50 : decode cX8_meets 50 = .ok (.iadd, 1) := by decide +kernel
theorem dX8_meets_51 : decode cX8_meets 51 = .ok (.iaload, 1) := by decide +kernel
theorem dX8_meets_52 : decode cX8_meets 52 = .ok (.ifCond .eq 42, 3) := by decide +kernel
theorem dX8_meets_55 : decode cX8_meets 55 = .ok (.aload_n 0, 1) := by decide +kernel
theorem dX8_meets_56 : decode cX8_meets 56 = .ok (.getfield 13, 3) := by decide +kernel
theorem dX8_meets_59 : decode cX8_meets 59 = .ok (.iload_n 2, 1) := by decide +kernel
theorem dX8_meets_60 : decode cX8_meets 60 = .ok (.invokestatic 121, 3) := by decide +kernel
theorem dX8_meets_63 : decode cX8_meets 63 = .ok (.iconst 3, 1) := by decide +kernel
theorem dX8_meets_64 : decode cX8_meets 64 = .ok (.iadd, 1) := by decide +kernel
theorem dX8_meets_65 : decode cX8_meets 65 = .ok (.iaload, 1) := by decide +kernel
theorem dX8_meets_66 : decode cX8_meets 66 = .ok (.ifCond .eq 28, 3) := by decide +kernel
theorem dX8_meets_69 : decode cX8_meets 69 = .ok (.aload_n 0, 1) := by decide +kernel
theorem dX8_meets_70 : decode cX8_meets 70 = .ok (.getfield 13, 3) := by decide +kernel
theorem dX8_meets_73 : decode cX8_meets 73 = .ok (.iload_n 1, 1) := by decide +kernel
theorem dX8_meets_74 : decode cX8_meets 74 = .ok (.invokestatic 121, 3) := by decide +kernel
theorem dX8_meets_77 : decode cX8_meets 77 = .ok (.iconst 0, 1) := by decide +kernel
theorem dX8_meets_78 : decode cX8_meets 78 = .ok (.iadd, 1) := by decide +kernel
theorem dX8_meets_79 : decode cX8_meets 79 = .ok (.iaload, 1) := by decide +kernel
theorem dX8_meets_80 : decode cX8_meets 80 = .ok (.aload_n 0, 1) := by decide +kernel
theorem dX8_meets_81 : decode cX8_meets 81 = .ok (.getfield 13, 3) := by decide +kernel
theorem dX8_meets_84 : decode cX8_meets 84 = .ok (.iload_n 2, 1) := by decide +kernel
theorem dX8_meets_85 : decode cX8_meets 85 = .ok (.invokestatic 121, 3) := by decide +kernel
theorem dX8_meets_88 : decode cX8_meets 88 = .ok (.iconst 0, 1) := by decide +kernel
theorem dX8_meets_89 : decode cX8_meets 89 = .ok (.iadd, 1) := by decide +kernel
theorem dX8_meets_90 : decode cX8_meets 90 = .ok (.iaload, 1) := by decide +kernel
theorem dX8_meets_91 : decode cX8_meets 91 = .ok (.if_icmp .eq 5, 3) := by decide +kernel
theorem dX8_meets_94 : decode cX8_meets 94 = .ok (.iconst (-1), 1) := by decide +kernel
theorem dX8_meets_95 : decode cX8_meets 95 = .ok (.ireturn, 1) := by decide +kernel
theorem dX8_meets_96 : decode cX8_meets 96 = .ok (.iconst 0, 1) := by decide +kernel
theorem dX8_meets_97 : decode cX8_meets 97 = .ok (.istore_n 3, 1) := by decide +kernel
theorem dX8_meets_98 : decode cX8_meets 98 = .ok (.iconst 0, 1) := by decide +kernel
theorem dX8_meets_99 : decode cX8_meets 99 = .ok (.istore 4, 2) := by decide +kernel
theorem dX8_meets_101 : decode cX8_meets 101 = .ok (.iload 4, 2) := by decide +kernel
theorem dX8_meets_103 : decode cX8_meets 103 = .ok (.bipush 64, 2) := by decide +kernel
theorem dX8_meets_105 : decode cX8_meets 105 = .ok (.if_icmp .ge 67, 3) := by decide +kernel
theorem dX8_meets_108 : decode cX8_meets 108 = .ok (.aload_n 0, 1) := by decide +kernel
theorem dX8_meets_109 : decode cX8_meets 109 = .ok (.invokevirtual 365, 3) := by decide +kernel
theorem dX8_meets_112 : decode cX8_meets 112 = .ok (.aload_n 0, 1) := by decide +kernel
theorem dX8_meets_113 : decode cX8_meets 113 = .ok (.getfield 56, 3) := by decide +kernel
theorem dX8_meets_116 : decode cX8_meets 116 = .ok (.iconst 0, 1) := by decide +kernel
theorem dX8_meets_117 : decode cX8_meets 117 = .ok (.iload 4, 2) := by decide +kernel
theorem dX8_meets_119 : decode cX8_meets 119 = .ok (.bipush 16, 2) := by decide +kernel
theorem dX8_meets_121 : decode cX8_meets 121 = .ok (.idiv, 1) := by decide +kernel
theorem dX8_meets_122 : decode cX8_meets 122 = .ok (.iastore, 1) := by decide +kernel
theorem dX8_meets_123 : decode cX8_meets 123 = .ok (.aload_n 0, 1) := by decide +kernel
theorem dX8_meets_124 : decode cX8_meets 124 = .ok (.getfield 56, 3) := by decide +kernel
theorem dX8_meets_127 : decode cX8_meets 127 = .ok (.iconst 1, 1) := by decide +kernel
theorem dX8_meets_128 : decode cX8_meets 128 = .ok (.iload 4, 2) := by decide +kernel
theorem dX8_meets_130 : decode cX8_meets 130 = .ok (.iconst 4, 1) := by decide +kernel
theorem dX8_meets_131 : decode cX8_meets 131 = .ok (.idiv, 1) := by decide +kernel
theorem dX8_meets_132 : decode cX8_meets 132 = .ok (.iconst 4, 1) := by decide +kernel
theorem dX8_meets_133 : decode cX8_meets 133 = .ok (.irem, 1) := by decide +kernel
theorem dX8_meets_134 : decode cX8_meets 134 = .ok (.iastore, 1) := by decide +kernel
theorem dX8_meets_135 : decode cX8_meets 135 = .ok (.aload_n 0, 1) := by decide +kernel
theorem dX8_meets_136 : decode cX8_meets 136 = .ok (.getfield 56, 3) := by decide +kernel
theorem dX8_meets_139 : decode cX8_meets 139 = .ok (.iconst 2, 1) := by decide +kernel
theorem dX8_meets_140 : decode cX8_meets 140 = .ok (.iload 4, 2) := by decide +kernel
theorem dX8_meets_142 : decode cX8_meets 142 = .ok (.iconst 4, 1) := by decide +kernel
theorem dX8_meets_143 : decode cX8_meets 143 = .ok (.irem, 1) := by decide +kernel
theorem dX8_meets_144 : decode cX8_meets 144 = .ok (.iastore, 1) := by decide +kernel
theorem dX8_meets_145 : decode cX8_meets 145 = .ok (.aload_n 0, 1) := by decide +kernel
theorem dX8_meets_146 : decode cX8_meets 146 = .ok (.iload_n 1, 1) := by decide +kernel
theorem dX8_meets_147 : decode cX8_meets 147 = .ok (.iload_n 2, 1) := by decide +kernel
theorem dX8_meets_148 : decode cX8_meets 148 = .ok (.invokevirtual 320, 3) := by decide +kernel
theorem dX8_meets_151 : decode cX8_meets 151 = .ok (.iload_n 3, 1) := by decide +kernel
theorem dX8_meets_152 : decode cX8_meets 152 = .ok (.aload_n 0, 1) := by decide +kernel
theorem dX8_meets_153 : decode cX8_meets 153 = .ok (.getfield 307, 3) := by decide +kernel
theorem dX8_meets_156 : decode cX8_meets 156 = .ok (.ifCond .eq 7, 3) := by decide +kernel
theorem dX8_meets_159 : decode cX8_meets 159 = .ok (.iconst 1, 1) := by decide +kernel
theorem dX8_meets_160 : decode cX8_meets 160 = .ok (.goto 4, 3) := by decide +kernel
theorem dX8_meets_163 : decode cX8_meets 163 = .ok (.iconst 0, 1) := by decide +kernel
theorem dX8_meets_164 : decode cX8_meets 164 = .ok (.iadd, 1) := by decide +kernel
theorem dX8_meets_165 : decode cX8_meets 165 = .ok (.istore_n 3, 1) := by decide +kernel
theorem dX8_meets_166 : decode cX8_meets 166 = .ok (.iinc 4 1, 3) := by decide +kernel
theorem dX8_meets_169 : decode cX8_meets 169 = .ok (.goto (-68), 3) := by decide +kernel
theorem dX8_meets_172 : decode cX8_meets 172 = .ok (.aload_n 0, 1) := by decide +kernel
theorem dX8_meets_173 : decode cX8_meets 173 = .ok (.aload_n 0, 1) := by decide +kernel
theorem dX8_meets_174 : decode cX8_meets 174 = .ok (.getfield 13, 3) := by decide +kernel
theorem dX8_meets_177 : decode cX8_meets 177 = .ok (.putfield 20, 3) := by decide +kernel
theorem dX8_meets_180 : decode cX8_meets 180 = .ok (.iload_n 3, 1) := by decide +kernel
theorem dX8_meets_181 : decode cX8_meets 181 = .ok (.ireturn, 1) := by decide +kernel
theorem dX8_heaviest_0 : decode cX8_heaviest 0 = .ok (.iconst 0, 1) := by decide +kernel
theorem dX8_heaviest_1 : decode cX8_heaviest 1 = .ok (.istore_n 3, 1) := by decide +kernel
theorem dX8_heaviest_2 : decode cX8_heaviest 2 = .ok (.iconst 1, 1) := by decide +kernel
theorem dX8_heaviest_3 : decode cX8_heaviest 3 = .ok (.istore 4, 2) := by decide +kernel
theorem dX8_heaviest_5 : decode cX8_heaviest 5 = .ok (.iload 4, 2) := by decide +kernel
theorem dX8_heaviest_7 : decode cX8_heaviest 7 = .ok (.iload_n 2, 1) := by decide +kernel
theorem dX8_heaviest_8 : decode cX8_heaviest 8 = .ok (.if_icmp .ge 32, 3) := by decide +kernel
theorem dX8_heaviest_11 : decode cX8_heaviest 11 = .ok (.aload_n 0, 1) := by decide +kernel
theorem dX8_heaviest_12 : decode cX8_heaviest 12 = .ok (.getfield 20, 3) := by decide +kernel
theorem dX8_heaviest_15 : decode cX8_heaviest 15 = .ok (.iload_n 1, 1) := by decide +kernel
theorem dX8_heaviest_16 : decode cX8_heaviest 16 = .ok (.iload 4, 2) := by decide +kernel
theorem dX8_heaviest_18 : decode cX8_heaviest 18 = .ok (.iadd, 1) := by decide +kernel
theorem dX8_heaviest_19 : decode cX8_heaviest 19 = .ok (.iaload, 1) := by decide +kernel
theorem dX8_heaviest_20 : decode cX8_heaviest 20 = .ok (.aload_n 0, 1) := by decide +kernel
theorem dX8_heaviest_21 : decode cX8_heaviest 21 = .ok (.getfield 20, 3) := by decide +kernel
theorem dX8_heaviest_24 : decode cX8_heaviest 24 = .ok (.iload_n 1, 1) := by decide +kernel
theorem dX8_heaviest_25 : decode cX8_heaviest 25 = .ok (.iload_n 3, 1) := by decide +kernel
theorem dX8_heaviest_26 : decode cX8_heaviest 26 = .ok (.iadd, 1) := by decide +kernel
theorem dX8_heaviest_27 : decode cX8_heaviest 27 = .ok (.iaload, 1) := by decide +kernel
theorem dX8_heaviest_28 : decode cX8_heaviest 28 = .ok (.if_icmp .le 6, 3) := by decide +kernel
theorem dX8_heaviest_31 : decode cX8_heaviest 31 = .ok (.iload 4, 2) := by decide +kernel
theorem dX8_heaviest_33 : decode cX8_heaviest 33 = .ok (.istore_n 3, 1) := by decide +kernel
theorem dX8_heaviest_34 : decode cX8_heaviest 34 = .ok (.iinc 4 1, 3) := by decide +kernel
theorem dX8_heaviest_37 : decode cX8_heaviest 37 = .ok (.goto (-32), 3) := by decide +kernel
theorem dX8_heaviest_40 : decode cX8_heaviest 40 = .ok (.aload_n 0, 1) := by decide +kernel
theorem dX8_heaviest_41 : decode cX8_heaviest 41 = .ok (.getfield 20, 3) := by decide +kernel
theorem dX8_heaviest_44 : decode cX8_heaviest 44 = .ok (.iload_n 1, 1) := by decide +kernel
theorem dX8_heaviest_45 : decode cX8_heaviest 45 = .ok (.iload_n 3, 1) := by decide +kernel
theorem dX8_heaviest_46 : decode cX8_heaviest 46 = .ok (.iadd, 1) := by decide +kernel
theorem dX8_heaviest_47 : decode cX8_heaviest 47 = .ok (.iaload, 1) := by decide +kernel
theorem dX8_heaviest_48 : decode cX8_heaviest 48 = .ok (.ifCond .ne 7, 3) := by decide +kernel
theorem dX8_heaviest_51 : decode cX8_heaviest 51 = .ok (.iconst (-1), 1) := by decide +kernel
theorem dX8_heaviest_52 : decode cX8_heaviest 52 = .ok (.goto 4, 3) := by decide +kernel
theorem dX8_heaviest_55 : decode cX8_heaviest 55 = .ok (.iload_n 3, 1) := by decide +kernel
theorem dX8_heaviest_56 : decode cX8_heaviest 56 = .ok (.ireturn, 1) := by decide +kernel
theorem dX8_plain_0 : decode cX8_plain 0 = .ok (.aload_n 0, 1) := by decide +kernel
theorem dX8_plain_1 : decode cX8_plain 1 = .ok (.iconst 0, 1) := by decide +kernel
theorem dX8_plain_2 : decode cX8_plain 2 = .ok (.putfield 1, 3) := by decide +kernel
theorem dX8_plain_5 : decode cX8_plain 5 = .ok (.aload_n 0, 1) := by decide +kernel
theorem dX8_plain_6 : decode cX8_plain 6 = .ok (.iload_n 1, 1) := by decide +kernel
theorem dX8_plain_7 : decode cX8_plain 7 = .ok (.invokevirtual 125, 3) := by decide +kernel
theorem dX8_plain_10 : decode cX8_plain 10 = .ok (.ifCond .ne 5, 3) := by decide +kernel
theorem dX8_plain_13 : decode cX8_plain 13 = .ok (.iconst 0, 1) := by decide +kernel
theorem dX8_plain_14 : decode cX8_plain 14 = .ok (.ireturn, 1) := by decide +kernel
theorem dX8_plain_15 : decode cX8_plain 15 = .ok (.aload_n 0, 1) := by decide +kernel
theorem dX8_plain_16 : decode cX8_plain 16 = .ok (.iload_n 1, 1) := by decide +kernel
theorem dX8_plain_17 : decode cX8_plain 17 = .ok (.invokestatic 121, 3) := by decide +kernel
theorem dX8_plain_20 : decode cX8_plain 20 = .ok (.sipush 136, 3) := by decide +kernel
theorem dX8_plain_23 : decode cX8_plain 23 = .ok (.iadd, 1) := by decide +kernel
theorem dX8_plain_24 : decode cX8_plain 24 = .ok (.bipush 6, 2) := by decide +kernel
theorem dX8_plain_26 : decode cX8_plain 26 = .ok (.invokevirtual 383, 3) := by decide +kernel
theorem dX8_plain_29 : decode cX8_plain 29 = .ok (.istore_n 2, 1) := by decide +kernel
theorem dX8_plain_30 : decode cX8_plain 30 = .ok (.iload_n 2, 1) := by decide +kernel
theorem dX8_plain_31 : decode cX8_plain 31 = .ok (.iconst (-1), 1) := by decide +kernel
theorem dX8_plain_32 : decode cX8_plain 32 = .ok (.if_icmp .ne 5, 3) := by decide +kernel
theorem dX8_plain_35 : decode cX8_plain 35 = .ok (.iconst 0, 1) := by decide +kernel
theorem dX8_plain_36 : decode cX8_plain 36 = .ok (.ireturn, 1) := by decide +kernel
theorem dX8_plain_37 : decode cX8_plain 37 = .ok (.iconst 0, 1) := by decide +kernel
theorem dX8_plain_38 : decode cX8_plain 38 = .ok (.istore_n 3, 1) := by decide +kernel
theorem dX8_plain_39 : decode cX8_plain 39 = .ok (.iload_n 3, 1) := by decide +kernel
theorem dX8_plain_40 : decode cX8_plain 40 = .ok (.bipush 64, 2) := by decide +kernel
theorem dX8_plain_42 : decode cX8_plain 42 = .ok (.if_icmp .ge 131, 3) := by decide +kernel
theorem dX8_plain_45 : decode cX8_plain 45 = .ok (.iconst 0, 1) := by decide +kernel
theorem dX8_plain_46 : decode cX8_plain 46 = .ok (.istore 4, 2) := by decide +kernel
theorem dX8_plain_48 : decode cX8_plain 48 = .ok (.iload 4, 2) := by decide +kernel
theorem dX8_plain_50 : decode cX8_plain 50 = .ok (.iconst 3, 1) := by decide +kernel
theorem dX8_plain_51 : decode cX8_plain 51 = .ok (.if_icmp .ge 116, 3) := by decide +kernel
theorem dX8_plain_54 : decode cX8_plain 54 = .ok (.getstatic 291, 3) := by decide +kernel
theorem dX8_plain_57 : decode cX8_plain 57 = .ok (.iconst 3, 1) := by decide +kernel
theorem dX8_plain_58 : decode cX8_plain 58 = .ok (.iload_n 2, 1) := by decide +kernel
theorem dX8_plain_59 : decode cX8_plain 59 = .ok (.imul, 1) := by decide +kernel
theorem dX8_plain_60 : decode cX8_plain 60 = .ok (.iload 4, 2) := by decide +kernel
theorem dX8_plain_62 : decode cX8_plain 62 = .ok (.iadd, 1) := by decide +kernel
theorem dX8_plain_63 : decode cX8_plain 63 = .ok (.iaload, 1) := by decide +kernel
theorem dX8_plain_64 : decode cX8_plain 64 = .ok (.istore 5, 2) := by decide +kernel
theorem dX8_plain_66 : decode cX8_plain 66 = .ok (.iload 5, 2) := by decide +kernel
theorem dX8_plain_68 : decode cX8_plain 68 = .ok (.ifCond .ne 10, 3) := by decide +kernel
theorem dX8_plain_71 : decode cX8_plain 71 = .ok (.iload_n 3, 1) := by decide +kernel
theorem dX8_plain_72 : decode cX8_plain 72 = .ok (.bipush 16, 2) := by decide +kernel
theorem dX8_plain_74 : decode cX8_plain 74 = .ok (.idiv, 1) := by decide +kernel
theorem dX8_plain_75 : decode cX8_plain 75 = .ok (.goto 20, 3) := by decide +kernel
theorem dX8_plain_78 : decode cX8_plain 78 = .ok (.iload 5, 2) := by decide +kernel
theorem dX8_plain_80 : decode cX8_plain 80 = .ok (.iconst 1, 1) := by decide +kernel
theorem dX8_plain_81 : decode cX8_plain 81 = .ok (.if_icmp .ne 11, 3) := by decide +kernel
theorem dX8_plain_84 : decode cX8_plain 84 = .ok (.iload_n 3, 1) := by decide +kernel
theorem dX8_plain_85 : decode cX8_plain 85 = .ok (.iconst 4, 1) := by decide +kernel
theorem dX8_plain_86 : decode cX8_plain 86 = .ok (.idiv, 1) := by decide +kernel
theorem dX8_plain_87 : decode cX8_plain 87 = .ok (.iconst 4, 1) := by decide +kernel
theorem dX8_plain_88 : decode cX8_plain 88 = .ok (.irem, 1) := by decide +kernel
theorem dX8_plain_89 : decode cX8_plain 89 = .ok (.goto 6, 3) := by decide +kernel
theorem dX8_plain_92 : decode cX8_plain 92 = .ok (.iload_n 3, 1) := by decide +kernel
theorem dX8_plain_93 : decode cX8_plain 93 = .ok (.iconst 4, 1) := by decide +kernel
theorem dX8_plain_94 : decode cX8_plain 94 = .ok (.irem, 1) := by decide +kernel
theorem dX8_plain_95 : decode cX8_plain 95 = .ok (.istore 6, 2) := by decide +kernel
theorem dX8_plain_97 : decode cX8_plain 97 = .ok (.aload_n 0, 1) := by decide +kernel
theorem dX8_plain_98 : decode cX8_plain 98 = .ok (.iload_n 1, 1) := by decide +kernel
theorem dX8_plain_99 : decode cX8_plain 99 = .ok (.invokestatic 121, 3) := by decide +kernel
theorem dX8_plain_102 : decode cX8_plain 102 = .ok (.bipush 8, 2) := by decide +kernel
theorem dX8_plain_104 : decode cX8_plain 104 = .ok (.iadd, 1) := by decide +kernel
theorem dX8_plain_105 : decode cX8_plain 105 = .ok (.bipush 16, 2) := by decide +kernel
theorem dX8_plain_107 : decode cX8_plain 107 = .ok (.iload 5, 2) := by decide +kernel
theorem dX8_plain_109 : decode cX8_plain 109 = .ok (.iload 6, 2) := by decide +kernel
theorem dX8_plain_111 : decode cX8_plain 111 = .ok (.invokestatic 294, 3) := by decide +kernel
theorem dX8_plain_114 : decode cX8_plain 114 = .ok (.imul, 1) := by decide +kernel
theorem dX8_plain_115 : decode cX8_plain 115 = .ok (.iadd, 1) := by decide +kernel
theorem dX8_plain_116 : decode cX8_plain 116 = .ok (.bipush 16, 2) := by decide +kernel
theorem dX8_plain_118 : decode cX8_plain 118 = .ok (.invokevirtual 383, 3) := by decide +kernel
theorem dX8_plain_121 : decode cX8_plain 121 = .ok (.istore 7, 2) := by decide +kernel
theorem dX8_plain_123 : decode cX8_plain 123 = .ok (.aload_n 0, 1) := by decide +kernel
theorem dX8_plain_124 : decode cX8_plain 124 = .ok (.getfield 96, 3) := by decide +kernel
theorem dX8_plain_127 : decode cX8_plain 127 = .ok (.iconst 3, 1) := by decide +kernel
theorem dX8_plain_128 : decode cX8_plain 128 = .ok (.iload_n 3, 1) := by decide +kernel
theorem dX8_plain_129 : decode cX8_plain 129 = .ok (.imul, 1) := by decide +kernel
theorem dX8_plain_130 : decode cX8_plain 130 = .ok (.iload 4, 2) := by decide +kernel
theorem dX8_plain_132 : decode cX8_plain 132 = .ok (.iadd, 1) := by decide +kernel
theorem dX8_plain_133 : decode cX8_plain 133 = .ok (.iload 7, 2) := by decide +kernel
theorem dX8_plain_135 : decode cX8_plain 135 = .ok (.iconst (-1), 1) := by decide +kernel
theorem dX8_plain_136 : decode cX8_plain 136 = .ok (.if_icmp .ne 7, 3) := by decide +kernel
theorem dX8_plain_139 : decode cX8_plain 139 = .ok (.iconst (-1), 1) := by decide +kernel
theorem dX8_plain_140 : decode cX8_plain 140 = .ok (.goto 20, 3) := by decide +kernel
theorem dX8_plain_143 : decode cX8_plain 143 = .ok (.aload_n 0, 1) := by decide +kernel
theorem dX8_plain_144 : decode cX8_plain 144 = .ok (.aload_n 0, 1) := by decide +kernel
theorem dX8_plain_145 : decode cX8_plain 145 = .ok (.getfield 13, 3) := by decide +kernel
theorem dX8_plain_148 : decode cX8_plain 148 = .ok (.iload_n 1, 1) := by decide +kernel
theorem dX8_plain_149 : decode cX8_plain 149 = .ok (.invokestatic 121, 3) := by decide +kernel
theorem dX8_plain_152 : decode cX8_plain 152 = .ok (.iconst 0, 1) := by decide +kernel
theorem dX8_plain_153 : decode cX8_plain 153 = .ok (.iadd, 1) := by decide +kernel
theorem dX8_plain_154 : decode cX8_plain 154 = .ok (.iaload, 1) := by decide +kernel
theorem dX8_plain_155 : decode cX8_plain 155 = .ok (.iload 7, 2) := by decide +kernel
theorem dX8_plain_157 : decode cX8_plain 157 = .ok (.invokevirtual 314, 3) := by decide +kernel
theorem dX8_plain_160 : decode cX8_plain 160 = .ok (.iastore, 1) := by decide +kernel
theorem dX8_plain_161 : decode cX8_plain 161 = .ok (.iinc 4 1, 3) := by decide +kernel
theorem dX8_plain_164 : decode cX8_plain 164 = .ok (.goto (-116), 3) := by decide +kernel
theorem dX8_plain_167 : decode cX8_plain 167 = .ok (.iinc 3 1, 3) := by decide +kernel
theorem dX8_plain_170 : decode cX8_plain 170 = .ok (.goto (-131), 3) := by decide +kernel
theorem dX8_plain_173 : decode cX8_plain 173 = .ok (.iconst 0, 1) := by decide +kernel
theorem dX8_plain_174 : decode cX8_plain 174 = .ok (.istore_n 3, 1) := by decide +kernel
theorem dX8_plain_175 : decode cX8_plain 175 = .ok (.iconst 0, 1) := by decide +kernel
theorem dX8_plain_176 : decode cX8_plain 176 = .ok (.istore 4, 2) := by decide +kernel
theorem dX8_plain_178 : decode cX8_plain 178 = .ok (.iload 4, 2) := by decide +kernel
theorem dX8_plain_180 : decode cX8_plain 180 = .ok (.bipush 64, 2) := by decide +kernel
theorem dX8_plain_182 : decode cX8_plain 182 = .ok (.if_icmp .ge 131, 3) := by decide +kernel
theorem dX8_plain_185 : decode cX8_plain 185 = .ok (.iconst 1, 1) := by decide +kernel
theorem dX8_plain_186 : decode cX8_plain 186 = .ok (.istore 5, 2) := by decide +kernel
theorem dX8_plain_188 : decode cX8_plain 188 = .ok (.iconst 0, 1) := by decide +kernel
theorem dX8_plain_189 : decode cX8_plain 189 = .ok (.istore 6, 2) := by decide +kernel
theorem dX8_plain_191 : decode cX8_plain 191 = .ok (.iload 6, 2) := by decide +kernel
theorem dX8_plain_193 : decode cX8_plain 193 = .ok (.bipush 64, 2) := by decide +kernel
theorem dX8_plain_195 : decode cX8_plain 195 = .ok (.if_icmp .ge 99, 3) := by decide +kernel
theorem dX8_plain_198 : decode cX8_plain 198 = .ok (.iload 5, 2) := by decide +kernel
theorem dX8_plain_200 : decode cX8_plain 200 = .ok (.ifCond .eq 85, 3) := by decide +kernel
theorem dX8_plain_203 : decode cX8_plain 203 = .ok (.iload 6, 2) := by decide +kernel
theorem dX8_plain_205 : decode cX8_plain 205 = .ok (.iload 4, 2) := by decide +kernel
theorem dX8_plain_207 : decode cX8_plain 207 = .ok (.if_icmp .eq 74, 3) := by decide +kernel
theorem dX8_plain_210 : decode cX8_plain 210 = .ok (.aload_n 0, 1) := by decide +kernel
theorem dX8_plain_211 : decode cX8_plain 211 = .ok (.getfield 96, 3) := by decide +kernel
theorem dX8_plain_214 : decode cX8_plain 214 = .ok (.iconst 3, 1) := by decide +kernel
theorem dX8_plain_215 : decode cX8_plain 215 = .ok (.iload 6, 2) := by decide +kernel
theorem dX8_plain_217 : decode cX8_plain 217 = .ok (.imul, 1) := by decide +kernel
theorem dX8_plain_218 : decode cX8_plain 218 = .ok (.iaload, 1) := by decide +kernel
theorem dX8_plain_219 : decode cX8_plain 219 = .ok (.aload_n 0, 1) := by decide +kernel
theorem dX8_plain_220 : decode cX8_plain 220 = .ok (.getfield 96, 3) := by decide +kernel
theorem dX8_plain_223 : decode cX8_plain 223 = .ok (.iconst 3, 1) := by decide +kernel
theorem dX8_plain_224 : decode cX8_plain 224 = .ok (.iload 4, 2) := by decide +kernel
theorem dX8_plain_226 : decode cX8_plain 226 = .ok (.imul, 1) := by decide +kernel
theorem dX8_plain_227 : decode cX8_plain 227 = .ok (.iaload, 1) := by decide +kernel
theorem dX8_plain_228 : decode cX8_plain 228 = .ok (.if_icmp .ne 53, 3) := by decide +kernel
theorem dX8_plain_231 : decode cX8_plain 231 = .ok (.aload_n 0, 1) := by decide +kernel
theorem dX8_plain_232 : decode cX8_plain 232 = .ok (.getfield 96, 3) := by decide +kernel
theorem dX8_plain_235 : decode cX8_plain 235 = .ok (.iconst 3, 1) := by decide +kernel
theorem dX8_plain_236 : decode cX8_plain 236 = .ok (.iload 6, 2) := by decide +kernel
theorem dX8_plain_238 : decode cX8_plain 238 = .ok (.imul, 1) := by decide +kernel
theorem dX8_plain_239 : decode cX8_plain 239 = .ok (.iconst 1, 1) := by decide +kernel
theorem dX8_plain_240 : decode cX8_plain 240 = .ok (.iadd, 1) := by decide +kernel
theorem dX8_plain_241 : decode cX8_plain 241 = .ok (.iaload, 1) := by decide +kernel
theorem dX8_plain_242 : decode cX8_plain 242 = .ok (.aload_n 0, 1) := by decide +kernel
theorem dX8_plain_243 : decode cX8_plain 243 = .ok (.getfield 96, 3) := by decide +kernel
theorem dX8_plain_246 : decode cX8_plain 246 = .ok (.iconst 3, 1) := by decide +kernel
theorem dX8_plain_247 : decode cX8_plain 247 = .ok (.iload 4, 2) := by decide +kernel
theorem dX8_plain_249 : decode cX8_plain 249 = .ok (.imul, 1) := by decide +kernel
theorem dX8_plain_250 : decode cX8_plain 250 = .ok (.iconst 1, 1) := by decide +kernel
theorem dX8_plain_251 : decode cX8_plain 251 = .ok (.iadd, 1) := by decide +kernel
theorem dX8_plain_252 : decode cX8_plain 252 = .ok (.iaload, 1) := by decide +kernel
theorem dX8_plain_253 : decode cX8_plain 253 = .ok (.if_icmp .ne 28, 3) := by decide +kernel
theorem dX8_plain_256 : decode cX8_plain 256 = .ok (.aload_n 0, 1) := by decide +kernel
theorem dX8_plain_257 : decode cX8_plain 257 = .ok (.getfield 96, 3) := by decide +kernel
theorem dX8_plain_260 : decode cX8_plain 260 = .ok (.iconst 3, 1) := by decide +kernel
theorem dX8_plain_261 : decode cX8_plain 261 = .ok (.iload 6, 2) := by decide +kernel
theorem dX8_plain_263 : decode cX8_plain 263 = .ok (.imul, 1) := by decide +kernel
theorem dX8_plain_264 : decode cX8_plain 264 = .ok (.iconst 2, 1) := by decide +kernel
theorem dX8_plain_265 : decode cX8_plain 265 = .ok (.iadd, 1) := by decide +kernel
theorem dX8_plain_266 : decode cX8_plain 266 = .ok (.iaload, 1) := by decide +kernel
theorem dX8_plain_267 : decode cX8_plain 267 = .ok (.aload_n 0, 1) := by decide +kernel
theorem dX8_plain_268 : decode cX8_plain 268 = .ok (.getfield 96, 3) := by decide +kernel
theorem dX8_plain_271 : decode cX8_plain 271 = .ok (.iconst 3, 1) := by decide +kernel
theorem dX8_plain_272 : decode cX8_plain 272 = .ok (.iload 4, 2) := by decide +kernel
theorem dX8_plain_274 : decode cX8_plain 274 = .ok (.imul, 1) := by decide +kernel
theorem dX8_plain_275 : decode cX8_plain 275 = .ok (.iconst 2, 1) := by decide +kernel
theorem dX8_plain_276 : decode cX8_plain 276 = .ok (.iadd, 1) := by decide +kernel
theorem dX8_plain_277 : decode cX8_plain 277 = .ok (.iaload, 1) := by decide +kernel
theorem dX8_plain_278 : decode cX8_plain 278 = .ok (.if_icmp .eq 7, 3) := by decide +kernel
theorem dX8_plain_281 : decode cX8_plain 281 = .ok (.iconst 1, 1) := by decide +kernel
theorem dX8_plain_282 : decode cX8_plain 282 = .ok (.goto 4, 3) := by decide +kernel
theorem dX8_plain_285 : decode cX8_plain 285 = .ok (.iconst 0, 1) := by decide +kernel
theorem dX8_plain_286 : decode cX8_plain 286 = .ok (.istore 5, 2) := by decide +kernel
theorem dX8_plain_288 : decode cX8_plain 288 = .ok (.iinc 6 1, 3) := by decide +kernel
theorem dX8_plain_291 : decode cX8_plain 291 = .ok (.goto (-100), 3) := by decide +kernel
theorem dX8_plain_294 : decode cX8_plain 294 = .ok (.iload_n 3, 1) := by decide +kernel
theorem dX8_plain_295 : decode cX8_plain 295 = .ok (.iload 5, 2) := by decide +kernel
theorem dX8_plain_297 : decode cX8_plain 297 = .ok (.ifCond .eq 7, 3) := by decide +kernel
theorem dX8_plain_300 : decode cX8_plain 300 = .ok (.iconst 1, 1) := by decide +kernel
theorem dX8_plain_301 : decode cX8_plain 301 = .ok (.goto 4, 3) := by decide +kernel
theorem dX8_plain_304 : decode cX8_plain 304 = .ok (.iconst 0, 1) := by decide +kernel
theorem dX8_plain_305 : decode cX8_plain 305 = .ok (.iadd, 1) := by decide +kernel
theorem dX8_plain_306 : decode cX8_plain 306 = .ok (.istore_n 3, 1) := by decide +kernel
theorem dX8_plain_307 : decode cX8_plain 307 = .ok (.iinc 4 1, 3) := by decide +kernel
theorem dX8_plain_310 : decode cX8_plain 310 = .ok (.goto (-132), 3) := by decide +kernel
theorem dX8_plain_313 : decode cX8_plain 313 = .ok (.iload_n 3, 1) := by decide +kernel
theorem dX8_plain_314 : decode cX8_plain 314 = .ok (.ireturn, 1) := by decide +kernel
theorem dX8_word__0 : decode cX8_word_ 0 = .ok (.aload_n 0, 1) := by decide +kernel
theorem dX8_word__1 : decode cX8_word_ 1 = .ok (.iconst 0, 1) := by decide +kernel
theorem dX8_word__2 : decode cX8_word_ 2 = .ok (.putfield 1, 3) := by decide +kernel
theorem dX8_word__5 : decode cX8_word_ 5 = .ok (.aload_n 0, 1) := by decide +kernel
theorem dX8_word__6 : decode cX8_word_ 6 = .ok (.iload_n 1, 1) := by decide +kernel
theorem dX8_word__7 : decode cX8_word_ 7 = .ok (.invokestatic 117, 3) := by decide +kernel
theorem dX8_word__10 : decode cX8_word_ 10 = .ok (.ifCond .eq 17, 3) := by decide +kernel
theorem dX8_word__13 : decode cX8_word_ 13 = .ok (.iload_n 2, 1) := by decide +kernel
theorem dX8_word__14 : decode cX8_word_ 14 = .ok (.iconst 0, 1) := by decide +kernel
theorem dX8_word__15 : decode cX8_word_ 15 = .ok (.bipush 7, 2) := by decide +kernel
theorem dX8_word__17 : decode cX8_word_ 17 = .ok (.invokestatic 106, 3) := by decide +kernel
theorem dX8_word__20 : decode cX8_word_ 20 = .ok (.ifCond .eq 7, 3) := by decide +kernel
theorem dX8_word__23 : decode cX8_word_ 23 = .ok (.iconst 1, 1) := by decide +kernel
theorem dX8_word__24 : decode cX8_word_ 24 = .ok (.goto 4, 3) := by decide +kernel
theorem dX8_word__27 : decode cX8_word_ 27 = .ok (.iconst 0, 1) := by decide +kernel
theorem dX8_word__28 : decode cX8_word_ 28 = .ok (.iconst 1, 1) := by decide +kernel
theorem dX8_word__29 : decode cX8_word_ 29 = .ok (.invokevirtual 110, 3) := by decide +kernel
theorem dX8_word__32 : decode cX8_word_ 32 = .ok (.ifCond .ne 5, 3) := by decide +kernel
theorem dX8_word__35 : decode cX8_word_ 35 = .ok (.iconst 0, 1) := by decide +kernel
theorem dX8_word__36 : decode cX8_word_ 36 = .ok (.ireturn, 1) := by decide +kernel
theorem dX8_word__37 : decode cX8_word_ 37 = .ok (.aload_n 0, 1) := by decide +kernel
theorem dX8_word__38 : decode cX8_word_ 38 = .ok (.iload_n 1, 1) := by decide +kernel
theorem dX8_word__39 : decode cX8_word_ 39 = .ok (.invokevirtual 344, 3) := by decide +kernel
theorem dX8_word__42 : decode cX8_word_ 42 = .ok (.aload_n 0, 1) := by decide +kernel
theorem dX8_word__43 : decode cX8_word_ 43 = .ok (.getfield 335, 3) := by decide +kernel
theorem dX8_word__46 : decode cX8_word_ 46 = .ok (.ifCond .ne 7, 3) := by decide +kernel
theorem dX8_word__49 : decode cX8_word_ 49 = .ok (.iconst (-1), 1) := by decide +kernel
theorem dX8_word__50 : decode cX8_word_ 50 = .ok (.goto 16, 3) := by decide +kernel
theorem dX8_word__53 : decode cX8_word_ 53 = .ok (.aload_n 0, 1) := by decide +kernel
theorem dX8_word__54 : decode cX8_word_ 54 = .ok (.bipush 8, 2) := by decide +kernel
theorem dX8_word__56 : decode cX8_word_ 56 = .ok (.bipush 16, 2) := by decide +kernel
theorem dX8_word__58 : decode cX8_word_ 58 = .ok (.iload_n 2, 1) := by decide +kernel
theorem dX8_word__59 : decode cX8_word_ 59 = .ok (.imul, 1) := by decide +kernel
theorem dX8_word__60 : decode cX8_word_ 60 = .ok (.iadd, 1) := by decide +kernel
theorem dX8_word__61 : decode cX8_word_ 61 = .ok (.bipush 16, 2) := by decide +kernel
theorem dX8_word__63 : decode cX8_word_ 63 = .ok (.invokevirtual 380, 3) := by decide +kernel
theorem dX8_word__66 : decode cX8_word_ 66 = .ok (.ireturn, 1) := by decide +kernel
theorem dX8_blurred_0 : decode cX8_blurred 0 = .ok (.aload_n 0, 1) := by decide +kernel
theorem dX8_blurred_1 : decode cX8_blurred 1 = .ok (.iconst 0, 1) := by decide +kernel
theorem dX8_blurred_2 : decode cX8_blurred 2 = .ok (.putfield 1, 3) := by decide +kernel
theorem dX8_blurred_5 : decode cX8_blurred 5 = .ok (.aload_n 0, 1) := by decide +kernel
theorem dX8_blurred_6 : decode cX8_blurred 6 = .ok (.iload_n 1, 1) := by decide +kernel
theorem dX8_blurred_7 : decode cX8_blurred 7 = .ok (.invokestatic 117, 3) := by decide +kernel
theorem dX8_blurred_10 : decode cX8_blurred 10 = .ok (.iconst 1, 1) := by decide +kernel
theorem dX8_blurred_11 : decode cX8_blurred 11 = .ok (.invokevirtual 110, 3) := by decide +kernel
theorem dX8_blurred_14 : decode cX8_blurred 14 = .ok (.ifCond .ne 5, 3) := by decide +kernel
theorem dX8_blurred_17 : decode cX8_blurred 17 = .ok (.iconst 0, 1) := by decide +kernel
theorem dX8_blurred_18 : decode cX8_blurred 18 = .ok (.ireturn, 1) := by decide +kernel
theorem dX8_blurred_19 : decode cX8_blurred 19 = .ok (.aload_n 0, 1) := by decide +kernel
theorem dX8_blurred_20 : decode cX8_blurred 20 = .ok (.iload_n 1, 1) := by decide +kernel
theorem dX8_blurred_21 : decode cX8_blurred 21 = .ok (.invokevirtual 344, 3) := by decide +kernel
theorem dX8_blurred_24 : decode cX8_blurred 24 = .ok (.aload_n 0, 1) := by decide +kernel
theorem dX8_blurred_25 : decode cX8_blurred 25 = .ok (.getfield 335, 3) := by decide +kernel
theorem dX8_blurred_28 : decode cX8_blurred 28 = .ok (.ifCond .ne 5, 3) := by decide +kernel
theorem dX8_blurred_31 : decode cX8_blurred 31 = .ok (.iconst (-1), 1) := by decide +kernel
theorem dX8_blurred_32 : decode cX8_blurred 32 = .ok (.ireturn, 1) := by decide +kernel
theorem dX8_blurred_33 : decode cX8_blurred 33 = .ok (.iconst 0, 1) := by decide +kernel
theorem dX8_blurred_34 : decode cX8_blurred 34 = .ok (.istore_n 3, 1) := by decide +kernel
theorem dX8_blurred_35 : decode cX8_blurred 35 = .ok (.iload_n 3, 1) := by decide +kernel
theorem dX8_blurred_36 : decode cX8_blurred 36 = .ok (.bipush 8, 2) := by decide +kernel
theorem dX8_blurred_38 : decode cX8_blurred 38 = .ok (.if_icmp .ge 28, 3) := by decide +kernel
theorem dX8_blurred_41 : decode cX8_blurred 41 = .ok (.aload_n 0, 1) := by decide +kernel
theorem dX8_blurred_42 : decode cX8_blurred 42 = .ok (.getfield 93, 3) := by decide +kernel
theorem dX8_blurred_45 : decode cX8_blurred 45 = .ok (.iload_n 3, 1) := by decide +kernel
theorem dX8_blurred_46 : decode cX8_blurred 46 = .ok (.aload_n 0, 1) := by decide +kernel
theorem dX8_blurred_47 : decode cX8_blurred 47 = .ok (.bipush 8, 2) := by decide +kernel
theorem dX8_blurred_49 : decode cX8_blurred 49 = .ok (.bipush 16, 2) := by decide +kernel
theorem dX8_blurred_51 : decode cX8_blurred 51 = .ok (.iload_n 3, 1) := by decide +kernel
theorem dX8_blurred_52 : decode cX8_blurred 52 = .ok (.imul, 1) := by decide +kernel
theorem dX8_blurred_53 : decode cX8_blurred 53 = .ok (.iadd, 1) := by decide +kernel
theorem dX8_blurred_54 : decode cX8_blurred 54 = .ok (.bipush 16, 2) := by decide +kernel
theorem dX8_blurred_56 : decode cX8_blurred 56 = .ok (.invokevirtual 380, 3) := by decide +kernel
theorem dX8_blurred_59 : decode cX8_blurred 59 = .ok (.iastore, 1) := by decide +kernel
theorem dX8_blurred_60 : decode cX8_blurred 60 = .ok (.iinc 3 1, 3) := by decide +kernel
theorem dX8_blurred_63 : decode cX8_blurred 63 = .ok (.goto (-28), 3) := by decide +kernel
theorem dX8_blurred_66 : decode cX8_blurred 66 = .ok (.iconst 0, 1) := by decide +kernel
theorem dX8_blurred_67 : decode cX8_blurred 67 = .ok (.istore_n 3, 1) := by decide +kernel
theorem dX8_blurred_68 : decode cX8_blurred 68 = .ok (.iconst 0, 1) := by decide +kernel
theorem dX8_blurred_69 : decode cX8_blurred 69 = .ok (.istore 4, 2) := by decide +kernel
theorem dX8_blurred_71 : decode cX8_blurred 71 = .ok (.iload 4, 2) := by decide +kernel
theorem dX8_blurred_73 : decode cX8_blurred 73 = .ok (.bipush 8, 2) := by decide +kernel
theorem dX8_blurred_75 : decode cX8_blurred 75 = .ok (.if_icmp .ge 103, 3) := by decide +kernel
theorem dX8_blurred_78 : decode cX8_blurred 78 = .ok (.iload 4, 2) := by decide +kernel
theorem dX8_blurred_80 : decode cX8_blurred 80 = .ok (.iconst 1, 1) := by decide +kernel
theorem dX8_blurred_81 : decode cX8_blurred 81 = .ok (.iadd, 1) := by decide +kernel
theorem dX8_blurred_82 : decode cX8_blurred 82 = .ok (.istore 5, 2) := by decide +kernel
theorem dX8_blurred_84 : decode cX8_blurred 84 = .ok (.iload 5, 2) := by decide +kernel
theorem dX8_blurred_86 : decode cX8_blurred 86 = .ok (.bipush 8, 2) := by decide +kernel
theorem dX8_blurred_88 : decode cX8_blurred 88 = .ok (.if_icmp .ge 84, 3) := by decide +kernel
theorem dX8_blurred_91 : decode cX8_blurred 91 = .ok (.iload 4, 2) := by decide +kernel
theorem dX8_blurred_93 : decode cX8_blurred 93 = .ok (.iconst 4, 1) := by decide +kernel
theorem dX8_blurred_94 : decode cX8_blurred 94 = .ok (.idiv, 1) := by decide +kernel
theorem dX8_blurred_95 : decode cX8_blurred 95 = .ok (.iload 5, 2) := by decide +kernel
theorem dX8_blurred_97 : decode cX8_blurred 97 = .ok (.iconst 4, 1) := by decide +kernel
theorem dX8_blurred_98 : decode cX8_blurred 98 = .ok (.idiv, 1) := by decide +kernel
theorem dX8_blurred_99 : decode cX8_blurred 99 = .ok (.if_icmp .ne 67, 3) := by decide +kernel
theorem dX8_blurred_102 : decode cX8_blurred 102 = .ok (.aload_n 0, 1) := by decide +kernel
theorem dX8_blurred_103 : decode cX8_blurred 103 = .ok (.getfield 93, 3) := by decide +kernel
theorem dX8_blurred_106 : decode cX8_blurred 106 = .ok (.iload 4, 2) := by decide +kernel
theorem dX8_blurred_108 : decode cX8_blurred 108 = .ok (.iaload, 1) := by decide +kernel
theorem dX8_blurred_109 : decode cX8_blurred 109 = .ok (.aload_n 0, 1) := by decide +kernel
theorem dX8_blurred_110 : decode cX8_blurred 110 = .ok (.getfield 93, 3) := by decide +kernel
theorem dX8_blurred_113 : decode cX8_blurred 113 = .ok (.iload 5, 2) := by decide +kernel
theorem dX8_blurred_115 : decode cX8_blurred 115 = .ok (.iaload, 1) := by decide +kernel
theorem dX8_blurred_116 : decode cX8_blurred 116 = .ok (.if_icmp .eq 50, 3) := by decide +kernel
theorem dX8_blurred_119 : decode cX8_blurred 119 = .ok (.aload_n 0, 1) := by decide +kernel
theorem dX8_blurred_120 : decode cX8_blurred 120 = .ok (.iload_n 1, 1) := by decide +kernel
theorem dX8_blurred_121 : decode cX8_blurred 121 = .ok (.aload_n 0, 1) := by decide +kernel
theorem dX8_blurred_122 : decode cX8_blurred 122 = .ok (.getfield 93, 3) := by decide +kernel
theorem dX8_blurred_125 : decode cX8_blurred 125 = .ok (.iload 4, 2) := by decide +kernel
theorem dX8_blurred_127 : decode cX8_blurred 127 = .ok (.iaload, 1) := by decide +kernel
theorem dX8_blurred_128 : decode cX8_blurred 128 = .ok (.invokevirtual 314, 3) := by decide +kernel
theorem dX8_blurred_131 : decode cX8_blurred 131 = .ok (.aload_n 0, 1) := by decide +kernel
theorem dX8_blurred_132 : decode cX8_blurred 132 = .ok (.iload_n 1, 1) := by decide +kernel
theorem dX8_blurred_133 : decode cX8_blurred 133 = .ok (.aload_n 0, 1) := by decide +kernel
theorem dX8_blurred_134 : decode cX8_blurred 134 = .ok (.getfield 93, 3) := by decide +kernel
theorem dX8_blurred_137 : decode cX8_blurred 137 = .ok (.iload 5, 2) := by decide +kernel
theorem dX8_blurred_139 : decode cX8_blurred 139 = .ok (.iaload, 1) := by decide +kernel
theorem dX8_blurred_140 : decode cX8_blurred 140 = .ok (.invokevirtual 314, 3) := by decide +kernel
theorem dX8_blurred_143 : decode cX8_blurred 143 = .ok (.if_icmp .eq 6, 3) := by decide +kernel
theorem dX8_blurred_146 : decode cX8_blurred 146 = .ok (.goto 20, 3) := by decide +kernel
theorem dX8_blurred_149 : decode cX8_blurred 149 = .ok (.iload_n 3, 1) := by decide +kernel
theorem dX8_blurred_150 : decode cX8_blurred 150 = .ok (.iload_n 2, 1) := by decide +kernel
theorem dX8_blurred_151 : decode cX8_blurred 151 = .ok (.if_icmp .ne 12, 3) := by decide +kernel
theorem dX8_blurred_154 : decode cX8_blurred 154 = .ok (.bipush 8, 2) := by decide +kernel
theorem dX8_blurred_156 : decode cX8_blurred 156 = .ok (.iload 4, 2) := by decide +kernel
theorem dX8_blurred_158 : decode cX8_blurred 158 = .ok (.imul, 1) := by decide +kernel
theorem dX8_blurred_159 : decode cX8_blurred 159 = .ok (.iload 5, 2) := by decide +kernel
theorem dX8_blurred_161 : decode cX8_blurred 161 = .ok (.iadd, 1) := by decide +kernel
theorem dX8_blurred_162 : decode cX8_blurred 162 = .ok (.ireturn, 1) := by decide +kernel
theorem dX8_blurred_163 : decode cX8_blurred 163 = .ok (.iinc 3 1, 3) := by decide +kernel
theorem dX8_blurred_166 : decode cX8_blurred 166 = .ok (.iinc 5 1, 3) := by decide +kernel
theorem dX8_blurred_169 : decode cX8_blurred 169 = .ok (.goto (-85), 3) := by decide +kernel
theorem dX8_blurred_172 : decode cX8_blurred 172 = .ok (.iinc 4 1, 3) := by decide +kernel
theorem dX8_blurred_175 : decode cX8_blurred 175 = .ok (.goto (-104), 3) := by decide +kernel
theorem dX8_blurred_178 : decode cX8_blurred 178 = .ok (.iload_n 2, 1) := by decide +kernel
theorem dX8_blurred_179 : decode cX8_blurred 179 = .ok (.iconst (-1), 1) := by decide +kernel
theorem dX8_blurred_180 : decode cX8_blurred 180 = .ok (.if_icmp .ne 7, 3) := by decide +kernel
theorem dX8_blurred_183 : decode cX8_blurred 183 = .ok (.iload_n 3, 1) := by decide +kernel
theorem dX8_blurred_184 : decode cX8_blurred 184 = .ok (.goto 4, 3) := by decide +kernel
theorem dX8_blurred_187 : decode cX8_blurred 187 = .ok (.iconst (-1), 1) := by decide +kernel
theorem dX8_blurred_188 : decode cX8_blurred 188 = .ok (.ireturn, 1) := by decide +kernel
theorem dX8_nearest_0 : decode cX8_nearest 0 = .ok (.aload_n 0, 1) := by decide +kernel
theorem dX8_nearest_1 : decode cX8_nearest 1 = .ok (.iconst 0, 1) := by decide +kernel
theorem dX8_nearest_2 : decode cX8_nearest 2 = .ok (.putfield 1, 3) := by decide +kernel
theorem dX8_nearest_5 : decode cX8_nearest 5 = .ok (.aload_n 0, 1) := by decide +kernel
theorem dX8_nearest_6 : decode cX8_nearest 6 = .ok (.iload_n 1, 1) := by decide +kernel
theorem dX8_nearest_7 : decode cX8_nearest 7 = .ok (.invokestatic 117, 3) := by decide +kernel
theorem dX8_nearest_10 : decode cX8_nearest 10 = .ok (.iconst 1, 1) := by decide +kernel
theorem dX8_nearest_11 : decode cX8_nearest 11 = .ok (.invokevirtual 110, 3) := by decide +kernel
theorem dX8_nearest_14 : decode cX8_nearest 14 = .ok (.ifCond .ne 5, 3) := by decide +kernel
theorem dX8_nearest_17 : decode cX8_nearest 17 = .ok (.iconst 0, 1) := by decide +kernel
theorem dX8_nearest_18 : decode cX8_nearest 18 = .ok (.ireturn, 1) := by decide +kernel
theorem dX8_nearest_19 : decode cX8_nearest 19 = .ok (.iconst (-1), 1) := by decide +kernel
theorem dX8_nearest_20 : decode cX8_nearest 20 = .ok (.istore_n 2, 1) := by decide +kernel
theorem dX8_nearest_21 : decode cX8_nearest 21 = .ok (.iconst 0, 1) := by decide +kernel
theorem dX8_nearest_22 : decode cX8_nearest 22 = .ok (.istore_n 3, 1) := by decide +kernel
theorem dX8_nearest_23 : decode cX8_nearest 23 = .ok (.iconst 0, 1) := by decide +kernel
theorem dX8_nearest_24 : decode cX8_nearest 24 = .ok (.istore 4, 2) := by decide +kernel
theorem dX8_nearest_26 : decode cX8_nearest 26 = .ok (.iload 4, 2) := by decide +kernel
theorem dX8_nearest_28 : decode cX8_nearest 28 = .ok (.iconst 3, 1) := by decide +kernel
theorem dX8_nearest_29 : decode cX8_nearest 29 = .ok (.if_icmp .ge 53, 3) := by decide +kernel
theorem dX8_nearest_32 : decode cX8_nearest 32 = .ok (.iload 4, 2) := by decide +kernel
theorem dX8_nearest_34 : decode cX8_nearest 34 = .ok (.iload_n 1, 1) := by decide +kernel
theorem dX8_nearest_35 : decode cX8_nearest 35 = .ok (.if_icmp .ne 6, 3) := by decide +kernel
theorem dX8_nearest_38 : decode cX8_nearest 38 = .ok (.goto 38, 3) := by decide +kernel
theorem dX8_nearest_41 : decode cX8_nearest 41 = .ok (.aload_n 0, 1) := by decide +kernel
theorem dX8_nearest_42 : decode cX8_nearest 42 = .ok (.iload_n 1, 1) := by decide +kernel
theorem dX8_nearest_43 : decode cX8_nearest 43 = .ok (.iload 4, 2) := by decide +kernel
theorem dX8_nearest_45 : decode cX8_nearest 45 = .ok (.invokevirtual 377, 3) := by decide +kernel
theorem dX8_nearest_48 : decode cX8_nearest 48 = .ok (.istore 5, 2) := by decide +kernel
theorem dX8_nearest_50 : decode cX8_nearest 50 = .ok (.iload 5, 2) := by decide +kernel
theorem dX8_nearest_52 : decode cX8_nearest 52 = .ok (.iconst (-1), 1) := by decide +kernel
theorem dX8_nearest_53 : decode cX8_nearest 53 = .ok (.if_icmp .eq 23, 3) := by decide +kernel
theorem dX8_nearest_56 : decode cX8_nearest 56 = .ok (.iload_n 2, 1) := by decide +kernel
theorem dX8_nearest_57 : decode cX8_nearest 57 = .ok (.iconst (-1), 1) := by decide +kernel
theorem dX8_nearest_58 : decode cX8_nearest 58 = .ok (.if_icmp .eq 12, 3) := by decide +kernel
theorem dX8_nearest_61 : decode cX8_nearest 61 = .ok (.iload 5, 2) := by decide +kernel
theorem dX8_nearest_63 : decode cX8_nearest 63 = .ok (.iload_n 3, 1) := by decide +kernel
theorem dX8_nearest_64 : decode cX8_nearest 64 = .ok (.if_icmp .lt 6, 3) := by decide +kernel
theorem dX8_nearest_67 : decode cX8_nearest 67 = .ok (.goto 9, 3) := by decide +kernel
theorem dX8_nearest_70 : decode cX8_nearest 70 = .ok (.iload 4, 2) := by decide +kernel
theorem dX8_nearest_72 : decode cX8_nearest 72 = .ok (.istore_n 2, 1) := by decide +kernel
theorem dX8_nearest_73 : decode cX8_nearest 73 = .ok (.iload 5, 2) := by decide +kernel
theorem dX8_nearest_75 : decode cX8_nearest 75 = .ok (.istore_n 3, 1) := by decide +kernel
theorem dX8_nearest_76 : decode cX8_nearest 76 = .ok (.iinc 4 1, 3) := by decide +kernel
theorem dX8_nearest_79 : decode cX8_nearest 79 = .ok (.goto (-53), 3) := by decide +kernel
theorem dX8_nearest_82 : decode cX8_nearest 82 = .ok (.iload_n 2, 1) := by decide +kernel
theorem dX8_nearest_83 : decode cX8_nearest 83 = .ok (.ireturn, 1) := by decide +kernel
theorem dX8_since_0 : decode cX8_since 0 = .ok (.aload_n 0, 1) := by decide +kernel
theorem dX8_since_1 : decode cX8_since 1 = .ok (.iconst 0, 1) := by decide +kernel
theorem dX8_since_2 : decode cX8_since 2 = .ok (.putfield 1, 3) := by decide +kernel
theorem dX8_since_5 : decode cX8_since 5 = .ok (.aload_n 0, 1) := by decide +kernel
theorem dX8_since_6 : decode cX8_since 6 = .ok (.iload_n 1, 1) := by decide +kernel
theorem dX8_since_7 : decode cX8_since 7 = .ok (.invokevirtual 125, 3) := by decide +kernel
theorem dX8_since_10 : decode cX8_since 10 = .ok (.ifCond .eq 15, 3) := by decide +kernel
theorem dX8_since_13 : decode cX8_since 13 = .ok (.aload_n 0, 1) := by decide +kernel
theorem dX8_since_14 : decode cX8_since 14 = .ok (.iload_n 2, 1) := by decide +kernel
theorem dX8_since_15 : decode cX8_since 15 = .ok (.invokestatic 132, 3) := by decide +kernel
theorem dX8_since_18 : decode cX8_since 18 = .ok (.iconst 2, 1) := by decide +kernel
theorem dX8_since_19 : decode cX8_since 19 = .ok (.invokevirtual 110, 3) := by decide +kernel
theorem dX8_since_22 : decode cX8_since 22 = .ok (.ifCond .ne 5, 3) := by decide +kernel
theorem dX8_since_25 : decode cX8_since 25 = .ok (.iconst 0, 1) := by decide +kernel
theorem dX8_since_26 : decode cX8_since 26 = .ok (.ireturn, 1) := by decide +kernel
theorem dX8_since_27 : decode cX8_since 27 = .ok (.aload_n 0, 1) := by decide +kernel
theorem dX8_since_28 : decode cX8_since 28 = .ok (.getfield 71, 3) := by decide +kernel
theorem dX8_since_31 : decode cX8_since 31 = .ok (.bipush 6, 2) := by decide +kernel
theorem dX8_since_33 : decode cX8_since 33 = .ok (.iload_n 1, 1) := by decide +kernel
theorem dX8_since_34 : decode cX8_since 34 = .ok (.imul, 1) := by decide +kernel
theorem dX8_since_35 : decode cX8_since 35 = .ok (.iload_n 2, 1) := by decide +kernel
theorem dX8_since_36 : decode cX8_since 36 = .ok (.iadd, 1) := by decide +kernel
theorem dX8_since_37 : decode cX8_since 37 = .ok (.iaload, 1) := by decide +kernel
theorem dX8_since_38 : decode cX8_since 38 = .ok (.ireturn, 1) := by decide +kernel
theorem dX8_teacherOf_0 : decode cX8_teacherOf 0 = .ok (.iconst 0, 1) := by decide +kernel
theorem dX8_teacherOf_1 : decode cX8_teacherOf 1 = .ok (.istore_n 3, 1) := by decide +kernel
theorem dX8_teacherOf_2 : decode cX8_teacherOf 2 = .ok (.iload_n 3, 1) := by decide +kernel
theorem dX8_teacherOf_3 : decode cX8_teacherOf 3 = .ok (.bipush 24, 2) := by decide +kernel
theorem dX8_teacherOf_5 : decode cX8_teacherOf 5 = .ok (.if_icmp .ge 16, 3) := by decide +kernel
theorem dX8_teacherOf_8 : decode cX8_teacherOf 8 = .ok (.aload_n 0, 1) := by decide +kernel
theorem dX8_teacherOf_9 : decode cX8_teacherOf 9 = .ok (.getfield 99, 3) := by decide +kernel
theorem dX8_teacherOf_12 : decode cX8_teacherOf 12 = .ok (.iload_n 3, 1) := by decide +kernel
theorem dX8_teacherOf_13 : decode cX8_teacherOf 13 = .ok (.iconst 0, 1) := by decide +kernel
theorem dX8_teacherOf_14 : decode cX8_teacherOf 14 = .ok (.iastore, 1) := by decide +kernel
theorem dX8_teacherOf_15 : decode cX8_teacherOf 15 = .ok (.iinc 3 1, 3) := by decide +kernel
theorem dX8_teacherOf_18 : decode cX8_teacherOf 18 = .ok (.goto (-16), 3) := by decide +kernel
theorem dX8_teacherOf_21 : decode cX8_teacherOf 21 = .ok (.iconst 0, 1) := by decide +kernel
theorem dX8_teacherOf_22 : decode cX8_teacherOf 22 = .ok (.istore_n 3, 1) := by decide +kernel
theorem dX8_teacherOf_23 : decode cX8_teacherOf 23 = .ok (.iload_n 3, 1) := by decide +kernel
theorem dX8_teacherOf_24 : decode cX8_teacherOf 24 = .ok (.aload_n 0, 1) := by decide +kernel
theorem dX8_teacherOf_25 : decode cX8_teacherOf 25 = .ok (.getfield 329, 3) := by decide +kernel
theorem dX8_teacherOf_28 : decode cX8_teacherOf 28 = .ok (.if_icmp .ge 60, 3) := by decide +kernel
theorem dX8_teacherOf_31 : decode cX8_teacherOf 31 = .ok (.aload_n 0, 1) := by decide +kernel
theorem dX8_teacherOf_32 : decode cX8_teacherOf 32 = .ok (.getfield 65, 3) := by decide +kernel
theorem dX8_teacherOf_35 : decode cX8_teacherOf 35 = .ok (.bipush 20, 2) := by decide +kernel
theorem dX8_teacherOf_37 : decode cX8_teacherOf 37 = .ok (.iload_n 3, 1) := by decide +kernel
theorem dX8_teacherOf_38 : decode cX8_teacherOf 38 = .ok (.imul, 1) := by decide +kernel
theorem dX8_teacherOf_39 : decode cX8_teacherOf 39 = .ok (.iconst 2, 1) := by decide +kernel
theorem dX8_teacherOf_40 : decode cX8_teacherOf 40 = .ok (.iadd, 1) := by decide +kernel
theorem dX8_teacherOf_41 : decode cX8_teacherOf 41 = .ok (.iaload, 1) := by decide +kernel
theorem dX8_teacherOf_42 : decode cX8_teacherOf 42 = .ok (.iload_n 1, 1) := by decide +kernel
theorem dX8_teacherOf_43 : decode cX8_teacherOf 43 = .ok (.if_icmp .ne 39, 3) := by decide +kernel
theorem dX8_teacherOf_46 : decode cX8_teacherOf 46 = .ok (.aload_n 0, 1) := by decide +kernel
theorem dX8_teacherOf_47 : decode cX8_teacherOf 47 = .ok (.getfield 65, 3) := by decide +kernel
theorem dX8_teacherOf_50 : decode cX8_teacherOf 50 = .ok (.bipush 20, 2) := by decide +kernel
theorem dX8_teacherOf_52 : decode cX8_teacherOf 52 = .ok (.iload_n 3, 1) := by decide +kernel
theorem dX8_teacherOf_53 : decode cX8_teacherOf 53 = .ok (.imul, 1) := by decide +kernel
theorem dX8_teacherOf_54 : decode cX8_teacherOf 54 = .ok (.bipush 16, 2) := by decide +kernel
theorem dX8_teacherOf_56 : decode cX8_teacherOf 56 = .ok (.iadd, 1) := by decide +kernel
theorem dX8_teacherOf_57 : decode cX8_teacherOf 57 = .ok (.iaload, 1) := by decide +kernel
theorem dX8_teacherOf_58 : decode cX8_teacherOf 58 = .ok (.iload_n 2, 1) := by decide +kernel
theorem dX8_teacherOf_59 : decode cX8_teacherOf 59 = .ok (.if_icmp .ne 23, 3) := by decide +kernel
theorem dX8_teacherOf_62 : decode cX8_teacherOf 62 = .ok (.aload_n 0, 1) := by decide +kernel
theorem dX8_teacherOf_63 : decode cX8_teacherOf 63 = .ok (.getfield 99, 3) := by decide +kernel
theorem dX8_teacherOf_66 : decode cX8_teacherOf 66 = .ok (.aload_n 0, 1) := by decide +kernel
theorem dX8_teacherOf_67 : decode cX8_teacherOf 67 = .ok (.getfield 65, 3) := by decide +kernel
theorem dX8_teacherOf_70 : decode cX8_teacherOf 70 = .ok (.bipush 20, 2) := by decide +kernel
theorem dX8_teacherOf_72 : decode cX8_teacherOf 72 = .ok (.iload_n 3, 1) := by decide +kernel
theorem dX8_teacherOf_73 : decode cX8_teacherOf 73 = .ok (.imul, 1) := by decide +kernel
theorem dX8_teacherOf_74 : decode cX8_teacherOf 74 = .ok (.iconst 1, 1) := by decide +kernel
theorem dX8_teacherOf_75 : decode cX8_teacherOf 75 = .ok (.iadd, 1) := by decide +kernel
theorem dX8_teacherOf_76 : decode cX8_teacherOf 76 = .ok (.iaload, 1) := by decide +kernel
theorem dX8_teacherOf_77 : decode cX8_teacherOf 77 = .ok (.dup2, 1) := by decide +kernel
theorem dX8_teacherOf_78 : decode cX8_teacherOf 78 = .ok (.iaload, 1) := by decide +kernel
theorem dX8_teacherOf_79 : decode cX8_teacherOf 79 = .ok (.iconst 1, 1) := by decide +kernel
theorem dX8_teacherOf_80 : decode cX8_teacherOf 80 = .ok (.iadd, 1) := by decide +kernel
theorem dX8_teacherOf_81 : decode cX8_teacherOf 81 = .ok (.iastore, 1) := by decide +kernel
theorem dX8_teacherOf_82 : decode cX8_teacherOf 82 = .ok (.iinc 3 1, 3) := by decide +kernel
theorem dX8_teacherOf_85 : decode cX8_teacherOf 85 = .ok (.goto (-62), 3) := by decide +kernel
theorem dX8_teacherOf_88 : decode cX8_teacherOf 88 = .ok (.iconst 0, 1) := by decide +kernel
theorem dX8_teacherOf_89 : decode cX8_teacherOf 89 = .ok (.istore_n 3, 1) := by decide +kernel
theorem dX8_teacherOf_90 : decode cX8_teacherOf 90 = .ok (.iconst 1, 1) := by decide +kernel
theorem dX8_teacherOf_91 : decode cX8_teacherOf 91 = .ok (.istore 4, 2) := by decide +kernel
theorem dX8_teacherOf_93 : decode cX8_teacherOf 93 = .ok (.iload 4, 2) := by decide +kernel
theorem dX8_teacherOf_95 : decode cX8_teacherOf 95 = .ok (.bipush 24, 2) := by decide +kernel
theorem dX8_teacherOf_97 : decode cX8_teacherOf 97 = .ok (.if_icmp .ge 28, 3) := by decide +kernel
theorem dX8_teacherOf_100 : decode cX8_teacherOf 100 = .ok (.aload_n 0, 1) := by decide +kernel
theorem dX8_teacherOf_101 : decode cX8_teacherOf 101 = .ok (.getfield 99, 3) := by decide +kernel
theorem dX8_teacherOf_104 : decode cX8_teacherOf 104 = .ok (.iload 4, 2) := by decide +kernel
theorem dX8_teacherOf_106 : decode cX8_teacherOf 106 = .ok (.iaload, 1) := by decide +kernel
theorem dX8_teacherOf_107 : decode cX8_teacherOf 107 = .ok (.aload_n 0, 1) := by decide +kernel
theorem dX8_teacherOf_108 : decode cX8_teacherOf 108 = .ok (.getfield 99, 3) := by decide +kernel
theorem dX8_teacherOf_111 : decode cX8_teacherOf 111 = .ok (.iload_n 3, 1) := by decide +kernel
theorem dX8_teacherOf_112 : decode cX8_teacherOf 112 = .ok (.iaload, 1) := by decide +kernel
theorem dX8_teacherOf_113 : decode cX8_teacherOf 113 = .ok (.if_icmp .le 6, 3) := by decide +kernel
theorem dX8_teacherOf_116 : decode cX8_teacherOf 116 = .ok (.iload 4, 2) := by decide +kernel
theorem dX8_teacherOf_118 : decode cX8_teacherOf 118 = .ok (.istore_n 3, 1) := by decide +kernel
theorem dX8_teacherOf_119 : decode cX8_teacherOf 119 = .ok (.iinc 4 1, 3) := by decide +kernel
theorem dX8_teacherOf_122 : decode cX8_teacherOf 122 = .ok (.goto (-29), 3) := by decide +kernel
theorem dX8_teacherOf_125 : decode cX8_teacherOf 125 = .ok (.aload_n 0, 1) := by decide +kernel
theorem dX8_teacherOf_126 : decode cX8_teacherOf 126 = .ok (.getfield 99, 3) := by decide +kernel
theorem dX8_teacherOf_129 : decode cX8_teacherOf 129 = .ok (.iload_n 3, 1) := by decide +kernel
theorem dX8_teacherOf_130 : decode cX8_teacherOf 130 = .ok (.iaload, 1) := by decide +kernel
theorem dX8_teacherOf_131 : decode cX8_teacherOf 131 = .ok (.ifCond .ne 7, 3) := by decide +kernel
theorem dX8_teacherOf_134 : decode cX8_teacherOf 134 = .ok (.iconst (-1), 1) := by decide +kernel
theorem dX8_teacherOf_135 : decode cX8_teacherOf 135 = .ok (.goto 4, 3) := by decide +kernel
theorem dX8_teacherOf_138 : decode cX8_teacherOf 138 = .ok (.iload_n 3, 1) := by decide +kernel
theorem dX8_teacherOf_139 : decode cX8_teacherOf 139 = .ok (.ireturn, 1) := by decide +kernel
theorem dX8_taught_0 : decode cX8_taught 0 = .ok (.aload_n 0, 1) := by decide +kernel
theorem dX8_taught_1 : decode cX8_taught 1 = .ok (.iconst 0, 1) := by decide +kernel
theorem dX8_taught_2 : decode cX8_taught 2 = .ok (.putfield 1, 3) := by decide +kernel
theorem dX8_taught_5 : decode cX8_taught 5 = .ok (.aload_n 0, 1) := by decide +kernel
theorem dX8_taught_6 : decode cX8_taught 6 = .ok (.iload_n 1, 1) := by decide +kernel
theorem dX8_taught_7 : decode cX8_taught 7 = .ok (.invokevirtual 125, 3) := by decide +kernel
theorem dX8_taught_10 : decode cX8_taught 10 = .ok (.ifCond .eq 15, 3) := by decide +kernel
theorem dX8_taught_13 : decode cX8_taught 13 = .ok (.aload_n 0, 1) := by decide +kernel
theorem dX8_taught_14 : decode cX8_taught 14 = .ok (.iload_n 2, 1) := by decide +kernel
theorem dX8_taught_15 : decode cX8_taught 15 = .ok (.invokestatic 132, 3) := by decide +kernel
theorem dX8_taught_18 : decode cX8_taught 18 = .ok (.iconst 2, 1) := by decide +kernel
theorem dX8_taught_19 : decode cX8_taught 19 = .ok (.invokevirtual 110, 3) := by decide +kernel
theorem dX8_taught_22 : decode cX8_taught 22 = .ok (.ifCond .ne 5, 3) := by decide +kernel
theorem dX8_taught_25 : decode cX8_taught 25 = .ok (.iconst 0, 1) := by decide +kernel
theorem dX8_taught_26 : decode cX8_taught 26 = .ok (.ireturn, 1) := by decide +kernel
theorem dX8_taught_27 : decode cX8_taught 27 = .ok (.aload_n 0, 1) := by decide +kernel
theorem dX8_taught_28 : decode cX8_taught 28 = .ok (.iload_n 1, 1) := by decide +kernel
theorem dX8_taught_29 : decode cX8_taught 29 = .ok (.iload_n 2, 1) := by decide +kernel
theorem dX8_taught_30 : decode cX8_taught 30 = .ok (.invokevirtual 386, 3) := by decide +kernel
theorem dX8_taught_33 : decode cX8_taught 33 = .ok (.ireturn, 1) := by decide +kernel
theorem dX8_root_0 : decode cX8_root 0 = .ok (.aload_n 0, 1) := by decide +kernel
theorem dX8_root_1 : decode cX8_root 1 = .ok (.iconst 0, 1) := by decide +kernel
theorem dX8_root_2 : decode cX8_root 2 = .ok (.putfield 1, 3) := by decide +kernel
theorem dX8_root_5 : decode cX8_root 5 = .ok (.aload_n 0, 1) := by decide +kernel
theorem dX8_root_6 : decode cX8_root 6 = .ok (.iload_n 1, 1) := by decide +kernel
theorem dX8_root_7 : decode cX8_root 7 = .ok (.invokevirtual 125, 3) := by decide +kernel
theorem dX8_root_10 : decode cX8_root 10 = .ok (.ifCond .eq 15, 3) := by decide +kernel
theorem dX8_root_13 : decode cX8_root 13 = .ok (.aload_n 0, 1) := by decide +kernel
theorem dX8_root_14 : decode cX8_root 14 = .ok (.iload_n 2, 1) := by decide +kernel
theorem dX8_root_15 : decode cX8_root 15 = .ok (.invokestatic 132, 3) := by decide +kernel
theorem dX8_root_18 : decode cX8_root 18 = .ok (.iconst 2, 1) := by decide +kernel
theorem dX8_root_19 : decode cX8_root 19 = .ok (.invokevirtual 110, 3) := by decide +kernel
theorem dX8_root_22 : decode cX8_root 22 = .ok (.ifCond .ne 5, 3) := by decide +kernel
theorem dX8_root_25 : decode cX8_root 25 = .ok (.iconst 0, 1) := by decide +kernel
theorem dX8_root_26 : decode cX8_root 26 = .ok (.ireturn, 1) := by decide +kernel
theorem dX8_root_27 : decode cX8_root 27 = .ok (.iconst 1, 1) := by decide +kernel
theorem dX8_root_28 : decode cX8_root 28 = .ok (.iload_n 1, 1) := by decide +kernel
theorem dX8_root_29 : decode cX8_root 29 = .ok (.ishl, 1) := by decide +kernel
theorem dX8_root_30 : decode cX8_root 30 = .ok (.istore_n 3, 1) := by decide +kernel
theorem dX8_root_31 : decode cX8_root 31 = .ok (.iload_n 1, 1) := by decide +kernel
theorem dX8_root_32 : decode cX8_root 32 = .ok (.istore 4, 2) := by decide +kernel
theorem dX8_root_34 : decode cX8_root 34 = .ok (.aload_n 0, 1) := by decide +kernel
theorem dX8_root_35 : decode cX8_root 35 = .ok (.iload 4, 2) := by decide +kernel
theorem dX8_root_37 : decode cX8_root 37 = .ok (.iload_n 2, 1) := by decide +kernel
theorem dX8_root_38 : decode cX8_root 38 = .ok (.invokevirtual 386, 3) := by decide +kernel
theorem dX8_root_41 : decode cX8_root 41 = .ok (.istore 5, 2) := by decide +kernel
theorem dX8_root_43 : decode cX8_root 43 = .ok (.iload 5, 2) := by decide +kernel
theorem dX8_root_45 : decode cX8_root 45 = .ok (.iconst (-1), 1) := by decide +kernel
theorem dX8_root_46 : decode cX8_root 46 = .ok (.if_icmp .eq 35, 3) := by decide +kernel
theorem dX8_root_49 : decode cX8_root 49 = .ok (.iload_n 3, 1) := by decide +kernel
theorem dX8_root_50 : decode cX8_root 50 = .ok (.iload 5, 2) := by decide +kernel
theorem dX8_root_52 : decode cX8_root 52 = .ok (.ishr, 1) := by decide +kernel
theorem dX8_root_53 : decode cX8_root 53 = .ok (.iconst 1, 1) := by decide +kernel
theorem dX8_root_54 : decode cX8_root 54 = .ok (.iand, 1) := by decide +kernel
theorem dX8_root_55 : decode cX8_root 55 = .ok (.ifCond .ne 26, 3) := by decide +kernel
theorem dX8_root_58 : decode cX8_root 58 = .ok (.iload_n 3, 1) := by decide +kernel
theorem dX8_root_59 : decode cX8_root 59 = .ok (.iconst 1, 1) := by decide +kernel
theorem dX8_root_60 : decode cX8_root 60 = .ok (.iload 5, 2) := by decide +kernel
theorem dX8_root_62 : decode cX8_root 62 = .ok (.ishl, 1) := by decide +kernel
theorem dX8_root_63 : decode cX8_root 63 = .ok (.ior, 1) := by decide +kernel
theorem dX8_root_64 : decode cX8_root 64 = .ok (.istore_n 3, 1) := by decide +kernel
theorem dX8_root_65 : decode cX8_root 65 = .ok (.iload 5, 2) := by decide +kernel
theorem dX8_root_67 : decode cX8_root 67 = .ok (.istore 4, 2) := by decide +kernel
theorem dX8_root_69 : decode cX8_root 69 = .ok (.aload_n 0, 1) := by decide +kernel
theorem dX8_root_70 : decode cX8_root 70 = .ok (.iload 4, 2) := by decide +kernel
theorem dX8_root_72 : decode cX8_root 72 = .ok (.iload_n 2, 1) := by decide +kernel
theorem dX8_root_73 : decode cX8_root 73 = .ok (.invokevirtual 386, 3) := by decide +kernel
theorem dX8_root_76 : decode cX8_root 76 = .ok (.istore 5, 2) := by decide +kernel
theorem dX8_root_78 : decode cX8_root 78 = .ok (.goto (-35), 3) := by decide +kernel
theorem dX8_root_81 : decode cX8_root 81 = .ok (.iload 4, 2) := by decide +kernel
theorem dX8_root_83 : decode cX8_root 83 = .ok (.ireturn, 1) := by decide +kernel
theorem dX8_isRun_0 : decode cX8_isRun 0 = .ok (.iload_n 0, 1) := by decide +kernel
theorem dX8_isRun_1 : decode cX8_isRun 1 = .ok (.invokestatic 117, 3) := by decide +kernel
theorem dX8_isRun_4 : decode cX8_isRun 4 = .ok (.ifCond .eq 25, 3) := by decide +kernel
theorem dX8_isRun_7 : decode cX8_isRun 7 = .ok (.iload_n 1, 1) := by decide +kernel
theorem dX8_isRun_8 : decode cX8_isRun 8 = .ok (.iconst 0, 1) := by decide +kernel
theorem dX8_isRun_9 : decode cX8_isRun 9 = .ok (.sipush 200, 3) := by decide +kernel
theorem dX8_isRun_12 : decode cX8_isRun 12 = .ok (.invokestatic 106, 3) := by decide +kernel
theorem dX8_isRun_15 : decode cX8_isRun 15 = .ok (.ifCond .eq 14, 3) := by decide +kernel
theorem dX8_isRun_18 : decode cX8_isRun 18 = .ok (.iload_n 2, 1) := by decide +kernel
theorem dX8_isRun_19 : decode cX8_isRun 19 = .ok (.invokestatic 132, 3) := by decide +kernel
theorem dX8_isRun_22 : decode cX8_isRun 22 = .ok (.ifCond .eq 7, 3) := by decide +kernel
theorem dX8_isRun_25 : decode cX8_isRun 25 = .ok (.iconst 1, 1) := by decide +kernel
theorem dX8_isRun_26 : decode cX8_isRun 26 = .ok (.goto 4, 3) := by decide +kernel
theorem dX8_isRun_29 : decode cX8_isRun 29 = .ok (.iconst 0, 1) := by decide +kernel
theorem dX8_isRun_30 : decode cX8_isRun 30 = .ok (.ireturn, 1) := by decide +kernel
theorem dX8_untaught_0 : decode cX8_untaught 0 = .ok (.aload_n 0, 1) := by decide +kernel
theorem dX8_untaught_1 : decode cX8_untaught 1 = .ok (.iconst 0, 1) := by decide +kernel
theorem dX8_untaught_2 : decode cX8_untaught 2 = .ok (.putfield 1, 3) := by decide +kernel
theorem dX8_untaught_5 : decode cX8_untaught 5 = .ok (.aload_n 0, 1) := by decide +kernel
theorem dX8_untaught_6 : decode cX8_untaught 6 = .ok (.iload_n 1, 1) := by decide +kernel
theorem dX8_untaught_7 : decode cX8_untaught 7 = .ok (.iload_n 2, 1) := by decide +kernel
theorem dX8_untaught_8 : decode cX8_untaught 8 = .ok (.iload_n 3, 1) := by decide +kernel
theorem dX8_untaught_9 : decode cX8_untaught 9 = .ok (.invokestatic 374, 3) := by decide +kernel
theorem dX8_untaught_12 : decode cX8_untaught 12 = .ok (.iconst 1, 1) := by decide +kernel
theorem dX8_untaught_13 : decode cX8_untaught 13 = .ok (.invokevirtual 110, 3) := by decide +kernel
theorem dX8_untaught_16 : decode cX8_untaught 16 = .ok (.ifCond .ne 5, 3) := by decide +kernel
theorem dX8_untaught_19 : decode cX8_untaught 19 = .ok (.iconst 0, 1) := by decide +kernel
theorem dX8_untaught_20 : decode cX8_untaught 20 = .ok (.ireturn, 1) := by decide +kernel
theorem dX8_untaught_21 : decode cX8_untaught 21 = .ok (.aload_n 0, 1) := by decide +kernel
theorem dX8_untaught_22 : decode cX8_untaught 22 = .ok (.invokevirtual 365, 3) := by decide +kernel
theorem dX8_untaught_25 : decode cX8_untaught 25 = .ok (.aload_n 0, 1) := by decide +kernel
theorem dX8_untaught_26 : decode cX8_untaught 26 = .ok (.iload_n 1, 1) := by decide +kernel
theorem dX8_untaught_27 : decode cX8_untaught 27 = .ok (.invokevirtual 344, 3) := by decide +kernel
theorem dX8_untaught_30 : decode cX8_untaught 30 = .ok (.iconst 0, 1) := by decide +kernel
theorem dX8_untaught_31 : decode cX8_untaught 31 = .ok (.istore 4, 2) := by decide +kernel
theorem dX8_untaught_33 : decode cX8_untaught 33 = .ok (.iload 4, 2) := by decide +kernel
theorem dX8_untaught_35 : decode cX8_untaught 35 = .ok (.aload_n 0, 1) := by decide +kernel
theorem dX8_untaught_36 : decode cX8_untaught 36 = .ok (.getfield 335, 3) := by decide +kernel
theorem dX8_untaught_39 : decode cX8_untaught 39 = .ok (.if_icmp .ge 48, 3) := by decide +kernel
theorem dX8_untaught_42 : decode cX8_untaught 42 = .ok (.aload_n 0, 1) := by decide +kernel
theorem dX8_untaught_43 : decode cX8_untaught 43 = .ok (.getfield 20, 3) := by decide +kernel
theorem dX8_untaught_46 : decode cX8_untaught 46 = .ok (.aload_n 0, 1) := by decide +kernel
theorem dX8_untaught_47 : decode cX8_untaught 47 = .ok (.getfield 74, 3) := by decide +kernel
theorem dX8_untaught_50 : decode cX8_untaught 50 = .ok (.iload 4, 2) := by decide +kernel
theorem dX8_untaught_52 : decode cX8_untaught 52 = .ok (.iaload, 1) := by decide +kernel
theorem dX8_untaught_53 : decode cX8_untaught 53 = .ok (.invokestatic 121, 3) := by decide +kernel
theorem dX8_untaught_56 : decode cX8_untaught 56 = .ok (.iconst 4, 1) := by decide +kernel
theorem dX8_untaught_57 : decode cX8_untaught 57 = .ok (.iadd, 1) := by decide +kernel
theorem dX8_untaught_58 : decode cX8_untaught 58 = .ok (.iaload, 1) := by decide +kernel
theorem dX8_untaught_59 : decode cX8_untaught 59 = .ok (.iconst 3, 1) := by decide +kernel
theorem dX8_untaught_60 : decode cX8_untaught 60 = .ok (.if_icmp .ne 21, 3) := by decide +kernel
theorem dX8_untaught_63 : decode cX8_untaught 63 = .ok (.aload_n 0, 1) := by decide +kernel
theorem dX8_untaught_64 : decode cX8_untaught 64 = .ok (.getfield 20, 3) := by decide +kernel
theorem dX8_untaught_67 : decode cX8_untaught 67 = .ok (.aload_n 0, 1) := by decide +kernel
theorem dX8_untaught_68 : decode cX8_untaught 68 = .ok (.getfield 74, 3) := by decide +kernel
theorem dX8_untaught_71 : decode cX8_untaught 71 = .ok (.iload 4, 2) := by decide +kernel
theorem dX8_untaught_73 : decode cX8_untaught 73 = .ok (.iaload, 1) := by decide +kernel
theorem dX8_untaught_74 : decode cX8_untaught 74 = .ok (.invokestatic 121, 3) := by decide +kernel
theorem dX8_untaught_77 : decode cX8_untaught 77 = .ok (.iconst 3, 1) := by decide +kernel
theorem dX8_untaught_78 : decode cX8_untaught 78 = .ok (.iadd, 1) := by decide +kernel
theorem dX8_untaught_79 : decode cX8_untaught 79 = .ok (.iconst 0, 1) := by decide +kernel
theorem dX8_untaught_80 : decode cX8_untaught 80 = .ok (.iastore, 1) := by decide +kernel
theorem dX8_untaught_81 : decode cX8_untaught 81 = .ok (.iinc 4 1, 3) := by decide +kernel
theorem dX8_untaught_84 : decode cX8_untaught 84 = .ok (.goto (-51), 3) := by decide +kernel
theorem dX8_untaught_87 : decode cX8_untaught 87 = .ok (.aload_n 0, 1) := by decide +kernel
theorem dX8_untaught_88 : decode cX8_untaught 88 = .ok (.iload_n 1, 1) := by decide +kernel
theorem dX8_untaught_89 : decode cX8_untaught 89 = .ok (.iload_n 2, 1) := by decide +kernel
theorem dX8_untaught_90 : decode cX8_untaught 90 = .ok (.invokevirtual 368, 3) := by decide +kernel
theorem dX8_untaught_93 : decode cX8_untaught 93 = .ok (.aload_n 0, 1) := by decide +kernel
theorem dX8_untaught_94 : decode cX8_untaught 94 = .ok (.iload_n 1, 1) := by decide +kernel
theorem dX8_untaught_95 : decode cX8_untaught 95 = .ok (.iload_n 3, 1) := by decide +kernel
theorem dX8_untaught_96 : decode cX8_untaught 96 = .ok (.invokevirtual 353, 3) := by decide +kernel
theorem dX8_untaught_99 : decode cX8_untaught 99 = .ok (.istore 4, 2) := by decide +kernel
theorem dX8_untaught_101 : decode cX8_untaught 101 = .ok (.aload_n 0, 1) := by decide +kernel
theorem dX8_untaught_102 : decode cX8_untaught 102 = .ok (.aload_n 0, 1) := by decide +kernel
theorem dX8_untaught_103 : decode cX8_untaught 103 = .ok (.getfield 13, 3) := by decide +kernel
theorem dX8_untaught_106 : decode cX8_untaught 106 = .ok (.putfield 20, 3) := by decide +kernel
theorem dX8_untaught_109 : decode cX8_untaught 109 = .ok (.iload 4, 2) := by decide +kernel
theorem dX8_untaught_111 : decode cX8_untaught 111 = .ok (.ireturn, 1) := by decide +kernel
theorem dX8_odds_0 : decode cX8_odds 0 = .ok (.aload_n 0, 1) := by decide +kernel
theorem dX8_odds_1 : decode cX8_odds 1 = .ok (.iconst 0, 1) := by decide +kernel
theorem dX8_odds_2 : decode cX8_odds 2 = .ok (.putfield 1, 3) := by decide +kernel
theorem dX8_odds_5 : decode cX8_odds 5 = .ok (.aload_n 0, 1) := by decide +kernel
theorem dX8_odds_6 : decode cX8_odds 6 = .ok (.iload_n 1, 1) := by decide +kernel
theorem dX8_odds_7 : decode cX8_odds 7 = .ok (.iload_n 2, 1) := by decide +kernel
theorem dX8_odds_8 : decode cX8_odds 8 = .ok (.iload_n 3, 1) := by decide +kernel
theorem dX8_odds_9 : decode cX8_odds 9 = .ok (.invokestatic 374, 3) := by decide +kernel
theorem dX8_odds_12 : decode cX8_odds 12 = .ok (.ifCond .eq 18, 3) := by decide +kernel
theorem dX8_odds_15 : decode cX8_odds 15 = .ok (.iload 4, 2) := by decide +kernel
theorem dX8_odds_17 : decode cX8_odds 17 = .ok (.iconst 1, 1) := by decide +kernel
theorem dX8_odds_18 : decode cX8_odds 18 = .ok (.bipush 20, 2) := by decide +kernel
theorem dX8_odds_20 : decode cX8_odds 20 = .ok (.invokestatic 106, 3) := by decide +kernel
theorem dX8_odds_23 : decode cX8_odds 23 = .ok (.ifCond .eq 7, 3) := by decide +kernel
theorem dX8_odds_26 : decode cX8_odds 26 = .ok (.iconst 1, 1) := by decide +kernel
theorem dX8_odds_27 : decode cX8_odds 27 = .ok (.goto 4, 3) := by decide +kernel
theorem dX8_odds_30 : decode cX8_odds 30 = .ok (.iconst 0, 1) := by decide +kernel
theorem dX8_odds_31 : decode cX8_odds 31 = .ok (.iconst 1, 1) := by decide +kernel
theorem dX8_odds_32 : decode cX8_odds 32 = .ok (.invokevirtual 110, 3) := by decide +kernel
theorem dX8_odds_35 : decode cX8_odds 35 = .ok (.ifCond .ne 5, 3) := by decide +kernel
theorem dX8_odds_38 : decode cX8_odds 38 = .ok (.iconst 0, 1) := by decide +kernel
theorem dX8_odds_39 : decode cX8_odds 39 = .ok (.ireturn, 1) := by decide +kernel
theorem dX8_odds_40 : decode cX8_odds 40 = .ok (.iconst 0, 1) := by decide +kernel
theorem dX8_odds_41 : decode cX8_odds 41 = .ok (.istore 5, 2) := by decide +kernel
theorem dX8_odds_43 : decode cX8_odds 43 = .ok (.iconst 1, 1) := by decide +kernel
theorem dX8_odds_44 : decode cX8_odds 44 = .ok (.istore 6, 2) := by decide +kernel
theorem dX8_odds_46 : decode cX8_odds 46 = .ok (.iload 6, 2) := by decide +kernel
theorem dX8_odds_48 : decode cX8_odds 48 = .ok (.iload 4, 2) := by decide +kernel
theorem dX8_odds_50 : decode cX8_odds 50 = .ok (.if_icmp .gt 72, 3) := by decide +kernel
theorem dX8_odds_53 : decode cX8_odds 53 = .ok (.aload_n 0, 1) := by decide +kernel
theorem dX8_odds_54 : decode cX8_odds 54 = .ok (.invokevirtual 365, 3) := by decide +kernel
theorem dX8_odds_57 : decode cX8_odds 57 = .ok (.aload_n 0, 1) := by decide +kernel
theorem dX8_odds_58 : decode cX8_odds 58 = .ok (.getfield 20, 3) := by decide +kernel
theorem dX8_odds_61 : decode cX8_odds 61 = .ok (.iconst 0, 1) := by decide +kernel
theorem dX8_odds_62 : decode cX8_odds 62 = .ok (.iload 6, 2) := by decide +kernel
theorem dX8_odds_64 : decode cX8_odds 64 = .ok (.iastore, 1) := by decide +kernel
theorem dX8_odds_65 : decode cX8_odds 65 = .ok (.aload_n 0, 1) := by decide +kernel
theorem dX8_odds_66 : decode cX8_odds 66 = .ok (.getfield 20, 3) := by decide +kernel
theorem dX8_odds_69 : decode cX8_odds 69 = .ok (.iconst 1, 1) := by decide +kernel
theorem dX8_odds_70 : decode cX8_odds 70 = .ok (.iload 6, 2) := by decide +kernel
theorem dX8_odds_72 : decode cX8_odds 72 = .ok (.iastore, 1) := by decide +kernel
theorem dX8_odds_73 : decode cX8_odds 73 = .ok (.aload_n 0, 1) := by decide +kernel
theorem dX8_odds_74 : decode cX8_odds 74 = .ok (.iload_n 1, 1) := by decide +kernel
theorem dX8_odds_75 : decode cX8_odds 75 = .ok (.iload_n 2, 1) := by decide +kernel
theorem dX8_odds_76 : decode cX8_odds 76 = .ok (.invokevirtual 368, 3) := by decide +kernel
theorem dX8_odds_79 : decode cX8_odds 79 = .ok (.aload_n 0, 1) := by decide +kernel
theorem dX8_odds_80 : decode cX8_odds 80 = .ok (.iload_n 1, 1) := by decide +kernel
theorem dX8_odds_81 : decode cX8_odds 81 = .ok (.iload_n 3, 1) := by decide +kernel
theorem dX8_odds_82 : decode cX8_odds 82 = .ok (.invokevirtual 353, 3) := by decide +kernel
theorem dX8_odds_85 : decode cX8_odds 85 = .ok (.istore 7, 2) := by decide +kernel
theorem dX8_odds_87 : decode cX8_odds 87 = .ok (.iload 5, 2) := by decide +kernel
theorem dX8_odds_89 : decode cX8_odds 89 = .ok (.iconst 2, 1) := by decide +kernel
theorem dX8_odds_90 : decode cX8_odds 90 = .ok (.iload 7, 2) := by decide +kernel
theorem dX8_odds_92 : decode cX8_odds 92 = .ok (.imul, 1) := by decide +kernel
theorem dX8_odds_93 : decode cX8_odds 93 = .ok (.aload_n 0, 1) := by decide +kernel
theorem dX8_odds_94 : decode cX8_odds 94 = .ok (.getfield 335, 3) := by decide +kernel
theorem dX8_odds_97 : decode cX8_odds 97 = .ok (.if_icmp .lt 7, 3) := by decide +kernel
theorem dX8_odds_100 : decode cX8_odds 100 = .ok (.iconst 1, 1) := by decide +kernel
theorem dX8_odds_101 : decode cX8_odds 101 = .ok (.goto 4, 3) := by decide +kernel
theorem dX8_odds_104 : decode cX8_odds 104 = .ok (.iconst 0, 1) := by decide +kernel
theorem dX8_odds_105 : decode cX8_odds 105 = .ok (.iadd, 1) := by decide +kernel
theorem dX8_odds_106 : decode cX8_odds 106 = .ok (.istore 5, 2) := by decide +kernel
theorem dX8_odds_108 : decode cX8_odds 108 = .ok (.aload_n 0, 1) := by decide +kernel
theorem dX8_odds_109 : decode cX8_odds 109 = .ok (.aload_n 0, 1) := by decide +kernel
theorem dX8_odds_110 : decode cX8_odds 110 = .ok (.getfield 13, 3) := by decide +kernel
theorem dX8_odds_113 : decode cX8_odds 113 = .ok (.putfield 20, 3) := by decide +kernel
theorem dX8_odds_116 : decode cX8_odds 116 = .ok (.iinc 6 1, 3) := by decide +kernel
theorem dX8_odds_119 : decode cX8_odds 119 = .ok (.goto (-73), 3) := by decide +kernel
theorem dX8_odds_122 : decode cX8_odds 122 = .ok (.iload 5, 2) := by decide +kernel
theorem dX8_odds_124 : decode cX8_odds 124 = .ok (.ireturn, 1) := by decide +kernel
theorem dX8_right_0 : decode cX8_right 0 = .ok (.aload_n 0, 1) := by decide +kernel
theorem dX8_right_1 : decode cX8_right 1 = .ok (.iconst 0, 1) := by decide +kernel
theorem dX8_right_2 : decode cX8_right 2 = .ok (.putfield 1, 3) := by decide +kernel
theorem dX8_right_5 : decode cX8_right 5 = .ok (.aload_n 0, 1) := by decide +kernel
theorem dX8_right_6 : decode cX8_right 6 = .ok (.iload_n 1, 1) := by decide +kernel
theorem dX8_right_7 : decode cX8_right 7 = .ok (.invokevirtual 125, 3) := by decide +kernel
theorem dX8_right_10 : decode cX8_right 10 = .ok (.ifCond .eq 21, 3) := by decide +kernel
theorem dX8_right_13 : decode cX8_right 13 = .ok (.aload_n 0, 1) := by decide +kernel
theorem dX8_right_14 : decode cX8_right 14 = .ok (.iload_n 2, 1) := by decide +kernel
theorem dX8_right_15 : decode cX8_right 15 = .ok (.iload_n 3, 1) := by decide +kernel
theorem dX8_right_16 : decode cX8_right 16 = .ok (.if_icmp .gt 7, 3) := by decide +kernel
theorem dX8_right_19 : decode cX8_right 19 = .ok (.iconst 1, 1) := by decide +kernel
theorem dX8_right_20 : decode cX8_right 20 = .ok (.goto 4, 3) := by decide +kernel
theorem dX8_right_23 : decode cX8_right 23 = .ok (.iconst 0, 1) := by decide +kernel
theorem dX8_right_24 : decode cX8_right 24 = .ok (.iconst 2, 1) := by decide +kernel
theorem dX8_right_25 : decode cX8_right 25 = .ok (.invokevirtual 110, 3) := by decide +kernel
theorem dX8_right_28 : decode cX8_right 28 = .ok (.ifCond .ne 5, 3) := by decide +kernel
theorem dX8_right_31 : decode cX8_right 31 = .ok (.iconst 0, 1) := by decide +kernel
theorem dX8_right_32 : decode cX8_right 32 = .ok (.ireturn, 1) := by decide +kernel
theorem dX8_right_33 : decode cX8_right 33 = .ok (.iconst 0, 1) := by decide +kernel
theorem dX8_right_34 : decode cX8_right 34 = .ok (.istore 4, 2) := by decide +kernel
theorem dX8_right_36 : decode cX8_right 36 = .ok (.iconst 0, 1) := by decide +kernel
theorem dX8_right_37 : decode cX8_right 37 = .ok (.istore 5, 2) := by decide +kernel
theorem dX8_right_39 : decode cX8_right 39 = .ok (.iconst 0, 1) := by decide +kernel
theorem dX8_right_40 : decode cX8_right 40 = .ok (.istore 6, 2) := by decide +kernel
theorem dX8_right_42 : decode cX8_right 42 = .ok (.iload 6, 2) := by decide +kernel
theorem dX8_right_44 : decode cX8_right 44 = .ok (.aload_n 0, 1) := by decide +kernel
theorem dX8_right_45 : decode cX8_right 45 = .ok (.getfield 329, 3) := by decide +kernel
theorem dX8_right_48 : decode cX8_right 48 = .ok (.if_icmp .ge 75, 3) := by decide +kernel
theorem dX8_right_51 : decode cX8_right 51 = .ok (.bipush 20, 2) := by decide +kernel
theorem dX8_right_53 : decode cX8_right 53 = .ok (.iload 6, 2) := by decide +kernel
theorem dX8_right_55 : decode cX8_right 55 = .ok (.imul, 1) := by decide +kernel
theorem dX8_right_56 : decode cX8_right 56 = .ok (.istore 7, 2) := by decide +kernel
theorem dX8_right_58 : decode cX8_right 58 = .ok (.iload 6, 2) := by decide +kernel
theorem dX8_right_60 : decode cX8_right 60 = .ok (.iload_n 2, 1) := by decide +kernel
theorem dX8_right_61 : decode cX8_right 61 = .ok (.if_icmp .lt 56, 3) := by decide +kernel
theorem dX8_right_64 : decode cX8_right 64 = .ok (.iload 6, 2) := by decide +kernel
theorem dX8_right_66 : decode cX8_right 66 = .ok (.iload_n 3, 1) := by decide +kernel
theorem dX8_right_67 : decode cX8_right 67 = .ok (.if_icmp .gt 50, 3) := by decide +kernel
theorem dX8_right_70 : decode cX8_right 70 = .ok (.aload_n 0, 1) := by decide +kernel
theorem dX8_right_71 : decode cX8_right 71 = .ok (.getfield 65, 3) := by decide +kernel
theorem dX8_right_74 : decode cX8_right 74 = .ok (.iload 7, 2) := by decide +kernel
theorem dX8_right_76 : decode cX8_right 76 = .ok (.iconst 1, 1) := by decide +kernel
theorem dX8_right_77 : decode cX8_right 77 = .ok (.iadd, 1) := by decide +kernel
theorem dX8_right_78 : decode cX8_right 78 = .ok (.iaload, 1) := by decide +kernel
theorem dX8_right_79 : decode cX8_right 79 = .ok (.iload_n 1, 1) := by decide +kernel
theorem dX8_right_80 : decode cX8_right 80 = .ok (.if_icmp .eq 19, 3) := by decide +kernel
theorem dX8_right_83 : decode cX8_right 83 = .ok (.aload_n 0, 1) := by decide +kernel
theorem dX8_right_84 : decode cX8_right 84 = .ok (.getfield 65, 3) := by decide +kernel
theorem dX8_right_87 : decode cX8_right 87 = .ok (.iload 7, 2) := by decide +kernel
theorem dX8_right_89 : decode cX8_right 89 = .ok (.iconst 2, 1) := by decide +kernel
theorem dX8_right_90 : decode cX8_right 90 = .ok (.iadd, 1) := by decide +kernel
theorem dX8_right_91 : decode cX8_right 91 = .ok (.iaload, 1) := by decide +kernel
theorem dX8_right_92 : decode cX8_right 92 = .ok (.iload_n 1, 1) := by decide +kernel
theorem dX8_right_93 : decode cX8_right 93 = .ok (.if_icmp .eq 6, 3) := by decide +kernel
theorem dX8_right_96 : decode cX8_right 96 = .ok (.goto 21, 3) := by decide +kernel
theorem dX8_right_99 : decode cX8_right 99 = .ok (.iconst 1, 1) := by decide +kernel
theorem dX8_right_100 : decode cX8_right 100 = .ok (.istore 5, 2) := by decide +kernel
theorem dX8_right_102 : decode cX8_right 102 = .ok (.iload 4, 2) := by decide +kernel
theorem dX8_right_104 : decode cX8_right 104 = .ok (.aload_n 0, 1) := by decide +kernel
theorem dX8_right_105 : decode cX8_right 105 = .ok (.getfield 65, 3) := by decide +kernel
theorem dX8_right_108 : decode cX8_right 108 = .ok (.iload 7, 2) := by decide +kernel
theorem dX8_right_110 : decode cX8_right 110 = .ok (.bipush 14, 2) := by decide +kernel
theorem dX8_right_112 : decode cX8_right 112 = .ok (.iadd, 1) := by decide +kernel
theorem dX8_right_113 : decode cX8_right 113 = .ok (.iaload, 1) := by decide +kernel
theorem dX8_right_114 : decode cX8_right 114 = .ok (.iadd, 1) := by decide +kernel
theorem dX8_right_115 : decode cX8_right 115 = .ok (.istore 4, 2) := by decide +kernel
theorem dX8_right_117 : decode cX8_right 117 = .ok (.iinc 6 1, 3) := by decide +kernel
theorem dX8_right_120 : decode cX8_right 120 = .ok (.goto (-78), 3) := by decide +kernel
theorem dX8_right_123 : decode cX8_right 123 = .ok (.iload 5, 2) := by decide +kernel
theorem dX8_right_125 : decode cX8_right 125 = .ok (.ifCond .eq 8, 3) := by decide +kernel
theorem dX8_right_128 : decode cX8_right 128 = .ok (.iload 4, 2) := by decide +kernel
theorem dX8_right_130 : decode cX8_right 130 = .ok (.goto 4, 3) := by decide +kernel
theorem dX8_right_133 : decode cX8_right 133 = .ok (.iconst (-1), 1) := by decide +kernel
theorem dX8_right_134 : decode cX8_right 134 = .ok (.ireturn, 1) := by decide +kernel
theorem dX8_image_0 : decode cX8_image 0 = .ok (.aload_n 0, 1) := by decide +kernel
theorem dX8_image_1 : decode cX8_image 1 = .ok (.iconst 0, 1) := by decide +kernel
theorem dX8_image_2 : decode cX8_image 2 = .ok (.putfield 1, 3) := by decide +kernel
theorem dX8_image_5 : decode cX8_image 5 = .ok (.aload_n 0, 1) := by decide +kernel
theorem dX8_image_6 : decode cX8_image 6 = .ok (.getfield 389, 3) := by decide +kernel
theorem dX8_image_9 : decode cX8_image 9 = .ok (.iconst 4, 1) := by decide +kernel
theorem dX8_image_10 : decode cX8_image 10 = .ok (.if_icmp .ne 5, 3) := by decide +kernel
theorem dX8_image_13 : decode cX8_image 13 = .ok (.iconst (-1), 1) := by decide +kernel
theorem dX8_image_14 : decode cX8_image 14 = .ok (.ireturn, 1) := by decide +kernel
theorem dX8_image_15 : decode cX8_image 15 = .ok (.iconst 0, 1) := by decide +kernel
theorem dX8_image_16 : decode cX8_image 16 = .ok (.istore_n 1, 1) := by decide +kernel
theorem dX8_image_17 : decode cX8_image 17 = .ok (.iload_n 1, 1) := by decide +kernel
theorem dX8_image_18 : decode cX8_image 18 = .ok (.sipush 3464, 3) := by decide +kernel
theorem dX8_image_21 : decode cX8_image 21 = .ok (.if_icmp .ge 30, 3) := by decide +kernel
theorem dX8_image_24 : decode cX8_image 24 = .ok (.aload_n 0, 1) := by decide +kernel
theorem dX8_image_25 : decode cX8_image 25 = .ok (.getfield 102, 3) := by decide +kernel
theorem dX8_image_28 : decode cX8_image 28 = .ok (.sipush 3464, 3) := by decide +kernel
theorem dX8_image_31 : decode cX8_image 31 = .ok (.aload_n 0, 1) := by decide +kernel
theorem dX8_image_32 : decode cX8_image 32 = .ok (.getfield 389, 3) := by decide +kernel
theorem dX8_image_35 : decode cX8_image 35 = .ok (.imul, 1) := by decide +kernel
theorem dX8_image_36 : decode cX8_image 36 = .ok (.iload_n 1, 1) := by decide +kernel
theorem dX8_image_37 : decode cX8_image 37 = .ok (.iadd, 1) := by decide +kernel
theorem dX8_image_38 : decode cX8_image 38 = .ok (.aload_n 0, 1) := by decide +kernel
theorem dX8_image_39 : decode cX8_image 39 = .ok (.getfield 13, 3) := by decide +kernel
theorem dX8_image_42 : decode cX8_image 42 = .ok (.iload_n 1, 1) := by decide +kernel
theorem dX8_image_43 : decode cX8_image 43 = .ok (.iaload, 1) := by decide +kernel
theorem dX8_image_44 : decode cX8_image 44 = .ok (.iastore, 1) := by decide +kernel
theorem dX8_image_45 : decode cX8_image 45 = .ok (.iinc 1 1, 3) := by decide +kernel
theorem dX8_image_48 : decode cX8_image 48 = .ok (.goto (-31), 3) := by decide +kernel
theorem dX8_image_51 : decode cX8_image 51 = .ok (.aload_n 0, 1) := by decide +kernel
theorem dX8_image_52 : decode cX8_image 52 = .ok (.dup, 1) := by decide +kernel
theorem dX8_image_53 : decode cX8_image 53 = .ok (.getfield 389, 3) := by decide +kernel
theorem dX8_image_56 : decode cX8_image 56 = .ok (.iconst 1, 1) := by decide +kernel
theorem dX8_image_57 : decode cX8_image 57 = .ok (.iadd, 1) := by decide +kernel
theorem dX8_image_58 : decode cX8_image 58 = .ok (.putfield 389, 3) := by decide +kernel
theorem dX8_image_61 : decode cX8_image 61 = .ok (.aload_n 0, 1) := by decide +kernel
theorem dX8_image_62 : decode cX8_image 62 = .ok (.getfield 389, 3) := by decide +kernel
theorem dX8_image_65 : decode cX8_image 65 = .ok (.ireturn, 1) := by decide +kernel
theorem dX8_restore_0 : decode cX8_restore 0 = .ok (.aload_n 0, 1) := by decide +kernel
theorem dX8_restore_1 : decode cX8_restore 1 = .ok (.iconst 0, 1) := by decide +kernel
theorem dX8_restore_2 : decode cX8_restore 2 = .ok (.putfield 1, 3) := by decide +kernel
theorem dX8_restore_5 : decode cX8_restore 5 = .ok (.aload_n 0, 1) := by decide +kernel
theorem dX8_restore_6 : decode cX8_restore 6 = .ok (.getfield 389, 3) := by decide +kernel
theorem dX8_restore_9 : decode cX8_restore 9 = .ok (.ifCond .ne 5, 3) := by decide +kernel
theorem dX8_restore_12 : decode cX8_restore 12 = .ok (.iconst (-1), 1) := by decide +kernel
theorem dX8_restore_13 : decode cX8_restore 13 = .ok (.ireturn, 1) := by decide +kernel
theorem dX8_restore_14 : decode cX8_restore 14 = .ok (.aload_n 0, 1) := by decide +kernel
theorem dX8_restore_15 : decode cX8_restore 15 = .ok (.dup, 1) := by decide +kernel
theorem dX8_restore_16 : decode cX8_restore 16 = .ok (.getfield 389, 3) := by decide +kernel
theorem dX8_restore_19 : decode cX8_restore 19 = .ok (.iconst 1, 1) := by decide +kernel
theorem dX8_restore_20 : decode cX8_restore 20 = .ok (.isub, 1) := by decide +kernel
theorem dX8_restore_21 : decode cX8_restore 21 = .ok (.putfield 389, 3) := by decide +kernel
theorem dX8_restore_24 : decode cX8_restore 24 = .ok (.iconst 0, 1) := by decide +kernel
theorem dX8_restore_25 : decode cX8_restore 25 = .ok (.istore_n 1, 1) := by decide +kernel
theorem dX8_restore_26 : decode cX8_restore 26 = .ok (.iload_n 1, 1) := by decide +kernel
theorem dX8_restore_27 : decode cX8_restore 27 = .ok (.sipush 3464, 3) := by decide +kernel
theorem dX8_restore_30 : decode cX8_restore 30 = .ok (.if_icmp .ge 30, 3) := by decide +kernel
theorem dX8_restore_33 : decode cX8_restore 33 = .ok (.aload_n 0, 1) := by decide +kernel
theorem dX8_restore_34 : decode cX8_restore 34 = .ok (.getfield 13, 3) := by decide +kernel
theorem dX8_restore_37 : decode cX8_restore 37 = .ok (.iload_n 1, 1) := by decide +kernel
theorem dX8_restore_38 : decode cX8_restore 38 = .ok (.aload_n 0, 1) := by decide +kernel
theorem dX8_restore_39 : decode cX8_restore 39 = .ok (.getfield 102, 3) := by decide +kernel
theorem dX8_restore_42 : decode cX8_restore 42 = .ok (.sipush 3464, 3) := by decide +kernel
theorem dX8_restore_45 : decode cX8_restore 45 = .ok (.aload_n 0, 1) := by decide +kernel
theorem dX8_restore_46 : decode cX8_restore 46 = .ok (.getfield 389, 3) := by decide +kernel
theorem dX8_restore_49 : decode cX8_restore 49 = .ok (.imul, 1) := by decide +kernel
theorem dX8_restore_50 : decode cX8_restore 50 = .ok (.iload_n 1, 1) := by decide +kernel
theorem dX8_restore_51 : decode cX8_restore 51 = .ok (.iadd, 1) := by decide +kernel
theorem dX8_restore_52 : decode cX8_restore 52 = .ok (.iaload, 1) := by decide +kernel
theorem dX8_restore_53 : decode cX8_restore 53 = .ok (.iastore, 1) := by decide +kernel
theorem dX8_restore_54 : decode cX8_restore 54 = .ok (.iinc 1 1, 3) := by decide +kernel
theorem dX8_restore_57 : decode cX8_restore 57 = .ok (.goto (-31), 3) := by decide +kernel
theorem dX8_restore_60 : decode cX8_restore 60 = .ok (.aload_n 0, 1) := by decide +kernel
theorem dX8_restore_61 : decode cX8_restore 61 = .ok (.invokevirtual 114, 3) := by decide +kernel
theorem dX8_restore_64 : decode cX8_restore 64 = .ok (.aload_n 0, 1) := by decide +kernel
theorem dX8_restore_65 : decode cX8_restore 65 = .ok (.getfield 389, 3) := by decide +kernel
theorem dX8_restore_68 : decode cX8_restore 68 = .ok (.ireturn, 1) := by decide +kernel
theorem dX8_count_0 : decode cX8_count 0 = .ok (.aload_n 0, 1) := by decide +kernel
theorem dX8_count_1 : decode cX8_count 1 = .ok (.iconst 0, 1) := by decide +kernel
theorem dX8_count_2 : decode cX8_count 2 = .ok (.putfield 1, 3) := by decide +kernel
theorem dX8_count_5 : decode cX8_count 5 = .ok (.iconst 0, 1) := by decide +kernel
theorem dX8_count_6 : decode cX8_count 6 = .ok (.istore_n 2, 1) := by decide +kernel
theorem dX8_count_7 : decode cX8_count 7 = .ok (.iload_n 1, 1) := by decide +kernel
theorem dX8_count_8 : decode cX8_count 8 = .ok (.tableswitch 182 0 11 #[64, 71, 79, 114, 119, 124, 131, 136, 158, 163, 168, 175], 64) := by decide +kernel
theorem dX8_count_72 : decode cX8_count 72 = .ok (.aload_n 0, 1) := by decide +kernel
theorem dX8_count_73 : decode cX8_count 73 = .ok (.getfield 13, 3) := by decide +kernel
theorem dX8_count_76 : decode cX8_count 76 = .ok (.iconst 2, 1) := by decide +kernel
theorem dX8_count_77 : decode cX8_count 77 = .ok (.iaload, 1) := by decide +kernel
theorem dX8_count_78 : decode cX8_count 78 = .ok (.ireturn, 1) := by decide +kernel
theorem dX8_count_79 : decode cX8_count 79 = .ok (.aload_n 0, 1) := by decide +kernel
theorem dX8_count_80 : decode cX8_count 80 = .ok (.getfield 13, 3) := by decide +kernel
theorem dX8_count_83 : decode cX8_count 83 = .ok (.bipush 6, 2) := by decide +kernel
theorem dX8_count_85 : decode cX8_count 85 = .ok (.iaload, 1) := by decide +kernel
theorem dX8_count_86 : decode cX8_count 86 = .ok (.ireturn, 1) := by decide +kernel
theorem dX8_count_87 : decode cX8_count 87 = .ok (.iconst 0, 1) := by decide +kernel
theorem dX8_count_88 : decode cX8_count 88 = .ok (.istore_n 3, 1) := by decide +kernel
theorem dX8_count_89 : decode cX8_count 89 = .ok (.iload_n 3, 1) := by decide +kernel
theorem dX8_count_90 : decode cX8_count 90 = .ok (.aload_n 0, 1) := by decide +kernel
theorem dX8_count_91 : decode cX8_count 91 = .ok (.getfield 13, 3) := by decide +kernel
theorem dX8_count_94 : decode cX8_count 94 = .ok (.bipush 6, 2) := by decide +kernel
theorem dX8_count_96 : decode cX8_count 96 = .ok (.iaload, 1) := by decide +kernel
theorem dX8_count_97 : decode cX8_count 97 = .ok (.if_icmp .ge 23, 3) := by decide +kernel
theorem dX8_count_100 : decode cX8_count 100 = .ok (.iload_n 2, 1) := by decide +kernel
theorem dX8_count_101 : decode cX8_count 101 = .ok (.aload_n 0, 1) := by decide +kernel
theorem dX8_count_102 : decode cX8_count 102 = .ok (.getfield 13, 3) := by decide +kernel
theorem dX8_count_105 : decode cX8_count 105 = .ok (.iload_n 3, 1) := by decide +kernel
theorem dX8_count_106 : decode cX8_count 106 = .ok (.invokestatic 121, 3) := by decide +kernel
theorem dX8_count_109 : decode cX8_count 109 = .ok (.iconst 3, 1) := by decide +kernel
theorem dX8_count_110 : decode cX8_count 110 = .ok (.iadd, 1) := by decide +kernel
theorem dX8_count_111 : decode cX8_count 111 = .ok (.iaload, 1) := by decide +kernel
theorem dX8_count_112 : decode cX8_count 112 = .ok (.iadd, 1) := by decide +kernel
theorem dX8_count_113 : decode cX8_count 113 = .ok (.istore_n 2, 1) := by decide +kernel
theorem dX8_count_114 : decode cX8_count 114 = .ok (.iinc 3 1, 3) := by decide +kernel
theorem dX8_count_117 : decode cX8_count 117 = .ok (.goto (-28), 3) := by decide +kernel
theorem dX8_count_120 : decode cX8_count 120 = .ok (.iload_n 2, 1) := by decide +kernel
theorem dX8_count_121 : decode cX8_count 121 = .ok (.ireturn, 1) := by decide +kernel
theorem dX8_count_122 : decode cX8_count 122 = .ok (.aload_n 0, 1) := by decide +kernel
theorem dX8_count_123 : decode cX8_count 123 = .ok (.getfield 329, 3) := by decide +kernel
theorem dX8_count_126 : decode cX8_count 126 = .ok (.ireturn, 1) := by decide +kernel
theorem dX8_count_127 : decode cX8_count 127 = .ok (.aload_n 0, 1) := by decide +kernel
theorem dX8_count_128 : decode cX8_count 128 = .ok (.getfield 168, 3) := by decide +kernel
theorem dX8_count_131 : decode cX8_count 131 = .ok (.ireturn, 1) := by decide +kernel
theorem dX8_count_132 : decode cX8_count 132 = .ok (.aload_n 0, 1) := by decide +kernel
theorem dX8_count_133 : decode cX8_count 133 = .ok (.getfield 13, 3) := by decide +kernel
theorem dX8_count_136 : decode cX8_count 136 = .ok (.iconst 5, 1) := by decide +kernel
theorem dX8_count_137 : decode cX8_count 137 = .ok (.iaload, 1) := by decide +kernel
theorem dX8_count_138 : decode cX8_count 138 = .ok (.ireturn, 1) := by decide +kernel
theorem dX8_count_139 : decode cX8_count 139 = .ok (.aload_n 0, 1) := by decide +kernel
theorem dX8_count_140 : decode cX8_count 140 = .ok (.getfield 356, 3) := by decide +kernel
theorem dX8_count_143 : decode cX8_count 143 = .ok (.ireturn, 1) := by decide +kernel
theorem dX8_count_144 : decode cX8_count 144 = .ok (.aload_n 0, 1) := by decide +kernel
theorem dX8_count_145 : decode cX8_count 145 = .ok (.getfield 77, 3) := by decide +kernel
theorem dX8_count_148 : decode cX8_count 148 = .ok (.iconst (-1), 1) := by decide +kernel
theorem dX8_count_149 : decode cX8_count 149 = .ok (.if_icmp .ne 7, 3) := by decide +kernel
theorem dX8_count_152 : decode cX8_count 152 = .ok (.iconst (-1), 1) := by decide +kernel
theorem dX8_count_153 : decode cX8_count 153 = .ok (.goto 12, 3) := by decide +kernel
theorem dX8_count_156 : decode cX8_count 156 = .ok (.aload_n 0, 1) := by decide +kernel
theorem dX8_count_157 : decode cX8_count 157 = .ok (.getfield 83, 3) := by decide +kernel
theorem dX8_count_160 : decode cX8_count 160 = .ok (.aload_n 0, 1) := by decide +kernel
theorem dX8_count_161 : decode cX8_count 161 = .ok (.getfield 77, 3) := by decide +kernel
theorem dX8_count_164 : decode cX8_count 164 = .ok (.iaload, 1) := by decide +kernel
theorem dX8_count_165 : decode cX8_count 165 = .ok (.ireturn, 1) := by decide +kernel
theorem dX8_count_166 : decode cX8_count 166 = .ok (.aload_n 0, 1) := by decide +kernel
theorem dX8_count_167 : decode cX8_count 167 = .ok (.getfield 389, 3) := by decide +kernel
theorem dX8_count_170 : decode cX8_count 170 = .ok (.ireturn, 1) := by decide +kernel
theorem dX8_count_171 : decode cX8_count 171 = .ok (.aload_n 0, 1) := by decide +kernel
theorem dX8_count_172 : decode cX8_count 172 = .ok (.getfield 135, 3) := by decide +kernel
theorem dX8_count_175 : decode cX8_count 175 = .ok (.ireturn, 1) := by decide +kernel
theorem dX8_count_176 : decode cX8_count 176 = .ok (.aload_n 0, 1) := by decide +kernel
theorem dX8_count_177 : decode cX8_count 177 = .ok (.getfield 13, 3) := by decide +kernel
theorem dX8_count_180 : decode cX8_count 180 = .ok (.iconst 1, 1) := by decide +kernel
theorem dX8_count_181 : decode cX8_count 181 = .ok (.iaload, 1) := by decide +kernel
theorem dX8_count_182 : decode cX8_count 182 = .ok (.ireturn, 1) := by decide +kernel
theorem dX8_count_183 : decode cX8_count 183 = .ok (.aload_n 0, 1) := by decide +kernel
theorem dX8_count_184 : decode cX8_count 184 = .ok (.getfield 13, 3) := by decide +kernel
theorem dX8_count_187 : decode cX8_count 187 = .ok (.iconst 0, 1) := by decide +kernel
theorem dX8_count_188 : decode cX8_count 188 = .ok (.iaload, 1) := by decide +kernel
theorem dX8_count_189 : decode cX8_count 189 = .ok (.ireturn, 1) := by decide +kernel
theorem dX8_count_190 : decode cX8_count 190 = .ok (.iconst (-1), 1) := by decide +kernel
theorem dX8_count_191 : decode cX8_count 191 = .ok (.ireturn, 1) := by decide +kernel
