theorem dX11_canWeigh_0 : decode cX11_canWeigh 0 = .ok (.aload_n 0, 1) := by decide +kernel
theorem dX11_canWeigh_1 : decode cX11_canWeigh 1 = .ok (.iconst 2, 1) := by decide +kernel
theorem dX11_canWeigh_2 : decode cX11_canWeigh 2 = .ok (.iload_n 1, 1) := by decide +kernel
theorem dX11_canWeigh_3 : decode cX11_canWeigh 3 = .ok (.invokevirtual 366, 3) := by decide +kernel
theorem dX11_canWeigh_6 : decode cX11_canWeigh 6 = .ok (.ifCond .eq 34, 3) := by decide +kernel
theorem dX11_canWeigh_9 : decode cX11_canWeigh 9 = .ok (.aload_n 0, 1) := by decide +kernel
theorem dX11_canWeigh_10 : decode cX11_canWeigh 10 = .ok (.iconst 1, 1) := by decide +kernel
theorem dX11_canWeigh_11 : decode cX11_canWeigh 11 = .ok (.iload_n 2, 1) := by decide +kernel
theorem dX11_canWeigh_12 : decode cX11_canWeigh 12 = .ok (.invokevirtual 366, 3) := by decide +kernel
theorem dX11_canWeigh_15 : decode cX11_canWeigh 15 = .ok (.ifCond .eq 25, 3) := by decide +kernel
theorem dX11_canWeigh_18 : decode cX11_canWeigh 18 = .ok (.aload_n 0, 1) := by decide +kernel
theorem dX11_canWeigh_19 : decode cX11_canWeigh 19 = .ok (.iload_n 3, 1) := by decide +kernel
theorem dX11_canWeigh_20 : decode cX11_canWeigh 20 = .ok (.invokevirtual 108, 3) := by decide +kernel
theorem dX11_canWeigh_23 : decode cX11_canWeigh 23 = .ok (.ifCond .eq 17, 3) := by decide +kernel
theorem dX11_canWeigh_26 : decode cX11_canWeigh 26 = .ok (.aload_n 0, 1) := by decide +kernel
theorem dX11_canWeigh_27 : decode cX11_canWeigh 27 = .ok (.iload_n 1, 1) := by decide +kernel
theorem dX11_canWeigh_28 : decode cX11_canWeigh 28 = .ok (.iload_n 2, 1) := by decide +kernel
theorem dX11_canWeigh_29 : decode cX11_canWeigh 29 = .ok (.iload_n 3, 1) := by decide +kernel
theorem dX11_canWeigh_30 : decode cX11_canWeigh 30 = .ok (.invokevirtual 543, 3) := by decide +kernel
theorem dX11_canWeigh_33 : decode cX11_canWeigh 33 = .ok (.ifCond .eq 7, 3) := by decide +kernel
theorem dX11_canWeigh_36 : decode cX11_canWeigh 36 = .ok (.iconst 1, 1) := by decide +kernel
theorem dX11_canWeigh_37 : decode cX11_canWeigh 37 = .ok (.goto 4, 3) := by decide +kernel
theorem dX11_canWeigh_40 : decode cX11_canWeigh 40 = .ok (.iconst 0, 1) := by decide +kernel
theorem dX11_canWeigh_41 : decode cX11_canWeigh 41 = .ok (.ireturn, 1) := by decide +kernel
theorem dX11_make_0 : decode cX11_make 0 = .ok (.aload_n 0, 1) := by decide +kernel
theorem dX11_make_1 : decode cX11_make 1 = .ok (.iconst 0, 1) := by decide +kernel
theorem dX11_make_2 : decode cX11_make 2 = .ok (.iload_n 1, 1) := by decide +kernel
theorem dX11_make_3 : decode cX11_make 3 = .ok (.invokevirtual 366, 3) := by decide +kernel
theorem dX11_make_6 : decode cX11_make 6 = .ok (.ifCond .eq 38, 3) := by decide +kernel
theorem dX11_make_9 : decode cX11_make 9 = .ok (.aload_n 0, 1) := by decide +kernel
theorem dX11_make_10 : decode cX11_make 10 = .ok (.iload_n 2, 1) := by decide +kernel
theorem dX11_make_11 : decode cX11_make 11 = .ok (.invokevirtual 108, 3) := by decide +kernel
theorem dX11_make_14 : decode cX11_make 14 = .ok (.ifCond .eq 30, 3) := by decide +kernel
theorem dX11_make_17 : decode cX11_make 17 = .ok (.iload_n 3, 1) := by decide +kernel
theorem dX11_make_18 : decode cX11_make 18 = .ok (.ifCond .lt 26, 3) := by decide +kernel
theorem dX11_make_21 : decode cX11_make 21 = .ok (.iload 4, 2) := by decide +kernel
theorem dX11_make_23 : decode cX11_make 23 = .ok (.invokestatic 112, 3) := by decide +kernel
theorem dX11_make_26 : decode cX11_make 26 = .ok (.ifCond .eq 18, 3) := by decide +kernel
theorem dX11_make_29 : decode cX11_make 29 = .ok (.iload 5, 2) := by decide +kernel
theorem dX11_make_31 : decode cX11_make 31 = .ok (.invokestatic 112, 3) := by decide +kernel
theorem dX11_make_34 : decode cX11_make 34 = .ok (.ifCond .eq 10, 3) := by decide +kernel
theorem dX11_make_37 : decode cX11_make 37 = .ok (.iload 5, 2) := by decide +kernel
theorem dX11_make_39 : decode cX11_make 39 = .ok (.iload 4, 2) := by decide +kernel
theorem dX11_make_41 : decode cX11_make 41 = .ok (.if_icmp .ge 5, 3) := by decide +kernel
theorem dX11_make_44 : decode cX11_make 44 = .ok (.iconst (-1), 1) := by decide +kernel
theorem dX11_make_45 : decode cX11_make 45 = .ok (.ireturn, 1) := by decide +kernel
theorem dX11_make_46 : decode cX11_make 46 = .ok (.iload_n 3, 1) := by decide +kernel
theorem dX11_make_47 : decode cX11_make 47 = .ok (.i2l, 1) := by decide +kernel
theorem dX11_make_48 : decode cX11_make 48 = .ok (.lstore 6, 2) := by decide +kernel
theorem dX11_make_50 : decode cX11_make 50 = .ok (.iload 4, 2) := by decide +kernel
theorem dX11_make_52 : decode cX11_make 52 = .ok (.istore 8, 2) := by decide +kernel
theorem dX11_make_54 : decode cX11_make 54 = .ok (.iload 8, 2) := by decide +kernel
theorem dX11_make_56 : decode cX11_make 56 = .ok (.iload 5, 2) := by decide +kernel
theorem dX11_make_58 : decode cX11_make 58 = .ok (.if_icmp .gt 270, 3) := by decide +kernel
theorem dX11_make_61 : decode cX11_make 61 = .ok (.aload_n 0, 1) := by decide +kernel
theorem dX11_make_62 : decode cX11_make 62 = .ok (.getfield 63, 3) := by decide +kernel
theorem dX11_make_65 : decode cX11_make 65 = .ok (.iconst 0, 1) := by decide +kernel
theorem dX11_make_66 : decode cX11_make 66 = .ok (.iload 8, 2) := by decide +kernel
theorem dX11_make_68 : decode cX11_make 68 = .ok (.i2l, 1) := by decide +kernel
theorem dX11_make_69 : decode cX11_make 69 = .ok (.lastore, 1) := by decide +kernel
theorem dX11_make_70 : decode cX11_make 70 = .ok (.aload_n 0, 1) := by decide +kernel
theorem dX11_make_71 : decode cX11_make 71 = .ok (.getfield 63, 3) := by decide +kernel
theorem dX11_make_74 : decode cX11_make 74 = .ok (.iconst 1, 1) := by decide +kernel
theorem dX11_make_75 : decode cX11_make 75 = .ok (.iload 8, 2) := by decide +kernel
theorem dX11_make_77 : decode cX11_make 77 = .ok (.sipush 150, 3) := by decide +kernel
theorem dX11_make_80 : decode cX11_make 80 = .ok (.idiv, 1) := by decide +kernel
theorem dX11_make_81 : decode cX11_make 81 = .ok (.i2l, 1) := by decide +kernel
theorem dX11_make_82 : decode cX11_make 82 = .ok (.lastore, 1) := by decide +kernel
theorem dX11_make_83 : decode cX11_make 83 = .ok (.aload_n 0, 1) := by decide +kernel
theorem dX11_make_84 : decode cX11_make 84 = .ok (.getfield 63, 3) := by decide +kernel
theorem dX11_make_87 : decode cX11_make 87 = .ok (.iconst 2, 1) := by decide +kernel
theorem dX11_make_88 : decode cX11_make 88 = .ok (.iload_n 2, 1) := by decide +kernel
theorem dX11_make_89 : decode cX11_make 89 = .ok (.i2l, 1) := by decide +kernel
theorem dX11_make_90 : decode cX11_make 90 = .ok (.lastore, 1) := by decide +kernel
theorem dX11_make_91 : decode cX11_make 91 = .ok (.aload_n 0, 1) := by decide +kernel
theorem dX11_make_92 : decode cX11_make 92 = .ok (.getfield 63, 3) := by decide +kernel
theorem dX11_make_95 : decode cX11_make 95 = .ok (.iconst 3, 1) := by decide +kernel
theorem dX11_make_96 : decode cX11_make 96 = .ok (.aload_n 0, 1) := by decide +kernel
theorem dX11_make_97 : decode cX11_make 97 = .ok (.iload_n 2, 1) := by decide +kernel
theorem dX11_make_98 : decode cX11_make 98 = .ok (.iconst 1, 1) := by decide +kernel
theorem dX11_make_99 : decode cX11_make 99 = .ok (.invokevirtual 120, 3) := by decide +kernel
theorem dX11_make_102 : decode cX11_make 102 = .ok (.i2l, 1) := by decide +kernel
theorem dX11_make_103 : decode cX11_make 103 = .ok (.lastore, 1) := by decide +kernel
theorem dX11_make_104 : decode cX11_make 104 = .ok (.aload_n 0, 1) := by decide +kernel
theorem dX11_make_105 : decode cX11_make 105 = .ok (.getfield 63, 3) := by decide +kernel
theorem dX11_make_108 : decode cX11_make 108 = .ok (.iconst 4, 1) := by decide +kernel
theorem dX11_make_109 : decode cX11_make 109 = .ok (.aload_n 0, 1) := by decide +kernel
theorem dX11_make_110 : decode cX11_make 110 = .ok (.iload_n 2, 1) := by decide +kernel
theorem dX11_make_111 : decode cX11_make 111 = .ok (.iconst 0, 1) := by decide +kernel
theorem dX11_make_112 : decode cX11_make 112 = .ok (.invokevirtual 120, 3) := by decide +kernel
theorem dX11_make_115 : decode cX11_make 115 = .ok (.i2l, 1) := by decide +kernel
theorem dX11_make_116 : decode cX11_make 116 = .ok (.lastore, 1) := by decide +kernel
theorem dX11_make_117 : decode cX11_make 117 = .ok (.lconst 0, 1) := by decide +kernel
theorem dX11_make_118 : decode cX11_make 118 = .ok (.lstore 9, 2) := by decide +kernel
theorem dX11_make_120 : decode cX11_make 120 = .ok (.iconst 0, 1) := by decide +kernel
theorem dX11_make_121 : decode cX11_make 121 = .ok (.istore 11, 2) := by decide +kernel
theorem dX11_make_123 : decode cX11_make 123 = .ok (.iload 11, 2) := by decide +kernel
theorem dX11_make_125 : decode cX11_make 125 = .ok (.aload_n 0, 1) := by decide +kernel
theorem dX11_make_126 : decode cX11_make 126 = .ok (.getfield 32, 3) := by decide +kernel
theorem dX11_make_129 : decode cX11_make 129 = .ok (.iload_n 1, 1) := by decide +kernel
theorem dX11_make_130 : decode cX11_make 130 = .ok (.iaload, 1) := by decide +kernel
theorem dX11_make_131 : decode cX11_make 131 = .ok (.if_icmp .ge 19, 3) := by decide +kernel
theorem dX11_make_134 : decode cX11_make 134 = .ok (.aload_n 0, 1) := by decide +kernel
theorem dX11_make_135 : decode cX11_make 135 = .ok (.iload_n 1, 1) := by decide +kernel
theorem dX11_make_136 : decode cX11_make 136 = .ok (.iload 11, 2) := by decide +kernel
theorem dX11_make_138 : decode cX11_make 138 = .ok (.invokevirtual 369, 3) := by decide +kernel
theorem dX11_make_141 : decode cX11_make 141 = .ok (.ifCond .ne 9, 3) := by decide +kernel
theorem dX11_make_144 : decode cX11_make 144 = .ok (.iinc 11 1, 3) := by decide +kernel
theorem dX11_make_147 : decode cX11_make 147 = .ok (.goto (-24), 3) := by decide +kernel
theorem dX11_make_150 : decode cX11_make 150 = .ok (.iload 11, 2) := by decide +kernel
theorem dX11_make_152 : decode cX11_make 152 = .ok (.aload_n 0, 1) := by decide +kernel
theorem dX11_make_153 : decode cX11_make 153 = .ok (.getfield 32, 3) := by decide +kernel
theorem dX11_make_156 : decode cX11_make 156 = .ok (.iload_n 1, 1) := by decide +kernel
theorem dX11_make_157 : decode cX11_make 157 = .ok (.iaload, 1) := by decide +kernel
theorem dX11_make_158 : decode cX11_make 158 = .ok (.if_icmp .ge 21, 3) := by decide +kernel
theorem dX11_make_161 : decode cX11_make 161 = .ok (.aload_n 0, 1) := by decide +kernel
theorem dX11_make_162 : decode cX11_make 162 = .ok (.iload_n 1, 1) := by decide +kernel
theorem dX11_make_163 : decode cX11_make 163 = .ok (.iload 11, 2) := by decide +kernel
theorem dX11_make_165 : decode cX11_make 165 = .ok (.invokevirtual 372, 3) := by decide +kernel
theorem dX11_make_168 : decode cX11_make 168 = .ok (.ldc2_w 376, 3) := by decide +kernel
theorem dX11_make_171 : decode cX11_make 171 = .ok (.ldc2_w 378, 3) := by decide +kernel
theorem dX11_make_174 : decode cX11_make 174 = .ok (.invokestatic 148, 3) := by decide +kernel
theorem dX11_make_177 : decode cX11_make 177 = .ok (.lstore 9, 2) := by decide +kernel
theorem dX11_make_179 : decode cX11_make 179 = .ok (.iconst 0, 1) := by decide +kernel
theorem dX11_make_180 : decode cX11_make 180 = .ok (.istore 12, 2) := by decide +kernel
theorem dX11_make_182 : decode cX11_make 182 = .ok (.iload 12, 2) := by decide +kernel
theorem dX11_make_184 : decode cX11_make 184 = .ok (.aload_n 0, 1) := by decide +kernel
theorem dX11_make_185 : decode cX11_make 185 = .ok (.getfield 7, 3) := by decide +kernel
theorem dX11_make_188 : decode cX11_make 188 = .ok (.iconst 1, 1) := by decide +kernel
theorem dX11_make_189 : decode cX11_make 189 = .ok (.iaload, 1) := by decide +kernel
theorem dX11_make_190 : decode cX11_make 190 = .ok (.if_icmp .ge 54, 3) := by decide +kernel
theorem dX11_make_193 : decode cX11_make 193 = .ok (.aload_n 0, 1) := by decide +kernel
theorem dX11_make_194 : decode cX11_make 194 = .ok (.iload 12, 2) := by decide +kernel
theorem dX11_make_196 : decode cX11_make 196 = .ok (.iconst 0, 1) := by decide +kernel
theorem dX11_make_197 : decode cX11_make 197 = .ok (.invokevirtual 166, 3) := by decide +kernel
theorem dX11_make_200 : decode cX11_make 200 = .ok (.iload_n 2, 1) := by decide +kernel
theorem dX11_make_201 : decode cX11_make 201 = .ok (.if_icmp .ne 37, 3) := by decide +kernel
theorem dX11_make_204 : decode cX11_make 204 = .ok (.aload_n 0, 1) := by decide +kernel
theorem dX11_make_205 : decode cX11_make 205 = .ok (.iload 12, 2) := by decide +kernel
theorem dX11_make_207 : decode cX11_make 207 = .ok (.iconst 5, 1) := by decide +kernel
theorem dX11_make_208 : decode cX11_make 208 = .ok (.invokevirtual 166, 3) := by decide +kernel
theorem dX11_make_211 : decode cX11_make 211 = .ok (.ifCond .ne 27, 3) := by decide +kernel
theorem dX11_make_214 : decode cX11_make 214 = .ok (.aload_n 0, 1) := by decide +kernel
theorem dX11_make_215 : decode cX11_make 215 = .ok (.iload 12, 2) := by decide +kernel
theorem dX11_make_217 : decode cX11_make 217 = .ok (.iload 8, 2) := by decide +kernel
theorem dX11_make_219 : decode cX11_make 219 = .ok (.invokevirtual 380, 3) := by decide +kernel
theorem dX11_make_222 : decode cX11_make 222 = .ok (.ifCond .eq 16, 3) := by decide +kernel
theorem dX11_make_225 : decode cX11_make 225 = .ok (.lload 9, 2) := by decide +kernel
theorem dX11_make_227 : decode cX11_make 227 = .ok (.aload_n 0, 1) := by decide +kernel
theorem dX11_make_228 : decode cX11_make 228 = .ok (.iload 12, 2) := by decide +kernel
theorem dX11_make_230 : decode cX11_make 230 = .ok (.iconst 4, 1) := by decide +kernel
theorem dX11_make_231 : decode cX11_make 231 = .ok (.invokevirtual 166, 3) := by decide +kernel
theorem dX11_make_234 : decode cX11_make 234 = .ok (.i2l, 1) := by decide +kernel
theorem dX11_make_235 : decode cX11_make 235 = .ok (.lsub, 1) := by decide +kernel
theorem dX11_make_236 : decode cX11_make 236 = .ok (.lstore 9, 2) := by decide +kernel
theorem dX11_make_238 : decode cX11_make 238 = .ok (.iinc 12 1, 3) := by decide +kernel
theorem dX11_make_241 : decode cX11_make 241 = .ok (.goto (-59), 3) := by decide +kernel
theorem dX11_make_244 : decode cX11_make 244 = .ok (.lload 6, 2) := by decide +kernel
theorem dX11_make_246 : decode cX11_make 246 = .ok (.ldc2_w 383, 3) := by decide +kernel
theorem dX11_make_249 : decode cX11_make 249 = .ok (.lmul, 1) := by decide +kernel
theorem dX11_make_250 : decode cX11_make 250 = .ok (.ldc2_w 385, 3) := by decide +kernel
theorem dX11_make_253 : decode cX11_make 253 = .ok (.ladd, 1) := by decide +kernel
theorem dX11_make_254 : decode cX11_make 254 = .ok (.ldc2_w 387, 3) := by decide +kernel
theorem dX11_make_257 : decode cX11_make 257 = .ok (.lrem, 1) := by decide +kernel
theorem dX11_make_258 : decode cX11_make 258 = .ok (.lstore 6, 2) := by decide +kernel
theorem dX11_make_260 : decode cX11_make 260 = .ok (.lload 9, 2) := by decide +kernel
theorem dX11_make_262 : decode cX11_make 262 = .ok (.lload 6, 2) := by decide +kernel
theorem dX11_make_264 : decode cX11_make 264 = .ok (.ldc2_w 389, 3) := by decide +kernel
theorem dX11_make_267 : decode cX11_make 267 = .ok (.ldiv, 1) := by decide +kernel
theorem dX11_make_268 : decode cX11_make 268 = .ok (.ldc2_w 160, 3) := by decide +kernel
theorem dX11_make_271 : decode cX11_make 271 = .ok (.aload_n 0, 1) := by decide +kernel
theorem dX11_make_272 : decode cX11_make 272 = .ok (.getfield 35, 3) := by decide +kernel
theorem dX11_make_275 : decode cX11_make 275 = .ok (.iload_n 1, 1) := by decide +kernel
theorem dX11_make_276 : decode cX11_make 276 = .ok (.iaload, 1) := by decide +kernel
theorem dX11_make_277 : decode cX11_make 277 = .ok (.i2l, 1) := by decide +kernel
theorem dX11_make_278 : decode cX11_make 278 = .ok (.lmul, 1) := by decide +kernel
theorem dX11_make_279 : decode cX11_make 279 = .ok (.lconst 1, 1) := by decide +kernel
theorem dX11_make_280 : decode cX11_make 280 = .ok (.ladd, 1) := by decide +kernel
theorem dX11_make_281 : decode cX11_make 281 = .ok (.lrem, 1) := by decide +kernel
theorem dX11_make_282 : decode cX11_make 282 = .ok (.aload_n 0, 1) := by decide +kernel
theorem dX11_make_283 : decode cX11_make 283 = .ok (.getfield 35, 3) := by decide +kernel
theorem dX11_make_286 : decode cX11_make 286 = .ok (.iload_n 1, 1) := by decide +kernel
theorem dX11_make_287 : decode cX11_make 287 = .ok (.iaload, 1) := by decide +kernel
theorem dX11_make_288 : decode cX11_make 288 = .ok (.i2l, 1) := by decide +kernel
theorem dX11_make_289 : decode cX11_make 289 = .ok (.lsub, 1) := by decide +kernel
theorem dX11_make_290 : decode cX11_make 290 = .ok (.ladd, 1) := by decide +kernel
theorem dX11_make_291 : decode cX11_make 291 = .ok (.lstore 9, 2) := by decide +kernel
theorem dX11_make_293 : decode cX11_make 293 = .ok (.aload_n 0, 1) := by decide +kernel
theorem dX11_make_294 : decode cX11_make 294 = .ok (.getfield 7, 3) := by decide +kernel
theorem dX11_make_297 : decode cX11_make 297 = .ok (.sipush 315, 3) := by decide +kernel
theorem dX11_make_300 : decode cX11_make 300 = .ok (.sipush 600, 3) := by decide +kernel
theorem dX11_make_303 : decode cX11_make 303 = .ok (.iload_n 2, 1) := by decide +kernel
theorem dX11_make_304 : decode cX11_make 304 = .ok (.imul, 1) := by decide +kernel
theorem dX11_make_305 : decode cX11_make 305 = .ok (.iadd, 1) := by decide +kernel
theorem dX11_make_306 : decode cX11_make 306 = .ok (.iload 8, 2) := by decide +kernel
theorem dX11_make_308 : decode cX11_make 308 = .ok (.iadd, 1) := by decide +kernel
theorem dX11_make_309 : decode cX11_make 309 = .ok (.lload 9, 2) := by decide +kernel
theorem dX11_make_311 : decode cX11_make 311 = .ok (.ldc2_w 115, 3) := by decide +kernel
theorem dX11_make_314 : decode cX11_make 314 = .ok (.ldc2_w 117, 3) := by decide +kernel
theorem dX11_make_317 : decode cX11_make 317 = .ok (.invokestatic 148, 3) := by decide +kernel
theorem dX11_make_320 : decode cX11_make 320 = .ok (.l2i, 1) := by decide +kernel
theorem dX11_make_321 : decode cX11_make 321 = .ok (.iastore, 1) := by decide +kernel
theorem dX11_make_322 : decode cX11_make 322 = .ok (.iinc 8 1, 3) := by decide +kernel
theorem dX11_make_325 : decode cX11_make 325 = .ok (.goto (-271), 3) := by decide +kernel
theorem dX11_make_328 : decode cX11_make 328 = .ok (.iload 5, 2) := by decide +kernel
theorem dX11_make_330 : decode cX11_make 330 = .ok (.iload 4, 2) := by decide +kernel
theorem dX11_make_332 : decode cX11_make 332 = .ok (.isub, 1) := by decide +kernel
theorem dX11_make_333 : decode cX11_make 333 = .ok (.iconst 1, 1) := by decide +kernel
theorem dX11_make_334 : decode cX11_make 334 = .ok (.iadd, 1) := by decide +kernel
theorem dX11_make_335 : decode cX11_make 335 = .ok (.ireturn, 1) := by decide +kernel
theorem dX11_many_0 : decode cX11_many 0 = .ok (.aload_n 0, 1) := by decide +kernel
theorem dX11_many_1 : decode cX11_many 1 = .ok (.iconst 1, 1) := by decide +kernel
theorem dX11_many_2 : decode cX11_many 2 = .ok (.iload_n 1, 1) := by decide +kernel
theorem dX11_many_3 : decode cX11_many 3 = .ok (.invokevirtual 366, 3) := by decide +kernel
theorem dX11_many_6 : decode cX11_many 6 = .ok (.ifCond .eq 33, 3) := by decide +kernel
theorem dX11_many_9 : decode cX11_many 9 = .ok (.aload_n 0, 1) := by decide +kernel
theorem dX11_many_10 : decode cX11_many 10 = .ok (.iconst 2, 1) := by decide +kernel
theorem dX11_many_11 : decode cX11_many 11 = .ok (.iload_n 2, 1) := by decide +kernel
theorem dX11_many_12 : decode cX11_many 12 = .ok (.invokevirtual 366, 3) := by decide +kernel
theorem dX11_many_15 : decode cX11_many 15 = .ok (.ifCond .eq 24, 3) := by decide +kernel
theorem dX11_many_18 : decode cX11_many 18 = .ok (.iload_n 3, 1) := by decide +kernel
theorem dX11_many_19 : decode cX11_many 19 = .ok (.ifCond .lt 20, 3) := by decide +kernel
theorem dX11_many_22 : decode cX11_many 22 = .ok (.iload 4, 2) := by decide +kernel
theorem dX11_many_24 : decode cX11_many 24 = .ok (.iload_n 3, 1) := by decide +kernel
theorem dX11_many_25 : decode cX11_many 25 = .ok (.if_icmp .lt 14, 3) := by decide +kernel
theorem dX11_many_28 : decode cX11_many 28 = .ok (.iload 5, 2) := by decide +kernel
theorem dX11_many_30 : decode cX11_many 30 = .ok (.i2l, 1) := by decide +kernel
theorem dX11_many_31 : decode cX11_many 31 = .ok (.lconst 0, 1) := by decide +kernel
theorem dX11_many_32 : decode cX11_many 32 = .ok (.lconst 1, 1) := by decide +kernel
theorem dX11_many_33 : decode cX11_many 33 = .ok (.invokestatic 99, 3) := by decide +kernel
theorem dX11_many_36 : decode cX11_many 36 = .ok (.ifCond .ne 5, 3) := by decide +kernel
theorem dX11_many_39 : decode cX11_many 39 = .ok (.iconst (-1), 1) := by decide +kernel
theorem dX11_many_40 : decode cX11_many 40 = .ok (.ireturn, 1) := by decide +kernel
theorem dX11_many_41 : decode cX11_many 41 = .ok (.iconst 0, 1) := by decide +kernel
theorem dX11_many_42 : decode cX11_many 42 = .ok (.istore 6, 2) := by decide +kernel
theorem dX11_many_44 : decode cX11_many 44 = .ok (.iconst 0, 1) := by decide +kernel
theorem dX11_many_45 : decode cX11_many 45 = .ok (.istore 7, 2) := by decide +kernel
theorem dX11_many_47 : decode cX11_many 47 = .ok (.iload 7, 2) := by decide +kernel
theorem dX11_many_49 : decode cX11_many 49 = .ok (.aload_n 0, 1) := by decide +kernel
theorem dX11_many_50 : decode cX11_many 50 = .ok (.getfield 7, 3) := by decide +kernel
theorem dX11_many_53 : decode cX11_many 53 = .ok (.iconst 0, 1) := by decide +kernel
theorem dX11_many_54 : decode cX11_many 54 = .ok (.iaload, 1) := by decide +kernel
theorem dX11_many_55 : decode cX11_many 55 = .ok (.if_icmp .ge 84, 3) := by decide +kernel
theorem dX11_many_58 : decode cX11_many 58 = .ok (.aload_n 0, 1) := by decide +kernel
theorem dX11_many_59 : decode cX11_many 59 = .ok (.iload_n 1, 1) := by decide +kernel
theorem dX11_many_60 : decode cX11_many 60 = .ok (.iload 7, 2) := by decide +kernel
theorem dX11_many_62 : decode cX11_many 62 = .ok (.iload 5, 2) := by decide +kernel
theorem dX11_many_64 : decode cX11_many 64 = .ok (.invokevirtual 487, 3) := by decide +kernel
theorem dX11_many_67 : decode cX11_many 67 = .ok (.ifCond .eq 66, 3) := by decide +kernel
theorem dX11_many_70 : decode cX11_many 70 = .ok (.aload_n 0, 1) := by decide +kernel
theorem dX11_many_71 : decode cX11_many 71 = .ok (.iload_n 1, 1) := by decide +kernel
theorem dX11_many_72 : decode cX11_many 72 = .ok (.invokevirtual 494, 3) := by decide +kernel
theorem dX11_many_75 : decode cX11_many 75 = .ok (.ifCond .eq 58, 3) := by decide +kernel
theorem dX11_many_78 : decode cX11_many 78 = .ok (.aload_n 0, 1) := by decide +kernel
theorem dX11_many_79 : decode cX11_many 79 = .ok (.iload 7, 2) := by decide +kernel
theorem dX11_many_81 : decode cX11_many 81 = .ok (.invokevirtual 558, 3) := by decide +kernel
theorem dX11_many_84 : decode cX11_many 84 = .ok (.i2l, 1) := by decide +kernel
theorem dX11_many_85 : decode cX11_many 85 = .ok (.iload_n 3, 1) := by decide +kernel
theorem dX11_many_86 : decode cX11_many 86 = .ok (.i2l, 1) := by decide +kernel
theorem dX11_many_87 : decode cX11_many 87 = .ok (.iload 4, 2) := by decide +kernel
theorem dX11_many_89 : decode cX11_many 89 = .ok (.i2l, 1) := by decide +kernel
theorem dX11_many_90 : decode cX11_many 90 = .ok (.invokestatic 99, 3) := by decide +kernel
theorem dX11_many_93 : decode cX11_many 93 = .ok (.ifCond .ne 6, 3) := by decide +kernel
theorem dX11_many_96 : decode cX11_many 96 = .ok (.goto 37, 3) := by decide +kernel
theorem dX11_many_99 : decode cX11_many 99 = .ok (.iload 6, 2) := by decide +kernel
theorem dX11_many_101 : decode cX11_many 101 = .ok (.iload 5, 2) := by decide +kernel
theorem dX11_many_103 : decode cX11_many 103 = .ok (.iconst 1, 1) := by decide +kernel
theorem dX11_many_104 : decode cX11_many 104 = .ok (.if_icmp .eq 21, 3) := by decide +kernel
theorem dX11_many_107 : decode cX11_many 107 = .ok (.aload_n 0, 1) := by decide +kernel
theorem dX11_many_108 : decode cX11_many 108 = .ok (.iload_n 2, 1) := by decide +kernel
theorem dX11_many_109 : decode cX11_many 109 = .ok (.iload_n 1, 1) := by decide +kernel
theorem dX11_many_110 : decode cX11_many 110 = .ok (.iload 7, 2) := by decide +kernel
theorem dX11_many_112 : decode cX11_many 112 = .ok (.invokevirtual 543, 3) := by decide +kernel
theorem dX11_many_115 : decode cX11_many 115 = .ok (.ifCond .eq 14, 3) := by decide +kernel
theorem dX11_many_118 : decode cX11_many 118 = .ok (.aload_n 0, 1) := by decide +kernel
theorem dX11_many_119 : decode cX11_many 119 = .ok (.invokevirtual 549, 3) := by decide +kernel
theorem dX11_many_122 : decode cX11_many 122 = .ok (.ifCond .ne 7, 3) := by decide +kernel
theorem dX11_many_125 : decode cX11_many 125 = .ok (.iconst 1, 1) := by decide +kernel
theorem dX11_many_126 : decode cX11_many 126 = .ok (.goto 4, 3) := by decide +kernel
theorem dX11_many_129 : decode cX11_many 129 = .ok (.iconst 0, 1) := by decide +kernel
theorem dX11_many_130 : decode cX11_many 130 = .ok (.iadd, 1) := by decide +kernel
theorem dX11_many_131 : decode cX11_many 131 = .ok (.istore 6, 2) := by decide +kernel
theorem dX11_many_133 : decode cX11_many 133 = .ok (.iinc 7 1, 3) := by decide +kernel
theorem dX11_many_136 : decode cX11_many 136 = .ok (.goto (-89), 3) := by decide +kernel
theorem dX11_many_139 : decode cX11_many 139 = .ok (.iload 6, 2) := by decide +kernel
theorem dX11_many_141 : decode cX11_many 141 = .ok (.ireturn, 1) := by decide +kernel
theorem dX11_odds_0 : decode cX11_odds 0 = .ok (.iload 4, 2) := by decide +kernel
theorem dX11_odds_2 : decode cX11_odds 2 = .ok (.i2l, 1) := by decide +kernel
theorem dX11_odds_3 : decode cX11_odds 3 = .ok (.lconst 0, 1) := by decide +kernel
theorem dX11_odds_4 : decode cX11_odds 4 = .ok (.ldc2_w 422, 3) := by decide +kernel
theorem dX11_odds_7 : decode cX11_odds 7 = .ok (.invokestatic 99, 3) := by decide +kernel
theorem dX11_odds_10 : decode cX11_odds 10 = .ok (.ifCond .eq 24, 3) := by decide +kernel
theorem dX11_odds_13 : decode cX11_odds 13 = .ok (.iload 5, 2) := by decide +kernel
theorem dX11_odds_15 : decode cX11_odds 15 = .ok (.i2l, 1) := by decide +kernel
theorem dX11_odds_16 : decode cX11_odds 16 = .ok (.lconst 0, 1) := by decide +kernel
theorem dX11_odds_17 : decode cX11_odds 17 = .ok (.lconst 1, 1) := by decide +kernel
theorem dX11_odds_18 : decode cX11_odds 18 = .ok (.invokestatic 99, 3) := by decide +kernel
theorem dX11_odds_21 : decode cX11_odds 21 = .ok (.ifCond .eq 13, 3) := by decide +kernel
theorem dX11_odds_24 : decode cX11_odds 24 = .ok (.aload_n 0, 1) := by decide +kernel
theorem dX11_odds_25 : decode cX11_odds 25 = .ok (.iload_n 1, 1) := by decide +kernel
theorem dX11_odds_26 : decode cX11_odds 26 = .ok (.iload_n 2, 1) := by decide +kernel
theorem dX11_odds_27 : decode cX11_odds 27 = .ok (.iload_n 3, 1) := by decide +kernel
theorem dX11_odds_28 : decode cX11_odds 28 = .ok (.invokevirtual 546, 3) := by decide +kernel
theorem dX11_odds_31 : decode cX11_odds 31 = .ok (.ifCond .ne 5, 3) := by decide +kernel
theorem dX11_odds_34 : decode cX11_odds 34 = .ok (.iconst (-1), 1) := by decide +kernel
theorem dX11_odds_35 : decode cX11_odds 35 = .ok (.ireturn, 1) := by decide +kernel
theorem dX11_odds_36 : decode cX11_odds 36 = .ok (.aload_n 0, 1) := by decide +kernel
theorem dX11_odds_37 : decode cX11_odds 37 = .ok (.getfield 87, 3) := by decide +kernel
theorem dX11_odds_40 : decode cX11_odds 40 = .ok (.iconst 0, 1) := by decide +kernel
theorem dX11_odds_41 : decode cX11_odds 41 = .ok (.iaload, 1) := by decide +kernel
theorem dX11_odds_42 : decode cX11_odds 42 = .ok (.aload_n 0, 1) := by decide +kernel
theorem dX11_odds_43 : decode cX11_odds 43 = .ok (.getfield 87, 3) := by decide +kernel
theorem dX11_odds_46 : decode cX11_odds 46 = .ok (.iconst 1, 1) := by decide +kernel
theorem dX11_odds_47 : decode cX11_odds 47 = .ok (.iaload, 1) := by decide +kernel
theorem dX11_odds_48 : decode cX11_odds 48 = .ok (.iadd, 1) := by decide +kernel
theorem dX11_odds_49 : decode cX11_odds 49 = .ok (.aload_n 0, 1) := by decide +kernel
theorem dX11_odds_50 : decode cX11_odds 50 = .ok (.getfield 87, 3) := by decide +kernel
theorem dX11_odds_53 : decode cX11_odds 53 = .ok (.iconst 2, 1) := by decide +kernel
theorem dX11_odds_54 : decode cX11_odds 54 = .ok (.iaload, 1) := by decide +kernel
theorem dX11_odds_55 : decode cX11_odds 55 = .ok (.iadd, 1) := by decide +kernel
theorem dX11_odds_56 : decode cX11_odds 56 = .ok (.aload_n 0, 1) := by decide +kernel
theorem dX11_odds_57 : decode cX11_odds 57 = .ok (.getfield 87, 3) := by decide +kernel
theorem dX11_odds_60 : decode cX11_odds 60 = .ok (.iconst 3, 1) := by decide +kernel
theorem dX11_odds_61 : decode cX11_odds 61 = .ok (.iaload, 1) := by decide +kernel
theorem dX11_odds_62 : decode cX11_odds 62 = .ok (.iadd, 1) := by decide +kernel
theorem dX11_odds_63 : decode cX11_odds 63 = .ok (.aload_n 0, 1) := by decide +kernel
theorem dX11_odds_64 : decode cX11_odds 64 = .ok (.getfield 87, 3) := by decide +kernel
theorem dX11_odds_67 : decode cX11_odds 67 = .ok (.iconst 4, 1) := by decide +kernel
theorem dX11_odds_68 : decode cX11_odds 68 = .ok (.iaload, 1) := by decide +kernel
theorem dX11_odds_69 : decode cX11_odds 69 = .ok (.iadd, 1) := by decide +kernel
theorem dX11_odds_70 : decode cX11_odds 70 = .ok (.istore 6, 2) := by decide +kernel
theorem dX11_odds_72 : decode cX11_odds 72 = .ok (.iload 6, 2) := by decide +kernel
theorem dX11_odds_74 : decode cX11_odds 74 = .ok (.ifCond .ne 5, 3) := by decide +kernel
theorem dX11_odds_77 : decode cX11_odds 77 = .ok (.iconst 0, 1) := by decide +kernel
theorem dX11_odds_78 : decode cX11_odds 78 = .ok (.ireturn, 1) := by decide +kernel
theorem dX11_odds_79 : decode cX11_odds 79 = .ok (.aload_n 0, 1) := by decide +kernel
theorem dX11_odds_80 : decode cX11_odds 80 = .ok (.getfield 87, 3) := by decide +kernel
theorem dX11_odds_83 : decode cX11_odds 83 = .ok (.iload 4, 2) := by decide +kernel
theorem dX11_odds_85 : decode cX11_odds 85 = .ok (.iaload, 1) := by decide +kernel
theorem dX11_odds_86 : decode cX11_odds 86 = .ok (.iload 6, 2) := by decide +kernel
theorem dX11_odds_88 : decode cX11_odds 88 = .ok (.invokestatic 512, 3) := by decide +kernel
theorem dX11_odds_91 : decode cX11_odds 91 = .ok (.istore 7, 2) := by decide +kernel
theorem dX11_odds_93 : decode cX11_odds 93 = .ok (.iload 5, 2) := by decide +kernel
theorem dX11_odds_95 : decode cX11_odds 95 = .ok (.ifCond .ne 13, 3) := by decide +kernel
theorem dX11_odds_98 : decode cX11_odds 98 = .ok (.aload_n 0, 1) := by decide +kernel
theorem dX11_odds_99 : decode cX11_odds 99 = .ok (.getfield 87, 3) := by decide +kernel
theorem dX11_odds_102 : decode cX11_odds 102 = .ok (.iload 4, 2) := by decide +kernel
theorem dX11_odds_104 : decode cX11_odds 104 = .ok (.iaload, 1) := by decide +kernel
theorem dX11_odds_105 : decode cX11_odds 105 = .ok (.goto 5, 3) := by decide +kernel
theorem dX11_odds_108 : decode cX11_odds 108 = .ok (.iload 6, 2) := by decide +kernel
theorem dX11_odds_110 : decode cX11_odds 110 = .ok (.iload 7, 2) := by decide +kernel
theorem dX11_odds_112 : decode cX11_odds 112 = .ok (.idiv, 1) := by decide +kernel
theorem dX11_odds_113 : decode cX11_odds 113 = .ok (.ireturn, 1) := by decide +kernel
theorem dX11_sorted_0 : decode cX11_sorted 0 = .ok (.aload_n 0, 1) := by decide +kernel
theorem dX11_sorted_1 : decode cX11_sorted 1 = .ok (.iload_n 1, 1) := by decide +kernel
theorem dX11_sorted_2 : decode cX11_sorted 2 = .ok (.iload_n 2, 1) := by decide +kernel
theorem dX11_sorted_3 : decode cX11_sorted 3 = .ok (.iload_n 3, 1) := by decide +kernel
theorem dX11_sorted_4 : decode cX11_sorted 4 = .ok (.invokevirtual 546, 3) := by decide +kernel
theorem dX11_sorted_7 : decode cX11_sorted 7 = .ok (.ifCond .eq 10, 3) := by decide +kernel
theorem dX11_sorted_10 : decode cX11_sorted 10 = .ok (.aload_n 0, 1) := by decide +kernel
theorem dX11_sorted_11 : decode cX11_sorted 11 = .ok (.invokevirtual 549, 3) := by decide +kernel
theorem dX11_sorted_14 : decode cX11_sorted 14 = .ok (.goto 4, 3) := by decide +kernel
theorem dX11_sorted_17 : decode cX11_sorted 17 = .ok (.iconst (-1), 1) := by decide +kernel
theorem dX11_sorted_18 : decode cX11_sorted 18 = .ok (.ireturn, 1) := by decide +kernel
theorem dX11_truly_0 : decode cX11_truly 0 = .ok (.aload_n 0, 1) := by decide +kernel
theorem dX11_truly_1 : decode cX11_truly 1 = .ok (.iconst 1, 1) := by decide +kernel
theorem dX11_truly_2 : decode cX11_truly 2 = .ok (.iload_n 1, 1) := by decide +kernel
theorem dX11_truly_3 : decode cX11_truly 3 = .ok (.invokevirtual 366, 3) := by decide +kernel
theorem dX11_truly_6 : decode cX11_truly 6 = .ok (.ifCond .eq 12, 3) := by decide +kernel
theorem dX11_truly_9 : decode cX11_truly 9 = .ok (.aload_n 0, 1) := by decide +kernel
theorem dX11_truly_10 : decode cX11_truly 10 = .ok (.iconst 2, 1) := by decide +kernel
theorem dX11_truly_11 : decode cX11_truly 11 = .ok (.iload_n 2, 1) := by decide +kernel
theorem dX11_truly_12 : decode cX11_truly 12 = .ok (.invokevirtual 366, 3) := by decide +kernel
theorem dX11_truly_15 : decode cX11_truly 15 = .ok (.ifCond .ne 7, 3) := by decide +kernel
theorem dX11_truly_18 : decode cX11_truly 18 = .ok (.ldc2_w 404, 3) := by decide +kernel
theorem dX11_truly_21 : decode cX11_truly 21 = .ok (.lreturn, 1) := by decide +kernel
theorem dX11_truly_22 : decode cX11_truly 22 = .ok (.aload_n 0, 1) := by decide +kernel
theorem dX11_truly_23 : decode cX11_truly 23 = .ok (.iload_n 1, 1) := by decide +kernel
theorem dX11_truly_24 : decode cX11_truly 24 = .ok (.invokevirtual 509, 3) := by decide +kernel
theorem dX11_truly_27 : decode cX11_truly 27 = .ok (.istore_n 3, 1) := by decide +kernel
theorem dX11_truly_28 : decode cX11_truly 28 = .ok (.iload_n 3, 1) := by decide +kernel
theorem dX11_truly_29 : decode cX11_truly 29 = .ok (.ifCond .ne 7, 3) := by decide +kernel
theorem dX11_truly_32 : decode cX11_truly 32 = .ok (.ldc2_w 485, 3) := by decide +kernel
theorem dX11_truly_35 : decode cX11_truly 35 = .ok (.lreturn, 1) := by decide +kernel
theorem dX11_truly_36 : decode cX11_truly 36 = .ok (.lconst 0, 1) := by decide +kernel
theorem dX11_truly_37 : decode cX11_truly 37 = .ok (.lstore 4, 2) := by decide +kernel
theorem dX11_truly_39 : decode cX11_truly 39 = .ok (.ldc2_w 552, 3) := by decide +kernel
theorem dX11_truly_42 : decode cX11_truly 42 = .ok (.aload_n 0, 1) := by decide +kernel
theorem dX11_truly_43 : decode cX11_truly 43 = .ok (.invokevirtual 506, 3) := by decide +kernel
theorem dX11_truly_46 : decode cX11_truly 46 = .ok (.i2l, 1) := by decide +kernel
theorem dX11_truly_47 : decode cX11_truly 47 = .ok (.lmul, 1) := by decide +kernel
theorem dX11_truly_48 : decode cX11_truly 48 = .ok (.lstore 6, 2) := by decide +kernel
theorem dX11_truly_50 : decode cX11_truly 50 = .ok (.iconst 0, 1) := by decide +kernel
theorem dX11_truly_51 : decode cX11_truly 51 = .ok (.istore 8, 2) := by decide +kernel
theorem dX11_truly_53 : decode cX11_truly 53 = .ok (.iload 8, 2) := by decide +kernel
theorem dX11_truly_55 : decode cX11_truly 55 = .ok (.aload_n 0, 1) := by decide +kernel
theorem dX11_truly_56 : decode cX11_truly 56 = .ok (.getfield 7, 3) := by decide +kernel
theorem dX11_truly_59 : decode cX11_truly 59 = .ok (.iconst 0, 1) := by decide +kernel
theorem dX11_truly_60 : decode cX11_truly 60 = .ok (.iaload, 1) := by decide +kernel
theorem dX11_truly_61 : decode cX11_truly 61 = .ok (.if_icmp .ge 68, 3) := by decide +kernel
theorem dX11_truly_64 : decode cX11_truly 64 = .ok (.aload_n 0, 1) := by decide +kernel
theorem dX11_truly_65 : decode cX11_truly 65 = .ok (.iload_n 1, 1) := by decide +kernel
theorem dX11_truly_66 : decode cX11_truly 66 = .ok (.iload 8, 2) := by decide +kernel
theorem dX11_truly_68 : decode cX11_truly 68 = .ok (.iconst 0, 1) := by decide +kernel
theorem dX11_truly_69 : decode cX11_truly 69 = .ok (.invokevirtual 487, 3) := by decide +kernel
theorem dX11_truly_72 : decode cX11_truly 72 = .ok (.ifCond .eq 51, 3) := by decide +kernel
theorem dX11_truly_75 : decode cX11_truly 75 = .ok (.aload_n 0, 1) := by decide +kernel
theorem dX11_truly_76 : decode cX11_truly 76 = .ok (.iload_n 1, 1) := by decide +kernel
theorem dX11_truly_77 : decode cX11_truly 77 = .ok (.invokevirtual 494, 3) := by decide +kernel
theorem dX11_truly_80 : decode cX11_truly 80 = .ok (.ifCond .eq 43, 3) := by decide +kernel
theorem dX11_truly_83 : decode cX11_truly 83 = .ok (.aload_n 0, 1) := by decide +kernel
theorem dX11_truly_84 : decode cX11_truly 84 = .ok (.iload_n 2, 1) := by decide +kernel
theorem dX11_truly_85 : decode cX11_truly 85 = .ok (.iload_n 1, 1) := by decide +kernel
theorem dX11_truly_86 : decode cX11_truly 86 = .ok (.iload 8, 2) := by decide +kernel
theorem dX11_truly_88 : decode cX11_truly 88 = .ok (.invokevirtual 543, 3) := by decide +kernel
theorem dX11_truly_91 : decode cX11_truly 91 = .ok (.ifCond .eq 32, 3) := by decide +kernel
theorem dX11_truly_94 : decode cX11_truly 94 = .ok (.aload_n 0, 1) := by decide +kernel
theorem dX11_truly_95 : decode cX11_truly 95 = .ok (.invokevirtual 549, 3) := by decide +kernel
theorem dX11_truly_98 : decode cX11_truly 98 = .ok (.ifCond .eq 6, 3) := by decide +kernel
theorem dX11_truly_101 : decode cX11_truly 101 = .ok (.goto 22, 3) := by decide +kernel
theorem dX11_truly_104 : decode cX11_truly 104 = .ok (.lload 4, 2) := by decide +kernel
theorem dX11_truly_106 : decode cX11_truly 106 = .ok (.lload 6, 2) := by decide +kernel
theorem dX11_truly_108 : decode cX11_truly 108 = .ok (.aload_n 0, 1) := by decide +kernel
theorem dX11_truly_109 : decode cX11_truly 109 = .ok (.iload 8, 2) := by decide +kernel
theorem dX11_truly_111 : decode cX11_truly 111 = .ok (.iconst 2, 1) := by decide +kernel
theorem dX11_truly_112 : decode cX11_truly 112 = .ok (.invokevirtual 120, 3) := by decide +kernel
theorem dX11_truly_115 : decode cX11_truly 115 = .ok (.i2l, 1) := by decide +kernel
theorem dX11_truly_116 : decode cX11_truly 116 = .ok (.iload_n 3, 1) := by decide +kernel
theorem dX11_truly_117 : decode cX11_truly 117 = .ok (.i2l, 1) := by decide +kernel
theorem dX11_truly_118 : decode cX11_truly 118 = .ok (.lmul, 1) := by decide +kernel
theorem dX11_truly_119 : decode cX11_truly 119 = .ok (.ldiv, 1) := by decide +kernel
theorem dX11_truly_120 : decode cX11_truly 120 = .ok (.ladd, 1) := by decide +kernel
theorem dX11_truly_121 : decode cX11_truly 121 = .ok (.lstore 4, 2) := by decide +kernel
theorem dX11_truly_123 : decode cX11_truly 123 = .ok (.iinc 8 1, 3) := by decide +kernel
theorem dX11_truly_126 : decode cX11_truly 126 = .ok (.goto (-73), 3) := by decide +kernel
theorem dX11_truly_129 : decode cX11_truly 129 = .ok (.lload 4, 2) := by decide +kernel
theorem dX11_truly_131 : decode cX11_truly 131 = .ok (.lreturn, 1) := by decide +kernel
theorem dX11_weighs_0 : decode cX11_weighs 0 = .ok (.aload_n 0, 1) := by decide +kernel
theorem dX11_weighs_1 : decode cX11_weighs 1 = .ok (.iload_n 2, 1) := by decide +kernel
theorem dX11_weighs_2 : decode cX11_weighs 2 = .ok (.iload_n 3, 1) := by decide +kernel
theorem dX11_weighs_3 : decode cX11_weighs 3 = .ok (.iconst 0, 1) := by decide +kernel
theorem dX11_weighs_4 : decode cX11_weighs 4 = .ok (.invokevirtual 487, 3) := by decide +kernel
theorem dX11_weighs_7 : decode cX11_weighs 7 = .ok (.ifCond .ne 5, 3) := by decide +kernel
theorem dX11_weighs_10 : decode cX11_weighs 10 = .ok (.iconst 0, 1) := by decide +kernel
theorem dX11_weighs_11 : decode cX11_weighs 11 = .ok (.ireturn, 1) := by decide +kernel
theorem dX11_weighs_12 : decode cX11_weighs 12 = .ok (.aload_n 0, 1) := by decide +kernel
theorem dX11_weighs_13 : decode cX11_weighs 13 = .ok (.getfield 63, 3) := by decide +kernel
theorem dX11_weighs_16 : decode cX11_weighs 16 = .ok (.iconst 0, 1) := by decide +kernel
theorem dX11_weighs_17 : decode cX11_weighs 17 = .ok (.aload_n 0, 1) := by decide +kernel
theorem dX11_weighs_18 : decode cX11_weighs 18 = .ok (.getfield 458, 3) := by decide +kernel
