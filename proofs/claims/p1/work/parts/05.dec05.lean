theorem dX3_step_78 : decode cX3_step 78 = .ok (.bipush 48, 2) := by decide +kernel
theorem dX3_step_80 : decode cX3_step 80 = .ok (.if_icmp .lt 124, 3) := by decide +kernel
theorem dX3_step_83 : decode cX3_step 83 = .ok (.iload_n 1, 1) := by decide +kernel
theorem dX3_step_84 : decode cX3_step 84 = .ok (.bipush 57, 2) := by decide +kernel
theorem dX3_step_86 : decode cX3_step 86 = .ok (.if_icmp .gt 118, 3) := by decide +kernel
theorem dX3_step_204 : decode cX3_step 204 = .ok (.iload_n 1, 1) := by decide +kernel
theorem dX3_step_205 : decode cX3_step 205 = .ok (.bipush 97, 2) := by decide +kernel
theorem dX3_step_207 : decode cX3_step 207 = .ok (.if_icmp .lt 68, 3) := by decide +kernel
theorem dX3_step_210 : decode cX3_step 210 = .ok (.iload_n 1, 1) := by decide +kernel
theorem dX3_step_211 : decode cX3_step 211 = .ok (.bipush 122, 2) := by decide +kernel
theorem dX3_step_213 : decode cX3_step 213 = .ok (.if_icmp .gt 62, 3) := by decide +kernel
theorem dX3_step_275 : decode cX3_step 275 = .ok (.aload_n 0, 1) := by decide +kernel
theorem dX3_step_276 : decode cX3_step 276 = .ok (.iload_n 1, 1) := by decide +kernel
theorem dX3_step_277 : decode cX3_step 277 = .ok (.putfield 68, 3) := by decide +kernel
theorem dX3_step_280 : decode cX3_step 280 = .ok (.aload_n 0, 1) := by decide +kernel
theorem dX3_step_281 : decode cX3_step 281 = .ok (.dup, 1) := by decide +kernel
theorem dX3_step_282 : decode cX3_step 282 = .ok (.getfield 38, 3) := by decide +kernel
theorem dX3_step_285 : decode cX3_step 285 = .ok (.iload_n 1, 1) := by decide +kernel
theorem dX3_step_286 : decode cX3_step 286 = .ok (.sipush 256, 3) := by decide +kernel
theorem dX3_step_289 : decode cX3_step 289 = .ok (.if_icmp .ne 7, 3) := by decide +kernel
theorem dX3_step_292 : decode cX3_step 292 = .ok (.iconst 0, 1) := by decide +kernel
theorem dX3_step_293 : decode cX3_step 293 = .ok (.goto 4, 3) := by decide +kernel
theorem dX3_step_297 : decode cX3_step 297 = .ok (.iadd, 1) := by decide +kernel
theorem dX3_step_298 : decode cX3_step 298 = .ok (.putfield 38, 3) := by decide +kernel
theorem dX3_step_301 : decode cX3_step 301 = .ok (.aload_n 0, 1) := by decide +kernel
theorem dX3_step_302 : decode cX3_step 302 = .ok (.getfield 38, 3) := by decide +kernel
theorem dX3_step_305 : decode cX3_step 305 = .ok (.aload_n 0, 1) := by decide +kernel
theorem dX3_step_306 : decode cX3_step 306 = .ok (.getfield 34, 3) := by decide +kernel
theorem dX3_step_309 : decode cX3_step 309 = .ok (.if_icmp .ge 21, 3) := by decide +kernel
theorem dX3_step_330 : decode cX3_step 330 = .ok (.iconst 0, 1) := by decide +kernel
theorem dX3_step_331 : decode cX3_step 331 = .ok (.istore_n 2, 1) := by decide +kernel
theorem dX3_step_332 : decode cX3_step 332 = .ok (.iload_n 2, 1) := by decide +kernel
theorem dX3_step_333 : decode cX3_step 333 = .ok (.ifCond .eq 44, 3) := by decide +kernel
theorem dX3_step_377 : decode cX3_step 377 = .ok (.return_, 1) := by decide +kernel
theorem dX3_whichOf_0 : decode cX3_whichOf 0 = .ok (.aload_n 0, 1) := by decide +kernel
theorem dX3_whichOf_1 : decode cX3_whichOf 1 = .ok (.getfield 68, 3) := by decide +kernel
theorem dX3_whichOf_4 : decode cX3_whichOf 4 = .ok (.sipush 258, 3) := by decide +kernel
theorem dX3_whichOf_7 : decode cX3_whichOf 7 = .ok (.if_icmp .eq 5, 3) := by decide +kernel
theorem dX3_whichOf_10 : decode cX3_whichOf 10 = .ok (.iconst (-1), 1) := by decide +kernel
theorem dX3_whichOf_11 : decode cX3_whichOf 11 = .ok (.ireturn, 1) := by decide +kernel
theorem dX4_init_0 : decode cX4_init 0 = .ok (.aload_n 0, 1) := by decide +kernel
theorem dX4_init_1 : decode cX4_init 1 = .ok (.invokespecial 3, 3) := by decide +kernel
theorem dX4_init_4 : decode cX4_init 4 = .ok (.aload_n 0, 1) := by decide +kernel
theorem dX4_init_5 : decode cX4_init 5 = .ok (.bipush 64, 2) := by decide +kernel
theorem dX4_init_7 : decode cX4_init 7 = .ok (.newarray .long, 2) := by decide +kernel
theorem dX4_init_9 : decode cX4_init 9 = .ok (.putfield 9, 3) := by decide +kernel
theorem dX4_init_12 : decode cX4_init 12 = .ok (.return_, 1) := by decide +kernel
theorem dX5_init_0 : decode cX5_init 0 = .ok (.aload_n 0, 1) := by decide +kernel
theorem dX5_init_1 : decode cX5_init 1 = .ok (.invokespecial 3, 3) := by decide +kernel
theorem dX5_init_4 : decode cX5_init 4 = .ok (.aload_n 0, 1) := by decide +kernel
theorem dX5_init_5 : decode cX5_init 5 = .ok (.iconst 5, 1) := by decide +kernel
theorem dX5_init_6 : decode cX5_init 6 = .ok (.newarray .int, 2) := by decide +kernel
theorem dX5_init_8 : decode cX5_init 8 = .ok (.putfield 9, 3) := by decide +kernel
theorem dX5_init_11 : decode cX5_init 11 = .ok (.aload_n 0, 1) := by decide +kernel
theorem dX5_init_12 : decode cX5_init 12 = .ok (.iconst 5, 1) := by decide +kernel
theorem dX5_init_13 : decode cX5_init 13 = .ok (.newarray .long, 2) := by decide +kernel
theorem dX5_init_15 : decode cX5_init 15 = .ok (.putfield 15, 3) := by decide +kernel
theorem dX5_init_18 : decode cX5_init 18 = .ok (.aload_n 0, 1) := by decide +kernel
theorem dX5_init_19 : decode cX5_init 19 = .ok (.iconst 5, 1) := by decide +kernel
theorem dX5_init_20 : decode cX5_init 20 = .ok (.newarray .int, 2) := by decide +kernel
theorem dX5_init_22 : decode cX5_init 22 = .ok (.putfield 19, 3) := by decide +kernel
theorem dX5_init_25 : decode cX5_init 25 = .ok (.aload_n 0, 1) := by decide +kernel
theorem dX5_init_26 : decode cX5_init 26 = .ok (.sipush 302, 3) := by decide +kernel
theorem dX5_init_29 : decode cX5_init 29 = .ok (.newarray .int, 2) := by decide +kernel
theorem dX5_init_31 : decode cX5_init 31 = .ok (.putfield 22, 3) := by decide +kernel
theorem dX5_init_34 : decode cX5_init 34 = .ok (.return_, 1) := by decide +kernel
theorem dX6_addBytes_0 : decode cX6_addBytes 0 = .ok (.bipush 24, 2) := by decide +kernel
theorem dX6_addBytes_2 : decode cX6_addBytes 2 = .ok (.istore_n 2, 1) := by decide +kernel
theorem dX6_addBytes_3 : decode cX6_addBytes 3 = .ok (.iload_n 2, 1) := by decide +kernel
theorem dX6_addBytes_4 : decode cX6_addBytes 4 = .ok (.ifCond .lt 42, 3) := by decide +kernel
theorem dX6_addBytes_7 : decode cX6_addBytes 7 = .ok (.aload_n 0, 1) := by decide +kernel
theorem dX6_addBytes_8 : decode cX6_addBytes 8 = .ok (.getfield 76, 3) := by decide +kernel
theorem dX6_addBytes_11 : decode cX6_addBytes 11 = .ok (.sipush 400, 3) := by decide +kernel
theorem dX6_addBytes_14 : decode cX6_addBytes 14 = .ok (.if_icmp .ge 32, 3) := by decide +kernel
theorem dX6_addBytes_17 : decode cX6_addBytes 17 = .ok (.aload_n 0, 1) := by decide +kernel
theorem dX6_addBytes_18 : decode cX6_addBytes 18 = .ok (.getfield 40, 3) := by decide +kernel
theorem dX6_addBytes_21 : decode cX6_addBytes 21 = .ok (.aload_n 0, 1) := by decide +kernel
theorem dX6_addBytes_22 : decode cX6_addBytes 22 = .ok (.getfield 76, 3) := by decide +kernel
theorem dX6_addBytes_25 : decode cX6_addBytes 25 = .ok (.iload_n 1, 1) := by decide +kernel
theorem dX6_addBytes_26 : decode cX6_addBytes 26 = .ok (.iload_n 2, 1) := by decide +kernel
theorem dX6_addBytes_27 : decode cX6_addBytes 27 = .ok (.iushr, 1) := by decide +kernel
theorem dX6_addBytes_28 : decode cX6_addBytes 28 = .ok (.i2b, 1) := by decide +kernel
theorem dX6_addBytes_29 : decode cX6_addBytes 29 = .ok (.bastore, 1) := by decide +kernel
theorem dX6_addBytes_30 : decode cX6_addBytes 30 = .ok (.aload_n 0, 1) := by decide +kernel
theorem dX6_addBytes_31 : decode cX6_addBytes 31 = .ok (.dup, 1) := by decide +kernel
theorem dX6_addBytes_32 : decode cX6_addBytes 32 = .ok (.getfield 76, 3) := by decide +kernel
theorem dX6_addBytes_35 : decode cX6_addBytes 35 = .ok (.iconst 1, 1) := by decide +kernel
theorem dX6_addBytes_36 : decode cX6_addBytes 36 = .ok (.iadd, 1) := by decide +kernel
theorem dX6_addBytes_37 : decode cX6_addBytes 37 = .ok (.putfield 76, 3) := by decide +kernel
theorem dX6_addBytes_40 : decode cX6_addBytes 40 = .ok (.iinc 2 (-8), 3) := by decide +kernel
theorem dX6_addBytes_43 : decode cX6_addBytes 43 = .ok (.goto (-40), 3) := by decide +kernel
theorem dX6_addBytes_46 : decode cX6_addBytes 46 = .ok (.return_, 1) := by decide +kernel
theorem dX6_addStar_0 : decode cX6_addStar 0 = .ok (.aload_n 0, 1) := by decide +kernel
theorem dX6_addStar_1 : decode cX6_addStar 1 = .ok (.getfield 44, 3) := by decide +kernel
theorem dX6_addStar_4 : decode cX6_addStar 4 = .ok (.bipush 12, 2) := by decide +kernel
theorem dX6_addStar_6 : decode cX6_addStar 6 = .ok (.if_icmp .lt 5, 3) := by decide +kernel
theorem dX6_addStar_11 : decode cX6_addStar 11 = .ok (.aload_n 0, 1) := by decide +kernel
theorem dX6_addStar_12 : decode cX6_addStar 12 = .ok (.aload_n 0, 1) := by decide +kernel
theorem dX6_addStar_13 : decode cX6_addStar 13 = .ok (.getfield 44, 3) := by decide +kernel
theorem dX6_addStar_16 : decode cX6_addStar 16 = .ok (.invokevirtual 68, 3) := by decide +kernel
theorem dX6_addStar_19 : decode cX6_addStar 19 = .ok (.astore 4, 2) := by decide +kernel
theorem dX6_addStar_21 : decode cX6_addStar 21 = .ok (.aload 4, 2) := by decide +kernel
theorem dX6_addStar_23 : decode cX6_addStar 23 = .ok (.iload_n 1, 1) := by decide +kernel
theorem dX6_addStar_24 : decode cX6_addStar 24 = .ok (.iload_n 2, 1) := by decide +kernel
theorem dX6_addStar_25 : decode cX6_addStar 25 = .ok (.iload_n 3, 1) := by decide +kernel
theorem dX6_addStar_26 : decode cX6_addStar 26 = .ok (.invokevirtual 71, 3) := by decide +kernel
theorem dX6_addStar_29 : decode cX6_addStar 29 = .ok (.aload_n 0, 1) := by decide +kernel
theorem dX6_addStar_30 : decode cX6_addStar 30 = .ok (.dup, 1) := by decide +kernel
theorem dX6_addStar_31 : decode cX6_addStar 31 = .ok (.getfield 44, 3) := by decide +kernel
theorem dX6_addStar_34 : decode cX6_addStar 34 = .ok (.iconst 1, 1) := by decide +kernel
theorem dX6_addStar_35 : decode cX6_addStar 35 = .ok (.iadd, 1) := by decide +kernel
theorem dX6_addStar_36 : decode cX6_addStar 36 = .ok (.putfield 44, 3) := by decide +kernel
theorem dX6_addStar_39 : decode cX6_addStar 39 = .ok (.aload_n 0, 1) := by decide +kernel
theorem dX6_addStar_40 : decode cX6_addStar 40 = .ok (.getfield 44, 3) := by decide +kernel
theorem dX6_addStar_43 : decode cX6_addStar 43 = .ok (.iconst 1, 1) := by decide +kernel
theorem dX6_addStar_44 : decode cX6_addStar 44 = .ok (.isub, 1) := by decide +kernel
theorem dX6_addStar_45 : decode cX6_addStar 45 = .ok (.ireturn, 1) := by decide +kernel
theorem dX6_become_0 : decode cX6_become 0 = .ok (.iconst 0, 1) := by decide +kernel
theorem dX6_become_1 : decode cX6_become 1 = .ok (.istore_n 2, 1) := by decide +kernel
theorem dX6_become_2 : decode cX6_become 2 = .ok (.iload_n 2, 1) := by decide +kernel
theorem dX6_become_3 : decode cX6_become 3 = .ok (.aload_n 1, 1) := by decide +kernel
theorem dX6_become_4 : decode cX6_become 4 = .ok (.getfield 44, 3) := by decide +kernel
theorem dX6_become_7 : decode cX6_become 7 = .ok (.if_icmp .ge 34, 3) := by decide +kernel
theorem dX6_become_41 : decode cX6_become 41 = .ok (.iconst 0, 1) := by decide +kernel
theorem dX6_become_42 : decode cX6_become 42 = .ok (.istore_n 2, 1) := by decide +kernel
theorem dX6_become_43 : decode cX6_become 43 = .ok (.iload_n 2, 1) := by decide +kernel
theorem dX6_become_44 : decode cX6_become 44 = .ok (.aload_n 1, 1) := by decide +kernel
theorem dX6_become_45 : decode cX6_become 45 = .ok (.getfield 47, 3) := by decide +kernel
theorem dX6_become_48 : decode cX6_become 48 = .ok (.if_icmp .ge 27, 3) := by decide +kernel
theorem dX6_become_75 : decode cX6_become 75 = .ok (.aload_n 0, 1) := by decide +kernel
theorem dX6_become_76 : decode cX6_become 76 = .ok (.aload_n 1, 1) := by decide +kernel
theorem dX6_become_77 : decode cX6_become 77 = .ok (.getfield 44, 3) := by decide +kernel
theorem dX6_become_80 : decode cX6_become 80 = .ok (.putfield 44, 3) := by decide +kernel
theorem dX6_become_83 : decode cX6_become 83 = .ok (.aload_n 0, 1) := by decide +kernel
theorem dX6_become_84 : decode cX6_become 84 = .ok (.aload_n 1, 1) := by decide +kernel
theorem dX6_become_85 : decode cX6_become 85 = .ok (.getfield 47, 3) := by decide +kernel
theorem dX6_become_88 : decode cX6_become 88 = .ok (.putfield 47, 3) := by decide +kernel
theorem dX6_become_91 : decode cX6_become 91 = .ok (.aload_n 0, 1) := by decide +kernel
theorem dX6_become_92 : decode cX6_become 92 = .ok (.aload_n 1, 1) := by decide +kernel
theorem dX6_become_93 : decode cX6_become 93 = .ok (.getfield 103, 3) := by decide +kernel
theorem dX6_become_96 : decode cX6_become 96 = .ok (.putfield 103, 3) := by decide +kernel
theorem dX6_become_99 : decode cX6_become 99 = .ok (.aload_n 0, 1) := by decide +kernel
theorem dX6_become_100 : decode cX6_become 100 = .ok (.aload_n 1, 1) := by decide +kernel
theorem dX6_become_101 : decode cX6_become 101 = .ok (.getfield 30, 3) := by decide +kernel
theorem dX6_become_104 : decode cX6_become 104 = .ok (.putfield 30, 3) := by decide +kernel
theorem dX6_become_107 : decode cX6_become 107 = .ok (.aload_n 0, 1) := by decide +kernel
theorem dX6_become_108 : decode cX6_become 108 = .ok (.aload_n 1, 1) := by decide +kernel
theorem dX6_become_109 : decode cX6_become 109 = .ok (.getfield 106, 3) := by decide +kernel
theorem dX6_become_112 : decode cX6_become 112 = .ok (.putfield 106, 3) := by decide +kernel
theorem dX6_become_115 : decode cX6_become 115 = .ok (.aload_n 0, 1) := by decide +kernel
theorem dX6_become_116 : decode cX6_become 116 = .ok (.aload_n 1, 1) := by decide +kernel
theorem dX6_become_117 : decode cX6_become 117 = .ok (.getfield 76, 3) := by decide +kernel
theorem dX6_become_120 : decode cX6_become 120 = .ok (.putfield 76, 3) := by decide +kernel
theorem dX6_become_123 : decode cX6_become 123 = .ok (.aload_n 1, 1) := by decide +kernel
theorem dX6_become_124 : decode cX6_become 124 = .ok (.getfield 23, 3) := by decide +kernel
theorem dX6_become_127 : decode cX6_become 127 = .ok (.iconst 0, 1) := by decide +kernel
theorem dX6_become_128 : decode cX6_become 128 = .ok (.aload_n 0, 1) := by decide +kernel
theorem dX6_become_129 : decode cX6_become 129 = .ok (.getfield 23, 3) := by decide +kernel
theorem dX6_become_132 : decode cX6_become 132 = .ok (.iconst 0, 1) := by decide +kernel
theorem dX6_become_133 : decode cX6_become 133 = .ok (.bipush 12, 2) := by decide +kernel
theorem dX6_become_135 : decode cX6_become 135 = .ok (.invokestatic 109, 3) := by decide +kernel
theorem dX6_become_138 : decode cX6_become 138 = .ok (.aload_n 1, 1) := by decide +kernel
theorem dX6_become_139 : decode cX6_become 139 = .ok (.getfield 27, 3) := by decide +kernel
theorem dX6_become_142 : decode cX6_become 142 = .ok (.iconst 0, 1) := by decide +kernel
theorem dX6_become_143 : decode cX6_become 143 = .ok (.aload_n 0, 1) := by decide +kernel
theorem dX6_become_144 : decode cX6_become 144 = .ok (.getfield 27, 3) := by decide +kernel
theorem dX6_become_147 : decode cX6_become 147 = .ok (.iconst 0, 1) := by decide +kernel
theorem dX6_become_148 : decode cX6_become 148 = .ok (.bipush 12, 2) := by decide +kernel
theorem dX6_become_150 : decode cX6_become 150 = .ok (.invokestatic 109, 3) := by decide +kernel
theorem dX6_become_153 : decode cX6_become 153 = .ok (.aload_n 1, 1) := by decide +kernel
theorem dX6_become_154 : decode cX6_become 154 = .ok (.getfield 34, 3) := by decide +kernel
theorem dX6_become_157 : decode cX6_become 157 = .ok (.iconst 0, 1) := by decide +kernel
theorem dX6_become_158 : decode cX6_become 158 = .ok (.aload_n 0, 1) := by decide +kernel
theorem dX6_become_159 : decode cX6_become 159 = .ok (.getfield 34, 3) := by decide +kernel
theorem dX6_become_162 : decode cX6_become 162 = .ok (.iconst 0, 1) := by decide +kernel
theorem dX6_become_163 : decode cX6_become 163 = .ok (.bipush 8, 2) := by decide +kernel
theorem dX6_become_165 : decode cX6_become 165 = .ok (.invokestatic 109, 3) := by decide +kernel
theorem dX6_become_168 : decode cX6_become 168 = .ok (.aload_n 1, 1) := by decide +kernel
theorem dX6_become_169 : decode cX6_become 169 = .ok (.getfield 37, 3) := by decide +kernel
theorem dX6_become_172 : decode cX6_become 172 = .ok (.iconst 0, 1) := by decide +kernel
theorem dX6_become_173 : decode cX6_become 173 = .ok (.aload_n 0, 1) := by decide +kernel
theorem dX6_become_174 : decode cX6_become 174 = .ok (.getfield 37, 3) := by decide +kernel
theorem dX6_become_177 : decode cX6_become 177 = .ok (.iconst 0, 1) := by decide +kernel
theorem dX6_become_178 : decode cX6_become 178 = .ok (.bipush 8, 2) := by decide +kernel
theorem dX6_become_180 : decode cX6_become 180 = .ok (.invokestatic 109, 3) := by decide +kernel
theorem dX6_become_183 : decode cX6_become 183 = .ok (.aload_n 1, 1) := by decide +kernel
theorem dX6_become_184 : decode cX6_become 184 = .ok (.getfield 40, 3) := by decide +kernel
theorem dX6_become_187 : decode cX6_become 187 = .ok (.iconst 0, 1) := by decide +kernel
theorem dX6_become_188 : decode cX6_become 188 = .ok (.aload_n 0, 1) := by decide +kernel
theorem dX6_become_189 : decode cX6_become 189 = .ok (.getfield 40, 3) := by decide +kernel
theorem dX6_become_192 : decode cX6_become 192 = .ok (.iconst 0, 1) := by decide +kernel
theorem dX6_become_193 : decode cX6_become 193 = .ok (.sipush 400, 3) := by decide +kernel
theorem dX6_become_196 : decode cX6_become 196 = .ok (.invokestatic 109, 3) := by decide +kernel
theorem dX6_become_199 : decode cX6_become 199 = .ok (.return_, 1) := by decide +kernel
theorem dX6_init_0 : decode cX6_init 0 = .ok (.aload_n 0, 1) := by decide +kernel
theorem dX6_init_1 : decode cX6_init 1 = .ok (.invokespecial 3, 3) := by decide +kernel
theorem dX6_init_4 : decode cX6_init 4 = .ok (.aload_n 0, 1) := by decide +kernel
theorem dX6_init_5 : decode cX6_init 5 = .ok (.bipush 12, 2) := by decide +kernel
theorem dX6_init_7 : decode cX6_init 7 = .ok (.anewarray 9, 3) := by decide +kernel
theorem dX6_init_10 : decode cX6_init 10 = .ok (.putfield 11, 3) := by decide +kernel
theorem dX6_init_13 : decode cX6_init 13 = .ok (.aload_n 0, 1) := by decide +kernel
theorem dX6_init_14 : decode cX6_init 14 = .ok (.bipush 40, 2) := by decide +kernel
theorem dX6_init_16 : decode cX6_init 16 = .ok (.anewarray 17, 3) := by decide +kernel
theorem dX6_init_19 : decode cX6_init 19 = .ok (.putfield 19, 3) := by decide +kernel
theorem dX6_init_22 : decode cX6_init 22 = .ok (.aload_n 0, 1) := by decide +kernel
theorem dX6_init_23 : decode cX6_init 23 = .ok (.bipush 12, 2) := by decide +kernel
theorem dX6_init_25 : decode cX6_init 25 = .ok (.newarray .int, 2) := by decide +kernel
theorem dX6_init_27 : decode cX6_init 27 = .ok (.putfield 23, 3) := by decide +kernel
theorem dX6_init_30 : decode cX6_init 30 = .ok (.aload_n 0, 1) := by decide +kernel
theorem dX6_init_31 : decode cX6_init 31 = .ok (.bipush 12, 2) := by decide +kernel
theorem dX6_init_33 : decode cX6_init 33 = .ok (.newarray .int, 2) := by decide +kernel
theorem dX6_init_35 : decode cX6_init 35 = .ok (.putfield 27, 3) := by decide +kernel
theorem dX6_init_38 : decode cX6_init 38 = .ok (.aload_n 0, 1) := by decide +kernel
theorem dX6_init_39 : decode cX6_init 39 = .ok (.bipush 20, 2) := by decide +kernel
theorem dX6_init_41 : decode cX6_init 41 = .ok (.putfield 30, 3) := by decide +kernel
theorem dX6_init_44 : decode cX6_init 44 = .ok (.aload_n 0, 1) := by decide +kernel
theorem dX6_init_45 : decode cX6_init 45 = .ok (.bipush 8, 2) := by decide +kernel
theorem dX6_init_47 : decode cX6_init 47 = .ok (.newarray .int, 2) := by decide +kernel
theorem dX6_init_49 : decode cX6_init 49 = .ok (.putfield 34, 3) := by decide +kernel
theorem dX6_init_52 : decode cX6_init 52 = .ok (.aload_n 0, 1) := by decide +kernel
theorem dX6_init_53 : decode cX6_init 53 = .ok (.bipush 8, 2) := by decide +kernel
theorem dX6_init_55 : decode cX6_init 55 = .ok (.newarray .int, 2) := by decide +kernel
theorem dX6_init_57 : decode cX6_init 57 = .ok (.putfield 37, 3) := by decide +kernel
theorem dX6_init_60 : decode cX6_init 60 = .ok (.aload_n 0, 1) := by decide +kernel
theorem dX6_init_61 : decode cX6_init 61 = .ok (.sipush 400, 3) := by decide +kernel
theorem dX6_init_64 : decode cX6_init 64 = .ok (.newarray .byte, 2) := by decide +kernel
theorem dX6_init_66 : decode cX6_init 66 = .ok (.putfield 40, 3) := by decide +kernel
theorem dX6_init_69 : decode cX6_init 69 = .ok (.return_, 1) := by decide +kernel
theorem dX6_numbers_0 : decode cX6_numbers 0 = .ok (.iconst 0, 1) := by decide +kernel
theorem dX6_numbers_1 : decode cX6_numbers 1 = .ok (.istore_n 1, 1) := by decide +kernel
theorem dX6_numbers_2 : decode cX6_numbers 2 = .ok (.iconst 0, 1) := by decide +kernel
theorem dX6_numbers_3 : decode cX6_numbers 3 = .ok (.istore_n 2, 1) := by decide +kernel
theorem dX6_numbers_4 : decode cX6_numbers 4 = .ok (.iload_n 2, 1) := by decide +kernel
theorem dX6_numbers_5 : decode cX6_numbers 5 = .ok (.aload_n 0, 1) := by decide +kernel
theorem dX6_numbers_6 : decode cX6_numbers 6 = .ok (.getfield 44, 3) := by decide +kernel
theorem dX6_numbers_9 : decode cX6_numbers 9 = .ok (.if_icmp .ge 30, 3) := by decide +kernel
theorem dX6_numbers_39 : decode cX6_numbers 39 = .ok (.iload_n 1, 1) := by decide +kernel
theorem dX6_numbers_40 : decode cX6_numbers 40 = .ok (.ireturn, 1) := by decide +kernel
theorem dX6_placeFor_0 : decode cX6_placeFor 0 = .ok (.aload_n 0, 1) := by decide +kernel
theorem dX6_placeFor_1 : decode cX6_placeFor 1 = .ok (.getfield 11, 3) := by decide +kernel
theorem dX6_placeFor_4 : decode cX6_placeFor 4 = .ok (.iload_n 1, 1) := by decide +kernel
theorem dX6_placeFor_5 : decode cX6_placeFor 5 = .ok (.aaload, 1) := by decide +kernel
theorem dX6_placeFor_6 : decode cX6_placeFor 6 = .ok (.astore_n 2, 1) := by decide +kernel
theorem dX6_placeFor_7 : decode cX6_placeFor 7 = .ok (.aload_n 2, 1) := by decide +kernel
theorem dX6_placeFor_8 : decode cX6_placeFor 8 = .ok (.ifnonnull 18, 3) := by decide +kernel
theorem dX6_placeFor_11 : decode cX6_placeFor 11 = .ok (.new 9, 3) := by decide +kernel
theorem dX6_placeFor_14 : decode cX6_placeFor 14 = .ok (.dup, 1) := by decide +kernel
theorem dX6_placeFor_15 : decode cX6_placeFor 15 = .ok (.invokespecial 75, 3) := by decide +kernel
theorem dX6_placeFor_18 : decode cX6_placeFor 18 = .ok (.astore_n 2, 1) := by decide +kernel
theorem dX6_placeFor_19 : decode cX6_placeFor 19 = .ok (.aload_n 0, 1) := by decide +kernel
theorem dX6_placeFor_20 : decode cX6_placeFor 20 = .ok (.getfield 11, 3) := by decide +kernel
theorem dX6_placeFor_23 : decode cX6_placeFor 23 = .ok (.iload_n 1, 1) := by decide +kernel
theorem dX6_placeFor_24 : decode cX6_placeFor 24 = .ok (.aload_n 2, 1) := by decide +kernel
theorem dX6_placeFor_25 : decode cX6_placeFor 25 = .ok (.aastore, 1) := by decide +kernel
theorem dX6_placeFor_26 : decode cX6_placeFor 26 = .ok (.aload_n 2, 1) := by decide +kernel
theorem dX6_placeFor_27 : decode cX6_placeFor 27 = .ok (.areturn, 1) := by decide +kernel
theorem dX6_starAt_0 : decode cX6_starAt 0 = .ok (.iload_n 1, 1) := by decide +kernel
theorem dX6_starAt_1 : decode cX6_starAt 1 = .ok (.ifCond .lt 26, 3) := by decide +kernel
theorem dX6_starAt_4 : decode cX6_starAt 4 = .ok (.iload_n 1, 1) := by decide +kernel
theorem dX6_starAt_5 : decode cX6_starAt 5 = .ok (.aload_n 0, 1) := by decide +kernel
theorem dX6_starAt_6 : decode cX6_starAt 6 = .ok (.getfield 44, 3) := by decide +kernel
theorem dX6_starAt_9 : decode cX6_starAt 9 = .ok (.if_icmp .ge 18, 3) := by decide +kernel
theorem dX6_starAt_27 : decode cX6_starAt 27 = .ok (.aconst_null, 1) := by decide +kernel
theorem dX6_starAt_28 : decode cX6_starAt 28 = .ok (.areturn, 1) := by decide +kernel
theorem dX6_worldAt_0 : decode cX6_worldAt 0 = .ok (.iload_n 1, 1) := by decide +kernel
theorem dX6_worldAt_1 : decode cX6_worldAt 1 = .ok (.ifCond .lt 26, 3) := by decide +kernel
theorem dX6_worldAt_4 : decode cX6_worldAt 4 = .ok (.iload_n 1, 1) := by decide +kernel
theorem dX6_worldAt_5 : decode cX6_worldAt 5 = .ok (.aload_n 0, 1) := by decide +kernel
theorem dX6_worldAt_6 : decode cX6_worldAt 6 = .ok (.getfield 47, 3) := by decide +kernel
theorem dX6_worldAt_9 : decode cX6_worldAt 9 = .ok (.if_icmp .ge 18, 3) := by decide +kernel
theorem dX6_worldAt_27 : decode cX6_worldAt 27 = .ok (.aconst_null, 1) := by decide +kernel
theorem dX6_worldAt_28 : decode cX6_worldAt 28 = .ok (.areturn, 1) := by decide +kernel
theorem dX7_begin_0 : decode cX7_begin 0 = .ok (.aload_n 0, 1) := by decide +kernel
theorem dX7_begin_1 : decode cX7_begin 1 = .ok (.iload_n 1, 1) := by decide +kernel
theorem dX7_begin_2 : decode cX7_begin 2 = .ok (.putfield 15, 3) := by decide +kernel
theorem dX7_begin_5 : decode cX7_begin 5 = .ok (.aload_n 0, 1) := by decide +kernel
theorem dX7_begin_6 : decode cX7_begin 6 = .ok (.iload_n 2, 1) := by decide +kernel
theorem dX7_begin_7 : decode cX7_begin 7 = .ok (.putfield 19, 3) := by decide +kernel
theorem dX7_begin_10 : decode cX7_begin 10 = .ok (.aload_n 0, 1) := by decide +kernel
theorem dX7_begin_11 : decode cX7_begin 11 = .ok (.iload_n 3, 1) := by decide +kernel
theorem dX7_begin_12 : decode cX7_begin 12 = .ok (.putfield 22, 3) := by decide +kernel
theorem dX7_begin_15 : decode cX7_begin 15 = .ok (.aload_n 0, 1) := by decide +kernel
theorem dX7_begin_16 : decode cX7_begin 16 = .ok (.getfield 9, 3) := by decide +kernel
theorem dX7_begin_19 : decode cX7_begin 19 = .ok (.ldc 25, 2) := by decide +kernel
theorem dX7_begin_21 : decode cX7_begin 21 = .ok (.invokestatic 26, 3) := by decide +kernel
theorem dX7_begin_24 : decode cX7_begin 24 = .ok (.return_, 1) := by decide +kernel
theorem dX7_init_0 : decode cX7_init 0 = .ok (.aload_n 0, 1) := by decide +kernel
theorem dX7_init_1 : decode cX7_init 1 = .ok (.invokespecial 3, 3) := by decide +kernel
theorem dX7_init_4 : decode cX7_init 4 = .ok (.aload_n 0, 1) := by decide +kernel
theorem dX7_init_5 : decode cX7_init 5 = .ok (.sipush 600, 3) := by decide +kernel
theorem dX7_init_8 : decode cX7_init 8 = .ok (.newarray .int, 2) := by decide +kernel
theorem dX7_init_10 : decode cX7_init 10 = .ok (.putfield 9, 3) := by decide +kernel
theorem dX7_init_13 : decode cX7_init 13 = .ok (.return_, 1) := by decide +kernel
theorem dX8_begin_0 : decode cX8_begin 0 = .ok (.aload_n 0, 1) := by decide +kernel
theorem dX8_begin_1 : decode cX8_begin 1 = .ok (.iconst 0, 1) := by decide +kernel
theorem dX8_begin_2 : decode cX8_begin 2 = .ok (.putfield 27, 3) := by decide +kernel
theorem dX8_begin_5 : decode cX8_begin 5 = .ok (.aload_n 0, 1) := by decide +kernel
theorem dX8_begin_6 : decode cX8_begin 6 = .ok (.iconst 2, 1) := by decide +kernel
theorem dX8_begin_7 : decode cX8_begin 7 = .ok (.putfield 31, 3) := by decide +kernel
theorem dX8_begin_10 : decode cX8_begin 10 = .ok (.aload_n 0, 1) := by decide +kernel
theorem dX8_begin_11 : decode cX8_begin 11 = .ok (.bipush 100, 2) := by decide +kernel
theorem dX8_begin_13 : decode cX8_begin 13 = .ok (.putfield 34, 3) := by decide +kernel
theorem dX8_begin_16 : decode cX8_begin 16 = .ok (.aload_n 0, 1) := by decide +kernel
theorem dX8_begin_17 : decode cX8_begin 17 = .ok (.iconst 1, 1) := by decide +kernel
theorem dX8_begin_18 : decode cX8_begin 18 = .ok (.putfield 37, 3) := by decide +kernel
theorem dX8_begin_21 : decode cX8_begin 21 = .ok (.aload_n 0, 1) := by decide +kernel
theorem dX8_begin_22 : decode cX8_begin 22 = .ok (.iconst 5, 1) := by decide +kernel
theorem dX8_begin_23 : decode cX8_begin 23 = .ok (.putfield 40, 3) := by decide +kernel
theorem dX8_begin_26 : decode cX8_begin 26 = .ok (.aload_n 0, 1) := by decide +kernel
theorem dX8_begin_27 : decode cX8_begin 27 = .ok (.iconst 1, 1) := by decide +kernel
theorem dX8_begin_28 : decode cX8_begin 28 = .ok (.putfield 43, 3) := by decide +kernel
theorem dX8_begin_31 : decode cX8_begin 31 = .ok (.aload_n 0, 1) := by decide +kernel
theorem dX8_begin_32 : decode cX8_begin 32 = .ok (.iconst 0, 1) := by decide +kernel
theorem dX8_begin_33 : decode cX8_begin 33 = .ok (.putfield 46, 3) := by decide +kernel
theorem dX8_begin_36 : decode cX8_begin 36 = .ok (.aload_n 0, 1) := by decide +kernel
theorem dX8_begin_37 : decode cX8_begin 37 = .ok (.iconst 0, 1) := by decide +kernel
theorem dX8_begin_38 : decode cX8_begin 38 = .ok (.putfield 49, 3) := by decide +kernel
theorem dX8_begin_41 : decode cX8_begin 41 = .ok (.aload_n 0, 1) := by decide +kernel
theorem dX8_begin_42 : decode cX8_begin 42 = .ok (.iconst 0, 1) := by decide +kernel
theorem dX8_begin_43 : decode cX8_begin 43 = .ok (.putfield 52, 3) := by decide +kernel
theorem dX8_begin_46 : decode cX8_begin 46 = .ok (.return_, 1) := by decide +kernel
theorem dX8_init_0 : decode cX8_init 0 = .ok (.aload_n 0, 1) := by decide +kernel
theorem dX8_init_1 : decode cX8_init 1 = .ok (.invokespecial 3, 3) := by decide +kernel
theorem dX8_init_4 : decode cX8_init 4 = .ok (.aload_n 0, 1) := by decide +kernel
theorem dX8_init_5 : decode cX8_init 5 = .ok (.bipush 12, 2) := by decide +kernel
theorem dX8_init_7 : decode cX8_init 7 = .ok (.newarray .int, 2) := by decide +kernel
theorem dX8_init_9 : decode cX8_init 9 = .ok (.putfield 9, 3) := by decide +kernel
theorem dX8_init_12 : decode cX8_init 12 = .ok (.aload_n 0, 1) := by decide +kernel
theorem dX8_init_13 : decode cX8_init 13 = .ok (.bipush 12, 2) := by decide +kernel
theorem dX8_init_15 : decode cX8_init 15 = .ok (.newarray .int, 2) := by decide +kernel
theorem dX8_init_17 : decode cX8_init 17 = .ok (.putfield 15, 3) := by decide +kernel
theorem dX8_init_20 : decode cX8_init 20 = .ok (.aload_n 0, 1) := by decide +kernel
theorem dX8_init_21 : decode cX8_init 21 = .ok (.bipush 12, 2) := by decide +kernel
theorem dX8_init_23 : decode cX8_init 23 = .ok (.newarray .int, 2) := by decide +kernel
theorem dX8_init_25 : decode cX8_init 25 = .ok (.putfield 18, 3) := by decide +kernel
theorem dX8_init_28 : decode cX8_init 28 = .ok (.aload_n 0, 1) := by decide +kernel
theorem dX8_init_29 : decode cX8_init 29 = .ok (.bipush 12, 2) := by decide +kernel
theorem dX8_init_31 : decode cX8_init 31 = .ok (.newarray .int, 2) := by decide +kernel
theorem dX8_init_33 : decode cX8_init 33 = .ok (.putfield 21, 3) := by decide +kernel
theorem dX8_init_36 : decode cX8_init 36 = .ok (.aload_n 0, 1) := by decide +kernel
theorem dX8_init_37 : decode cX8_init 37 = .ok (.sipush 400, 3) := by decide +kernel
theorem dX8_init_40 : decode cX8_init 40 = .ok (.newarray .int, 2) := by decide +kernel
theorem dX8_init_42 : decode cX8_init 42 = .ok (.putfield 24, 3) := by decide +kernel
theorem dX8_init_45 : decode cX8_init 45 = .ok (.return_, 1) := by decide +kernel
