theorem dX11_clauseHere_0 : decode cX11_clauseHere 0 = .ok (.aload_n 0, 1) := by decide +kernel
theorem dX11_clauseHere_1 : decode cX11_clauseHere 1 = .ok (.invokevirtual 183, 3) := by decide +kernel
theorem dX11_clauseHere_4 : decode cX11_clauseHere 4 = .ok (.pop, 1) := by decide +kernel
theorem dX11_clauseHere_5 : decode cX11_clauseHere 5 = .ok (.aload_n 0, 1) := by decide +kernel
theorem dX11_clauseHere_6 : decode cX11_clauseHere 6 = .ok (.getfield 180, 3) := by decide +kernel
theorem dX11_clauseHere_9 : decode cX11_clauseHere 9 = .ok (.istore_n 1, 1) := by decide +kernel
theorem dX11_clauseHere_10 : decode cX11_clauseHere 10 = .ok (.aload_n 0, 1) := by decide +kernel
theorem dX11_clauseHere_11 : decode cX11_clauseHere 11 = .ok (.getfield 206, 3) := by decide +kernel
theorem dX11_clauseHere_14 : decode cX11_clauseHere 14 = .ok (.bipush 6, 2) := by decide +kernel
theorem dX11_clauseHere_16 : decode cX11_clauseHere 16 = .ok (.idiv, 1) := by decide +kernel
theorem dX11_clauseHere_17 : decode cX11_clauseHere 17 = .ok (.istore_n 2, 1) := by decide +kernel
theorem dX11_clauseHere_18 : decode cX11_clauseHere 18 = .ok (.aload_n 0, 1) := by decide +kernel
theorem dX11_clauseHere_19 : decode cX11_clauseHere 19 = .ok (.ldc2_w 321, 3) := by decide +kernel
theorem dX11_clauseHere_22 : decode cX11_clauseHere 22 = .ok (.invokevirtual 190, 3) := by decide +kernel
theorem dX11_clauseHere_25 : decode cX11_clauseHere 25 = .ok (.ifCond .eq 7, 3) := by decide +kernel
theorem dX11_clauseHere_28 : decode cX11_clauseHere 28 = .ok (.iconst 0, 1) := by decide +kernel
theorem dX11_clauseHere_29 : decode cX11_clauseHere 29 = .ok (.goto 60, 3) := by decide +kernel
theorem dX11_clauseHere_32 : decode cX11_clauseHere 32 = .ok (.aload_n 0, 1) := by decide +kernel
theorem dX11_clauseHere_33 : decode cX11_clauseHere 33 = .ok (.ldc2_w 323, 3) := by decide +kernel
theorem dX11_clauseHere_36 : decode cX11_clauseHere 36 = .ok (.invokevirtual 190, 3) := by decide +kernel
theorem dX11_clauseHere_39 : decode cX11_clauseHere 39 = .ok (.ifCond .eq 7, 3) := by decide +kernel
theorem dX11_clauseHere_42 : decode cX11_clauseHere 42 = .ok (.iconst 1, 1) := by decide +kernel
theorem dX11_clauseHere_43 : decode cX11_clauseHere 43 = .ok (.goto 46, 3) := by decide +kernel
theorem dX11_clauseHere_46 : decode cX11_clauseHere 46 = .ok (.aload_n 0, 1) := by decide +kernel
theorem dX11_clauseHere_47 : decode cX11_clauseHere 47 = .ok (.ldc2_w 325, 3) := by decide +kernel
theorem dX11_clauseHere_50 : decode cX11_clauseHere 50 = .ok (.invokevirtual 190, 3) := by decide +kernel
theorem dX11_clauseHere_53 : decode cX11_clauseHere 53 = .ok (.ifCond .eq 7, 3) := by decide +kernel
theorem dX11_clauseHere_56 : decode cX11_clauseHere 56 = .ok (.iconst 2, 1) := by decide +kernel
theorem dX11_clauseHere_57 : decode cX11_clauseHere 57 = .ok (.goto 32, 3) := by decide +kernel
theorem dX11_clauseHere_60 : decode cX11_clauseHere 60 = .ok (.aload_n 0, 1) := by decide +kernel
theorem dX11_clauseHere_61 : decode cX11_clauseHere 61 = .ok (.ldc2_w 327, 3) := by decide +kernel
theorem dX11_clauseHere_64 : decode cX11_clauseHere 64 = .ok (.invokevirtual 190, 3) := by decide +kernel
theorem dX11_clauseHere_67 : decode cX11_clauseHere 67 = .ok (.ifCond .eq 7, 3) := by decide +kernel
theorem dX11_clauseHere_70 : decode cX11_clauseHere 70 = .ok (.iconst 3, 1) := by decide +kernel
theorem dX11_clauseHere_71 : decode cX11_clauseHere 71 = .ok (.goto 18, 3) := by decide +kernel
theorem dX11_clauseHere_74 : decode cX11_clauseHere 74 = .ok (.aload_n 0, 1) := by decide +kernel
theorem dX11_clauseHere_75 : decode cX11_clauseHere 75 = .ok (.ldc2_w 329, 3) := by decide +kernel
theorem dX11_clauseHere_78 : decode cX11_clauseHere 78 = .ok (.invokevirtual 190, 3) := by decide +kernel
theorem dX11_clauseHere_81 : decode cX11_clauseHere 81 = .ok (.ifCond .eq 7, 3) := by decide +kernel
theorem dX11_clauseHere_84 : decode cX11_clauseHere 84 = .ok (.iconst 4, 1) := by decide +kernel
theorem dX11_clauseHere_85 : decode cX11_clauseHere 85 = .ok (.goto 4, 3) := by decide +kernel
theorem dX11_clauseHere_88 : decode cX11_clauseHere 88 = .ok (.iconst (-1), 1) := by decide +kernel
theorem dX11_clauseHere_89 : decode cX11_clauseHere 89 = .ok (.istore_n 3, 1) := by decide +kernel
theorem dX11_clauseHere_90 : decode cX11_clauseHere 90 = .ok (.iload_n 2, 1) := by decide +kernel
theorem dX11_clauseHere_91 : decode cX11_clauseHere 91 = .ok (.ifCond .ne 31, 3) := by decide +kernel
theorem dX11_clauseHere_94 : decode cX11_clauseHere 94 = .ok (.aload_n 0, 1) := by decide +kernel
theorem dX11_clauseHere_95 : decode cX11_clauseHere 95 = .ok (.ldc2_w 310, 3) := by decide +kernel
theorem dX11_clauseHere_98 : decode cX11_clauseHere 98 = .ok (.invokevirtual 190, 3) := by decide +kernel
theorem dX11_clauseHere_101 : decode cX11_clauseHere 101 = .ok (.ifCond .ne 13, 3) := by decide +kernel
theorem dX11_clauseHere_104 : decode cX11_clauseHere 104 = .ok (.aload_n 0, 1) := by decide +kernel
theorem dX11_clauseHere_105 : decode cX11_clauseHere 105 = .ok (.ldc2_w 331, 3) := by decide +kernel
theorem dX11_clauseHere_108 : decode cX11_clauseHere 108 = .ok (.invokevirtual 190, 3) := by decide +kernel
theorem dX11_clauseHere_111 : decode cX11_clauseHere 111 = .ok (.ifCond .eq 7, 3) := by decide +kernel
theorem dX11_clauseHere_114 : decode cX11_clauseHere 114 = .ok (.iconst 1, 1) := by decide +kernel
theorem dX11_clauseHere_115 : decode cX11_clauseHere 115 = .ok (.goto 69, 3) := by decide +kernel
theorem dX11_clauseHere_118 : decode cX11_clauseHere 118 = .ok (.iconst 0, 1) := by decide +kernel
theorem dX11_clauseHere_119 : decode cX11_clauseHere 119 = .ok (.goto 65, 3) := by decide +kernel
theorem dX11_clauseHere_122 : decode cX11_clauseHere 122 = .ok (.iload_n 2, 1) := by decide +kernel
theorem dX11_clauseHere_123 : decode cX11_clauseHere 123 = .ok (.iconst 1, 1) := by decide +kernel
theorem dX11_clauseHere_124 : decode cX11_clauseHere 124 = .ok (.if_icmp .ne 51, 3) := by decide +kernel
theorem dX11_clauseHere_127 : decode cX11_clauseHere 127 = .ok (.aload_n 0, 1) := by decide +kernel
theorem dX11_clauseHere_128 : decode cX11_clauseHere 128 = .ok (.ldc2_w 219, 3) := by decide +kernel
theorem dX11_clauseHere_131 : decode cX11_clauseHere 131 = .ok (.invokevirtual 190, 3) := by decide +kernel
theorem dX11_clauseHere_134 : decode cX11_clauseHere 134 = .ok (.ifCond .ne 33, 3) := by decide +kernel
theorem dX11_clauseHere_137 : decode cX11_clauseHere 137 = .ok (.aload_n 0, 1) := by decide +kernel
theorem dX11_clauseHere_138 : decode cX11_clauseHere 138 = .ok (.ldc2_w 221, 3) := by decide +kernel
theorem dX11_clauseHere_141 : decode cX11_clauseHere 141 = .ok (.invokevirtual 190, 3) := by decide +kernel
theorem dX11_clauseHere_144 : decode cX11_clauseHere 144 = .ok (.ifCond .ne 23, 3) := by decide +kernel
theorem dX11_clauseHere_147 : decode cX11_clauseHere 147 = .ok (.aload_n 0, 1) := by decide +kernel
theorem dX11_clauseHere_148 : decode cX11_clauseHere 148 = .ok (.ldc2_w 319, 3) := by decide +kernel
theorem dX11_clauseHere_151 : decode cX11_clauseHere 151 = .ok (.invokevirtual 190, 3) := by decide +kernel
theorem dX11_clauseHere_154 : decode cX11_clauseHere 154 = .ok (.ifCond .ne 13, 3) := by decide +kernel
theorem dX11_clauseHere_157 : decode cX11_clauseHere 157 = .ok (.aload_n 0, 1) := by decide +kernel
theorem dX11_clauseHere_158 : decode cX11_clauseHere 158 = .ok (.ldc2_w 333, 3) := by decide +kernel
theorem dX11_clauseHere_161 : decode cX11_clauseHere 161 = .ok (.invokevirtual 190, 3) := by decide +kernel
theorem dX11_clauseHere_164 : decode cX11_clauseHere 164 = .ok (.ifCond .eq 7, 3) := by decide +kernel
theorem dX11_clauseHere_167 : decode cX11_clauseHere 167 = .ok (.iconst 1, 1) := by decide +kernel
theorem dX11_clauseHere_168 : decode cX11_clauseHere 168 = .ok (.goto 16, 3) := by decide +kernel
theorem dX11_clauseHere_171 : decode cX11_clauseHere 171 = .ok (.iconst 0, 1) := by decide +kernel
theorem dX11_clauseHere_172 : decode cX11_clauseHere 172 = .ok (.goto 12, 3) := by decide +kernel
theorem dX11_clauseHere_175 : decode cX11_clauseHere 175 = .ok (.iload_n 3, 1) := by decide +kernel
theorem dX11_clauseHere_176 : decode cX11_clauseHere 176 = .ok (.ifCond .lt 7, 3) := by decide +kernel
theorem dX11_clauseHere_179 : decode cX11_clauseHere 179 = .ok (.iconst 1, 1) := by decide +kernel
theorem dX11_clauseHere_180 : decode cX11_clauseHere 180 = .ok (.goto 4, 3) := by decide +kernel
theorem dX11_clauseHere_183 : decode cX11_clauseHere 183 = .ok (.iconst 0, 1) := by decide +kernel
theorem dX11_clauseHere_184 : decode cX11_clauseHere 184 = .ok (.istore 4, 2) := by decide +kernel
theorem dX11_clauseHere_186 : decode cX11_clauseHere 186 = .ok (.iload 4, 2) := by decide +kernel
theorem dX11_clauseHere_188 : decode cX11_clauseHere 188 = .ok (.ifCond .ne 10, 3) := by decide +kernel
theorem dX11_clauseHere_191 : decode cX11_clauseHere 191 = .ok (.aload_n 0, 1) := by decide +kernel
theorem dX11_clauseHere_192 : decode cX11_clauseHere 192 = .ok (.iconst 0, 1) := by decide +kernel
theorem dX11_clauseHere_193 : decode cX11_clauseHere 193 = .ok (.iload_n 1, 1) := by decide +kernel
theorem dX11_clauseHere_194 : decode cX11_clauseHere 194 = .ok (.invokevirtual 200, 3) := by decide +kernel
theorem dX11_clauseHere_197 : decode cX11_clauseHere 197 = .ok (.ireturn, 1) := by decide +kernel
theorem dX11_clauseHere_198 : decode cX11_clauseHere 198 = .ok (.aload_n 0, 1) := by decide +kernel
theorem dX11_clauseHere_199 : decode cX11_clauseHere 199 = .ok (.getfield 335, 3) := by decide +kernel
theorem dX11_clauseHere_202 : decode cX11_clauseHere 202 = .ok (.bipush 12, 2) := by decide +kernel
theorem dX11_clauseHere_204 : decode cX11_clauseHere 204 = .ok (.if_icmp .ne 10, 3) := by decide +kernel
theorem dX11_clauseHere_207 : decode cX11_clauseHere 207 = .ok (.aload_n 0, 1) := by decide +kernel
theorem dX11_clauseHere_208 : decode cX11_clauseHere 208 = .ok (.iconst 4, 1) := by decide +kernel
theorem dX11_clauseHere_209 : decode cX11_clauseHere 209 = .ok (.iload_n 1, 1) := by decide +kernel
theorem dX11_clauseHere_210 : decode cX11_clauseHere 210 = .ok (.invokevirtual 200, 3) := by decide +kernel
theorem dX11_clauseHere_213 : decode cX11_clauseHere 213 = .ok (.ireturn, 1) := by decide +kernel
theorem dX11_clauseHere_214 : decode cX11_clauseHere 214 = .ok (.aload_n 0, 1) := by decide +kernel
theorem dX11_clauseHere_215 : decode cX11_clauseHere 215 = .ok (.dup, 1) := by decide +kernel
theorem dX11_clauseHere_216 : decode cX11_clauseHere 216 = .ok (.getfield 335, 3) := by decide +kernel
theorem dX11_clauseHere_219 : decode cX11_clauseHere 219 = .ok (.iconst 1, 1) := by decide +kernel
theorem dX11_clauseHere_220 : decode cX11_clauseHere 220 = .ok (.iadd, 1) := by decide +kernel
theorem dX11_clauseHere_221 : decode cX11_clauseHere 221 = .ok (.putfield 335, 3) := by decide +kernel
theorem dX11_clauseHere_224 : decode cX11_clauseHere 224 = .ok (.iload_n 2, 1) := by decide +kernel
theorem dX11_clauseHere_225 : decode cX11_clauseHere 225 = .ok (.ifCond .ne 11, 3) := by decide +kernel
theorem dX11_clauseHere_228 : decode cX11_clauseHere 228 = .ok (.aload_n 0, 1) := by decide +kernel
theorem dX11_clauseHere_229 : decode cX11_clauseHere 229 = .ok (.iload_n 1, 1) := by decide +kernel
theorem dX11_clauseHere_230 : decode cX11_clauseHere 230 = .ok (.invokevirtual 338, 3) := by decide +kernel
theorem dX11_clauseHere_233 : decode cX11_clauseHere 233 = .ok (.goto 21, 3) := by decide +kernel
theorem dX11_clauseHere_236 : decode cX11_clauseHere 236 = .ok (.iload_n 2, 1) := by decide +kernel
theorem dX11_clauseHere_237 : decode cX11_clauseHere 237 = .ok (.iconst 1, 1) := by decide +kernel
theorem dX11_clauseHere_238 : decode cX11_clauseHere 238 = .ok (.if_icmp .ne 11, 3) := by decide +kernel
theorem dX11_clauseHere_241 : decode cX11_clauseHere 241 = .ok (.aload_n 0, 1) := by decide +kernel
theorem dX11_clauseHere_242 : decode cX11_clauseHere 242 = .ok (.iload_n 1, 1) := by decide +kernel
theorem dX11_clauseHere_243 : decode cX11_clauseHere 243 = .ok (.invokevirtual 341, 3) := by decide +kernel
theorem dX11_clauseHere_246 : decode cX11_clauseHere 246 = .ok (.goto 8, 3) := by decide +kernel
theorem dX11_clauseHere_249 : decode cX11_clauseHere 249 = .ok (.aload_n 0, 1) := by decide +kernel
theorem dX11_clauseHere_250 : decode cX11_clauseHere 250 = .ok (.iload_n 3, 1) := by decide +kernel
theorem dX11_clauseHere_251 : decode cX11_clauseHere 251 = .ok (.invokevirtual 312, 3) := by decide +kernel
theorem dX11_clauseHere_254 : decode cX11_clauseHere 254 = .ok (.ireturn, 1) := by decide +kernel
theorem dX11_clauseOf_0 : decode cX11_clauseOf 0 = .ok (.aload_n 0, 1) := by decide +kernel
theorem dX11_clauseOf_1 : decode cX11_clauseOf 1 = .ok (.invokevirtual 194, 3) := by decide +kernel
theorem dX11_clauseOf_4 : decode cX11_clauseOf 4 = .ok (.bipush 60, 2) := by decide +kernel
theorem dX11_clauseOf_6 : decode cX11_clauseOf 6 = .ok (.aload_n 0, 1) := by decide +kernel
theorem dX11_clauseOf_7 : decode cX11_clauseOf 7 = .ok (.getfield 206, 3) := by decide +kernel
theorem dX11_clauseOf_10 : decode cX11_clauseOf 10 = .ok (.imul, 1) := by decide +kernel
theorem dX11_clauseOf_11 : decode cX11_clauseOf 11 = .ok (.iconst 5, 1) := by decide +kernel
theorem dX11_clauseOf_12 : decode cX11_clauseOf 12 = .ok (.aload_n 0, 1) := by decide +kernel
theorem dX11_clauseOf_13 : decode cX11_clauseOf 13 = .ok (.getfield 32, 3) := by decide +kernel
theorem dX11_clauseOf_16 : decode cX11_clauseOf 16 = .ok (.aload_n 0, 1) := by decide +kernel
theorem dX11_clauseOf_17 : decode cX11_clauseOf 17 = .ok (.getfield 206, 3) := by decide +kernel
theorem dX11_clauseOf_20 : decode cX11_clauseOf 20 = .ok (.iaload, 1) := by decide +kernel
theorem dX11_clauseOf_21 : decode cX11_clauseOf 21 = .ok (.imul, 1) := by decide +kernel
theorem dX11_clauseOf_22 : decode cX11_clauseOf 22 = .ok (.iadd, 1) := by decide +kernel
theorem dX11_clauseOf_23 : decode cX11_clauseOf 23 = .ok (.istore_n 2, 1) := by decide +kernel
theorem dX11_clauseOf_24 : decode cX11_clauseOf 24 = .ok (.aload_n 0, 1) := by decide +kernel
theorem dX11_clauseOf_25 : decode cX11_clauseOf 25 = .ok (.getfield 29, 3) := by decide +kernel
theorem dX11_clauseOf_28 : decode cX11_clauseOf 28 = .ok (.iload_n 2, 1) := by decide +kernel
theorem dX11_clauseOf_29 : decode cX11_clauseOf 29 = .ok (.iload_n 1, 1) := by decide +kernel
theorem dX11_clauseOf_30 : decode cX11_clauseOf 30 = .ok (.iastore, 1) := by decide +kernel
theorem dX11_clauseOf_31 : decode cX11_clauseOf 31 = .ok (.aload_n 0, 1) := by decide +kernel
theorem dX11_clauseOf_32 : decode cX11_clauseOf 32 = .ok (.getfield 29, 3) := by decide +kernel
theorem dX11_clauseOf_35 : decode cX11_clauseOf 35 = .ok (.iload_n 2, 1) := by decide +kernel
theorem dX11_clauseOf_36 : decode cX11_clauseOf 36 = .ok (.iconst 1, 1) := by decide +kernel
theorem dX11_clauseOf_37 : decode cX11_clauseOf 37 = .ok (.iadd, 1) := by decide +kernel
theorem dX11_clauseOf_38 : decode cX11_clauseOf 38 = .ok (.aload_n 0, 1) := by decide +kernel
theorem dX11_clauseOf_39 : decode cX11_clauseOf 39 = .ok (.getfield 26, 3) := by decide +kernel
theorem dX11_clauseOf_42 : decode cX11_clauseOf 42 = .ok (.aload_n 0, 1) := by decide +kernel
theorem dX11_clauseOf_43 : decode cX11_clauseOf 43 = .ok (.getfield 206, 3) := by decide +kernel
theorem dX11_clauseOf_46 : decode cX11_clauseOf 46 = .ok (.iaload, 1) := by decide +kernel
theorem dX11_clauseOf_47 : decode cX11_clauseOf 47 = .ok (.iastore, 1) := by decide +kernel
theorem dX11_clauseOf_48 : decode cX11_clauseOf 48 = .ok (.aload_n 0, 1) := by decide +kernel
theorem dX11_clauseOf_49 : decode cX11_clauseOf 49 = .ok (.invokevirtual 271, 3) := by decide +kernel
theorem dX11_clauseOf_52 : decode cX11_clauseOf 52 = .ok (.ifCond .ne 5, 3) := by decide +kernel
theorem dX11_clauseOf_55 : decode cX11_clauseOf 55 = .ok (.iconst 0, 1) := by decide +kernel
theorem dX11_clauseOf_56 : decode cX11_clauseOf 56 = .ok (.ireturn, 1) := by decide +kernel
theorem dX11_clauseOf_57 : decode cX11_clauseOf 57 = .ok (.aload_n 0, 1) := by decide +kernel
theorem dX11_clauseOf_58 : decode cX11_clauseOf 58 = .ok (.getfield 29, 3) := by decide +kernel
theorem dX11_clauseOf_61 : decode cX11_clauseOf 61 = .ok (.iload_n 2, 1) := by decide +kernel
theorem dX11_clauseOf_62 : decode cX11_clauseOf 62 = .ok (.iconst 2, 1) := by decide +kernel
theorem dX11_clauseOf_63 : decode cX11_clauseOf 63 = .ok (.iadd, 1) := by decide +kernel
theorem dX11_clauseOf_64 : decode cX11_clauseOf 64 = .ok (.aload_n 0, 1) := by decide +kernel
theorem dX11_clauseOf_65 : decode cX11_clauseOf 65 = .ok (.getfield 26, 3) := by decide +kernel
theorem dX11_clauseOf_68 : decode cX11_clauseOf 68 = .ok (.aload_n 0, 1) := by decide +kernel
theorem dX11_clauseOf_69 : decode cX11_clauseOf 69 = .ok (.getfield 206, 3) := by decide +kernel
theorem dX11_clauseOf_72 : decode cX11_clauseOf 72 = .ok (.iaload, 1) := by decide +kernel
theorem dX11_clauseOf_73 : decode cX11_clauseOf 73 = .ok (.iastore, 1) := by decide +kernel
theorem dX11_clauseOf_74 : decode cX11_clauseOf 74 = .ok (.aload_n 0, 1) := by decide +kernel
theorem dX11_clauseOf_75 : decode cX11_clauseOf 75 = .ok (.getfield 29, 3) := by decide +kernel
theorem dX11_clauseOf_78 : decode cX11_clauseOf 78 = .ok (.iload_n 2, 1) := by decide +kernel
theorem dX11_clauseOf_79 : decode cX11_clauseOf 79 = .ok (.iconst 3, 1) := by decide +kernel
theorem dX11_clauseOf_80 : decode cX11_clauseOf 80 = .ok (.iadd, 1) := by decide +kernel
theorem dX11_clauseOf_81 : decode cX11_clauseOf 81 = .ok (.iconst (-1), 1) := by decide +kernel
theorem dX11_clauseOf_82 : decode cX11_clauseOf 82 = .ok (.iastore, 1) := by decide +kernel
theorem dX11_clauseOf_83 : decode cX11_clauseOf 83 = .ok (.aload_n 0, 1) := by decide +kernel
theorem dX11_clauseOf_84 : decode cX11_clauseOf 84 = .ok (.ldc2_w 298, 3) := by decide +kernel
theorem dX11_clauseOf_87 : decode cX11_clauseOf 87 = .ok (.invokevirtual 300, 3) := by decide +kernel
theorem dX11_clauseOf_90 : decode cX11_clauseOf 90 = .ok (.ifCond .eq 29, 3) := by decide +kernel
theorem dX11_clauseOf_93 : decode cX11_clauseOf 93 = .ok (.aload_n 0, 1) := by decide +kernel
theorem dX11_clauseOf_94 : decode cX11_clauseOf 94 = .ok (.getfield 29, 3) := by decide +kernel
theorem dX11_clauseOf_97 : decode cX11_clauseOf 97 = .ok (.iload_n 2, 1) := by decide +kernel
theorem dX11_clauseOf_98 : decode cX11_clauseOf 98 = .ok (.iconst 3, 1) := by decide +kernel
theorem dX11_clauseOf_99 : decode cX11_clauseOf 99 = .ok (.iadd, 1) := by decide +kernel
theorem dX11_clauseOf_100 : decode cX11_clauseOf 100 = .ok (.aload_n 0, 1) := by decide +kernel
theorem dX11_clauseOf_101 : decode cX11_clauseOf 101 = .ok (.getfield 26, 3) := by decide +kernel
theorem dX11_clauseOf_104 : decode cX11_clauseOf 104 = .ok (.aload_n 0, 1) := by decide +kernel
theorem dX11_clauseOf_105 : decode cX11_clauseOf 105 = .ok (.getfield 206, 3) := by decide +kernel
theorem dX11_clauseOf_108 : decode cX11_clauseOf 108 = .ok (.iaload, 1) := by decide +kernel
theorem dX11_clauseOf_109 : decode cX11_clauseOf 109 = .ok (.iastore, 1) := by decide +kernel
theorem dX11_clauseOf_110 : decode cX11_clauseOf 110 = .ok (.aload_n 0, 1) := by decide +kernel
theorem dX11_clauseOf_111 : decode cX11_clauseOf 111 = .ok (.invokevirtual 303, 3) := by decide +kernel
theorem dX11_clauseOf_114 : decode cX11_clauseOf 114 = .ok (.ifCond .ne 5, 3) := by decide +kernel
theorem dX11_clauseOf_117 : decode cX11_clauseOf 117 = .ok (.iconst 0, 1) := by decide +kernel
theorem dX11_clauseOf_118 : decode cX11_clauseOf 118 = .ok (.ireturn, 1) := by decide +kernel
theorem dX11_clauseOf_119 : decode cX11_clauseOf 119 = .ok (.aload_n 0, 1) := by decide +kernel
theorem dX11_clauseOf_120 : decode cX11_clauseOf 120 = .ok (.getfield 29, 3) := by decide +kernel
theorem dX11_clauseOf_123 : decode cX11_clauseOf 123 = .ok (.iload_n 2, 1) := by decide +kernel
theorem dX11_clauseOf_124 : decode cX11_clauseOf 124 = .ok (.iconst 4, 1) := by decide +kernel
theorem dX11_clauseOf_125 : decode cX11_clauseOf 125 = .ok (.iadd, 1) := by decide +kernel
theorem dX11_clauseOf_126 : decode cX11_clauseOf 126 = .ok (.aload_n 0, 1) := by decide +kernel
theorem dX11_clauseOf_127 : decode cX11_clauseOf 127 = .ok (.getfield 26, 3) := by decide +kernel
theorem dX11_clauseOf_130 : decode cX11_clauseOf 130 = .ok (.aload_n 0, 1) := by decide +kernel
theorem dX11_clauseOf_131 : decode cX11_clauseOf 131 = .ok (.getfield 206, 3) := by decide +kernel
theorem dX11_clauseOf_134 : decode cX11_clauseOf 134 = .ok (.iaload, 1) := by decide +kernel
theorem dX11_clauseOf_135 : decode cX11_clauseOf 135 = .ok (.iastore, 1) := by decide +kernel
theorem dX11_clauseOf_136 : decode cX11_clauseOf 136 = .ok (.aload_n 0, 1) := by decide +kernel
theorem dX11_clauseOf_137 : decode cX11_clauseOf 137 = .ok (.getfield 32, 3) := by decide +kernel
theorem dX11_clauseOf_140 : decode cX11_clauseOf 140 = .ok (.aload_n 0, 1) := by decide +kernel
theorem dX11_clauseOf_141 : decode cX11_clauseOf 141 = .ok (.getfield 206, 3) := by decide +kernel
theorem dX11_clauseOf_144 : decode cX11_clauseOf 144 = .ok (.dup2, 1) := by decide +kernel
theorem dX11_clauseOf_145 : decode cX11_clauseOf 145 = .ok (.iaload, 1) := by decide +kernel
theorem dX11_clauseOf_146 : decode cX11_clauseOf 146 = .ok (.iconst 1, 1) := by decide +kernel
theorem dX11_clauseOf_147 : decode cX11_clauseOf 147 = .ok (.iadd, 1) := by decide +kernel
theorem dX11_clauseOf_148 : decode cX11_clauseOf 148 = .ok (.iastore, 1) := by decide +kernel
theorem dX11_clauseOf_149 : decode cX11_clauseOf 149 = .ok (.iconst 1, 1) := by decide +kernel
theorem dX11_clauseOf_150 : decode cX11_clauseOf 150 = .ok (.ireturn, 1) := by decide +kernel
theorem dX11_lawClause_0 : decode cX11_lawClause 0 = .ok (.aload_n 0, 1) := by decide +kernel
theorem dX11_lawClause_1 : decode cX11_lawClause 1 = .ok (.ldc2_w 310, 3) := by decide +kernel
theorem dX11_lawClause_4 : decode cX11_lawClause 4 = .ok (.invokevirtual 190, 3) := by decide +kernel
theorem dX11_lawClause_7 : decode cX11_lawClause 7 = .ok (.ifCond .eq 9, 3) := by decide +kernel
theorem dX11_lawClause_10 : decode cX11_lawClause 10 = .ok (.aload_n 0, 1) := by decide +kernel
theorem dX11_lawClause_11 : decode cX11_lawClause 11 = .ok (.iconst 0, 1) := by decide +kernel
theorem dX11_lawClause_12 : decode cX11_lawClause 12 = .ok (.invokevirtual 312, 3) := by decide +kernel
theorem dX11_lawClause_15 : decode cX11_lawClause 15 = .ok (.ireturn, 1) := by decide +kernel
theorem dX11_lawClause_16 : decode cX11_lawClause 16 = .ok (.aload_n 0, 1) := by decide +kernel
theorem dX11_lawClause_17 : decode cX11_lawClause 17 = .ok (.aload_n 0, 1) := by decide +kernel
theorem dX11_lawClause_18 : decode cX11_lawClause 18 = .ok (.getfield 35, 3) := by decide +kernel
theorem dX11_lawClause_21 : decode cX11_lawClause 21 = .ok (.iconst 0, 1) := by decide +kernel
theorem dX11_lawClause_22 : decode cX11_lawClause 22 = .ok (.sipush 9999, 3) := by decide +kernel
theorem dX11_lawClause_25 : decode cX11_lawClause 25 = .ok (.iload_n 1, 1) := by decide +kernel
theorem dX11_lawClause_26 : decode cX11_lawClause 26 = .ok (.invokevirtual 306, 3) := by decide +kernel
theorem dX11_lawClause_29 : decode cX11_lawClause 29 = .ok (.ireturn, 1) := by decide +kernel
theorem dX11_searchClause_0 : decode cX11_searchClause 0 = .ok (.aload_n 0, 1) := by decide +kernel
theorem dX11_searchClause_1 : decode cX11_searchClause 1 = .ok (.ldc2_w 219, 3) := by decide +kernel
theorem dX11_searchClause_4 : decode cX11_searchClause 4 = .ok (.invokevirtual 190, 3) := by decide +kernel
theorem dX11_searchClause_7 : decode cX11_searchClause 7 = .ok (.ifCond .eq 21, 3) := by decide +kernel
theorem dX11_searchClause_10 : decode cX11_searchClause 10 = .ok (.aload_n 0, 1) := by decide +kernel
theorem dX11_searchClause_11 : decode cX11_searchClause 11 = .ok (.aload_n 0, 1) := by decide +kernel
theorem dX11_searchClause_12 : decode cX11_searchClause 12 = .ok (.getfield 38, 3) := by decide +kernel
theorem dX11_searchClause_15 : decode cX11_searchClause 15 = .ok (.aload_n 0, 1) := by decide +kernel
theorem dX11_searchClause_16 : decode cX11_searchClause 16 = .ok (.getfield 41, 3) := by decide +kernel
theorem dX11_searchClause_19 : decode cX11_searchClause 19 = .ok (.iconst 2, 1) := by decide +kernel
theorem dX11_searchClause_20 : decode cX11_searchClause 20 = .ok (.sipush 200, 3) := by decide +kernel
theorem dX11_searchClause_23 : decode cX11_searchClause 23 = .ok (.iload_n 1, 1) := by decide +kernel
theorem dX11_searchClause_24 : decode cX11_searchClause 24 = .ok (.invokevirtual 315, 3) := by decide +kernel
theorem dX11_searchClause_27 : decode cX11_searchClause 27 = .ok (.ireturn, 1) := by decide +kernel
theorem dX11_searchClause_28 : decode cX11_searchClause 28 = .ok (.aload_n 0, 1) := by decide +kernel
theorem dX11_searchClause_29 : decode cX11_searchClause 29 = .ok (.ldc2_w 221, 3) := by decide +kernel
theorem dX11_searchClause_32 : decode cX11_searchClause 32 = .ok (.invokevirtual 190, 3) := by decide +kernel
theorem dX11_searchClause_35 : decode cX11_searchClause 35 = .ok (.ifCond .eq 20, 3) := by decide +kernel
theorem dX11_searchClause_38 : decode cX11_searchClause 38 = .ok (.aload_n 0, 1) := by decide +kernel
theorem dX11_searchClause_39 : decode cX11_searchClause 39 = .ok (.aload_n 0, 1) := by decide +kernel
theorem dX11_searchClause_40 : decode cX11_searchClause 40 = .ok (.getfield 44, 3) := by decide +kernel
theorem dX11_searchClause_43 : decode cX11_searchClause 43 = .ok (.aload_n 0, 1) := by decide +kernel
theorem dX11_searchClause_44 : decode cX11_searchClause 44 = .ok (.getfield 47, 3) := by decide +kernel
theorem dX11_searchClause_47 : decode cX11_searchClause 47 = .ok (.iconst 1, 1) := by decide +kernel
theorem dX11_searchClause_48 : decode cX11_searchClause 48 = .ok (.bipush 10, 2) := by decide +kernel
theorem dX11_searchClause_50 : decode cX11_searchClause 50 = .ok (.iload_n 1, 1) := by decide +kernel
theorem dX11_searchClause_51 : decode cX11_searchClause 51 = .ok (.invokevirtual 315, 3) := by decide +kernel
theorem dX11_searchClause_54 : decode cX11_searchClause 54 = .ok (.ireturn, 1) := by decide +kernel
theorem dX11_searchClause_55 : decode cX11_searchClause 55 = .ok (.aload_n 0, 1) := by decide +kernel
theorem dX11_searchClause_56 : decode cX11_searchClause 56 = .ok (.ldc2_w 319, 3) := by decide +kernel
theorem dX11_searchClause_59 : decode cX11_searchClause 59 = .ok (.invokevirtual 190, 3) := by decide +kernel
theorem dX11_searchClause_62 : decode cX11_searchClause 62 = .ok (.ifCond .eq 18, 3) := by decide +kernel
theorem dX11_searchClause_65 : decode cX11_searchClause 65 = .ok (.aload_n 0, 1) := by decide +kernel
theorem dX11_searchClause_66 : decode cX11_searchClause 66 = .ok (.aload_n 0, 1) := by decide +kernel
theorem dX11_searchClause_67 : decode cX11_searchClause 67 = .ok (.getfield 50, 3) := by decide +kernel
theorem dX11_searchClause_70 : decode cX11_searchClause 70 = .ok (.iconst 1, 1) := by decide +kernel
theorem dX11_searchClause_71 : decode cX11_searchClause 71 = .ok (.bipush 99, 2) := by decide +kernel
theorem dX11_searchClause_73 : decode cX11_searchClause 73 = .ok (.iload_n 1, 1) := by decide +kernel
theorem dX11_searchClause_74 : decode cX11_searchClause 74 = .ok (.invokevirtual 306, 3) := by decide +kernel
theorem dX11_searchClause_77 : decode cX11_searchClause 77 = .ok (.goto 15, 3) := by decide +kernel
theorem dX11_searchClause_80 : decode cX11_searchClause 80 = .ok (.aload_n 0, 1) := by decide +kernel
theorem dX11_searchClause_81 : decode cX11_searchClause 81 = .ok (.aload_n 0, 1) := by decide +kernel
theorem dX11_searchClause_82 : decode cX11_searchClause 82 = .ok (.getfield 53, 3) := by decide +kernel
theorem dX11_searchClause_85 : decode cX11_searchClause 85 = .ok (.iconst 0, 1) := by decide +kernel
theorem dX11_searchClause_86 : decode cX11_searchClause 86 = .ok (.ldc 254, 2) := by decide +kernel
theorem dX11_searchClause_88 : decode cX11_searchClause 88 = .ok (.iload_n 1, 1) := by decide +kernel
theorem dX11_searchClause_89 : decode cX11_searchClause 89 = .ok (.invokevirtual 306, 3) := by decide +kernel
theorem dX11_searchClause_92 : decode cX11_searchClause 92 = .ok (.ireturn, 1) := by decide +kernel
theorem dX11_text_0 : decode cX11_text 0 = .ok (.iload_n 1, 1) := by decide +kernel
theorem dX11_text_1 : decode cX11_text 1 = .ok (.i2l, 1) := by decide +kernel
theorem dX11_text_2 : decode cX11_text 2 = .ok (.lconst 0, 1) := by decide +kernel
theorem dX11_text_3 : decode cX11_text 3 = .ok (.ldc2_w 160, 3) := by decide +kernel
theorem dX11_text_6 : decode cX11_text 6 = .ok (.invokestatic 99, 3) := by decide +kernel
theorem dX11_text_9 : decode cX11_text 9 = .ok (.ifCond .eq 14, 3) := by decide +kernel
theorem dX11_text_12 : decode cX11_text 12 = .ok (.aload_n 0, 1) := by decide +kernel
theorem dX11_text_13 : decode cX11_text 13 = .ok (.getfield 20, 3) := by decide +kernel
theorem dX11_text_16 : decode cX11_text 16 = .ok (.iload_n 1, 1) := by decide +kernel
theorem dX11_text_17 : decode cX11_text 17 = .ok (.iaload, 1) := by decide +kernel
theorem dX11_text_18 : decode cX11_text 18 = .ok (.bipush 6, 2) := by decide +kernel
theorem dX11_text_20 : decode cX11_text 20 = .ok (.if_icmp .ne 5, 3) := by decide +kernel
theorem dX11_text_23 : decode cX11_text 23 = .ok (.iconst (-1), 1) := by decide +kernel
theorem dX11_text_24 : decode cX11_text 24 = .ok (.ireturn, 1) := by decide +kernel
theorem dX11_text_25 : decode cX11_text 25 = .ok (.aload_n 0, 1) := by decide +kernel
theorem dX11_text_26 : decode cX11_text 26 = .ok (.bipush 6, 2) := by decide +kernel
theorem dX11_text_28 : decode cX11_text 28 = .ok (.iload_n 1, 1) := by decide +kernel
theorem dX11_text_29 : decode cX11_text 29 = .ok (.imul, 1) := by decide +kernel
theorem dX11_text_30 : decode cX11_text 30 = .ok (.aload_n 0, 1) := by decide +kernel
theorem dX11_text_31 : decode cX11_text 31 = .ok (.getfield 20, 3) := by decide +kernel
theorem dX11_text_34 : decode cX11_text 34 = .ok (.iload_n 1, 1) := by decide +kernel
theorem dX11_text_35 : decode cX11_text 35 = .ok (.iaload, 1) := by decide +kernel
theorem dX11_text_36 : decode cX11_text 36 = .ok (.iadd, 1) := by decide +kernel
theorem dX11_text_37 : decode cX11_text 37 = .ok (.putfield 206, 3) := by decide +kernel
theorem dX11_text_40 : decode cX11_text 40 = .ok (.aload_n 0, 1) := by decide +kernel
theorem dX11_text_41 : decode cX11_text 41 = .ok (.getfield 26, 3) := by decide +kernel
theorem dX11_text_44 : decode cX11_text 44 = .ok (.aload_n 0, 1) := by decide +kernel
theorem dX11_text_45 : decode cX11_text 45 = .ok (.getfield 206, 3) := by decide +kernel
theorem dX11_text_48 : decode cX11_text 48 = .ok (.iconst 0, 1) := by decide +kernel
theorem dX11_text_49 : decode cX11_text 49 = .ok (.iastore, 1) := by decide +kernel
theorem dX11_text_50 : decode cX11_text 50 = .ok (.aload_n 0, 1) := by decide +kernel
theorem dX11_text_51 : decode cX11_text 51 = .ok (.getfield 32, 3) := by decide +kernel
theorem dX11_text_54 : decode cX11_text 54 = .ok (.aload_n 0, 1) := by decide +kernel
theorem dX11_text_55 : decode cX11_text 55 = .ok (.getfield 206, 3) := by decide +kernel
theorem dX11_text_58 : decode cX11_text 58 = .ok (.iconst 0, 1) := by decide +kernel
theorem dX11_text_59 : decode cX11_text 59 = .ok (.iastore, 1) := by decide +kernel
theorem dX11_text_60 : decode cX11_text 60 = .ok (.aload_n 0, 1) := by decide +kernel
theorem dX11_text_61 : decode cX11_text 61 = .ok (.getfield 35, 3) := by decide +kernel
theorem dX11_text_64 : decode cX11_text 64 = .ok (.aload_n 0, 1) := by decide +kernel
theorem dX11_text_65 : decode cX11_text 65 = .ok (.getfield 206, 3) := by decide +kernel
theorem dX11_text_68 : decode cX11_text 68 = .ok (.iconst (-1), 1) := by decide +kernel
theorem dX11_text_69 : decode cX11_text 69 = .ok (.iastore, 1) := by decide +kernel
theorem dX11_text_70 : decode cX11_text 70 = .ok (.aload_n 0, 1) := by decide +kernel
theorem dX11_text_71 : decode cX11_text 71 = .ok (.getfield 38, 3) := by decide +kernel
theorem dX11_text_74 : decode cX11_text 74 = .ok (.aload_n 0, 1) := by decide +kernel
theorem dX11_text_75 : decode cX11_text 75 = .ok (.getfield 206, 3) := by decide +kernel
theorem dX11_text_78 : decode cX11_text 78 = .ok (.iconst (-1), 1) := by decide +kernel
theorem dX11_text_79 : decode cX11_text 79 = .ok (.iastore, 1) := by decide +kernel
theorem dX11_text_80 : decode cX11_text 80 = .ok (.aload_n 0, 1) := by decide +kernel
theorem dX11_text_81 : decode cX11_text 81 = .ok (.getfield 44, 3) := by decide +kernel
theorem dX11_text_84 : decode cX11_text 84 = .ok (.aload_n 0, 1) := by decide +kernel
theorem dX11_text_85 : decode cX11_text 85 = .ok (.getfield 206, 3) := by decide +kernel
theorem dX11_text_88 : decode cX11_text 88 = .ok (.iconst (-1), 1) := by decide +kernel
theorem dX11_text_89 : decode cX11_text 89 = .ok (.iastore, 1) := by decide +kernel
theorem dX11_text_90 : decode cX11_text 90 = .ok (.aload_n 0, 1) := by decide +kernel
theorem dX11_text_91 : decode cX11_text 91 = .ok (.getfield 50, 3) := by decide +kernel
theorem dX11_text_94 : decode cX11_text 94 = .ok (.aload_n 0, 1) := by decide +kernel
theorem dX11_text_95 : decode cX11_text 95 = .ok (.getfield 206, 3) := by decide +kernel
theorem dX11_text_98 : decode cX11_text 98 = .ok (.iconst (-1), 1) := by decide +kernel
theorem dX11_text_99 : decode cX11_text 99 = .ok (.iastore, 1) := by decide +kernel
theorem dX11_text_100 : decode cX11_text 100 = .ok (.aload_n 0, 1) := by decide +kernel
theorem dX11_text_101 : decode cX11_text 101 = .ok (.getfield 53, 3) := by decide +kernel
theorem dX11_text_104 : decode cX11_text 104 = .ok (.aload_n 0, 1) := by decide +kernel
theorem dX11_text_105 : decode cX11_text 105 = .ok (.getfield 206, 3) := by decide +kernel
theorem dX11_text_108 : decode cX11_text 108 = .ok (.iconst (-1), 1) := by decide +kernel
theorem dX11_text_109 : decode cX11_text 109 = .ok (.iastore, 1) := by decide +kernel
theorem dX11_text_110 : decode cX11_text 110 = .ok (.aload_n 0, 1) := by decide +kernel
theorem dX11_text_111 : decode cX11_text 111 = .ok (.iconst 0, 1) := by decide +kernel
theorem dX11_text_112 : decode cX11_text 112 = .ok (.putfield 335, 3) := by decide +kernel
theorem dX11_text_115 : decode cX11_text 115 = .ok (.aload_n 0, 1) := by decide +kernel
theorem dX11_text_116 : decode cX11_text 116 = .ok (.iconst 0, 1) := by decide +kernel
theorem dX11_text_117 : decode cX11_text 117 = .ok (.putfield 180, 3) := by decide +kernel
theorem dX11_text_120 : decode cX11_text 120 = .ok (.aload_n 0, 1) := by decide +kernel
theorem dX11_text_121 : decode cX11_text 121 = .ok (.iconst 0, 1) := by decide +kernel
theorem dX11_text_122 : decode cX11_text 122 = .ok (.putfield 177, 3) := by decide +kernel
theorem dX11_text_125 : decode cX11_text 125 = .ok (.aload_n 0, 1) := by decide +kernel
theorem dX11_text_126 : decode cX11_text 126 = .ok (.iconst 0, 1) := by decide +kernel
theorem dX11_text_127 : decode cX11_text 127 = .ok (.putfield 237, 3) := by decide +kernel
theorem dX11_text_130 : decode cX11_text 130 = .ok (.aload_n 0, 1) := by decide +kernel
theorem dX11_text_131 : decode cX11_text 131 = .ok (.invokevirtual 344, 3) := by decide +kernel
theorem dX11_text_134 : decode cX11_text 134 = .ok (.istore_n 2, 1) := by decide +kernel
theorem dX11_text_135 : decode cX11_text 135 = .ok (.iload_n 2, 1) := by decide +kernel
theorem dX11_text_136 : decode cX11_text 136 = .ok (.ifCond .eq 30, 3) := by decide +kernel
theorem dX11_text_139 : decode cX11_text 139 = .ok (.aload_n 0, 1) := by decide +kernel
theorem dX11_text_140 : decode cX11_text 140 = .ok (.invokevirtual 183, 3) := by decide +kernel
theorem dX11_text_143 : decode cX11_text 143 = .ok (.bipush 59, 2) := by decide +kernel
theorem dX11_text_145 : decode cX11_text 145 = .ok (.if_icmp .ne 21, 3) := by decide +kernel
theorem dX11_text_148 : decode cX11_text 148 = .ok (.aload_n 0, 1) := by decide +kernel
theorem dX11_text_149 : decode cX11_text 149 = .ok (.dup, 1) := by decide +kernel
theorem dX11_text_150 : decode cX11_text 150 = .ok (.getfield 180, 3) := by decide +kernel
theorem dX11_text_153 : decode cX11_text 153 = .ok (.iconst 1, 1) := by decide +kernel
theorem dX11_text_154 : decode cX11_text 154 = .ok (.iadd, 1) := by decide +kernel
theorem dX11_text_155 : decode cX11_text 155 = .ok (.putfield 180, 3) := by decide +kernel
theorem dX11_text_158 : decode cX11_text 158 = .ok (.aload_n 0, 1) := by decide +kernel
theorem dX11_text_159 : decode cX11_text 159 = .ok (.invokevirtual 344, 3) := by decide +kernel
theorem dX11_text_162 : decode cX11_text 162 = .ok (.istore_n 2, 1) := by decide +kernel
theorem dX11_text_163 : decode cX11_text 163 = .ok (.goto (-28), 3) := by decide +kernel
theorem dX11_text_166 : decode cX11_text 166 = .ok (.iload_n 2, 1) := by decide +kernel
theorem dX11_text_167 : decode cX11_text 167 = .ok (.ifCond .eq 21, 3) := by decide +kernel
theorem dX11_text_170 : decode cX11_text 170 = .ok (.aload_n 0, 1) := by decide +kernel
theorem dX11_text_171 : decode cX11_text 171 = .ok (.invokevirtual 183, 3) := by decide +kernel
theorem dX11_text_174 : decode cX11_text 174 = .ok (.iconst (-1), 1) := by decide +kernel
theorem dX11_text_175 : decode cX11_text 175 = .ok (.if_icmp .eq 13, 3) := by decide +kernel
theorem dX11_text_178 : decode cX11_text 178 = .ok (.aload_n 0, 1) := by decide +kernel
theorem dX11_text_179 : decode cX11_text 179 = .ok (.iconst 0, 1) := by decide +kernel
theorem dX11_text_180 : decode cX11_text 180 = .ok (.aload_n 0, 1) := by decide +kernel
theorem dX11_text_181 : decode cX11_text 181 = .ok (.getfield 180, 3) := by decide +kernel
theorem dX11_text_184 : decode cX11_text 184 = .ok (.invokevirtual 200, 3) := by decide +kernel
theorem dX11_text_187 : decode cX11_text 187 = .ok (.pop, 1) := by decide +kernel
theorem dX11_text_188 : decode cX11_text 188 = .ok (.aload_n 0, 1) := by decide +kernel
theorem dX11_text_189 : decode cX11_text 189 = .ok (.iconst 0, 1) := by decide +kernel
theorem dX11_text_190 : decode cX11_text 190 = .ok (.putfield 169, 3) := by decide +kernel
theorem dX11_text_193 : decode cX11_text 193 = .ok (.aload_n 0, 1) := by decide +kernel
theorem dX11_text_194 : decode cX11_text 194 = .ok (.getfield 177, 3) := by decide +kernel
theorem dX11_text_197 : decode cX11_text 197 = .ok (.ifCond .le 11, 3) := by decide +kernel
theorem dX11_text_200 : decode cX11_text 200 = .ok (.bipush (-2), 2) := by decide +kernel
theorem dX11_text_202 : decode cX11_text 202 = .ok (.aload_n 0, 1) := by decide +kernel
theorem dX11_text_203 : decode cX11_text 203 = .ok (.getfield 177, 3) := by decide +kernel
theorem dX11_text_206 : decode cX11_text 206 = .ok (.isub, 1) := by decide +kernel
theorem dX11_text_207 : decode cX11_text 207 = .ok (.ireturn, 1) := by decide +kernel
theorem dX11_text_208 : decode cX11_text 208 = .ok (.aload_n 0, 1) := by decide +kernel
theorem dX11_text_209 : decode cX11_text 209 = .ok (.getfield 35, 3) := by decide +kernel
theorem dX11_text_212 : decode cX11_text 212 = .ok (.aload_n 0, 1) := by decide +kernel
theorem dX11_text_213 : decode cX11_text 213 = .ok (.getfield 206, 3) := by decide +kernel
theorem dX11_text_216 : decode cX11_text 216 = .ok (.iaload, 1) := by decide +kernel
theorem dX11_text_217 : decode cX11_text 217 = .ok (.ifCond .ge 13, 3) := by decide +kernel
theorem dX11_text_220 : decode cX11_text 220 = .ok (.aload_n 0, 1) := by decide +kernel
theorem dX11_text_221 : decode cX11_text 221 = .ok (.getfield 35, 3) := by decide +kernel
theorem dX11_text_224 : decode cX11_text 224 = .ok (.aload_n 0, 1) := by decide +kernel
theorem dX11_text_225 : decode cX11_text 225 = .ok (.getfield 206, 3) := by decide +kernel
theorem dX11_text_228 : decode cX11_text 228 = .ok (.iconst 0, 1) := by decide +kernel
theorem dX11_text_229 : decode cX11_text 229 = .ok (.iastore, 1) := by decide +kernel
theorem dX11_text_230 : decode cX11_text 230 = .ok (.aload_n 0, 1) := by decide +kernel
theorem dX11_text_231 : decode cX11_text 231 = .ok (.getfield 38, 3) := by decide +kernel
theorem dX11_text_234 : decode cX11_text 234 = .ok (.aload_n 0, 1) := by decide +kernel
theorem dX11_text_235 : decode cX11_text 235 = .ok (.getfield 206, 3) := by decide +kernel
theorem dX11_text_238 : decode cX11_text 238 = .ok (.iaload, 1) := by decide +kernel
theorem dX11_text_239 : decode cX11_text 239 = .ok (.ifCond .ge 24, 3) := by decide +kernel
theorem dX11_text_242 : decode cX11_text 242 = .ok (.aload_n 0, 1) := by decide +kernel
theorem dX11_text_243 : decode cX11_text 243 = .ok (.getfield 38, 3) := by decide +kernel
theorem dX11_text_246 : decode cX11_text 246 = .ok (.aload_n 0, 1) := by decide +kernel
theorem dX11_text_247 : decode cX11_text 247 = .ok (.getfield 206, 3) := by decide +kernel
theorem dX11_text_250 : decode cX11_text 250 = .ok (.iconst 2, 1) := by decide +kernel
theorem dX11_text_251 : decode cX11_text 251 = .ok (.iastore, 1) := by decide +kernel
theorem dX11_text_252 : decode cX11_text 252 = .ok (.aload_n 0, 1) := by decide +kernel
theorem dX11_text_253 : decode cX11_text 253 = .ok (.getfield 41, 3) := by decide +kernel
theorem dX11_text_256 : decode cX11_text 256 = .ok (.aload_n 0, 1) := by decide +kernel
theorem dX11_text_257 : decode cX11_text 257 = .ok (.getfield 206, 3) := by decide +kernel
theorem dX11_text_260 : decode cX11_text 260 = .ok (.bipush 100, 2) := by decide +kernel
theorem dX11_text_262 : decode cX11_text 262 = .ok (.iastore, 1) := by decide +kernel
theorem dX11_text_263 : decode cX11_text 263 = .ok (.aload_n 0, 1) := by decide +kernel
theorem dX11_text_264 : decode cX11_text 264 = .ok (.getfield 44, 3) := by decide +kernel
theorem dX11_text_267 : decode cX11_text 267 = .ok (.aload_n 0, 1) := by decide +kernel
theorem dX11_text_268 : decode cX11_text 268 = .ok (.getfield 206, 3) := by decide +kernel
theorem dX11_text_271 : decode cX11_text 271 = .ok (.iaload, 1) := by decide +kernel
theorem dX11_text_272 : decode cX11_text 272 = .ok (.ifCond .ge 23, 3) := by decide +kernel
theorem dX11_text_275 : decode cX11_text 275 = .ok (.aload_n 0, 1) := by decide +kernel
theorem dX11_text_276 : decode cX11_text 276 = .ok (.getfield 44, 3) := by decide +kernel
theorem dX11_text_279 : decode cX11_text 279 = .ok (.aload_n 0, 1) := by decide +kernel
theorem dX11_text_280 : decode cX11_text 280 = .ok (.getfield 206, 3) := by decide +kernel
theorem dX11_text_283 : decode cX11_text 283 = .ok (.iconst 1, 1) := by decide +kernel
theorem dX11_text_284 : decode cX11_text 284 = .ok (.iastore, 1) := by decide +kernel
theorem dX11_text_285 : decode cX11_text 285 = .ok (.aload_n 0, 1) := by decide +kernel
theorem dX11_text_286 : decode cX11_text 286 = .ok (.getfield 47, 3) := by decide +kernel
theorem dX11_text_289 : decode cX11_text 289 = .ok (.aload_n 0, 1) := by decide +kernel
