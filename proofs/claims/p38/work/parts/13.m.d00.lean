theorem dX11_alias_0 : decode cX11_alias 0 = .ok (.aload_n 0, 1) := by decide +kernel
theorem dX11_alias_1 : decode cX11_alias 1 = .ok (.iconst 1, 1) := by decide +kernel
theorem dX11_alias_2 : decode cX11_alias 2 = .ok (.iload_n 1, 1) := by decide +kernel
theorem dX11_alias_3 : decode cX11_alias 3 = .ok (.invokevirtual 366, 3) := by decide +kernel
theorem dX11_alias_6 : decode cX11_alias 6 = .ok (.ifCond .eq 23, 3) := by decide +kernel
theorem dX11_alias_9 : decode cX11_alias 9 = .ok (.aload_n 0, 1) := by decide +kernel
theorem dX11_alias_10 : decode cX11_alias 10 = .ok (.iload_n 2, 1) := by decide +kernel
theorem dX11_alias_11 : decode cX11_alias 11 = .ok (.invokevirtual 108, 3) := by decide +kernel
theorem dX11_alias_14 : decode cX11_alias 14 = .ok (.ifCond .eq 15, 3) := by decide +kernel
theorem dX11_alias_17 : decode cX11_alias 17 = .ok (.iload_n 3, 1) := by decide +kernel
theorem dX11_alias_18 : decode cX11_alias 18 = .ok (.i2l, 1) := by decide +kernel
theorem dX11_alias_19 : decode cX11_alias 19 = .ok (.lconst 0, 1) := by decide +kernel
theorem dX11_alias_20 : decode cX11_alias 20 = .ok (.ldc2_w 160, 3) := by decide +kernel
theorem dX11_alias_23 : decode cX11_alias 23 = .ok (.invokestatic 99, 3) := by decide +kernel
theorem dX11_alias_26 : decode cX11_alias 26 = .ok (.ifCond .ne 7, 3) := by decide +kernel
theorem dX11_alias_29 : decode cX11_alias 29 = .ok (.ldc2_w 404, 3) := by decide +kernel
theorem dX11_alias_32 : decode cX11_alias 32 = .ok (.lreturn, 1) := by decide +kernel
theorem dX11_alias_33 : decode cX11_alias 33 = .ok (.aload_n 0, 1) := by decide +kernel
theorem dX11_alias_34 : decode cX11_alias 34 = .ok (.iload_n 1, 1) := by decide +kernel
theorem dX11_alias_35 : decode cX11_alias 35 = .ok (.iload_n 2, 1) := by decide +kernel
theorem dX11_alias_36 : decode cX11_alias 36 = .ok (.iconst 0, 1) := by decide +kernel
theorem dX11_alias_37 : decode cX11_alias 37 = .ok (.invokevirtual 487, 3) := by decide +kernel
theorem dX11_alias_40 : decode cX11_alias 40 = .ok (.ifCond .ne 7, 3) := by decide +kernel
theorem dX11_alias_43 : decode cX11_alias 43 = .ok (.ldc2_w 485, 3) := by decide +kernel
theorem dX11_alias_46 : decode cX11_alias 46 = .ok (.lreturn, 1) := by decide +kernel
theorem dX11_alias_47 : decode cX11_alias 47 = .ok (.lconst 0, 1) := by decide +kernel
theorem dX11_alias_48 : decode cX11_alias 48 = .ok (.lstore 4, 2) := by decide +kernel
theorem dX11_alias_50 : decode cX11_alias 50 = .ok (.iconst 2, 1) := by decide +kernel
theorem dX11_alias_51 : decode cX11_alias 51 = .ok (.aload_n 0, 1) := by decide +kernel
theorem dX11_alias_52 : decode cX11_alias 52 = .ok (.getfield 458, 3) := by decide +kernel
theorem dX11_alias_55 : decode cX11_alias 55 = .ok (.imul, 1) := by decide +kernel
theorem dX11_alias_56 : decode cX11_alias 56 = .ok (.sipush 200, 3) := by decide +kernel
theorem dX11_alias_59 : decode cX11_alias 59 = .ok (.if_icmp .gt 65, 3) := by decide +kernel
theorem dX11_alias_62 : decode cX11_alias 62 = .ok (.aload_n 0, 1) := by decide +kernel
theorem dX11_alias_63 : decode cX11_alias 63 = .ok (.iconst 2, 1) := by decide +kernel
theorem dX11_alias_64 : decode cX11_alias 64 = .ok (.aload_n 0, 1) := by decide +kernel
theorem dX11_alias_65 : decode cX11_alias 65 = .ok (.getfield 458, 3) := by decide +kernel
theorem dX11_alias_68 : decode cX11_alias 68 = .ok (.imul, 1) := by decide +kernel
theorem dX11_alias_69 : decode cX11_alias 69 = .ok (.aload_n 0, 1) := by decide +kernel
theorem dX11_alias_70 : decode cX11_alias 70 = .ok (.getfield 461, 3) := by decide +kernel
theorem dX11_alias_73 : decode cX11_alias 73 = .ok (.aload_n 0, 1) := by decide +kernel
theorem dX11_alias_74 : decode cX11_alias 74 = .ok (.getfield 464, 3) := by decide +kernel
theorem dX11_alias_77 : decode cX11_alias 77 = .ok (.invokevirtual 445, 3) := by decide +kernel
theorem dX11_alias_80 : decode cX11_alias 80 = .ok (.lstore 6, 2) := by decide +kernel
theorem dX11_alias_82 : decode cX11_alias 82 = .ok (.aload_n 0, 1) := by decide +kernel
theorem dX11_alias_83 : decode cX11_alias 83 = .ok (.iconst 2, 1) := by decide +kernel
theorem dX11_alias_84 : decode cX11_alias 84 = .ok (.aload_n 0, 1) := by decide +kernel
theorem dX11_alias_85 : decode cX11_alias 85 = .ok (.getfield 458, 3) := by decide +kernel
theorem dX11_alias_88 : decode cX11_alias 88 = .ok (.imul, 1) := by decide +kernel
theorem dX11_alias_89 : decode cX11_alias 89 = .ok (.aload_n 0, 1) := by decide +kernel
theorem dX11_alias_90 : decode cX11_alias 90 = .ok (.getfield 461, 3) := by decide +kernel
theorem dX11_alias_93 : decode cX11_alias 93 = .ok (.aload_n 0, 1) := by decide +kernel
theorem dX11_alias_94 : decode cX11_alias 94 = .ok (.getfield 464, 3) := by decide +kernel
theorem dX11_alias_97 : decode cX11_alias 97 = .ok (.aload_n 0, 1) := by decide +kernel
theorem dX11_alias_98 : decode cX11_alias 98 = .ok (.getfield 458, 3) := by decide +kernel
theorem dX11_alias_101 : decode cX11_alias 101 = .ok (.iadd, 1) := by decide +kernel
theorem dX11_alias_102 : decode cX11_alias 102 = .ok (.invokevirtual 445, 3) := by decide +kernel
theorem dX11_alias_105 : decode cX11_alias 105 = .ok (.lstore 8, 2) := by decide +kernel
theorem dX11_alias_107 : decode cX11_alias 107 = .ok (.lload 6, 2) := by decide +kernel
theorem dX11_alias_109 : decode cX11_alias 109 = .ok (.lload 8, 2) := by decide +kernel
theorem dX11_alias_111 : decode cX11_alias 111 = .ok (.lcmp, 1) := by decide +kernel
theorem dX11_alias_112 : decode cX11_alias 112 = .ok (.ifCond .le 8, 3) := by decide +kernel
theorem dX11_alias_115 : decode cX11_alias 115 = .ok (.lload 6, 2) := by decide +kernel
theorem dX11_alias_117 : decode cX11_alias 117 = .ok (.goto 5, 3) := by decide +kernel
theorem dX11_alias_120 : decode cX11_alias 120 = .ok (.lload 8, 2) := by decide +kernel
theorem dX11_alias_122 : decode cX11_alias 122 = .ok (.lstore 4, 2) := by decide +kernel
theorem dX11_alias_124 : decode cX11_alias 124 = .ok (.aload_n 0, 1) := by decide +kernel
theorem dX11_alias_125 : decode cX11_alias 125 = .ok (.getfield 458, 3) := by decide +kernel
theorem dX11_alias_128 : decode cX11_alias 128 = .ok (.iconst 2, 1) := by decide +kernel
theorem dX11_alias_129 : decode cX11_alias 129 = .ok (.idiv, 1) := by decide +kernel
theorem dX11_alias_130 : decode cX11_alias 130 = .ok (.istore 6, 2) := by decide +kernel
theorem dX11_alias_132 : decode cX11_alias 132 = .ok (.aload_n 0, 1) := by decide +kernel
theorem dX11_alias_133 : decode cX11_alias 133 = .ok (.getfield 458, 3) := by decide +kernel
theorem dX11_alias_136 : decode cX11_alias 136 = .ok (.iconst 2, 1) := by decide +kernel
theorem dX11_alias_137 : decode cX11_alias 137 = .ok (.irem, 1) := by decide +kernel
theorem dX11_alias_138 : decode cX11_alias 138 = .ok (.iconst 1, 1) := by decide +kernel
theorem dX11_alias_139 : decode cX11_alias 139 = .ok (.if_icmp .eq 12, 3) := by decide +kernel
theorem dX11_alias_142 : decode cX11_alias 142 = .ok (.aload_n 0, 1) := by decide +kernel
theorem dX11_alias_143 : decode cX11_alias 143 = .ok (.getfield 461, 3) := by decide +kernel
theorem dX11_alias_146 : decode cX11_alias 146 = .ok (.iload 6, 2) := by decide +kernel
theorem dX11_alias_148 : decode cX11_alias 148 = .ok (.if_icmp .lt 7, 3) := by decide +kernel
theorem dX11_alias_151 : decode cX11_alias 151 = .ok (.lconst 0, 1) := by decide +kernel
theorem dX11_alias_152 : decode cX11_alias 152 = .ok (.goto 20, 3) := by decide +kernel
theorem dX11_alias_155 : decode cX11_alias 155 = .ok (.aload_n 0, 1) := by decide +kernel
theorem dX11_alias_156 : decode cX11_alias 156 = .ok (.iload 6, 2) := by decide +kernel
theorem dX11_alias_158 : decode cX11_alias 158 = .ok (.aload_n 0, 1) := by decide +kernel
theorem dX11_alias_159 : decode cX11_alias 159 = .ok (.getfield 461, 3) := by decide +kernel
theorem dX11_alias_162 : decode cX11_alias 162 = .ok (.aload_n 0, 1) := by decide +kernel
theorem dX11_alias_163 : decode cX11_alias 163 = .ok (.getfield 464, 3) := by decide +kernel
theorem dX11_alias_166 : decode cX11_alias 166 = .ok (.iload 6, 2) := by decide +kernel
theorem dX11_alias_168 : decode cX11_alias 168 = .ok (.irem, 1) := by decide +kernel
theorem dX11_alias_169 : decode cX11_alias 169 = .ok (.invokevirtual 445, 3) := by decide +kernel
theorem dX11_alias_172 : decode cX11_alias 172 = .ok (.lstore 7, 2) := by decide +kernel
theorem dX11_alias_174 : decode cX11_alias 174 = .ok (.iload_n 3, 1) := by decide +kernel
theorem dX11_alias_175 : decode cX11_alias 175 = .ok (.ifCond .le 16, 3) := by decide +kernel
theorem dX11_alias_178 : decode cX11_alias 178 = .ok (.iload_n 3, 1) := by decide +kernel
theorem dX11_alias_179 : decode cX11_alias 179 = .ok (.iconst 1, 1) := by decide +kernel
theorem dX11_alias_180 : decode cX11_alias 180 = .ok (.if_icmp .ne 8, 3) := by decide +kernel
theorem dX11_alias_183 : decode cX11_alias 183 = .ok (.lload 4, 2) := by decide +kernel
theorem dX11_alias_185 : decode cX11_alias 185 = .ok (.goto 5, 3) := by decide +kernel
theorem dX11_alias_188 : decode cX11_alias 188 = .ok (.lload 7, 2) := by decide +kernel
theorem dX11_alias_190 : decode cX11_alias 190 = .ok (.lreturn, 1) := by decide +kernel
theorem dX11_alias_191 : decode cX11_alias 191 = .ok (.aload_n 0, 1) := by decide +kernel
theorem dX11_alias_192 : decode cX11_alias 192 = .ok (.getfield 455, 3) := by decide +kernel
theorem dX11_alias_195 : decode cX11_alias 195 = .ok (.lload 4, 2) := by decide +kernel
theorem dX11_alias_197 : decode cX11_alias 197 = .ok (.lcmp, 1) := by decide +kernel
theorem dX11_alias_198 : decode cX11_alias 198 = .ok (.ifCond .lt 17, 3) := by decide +kernel
theorem dX11_alias_201 : decode cX11_alias 201 = .ok (.aload_n 0, 1) := by decide +kernel
theorem dX11_alias_202 : decode cX11_alias 202 = .ok (.getfield 455, 3) := by decide +kernel
theorem dX11_alias_205 : decode cX11_alias 205 = .ok (.lload 7, 2) := by decide +kernel
theorem dX11_alias_207 : decode cX11_alias 207 = .ok (.lcmp, 1) := by decide +kernel
theorem dX11_alias_208 : decode cX11_alias 208 = .ok (.ifCond .lt 7, 3) := by decide +kernel
theorem dX11_alias_211 : decode cX11_alias 211 = .ok (.lconst 0, 1) := by decide +kernel
theorem dX11_alias_212 : decode cX11_alias 212 = .ok (.goto 18, 3) := by decide +kernel
theorem dX11_alias_215 : decode cX11_alias 215 = .ok (.lload 4, 2) := by decide +kernel
theorem dX11_alias_217 : decode cX11_alias 217 = .ok (.lload 7, 2) := by decide +kernel
theorem dX11_alias_219 : decode cX11_alias 219 = .ok (.lcmp, 1) := by decide +kernel
theorem dX11_alias_220 : decode cX11_alias 220 = .ok (.ifCond .lt 7, 3) := by decide +kernel
theorem dX11_alias_223 : decode cX11_alias 223 = .ok (.lconst 1, 1) := by decide +kernel
theorem dX11_alias_224 : decode cX11_alias 224 = .ok (.goto 6, 3) := by decide +kernel
theorem dX11_alias_227 : decode cX11_alias 227 = .ok (.ldc2_w 160, 3) := by decide +kernel
theorem dX11_alias_230 : decode cX11_alias 230 = .ok (.lreturn, 1) := by decide +kernel
theorem dX11_bound_0 : decode cX11_bound 0 = .ok (.aload_n 0, 1) := by decide +kernel
theorem dX11_bound_1 : decode cX11_bound 1 = .ok (.iconst 1, 1) := by decide +kernel
theorem dX11_bound_2 : decode cX11_bound 2 = .ok (.iload_n 1, 1) := by decide +kernel
theorem dX11_bound_3 : decode cX11_bound 3 = .ok (.invokevirtual 366, 3) := by decide +kernel
theorem dX11_bound_6 : decode cX11_bound 6 = .ok (.ifCond .eq 15, 3) := by decide +kernel
theorem dX11_bound_9 : decode cX11_bound 9 = .ok (.iload_n 2, 1) := by decide +kernel
theorem dX11_bound_10 : decode cX11_bound 10 = .ok (.i2l, 1) := by decide +kernel
theorem dX11_bound_11 : decode cX11_bound 11 = .ok (.lconst 1, 1) := by decide +kernel
theorem dX11_bound_12 : decode cX11_bound 12 = .ok (.ldc2_w 105, 3) := by decide +kernel
theorem dX11_bound_15 : decode cX11_bound 15 = .ok (.invokestatic 99, 3) := by decide +kernel
theorem dX11_bound_18 : decode cX11_bound 18 = .ok (.ifCond .ne 5, 3) := by decide +kernel
theorem dX11_bound_21 : decode cX11_bound 21 = .ok (.iconst (-1), 1) := by decide +kernel
theorem dX11_bound_22 : decode cX11_bound 22 = .ok (.ireturn, 1) := by decide +kernel
theorem dX11_bound_23 : decode cX11_bound 23 = .ok (.aload_n 0, 1) := by decide +kernel
theorem dX11_bound_24 : decode cX11_bound 24 = .ok (.invokevirtual 506, 3) := by decide +kernel
theorem dX11_bound_27 : decode cX11_bound 27 = .ok (.istore_n 3, 1) := by decide +kernel
theorem dX11_bound_28 : decode cX11_bound 28 = .ok (.iload_n 3, 1) := by decide +kernel
theorem dX11_bound_29 : decode cX11_bound 29 = .ok (.ifCond .ne 7, 3) := by decide +kernel
theorem dX11_bound_32 : decode cX11_bound 32 = .ok (.iconst 0, 1) := by decide +kernel
theorem dX11_bound_33 : decode cX11_bound 33 = .ok (.goto 12, 3) := by decide +kernel
theorem dX11_bound_36 : decode cX11_bound 36 = .ok (.iload_n 2, 1) := by decide +kernel
theorem dX11_bound_37 : decode cX11_bound 37 = .ok (.aload_n 0, 1) := by decide +kernel
theorem dX11_bound_38 : decode cX11_bound 38 = .ok (.iload_n 1, 1) := by decide +kernel
theorem dX11_bound_39 : decode cX11_bound 39 = .ok (.invokevirtual 509, 3) := by decide +kernel
theorem dX11_bound_42 : decode cX11_bound 42 = .ok (.imul, 1) := by decide +kernel
theorem dX11_bound_43 : decode cX11_bound 43 = .ok (.iload_n 3, 1) := by decide +kernel
theorem dX11_bound_44 : decode cX11_bound 44 = .ok (.idiv, 1) := by decide +kernel
theorem dX11_bound_45 : decode cX11_bound 45 = .ok (.istore 4, 2) := by decide +kernel
theorem dX11_bound_47 : decode cX11_bound 47 = .ok (.iload 4, 2) := by decide +kernel
theorem dX11_bound_49 : decode cX11_bound 49 = .ok (.ifCond .ne 6, 3) := by decide +kernel
theorem dX11_bound_52 : decode cX11_bound 52 = .ok (.bipush (-2), 2) := by decide +kernel
theorem dX11_bound_54 : decode cX11_bound 54 = .ok (.ireturn, 1) := by decide +kernel
theorem dX11_bound_55 : decode cX11_bound 55 = .ok (.ldc2_w 552, 3) := by decide +kernel
theorem dX11_bound_58 : decode cX11_bound 58 = .ok (.lstore 5, 2) := by decide +kernel
theorem dX11_bound_60 : decode cX11_bound 60 = .ok (.iconst 0, 1) := by decide +kernel
theorem dX11_bound_61 : decode cX11_bound 61 = .ok (.istore 7, 2) := by decide +kernel
theorem dX11_bound_63 : decode cX11_bound 63 = .ok (.ldc2_w 554, 3) := by decide +kernel
theorem dX11_bound_66 : decode cX11_bound 66 = .ok (.lload 5, 2) := by decide +kernel
theorem dX11_bound_68 : decode cX11_bound 68 = .ok (.lmul, 1) := by decide +kernel
theorem dX11_bound_69 : decode cX11_bound 69 = .ok (.ldc2_w 552, 3) := by decide +kernel
theorem dX11_bound_72 : decode cX11_bound 72 = .ok (.lcmp, 1) := by decide +kernel
theorem dX11_bound_73 : decode cX11_bound 73 = .ok (.ifCond .lt 25, 3) := by decide +kernel
theorem dX11_bound_76 : decode cX11_bound 76 = .ok (.lload 5, 2) := by decide +kernel
theorem dX11_bound_78 : decode cX11_bound 78 = .ok (.sipush 1000, 3) := by decide +kernel
theorem dX11_bound_81 : decode cX11_bound 81 = .ok (.iload 4, 2) := by decide +kernel
theorem dX11_bound_83 : decode cX11_bound 83 = .ok (.isub, 1) := by decide +kernel
theorem dX11_bound_84 : decode cX11_bound 84 = .ok (.i2l, 1) := by decide +kernel
theorem dX11_bound_85 : decode cX11_bound 85 = .ok (.lmul, 1) := by decide +kernel
theorem dX11_bound_86 : decode cX11_bound 86 = .ok (.ldc2_w 105, 3) := by decide +kernel
theorem dX11_bound_89 : decode cX11_bound 89 = .ok (.ldiv, 1) := by decide +kernel
theorem dX11_bound_90 : decode cX11_bound 90 = .ok (.lstore 5, 2) := by decide +kernel
theorem dX11_bound_92 : decode cX11_bound 92 = .ok (.iinc 7 1, 3) := by decide +kernel
theorem dX11_bound_95 : decode cX11_bound 95 = .ok (.goto (-32), 3) := by decide +kernel
theorem dX11_bound_98 : decode cX11_bound 98 = .ok (.iload 7, 2) := by decide +kernel
theorem dX11_bound_100 : decode cX11_bound 100 = .ok (.ireturn, 1) := by decide +kernel
theorem dX11_candidate_0 : decode cX11_candidate 0 = .ok (.aload_n 0, 1) := by decide +kernel
theorem dX11_candidate_1 : decode cX11_candidate 1 = .ok (.getfield 7, 3) := by decide +kernel
theorem dX11_candidate_4 : decode cX11_candidate 4 = .ok (.iconst 2, 1) := by decide +kernel
theorem dX11_candidate_5 : decode cX11_candidate 5 = .ok (.iaload, 1) := by decide +kernel
theorem dX11_candidate_6 : decode cX11_candidate 6 = .ok (.bipush 12, 2) := by decide +kernel
theorem dX11_candidate_8 : decode cX11_candidate 8 = .ok (.if_icmp .eq 35, 3) := by decide +kernel
theorem dX11_candidate_11 : decode cX11_candidate 11 = .ok (.aload_n 0, 1) := by decide +kernel
theorem dX11_candidate_12 : decode cX11_candidate 12 = .ok (.iload_n 1, 1) := by decide +kernel
theorem dX11_candidate_13 : decode cX11_candidate 13 = .ok (.invokevirtual 108, 3) := by decide +kernel
theorem dX11_candidate_16 : decode cX11_candidate 16 = .ok (.ifCond .eq 27, 3) := by decide +kernel
theorem dX11_candidate_19 : decode cX11_candidate 19 = .ok (.iload_n 2, 1) := by decide +kernel
theorem dX11_candidate_20 : decode cX11_candidate 20 = .ok (.i2l, 1) := by decide +kernel
theorem dX11_candidate_21 : decode cX11_candidate 21 = .ok (.lconst 1, 1) := by decide +kernel
theorem dX11_candidate_22 : decode cX11_candidate 22 = .ok (.ldc2_w 569, 3) := by decide +kernel
theorem dX11_candidate_25 : decode cX11_candidate 25 = .ok (.invokestatic 99, 3) := by decide +kernel
theorem dX11_candidate_28 : decode cX11_candidate 28 = .ok (.ifCond .eq 15, 3) := by decide +kernel
theorem dX11_candidate_31 : decode cX11_candidate 31 = .ok (.iload_n 3, 1) := by decide +kernel
theorem dX11_candidate_32 : decode cX11_candidate 32 = .ok (.i2l, 1) := by decide +kernel
theorem dX11_candidate_33 : decode cX11_candidate 33 = .ok (.lconst 0, 1) := by decide +kernel
theorem dX11_candidate_34 : decode cX11_candidate 34 = .ok (.ldc2_w 571, 3) := by decide +kernel
theorem dX11_candidate_37 : decode cX11_candidate 37 = .ok (.invokestatic 99, 3) := by decide +kernel
theorem dX11_candidate_40 : decode cX11_candidate 40 = .ok (.ifCond .ne 5, 3) := by decide +kernel
theorem dX11_candidate_43 : decode cX11_candidate 43 = .ok (.iconst (-1), 1) := by decide +kernel
theorem dX11_candidate_44 : decode cX11_candidate 44 = .ok (.ireturn, 1) := by decide +kernel
theorem dX11_candidate_45 : decode cX11_candidate 45 = .ok (.sipush 279, 3) := by decide +kernel
theorem dX11_candidate_48 : decode cX11_candidate 48 = .ok (.iconst 3, 1) := by decide +kernel
theorem dX11_candidate_49 : decode cX11_candidate 49 = .ok (.aload_n 0, 1) := by decide +kernel
theorem dX11_candidate_50 : decode cX11_candidate 50 = .ok (.getfield 7, 3) := by decide +kernel
theorem dX11_candidate_53 : decode cX11_candidate 53 = .ok (.iconst 2, 1) := by decide +kernel
theorem dX11_candidate_54 : decode cX11_candidate 54 = .ok (.iaload, 1) := by decide +kernel
theorem dX11_candidate_55 : decode cX11_candidate 55 = .ok (.imul, 1) := by decide +kernel
theorem dX11_candidate_56 : decode cX11_candidate 56 = .ok (.iadd, 1) := by decide +kernel
theorem dX11_candidate_57 : decode cX11_candidate 57 = .ok (.istore 4, 2) := by decide +kernel
theorem dX11_candidate_59 : decode cX11_candidate 59 = .ok (.aload_n 0, 1) := by decide +kernel
theorem dX11_candidate_60 : decode cX11_candidate 60 = .ok (.getfield 7, 3) := by decide +kernel
theorem dX11_candidate_63 : decode cX11_candidate 63 = .ok (.iload 4, 2) := by decide +kernel
theorem dX11_candidate_65 : decode cX11_candidate 65 = .ok (.iload_n 1, 1) := by decide +kernel
theorem dX11_candidate_66 : decode cX11_candidate 66 = .ok (.iastore, 1) := by decide +kernel
theorem dX11_candidate_67 : decode cX11_candidate 67 = .ok (.aload_n 0, 1) := by decide +kernel
theorem dX11_candidate_68 : decode cX11_candidate 68 = .ok (.getfield 7, 3) := by decide +kernel
theorem dX11_candidate_71 : decode cX11_candidate 71 = .ok (.iload 4, 2) := by decide +kernel
theorem dX11_candidate_73 : decode cX11_candidate 73 = .ok (.iconst 1, 1) := by decide +kernel
theorem dX11_candidate_74 : decode cX11_candidate 74 = .ok (.iadd, 1) := by decide +kernel
theorem dX11_candidate_75 : decode cX11_candidate 75 = .ok (.iload_n 2, 1) := by decide +kernel
theorem dX11_candidate_76 : decode cX11_candidate 76 = .ok (.iastore, 1) := by decide +kernel
theorem dX11_candidate_77 : decode cX11_candidate 77 = .ok (.aload_n 0, 1) := by decide +kernel
theorem dX11_candidate_78 : decode cX11_candidate 78 = .ok (.getfield 7, 3) := by decide +kernel
theorem dX11_candidate_81 : decode cX11_candidate 81 = .ok (.iload 4, 2) := by decide +kernel
theorem dX11_candidate_83 : decode cX11_candidate 83 = .ok (.iconst 2, 1) := by decide +kernel
theorem dX11_candidate_84 : decode cX11_candidate 84 = .ok (.iadd, 1) := by decide +kernel
theorem dX11_candidate_85 : decode cX11_candidate 85 = .ok (.iload_n 3, 1) := by decide +kernel
theorem dX11_candidate_86 : decode cX11_candidate 86 = .ok (.iastore, 1) := by decide +kernel
theorem dX11_candidate_87 : decode cX11_candidate 87 = .ok (.aload_n 0, 1) := by decide +kernel
theorem dX11_candidate_88 : decode cX11_candidate 88 = .ok (.getfield 7, 3) := by decide +kernel
theorem dX11_candidate_91 : decode cX11_candidate 91 = .ok (.iconst 2, 1) := by decide +kernel
theorem dX11_candidate_92 : decode cX11_candidate 92 = .ok (.dup2, 1) := by decide +kernel
theorem dX11_candidate_93 : decode cX11_candidate 93 = .ok (.iaload, 1) := by decide +kernel
theorem dX11_candidate_94 : decode cX11_candidate 94 = .ok (.iconst 1, 1) := by decide +kernel
theorem dX11_candidate_95 : decode cX11_candidate 95 = .ok (.iadd, 1) := by decide +kernel
theorem dX11_candidate_96 : decode cX11_candidate 96 = .ok (.iastore, 1) := by decide +kernel
theorem dX11_candidate_97 : decode cX11_candidate 97 = .ok (.aload_n 0, 1) := by decide +kernel
theorem dX11_candidate_98 : decode cX11_candidate 98 = .ok (.getfield 7, 3) := by decide +kernel
theorem dX11_candidate_101 : decode cX11_candidate 101 = .ok (.iconst 2, 1) := by decide +kernel
theorem dX11_candidate_102 : decode cX11_candidate 102 = .ok (.iaload, 1) := by decide +kernel
theorem dX11_candidate_103 : decode cX11_candidate 103 = .ok (.iconst 1, 1) := by decide +kernel
theorem dX11_candidate_104 : decode cX11_candidate 104 = .ok (.isub, 1) := by decide +kernel
theorem dX11_candidate_105 : decode cX11_candidate 105 = .ok (.ireturn, 1) := by decide +kernel
theorem dX11_catches_0 : decode cX11_catches 0 = .ok (.aload_n 0, 1) := by decide +kernel
theorem dX11_catches_1 : decode cX11_catches 1 = .ok (.iconst 1, 1) := by decide +kernel
theorem dX11_catches_2 : decode cX11_catches 2 = .ok (.iload_n 1, 1) := by decide +kernel
theorem dX11_catches_3 : decode cX11_catches 3 = .ok (.invokevirtual 366, 3) := by decide +kernel
theorem dX11_catches_6 : decode cX11_catches 6 = .ok (.ifCond .eq 11, 3) := by decide +kernel
theorem dX11_catches_9 : decode cX11_catches 9 = .ok (.aload_n 0, 1) := by decide +kernel
theorem dX11_catches_10 : decode cX11_catches 10 = .ok (.iload_n 2, 1) := by decide +kernel
theorem dX11_catches_11 : decode cX11_catches 11 = .ok (.invokevirtual 500, 3) := by decide +kernel
theorem dX11_catches_14 : decode cX11_catches 14 = .ok (.ifCond .ne 7, 3) := by decide +kernel
theorem dX11_catches_17 : decode cX11_catches 17 = .ok (.iconst (-1), 1) := by decide +kernel
theorem dX11_catches_18 : decode cX11_catches 18 = .ok (.goto 17, 3) := by decide +kernel
theorem dX11_catches_21 : decode cX11_catches 21 = .ok (.aload_n 0, 1) := by decide +kernel
theorem dX11_catches_22 : decode cX11_catches 22 = .ok (.iload_n 1, 1) := by decide +kernel
theorem dX11_catches_23 : decode cX11_catches 23 = .ok (.iload_n 2, 1) := by decide +kernel
theorem dX11_catches_24 : decode cX11_catches 24 = .ok (.invokevirtual 503, 3) := by decide +kernel
theorem dX11_catches_27 : decode cX11_catches 27 = .ok (.ifCond .eq 7, 3) := by decide +kernel
theorem dX11_catches_30 : decode cX11_catches 30 = .ok (.iconst 1, 1) := by decide +kernel
theorem dX11_catches_31 : decode cX11_catches 31 = .ok (.goto 4, 3) := by decide +kernel
theorem dX11_catches_34 : decode cX11_catches 34 = .ok (.iconst 0, 1) := by decide +kernel
theorem dX11_catches_35 : decode cX11_catches 35 = .ok (.ireturn, 1) := by decide +kernel
theorem dX11_caughtBy_0 : decode cX11_caughtBy 0 = .ok (.iconst 0, 1) := by decide +kernel
theorem dX11_caughtBy_1 : decode cX11_caughtBy 1 = .ok (.istore_n 2, 1) := by decide +kernel
theorem dX11_caughtBy_2 : decode cX11_caughtBy 2 = .ok (.iconst 0, 1) := by decide +kernel
theorem dX11_caughtBy_3 : decode cX11_caughtBy 3 = .ok (.istore_n 3, 1) := by decide +kernel
theorem dX11_caughtBy_4 : decode cX11_caughtBy 4 = .ok (.iload_n 3, 1) := by decide +kernel
theorem dX11_caughtBy_5 : decode cX11_caughtBy 5 = .ok (.aload_n 0, 1) := by decide +kernel
theorem dX11_caughtBy_6 : decode cX11_caughtBy 6 = .ok (.getfield 7, 3) := by decide +kernel
theorem dX11_caughtBy_9 : decode cX11_caughtBy 9 = .ok (.iconst 1, 1) := by decide +kernel
theorem dX11_caughtBy_10 : decode cX11_caughtBy 10 = .ok (.iaload, 1) := by decide +kernel
theorem dX11_caughtBy_11 : decode cX11_caughtBy 11 = .ok (.if_icmp .ge 34, 3) := by decide +kernel
theorem dX11_caughtBy_14 : decode cX11_caughtBy 14 = .ok (.iload_n 2, 1) := by decide +kernel
theorem dX11_caughtBy_15 : decode cX11_caughtBy 15 = .ok (.aload_n 0, 1) := by decide +kernel
theorem dX11_caughtBy_16 : decode cX11_caughtBy 16 = .ok (.iload_n 3, 1) := by decide +kernel
theorem dX11_caughtBy_17 : decode cX11_caughtBy 17 = .ok (.invokevirtual 500, 3) := by decide +kernel
theorem dX11_caughtBy_20 : decode cX11_caughtBy 20 = .ok (.ifCond .eq 16, 3) := by decide +kernel
theorem dX11_caughtBy_23 : decode cX11_caughtBy 23 = .ok (.aload_n 0, 1) := by decide +kernel
theorem dX11_caughtBy_24 : decode cX11_caughtBy 24 = .ok (.iload_n 1, 1) := by decide +kernel
theorem dX11_caughtBy_25 : decode cX11_caughtBy 25 = .ok (.iload_n 3, 1) := by decide +kernel
theorem dX11_caughtBy_26 : decode cX11_caughtBy 26 = .ok (.invokevirtual 503, 3) := by decide +kernel
theorem dX11_caughtBy_29 : decode cX11_caughtBy 29 = .ok (.ifCond .eq 7, 3) := by decide +kernel
theorem dX11_caughtBy_32 : decode cX11_caughtBy 32 = .ok (.iconst 1, 1) := by decide +kernel
theorem dX11_caughtBy_33 : decode cX11_caughtBy 33 = .ok (.goto 4, 3) := by decide +kernel
theorem dX11_caughtBy_36 : decode cX11_caughtBy 36 = .ok (.iconst 0, 1) := by decide +kernel
theorem dX11_caughtBy_37 : decode cX11_caughtBy 37 = .ok (.iadd, 1) := by decide +kernel
theorem dX11_caughtBy_38 : decode cX11_caughtBy 38 = .ok (.istore_n 2, 1) := by decide +kernel
theorem dX11_caughtBy_39 : decode cX11_caughtBy 39 = .ok (.iinc 3 1, 3) := by decide +kernel
theorem dX11_caughtBy_42 : decode cX11_caughtBy 42 = .ok (.goto (-38), 3) := by decide +kernel
theorem dX11_caughtBy_45 : decode cX11_caughtBy 45 = .ok (.iload_n 2, 1) := by decide +kernel
theorem dX11_caughtBy_46 : decode cX11_caughtBy 46 = .ok (.ireturn, 1) := by decide +kernel
theorem dX11_chance_0 : decode cX11_chance 0 = .ok (.aload_n 0, 1) := by decide +kernel
theorem dX11_chance_1 : decode cX11_chance 1 = .ok (.iconst 1, 1) := by decide +kernel
theorem dX11_chance_2 : decode cX11_chance 2 = .ok (.iload_n 1, 1) := by decide +kernel
theorem dX11_chance_3 : decode cX11_chance 3 = .ok (.invokevirtual 366, 3) := by decide +kernel
theorem dX11_chance_6 : decode cX11_chance 6 = .ok (.ifCond .eq 27, 3) := by decide +kernel
theorem dX11_chance_9 : decode cX11_chance 9 = .ok (.iload_n 2, 1) := by decide +kernel
theorem dX11_chance_10 : decode cX11_chance 10 = .ok (.i2l, 1) := by decide +kernel
theorem dX11_chance_11 : decode cX11_chance 11 = .ok (.lconst 0, 1) := by decide +kernel
theorem dX11_chance_12 : decode cX11_chance 12 = .ok (.ldc2_w 515, 3) := by decide +kernel
theorem dX11_chance_15 : decode cX11_chance 15 = .ok (.invokestatic 99, 3) := by decide +kernel
theorem dX11_chance_18 : decode cX11_chance 18 = .ok (.ifCond .eq 15, 3) := by decide +kernel
theorem dX11_chance_21 : decode cX11_chance 21 = .ok (.iload_n 3, 1) := by decide +kernel
theorem dX11_chance_22 : decode cX11_chance 22 = .ok (.i2l, 1) := by decide +kernel
theorem dX11_chance_23 : decode cX11_chance 23 = .ok (.lconst 0, 1) := by decide +kernel
theorem dX11_chance_24 : decode cX11_chance 24 = .ok (.ldc2_w 152, 3) := by decide +kernel
theorem dX11_chance_27 : decode cX11_chance 27 = .ok (.invokestatic 99, 3) := by decide +kernel
theorem dX11_chance_30 : decode cX11_chance 30 = .ok (.ifCond .ne 5, 3) := by decide +kernel
theorem dX11_chance_33 : decode cX11_chance 33 = .ok (.iconst (-1), 1) := by decide +kernel
theorem dX11_chance_34 : decode cX11_chance 34 = .ok (.ireturn, 1) := by decide +kernel
theorem dX11_chance_35 : decode cX11_chance 35 = .ok (.iconst 0, 1) := by decide +kernel
theorem dX11_chance_36 : decode cX11_chance 36 = .ok (.istore 4, 2) := by decide +kernel
theorem dX11_chance_38 : decode cX11_chance 38 = .ok (.iconst 0, 1) := by decide +kernel
theorem dX11_chance_39 : decode cX11_chance 39 = .ok (.istore 5, 2) := by decide +kernel
theorem dX11_chance_41 : decode cX11_chance 41 = .ok (.iload 5, 2) := by decide +kernel
theorem dX11_chance_43 : decode cX11_chance 43 = .ok (.aload_n 0, 1) := by decide +kernel
theorem dX11_chance_44 : decode cX11_chance 44 = .ok (.getfield 7, 3) := by decide +kernel
theorem dX11_chance_47 : decode cX11_chance 47 = .ok (.iconst 0, 1) := by decide +kernel
theorem dX11_chance_48 : decode cX11_chance 48 = .ok (.iaload, 1) := by decide +kernel
theorem dX11_chance_49 : decode cX11_chance 49 = .ok (.if_icmp .ge 40, 3) := by decide +kernel
theorem dX11_chance_52 : decode cX11_chance 52 = .ok (.iload 4, 2) := by decide +kernel
theorem dX11_chance_54 : decode cX11_chance 54 = .ok (.aload_n 0, 1) := by decide +kernel
theorem dX11_chance_55 : decode cX11_chance 55 = .ok (.iload_n 1, 1) := by decide +kernel
theorem dX11_chance_56 : decode cX11_chance 56 = .ok (.iload 5, 2) := by decide +kernel
theorem dX11_chance_58 : decode cX11_chance 58 = .ok (.iload_n 3, 1) := by decide +kernel
theorem dX11_chance_59 : decode cX11_chance 59 = .ok (.invokevirtual 487, 3) := by decide +kernel
theorem dX11_chance_62 : decode cX11_chance 62 = .ok (.ifCond .eq 17, 3) := by decide +kernel
theorem dX11_chance_65 : decode cX11_chance 65 = .ok (.aload_n 0, 1) := by decide +kernel
theorem dX11_chance_66 : decode cX11_chance 66 = .ok (.getfield 455, 3) := by decide +kernel
theorem dX11_chance_69 : decode cX11_chance 69 = .ok (.iload_n 2, 1) := by decide +kernel
theorem dX11_chance_70 : decode cX11_chance 70 = .ok (.i2l, 1) := by decide +kernel
theorem dX11_chance_71 : decode cX11_chance 71 = .ok (.lcmp, 1) := by decide +kernel
theorem dX11_chance_72 : decode cX11_chance 72 = .ok (.ifCond .lt 7, 3) := by decide +kernel
theorem dX11_chance_75 : decode cX11_chance 75 = .ok (.iconst 1, 1) := by decide +kernel
theorem dX11_chance_76 : decode cX11_chance 76 = .ok (.goto 4, 3) := by decide +kernel
theorem dX11_chance_79 : decode cX11_chance 79 = .ok (.iconst 0, 1) := by decide +kernel
theorem dX11_chance_80 : decode cX11_chance 80 = .ok (.iadd, 1) := by decide +kernel
theorem dX11_chance_81 : decode cX11_chance 81 = .ok (.istore 4, 2) := by decide +kernel
theorem dX11_chance_83 : decode cX11_chance 83 = .ok (.iinc 5 1, 3) := by decide +kernel
theorem dX11_chance_86 : decode cX11_chance 86 = .ok (.goto (-45), 3) := by decide +kernel
theorem dX11_chance_89 : decode cX11_chance 89 = .ok (.iload 4, 2) := by decide +kernel
theorem dX11_chance_91 : decode cX11_chance 91 = .ok (.ireturn, 1) := by decide +kernel
theorem dX11_count_0 : decode cX11_count 0 = .ok (.iconst 0, 1) := by decide +kernel
theorem dX11_count_1 : decode cX11_count 1 = .ok (.istore_n 2, 1) := by decide +kernel
theorem dX11_count_2 : decode cX11_count 2 = .ok (.iload_n 1, 1) := by decide +kernel
theorem dX11_count_3 : decode cX11_count 3 = .ok (.tableswitch 139 0 7 #[45, 52, 59, 66, 73, 80, 87, 134], 45) := by decide +kernel
theorem dX11_count_48 : decode cX11_count 48 = .ok (.aload_n 0, 1) := by decide +kernel
theorem dX11_count_49 : decode cX11_count 49 = .ok (.getfield 7, 3) := by decide +kernel
theorem dX11_count_52 : decode cX11_count 52 = .ok (.iconst 0, 1) := by decide +kernel
theorem dX11_count_53 : decode cX11_count 53 = .ok (.iaload, 1) := by decide +kernel
theorem dX11_count_54 : decode cX11_count 54 = .ok (.ireturn, 1) := by decide +kernel
theorem dX11_count_55 : decode cX11_count 55 = .ok (.aload_n 0, 1) := by decide +kernel
theorem dX11_count_56 : decode cX11_count 56 = .ok (.getfield 7, 3) := by decide +kernel
theorem dX11_count_59 : decode cX11_count 59 = .ok (.iconst 1, 1) := by decide +kernel
theorem dX11_count_60 : decode cX11_count 60 = .ok (.iaload, 1) := by decide +kernel
theorem dX11_count_61 : decode cX11_count 61 = .ok (.ireturn, 1) := by decide +kernel
theorem dX11_count_62 : decode cX11_count 62 = .ok (.aload_n 0, 1) := by decide +kernel
theorem dX11_count_63 : decode cX11_count 63 = .ok (.getfield 20, 3) := by decide +kernel
theorem dX11_count_66 : decode cX11_count 66 = .ok (.iconst 0, 1) := by decide +kernel
theorem dX11_count_67 : decode cX11_count 67 = .ok (.iaload, 1) := by decide +kernel
theorem dX11_count_68 : decode cX11_count 68 = .ok (.ireturn, 1) := by decide +kernel
theorem dX11_count_69 : decode cX11_count 69 = .ok (.aload_n 0, 1) := by decide +kernel
theorem dX11_count_70 : decode cX11_count 70 = .ok (.getfield 20, 3) := by decide +kernel
theorem dX11_count_73 : decode cX11_count 73 = .ok (.iconst 1, 1) := by decide +kernel
theorem dX11_count_74 : decode cX11_count 74 = .ok (.iaload, 1) := by decide +kernel
theorem dX11_count_75 : decode cX11_count 75 = .ok (.ireturn, 1) := by decide +kernel
theorem dX11_count_76 : decode cX11_count 76 = .ok (.aload_n 0, 1) := by decide +kernel
theorem dX11_count_77 : decode cX11_count 77 = .ok (.getfield 20, 3) := by decide +kernel
theorem dX11_count_80 : decode cX11_count 80 = .ok (.iconst 2, 1) := by decide +kernel
theorem dX11_count_81 : decode cX11_count 81 = .ok (.iaload, 1) := by decide +kernel
theorem dX11_count_82 : decode cX11_count 82 = .ok (.ireturn, 1) := by decide +kernel
theorem dX11_count_83 : decode cX11_count 83 = .ok (.aload_n 0, 1) := by decide +kernel
theorem dX11_count_84 : decode cX11_count 84 = .ok (.getfield 7, 3) := by decide +kernel
theorem dX11_count_87 : decode cX11_count 87 = .ok (.iconst 2, 1) := by decide +kernel
theorem dX11_count_88 : decode cX11_count 88 = .ok (.iaload, 1) := by decide +kernel
theorem dX11_count_89 : decode cX11_count 89 = .ok (.ireturn, 1) := by decide +kernel
theorem dX11_count_90 : decode cX11_count 90 = .ok (.iconst 0, 1) := by decide +kernel
theorem dX11_count_91 : decode cX11_count 91 = .ok (.istore_n 3, 1) := by decide +kernel
theorem dX11_count_92 : decode cX11_count 92 = .ok (.iload_n 3, 1) := by decide +kernel
theorem dX11_count_93 : decode cX11_count 93 = .ok (.sipush 600, 3) := by decide +kernel
theorem dX11_count_96 : decode cX11_count 96 = .ok (.aload_n 0, 1) := by decide +kernel
theorem dX11_count_97 : decode cX11_count 97 = .ok (.getfield 7, 3) := by decide +kernel
theorem dX11_count_100 : decode cX11_count 100 = .ok (.iconst 0, 1) := by decide +kernel
theorem dX11_count_101 : decode cX11_count 101 = .ok (.iaload, 1) := by decide +kernel
theorem dX11_count_102 : decode cX11_count 102 = .ok (.imul, 1) := by decide +kernel
theorem dX11_count_103 : decode cX11_count 103 = .ok (.if_icmp .ge 32, 3) := by decide +kernel
theorem dX11_count_106 : decode cX11_count 106 = .ok (.iload_n 2, 1) := by decide +kernel
theorem dX11_count_107 : decode cX11_count 107 = .ok (.aload_n 0, 1) := by decide +kernel
theorem dX11_count_108 : decode cX11_count 108 = .ok (.getfield 7, 3) := by decide +kernel
theorem dX11_count_111 : decode cX11_count 111 = .ok (.sipush 315, 3) := by decide +kernel
theorem dX11_count_114 : decode cX11_count 114 = .ok (.iload_n 3, 1) := by decide +kernel
theorem dX11_count_115 : decode cX11_count 115 = .ok (.iadd, 1) := by decide +kernel
theorem dX11_count_116 : decode cX11_count 116 = .ok (.iaload, 1) := by decide +kernel
theorem dX11_count_117 : decode cX11_count 117 = .ok (.ldc 107, 2) := by decide +kernel
theorem dX11_count_119 : decode cX11_count 119 = .ok (.if_icmp .ne 7, 3) := by decide +kernel
theorem dX11_count_122 : decode cX11_count 122 = .ok (.iconst 0, 1) := by decide +kernel
theorem dX11_count_123 : decode cX11_count 123 = .ok (.goto 4, 3) := by decide +kernel
theorem dX11_count_126 : decode cX11_count 126 = .ok (.iconst 1, 1) := by decide +kernel
theorem dX11_count_127 : decode cX11_count 127 = .ok (.iadd, 1) := by decide +kernel
theorem dX11_count_128 : decode cX11_count 128 = .ok (.istore_n 2, 1) := by decide +kernel
theorem dX11_count_129 : decode cX11_count 129 = .ok (.iinc 3 1, 3) := by decide +kernel
theorem dX11_count_132 : decode cX11_count 132 = .ok (.goto (-40), 3) := by decide +kernel
theorem dX11_count_135 : decode cX11_count 135 = .ok (.iload_n 2, 1) := by decide +kernel
theorem dX11_count_136 : decode cX11_count 136 = .ok (.ireturn, 1) := by decide +kernel
theorem dX11_count_137 : decode cX11_count 137 = .ok (.aload_n 0, 1) := by decide +kernel
theorem dX11_count_138 : decode cX11_count 138 = .ok (.getfield 169, 3) := by decide +kernel
theorem dX11_count_141 : decode cX11_count 141 = .ok (.ireturn, 1) := by decide +kernel
theorem dX11_count_142 : decode cX11_count 142 = .ok (.iconst (-1), 1) := by decide +kernel
theorem dX11_count_143 : decode cX11_count 143 = .ok (.ireturn, 1) := by decide +kernel
theorem dX11_deepHalf_0 : decode cX11_deepHalf 0 = .ok (.aload_n 0, 1) := by decide +kernel
theorem dX11_deepHalf_1 : decode cX11_deepHalf 1 = .ok (.iconst 4, 1) := by decide +kernel
theorem dX11_deepHalf_2 : decode cX11_deepHalf 2 = .ok (.invokevirtual 519, 3) := by decide +kernel
theorem dX11_deepHalf_5 : decode cX11_deepHalf 5 = .ok (.aload_n 0, 1) := by decide +kernel
theorem dX11_deepHalf_6 : decode cX11_deepHalf 6 = .ok (.getfield 394, 3) := by decide +kernel
theorem dX11_deepHalf_9 : decode cX11_deepHalf 9 = .ok (.aload_n 0, 1) := by decide +kernel
theorem dX11_deepHalf_10 : decode cX11_deepHalf 10 = .ok (.getfield 430, 3) := by decide +kernel
theorem dX11_deepHalf_13 : decode cX11_deepHalf 13 = .ok (.isub, 1) := by decide +kernel
theorem dX11_deepHalf_14 : decode cX11_deepHalf 14 = .ok (.istore_n 2, 1) := by decide +kernel
theorem dX11_deepHalf_15 : decode cX11_deepHalf 15 = .ok (.aload_n 0, 1) := by decide +kernel
theorem dX11_deepHalf_16 : decode cX11_deepHalf 16 = .ok (.getfield 397, 3) := by decide +kernel
theorem dX11_deepHalf_19 : decode cX11_deepHalf 19 = .ok (.aload_n 0, 1) := by decide +kernel
theorem dX11_deepHalf_20 : decode cX11_deepHalf 20 = .ok (.getfield 438, 3) := by decide +kernel
theorem dX11_deepHalf_23 : decode cX11_deepHalf 23 = .ok (.lsub, 1) := by decide +kernel
theorem dX11_deepHalf_24 : decode cX11_deepHalf 24 = .ok (.lstore_n 3, 1) := by decide +kernel
theorem dX11_deepHalf_25 : decode cX11_deepHalf 25 = .ok (.aload_n 0, 1) := by decide +kernel
theorem dX11_deepHalf_26 : decode cX11_deepHalf 26 = .ok (.iload_n 1, 1) := by decide +kernel
theorem dX11_deepHalf_27 : decode cX11_deepHalf 27 = .ok (.invokevirtual 519, 3) := by decide +kernel
theorem dX11_deepHalf_30 : decode cX11_deepHalf 30 = .ok (.aload_n 0, 1) := by decide +kernel
theorem dX11_deepHalf_31 : decode cX11_deepHalf 31 = .ok (.getfield 430, 3) := by decide +kernel
theorem dX11_deepHalf_34 : decode cX11_deepHalf 34 = .ok (.ifCond .ne 9, 3) := by decide +kernel
theorem dX11_deepHalf_37 : decode cX11_deepHalf 37 = .ok (.ldc2_w 436, 3) := by decide +kernel
theorem dX11_deepHalf_40 : decode cX11_deepHalf 40 = .ok (.goto 17, 3) := by decide +kernel
theorem dX11_deepHalf_43 : decode cX11_deepHalf 43 = .ok (.aload_n 0, 1) := by decide +kernel
theorem dX11_deepHalf_44 : decode cX11_deepHalf 44 = .ok (.lload_n 3, 1) := by decide +kernel
theorem dX11_deepHalf_45 : decode cX11_deepHalf 45 = .ok (.iload_n 2, 1) := by decide +kernel
theorem dX11_deepHalf_46 : decode cX11_deepHalf 46 = .ok (.aload_n 0, 1) := by decide +kernel
theorem dX11_deepHalf_47 : decode cX11_deepHalf 47 = .ok (.getfield 438, 3) := by decide +kernel
theorem dX11_deepHalf_50 : decode cX11_deepHalf 50 = .ok (.aload_n 0, 1) := by decide +kernel
theorem dX11_deepHalf_51 : decode cX11_deepHalf 51 = .ok (.getfield 430, 3) := by decide +kernel
theorem dX11_deepHalf_54 : decode cX11_deepHalf 54 = .ok (.invokevirtual 441, 3) := by decide +kernel
theorem dX11_deepHalf_57 : decode cX11_deepHalf 57 = .ok (.lreturn, 1) := by decide +kernel
theorem dX11_divisor_0 : decode cX11_divisor 0 = .ok (.iload_n 0, 1) := by decide +kernel
theorem dX11_divisor_1 : decode cX11_divisor 1 = .ok (.istore_n 2, 1) := by decide +kernel
theorem dX11_divisor_2 : decode cX11_divisor 2 = .ok (.iload_n 1, 1) := by decide +kernel
theorem dX11_divisor_3 : decode cX11_divisor 3 = .ok (.istore_n 3, 1) := by decide +kernel
theorem dX11_divisor_4 : decode cX11_divisor 4 = .ok (.iload_n 3, 1) := by decide +kernel
theorem dX11_divisor_5 : decode cX11_divisor 5 = .ok (.ifCond .eq 16, 3) := by decide +kernel
theorem dX11_divisor_8 : decode cX11_divisor 8 = .ok (.iload_n 2, 1) := by decide +kernel
