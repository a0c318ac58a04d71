theorem dX11_weighs_21 : decode cX11_weighs 21 = .ok (.i2l, 1) := by decide +kernel
theorem dX11_weighs_22 : decode cX11_weighs 22 = .ok (.lastore, 1) := by decide +kernel
theorem dX11_weighs_23 : decode cX11_weighs 23 = .ok (.aload_n 0, 1) := by decide +kernel
theorem dX11_weighs_24 : decode cX11_weighs 24 = .ok (.getfield 63, 3) := by decide +kernel
theorem dX11_weighs_27 : decode cX11_weighs 27 = .ok (.iconst 1, 1) := by decide +kernel
theorem dX11_weighs_28 : decode cX11_weighs 28 = .ok (.aload_n 0, 1) := by decide +kernel
theorem dX11_weighs_29 : decode cX11_weighs 29 = .ok (.getfield 461, 3) := by decide +kernel
theorem dX11_weighs_32 : decode cX11_weighs 32 = .ok (.i2l, 1) := by decide +kernel
theorem dX11_weighs_33 : decode cX11_weighs 33 = .ok (.lastore, 1) := by decide +kernel
theorem dX11_weighs_34 : decode cX11_weighs 34 = .ok (.aload_n 0, 1) := by decide +kernel
theorem dX11_weighs_35 : decode cX11_weighs 35 = .ok (.getfield 63, 3) := by decide +kernel
theorem dX11_weighs_38 : decode cX11_weighs 38 = .ok (.iconst 2, 1) := by decide +kernel
theorem dX11_weighs_39 : decode cX11_weighs 39 = .ok (.aload_n 0, 1) := by decide +kernel
theorem dX11_weighs_40 : decode cX11_weighs 40 = .ok (.getfield 467, 3) := by decide +kernel
theorem dX11_weighs_43 : decode cX11_weighs 43 = .ok (.lastore, 1) := by decide +kernel
theorem dX11_weighs_44 : decode cX11_weighs 44 = .ok (.aload_n 0, 1) := by decide +kernel
theorem dX11_weighs_45 : decode cX11_weighs 45 = .ok (.getfield 63, 3) := by decide +kernel
theorem dX11_weighs_48 : decode cX11_weighs 48 = .ok (.iconst 3, 1) := by decide +kernel
theorem dX11_weighs_49 : decode cX11_weighs 49 = .ok (.aload_n 0, 1) := by decide +kernel
theorem dX11_weighs_50 : decode cX11_weighs 50 = .ok (.getfield 455, 3) := by decide +kernel
theorem dX11_weighs_53 : decode cX11_weighs 53 = .ok (.lastore, 1) := by decide +kernel
theorem dX11_weighs_54 : decode cX11_weighs 54 = .ok (.aload_n 0, 1) := by decide +kernel
theorem dX11_weighs_55 : decode cX11_weighs 55 = .ok (.getfield 63, 3) := by decide +kernel
theorem dX11_weighs_58 : decode cX11_weighs 58 = .ok (.iconst 4, 1) := by decide +kernel
theorem dX11_weighs_59 : decode cX11_weighs 59 = .ok (.aload_n 0, 1) := by decide +kernel
theorem dX11_weighs_60 : decode cX11_weighs 60 = .ok (.getfield 470, 3) := by decide +kernel
theorem dX11_weighs_63 : decode cX11_weighs 63 = .ok (.i2l, 1) := by decide +kernel
theorem dX11_weighs_64 : decode cX11_weighs 64 = .ok (.lastore, 1) := by decide +kernel
theorem dX11_weighs_65 : decode cX11_weighs 65 = .ok (.aload_n 0, 1) := by decide +kernel
theorem dX11_weighs_66 : decode cX11_weighs 66 = .ok (.getfield 63, 3) := by decide +kernel
theorem dX11_weighs_69 : decode cX11_weighs 69 = .ok (.iconst 5, 1) := by decide +kernel
theorem dX11_weighs_70 : decode cX11_weighs 70 = .ok (.aload_n 0, 1) := by decide +kernel
theorem dX11_weighs_71 : decode cX11_weighs 71 = .ok (.invokevirtual 529, 3) := by decide +kernel
theorem dX11_weighs_74 : decode cX11_weighs 74 = .ok (.lastore, 1) := by decide +kernel
theorem dX11_weighs_75 : decode cX11_weighs 75 = .ok (.aload_n 0, 1) := by decide +kernel
theorem dX11_weighs_76 : decode cX11_weighs 76 = .ok (.getfield 63, 3) := by decide +kernel
theorem dX11_weighs_79 : decode cX11_weighs 79 = .ok (.bipush 6, 2) := by decide +kernel
theorem dX11_weighs_81 : decode cX11_weighs 81 = .ok (.aload_n 0, 1) := by decide +kernel
theorem dX11_weighs_82 : decode cX11_weighs 82 = .ok (.invokevirtual 532, 3) := by decide +kernel
theorem dX11_weighs_85 : decode cX11_weighs 85 = .ok (.lastore, 1) := by decide +kernel
theorem dX11_weighs_86 : decode cX11_weighs 86 = .ok (.aload_n 0, 1) := by decide +kernel
theorem dX11_weighs_87 : decode cX11_weighs 87 = .ok (.getfield 63, 3) := by decide +kernel
theorem dX11_weighs_90 : decode cX11_weighs 90 = .ok (.bipush 8, 2) := by decide +kernel
theorem dX11_weighs_92 : decode cX11_weighs 92 = .ok (.aload_n 0, 1) := by decide +kernel
theorem dX11_weighs_93 : decode cX11_weighs 93 = .ok (.invokevirtual 538, 3) := by decide +kernel
theorem dX11_weighs_96 : decode cX11_weighs 96 = .ok (.i2l, 1) := by decide +kernel
theorem dX11_weighs_97 : decode cX11_weighs 97 = .ok (.lastore, 1) := by decide +kernel
theorem dX11_weighs_98 : decode cX11_weighs 98 = .ok (.aload_n 0, 1) := by decide +kernel
theorem dX11_weighs_99 : decode cX11_weighs 99 = .ok (.getfield 63, 3) := by decide +kernel
theorem dX11_weighs_102 : decode cX11_weighs 102 = .ok (.bipush 7, 2) := by decide +kernel
theorem dX11_weighs_104 : decode cX11_weighs 104 = .ok (.aload_n 0, 1) := by decide +kernel
theorem dX11_weighs_105 : decode cX11_weighs 105 = .ok (.iload_n 2, 1) := by decide +kernel
theorem dX11_weighs_106 : decode cX11_weighs 106 = .ok (.iload_n 3, 1) := by decide +kernel
theorem dX11_weighs_107 : decode cX11_weighs 107 = .ok (.invokevirtual 535, 3) := by decide +kernel
theorem dX11_weighs_110 : decode cX11_weighs 110 = .ok (.i2l, 1) := by decide +kernel
theorem dX11_weighs_111 : decode cX11_weighs 111 = .ok (.lastore, 1) := by decide +kernel
theorem dX11_weighs_112 : decode cX11_weighs 112 = .ok (.aload_n 0, 1) := by decide +kernel
theorem dX11_weighs_113 : decode cX11_weighs 113 = .ok (.getfield 63, 3) := by decide +kernel
theorem dX11_weighs_116 : decode cX11_weighs 116 = .ok (.bipush 9, 2) := by decide +kernel
theorem dX11_weighs_118 : decode cX11_weighs 118 = .ok (.aload_n 0, 1) := by decide +kernel
theorem dX11_weighs_119 : decode cX11_weighs 119 = .ok (.iload_n 3, 1) := by decide +kernel
theorem dX11_weighs_120 : decode cX11_weighs 120 = .ok (.iconst 0, 1) := by decide +kernel
theorem dX11_weighs_121 : decode cX11_weighs 121 = .ok (.invokevirtual 120, 3) := by decide +kernel
theorem dX11_weighs_124 : decode cX11_weighs 124 = .ok (.i2l, 1) := by decide +kernel
theorem dX11_weighs_125 : decode cX11_weighs 125 = .ok (.lastore, 1) := by decide +kernel
theorem dX11_weighs_126 : decode cX11_weighs 126 = .ok (.bipush 12, 2) := by decide +kernel
theorem dX11_weighs_128 : decode cX11_weighs 128 = .ok (.iload_n 1, 1) := by decide +kernel
theorem dX11_weighs_129 : decode cX11_weighs 129 = .ok (.iadd, 1) := by decide +kernel
theorem dX11_weighs_130 : decode cX11_weighs 130 = .ok (.istore 4, 2) := by decide +kernel
theorem dX11_weighs_132 : decode cX11_weighs 132 = .ok (.iconst 0, 1) := by decide +kernel
theorem dX11_weighs_133 : decode cX11_weighs 133 = .ok (.istore 5, 2) := by decide +kernel
theorem dX11_weighs_135 : decode cX11_weighs 135 = .ok (.iload 5, 2) := by decide +kernel
theorem dX11_weighs_137 : decode cX11_weighs 137 = .ok (.iconst 5, 1) := by decide +kernel
theorem dX11_weighs_138 : decode cX11_weighs 138 = .ok (.if_icmp .ge 94, 3) := by decide +kernel
theorem dX11_weighs_141 : decode cX11_weighs 141 = .ok (.lconst 0, 1) := by decide +kernel
theorem dX11_weighs_142 : decode cX11_weighs 142 = .ok (.lstore 6, 2) := by decide +kernel
theorem dX11_weighs_144 : decode cX11_weighs 144 = .ok (.iconst 0, 1) := by decide +kernel
theorem dX11_weighs_145 : decode cX11_weighs 145 = .ok (.istore 8, 2) := by decide +kernel
theorem dX11_weighs_147 : decode cX11_weighs 147 = .ok (.iload 8, 2) := by decide +kernel
theorem dX11_weighs_149 : decode cX11_weighs 149 = .ok (.aload_n 0, 1) := by decide +kernel
theorem dX11_weighs_150 : decode cX11_weighs 150 = .ok (.getfield 32, 3) := by decide +kernel
theorem dX11_weighs_153 : decode cX11_weighs 153 = .ok (.iload 4, 2) := by decide +kernel
theorem dX11_weighs_155 : decode cX11_weighs 155 = .ok (.iaload, 1) := by decide +kernel
theorem dX11_weighs_156 : decode cX11_weighs 156 = .ok (.if_icmp .ge 53, 3) := by decide +kernel
theorem dX11_weighs_159 : decode cX11_weighs 159 = .ok (.aload_n 0, 1) := by decide +kernel
theorem dX11_weighs_160 : decode cX11_weighs 160 = .ok (.getfield 29, 3) := by decide +kernel
theorem dX11_weighs_163 : decode cX11_weighs 163 = .ok (.bipush 60, 2) := by decide +kernel
theorem dX11_weighs_165 : decode cX11_weighs 165 = .ok (.iload 4, 2) := by decide +kernel
theorem dX11_weighs_167 : decode cX11_weighs 167 = .ok (.imul, 1) := by decide +kernel
theorem dX11_weighs_168 : decode cX11_weighs 168 = .ok (.iconst 5, 1) := by decide +kernel
theorem dX11_weighs_169 : decode cX11_weighs 169 = .ok (.iload 8, 2) := by decide +kernel
theorem dX11_weighs_171 : decode cX11_weighs 171 = .ok (.imul, 1) := by decide +kernel
theorem dX11_weighs_172 : decode cX11_weighs 172 = .ok (.iadd, 1) := by decide +kernel
theorem dX11_weighs_173 : decode cX11_weighs 173 = .ok (.iaload, 1) := by decide +kernel
theorem dX11_weighs_174 : decode cX11_weighs 174 = .ok (.iload 5, 2) := by decide +kernel
theorem dX11_weighs_176 : decode cX11_weighs 176 = .ok (.if_icmp .ne 27, 3) := by decide +kernel
theorem dX11_weighs_179 : decode cX11_weighs 179 = .ok (.aload_n 0, 1) := by decide +kernel
theorem dX11_weighs_180 : decode cX11_weighs 180 = .ok (.iload 4, 2) := by decide +kernel
theorem dX11_weighs_182 : decode cX11_weighs 182 = .ok (.iload 8, 2) := by decide +kernel
theorem dX11_weighs_184 : decode cX11_weighs 184 = .ok (.invokevirtual 369, 3) := by decide +kernel
theorem dX11_weighs_187 : decode cX11_weighs 187 = .ok (.ifCond .eq 16, 3) := by decide +kernel
theorem dX11_weighs_190 : decode cX11_weighs 190 = .ok (.lload 6, 2) := by decide +kernel
theorem dX11_weighs_192 : decode cX11_weighs 192 = .ok (.aload_n 0, 1) := by decide +kernel
theorem dX11_weighs_193 : decode cX11_weighs 193 = .ok (.iload 4, 2) := by decide +kernel
theorem dX11_weighs_195 : decode cX11_weighs 195 = .ok (.iload 8, 2) := by decide +kernel
theorem dX11_weighs_197 : decode cX11_weighs 197 = .ok (.invokevirtual 372, 3) := by decide +kernel
theorem dX11_weighs_200 : decode cX11_weighs 200 = .ok (.ladd, 1) := by decide +kernel
theorem dX11_weighs_201 : decode cX11_weighs 201 = .ok (.lstore 6, 2) := by decide +kernel
theorem dX11_weighs_203 : decode cX11_weighs 203 = .ok (.iinc 8 1, 3) := by decide +kernel
theorem dX11_weighs_206 : decode cX11_weighs 206 = .ok (.goto (-59), 3) := by decide +kernel
theorem dX11_weighs_209 : decode cX11_weighs 209 = .ok (.aload_n 0, 1) := by decide +kernel
theorem dX11_weighs_210 : decode cX11_weighs 210 = .ok (.getfield 87, 3) := by decide +kernel
theorem dX11_weighs_213 : decode cX11_weighs 213 = .ok (.iload 5, 2) := by decide +kernel
theorem dX11_weighs_215 : decode cX11_weighs 215 = .ok (.lload 6, 2) := by decide +kernel
theorem dX11_weighs_217 : decode cX11_weighs 217 = .ok (.lconst 0, 1) := by decide +kernel
theorem dX11_weighs_218 : decode cX11_weighs 218 = .ok (.ldc2_w 517, 3) := by decide +kernel
theorem dX11_weighs_221 : decode cX11_weighs 221 = .ok (.invokestatic 148, 3) := by decide +kernel
theorem dX11_weighs_224 : decode cX11_weighs 224 = .ok (.l2i, 1) := by decide +kernel
theorem dX11_weighs_225 : decode cX11_weighs 225 = .ok (.iastore, 1) := by decide +kernel
theorem dX11_weighs_226 : decode cX11_weighs 226 = .ok (.iinc 5 1, 3) := by decide +kernel
theorem dX11_weighs_229 : decode cX11_weighs 229 = .ok (.goto (-94), 3) := by decide +kernel
theorem dX11_weighs_232 : decode cX11_weighs 232 = .ok (.iconst 1, 1) := by decide +kernel
theorem dX11_weighs_233 : decode cX11_weighs 233 = .ok (.ireturn, 1) := by decide +kernel
theorem dX11_weight_0 : decode cX11_weight 0 = .ok (.iload 4, 2) := by decide +kernel
theorem dX11_weight_2 : decode cX11_weight 2 = .ok (.i2l, 1) := by decide +kernel
theorem dX11_weight_3 : decode cX11_weight 3 = .ok (.lconst 0, 1) := by decide +kernel
theorem dX11_weight_4 : decode cX11_weight 4 = .ok (.ldc2_w 422, 3) := by decide +kernel
theorem dX11_weight_7 : decode cX11_weight 7 = .ok (.invokestatic 99, 3) := by decide +kernel
theorem dX11_weight_10 : decode cX11_weight 10 = .ok (.ifCond .eq 23, 3) := by decide +kernel
theorem dX11_weight_13 : decode cX11_weight 13 = .ok (.aload_n 0, 1) := by decide +kernel
theorem dX11_weight_14 : decode cX11_weight 14 = .ok (.iload_n 1, 1) := by decide +kernel
theorem dX11_weight_15 : decode cX11_weight 15 = .ok (.iload_n 2, 1) := by decide +kernel
theorem dX11_weight_16 : decode cX11_weight 16 = .ok (.iload_n 3, 1) := by decide +kernel
theorem dX11_weight_17 : decode cX11_weight 17 = .ok (.invokevirtual 546, 3) := by decide +kernel
theorem dX11_weight_20 : decode cX11_weight 20 = .ok (.ifCond .eq 13, 3) := by decide +kernel
theorem dX11_weight_23 : decode cX11_weight 23 = .ok (.aload_n 0, 1) := by decide +kernel
theorem dX11_weight_24 : decode cX11_weight 24 = .ok (.getfield 87, 3) := by decide +kernel
theorem dX11_weight_27 : decode cX11_weight 27 = .ok (.iload 4, 2) := by decide +kernel
theorem dX11_weight_29 : decode cX11_weight 29 = .ok (.iaload, 1) := by decide +kernel
theorem dX11_weight_30 : decode cX11_weight 30 = .ok (.goto 4, 3) := by decide +kernel
theorem dX11_weight_33 : decode cX11_weight 33 = .ok (.iconst (-1), 1) := by decide +kernel
theorem dX11_weight_34 : decode cX11_weight 34 = .ok (.ireturn, 1) := by decide +kernel
