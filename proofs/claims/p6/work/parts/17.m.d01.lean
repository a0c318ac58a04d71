theorem dX11_weighs_129 : decode cX11_weighs 129 = .ok (.iadd, 1) := by decide +kernel
theorem dX11_weighs_130 : decode cX11_weighs 130 = .ok (.istore 4, 2) := by decide +kernel
theorem dX11_weighs_132 : decode cX11_weighs 132 = .ok (.iconst 0, 1) := by decide +kernel
theorem dX11_weighs_133 : decode cX11_weighs 133 = .ok (.istore 5, 2) := by decide +kernel
theorem dX11_weighs_135 : decode cX11_weighs 135 = .ok (.iload 5, 2) := by decide +kernel
theorem dX11_weighs_137 : decode cX11_weighs 137 = .ok (.iconst 5, 1) := by decide +kernel
theorem dX11_weighs_138 : decode cX11_weighs 138 = .ok (.if_icmp .ge 94, 3) := by decide +kernel
theorem dX11_weighs_141 : decode cX11_weighs 141 = .ok (.lconst 0, 1) := by decide +kernel
theorem dX11_weighs_142 : decode cX11_weighs 142 = .ok (.lstore 6, 2) := by decide +kernel
theorem dX11_weighs_144 : decode cX11_weighs 144 = .ok (.iconst 0, 1) := by decide +kernel
theorem dX11_weighs_145 : decode cX11_weighs 145 = .ok (.istore 8, 2) := by decide +kernel
theorem dX11_weighs_147 : decode cX11_weighs 147 = .ok (.iload 8, 2) := by decide +kernel
theorem dX11_weighs_149 : decode cX11_weighs 149 = .ok (.aload_n 0, 1) := by decide +kernel
theorem dX11_weighs_150 : decode cX11_weighs 150 = .ok (.getfield 32, 3) := by decide +kernel
theorem dX11_weighs_153 : decode cX11_weighs 153 = .ok (.iload 4, 2) := by decide +kernel
theorem dX11_weighs_155 : decode cX11_weighs 155 = .ok (.iaload, 1) := by decide +kernel
theorem dX11_weighs_156 : decode cX11_weighs 156 = .ok (.if_icmp .ge 53, 3) := by decide +kernel
theorem dX11_weighs_159 : decode cX11_weighs 159 = .ok (.aload_n 0, 1) := by decide +kernel
theorem dX11_weighs_160 : decode cX11_weighs 160 = .ok (.getfield 29, 3) := by decide +kernel
theorem dX11_weighs_163 : decode cX11_weighs 163 = .ok (.bipush 60, 2) := by decide +kernel
theorem dX11_weighs_165 : decode cX11_weighs 165 = .ok (.iload 4, 2) := by decide +kernel
theorem dX11_weighs_167 : decode cX11_weighs 167 = .ok (.imul, 1) := by decide +kernel
theorem dX11_weighs_168 : decode cX11_weighs 168 = .ok (.iconst 5, 1) := by decide +kernel
theorem dX11_weighs_169 : decode cX11_weighs 169 = .ok (.iload 8, 2) := by decide +kernel
theorem dX11_weighs_171 : decode cX11_weighs 171 = .ok (.imul, 1) := by decide +kernel
theorem dX11_weighs_172 : decode cX11_weighs 172 = .ok (.iadd, 1) := by decide +kernel
theorem dX11_weighs_173 : decode cX11_weighs 173 = .ok (.iaload, 1) := by decide +kernel
theorem dX11_weighs_174 : decode cX11_weighs 174 = .ok (.iload 5, 2) := by decide +kernel
theorem dX11_weighs_176 : decode cX11_weighs 176 = .ok (.if_icmp .ne 27, 3) := by decide +kernel
theorem dX11_weighs_179 : decode cX11_weighs 179 = .ok (.aload_n 0, 1) := by decide +kernel
theorem dX11_weighs_180 : decode cX11_weighs 180 = .ok (.iload 4, 2) := by decide +kernel
theorem dX11_weighs_182 : decode cX11_weighs 182 = .ok (.iload 8, 2) := by decide +kernel
theorem dX11_weighs_184 : decode cX11_weighs 184 = .ok (.invokevirtual 369, 3) := by decide +kernel
theorem dX11_weighs_187 : decode cX11_weighs 187 = .ok (.ifCond .eq 16, 3) := by decide +kernel
theorem dX11_weighs_190 : decode cX11_weighs 190 = .ok (.lload 6, 2) := by decide +kernel
theorem dX11_weighs_192 : decode cX11_weighs 192 = .ok (.aload_n 0, 1) := by decide +kernel
theorem dX11_weighs_193 : decode cX11_weighs 193 = .ok (.iload 4, 2) := by decide +kernel
theorem dX11_weighs_195 : decode cX11_weighs 195 = .ok (.iload 8, 2) := by decide +kernel
theorem dX11_weighs_197 : decode cX11_weighs 197 = .ok (.invokevirtual 372, 3) := by decide +kernel
theorem dX11_weighs_200 : decode cX11_weighs 200 = .ok (.ladd, 1) := by decide +kernel
theorem dX11_weighs_201 : decode cX11_weighs 201 = .ok (.lstore 6, 2) := by decide +kernel
theorem dX11_weighs_203 : decode cX11_weighs 203 = .ok (.iinc 8 1, 3) := by decide +kernel
theorem dX11_weighs_206 : decode cX11_weighs 206 = .ok (.goto (-59), 3) := by decide +kernel
theorem dX11_weighs_209 : decode cX11_weighs 209 = .ok (.aload_n 0, 1) := by decide +kernel
theorem dX11_weighs_210 : decode cX11_weighs 210 = .ok (.getfield 87, 3) := by decide +kernel
theorem dX11_weighs_213 : decode cX11_weighs 213 = .ok (.iload 5, 2) := by decide +kernel
theorem dX11_weighs_215 : decode cX11_weighs 215 = .ok (.lload 6, 2) := by decide +kernel
theorem dX11_weighs_217 : decode cX11_weighs 217 = .ok (.lconst 0, 1) := by decide +kernel
theorem dX11_weighs_218 : decode cX11_weighs 218 = .ok (.ldc2_w 517, 3) := by decide +kernel
theorem dX11_weighs_221 : decode cX11_weighs 221 = .ok (.invokestatic 148, 3) := by decide +kernel
theorem dX11_weighs_224 : decode cX11_weighs 224 = .ok (.l2i, 1) := by decide +kernel
theorem dX11_weighs_225 : decode cX11_weighs 225 = .ok (.iastore, 1) := by decide +kernel
theorem dX11_weighs_226 : decode cX11_weighs 226 = .ok (.iinc 5 1, 3) := by decide +kernel
theorem dX11_weighs_229 : decode cX11_weighs 229 = .ok (.goto (-94), 3) := by decide +kernel
theorem dX11_weighs_232 : decode cX11_weighs 232 = .ok (.iconst 1, 1) := by decide +kernel
theorem dX11_weighs_233 : decode cX11_weighs 233 = .ok (.ireturn, 1) := by decide +kernel
theorem dX11_weight_0 : decode cX11_weight 0 = .ok (.iload 4, 2) := by decide +kernel
theorem dX11_weight_2 : decode cX11_weight 2 = .ok (.i2l, 1) := by decide +kernel
theorem dX11_weight_3 : decode cX11_weight 3 = .ok (.lconst 0, 1) := by decide +kernel
theorem dX11_weight_4 : decode cX11_weight 4 = .ok (.ldc2_w 422, 3) := by decide +kernel
theorem dX11_weight_7 : decode cX11_weight 7 = .ok (.invokestatic 99, 3) := by decide +kernel
theorem dX11_weight_10 : decode cX11_weight 10 = .ok (.ifCond .eq 23, 3) := by decide +kernel
theorem dX11_weight_13 : decode cX11_weight 13 = .ok (.aload_n 0, 1) := by decide +kernel
theorem dX11_weight_14 : decode cX11_weight 14 = .ok (.iload_n 1, 1) := by decide +kernel
theorem dX11_weight_15 : decode cX11_weight 15 = .ok (.iload_n 2, 1) := by decide +kernel
theorem dX11_weight_16 : decode cX11_weight 16 = .ok (.iload_n 3, 1) := by decide +kernel
theorem dX11_weight_17 : decode cX11_weight 17 = .ok (.invokevirtual 546, 3) := by decide +kernel
theorem dX11_weight_20 : decode cX11_weight 20 = .ok (.ifCond .eq 13, 3) := by decide +kernel
theorem dX11_weight_23 : decode cX11_weight 23 = .ok (.aload_n 0, 1) := by decide +kernel
theorem dX11_weight_24 : decode cX11_weight 24 = .ok (.getfield 87, 3) := by decide +kernel
theorem dX11_weight_27 : decode cX11_weight 27 = .ok (.iload 4, 2) := by decide +kernel
theorem dX11_weight_29 : decode cX11_weight 29 = .ok (.iaload, 1) := by decide +kernel
theorem dX11_weight_30 : decode cX11_weight 30 = .ok (.goto 4, 3) := by decide +kernel
theorem dX11_weight_33 : decode cX11_weight 33 = .ok (.iconst (-1), 1) := by decide +kernel
theorem dX11_weight_34 : decode cX11_weight 34 = .ok (.ireturn, 1) := by decide +kernel
