theorem dX11_term_66 : decode cX11_term 66 = .ok (.aload_n 0, 1) := by decide +kernel
theorem dX11_term_67 : decode cX11_term 67 = .ok (.iload_n 1, 1) := by decide +kernel
theorem dX11_term_68 : decode cX11_term 68 = .ok (.iconst 0, 1) := by decide +kernel
theorem dX11_term_69 : decode cX11_term 69 = .ok (.invokevirtual 250, 3) := by decide +kernel
theorem dX11_term_72 : decode cX11_term 72 = .ok (.goto (-63), 3) := by decide +kernel
theorem dX11_term_75 : decode cX11_term 75 = .ok (.iconst 1, 1) := by decide +kernel
theorem dX11_term_76 : decode cX11_term 76 = .ok (.ireturn, 1) := by decide +kernel
theorem dX11_value_0 : decode cX11_value 0 = .ok (.aload_n 0, 1) := by decide +kernel
theorem dX11_value_1 : decode cX11_value 1 = .ok (.invokevirtual 183, 3) := by decide +kernel
theorem dX11_value_4 : decode cX11_value 4 = .ok (.pop, 1) := by decide +kernel
theorem dX11_value_5 : decode cX11_value 5 = .ok (.aload_n 0, 1) := by decide +kernel
theorem dX11_value_6 : decode cX11_value 6 = .ok (.getfield 180, 3) := by decide +kernel
theorem dX11_value_9 : decode cX11_value 9 = .ok (.istore_n 1, 1) := by decide +kernel
theorem dX11_value_10 : decode cX11_value 10 = .ok (.aload_n 0, 1) := by decide +kernel
theorem dX11_value_11 : decode cX11_value 11 = .ok (.aload_n 0, 1) := by decide +kernel
theorem dX11_value_12 : decode cX11_value 12 = .ok (.getfield 180, 3) := by decide +kernel
theorem dX11_value_15 : decode cX11_value 15 = .ok (.invokevirtual 197, 3) := by decide +kernel
theorem dX11_value_18 : decode cX11_value 18 = .ok (.ifCond .eq 34, 3) := by decide +kernel
theorem dX11_value_21 : decode cX11_value 21 = .ok (.aload_n 0, 1) := by decide +kernel
theorem dX11_value_22 : decode cX11_value 22 = .ok (.iconst 0, 1) := by decide +kernel
theorem dX11_value_23 : decode cX11_value 23 = .ok (.ldc 254, 2) := by decide +kernel
theorem dX11_value_25 : decode cX11_value 25 = .ok (.invokevirtual 255, 3) := by decide +kernel
theorem dX11_value_28 : decode cX11_value 28 = .ok (.ifCond .eq 11, 3) := by decide +kernel
theorem dX11_value_31 : decode cX11_value 31 = .ok (.aload_n 0, 1) := by decide +kernel
theorem dX11_value_32 : decode cX11_value 32 = .ok (.iload_n 1, 1) := by decide +kernel
theorem dX11_value_33 : decode cX11_value 33 = .ok (.invokevirtual 258, 3) := by decide +kernel
theorem dX11_value_36 : decode cX11_value 36 = .ok (.ifCond .ne 5, 3) := by decide +kernel
theorem dX11_value_39 : decode cX11_value 39 = .ok (.iconst 0, 1) := by decide +kernel
theorem dX11_value_40 : decode cX11_value 40 = .ok (.ireturn, 1) := by decide +kernel
theorem dX11_value_41 : decode cX11_value 41 = .ok (.aload_n 0, 1) := by decide +kernel
theorem dX11_value_42 : decode cX11_value 42 = .ok (.iconst 0, 1) := by decide +kernel
theorem dX11_value_43 : decode cX11_value 43 = .ok (.aload_n 0, 1) := by decide +kernel
theorem dX11_value_44 : decode cX11_value 44 = .ok (.getfield 203, 3) := by decide +kernel
theorem dX11_value_47 : decode cX11_value 47 = .ok (.invokevirtual 250, 3) := by decide +kernel
theorem dX11_value_50 : decode cX11_value 50 = .ok (.iconst 1, 1) := by decide +kernel
theorem dX11_value_51 : decode cX11_value 51 = .ok (.ireturn, 1) := by decide +kernel
theorem dX11_value_52 : decode cX11_value 52 = .ok (.aload_n 0, 1) := by decide +kernel
theorem dX11_value_53 : decode cX11_value 53 = .ok (.invokevirtual 261, 3) := by decide +kernel
theorem dX11_value_56 : decode cX11_value 56 = .ok (.istore_n 2, 1) := by decide +kernel
theorem dX11_value_57 : decode cX11_value 57 = .ok (.iload_n 2, 1) := by decide +kernel
theorem dX11_value_58 : decode cX11_value 58 = .ok (.ifCond .ge 10, 3) := by decide +kernel
theorem dX11_value_61 : decode cX11_value 61 = .ok (.aload_n 0, 1) := by decide +kernel
theorem dX11_value_62 : decode cX11_value 62 = .ok (.iconst 0, 1) := by decide +kernel
theorem dX11_value_63 : decode cX11_value 63 = .ok (.iload_n 1, 1) := by decide +kernel
theorem dX11_value_64 : decode cX11_value 64 = .ok (.invokevirtual 200, 3) := by decide +kernel
theorem dX11_value_67 : decode cX11_value 67 = .ok (.ireturn, 1) := by decide +kernel
theorem dX11_value_68 : decode cX11_value 68 = .ok (.aload_n 0, 1) := by decide +kernel
theorem dX11_value_69 : decode cX11_value 69 = .ok (.iload_n 1, 1) := by decide +kernel
theorem dX11_value_70 : decode cX11_value 70 = .ok (.invokevirtual 258, 3) := by decide +kernel
theorem dX11_value_73 : decode cX11_value 73 = .ok (.ifCond .ne 5, 3) := by decide +kernel
theorem dX11_value_76 : decode cX11_value 76 = .ok (.iconst 0, 1) := by decide +kernel
theorem dX11_value_77 : decode cX11_value 77 = .ok (.ireturn, 1) := by decide +kernel
theorem dX11_value_78 : decode cX11_value 78 = .ok (.aload_n 0, 1) := by decide +kernel
theorem dX11_value_79 : decode cX11_value 79 = .ok (.invokevirtual 194, 3) := by decide +kernel
theorem dX11_value_82 : decode cX11_value 82 = .ok (.aload_n 0, 1) := by decide +kernel
theorem dX11_value_83 : decode cX11_value 83 = .ok (.iconst 1, 1) := by decide +kernel
theorem dX11_value_84 : decode cX11_value 84 = .ok (.iload_n 2, 1) := by decide +kernel
theorem dX11_value_85 : decode cX11_value 85 = .ok (.invokevirtual 250, 3) := by decide +kernel
theorem dX11_value_88 : decode cX11_value 88 = .ok (.iconst 1, 1) := by decide +kernel
theorem dX11_value_89 : decode cX11_value 89 = .ok (.ireturn, 1) := by decide +kernel
theorem dX11_wordHere_0 : decode cX11_wordHere 0 = .ok (.aload_n 0, 1) := by decide +kernel
theorem dX11_wordHere_1 : decode cX11_wordHere 1 = .ok (.getfield 206, 3) := by decide +kernel
theorem dX11_wordHere_4 : decode cX11_wordHere 4 = .ok (.bipush 6, 2) := by decide +kernel
theorem dX11_wordHere_6 : decode cX11_wordHere 6 = .ok (.if_icmp .ge 75, 3) := by decide +kernel
theorem dX11_wordHere_9 : decode cX11_wordHere 9 = .ok (.aload_n 0, 1) := by decide +kernel
theorem dX11_wordHere_10 : decode cX11_wordHere 10 = .ok (.ldc2_w 209, 3) := by decide +kernel
theorem dX11_wordHere_13 : decode cX11_wordHere 13 = .ok (.invokevirtual 190, 3) := by decide +kernel
theorem dX11_wordHere_16 : decode cX11_wordHere 16 = .ok (.ifCond .eq 7, 3) := by decide +kernel
theorem dX11_wordHere_19 : decode cX11_wordHere 19 = .ok (.iconst 0, 1) := by decide +kernel
theorem dX11_wordHere_20 : decode cX11_wordHere 20 = .ok (.goto 60, 3) := by decide +kernel
theorem dX11_wordHere_23 : decode cX11_wordHere 23 = .ok (.aload_n 0, 1) := by decide +kernel
theorem dX11_wordHere_24 : decode cX11_wordHere 24 = .ok (.ldc2_w 211, 3) := by decide +kernel
theorem dX11_wordHere_27 : decode cX11_wordHere 27 = .ok (.invokevirtual 190, 3) := by decide +kernel
theorem dX11_wordHere_30 : decode cX11_wordHere 30 = .ok (.ifCond .eq 7, 3) := by decide +kernel
theorem dX11_wordHere_33 : decode cX11_wordHere 33 = .ok (.iconst 1, 1) := by decide +kernel
theorem dX11_wordHere_34 : decode cX11_wordHere 34 = .ok (.goto 46, 3) := by decide +kernel
theorem dX11_wordHere_37 : decode cX11_wordHere 37 = .ok (.aload_n 0, 1) := by decide +kernel
theorem dX11_wordHere_38 : decode cX11_wordHere 38 = .ok (.ldc2_w 213, 3) := by decide +kernel
theorem dX11_wordHere_41 : decode cX11_wordHere 41 = .ok (.invokevirtual 190, 3) := by decide +kernel
theorem dX11_wordHere_44 : decode cX11_wordHere 44 = .ok (.ifCond .eq 7, 3) := by decide +kernel
theorem dX11_wordHere_47 : decode cX11_wordHere 47 = .ok (.iconst 2, 1) := by decide +kernel
theorem dX11_wordHere_48 : decode cX11_wordHere 48 = .ok (.goto 32, 3) := by decide +kernel
theorem dX11_wordHere_51 : decode cX11_wordHere 51 = .ok (.aload_n 0, 1) := by decide +kernel
theorem dX11_wordHere_52 : decode cX11_wordHere 52 = .ok (.ldc2_w 215, 3) := by decide +kernel
theorem dX11_wordHere_55 : decode cX11_wordHere 55 = .ok (.invokevirtual 190, 3) := by decide +kernel
theorem dX11_wordHere_58 : decode cX11_wordHere 58 = .ok (.ifCond .eq 7, 3) := by decide +kernel
theorem dX11_wordHere_61 : decode cX11_wordHere 61 = .ok (.iconst 3, 1) := by decide +kernel
theorem dX11_wordHere_62 : decode cX11_wordHere 62 = .ok (.goto 18, 3) := by decide +kernel
theorem dX11_wordHere_65 : decode cX11_wordHere 65 = .ok (.aload_n 0, 1) := by decide +kernel
theorem dX11_wordHere_66 : decode cX11_wordHere 66 = .ok (.ldc2_w 217, 3) := by decide +kernel
theorem dX11_wordHere_69 : decode cX11_wordHere 69 = .ok (.invokevirtual 190, 3) := by decide +kernel
theorem dX11_wordHere_72 : decode cX11_wordHere 72 = .ok (.ifCond .eq 7, 3) := by decide +kernel
theorem dX11_wordHere_75 : decode cX11_wordHere 75 = .ok (.iconst 4, 1) := by decide +kernel
theorem dX11_wordHere_76 : decode cX11_wordHere 76 = .ok (.goto 4, 3) := by decide +kernel
theorem dX11_wordHere_79 : decode cX11_wordHere 79 = .ok (.iconst (-1), 1) := by decide +kernel
theorem dX11_wordHere_80 : decode cX11_wordHere 80 = .ok (.ireturn, 1) := by decide +kernel
theorem dX11_wordHere_81 : decode cX11_wordHere 81 = .ok (.aload_n 0, 1) := by decide +kernel
theorem dX11_wordHere_82 : decode cX11_wordHere 82 = .ok (.ldc2_w 219, 3) := by decide +kernel
theorem dX11_wordHere_85 : decode cX11_wordHere 85 = .ok (.invokevirtual 190, 3) := by decide +kernel
theorem dX11_wordHere_88 : decode cX11_wordHere 88 = .ok (.ifCond .eq 5, 3) := by decide +kernel
theorem dX11_wordHere_91 : decode cX11_wordHere 91 = .ok (.iconst 0, 1) := by decide +kernel
theorem dX11_wordHere_92 : decode cX11_wordHere 92 = .ok (.ireturn, 1) := by decide +kernel
theorem dX11_wordHere_93 : decode cX11_wordHere 93 = .ok (.aload_n 0, 1) := by decide +kernel
theorem dX11_wordHere_94 : decode cX11_wordHere 94 = .ok (.ldc2_w 221, 3) := by decide +kernel
theorem dX11_wordHere_97 : decode cX11_wordHere 97 = .ok (.invokevirtual 190, 3) := by decide +kernel
theorem dX11_wordHere_100 : decode cX11_wordHere 100 = .ok (.ifCond .eq 5, 3) := by decide +kernel
theorem dX11_wordHere_103 : decode cX11_wordHere 103 = .ok (.iconst 1, 1) := by decide +kernel
theorem dX11_wordHere_104 : decode cX11_wordHere 104 = .ok (.ireturn, 1) := by decide +kernel
theorem dX11_wordHere_105 : decode cX11_wordHere 105 = .ok (.aload_n 0, 1) := by decide +kernel
theorem dX11_wordHere_106 : decode cX11_wordHere 106 = .ok (.ldc2_w 223, 3) := by decide +kernel
theorem dX11_wordHere_109 : decode cX11_wordHere 109 = .ok (.invokevirtual 190, 3) := by decide +kernel
theorem dX11_wordHere_112 : decode cX11_wordHere 112 = .ok (.ifCond .eq 5, 3) := by decide +kernel
theorem dX11_wordHere_115 : decode cX11_wordHere 115 = .ok (.iconst 2, 1) := by decide +kernel
theorem dX11_wordHere_116 : decode cX11_wordHere 116 = .ok (.ireturn, 1) := by decide +kernel
theorem dX11_wordHere_117 : decode cX11_wordHere 117 = .ok (.aload_n 0, 1) := by decide +kernel
theorem dX11_wordHere_118 : decode cX11_wordHere 118 = .ok (.ldc2_w 225, 3) := by decide +kernel
theorem dX11_wordHere_121 : decode cX11_wordHere 121 = .ok (.invokevirtual 190, 3) := by decide +kernel
theorem dX11_wordHere_124 : decode cX11_wordHere 124 = .ok (.ifCond .eq 5, 3) := by decide +kernel
theorem dX11_wordHere_127 : decode cX11_wordHere 127 = .ok (.iconst 3, 1) := by decide +kernel
theorem dX11_wordHere_128 : decode cX11_wordHere 128 = .ok (.ireturn, 1) := by decide +kernel
theorem dX11_wordHere_129 : decode cX11_wordHere 129 = .ok (.aload_n 0, 1) := by decide +kernel
theorem dX11_wordHere_130 : decode cX11_wordHere 130 = .ok (.ldc2_w 227, 3) := by decide +kernel
theorem dX11_wordHere_133 : decode cX11_wordHere 133 = .ok (.invokevirtual 190, 3) := by decide +kernel
theorem dX11_wordHere_136 : decode cX11_wordHere 136 = .ok (.ifCond .eq 5, 3) := by decide +kernel
theorem dX11_wordHere_139 : decode cX11_wordHere 139 = .ok (.iconst 4, 1) := by decide +kernel
theorem dX11_wordHere_140 : decode cX11_wordHere 140 = .ok (.ireturn, 1) := by decide +kernel
theorem dX11_wordHere_141 : decode cX11_wordHere 141 = .ok (.aload_n 0, 1) := by decide +kernel
theorem dX11_wordHere_142 : decode cX11_wordHere 142 = .ok (.ldc2_w 229, 3) := by decide +kernel
theorem dX11_wordHere_145 : decode cX11_wordHere 145 = .ok (.invokevirtual 190, 3) := by decide +kernel
theorem dX11_wordHere_148 : decode cX11_wordHere 148 = .ok (.ifCond .eq 5, 3) := by decide +kernel
theorem dX11_wordHere_151 : decode cX11_wordHere 151 = .ok (.iconst 5, 1) := by decide +kernel
theorem dX11_wordHere_152 : decode cX11_wordHere 152 = .ok (.ireturn, 1) := by decide +kernel
theorem dX11_wordHere_153 : decode cX11_wordHere 153 = .ok (.aload_n 0, 1) := by decide +kernel
theorem dX11_wordHere_154 : decode cX11_wordHere 154 = .ok (.ldc2_w 231, 3) := by decide +kernel
theorem dX11_wordHere_157 : decode cX11_wordHere 157 = .ok (.invokevirtual 190, 3) := by decide +kernel
theorem dX11_wordHere_160 : decode cX11_wordHere 160 = .ok (.ifCond .eq 6, 3) := by decide +kernel
theorem dX11_wordHere_163 : decode cX11_wordHere 163 = .ok (.bipush 6, 2) := by decide +kernel
theorem dX11_wordHere_165 : decode cX11_wordHere 165 = .ok (.ireturn, 1) := by decide +kernel
theorem dX11_wordHere_166 : decode cX11_wordHere 166 = .ok (.aload_n 0, 1) := by decide +kernel
theorem dX11_wordHere_167 : decode cX11_wordHere 167 = .ok (.ldc2_w 233, 3) := by decide +kernel
theorem dX11_wordHere_170 : decode cX11_wordHere 170 = .ok (.invokevirtual 190, 3) := by decide +kernel
theorem dX11_wordHere_173 : decode cX11_wordHere 173 = .ok (.ifCond .eq 6, 3) := by decide +kernel
theorem dX11_wordHere_176 : decode cX11_wordHere 176 = .ok (.bipush 7, 2) := by decide +kernel
theorem dX11_wordHere_178 : decode cX11_wordHere 178 = .ok (.ireturn, 1) := by decide +kernel
theorem dX11_wordHere_179 : decode cX11_wordHere 179 = .ok (.aload_n 0, 1) := by decide +kernel
theorem dX11_wordHere_180 : decode cX11_wordHere 180 = .ok (.ldc2_w 235, 3) := by decide +kernel
theorem dX11_wordHere_183 : decode cX11_wordHere 183 = .ok (.invokevirtual 190, 3) := by decide +kernel
theorem dX11_wordHere_186 : decode cX11_wordHere 186 = .ok (.ifCond .eq 6, 3) := by decide +kernel
theorem dX11_wordHere_189 : decode cX11_wordHere 189 = .ok (.bipush 8, 2) := by decide +kernel
theorem dX11_wordHere_191 : decode cX11_wordHere 191 = .ok (.ireturn, 1) := by decide +kernel
theorem dX11_wordHere_192 : decode cX11_wordHere 192 = .ok (.aload_n 0, 1) := by decide +kernel
theorem dX11_wordHere_193 : decode cX11_wordHere 193 = .ok (.ldc2_w 217, 3) := by decide +kernel
theorem dX11_wordHere_196 : decode cX11_wordHere 196 = .ok (.invokevirtual 190, 3) := by decide +kernel
theorem dX11_wordHere_199 : decode cX11_wordHere 199 = .ok (.ifCond .eq 8, 3) := by decide +kernel
theorem dX11_wordHere_202 : decode cX11_wordHere 202 = .ok (.bipush 9, 2) := by decide +kernel
theorem dX11_wordHere_204 : decode cX11_wordHere 204 = .ok (.goto 4, 3) := by decide +kernel
theorem dX11_wordHere_207 : decode cX11_wordHere 207 = .ok (.iconst (-1), 1) := by decide +kernel
theorem dX11_wordHere_208 : decode cX11_wordHere 208 = .ok (.ireturn, 1) := by decide +kernel
