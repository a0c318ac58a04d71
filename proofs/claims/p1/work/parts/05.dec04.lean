theorem dX11_star_1 : decode cX11_star 1 = .ok (.getfield 7, 3) := by decide +kernel
theorem dX11_star_4 : decode cX11_star 4 = .ok (.iconst 0, 1) := by decide +kernel
theorem dX11_star_5 : decode cX11_star 5 = .ok (.iaload, 1) := by decide +kernel
theorem dX11_star_6 : decode cX11_star 6 = .ok (.bipush 12, 2) := by decide +kernel
theorem dX11_star_8 : decode cX11_star 8 = .ok (.if_icmp .eq 39, 3) := by decide +kernel
theorem dX11_star_11 : decode cX11_star 11 = .ok (.iload_n 1, 1) := by decide +kernel
theorem dX11_star_12 : decode cX11_star 12 = .ok (.i2l, 1) := by decide +kernel
theorem dX11_star_13 : decode cX11_star 13 = .ok (.lconst 1, 1) := by decide +kernel
theorem dX11_star_14 : decode cX11_star 14 = .ok (.ldc2_w 97, 3) := by decide +kernel
theorem dX11_star_17 : decode cX11_star 17 = .ok (.invokestatic 99, 3) := by decide +kernel
theorem dX11_star_20 : decode cX11_star 20 = .ok (.ifCond .eq 27, 3) := by decide +kernel
theorem dX11_star_23 : decode cX11_star 23 = .ok (.iload_n 2, 1) := by decide +kernel
theorem dX11_star_24 : decode cX11_star 24 = .ok (.i2l, 1) := by decide +kernel
theorem dX11_star_25 : decode cX11_star 25 = .ok (.lconst 0, 1) := by decide +kernel
theorem dX11_star_26 : decode cX11_star 26 = .ok (.ldc2_w 103, 3) := by decide +kernel
theorem dX11_star_29 : decode cX11_star 29 = .ok (.invokestatic 99, 3) := by decide +kernel
theorem dX11_star_32 : decode cX11_star 32 = .ok (.ifCond .eq 15, 3) := by decide +kernel
theorem dX11_star_35 : decode cX11_star 35 = .ok (.iload_n 3, 1) := by decide +kernel
theorem dX11_star_36 : decode cX11_star 36 = .ok (.i2l, 1) := by decide +kernel
theorem dX11_star_37 : decode cX11_star 37 = .ok (.lconst 1, 1) := by decide +kernel
theorem dX11_star_38 : decode cX11_star 38 = .ok (.ldc2_w 105, 3) := by decide +kernel
theorem dX11_star_41 : decode cX11_star 41 = .ok (.invokestatic 99, 3) := by decide +kernel
theorem dX11_star_44 : decode cX11_star 44 = .ok (.ifCond .ne 5, 3) := by decide +kernel
theorem dX11_star_47 : decode cX11_star 47 = .ok (.iconst (-1), 1) := by decide +kernel
theorem dX11_star_48 : decode cX11_star 48 = .ok (.ireturn, 1) := by decide +kernel
theorem dX11_star_49 : decode cX11_star 49 = .ok (.aload_n 0, 1) := by decide +kernel
theorem dX11_star_50 : decode cX11_star 50 = .ok (.getfield 7, 3) := by decide +kernel
theorem dX11_star_53 : decode cX11_star 53 = .ok (.iconst 0, 1) := by decide +kernel
theorem dX11_star_54 : decode cX11_star 54 = .ok (.iaload, 1) := by decide +kernel
theorem dX11_star_55 : decode cX11_star 55 = .ok (.istore 4, 2) := by decide +kernel
theorem dX11_star_57 : decode cX11_star 57 = .ok (.aload_n 0, 1) := by decide +kernel
theorem dX11_star_58 : decode cX11_star 58 = .ok (.getfield 7, 3) := by decide +kernel
theorem dX11_star_61 : decode cX11_star 61 = .ok (.iconst 3, 1) := by decide +kernel
theorem dX11_star_62 : decode cX11_star 62 = .ok (.iconst 3, 1) := by decide +kernel
theorem dX11_star_63 : decode cX11_star 63 = .ok (.iload 4, 2) := by decide +kernel
theorem dX11_star_65 : decode cX11_star 65 = .ok (.imul, 1) := by decide +kernel
theorem dX11_star_66 : decode cX11_star 66 = .ok (.iadd, 1) := by decide +kernel
theorem dX11_star_67 : decode cX11_star 67 = .ok (.iload_n 1, 1) := by decide +kernel
theorem dX11_star_68 : decode cX11_star 68 = .ok (.iastore, 1) := by decide +kernel
theorem dX11_star_69 : decode cX11_star 69 = .ok (.aload_n 0, 1) := by decide +kernel
theorem dX11_star_70 : decode cX11_star 70 = .ok (.getfield 7, 3) := by decide +kernel
theorem dX11_star_73 : decode cX11_star 73 = .ok (.iconst 3, 1) := by decide +kernel
theorem dX11_star_74 : decode cX11_star 74 = .ok (.iconst 3, 1) := by decide +kernel
theorem dX11_star_75 : decode cX11_star 75 = .ok (.iload 4, 2) := by decide +kernel
theorem dX11_star_77 : decode cX11_star 77 = .ok (.imul, 1) := by decide +kernel
theorem dX11_star_78 : decode cX11_star 78 = .ok (.iadd, 1) := by decide +kernel
theorem dX11_star_79 : decode cX11_star 79 = .ok (.iconst 1, 1) := by decide +kernel
theorem dX11_star_80 : decode cX11_star 80 = .ok (.iadd, 1) := by decide +kernel
theorem dX11_star_81 : decode cX11_star 81 = .ok (.iload_n 2, 1) := by decide +kernel
theorem dX11_star_82 : decode cX11_star 82 = .ok (.iastore, 1) := by decide +kernel
theorem dX11_star_83 : decode cX11_star 83 = .ok (.aload_n 0, 1) := by decide +kernel
theorem dX11_star_84 : decode cX11_star 84 = .ok (.getfield 7, 3) := by decide +kernel
theorem dX11_star_87 : decode cX11_star 87 = .ok (.iconst 3, 1) := by decide +kernel
theorem dX11_star_88 : decode cX11_star 88 = .ok (.iconst 3, 1) := by decide +kernel
theorem dX11_star_89 : decode cX11_star 89 = .ok (.iload 4, 2) := by decide +kernel
theorem dX11_star_91 : decode cX11_star 91 = .ok (.imul, 1) := by decide +kernel
theorem dX11_star_92 : decode cX11_star 92 = .ok (.iadd, 1) := by decide +kernel
theorem dX11_star_93 : decode cX11_star 93 = .ok (.iconst 2, 1) := by decide +kernel
theorem dX11_star_94 : decode cX11_star 94 = .ok (.iadd, 1) := by decide +kernel
theorem dX11_star_95 : decode cX11_star 95 = .ok (.iload_n 3, 1) := by decide +kernel
theorem dX11_star_96 : decode cX11_star 96 = .ok (.iastore, 1) := by decide +kernel
theorem dX11_star_97 : decode cX11_star 97 = .ok (.iconst 0, 1) := by decide +kernel
theorem dX11_star_98 : decode cX11_star 98 = .ok (.istore 5, 2) := by decide +kernel
theorem dX11_star_100 : decode cX11_star 100 = .ok (.iload 5, 2) := by decide +kernel
theorem dX11_star_102 : decode cX11_star 102 = .ok (.sipush 600, 3) := by decide +kernel
theorem dX11_star_105 : decode cX11_star 105 = .ok (.if_icmp .ge 29, 3) := by decide +kernel
theorem dX11_star_108 : decode cX11_star 108 = .ok (.aload_n 0, 1) := by decide +kernel
theorem dX11_star_109 : decode cX11_star 109 = .ok (.getfield 7, 3) := by decide +kernel
theorem dX11_star_112 : decode cX11_star 112 = .ok (.sipush 315, 3) := by decide +kernel
theorem dX11_star_115 : decode cX11_star 115 = .ok (.sipush 600, 3) := by decide +kernel
theorem dX11_star_118 : decode cX11_star 118 = .ok (.iload 4, 2) := by decide +kernel
theorem dX11_star_120 : decode cX11_star 120 = .ok (.imul, 1) := by decide +kernel
theorem dX11_star_121 : decode cX11_star 121 = .ok (.iadd, 1) := by decide +kernel
theorem dX11_star_122 : decode cX11_star 122 = .ok (.iload 5, 2) := by decide +kernel
theorem dX11_star_124 : decode cX11_star 124 = .ok (.iadd, 1) := by decide +kernel
theorem dX11_star_125 : decode cX11_star 125 = .ok (.ldc 107, 2) := by decide +kernel
theorem dX11_star_127 : decode cX11_star 127 = .ok (.iastore, 1) := by decide +kernel
theorem dX11_star_128 : decode cX11_star 128 = .ok (.iinc 5 1, 3) := by decide +kernel
theorem dX11_star_131 : decode cX11_star 131 = .ok (.goto (-31), 3) := by decide +kernel
theorem dX11_star_134 : decode cX11_star 134 = .ok (.aload_n 0, 1) := by decide +kernel
theorem dX11_star_135 : decode cX11_star 135 = .ok (.getfield 7, 3) := by decide +kernel
theorem dX11_star_138 : decode cX11_star 138 = .ok (.iconst 0, 1) := by decide +kernel
theorem dX11_star_139 : decode cX11_star 139 = .ok (.dup2, 1) := by decide +kernel
theorem dX11_star_140 : decode cX11_star 140 = .ok (.iaload, 1) := by decide +kernel
theorem dX11_star_141 : decode cX11_star 141 = .ok (.iconst 1, 1) := by decide +kernel
theorem dX11_star_142 : decode cX11_star 142 = .ok (.iadd, 1) := by decide +kernel
theorem dX11_star_143 : decode cX11_star 143 = .ok (.iastore, 1) := by decide +kernel
theorem dX11_star_144 : decode cX11_star 144 = .ok (.iload 4, 2) := by decide +kernel
theorem dX11_star_146 : decode cX11_star 146 = .ok (.ireturn, 1) := by decide +kernel
theorem dX11_text_0 : decode cX11_text 0 = .ok (.iload_n 1, 1) := by decide +kernel
theorem dX11_text_1 : decode cX11_text 1 = .ok (.i2l, 1) := by decide +kernel
theorem dX11_text_2 : decode cX11_text 2 = .ok (.lconst 0, 1) := by decide +kernel
theorem dX11_text_3 : decode cX11_text 3 = .ok (.ldc2_w 160, 3) := by decide +kernel
theorem dX11_text_6 : decode cX11_text 6 = .ok (.invokestatic 99, 3) := by decide +kernel
theorem dX11_text_9 : decode cX11_text 9 = .ok (.ifCond .eq 14, 3) := by decide +kernel
theorem dX11_text_12 : decode cX11_text 12 = .ok (.aload_n 0, 1) := by decide +kernel
theorem dX11_text_13 : decode cX11_text 13 = .ok (.getfield 20, 3) := by decide +kernel
theorem dX11_text_16 : decode cX11_text 16 = .ok (.iload_n 1, 1) := by decide +kernel
theorem dX11_text_17 : decode cX11_text 17 = .ok (.iaload, 1) := by decide +kernel
theorem dX11_text_18 : decode cX11_text 18 = .ok (.bipush 6, 2) := by decide +kernel
theorem dX11_text_20 : decode cX11_text 20 = .ok (.if_icmp .ne 5, 3) := by decide +kernel
theorem dX11_text_23 : decode cX11_text 23 = .ok (.iconst (-1), 1) := by decide +kernel
theorem dX11_text_24 : decode cX11_text 24 = .ok (.ireturn, 1) := by decide +kernel
theorem dX11_text_25 : decode cX11_text 25 = .ok (.aload_n 0, 1) := by decide +kernel
theorem dX11_text_26 : decode cX11_text 26 = .ok (.bipush 6, 2) := by decide +kernel
theorem dX11_text_28 : decode cX11_text 28 = .ok (.iload_n 1, 1) := by decide +kernel
theorem dX11_text_29 : decode cX11_text 29 = .ok (.imul, 1) := by decide +kernel
theorem dX11_text_30 : decode cX11_text 30 = .ok (.aload_n 0, 1) := by decide +kernel
theorem dX11_text_31 : decode cX11_text 31 = .ok (.getfield 20, 3) := by decide +kernel
theorem dX11_text_34 : decode cX11_text 34 = .ok (.iload_n 1, 1) := by decide +kernel
theorem dX11_text_35 : decode cX11_text 35 = .ok (.iaload, 1) := by decide +kernel
theorem dX11_text_36 : decode cX11_text 36 = .ok (.iadd, 1) := by decide +kernel
theorem dX11_text_37 : decode cX11_text 37 = .ok (.putfield 206, 3) := by decide +kernel
theorem dX11_text_40 : decode cX11_text 40 = .ok (.aload_n 0, 1) := by decide +kernel
theorem dX11_text_41 : decode cX11_text 41 = .ok (.getfield 26, 3) := by decide +kernel
theorem dX11_text_44 : decode cX11_text 44 = .ok (.aload_n 0, 1) := by decide +kernel
theorem dX11_text_45 : decode cX11_text 45 = .ok (.getfield 206, 3) := by decide +kernel
theorem dX11_text_48 : decode cX11_text 48 = .ok (.iconst 0, 1) := by decide +kernel
theorem dX11_text_49 : decode cX11_text 49 = .ok (.iastore, 1) := by decide +kernel
theorem dX11_text_50 : decode cX11_text 50 = .ok (.aload_n 0, 1) := by decide +kernel
theorem dX11_text_51 : decode cX11_text 51 = .ok (.getfield 32, 3) := by decide +kernel
theorem dX11_text_54 : decode cX11_text 54 = .ok (.aload_n 0, 1) := by decide +kernel
theorem dX11_text_55 : decode cX11_text 55 = .ok (.getfield 206, 3) := by decide +kernel
theorem dX11_text_58 : decode cX11_text 58 = .ok (.iconst 0, 1) := by decide +kernel
theorem dX11_text_59 : decode cX11_text 59 = .ok (.iastore, 1) := by decide +kernel
theorem dX11_text_60 : decode cX11_text 60 = .ok (.aload_n 0, 1) := by decide +kernel
theorem dX11_text_61 : decode cX11_text 61 = .ok (.getfield 35, 3) := by decide +kernel
theorem dX11_text_64 : decode cX11_text 64 = .ok (.aload_n 0, 1) := by decide +kernel
theorem dX11_text_65 : decode cX11_text 65 = .ok (.getfield 206, 3) := by decide +kernel
theorem dX11_text_68 : decode cX11_text 68 = .ok (.iconst (-1), 1) := by decide +kernel
theorem dX11_text_69 : decode cX11_text 69 = .ok (.iastore, 1) := by decide +kernel
theorem dX11_text_70 : decode cX11_text 70 = .ok (.aload_n 0, 1) := by decide +kernel
theorem dX11_text_71 : decode cX11_text 71 = .ok (.getfield 38, 3) := by decide +kernel
theorem dX11_text_74 : decode cX11_text 74 = .ok (.aload_n 0, 1) := by decide +kernel
theorem dX11_text_75 : decode cX11_text 75 = .ok (.getfield 206, 3) := by decide +kernel
theorem dX11_text_78 : decode cX11_text 78 = .ok (.iconst (-1), 1) := by decide +kernel
theorem dX11_text_79 : decode cX11_text 79 = .ok (.iastore, 1) := by decide +kernel
theorem dX11_text_80 : decode cX11_text 80 = .ok (.aload_n 0, 1) := by decide +kernel
theorem dX11_text_81 : decode cX11_text 81 = .ok (.getfield 44, 3) := by decide +kernel
theorem dX11_text_84 : decode cX11_text 84 = .ok (.aload_n 0, 1) := by decide +kernel
theorem dX11_text_85 : decode cX11_text 85 = .ok (.getfield 206, 3) := by decide +kernel
theorem dX11_text_88 : decode cX11_text 88 = .ok (.iconst (-1), 1) := by decide +kernel
theorem dX11_text_89 : decode cX11_text 89 = .ok (.iastore, 1) := by decide +kernel
theorem dX11_text_90 : decode cX11_text 90 = .ok (.aload_n 0, 1) := by decide +kernel
theorem dX11_text_91 : decode cX11_text 91 = .ok (.getfield 50, 3) := by decide +kernel
theorem dX11_text_94 : decode cX11_text 94 = .ok (.aload_n 0, 1) := by decide +kernel
theorem dX11_text_95 : decode cX11_text 95 = .ok (.getfield 206, 3) := by decide +kernel
theorem dX11_text_98 : decode cX11_text 98 = .ok (.iconst (-1), 1) := by decide +kernel
theorem dX11_text_99 : decode cX11_text 99 = .ok (.iastore, 1) := by decide +kernel
theorem dX11_text_100 : decode cX11_text 100 = .ok (.aload_n 0, 1) := by decide +kernel
theorem dX11_text_101 : decode cX11_text 101 = .ok (.getfield 53, 3) := by decide +kernel
theorem dX11_text_104 : decode cX11_text 104 = .ok (.aload_n 0, 1) := by decide +kernel
theorem dX11_text_105 : decode cX11_text 105 = .ok (.getfield 206, 3) := by decide +kernel
theorem dX11_text_108 : decode cX11_text 108 = .ok (.iconst (-1), 1) := by decide +kernel
theorem dX11_text_109 : decode cX11_text 109 = .ok (.iastore, 1) := by decide +kernel
theorem dX11_text_110 : decode cX11_text 110 = .ok (.aload_n 0, 1) := by decide +kernel
theorem dX11_text_111 : decode cX11_text 111 = .ok (.iconst 0, 1) := by decide +kernel
theorem dX11_text_112 : decode cX11_text 112 = .ok (.putfield 335, 3) := by decide +kernel
theorem dX11_text_115 : decode cX11_text 115 = .ok (.aload_n 0, 1) := by decide +kernel
theorem dX11_text_116 : decode cX11_text 116 = .ok (.iconst 0, 1) := by decide +kernel
theorem dX11_text_117 : decode cX11_text 117 = .ok (.putfield 180, 3) := by decide +kernel
theorem dX11_text_120 : decode cX11_text 120 = .ok (.aload_n 0, 1) := by decide +kernel
theorem dX11_text_121 : decode cX11_text 121 = .ok (.iconst 0, 1) := by decide +kernel
theorem dX11_text_122 : decode cX11_text 122 = .ok (.putfield 177, 3) := by decide +kernel
theorem dX11_text_125 : decode cX11_text 125 = .ok (.aload_n 0, 1) := by decide +kernel
theorem dX11_text_126 : decode cX11_text 126 = .ok (.iconst 0, 1) := by decide +kernel
theorem dX11_text_127 : decode cX11_text 127 = .ok (.putfield 237, 3) := by decide +kernel
theorem dX11_text_130 : decode cX11_text 130 = .ok (.aload_n 0, 1) := by decide +kernel
theorem dX11_text_131 : decode cX11_text 131 = .ok (.invokevirtual 344, 3) := by decide +kernel
theorem dX11_text_134 : decode cX11_text 134 = .ok (.istore_n 2, 1) := by decide +kernel
theorem dX11_text_135 : decode cX11_text 135 = .ok (.iload_n 2, 1) := by decide +kernel
theorem dX11_text_136 : decode cX11_text 136 = .ok (.ifCond .eq 30, 3) := by decide +kernel
theorem dX11_text_166 : decode cX11_text 166 = .ok (.iload_n 2, 1) := by decide +kernel
theorem dX11_text_167 : decode cX11_text 167 = .ok (.ifCond .eq 21, 3) := by decide +kernel
theorem dX11_text_188 : decode cX11_text 188 = .ok (.aload_n 0, 1) := by decide +kernel
theorem dX11_text_189 : decode cX11_text 189 = .ok (.iconst 0, 1) := by decide +kernel
theorem dX11_text_190 : decode cX11_text 190 = .ok (.putfield 169, 3) := by decide +kernel
theorem dX11_text_193 : decode cX11_text 193 = .ok (.aload_n 0, 1) := by decide +kernel
theorem dX11_text_194 : decode cX11_text 194 = .ok (.getfield 177, 3) := by decide +kernel
theorem dX11_text_197 : decode cX11_text 197 = .ok (.ifCond .le 11, 3) := by decide +kernel
theorem dX11_text_200 : decode cX11_text 200 = .ok (.bipush (-2), 2) := by decide +kernel
theorem dX11_text_202 : decode cX11_text 202 = .ok (.aload_n 0, 1) := by decide +kernel
theorem dX11_text_203 : decode cX11_text 203 = .ok (.getfield 177, 3) := by decide +kernel
theorem dX11_text_206 : decode cX11_text 206 = .ok (.isub, 1) := by decide +kernel
theorem dX11_text_207 : decode cX11_text 207 = .ok (.ireturn, 1) := by decide +kernel
theorem dX11_tried_0 : decode cX11_tried 0 = .ok (.aload_n 0, 1) := by decide +kernel
theorem dX11_tried_1 : decode cX11_tried 1 = .ok (.iload_n 1, 1) := by decide +kernel
theorem dX11_tried_2 : decode cX11_tried 2 = .ok (.invokevirtual 108, 3) := by decide +kernel
theorem dX11_tried_5 : decode cX11_tried 5 = .ok (.ifCond .eq 75, 3) := by decide +kernel
theorem dX11_tried_80 : decode cX11_tried 80 = .ok (.ldc2_w 424, 3) := by decide +kernel
theorem dX11_tried_83 : decode cX11_tried 83 = .ok (.lreturn, 1) := by decide +kernel
theorem dX11_truly_0 : decode cX11_truly 0 = .ok (.aload_n 0, 1) := by decide +kernel
theorem dX11_truly_1 : decode cX11_truly 1 = .ok (.iconst 1, 1) := by decide +kernel
theorem dX11_truly_2 : decode cX11_truly 2 = .ok (.iload_n 1, 1) := by decide +kernel
theorem dX11_truly_3 : decode cX11_truly 3 = .ok (.invokevirtual 366, 3) := by decide +kernel
theorem dX11_truly_6 : decode cX11_truly 6 = .ok (.ifCond .eq 12, 3) := by decide +kernel
theorem dX11_truly_18 : decode cX11_truly 18 = .ok (.ldc2_w 404, 3) := by decide +kernel
theorem dX11_truly_21 : decode cX11_truly 21 = .ok (.lreturn, 1) := by decide +kernel
theorem dX11_weight_0 : decode cX11_weight 0 = .ok (.iload 4, 2) := by decide +kernel
theorem dX11_weight_2 : decode cX11_weight 2 = .ok (.i2l, 1) := by decide +kernel
theorem dX11_weight_3 : decode cX11_weight 3 = .ok (.lconst 0, 1) := by decide +kernel
theorem dX11_weight_4 : decode cX11_weight 4 = .ok (.ldc2_w 422, 3) := by decide +kernel
theorem dX11_weight_7 : decode cX11_weight 7 = .ok (.invokestatic 99, 3) := by decide +kernel
theorem dX11_weight_10 : decode cX11_weight 10 = .ok (.ifCond .eq 23, 3) := by decide +kernel
theorem dX11_weight_13 : decode cX11_weight 13 = .ok (.aload_n 0, 1) := by decide +kernel
theorem dX11_weight_14 : decode cX11_weight 14 = .ok (.iload_n 1, 1) := by decide +kernel
theorem dX11_weight_15 : decode cX11_weight 15 = .ok (.iload_n 2, 1) := by decide +kernel
theorem dX11_weight_16 : decode cX11_weight 16 = .ok (.iload_n 3, 1) := by decide +kernel
theorem dX11_weight_17 : decode cX11_weight 17 = .ok (.invokevirtual 546, 3) := by decide +kernel
theorem dX11_weight_20 : decode cX11_weight 20 = .ok (.ifCond .eq 13, 3) := by decide +kernel
theorem dX11_weight_33 : decode cX11_weight 33 = .ok (.iconst (-1), 1) := by decide +kernel
theorem dX11_weight_34 : decode cX11_weight 34 = .ok (.ireturn, 1) := by decide +kernel
theorem dX11_wide_0 : decode cX11_wide 0 = .ok (.iload_n 1, 1) := by decide +kernel
theorem dX11_wide_1 : decode cX11_wide 1 = .ok (.i2l, 1) := by decide +kernel
theorem dX11_wide_2 : decode cX11_wide 2 = .ok (.lconst 0, 1) := by decide +kernel
theorem dX11_wide_3 : decode cX11_wide 3 = .ok (.ldc2_w 124, 3) := by decide +kernel
theorem dX11_wide_6 : decode cX11_wide 6 = .ok (.invokestatic 99, 3) := by decide +kernel
theorem dX11_wide_9 : decode cX11_wide 9 = .ok (.ifCond .ne 5, 3) := by decide +kernel
theorem dX11_wide_12 : decode cX11_wide 12 = .ok (.iconst (-1), 1) := by decide +kernel
theorem dX11_wide_13 : decode cX11_wide 13 = .ok (.ireturn, 1) := by decide +kernel
theorem dX11_wide_14 : decode cX11_wide 14 = .ok (.aload_n 0, 1) := by decide +kernel
theorem dX11_wide_15 : decode cX11_wide 15 = .ok (.getfield 7, 3) := by decide +kernel
theorem dX11_wide_18 : decode cX11_wide 18 = .ok (.sipush 7515, 3) := by decide +kernel
theorem dX11_wide_21 : decode cX11_wide 21 = .ok (.iaload, 1) := by decide +kernel
theorem dX11_wide_22 : decode cX11_wide 22 = .ok (.istore_n 2, 1) := by decide +kernel
theorem dX11_wide_23 : decode cX11_wide 23 = .ok (.aload_n 0, 1) := by decide +kernel
theorem dX11_wide_24 : decode cX11_wide 24 = .ok (.getfield 7, 3) := by decide +kernel
theorem dX11_wide_27 : decode cX11_wide 27 = .ok (.sipush 7515, 3) := by decide +kernel
theorem dX11_wide_30 : decode cX11_wide 30 = .ok (.iload_n 1, 1) := by decide +kernel
theorem dX11_wide_31 : decode cX11_wide 31 = .ok (.iastore, 1) := by decide +kernel
theorem dX11_wide_32 : decode cX11_wide 32 = .ok (.iload_n 2, 1) := by decide +kernel
theorem dX11_wide_33 : decode cX11_wide 33 = .ok (.ireturn, 1) := by decide +kernel
theorem dX11_world_0 : decode cX11_world 0 = .ok (.aload_n 0, 1) := by decide +kernel
theorem dX11_world_1 : decode cX11_world 1 = .ok (.getfield 7, 3) := by decide +kernel
theorem dX11_world_4 : decode cX11_world 4 = .ok (.iconst 1, 1) := by decide +kernel
theorem dX11_world_5 : decode cX11_world 5 = .ok (.iaload, 1) := by decide +kernel
theorem dX11_world_6 : decode cX11_world 6 = .ok (.bipush 40, 2) := by decide +kernel
theorem dX11_world_8 : decode cX11_world 8 = .ok (.if_icmp .eq 69, 3) := by decide +kernel
theorem dX11_world_11 : decode cX11_world 11 = .ok (.aload_n 0, 1) := by decide +kernel
theorem dX11_world_12 : decode cX11_world 12 = .ok (.iload_n 1, 1) := by decide +kernel
theorem dX11_world_13 : decode cX11_world 13 = .ok (.invokevirtual 108, 3) := by decide +kernel
theorem dX11_world_16 : decode cX11_world 16 = .ok (.ifCond .eq 61, 3) := by decide +kernel
theorem dX11_world_77 : decode cX11_world 77 = .ok (.iconst (-1), 1) := by decide +kernel
theorem dX11_world_78 : decode cX11_world 78 = .ok (.ireturn, 1) := by decide +kernel
theorem dX1_init_0 : decode cX1_init 0 = .ok (.aload_n 0, 1) := by decide +kernel
theorem dX1_init_1 : decode cX1_init 1 = .ok (.invokespecial 3, 3) := by decide +kernel
theorem dX1_init_4 : decode cX1_init 4 = .ok (.return_, 1) := by decide +kernel
theorem dX2_init_0 : decode cX2_init 0 = .ok (.aload_n 0, 1) := by decide +kernel
theorem dX2_init_1 : decode cX2_init 1 = .ok (.invokespecial 3, 3) := by decide +kernel
theorem dX2_init_4 : decode cX2_init 4 = .ok (.aload_n 0, 1) := by decide +kernel
theorem dX2_init_5 : decode cX2_init 5 = .ok (.sipush 600, 3) := by decide +kernel
theorem dX2_init_8 : decode cX2_init 8 = .ok (.newarray .int, 2) := by decide +kernel
theorem dX2_init_10 : decode cX2_init 10 = .ok (.putfield 9, 3) := by decide +kernel
theorem dX2_init_13 : decode cX2_init 13 = .ok (.aload_n 0, 1) := by decide +kernel
theorem dX2_init_14 : decode cX2_init 14 = .ok (.sipush 600, 3) := by decide +kernel
theorem dX2_init_17 : decode cX2_init 17 = .ok (.newarray .int, 2) := by decide +kernel
theorem dX2_init_19 : decode cX2_init 19 = .ok (.putfield 15, 3) := by decide +kernel
theorem dX2_init_22 : decode cX2_init 22 = .ok (.aload_n 0, 1) := by decide +kernel
theorem dX2_init_23 : decode cX2_init 23 = .ok (.sipush 600, 3) := by decide +kernel
theorem dX2_init_26 : decode cX2_init 26 = .ok (.newarray .int, 2) := by decide +kernel
theorem dX2_init_28 : decode cX2_init 28 = .ok (.putfield 18, 3) := by decide +kernel
theorem dX2_init_31 : decode cX2_init 31 = .ok (.return_, 1) := by decide +kernel
theorem dX3_init_0 : decode cX3_init 0 = .ok (.aload_n 0, 1) := by decide +kernel
theorem dX3_init_1 : decode cX3_init 1 = .ok (.invokespecial 3, 3) := by decide +kernel
theorem dX3_init_4 : decode cX3_init 4 = .ok (.aload_n 0, 1) := by decide +kernel
theorem dX3_init_5 : decode cX3_init 5 = .ok (.iconst 0, 1) := by decide +kernel
theorem dX3_init_6 : decode cX3_init 6 = .ok (.newarray .byte, 2) := by decide +kernel
theorem dX3_init_8 : decode cX3_init 8 = .ok (.putfield 9, 3) := by decide +kernel
theorem dX3_init_11 : decode cX3_init 11 = .ok (.aload_n 0, 1) := by decide +kernel
theorem dX3_init_12 : decode cX3_init 12 = .ok (.ldc 15, 2) := by decide +kernel
theorem dX3_init_14 : decode cX3_init 14 = .ok (.putfield 17, 3) := by decide +kernel
theorem dX3_init_17 : decode cX3_init 17 = .ok (.aload_n 0, 1) := by decide +kernel
theorem dX3_init_18 : decode cX3_init 18 = .ok (.new 21, 3) := by decide +kernel
theorem dX3_init_21 : decode cX3_init 21 = .ok (.dup, 1) := by decide +kernel
theorem dX3_init_22 : decode cX3_init 22 = .ok (.invokespecial 23, 3) := by decide +kernel
theorem dX3_init_25 : decode cX3_init 25 = .ok (.putfield 24, 3) := by decide +kernel
theorem dX3_init_28 : decode cX3_init 28 = .ok (.return_, 1) := by decide +kernel
theorem dX3_read_0 : decode cX3_read 0 = .ok (.aload_n 0, 1) := by decide +kernel
theorem dX3_read_1 : decode cX3_read 1 = .ok (.aload_n 1, 1) := by decide +kernel
theorem dX3_read_2 : decode cX3_read 2 = .ok (.putfield 9, 3) := by decide +kernel
theorem dX3_read_5 : decode cX3_read 5 = .ok (.aload_n 0, 1) := by decide +kernel
theorem dX3_read_6 : decode cX3_read 6 = .ok (.iload_n 2, 1) := by decide +kernel
theorem dX3_read_7 : decode cX3_read 7 = .ok (.aload_n 1, 1) := by decide +kernel
theorem dX3_read_8 : decode cX3_read 8 = .ok (.arraylength, 1) := by decide +kernel
theorem dX3_read_9 : decode cX3_read 9 = .ok (.invokestatic 28, 3) := by decide +kernel
theorem dX3_read_12 : decode cX3_read 12 = .ok (.putfield 34, 3) := by decide +kernel
theorem dX3_read_15 : decode cX3_read 15 = .ok (.aload_n 0, 1) := by decide +kernel
theorem dX3_read_16 : decode cX3_read 16 = .ok (.iconst 0, 1) := by decide +kernel
theorem dX3_read_17 : decode cX3_read 17 = .ok (.putfield 38, 3) := by decide +kernel
theorem dX3_read_20 : decode cX3_read 20 = .ok (.aload_n 0, 1) := by decide +kernel
theorem dX3_read_21 : decode cX3_read 21 = .ok (.iconst 0, 1) := by decide +kernel
theorem dX3_read_22 : decode cX3_read 22 = .ok (.putfield 41, 3) := by decide +kernel
theorem dX3_read_25 : decode cX3_read 25 = .ok (.aload_n 0, 1) := by decide +kernel
theorem dX3_read_26 : decode cX3_read 26 = .ok (.iconst 0, 1) := by decide +kernel
theorem dX3_read_27 : decode cX3_read 27 = .ok (.putfield 44, 3) := by decide +kernel
theorem dX3_read_30 : decode cX3_read 30 = .ok (.aload_n 0, 1) := by decide +kernel
theorem dX3_read_31 : decode cX3_read 31 = .ok (.iconst 0, 1) := by decide +kernel
theorem dX3_read_32 : decode cX3_read 32 = .ok (.putfield 47, 3) := by decide +kernel
theorem dX3_read_35 : decode cX3_read 35 = .ok (.aload_n 0, 1) := by decide +kernel
theorem dX3_read_36 : decode cX3_read 36 = .ok (.iload_n 3, 1) := by decide +kernel
theorem dX3_read_37 : decode cX3_read 37 = .ok (.ifCond .ne 8, 3) := by decide +kernel
theorem dX3_read_40 : decode cX3_read 40 = .ok (.ldc 50, 2) := by decide +kernel
theorem dX3_read_42 : decode cX3_read 42 = .ok (.goto 5, 3) := by decide +kernel
theorem dX3_read_45 : decode cX3_read 45 = .ok (.ldc 52, 2) := by decide +kernel
theorem dX3_read_47 : decode cX3_read 47 = .ok (.putfield 17, 3) := by decide +kernel
theorem dX3_read_50 : decode cX3_read 50 = .ok (.aload_n 0, 1) := by decide +kernel
theorem dX3_read_51 : decode cX3_read 51 = .ok (.getfield 54, 3) := by decide +kernel
theorem dX3_read_54 : decode cX3_read 54 = .ok (.ifCond .eq 19, 3) := by decide +kernel
theorem dX3_read_73 : decode cX3_read 73 = .ok (.aload_n 0, 1) := by decide +kernel
theorem dX3_read_74 : decode cX3_read 74 = .ok (.getfield 24, 3) := by decide +kernel
theorem dX3_read_77 : decode cX3_read 77 = .ok (.invokevirtual 58, 3) := by decide +kernel
theorem dX3_read_80 : decode cX3_read 80 = .ok (.aload_n 0, 1) := by decide +kernel
theorem dX3_read_81 : decode cX3_read 81 = .ok (.invokevirtual 61, 3) := by decide +kernel
theorem dX3_read_84 : decode cX3_read 84 = .ok (.iconst 0, 1) := by decide +kernel
theorem dX3_read_85 : decode cX3_read 85 = .ok (.istore 4, 2) := by decide +kernel
theorem dX3_read_87 : decode cX3_read 87 = .ok (.iload 4, 2) := by decide +kernel
theorem dX3_read_89 : decode cX3_read 89 = .ok (.sipush 400, 3) := by decide +kernel
theorem dX3_read_92 : decode cX3_read 92 = .ok (.if_icmp .gt 49, 3) := by decide +kernel
theorem dX3_read_95 : decode cX3_read 95 = .ok (.aload_n 0, 1) := by decide +kernel
theorem dX3_read_96 : decode cX3_read 96 = .ok (.getfield 41, 3) := by decide +kernel
theorem dX3_read_99 : decode cX3_read 99 = .ok (.ifCond .ne 42, 3) := by decide +kernel
theorem dX3_read_102 : decode cX3_read 102 = .ok (.aload_n 0, 1) := by decide +kernel
theorem dX3_read_103 : decode cX3_read 103 = .ok (.iload_n 3, 1) := by decide +kernel
theorem dX3_read_104 : decode cX3_read 104 = .ok (.iload 4, 2) := by decide +kernel
theorem dX3_read_106 : decode cX3_read 106 = .ok (.invokevirtual 64, 3) := by decide +kernel
theorem dX3_read_109 : decode cX3_read 109 = .ok (.aload_n 0, 1) := by decide +kernel
theorem dX3_read_110 : decode cX3_read 110 = .ok (.getfield 41, 3) := by decide +kernel
theorem dX3_read_113 : decode cX3_read 113 = .ok (.ifCond .ne 28, 3) := by decide +kernel
theorem dX3_read_141 : decode cX3_read 141 = .ok (.aload_n 0, 1) := by decide +kernel
theorem dX3_read_142 : decode cX3_read 142 = .ok (.getfield 41, 3) := by decide +kernel
theorem dX3_read_145 : decode cX3_read 145 = .ok (.ireturn, 1) := by decide +kernel
theorem dX3_readClause_0 : decode cX3_readClause 0 = .ok (.iload_n 1, 1) := by decide +kernel
theorem dX3_readClause_1 : decode cX3_readClause 1 = .ok (.ifCond .ne 8, 3) := by decide +kernel
theorem dX3_readClause_4 : decode cX3_readClause 4 = .ok (.ldc 93, 2) := by decide +kernel
theorem dX3_readClause_6 : decode cX3_readClause 6 = .ok (.goto 15, 3) := by decide +kernel
theorem dX3_readClause_9 : decode cX3_readClause 9 = .ok (.iload_n 1, 1) := by decide +kernel
theorem dX3_readClause_10 : decode cX3_readClause 10 = .ok (.iconst 1, 1) := by decide +kernel
theorem dX3_readClause_11 : decode cX3_readClause 11 = .ok (.if_icmp .ne 8, 3) := by decide +kernel
theorem dX3_readClause_14 : decode cX3_readClause 14 = .ok (.ldc 95, 2) := by decide +kernel
theorem dX3_readClause_16 : decode cX3_readClause 16 = .ok (.goto 5, 3) := by decide +kernel
theorem dX3_readClause_19 : decode cX3_readClause 19 = .ok (.ldc 97, 2) := by decide +kernel
theorem dX3_readClause_21 : decode cX3_readClause 21 = .ok (.astore_n 3, 1) := by decide +kernel
theorem dX3_readClause_22 : decode cX3_readClause 22 = .ok (.aload_n 0, 1) := by decide +kernel
theorem dX3_readClause_23 : decode cX3_readClause 23 = .ok (.aload_n 3, 1) := by decide +kernel
theorem dX3_readClause_24 : decode cX3_readClause 24 = .ok (.invokevirtual 99, 3) := by decide +kernel
theorem dX3_readClause_27 : decode cX3_readClause 27 = .ok (.istore 4, 2) := by decide +kernel
theorem dX3_readClause_29 : decode cX3_readClause 29 = .ok (.iload_n 1, 1) := by decide +kernel
theorem dX3_readClause_30 : decode cX3_readClause 30 = .ok (.ifCond .ne 13, 3) := by decide +kernel
theorem dX3_readClause_33 : decode cX3_readClause 33 = .ok (.iload 4, 2) := by decide +kernel
theorem dX3_readClause_35 : decode cX3_readClause 35 = .ok (.iconst 1, 1) := by decide +kernel
theorem dX3_readClause_36 : decode cX3_readClause 36 = .ok (.if_icmp .ne 7, 3) := by decide +kernel
theorem dX3_readClause_43 : decode cX3_readClause 43 = .ok (.iconst 0, 1) := by decide +kernel
theorem dX3_readClause_44 : decode cX3_readClause 44 = .ok (.istore 5, 2) := by decide +kernel
theorem dX3_readClause_46 : decode cX3_readClause 46 = .ok (.iload_n 1, 1) := by decide +kernel
theorem dX3_readClause_47 : decode cX3_readClause 47 = .ok (.iconst 1, 1) := by decide +kernel
theorem dX3_readClause_48 : decode cX3_readClause 48 = .ok (.if_icmp .eq 8, 3) := by decide +kernel
theorem dX3_readClause_51 : decode cX3_readClause 51 = .ok (.iload 5, 2) := by decide +kernel
theorem dX3_readClause_53 : decode cX3_readClause 53 = .ok (.ifCond .eq 7, 3) := by decide +kernel
theorem dX3_readClause_56 : decode cX3_readClause 56 = .ok (.iconst 1, 1) := by decide +kernel
theorem dX3_readClause_57 : decode cX3_readClause 57 = .ok (.goto 4, 3) := by decide +kernel
theorem dX3_readClause_60 : decode cX3_readClause 60 = .ok (.iconst 0, 1) := by decide +kernel
theorem dX3_readClause_61 : decode cX3_readClause 61 = .ok (.istore 6, 2) := by decide +kernel
theorem dX3_readClause_63 : decode cX3_readClause 63 = .ok (.iload 4, 2) := by decide +kernel
theorem dX3_readClause_65 : decode cX3_readClause 65 = .ok (.iconst (-1), 1) := by decide +kernel
theorem dX3_readClause_66 : decode cX3_readClause 66 = .ok (.if_icmp .ne 9, 3) := by decide +kernel
theorem dX3_readClause_69 : decode cX3_readClause 69 = .ok (.aload_n 0, 1) := by decide +kernel
theorem dX3_readClause_70 : decode cX3_readClause 70 = .ok (.iconst 0, 1) := by decide +kernel
theorem dX3_readClause_71 : decode cX3_readClause 71 = .ok (.invokevirtual 78, 3) := by decide +kernel
theorem dX3_readClause_74 : decode cX3_readClause 74 = .ok (.return_, 1) := by decide +kernel
theorem dX3_setFault_0 : decode cX3_setFault 0 = .ok (.aload_n 0, 1) := by decide +kernel
theorem dX3_setFault_1 : decode cX3_setFault 1 = .ok (.getfield 41, 3) := by decide +kernel
theorem dX3_setFault_4 : decode cX3_setFault 4 = .ok (.ifCond .ne 18, 3) := by decide +kernel
theorem dX3_setFault_7 : decode cX3_setFault 7 = .ok (.aload_n 0, 1) := by decide +kernel
theorem dX3_setFault_8 : decode cX3_setFault 8 = .ok (.iconst 1, 1) := by decide +kernel
theorem dX3_setFault_9 : decode cX3_setFault 9 = .ok (.bipush 8, 2) := by decide +kernel
theorem dX3_setFault_11 : decode cX3_setFault 11 = .ok (.aload_n 0, 1) := by decide +kernel
theorem dX3_setFault_12 : decode cX3_setFault 12 = .ok (.getfield 75, 3) := by decide +kernel
theorem dX3_setFault_15 : decode cX3_setFault 15 = .ok (.imul, 1) := by decide +kernel
theorem dX3_setFault_16 : decode cX3_setFault 16 = .ok (.iadd, 1) := by decide +kernel
theorem dX3_setFault_17 : decode cX3_setFault 17 = .ok (.iload_n 1, 1) := by decide +kernel
theorem dX3_setFault_18 : decode cX3_setFault 18 = .ok (.iadd, 1) := by decide +kernel
theorem dX3_setFault_19 : decode cX3_setFault 19 = .ok (.putfield 41, 3) := by decide +kernel
theorem dX3_setFault_22 : decode cX3_setFault 22 = .ok (.return_, 1) := by decide +kernel
theorem dX3_step_0 : decode cX3_step 0 = .ok (.aload_n 0, 1) := by decide +kernel
theorem dX3_step_1 : decode cX3_step 1 = .ok (.getfield 38, 3) := by decide +kernel
theorem dX3_step_4 : decode cX3_step 4 = .ok (.aload_n 0, 1) := by decide +kernel
theorem dX3_step_5 : decode cX3_step 5 = .ok (.getfield 34, 3) := by decide +kernel
theorem dX3_step_8 : decode cX3_step 8 = .ok (.if_icmp .ge 30, 3) := by decide +kernel
theorem dX3_step_38 : decode cX3_step 38 = .ok (.aload_n 0, 1) := by decide +kernel
theorem dX3_step_39 : decode cX3_step 39 = .ok (.aload_n 0, 1) := by decide +kernel
theorem dX3_step_40 : decode cX3_step 40 = .ok (.getfield 38, 3) := by decide +kernel
theorem dX3_step_43 : decode cX3_step 43 = .ok (.putfield 75, 3) := by decide +kernel
theorem dX3_step_46 : decode cX3_step 46 = .ok (.aload_n 0, 1) := by decide +kernel
theorem dX3_step_47 : decode cX3_step 47 = .ok (.getfield 38, 3) := by decide +kernel
theorem dX3_step_50 : decode cX3_step 50 = .ok (.aload_n 0, 1) := by decide +kernel
theorem dX3_step_51 : decode cX3_step 51 = .ok (.getfield 34, 3) := by decide +kernel
theorem dX3_step_54 : decode cX3_step 54 = .ok (.if_icmp .ge 19, 3) := by decide +kernel
theorem dX3_step_73 : decode cX3_step 73 = .ok (.sipush 256, 3) := by decide +kernel
theorem dX3_step_76 : decode cX3_step 76 = .ok (.istore_n 1, 1) := by decide +kernel
theorem dX3_step_77 : decode cX3_step 77 = .ok (.iload_n 1, 1) := by decide +kernel
