theorem dX11_isPut_21 : decode cX11_isPut 21 = .ok (.if_icmp .ne 7, 3) := by decide +kernel
theorem dX11_isPut_24 : decode cX11_isPut 24 = .ok (.iconst 1, 1) := by decide +kernel
theorem dX11_isPut_25 : decode cX11_isPut 25 = .ok (.goto 4, 3) := by decide +kernel
theorem dX11_isPut_28 : decode cX11_isPut 28 = .ok (.iconst 0, 1) := by decide +kernel
theorem dX11_isPut_29 : decode cX11_isPut 29 = .ok (.ireturn, 1) := by decide +kernel
theorem dX11_isRound_0 : decode cX11_isRound 0 = .ok (.iconst 0, 1) := by decide +kernel
theorem dX11_isRound_1 : decode cX11_isRound 1 = .ok (.istore_n 2, 1) := by decide +kernel
theorem dX11_isRound_2 : decode cX11_isRound 2 = .ok (.iconst (-1), 1) := by decide +kernel
theorem dX11_isRound_3 : decode cX11_isRound 3 = .ok (.istore_n 3, 1) := by decide +kernel
theorem dX11_isRound_4 : decode cX11_isRound 4 = .ok (.aload_n 0, 1) := by decide +kernel
theorem dX11_isRound_5 : decode cX11_isRound 5 = .ok (.getfield 464, 3) := by decide +kernel
theorem dX11_isRound_8 : decode cX11_isRound 8 = .ok (.iload_n 3, 1) := by decide +kernel
theorem dX11_isRound_9 : decode cX11_isRound 9 = .ok (.iload_n 1, 1) := by decide +kernel
theorem dX11_isRound_10 : decode cX11_isRound 10 = .ok (.iadd, 1) := by decide +kernel
theorem dX11_isRound_11 : decode cX11_isRound 11 = .ok (.aload_n 0, 1) := by decide +kernel
theorem dX11_isRound_12 : decode cX11_isRound 12 = .ok (.getfield 458, 3) := by decide +kernel
theorem dX11_isRound_15 : decode cX11_isRound 15 = .ok (.imul, 1) := by decide +kernel
theorem dX11_isRound_16 : decode cX11_isRound 16 = .ok (.iadd, 1) := by decide +kernel
theorem dX11_isRound_17 : decode cX11_isRound 17 = .ok (.sipush 600, 3) := by decide +kernel
theorem dX11_isRound_20 : decode cX11_isRound 20 = .ok (.if_icmp .ge 49, 3) := by decide +kernel
theorem dX11_isRound_23 : decode cX11_isRound 23 = .ok (.aload_n 0, 1) := by decide +kernel
theorem dX11_isRound_24 : decode cX11_isRound 24 = .ok (.iload_n 3, 1) := by decide +kernel
theorem dX11_isRound_25 : decode cX11_isRound 25 = .ok (.invokevirtual 561, 3) := by decide +kernel
theorem dX11_isRound_28 : decode cX11_isRound 28 = .ok (.ifCond .eq 35, 3) := by decide +kernel
theorem dX11_isRound_31 : decode cX11_isRound 31 = .ok (.aload_n 0, 1) := by decide +kernel
theorem dX11_isRound_32 : decode cX11_isRound 32 = .ok (.iload_n 3, 1) := by decide +kernel
theorem dX11_isRound_33 : decode cX11_isRound 33 = .ok (.iload_n 1, 1) := by decide +kernel
theorem dX11_isRound_34 : decode cX11_isRound 34 = .ok (.iadd, 1) := by decide +kernel
theorem dX11_isRound_35 : decode cX11_isRound 35 = .ok (.invokevirtual 561, 3) := by decide +kernel
theorem dX11_isRound_38 : decode cX11_isRound 38 = .ok (.ifCond .ne 6, 3) := by decide +kernel
theorem dX11_isRound_41 : decode cX11_isRound 41 = .ok (.goto 22, 3) := by decide +kernel
theorem dX11_isRound_44 : decode cX11_isRound 44 = .ok (.iconst 1, 1) := by decide +kernel
theorem dX11_isRound_45 : decode cX11_isRound 45 = .ok (.istore_n 2, 1) := by decide +kernel
theorem dX11_isRound_46 : decode cX11_isRound 46 = .ok (.aload_n 0, 1) := by decide +kernel
theorem dX11_isRound_47 : decode cX11_isRound 47 = .ok (.iload_n 3, 1) := by decide +kernel
theorem dX11_isRound_48 : decode cX11_isRound 48 = .ok (.invokevirtual 526, 3) := by decide +kernel
theorem dX11_isRound_51 : decode cX11_isRound 51 = .ok (.aload_n 0, 1) := by decide +kernel
theorem dX11_isRound_52 : decode cX11_isRound 52 = .ok (.iload_n 3, 1) := by decide +kernel
theorem dX11_isRound_53 : decode cX11_isRound 53 = .ok (.iload_n 1, 1) := by decide +kernel
theorem dX11_isRound_54 : decode cX11_isRound 54 = .ok (.iadd, 1) := by decide +kernel
theorem dX11_isRound_55 : decode cX11_isRound 55 = .ok (.invokevirtual 526, 3) := by decide +kernel
theorem dX11_isRound_58 : decode cX11_isRound 58 = .ok (.if_icmp .eq 5, 3) := by decide +kernel
theorem dX11_isRound_61 : decode cX11_isRound 61 = .ok (.iconst 0, 1) := by decide +kernel
theorem dX11_isRound_62 : decode cX11_isRound 62 = .ok (.ireturn, 1) := by decide +kernel
theorem dX11_isRound_63 : decode cX11_isRound 63 = .ok (.iinc 3 1, 3) := by decide +kernel
theorem dX11_isRound_66 : decode cX11_isRound 66 = .ok (.goto (-62), 3) := by decide +kernel
theorem dX11_isRound_69 : decode cX11_isRound 69 = .ok (.iload_n 2, 1) := by decide +kernel
theorem dX11_isRound_70 : decode cX11_isRound 70 = .ok (.ireturn, 1) := by decide +kernel
theorem dX11_isSeen_0 : decode cX11_isSeen 0 = .ok (.aload_n 0, 1) := by decide +kernel
theorem dX11_isSeen_1 : decode cX11_isSeen 1 = .ok (.getfield 455, 3) := by decide +kernel
theorem dX11_isSeen_4 : decode cX11_isSeen 4 = .ok (.aload_n 0, 1) := by decide +kernel
theorem dX11_isSeen_5 : decode cX11_isSeen 5 = .ok (.getfield 53, 3) := by decide +kernel
theorem dX11_isSeen_8 : decode cX11_isSeen 8 = .ok (.bipush 6, 2) := by decide +kernel
theorem dX11_isSeen_10 : decode cX11_isSeen 10 = .ok (.iload_n 1, 1) := by decide +kernel
theorem dX11_isSeen_11 : decode cX11_isSeen 11 = .ok (.iadd, 1) := by decide +kernel
theorem dX11_isSeen_12 : decode cX11_isSeen 12 = .ok (.iaload, 1) := by decide +kernel
theorem dX11_isSeen_13 : decode cX11_isSeen 13 = .ok (.i2l, 1) := by decide +kernel
theorem dX11_isSeen_14 : decode cX11_isSeen 14 = .ok (.lcmp, 1) := by decide +kernel
theorem dX11_isSeen_15 : decode cX11_isSeen 15 = .ok (.ifCond .lt 7, 3) := by decide +kernel
theorem dX11_isSeen_18 : decode cX11_isSeen 18 = .ok (.iconst 1, 1) := by decide +kernel
theorem dX11_isSeen_19 : decode cX11_isSeen 19 = .ok (.goto 4, 3) := by decide +kernel
theorem dX11_isSeen_22 : decode cX11_isSeen 22 = .ok (.iconst 0, 1) := by decide +kernel
theorem dX11_isSeen_23 : decode cX11_isSeen 23 = .ok (.ireturn, 1) := by decide +kernel
theorem dX11_lateness_0 : decode cX11_lateness 0 = .ok (.bipush 9, 2) := by decide +kernel
theorem dX11_lateness_2 : decode cX11_lateness 2 = .ok (.istore_n 1, 1) := by decide +kernel
theorem dX11_lateness_3 : decode cX11_lateness 3 = .ok (.bipush (-9), 2) := by decide +kernel
theorem dX11_lateness_5 : decode cX11_lateness 5 = .ok (.istore_n 2, 1) := by decide +kernel
theorem dX11_lateness_6 : decode cX11_lateness 6 = .ok (.iconst (-1), 1) := by decide +kernel
theorem dX11_lateness_7 : decode cX11_lateness 7 = .ok (.istore_n 3, 1) := by decide +kernel
theorem dX11_lateness_8 : decode cX11_lateness 8 = .ok (.aload_n 0, 1) := by decide +kernel
theorem dX11_lateness_9 : decode cX11_lateness 9 = .ok (.getfield 464, 3) := by decide +kernel
theorem dX11_lateness_12 : decode cX11_lateness 12 = .ok (.iload_n 3, 1) := by decide +kernel
theorem dX11_lateness_13 : decode cX11_lateness 13 = .ok (.aload_n 0, 1) := by decide +kernel
theorem dX11_lateness_14 : decode cX11_lateness 14 = .ok (.getfield 458, 3) := by decide +kernel
theorem dX11_lateness_17 : decode cX11_lateness 17 = .ok (.imul, 1) := by decide +kernel
theorem dX11_lateness_18 : decode cX11_lateness 18 = .ok (.iadd, 1) := by decide +kernel
theorem dX11_lateness_19 : decode cX11_lateness 19 = .ok (.sipush 600, 3) := by decide +kernel
theorem dX11_lateness_22 : decode cX11_lateness 22 = .ok (.if_icmp .ge 67, 3) := by decide +kernel
theorem dX11_lateness_25 : decode cX11_lateness 25 = .ok (.aload_n 0, 1) := by decide +kernel
theorem dX11_lateness_26 : decode cX11_lateness 26 = .ok (.aload_n 0, 1) := by decide +kernel
theorem dX11_lateness_27 : decode cX11_lateness 27 = .ok (.getfield 464, 3) := by decide +kernel
theorem dX11_lateness_30 : decode cX11_lateness 30 = .ok (.iload_n 3, 1) := by decide +kernel
theorem dX11_lateness_31 : decode cX11_lateness 31 = .ok (.aload_n 0, 1) := by decide +kernel
theorem dX11_lateness_32 : decode cX11_lateness 32 = .ok (.getfield 458, 3) := by decide +kernel
theorem dX11_lateness_35 : decode cX11_lateness 35 = .ok (.imul, 1) := by decide +kernel
theorem dX11_lateness_36 : decode cX11_lateness 36 = .ok (.iadd, 1) := by decide +kernel
theorem dX11_lateness_37 : decode cX11_lateness 37 = .ok (.aload_n 0, 1) := by decide +kernel
theorem dX11_lateness_38 : decode cX11_lateness 38 = .ok (.getfield 461, 3) := by decide +kernel
theorem dX11_lateness_41 : decode cX11_lateness 41 = .ok (.invokevirtual 412, 3) := by decide +kernel
theorem dX11_lateness_44 : decode cX11_lateness 44 = .ok (.ifCond .ne 6, 3) := by decide +kernel
theorem dX11_lateness_47 : decode cX11_lateness 47 = .ok (.goto 36, 3) := by decide +kernel
theorem dX11_lateness_50 : decode cX11_lateness 50 = .ok (.aload_n 0, 1) := by decide +kernel
theorem dX11_lateness_51 : decode cX11_lateness 51 = .ok (.iload_n 3, 1) := by decide +kernel
theorem dX11_lateness_52 : decode cX11_lateness 52 = .ok (.invokevirtual 526, 3) := by decide +kernel
theorem dX11_lateness_55 : decode cX11_lateness 55 = .ok (.istore 4, 2) := by decide +kernel
theorem dX11_lateness_57 : decode cX11_lateness 57 = .ok (.iload 4, 2) := by decide +kernel
theorem dX11_lateness_59 : decode cX11_lateness 59 = .ok (.iload_n 1, 1) := by decide +kernel
theorem dX11_lateness_60 : decode cX11_lateness 60 = .ok (.if_icmp .ge 8, 3) := by decide +kernel
theorem dX11_lateness_63 : decode cX11_lateness 63 = .ok (.iload 4, 2) := by decide +kernel
theorem dX11_lateness_65 : decode cX11_lateness 65 = .ok (.goto 4, 3) := by decide +kernel
theorem dX11_lateness_68 : decode cX11_lateness 68 = .ok (.iload_n 1, 1) := by decide +kernel
theorem dX11_lateness_69 : decode cX11_lateness 69 = .ok (.istore_n 1, 1) := by decide +kernel
theorem dX11_lateness_70 : decode cX11_lateness 70 = .ok (.iload 4, 2) := by decide +kernel
theorem dX11_lateness_72 : decode cX11_lateness 72 = .ok (.iload_n 2, 1) := by decide +kernel
theorem dX11_lateness_73 : decode cX11_lateness 73 = .ok (.if_icmp .le 8, 3) := by decide +kernel
theorem dX11_lateness_76 : decode cX11_lateness 76 = .ok (.iload 4, 2) := by decide +kernel
theorem dX11_lateness_78 : decode cX11_lateness 78 = .ok (.goto 4, 3) := by decide +kernel
theorem dX11_lateness_81 : decode cX11_lateness 81 = .ok (.iload_n 2, 1) := by decide +kernel
theorem dX11_lateness_82 : decode cX11_lateness 82 = .ok (.istore_n 2, 1) := by decide +kernel
theorem dX11_lateness_83 : decode cX11_lateness 83 = .ok (.iinc 3 1, 3) := by decide +kernel
theorem dX11_lateness_86 : decode cX11_lateness 86 = .ok (.goto (-78), 3) := by decide +kernel
theorem dX11_lateness_89 : decode cX11_lateness 89 = .ok (.iload_n 2, 1) := by decide +kernel
theorem dX11_lateness_90 : decode cX11_lateness 90 = .ok (.iload_n 1, 1) := by decide +kernel
theorem dX11_lateness_91 : decode cX11_lateness 91 = .ok (.if_icmp .ge 7, 3) := by decide +kernel
theorem dX11_lateness_94 : decode cX11_lateness 94 = .ok (.iconst 0, 1) := by decide +kernel
theorem dX11_lateness_95 : decode cX11_lateness 95 = .ok (.goto 6, 3) := by decide +kernel
theorem dX11_lateness_98 : decode cX11_lateness 98 = .ok (.iload_n 2, 1) := by decide +kernel
theorem dX11_lateness_99 : decode cX11_lateness 99 = .ok (.iload_n 1, 1) := by decide +kernel
theorem dX11_lateness_100 : decode cX11_lateness 100 = .ok (.isub, 1) := by decide +kernel
theorem dX11_lateness_101 : decode cX11_lateness 101 = .ok (.ireturn, 1) := by decide +kernel
theorem dX11_line_0 : decode cX11_line 0 = .ok (.aload_n 0, 1) := by decide +kernel
theorem dX11_line_1 : decode cX11_line 1 = .ok (.iconst 1, 1) := by decide +kernel
theorem dX11_line_2 : decode cX11_line 2 = .ok (.iload_n 1, 1) := by decide +kernel
theorem dX11_line_3 : decode cX11_line 3 = .ok (.invokevirtual 366, 3) := by decide +kernel
theorem dX11_line_6 : decode cX11_line 6 = .ok (.ifCond .eq 51, 3) := by decide +kernel
theorem dX11_line_9 : decode cX11_line 9 = .ok (.iload_n 2, 1) := by decide +kernel
theorem dX11_line_10 : decode cX11_line 10 = .ok (.i2l, 1) := by decide +kernel
theorem dX11_line_11 : decode cX11_line 11 = .ok (.lconst 1, 1) := by decide +kernel
theorem dX11_line_12 : decode cX11_line 12 = .ok (.ldc2_w 517, 3) := by decide +kernel
theorem dX11_line_15 : decode cX11_line 15 = .ok (.invokestatic 99, 3) := by decide +kernel
theorem dX11_line_18 : decode cX11_line 18 = .ok (.ifCond .eq 39, 3) := by decide +kernel
theorem dX11_line_21 : decode cX11_line 21 = .ok (.iload_n 3, 1) := by decide +kernel
theorem dX11_line_22 : decode cX11_line 22 = .ok (.i2l, 1) := by decide +kernel
theorem dX11_line_23 : decode cX11_line 23 = .ok (.lconst 0, 1) := by decide +kernel
theorem dX11_line_24 : decode cX11_line 24 = .ok (.ldc2_w 97, 3) := by decide +kernel
theorem dX11_line_27 : decode cX11_line 27 = .ok (.invokestatic 99, 3) := by decide +kernel
theorem dX11_line_30 : decode cX11_line 30 = .ok (.ifCond .eq 27, 3) := by decide +kernel
theorem dX11_line_33 : decode cX11_line 33 = .ok (.iload 4, 2) := by decide +kernel
theorem dX11_line_35 : decode cX11_line 35 = .ok (.i2l, 1) := by decide +kernel
theorem dX11_line_36 : decode cX11_line 36 = .ok (.lconst 0, 1) := by decide +kernel
theorem dX11_line_37 : decode cX11_line 37 = .ok (.ldc2_w 97, 3) := by decide +kernel
theorem dX11_line_40 : decode cX11_line 40 = .ok (.invokestatic 99, 3) := by decide +kernel
theorem dX11_line_43 : decode cX11_line 43 = .ok (.ifCond .eq 14, 3) := by decide +kernel
theorem dX11_line_46 : decode cX11_line 46 = .ok (.iload 5, 2) := by decide +kernel
theorem dX11_line_48 : decode cX11_line 48 = .ok (.i2l, 1) := by decide +kernel
theorem dX11_line_49 : decode cX11_line 49 = .ok (.lconst 0, 1) := by decide +kernel
theorem dX11_line_50 : decode cX11_line 50 = .ok (.lconst 1, 1) := by decide +kernel
theorem dX11_line_51 : decode cX11_line 51 = .ok (.invokestatic 99, 3) := by decide +kernel
theorem dX11_line_54 : decode cX11_line 54 = .ok (.ifCond .ne 5, 3) := by decide +kernel
theorem dX11_line_57 : decode cX11_line 57 = .ok (.iconst (-1), 1) := by decide +kernel
theorem dX11_line_58 : decode cX11_line 58 = .ok (.ireturn, 1) := by decide +kernel
theorem dX11_line_59 : decode cX11_line 59 = .ok (.iconst 0, 1) := by decide +kernel
theorem dX11_line_60 : decode cX11_line 60 = .ok (.istore 6, 2) := by decide +kernel
theorem dX11_line_62 : decode cX11_line 62 = .ok (.iload 6, 2) := by decide +kernel
theorem dX11_line_64 : decode cX11_line 64 = .ok (.aload_n 0, 1) := by decide +kernel
theorem dX11_line_65 : decode cX11_line 65 = .ok (.getfield 7, 3) := by decide +kernel
theorem dX11_line_68 : decode cX11_line 68 = .ok (.iconst 1, 1) := by decide +kernel
theorem dX11_line_69 : decode cX11_line 69 = .ok (.iaload, 1) := by decide +kernel
theorem dX11_line_70 : decode cX11_line 70 = .ok (.if_icmp .ge 45, 3) := by decide +kernel
theorem dX11_line_73 : decode cX11_line 73 = .ok (.aload_n 0, 1) := by decide +kernel
theorem dX11_line_74 : decode cX11_line 74 = .ok (.getfield 81, 3) := by decide +kernel
theorem dX11_line_77 : decode cX11_line 77 = .ok (.iload 6, 2) := by decide +kernel
theorem dX11_line_79 : decode cX11_line 79 = .ok (.aload_n 0, 1) := by decide +kernel
theorem dX11_line_80 : decode cX11_line 80 = .ok (.iload 6, 2) := by decide +kernel
theorem dX11_line_82 : decode cX11_line 82 = .ok (.invokevirtual 500, 3) := by decide +kernel
theorem dX11_line_85 : decode cX11_line 85 = .ok (.ifCond .eq 20, 3) := by decide +kernel
theorem dX11_line_88 : decode cX11_line 88 = .ok (.aload_n 0, 1) := by decide +kernel
theorem dX11_line_89 : decode cX11_line 89 = .ok (.iload_n 1, 1) := by decide +kernel
theorem dX11_line_90 : decode cX11_line 90 = .ok (.iload 6, 2) := by decide +kernel
theorem dX11_line_92 : decode cX11_line 92 = .ok (.invokevirtual 497, 3) := by decide +kernel
theorem dX11_line_95 : decode cX11_line 95 = .ok (.ifCond .eq 10, 3) := by decide +kernel
theorem dX11_line_98 : decode cX11_line 98 = .ok (.aload_n 0, 1) := by decide +kernel
theorem dX11_line_99 : decode cX11_line 99 = .ok (.getfield 455, 3) := by decide +kernel
theorem dX11_line_102 : decode cX11_line 102 = .ok (.goto 6, 3) := by decide +kernel
theorem dX11_line_105 : decode cX11_line 105 = .ok (.ldc2_w 404, 3) := by decide +kernel
theorem dX11_line_108 : decode cX11_line 108 = .ok (.lastore, 1) := by decide +kernel
theorem dX11_line_109 : decode cX11_line 109 = .ok (.iinc 6 1, 3) := by decide +kernel
theorem dX11_line_112 : decode cX11_line 112 = .ok (.goto (-50), 3) := by decide +kernel
theorem dX11_line_115 : decode cX11_line 115 = .ok (.iconst 0, 1) := by decide +kernel
theorem dX11_line_116 : decode cX11_line 116 = .ok (.istore 6, 2) := by decide +kernel
theorem dX11_line_118 : decode cX11_line 118 = .ok (.iload 6, 2) := by decide +kernel
theorem dX11_line_120 : decode cX11_line 120 = .ok (.aload_n 0, 1) := by decide +kernel
theorem dX11_line_121 : decode cX11_line 121 = .ok (.getfield 7, 3) := by decide +kernel
theorem dX11_line_124 : decode cX11_line 124 = .ok (.iconst 0, 1) := by decide +kernel
theorem dX11_line_125 : decode cX11_line 125 = .ok (.iaload, 1) := by decide +kernel
theorem dX11_line_126 : decode cX11_line 126 = .ok (.if_icmp .ge 37, 3) := by decide +kernel
theorem dX11_line_129 : decode cX11_line 129 = .ok (.aload_n 0, 1) := by decide +kernel
theorem dX11_line_130 : decode cX11_line 130 = .ok (.getfield 84, 3) := by decide +kernel
theorem dX11_line_133 : decode cX11_line 133 = .ok (.iload 6, 2) := by decide +kernel
theorem dX11_line_135 : decode cX11_line 135 = .ok (.aload_n 0, 1) := by decide +kernel
theorem dX11_line_136 : decode cX11_line 136 = .ok (.iload_n 1, 1) := by decide +kernel
theorem dX11_line_137 : decode cX11_line 137 = .ok (.iload 6, 2) := by decide +kernel
theorem dX11_line_139 : decode cX11_line 139 = .ok (.iconst 1, 1) := by decide +kernel
theorem dX11_line_140 : decode cX11_line 140 = .ok (.invokevirtual 487, 3) := by decide +kernel
theorem dX11_line_143 : decode cX11_line 143 = .ok (.ifCond .eq 10, 3) := by decide +kernel
theorem dX11_line_146 : decode cX11_line 146 = .ok (.aload_n 0, 1) := by decide +kernel
theorem dX11_line_147 : decode cX11_line 147 = .ok (.getfield 455, 3) := by decide +kernel
theorem dX11_line_150 : decode cX11_line 150 = .ok (.goto 6, 3) := by decide +kernel
theorem dX11_line_153 : decode cX11_line 153 = .ok (.ldc2_w 404, 3) := by decide +kernel
theorem dX11_line_156 : decode cX11_line 156 = .ok (.lastore, 1) := by decide +kernel
theorem dX11_line_157 : decode cX11_line 157 = .ok (.iinc 6 1, 3) := by decide +kernel
theorem dX11_line_160 : decode cX11_line 160 = .ok (.goto (-42), 3) := by decide +kernel
theorem dX11_line_163 : decode cX11_line 163 = .ok (.iconst (-1), 1) := by decide +kernel
theorem dX11_line_164 : decode cX11_line 164 = .ok (.istore 6, 2) := by decide +kernel
theorem dX11_line_166 : decode cX11_line 166 = .ok (.iconst 0, 1) := by decide +kernel
theorem dX11_line_167 : decode cX11_line 167 = .ok (.istore 7, 2) := by decide +kernel
theorem dX11_line_169 : decode cX11_line 169 = .ok (.iconst 0, 1) := by decide +kernel
theorem dX11_line_170 : decode cX11_line 170 = .ok (.istore 8, 2) := by decide +kernel
theorem dX11_line_172 : decode cX11_line 172 = .ok (.iload 8, 2) := by decide +kernel
theorem dX11_line_174 : decode cX11_line 174 = .ok (.bipush 20, 2) := by decide +kernel
theorem dX11_line_176 : decode cX11_line 176 = .ok (.if_icmp .gt 153, 3) := by decide +kernel
theorem dX11_line_179 : decode cX11_line 179 = .ok (.iconst 0, 1) := by decide +kernel
theorem dX11_line_180 : decode cX11_line 180 = .ok (.istore 9, 2) := by decide +kernel
theorem dX11_line_182 : decode cX11_line 182 = .ok (.iconst 0, 1) := by decide +kernel
theorem dX11_line_183 : decode cX11_line 183 = .ok (.istore 10, 2) := by decide +kernel
theorem dX11_line_185 : decode cX11_line 185 = .ok (.iload 10, 2) := by decide +kernel
theorem dX11_line_187 : decode cX11_line 187 = .ok (.aload_n 0, 1) := by decide +kernel
theorem dX11_line_188 : decode cX11_line 188 = .ok (.getfield 7, 3) := by decide +kernel
theorem dX11_line_191 : decode cX11_line 191 = .ok (.iconst 1, 1) := by decide +kernel
theorem dX11_line_192 : decode cX11_line 192 = .ok (.iaload, 1) := by decide +kernel
theorem dX11_line_193 : decode cX11_line 193 = .ok (.if_icmp .ge 45, 3) := by decide +kernel
theorem dX11_line_196 : decode cX11_line 196 = .ok (.iload 9, 2) := by decide +kernel
theorem dX11_line_198 : decode cX11_line 198 = .ok (.aload_n 0, 1) := by decide +kernel
theorem dX11_line_199 : decode cX11_line 199 = .ok (.iload 10, 2) := by decide +kernel
theorem dX11_line_201 : decode cX11_line 201 = .ok (.invokevirtual 500, 3) := by decide +kernel
theorem dX11_line_204 : decode cX11_line 204 = .ok (.ifCond .eq 24, 3) := by decide +kernel
theorem dX11_line_207 : decode cX11_line 207 = .ok (.aload_n 0, 1) := by decide +kernel
theorem dX11_line_208 : decode cX11_line 208 = .ok (.getfield 81, 3) := by decide +kernel
theorem dX11_line_211 : decode cX11_line 211 = .ok (.iload 10, 2) := by decide +kernel
theorem dX11_line_213 : decode cX11_line 213 = .ok (.laload, 1) := by decide +kernel
theorem dX11_line_214 : decode cX11_line 214 = .ok (.iload 8, 2) := by decide +kernel
theorem dX11_line_216 : decode cX11_line 216 = .ok (.i2l, 1) := by decide +kernel
theorem dX11_line_217 : decode cX11_line 217 = .ok (.iload_n 2, 1) := by decide +kernel
theorem dX11_line_218 : decode cX11_line 218 = .ok (.i2l, 1) := by decide +kernel
theorem dX11_line_219 : decode cX11_line 219 = .ok (.lmul, 1) := by decide +kernel
theorem dX11_line_220 : decode cX11_line 220 = .ok (.lcmp, 1) := by decide +kernel
theorem dX11_line_221 : decode cX11_line 221 = .ok (.ifCond .ge 7, 3) := by decide +kernel
theorem dX11_line_224 : decode cX11_line 224 = .ok (.iload_n 3, 1) := by decide +kernel
theorem dX11_line_225 : decode cX11_line 225 = .ok (.goto 4, 3) := by decide +kernel
theorem dX11_line_228 : decode cX11_line 228 = .ok (.iconst 0, 1) := by decide +kernel
theorem dX11_line_229 : decode cX11_line 229 = .ok (.iadd, 1) := by decide +kernel
theorem dX11_line_230 : decode cX11_line 230 = .ok (.istore 9, 2) := by decide +kernel
theorem dX11_line_232 : decode cX11_line 232 = .ok (.iinc 10 1, 3) := by decide +kernel
theorem dX11_line_235 : decode cX11_line 235 = .ok (.goto (-50), 3) := by decide +kernel
theorem dX11_line_238 : decode cX11_line 238 = .ok (.iconst 0, 1) := by decide +kernel
theorem dX11_line_239 : decode cX11_line 239 = .ok (.istore 10, 2) := by decide +kernel
theorem dX11_line_241 : decode cX11_line 241 = .ok (.iload 10, 2) := by decide +kernel
theorem dX11_line_243 : decode cX11_line 243 = .ok (.aload_n 0, 1) := by decide +kernel
theorem dX11_line_244 : decode cX11_line 244 = .ok (.getfield 7, 3) := by decide +kernel
theorem dX11_line_247 : decode cX11_line 247 = .ok (.iconst 0, 1) := by decide +kernel
theorem dX11_line_248 : decode cX11_line 248 = .ok (.iaload, 1) := by decide +kernel
theorem dX11_line_249 : decode cX11_line 249 = .ok (.if_icmp .ge 49, 3) := by decide +kernel
theorem dX11_line_252 : decode cX11_line 252 = .ok (.iload 9, 2) := by decide +kernel
theorem dX11_line_254 : decode cX11_line 254 = .ok (.aload_n 0, 1) := by decide +kernel
theorem dX11_line_255 : decode cX11_line 255 = .ok (.getfield 84, 3) := by decide +kernel
theorem dX11_line_258 : decode cX11_line 258 = .ok (.iload 10, 2) := by decide +kernel
theorem dX11_line_260 : decode cX11_line 260 = .ok (.laload, 1) := by decide +kernel
theorem dX11_line_261 : decode cX11_line 261 = .ok (.lconst 0, 1) := by decide +kernel
theorem dX11_line_262 : decode cX11_line 262 = .ok (.lcmp, 1) := by decide +kernel
theorem dX11_line_263 : decode cX11_line 263 = .ok (.ifCond .lt 25, 3) := by decide +kernel
theorem dX11_line_266 : decode cX11_line 266 = .ok (.aload_n 0, 1) := by decide +kernel
theorem dX11_line_267 : decode cX11_line 267 = .ok (.getfield 84, 3) := by decide +kernel
theorem dX11_line_270 : decode cX11_line 270 = .ok (.iload 10, 2) := by decide +kernel
theorem dX11_line_272 : decode cX11_line 272 = .ok (.laload, 1) := by decide +kernel
theorem dX11_line_273 : decode cX11_line 273 = .ok (.iload 8, 2) := by decide +kernel
theorem dX11_line_275 : decode cX11_line 275 = .ok (.i2l, 1) := by decide +kernel
theorem dX11_line_276 : decode cX11_line 276 = .ok (.iload_n 2, 1) := by decide +kernel
theorem dX11_line_277 : decode cX11_line 277 = .ok (.i2l, 1) := by decide +kernel
theorem dX11_line_278 : decode cX11_line 278 = .ok (.lmul, 1) := by decide +kernel
theorem dX11_line_279 : decode cX11_line 279 = .ok (.lcmp, 1) := by decide +kernel
theorem dX11_line_280 : decode cX11_line 280 = .ok (.ifCond .lt 8, 3) := by decide +kernel
theorem dX11_line_283 : decode cX11_line 283 = .ok (.iload 4, 2) := by decide +kernel
theorem dX11_line_285 : decode cX11_line 285 = .ok (.goto 4, 3) := by decide +kernel
theorem dX11_line_288 : decode cX11_line 288 = .ok (.iconst 0, 1) := by decide +kernel
theorem dX11_line_289 : decode cX11_line 289 = .ok (.iadd, 1) := by decide +kernel
theorem dX11_line_290 : decode cX11_line 290 = .ok (.istore 9, 2) := by decide +kernel
theorem dX11_line_292 : decode cX11_line 292 = .ok (.iinc 10 1, 3) := by decide +kernel
theorem dX11_line_295 : decode cX11_line 295 = .ok (.goto (-54), 3) := by decide +kernel
theorem dX11_line_298 : decode cX11_line 298 = .ok (.iload 6, 2) := by decide +kernel
theorem dX11_line_300 : decode cX11_line 300 = .ok (.ifCond .lt 13, 3) := by decide +kernel
theorem dX11_line_303 : decode cX11_line 303 = .ok (.iload 9, 2) := by decide +kernel
theorem dX11_line_305 : decode cX11_line 305 = .ok (.iload 7, 2) := by decide +kernel
theorem dX11_line_307 : decode cX11_line 307 = .ok (.if_icmp .lt 6, 3) := by decide +kernel
theorem dX11_line_310 : decode cX11_line 310 = .ok (.goto 13, 3) := by decide +kernel
theorem dX11_line_313 : decode cX11_line 313 = .ok (.iload 8, 2) := by decide +kernel
theorem dX11_line_315 : decode cX11_line 315 = .ok (.iload_n 2, 1) := by decide +kernel
theorem dX11_line_316 : decode cX11_line 316 = .ok (.imul, 1) := by decide +kernel
theorem dX11_line_317 : decode cX11_line 317 = .ok (.istore 6, 2) := by decide +kernel
theorem dX11_line_319 : decode cX11_line 319 = .ok (.iload 9, 2) := by decide +kernel
theorem dX11_line_321 : decode cX11_line 321 = .ok (.istore 7, 2) := by decide +kernel
theorem dX11_line_323 : decode cX11_line 323 = .ok (.iinc 8 1, 3) := by decide +kernel
theorem dX11_line_326 : decode cX11_line 326 = .ok (.goto (-154), 3) := by decide +kernel
theorem dX11_line_329 : decode cX11_line 329 = .ok (.iload 5, 2) := by decide +kernel
theorem dX11_line_331 : decode cX11_line 331 = .ok (.ifCond .ne 8, 3) := by decide +kernel
theorem dX11_line_334 : decode cX11_line 334 = .ok (.iload 6, 2) := by decide +kernel
theorem dX11_line_336 : decode cX11_line 336 = .ok (.goto 5, 3) := by decide +kernel
theorem dX11_line_339 : decode cX11_line 339 = .ok (.iload 7, 2) := by decide +kernel
theorem dX11_line_341 : decode cX11_line 341 = .ok (.ireturn, 1) := by decide +kernel
theorem dX11_next_0 : decode cX11_next 0 = .ok (.aload_n 0, 1) := by decide +kernel
theorem dX11_next_1 : decode cX11_next 1 = .ok (.iconst 1, 1) := by decide +kernel
theorem dX11_next_2 : decode cX11_next 2 = .ok (.iload_n 1, 1) := by decide +kernel
theorem dX11_next_3 : decode cX11_next 3 = .ok (.invokevirtual 366, 3) := by decide +kernel
theorem dX11_next_6 : decode cX11_next 6 = .ok (.ifCond .eq 23, 3) := by decide +kernel
theorem dX11_next_9 : decode cX11_next 9 = .ok (.aload_n 0, 1) := by decide +kernel
theorem dX11_next_10 : decode cX11_next 10 = .ok (.iload_n 2, 1) := by decide +kernel
theorem dX11_next_11 : decode cX11_next 11 = .ok (.invokevirtual 108, 3) := by decide +kernel
theorem dX11_next_14 : decode cX11_next 14 = .ok (.ifCond .eq 15, 3) := by decide +kernel
theorem dX11_next_17 : decode cX11_next 17 = .ok (.iload_n 3, 1) := by decide +kernel
theorem dX11_next_18 : decode cX11_next 18 = .ok (.i2l, 1) := by decide +kernel
theorem dX11_next_19 : decode cX11_next 19 = .ok (.lconst 0, 1) := by decide +kernel
theorem dX11_next_20 : decode cX11_next 20 = .ok (.ldc2_w 517, 3) := by decide +kernel
theorem dX11_next_23 : decode cX11_next 23 = .ok (.invokestatic 99, 3) := by decide +kernel
theorem dX11_next_26 : decode cX11_next 26 = .ok (.ifCond .ne 5, 3) := by decide +kernel
theorem dX11_next_29 : decode cX11_next 29 = .ok (.iconst (-1), 1) := by decide +kernel
theorem dX11_next_30 : decode cX11_next 30 = .ok (.ireturn, 1) := by decide +kernel
theorem dX11_next_31 : decode cX11_next 31 = .ok (.aload_n 0, 1) := by decide +kernel
theorem dX11_next_32 : decode cX11_next 32 = .ok (.iload_n 1, 1) := by decide +kernel
theorem dX11_next_33 : decode cX11_next 33 = .ok (.iload_n 2, 1) := by decide +kernel
theorem dX11_next_34 : decode cX11_next 34 = .ok (.iconst 0, 1) := by decide +kernel
theorem dX11_next_35 : decode cX11_next 35 = .ok (.invokevirtual 487, 3) := by decide +kernel
theorem dX11_next_38 : decode cX11_next 38 = .ok (.ifCond .ne 6, 3) := by decide +kernel
theorem dX11_next_41 : decode cX11_next 41 = .ok (.bipush (-2), 2) := by decide +kernel
theorem dX11_next_43 : decode cX11_next 43 = .ok (.ireturn, 1) := by decide +kernel
theorem dX11_next_44 : decode cX11_next 44 = .ok (.iload_n 3, 1) := by decide +kernel
theorem dX11_next_45 : decode cX11_next 45 = .ok (.aload_n 0, 1) := by decide +kernel
theorem dX11_next_46 : decode cX11_next 46 = .ok (.getfield 464, 3) := by decide +kernel
theorem dX11_next_49 : decode cX11_next 49 = .ok (.if_icmp .gt 7, 3) := by decide +kernel
theorem dX11_next_52 : decode cX11_next 52 = .ok (.iconst 0, 1) := by decide +kernel
theorem dX11_next_53 : decode cX11_next 53 = .ok (.goto 21, 3) := by decide +kernel
theorem dX11_next_56 : decode cX11_next 56 = .ok (.iload_n 3, 1) := by decide +kernel
theorem dX11_next_57 : decode cX11_next 57 = .ok (.aload_n 0, 1) := by decide +kernel
theorem dX11_next_58 : decode cX11_next 58 = .ok (.getfield 464, 3) := by decide +kernel
theorem dX11_next_61 : decode cX11_next 61 = .ok (.isub, 1) := by decide +kernel
theorem dX11_next_62 : decode cX11_next 62 = .ok (.aload_n 0, 1) := by decide +kernel
theorem dX11_next_63 : decode cX11_next 63 = .ok (.getfield 458, 3) := by decide +kernel
theorem dX11_next_66 : decode cX11_next 66 = .ok (.iadd, 1) := by decide +kernel
theorem dX11_next_67 : decode cX11_next 67 = .ok (.iconst 1, 1) := by decide +kernel
theorem dX11_next_68 : decode cX11_next 68 = .ok (.isub, 1) := by decide +kernel
theorem dX11_next_69 : decode cX11_next 69 = .ok (.aload_n 0, 1) := by decide +kernel
theorem dX11_next_70 : decode cX11_next 70 = .ok (.getfield 458, 3) := by decide +kernel
theorem dX11_next_73 : decode cX11_next 73 = .ok (.idiv, 1) := by decide +kernel
theorem dX11_next_74 : decode cX11_next 74 = .ok (.istore 4, 2) := by decide +kernel
theorem dX11_next_76 : decode cX11_next 76 = .ok (.aload_n 0, 1) := by decide +kernel
theorem dX11_next_77 : decode cX11_next 77 = .ok (.getfield 464, 3) := by decide +kernel
theorem dX11_next_80 : decode cX11_next 80 = .ok (.iload 4, 2) := by decide +kernel
theorem dX11_next_82 : decode cX11_next 82 = .ok (.aload_n 0, 1) := by decide +kernel
theorem dX11_next_83 : decode cX11_next 83 = .ok (.getfield 458, 3) := by decide +kernel
theorem dX11_next_86 : decode cX11_next 86 = .ok (.imul, 1) := by decide +kernel
theorem dX11_next_87 : decode cX11_next 87 = .ok (.iadd, 1) := by decide +kernel
theorem dX11_next_88 : decode cX11_next 88 = .ok (.ireturn, 1) := by decide +kernel
theorem dX11_nights_0 : decode cX11_nights 0 = .ok (.iload_n 1, 1) := by decide +kernel
theorem dX11_nights_1 : decode cX11_nights 1 = .ok (.i2l, 1) := by decide +kernel
theorem dX11_nights_2 : decode cX11_nights 2 = .ok (.lconst 0, 1) := by decide +kernel
theorem dX11_nights_3 : decode cX11_nights 3 = .ok (.ldc2_w 571, 3) := by decide +kernel
theorem dX11_nights_6 : decode cX11_nights 6 = .ok (.invokestatic 99, 3) := by decide +kernel
theorem dX11_nights_9 : decode cX11_nights 9 = .ok (.ifCond .eq 13, 3) := by decide +kernel
theorem dX11_nights_12 : decode cX11_nights 12 = .ok (.iload_n 2, 1) := by decide +kernel
theorem dX11_nights_13 : decode cX11_nights 13 = .ok (.i2l, 1) := by decide +kernel
theorem dX11_nights_14 : decode cX11_nights 14 = .ok (.lconst 0, 1) := by decide +kernel
theorem dX11_nights_15 : decode cX11_nights 15 = .ok (.lconst 1, 1) := by decide +kernel
theorem dX11_nights_16 : decode cX11_nights 16 = .ok (.invokestatic 99, 3) := by decide +kernel
theorem dX11_nights_19 : decode cX11_nights 19 = .ok (.ifCond .ne 5, 3) := by decide +kernel
theorem dX11_nights_22 : decode cX11_nights 22 = .ok (.iconst (-1), 1) := by decide +kernel
theorem dX11_nights_23 : decode cX11_nights 23 = .ok (.ireturn, 1) := by decide +kernel
theorem dX11_nights_24 : decode cX11_nights 24 = .ok (.iconst 0, 1) := by decide +kernel
theorem dX11_nights_25 : decode cX11_nights 25 = .ok (.istore_n 3, 1) := by decide +kernel
theorem dX11_nights_26 : decode cX11_nights 26 = .ok (.iconst 0, 1) := by decide +kernel
theorem dX11_nights_27 : decode cX11_nights 27 = .ok (.istore 4, 2) := by decide +kernel
theorem dX11_nights_29 : decode cX11_nights 29 = .ok (.iconst 0, 1) := by decide +kernel
theorem dX11_nights_30 : decode cX11_nights 30 = .ok (.istore 5, 2) := by decide +kernel
theorem dX11_nights_32 : decode cX11_nights 32 = .ok (.iconst 1, 1) := by decide +kernel
theorem dX11_nights_33 : decode cX11_nights 33 = .ok (.istore 6, 2) := by decide +kernel
theorem dX11_nights_35 : decode cX11_nights 35 = .ok (.iload 6, 2) := by decide +kernel
theorem dX11_nights_37 : decode cX11_nights 37 = .ok (.iconst 1, 1) := by decide +kernel
theorem dX11_nights_38 : decode cX11_nights 38 = .ok (.aload_n 0, 1) := by decide +kernel
theorem dX11_nights_39 : decode cX11_nights 39 = .ok (.getfield 7, 3) := by decide +kernel
theorem dX11_nights_42 : decode cX11_nights 42 = .ok (.iconst 2, 1) := by decide +kernel
theorem dX11_nights_43 : decode cX11_nights 43 = .ok (.iaload, 1) := by decide +kernel
theorem dX11_nights_44 : decode cX11_nights 44 = .ok (.ishl, 1) := by decide +kernel
theorem dX11_nights_45 : decode cX11_nights 45 = .ok (.if_icmp .ge 132, 3) := by decide +kernel
theorem dX11_nights_48 : decode cX11_nights 48 = .ok (.iconst 0, 1) := by decide +kernel
theorem dX11_nights_49 : decode cX11_nights 49 = .ok (.istore 7, 2) := by decide +kernel
theorem dX11_nights_51 : decode cX11_nights 51 = .ok (.iconst 0, 1) := by decide +kernel
theorem dX11_nights_52 : decode cX11_nights 52 = .ok (.istore 8, 2) := by decide +kernel
theorem dX11_nights_54 : decode cX11_nights 54 = .ok (.iconst 0, 1) := by decide +kernel
theorem dX11_nights_55 : decode cX11_nights 55 = .ok (.istore 9, 2) := by decide +kernel
theorem dX11_nights_57 : decode cX11_nights 57 = .ok (.iload 9, 2) := by decide +kernel
theorem dX11_nights_59 : decode cX11_nights 59 = .ok (.aload_n 0, 1) := by decide +kernel
theorem dX11_nights_60 : decode cX11_nights 60 = .ok (.getfield 7, 3) := by decide +kernel
theorem dX11_nights_63 : decode cX11_nights 63 = .ok (.iconst 2, 1) := by decide +kernel
theorem dX11_nights_64 : decode cX11_nights 64 = .ok (.iaload, 1) := by decide +kernel
theorem dX11_nights_65 : decode cX11_nights 65 = .ok (.if_icmp .ge 65, 3) := by decide +kernel
theorem dX11_nights_68 : decode cX11_nights 68 = .ok (.iload 7, 2) := by decide +kernel
theorem dX11_nights_70 : decode cX11_nights 70 = .ok (.iload 6, 2) := by decide +kernel
theorem dX11_nights_72 : decode cX11_nights 72 = .ok (.iload 9, 2) := by decide +kernel
theorem dX11_nights_74 : decode cX11_nights 74 = .ok (.ishr, 1) := by decide +kernel
theorem dX11_nights_75 : decode cX11_nights 75 = .ok (.iconst 1, 1) := by decide +kernel
theorem dX11_nights_76 : decode cX11_nights 76 = .ok (.iand, 1) := by decide +kernel
theorem dX11_nights_77 : decode cX11_nights 77 = .ok (.aload_n 0, 1) := by decide +kernel
theorem dX11_nights_78 : decode cX11_nights 78 = .ok (.getfield 7, 3) := by decide +kernel
theorem dX11_nights_81 : decode cX11_nights 81 = .ok (.sipush 279, 3) := by decide +kernel
theorem dX11_nights_84 : decode cX11_nights 84 = .ok (.iconst 3, 1) := by decide +kernel
theorem dX11_nights_85 : decode cX11_nights 85 = .ok (.iload 9, 2) := by decide +kernel
theorem dX11_nights_87 : decode cX11_nights 87 = .ok (.imul, 1) := by decide +kernel
theorem dX11_nights_88 : decode cX11_nights 88 = .ok (.iadd, 1) := by decide +kernel
theorem dX11_nights_89 : decode cX11_nights 89 = .ok (.iconst 1, 1) := by decide +kernel
theorem dX11_nights_90 : decode cX11_nights 90 = .ok (.iadd, 1) := by decide +kernel
theorem dX11_nights_91 : decode cX11_nights 91 = .ok (.iaload, 1) := by decide +kernel
theorem dX11_nights_92 : decode cX11_nights 92 = .ok (.imul, 1) := by decide +kernel
theorem dX11_nights_93 : decode cX11_nights 93 = .ok (.iadd, 1) := by decide +kernel
theorem dX11_nights_94 : decode cX11_nights 94 = .ok (.istore 7, 2) := by decide +kernel
theorem dX11_nights_96 : decode cX11_nights 96 = .ok (.iload 8, 2) := by decide +kernel
theorem dX11_nights_98 : decode cX11_nights 98 = .ok (.iload 6, 2) := by decide +kernel
theorem dX11_nights_100 : decode cX11_nights 100 = .ok (.iload 9, 2) := by decide +kernel
theorem dX11_nights_102 : decode cX11_nights 102 = .ok (.ishr, 1) := by decide +kernel
theorem dX11_nights_103 : decode cX11_nights 103 = .ok (.iconst 1, 1) := by decide +kernel
theorem dX11_nights_104 : decode cX11_nights 104 = .ok (.iand, 1) := by decide +kernel
theorem dX11_nights_105 : decode cX11_nights 105 = .ok (.aload_n 0, 1) := by decide +kernel
theorem dX11_nights_106 : decode cX11_nights 106 = .ok (.getfield 7, 3) := by decide +kernel
theorem dX11_nights_109 : decode cX11_nights 109 = .ok (.sipush 279, 3) := by decide +kernel
theorem dX11_nights_112 : decode cX11_nights 112 = .ok (.iconst 3, 1) := by decide +kernel
theorem dX11_nights_113 : decode cX11_nights 113 = .ok (.iload 9, 2) := by decide +kernel
theorem dX11_nights_115 : decode cX11_nights 115 = .ok (.imul, 1) := by decide +kernel
theorem dX11_nights_116 : decode cX11_nights 116 = .ok (.iadd, 1) := by decide +kernel
theorem dX11_nights_117 : decode cX11_nights 117 = .ok (.iconst 2, 1) := by decide +kernel
theorem dX11_nights_118 : decode cX11_nights 118 = .ok (.iadd, 1) := by decide +kernel
theorem dX11_nights_119 : decode cX11_nights 119 = .ok (.iaload, 1) := by decide +kernel
theorem dX11_nights_120 : decode cX11_nights 120 = .ok (.imul, 1) := by decide +kernel
theorem dX11_nights_121 : decode cX11_nights 121 = .ok (.iadd, 1) := by decide +kernel
theorem dX11_nights_122 : decode cX11_nights 122 = .ok (.istore 8, 2) := by decide +kernel
theorem dX11_nights_124 : decode cX11_nights 124 = .ok (.iinc 9 1, 3) := by decide +kernel
theorem dX11_nights_127 : decode cX11_nights 127 = .ok (.goto (-70), 3) := by decide +kernel
theorem dX11_nights_130 : decode cX11_nights 130 = .ok (.iload 7, 2) := by decide +kernel
theorem dX11_nights_132 : decode cX11_nights 132 = .ok (.iload_n 1, 1) := by decide +kernel
theorem dX11_nights_133 : decode cX11_nights 133 = .ok (.if_icmp .gt 38, 3) := by decide +kernel
theorem dX11_nights_136 : decode cX11_nights 136 = .ok (.iload 8, 2) := by decide +kernel
theorem dX11_nights_138 : decode cX11_nights 138 = .ok (.iload 4, 2) := by decide +kernel
theorem dX11_nights_140 : decode cX11_nights 140 = .ok (.if_icmp .lt 31, 3) := by decide +kernel
theorem dX11_nights_143 : decode cX11_nights 143 = .ok (.iload 8, 2) := by decide +kernel
theorem dX11_nights_145 : decode cX11_nights 145 = .ok (.iload 4, 2) := by decide +kernel
theorem dX11_nights_147 : decode cX11_nights 147 = .ok (.if_icmp .ne 13, 3) := by decide +kernel
theorem dX11_nights_150 : decode cX11_nights 150 = .ok (.iload 7, 2) := by decide +kernel
theorem dX11_nights_152 : decode cX11_nights 152 = .ok (.iload 5, 2) := by decide +kernel
theorem dX11_nights_154 : decode cX11_nights 154 = .ok (.if_icmp .lt 6, 3) := by decide +kernel
theorem dX11_nights_157 : decode cX11_nights 157 = .ok (.goto 14, 3) := by decide +kernel
theorem dX11_nights_160 : decode cX11_nights 160 = .ok (.iload 6, 2) := by decide +kernel
theorem dX11_nights_162 : decode cX11_nights 162 = .ok (.istore_n 3, 1) := by decide +kernel
theorem dX11_nights_163 : decode cX11_nights 163 = .ok (.iload 8, 2) := by decide +kernel
theorem dX11_nights_165 : decode cX11_nights 165 = .ok (.istore 4, 2) := by decide +kernel
theorem dX11_nights_167 : decode cX11_nights 167 = .ok (.iload 7, 2) := by decide +kernel
