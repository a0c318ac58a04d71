theorem dX11_clauseHere_10 : decode cX11_clauseHere 10 = .ok (.aload_n 0, 1) := by decide +kernel
theorem dX11_clauseHere_11 : decode cX11_clauseHere 11 = .ok (.getfield 206, 3) := by decide +kernel
theorem dX11_clauseHere_14 : decode cX11_clauseHere 14 = .ok (.bipush 6, 2) := by decide +kernel
theorem dX11_clauseHere_16 : decode cX11_clauseHere 16 = .ok (.idiv, 1) := by decide +kernel
theorem dX11_clauseHere_17 : decode cX11_clauseHere 17 = .ok (.istore_n 2, 1) := by decide +kernel
theorem dX11_clauseHere_18 : decode cX11_clauseHere 18 = .ok (.aload_n 0, 1) := by decide +kernel
theorem dX11_clauseHere_19 : decode cX11_clauseHere 19 = .ok (.ldc2_w 321, 3) := by decide +kernel
theorem dX11_clauseHere_22 : decode cX11_clauseHere 22 = .ok (.invokevirtual 190, 3) := by decide +kernel
theorem dX11_clauseHere_25 : decode cX11_clauseHere 25 = .ok (.ifCond .eq 7, 3) := by decide +kernel
theorem dX11_clauseHere_32 : decode cX11_clauseHere 32 = .ok (.aload_n 0, 1) := by decide +kernel
theorem dX11_clauseHere_33 : decode cX11_clauseHere 33 = .ok (.ldc2_w 323, 3) := by decide +kernel
theorem dX11_clauseHere_36 : decode cX11_clauseHere 36 = .ok (.invokevirtual 190, 3) := by decide +kernel
theorem dX11_clauseHere_39 : decode cX11_clauseHere 39 = .ok (.ifCond .eq 7, 3) := by decide +kernel
theorem dX11_clauseHere_46 : decode cX11_clauseHere 46 = .ok (.aload_n 0, 1) := by decide +kernel
theorem dX11_clauseHere_47 : decode cX11_clauseHere 47 = .ok (.ldc2_w 325, 3) := by decide +kernel
theorem dX11_clauseHere_50 : decode cX11_clauseHere 50 = .ok (.invokevirtual 190, 3) := by decide +kernel
theorem dX11_clauseHere_53 : decode cX11_clauseHere 53 = .ok (.ifCond .eq 7, 3) := by decide +kernel
theorem dX11_clauseHere_60 : decode cX11_clauseHere 60 = .ok (.aload_n 0, 1) := by decide +kernel
theorem dX11_clauseHere_61 : decode cX11_clauseHere 61 = .ok (.ldc2_w 327, 3) := by decide +kernel
theorem dX11_clauseHere_64 : decode cX11_clauseHere 64 = .ok (.invokevirtual 190, 3) := by decide +kernel
theorem dX11_clauseHere_67 : decode cX11_clauseHere 67 = .ok (.ifCond .eq 7, 3) := by decide +kernel
theorem dX11_clauseHere_74 : decode cX11_clauseHere 74 = .ok (.aload_n 0, 1) := by decide +kernel
theorem dX11_clauseHere_75 : decode cX11_clauseHere 75 = .ok (.ldc2_w 329, 3) := by decide +kernel
theorem dX11_clauseHere_78 : decode cX11_clauseHere 78 = .ok (.invokevirtual 190, 3) := by decide +kernel
theorem dX11_clauseHere_81 : decode cX11_clauseHere 81 = .ok (.ifCond .eq 7, 3) := by decide +kernel
theorem dX11_clauseHere_88 : decode cX11_clauseHere 88 = .ok (.iconst (-1), 1) := by decide +kernel
theorem dX11_clauseHere_89 : decode cX11_clauseHere 89 = .ok (.istore_n 3, 1) := by decide +kernel
theorem dX11_clauseHere_90 : decode cX11_clauseHere 90 = .ok (.iload_n 2, 1) := by decide +kernel
theorem dX11_clauseHere_91 : decode cX11_clauseHere 91 = .ok (.ifCond .ne 31, 3) := by decide +kernel
theorem dX11_clauseHere_94 : decode cX11_clauseHere 94 = .ok (.aload_n 0, 1) := by decide +kernel
theorem dX11_clauseHere_95 : decode cX11_clauseHere 95 = .ok (.ldc2_w 310, 3) := by decide +kernel
theorem dX11_clauseHere_98 : decode cX11_clauseHere 98 = .ok (.invokevirtual 190, 3) := by decide +kernel
theorem dX11_clauseHere_101 : decode cX11_clauseHere 101 = .ok (.ifCond .ne 13, 3) := by decide +kernel
theorem dX11_clauseHere_104 : decode cX11_clauseHere 104 = .ok (.aload_n 0, 1) := by decide +kernel
theorem dX11_clauseHere_105 : decode cX11_clauseHere 105 = .ok (.ldc2_w 331, 3) := by decide +kernel
theorem dX11_clauseHere_108 : decode cX11_clauseHere 108 = .ok (.invokevirtual 190, 3) := by decide +kernel
theorem dX11_clauseHere_111 : decode cX11_clauseHere 111 = .ok (.ifCond .eq 7, 3) := by decide +kernel
theorem dX11_clauseHere_118 : decode cX11_clauseHere 118 = .ok (.iconst 0, 1) := by decide +kernel
theorem dX11_clauseHere_119 : decode cX11_clauseHere 119 = .ok (.goto 65, 3) := by decide +kernel
theorem dX11_clauseHere_122 : decode cX11_clauseHere 122 = .ok (.iload_n 2, 1) := by decide +kernel
theorem dX11_clauseHere_123 : decode cX11_clauseHere 123 = .ok (.iconst 1, 1) := by decide +kernel
theorem dX11_clauseHere_124 : decode cX11_clauseHere 124 = .ok (.if_icmp .ne 51, 3) := by decide +kernel
theorem dX11_clauseHere_127 : decode cX11_clauseHere 127 = .ok (.aload_n 0, 1) := by decide +kernel
theorem dX11_clauseHere_128 : decode cX11_clauseHere 128 = .ok (.ldc2_w 219, 3) := by decide +kernel
theorem dX11_clauseHere_131 : decode cX11_clauseHere 131 = .ok (.invokevirtual 190, 3) := by decide +kernel
theorem dX11_clauseHere_134 : decode cX11_clauseHere 134 = .ok (.ifCond .ne 33, 3) := by decide +kernel
theorem dX11_clauseHere_137 : decode cX11_clauseHere 137 = .ok (.aload_n 0, 1) := by decide +kernel
theorem dX11_clauseHere_138 : decode cX11_clauseHere 138 = .ok (.ldc2_w 221, 3) := by decide +kernel
theorem dX11_clauseHere_141 : decode cX11_clauseHere 141 = .ok (.invokevirtual 190, 3) := by decide +kernel
theorem dX11_clauseHere_144 : decode cX11_clauseHere 144 = .ok (.ifCond .ne 23, 3) := by decide +kernel
theorem dX11_clauseHere_147 : decode cX11_clauseHere 147 = .ok (.aload_n 0, 1) := by decide +kernel
theorem dX11_clauseHere_148 : decode cX11_clauseHere 148 = .ok (.ldc2_w 319, 3) := by decide +kernel
theorem dX11_clauseHere_151 : decode cX11_clauseHere 151 = .ok (.invokevirtual 190, 3) := by decide +kernel
theorem dX11_clauseHere_154 : decode cX11_clauseHere 154 = .ok (.ifCond .ne 13, 3) := by decide +kernel
theorem dX11_clauseHere_157 : decode cX11_clauseHere 157 = .ok (.aload_n 0, 1) := by decide +kernel
theorem dX11_clauseHere_158 : decode cX11_clauseHere 158 = .ok (.ldc2_w 333, 3) := by decide +kernel
theorem dX11_clauseHere_161 : decode cX11_clauseHere 161 = .ok (.invokevirtual 190, 3) := by decide +kernel
theorem dX11_clauseHere_164 : decode cX11_clauseHere 164 = .ok (.ifCond .eq 7, 3) := by decide +kernel
theorem dX11_clauseHere_171 : decode cX11_clauseHere 171 = .ok (.iconst 0, 1) := by decide +kernel
theorem dX11_clauseHere_172 : decode cX11_clauseHere 172 = .ok (.goto 12, 3) := by decide +kernel
theorem dX11_clauseHere_175 : decode cX11_clauseHere 175 = .ok (.iload_n 3, 1) := by decide +kernel
theorem dX11_clauseHere_176 : decode cX11_clauseHere 176 = .ok (.ifCond .lt 7, 3) := by decide +kernel
theorem dX11_clauseHere_183 : decode cX11_clauseHere 183 = .ok (.iconst 0, 1) := by decide +kernel
theorem dX11_clauseHere_184 : decode cX11_clauseHere 184 = .ok (.istore 4, 2) := by decide +kernel
theorem dX11_clauseHere_186 : decode cX11_clauseHere 186 = .ok (.iload 4, 2) := by decide +kernel
theorem dX11_clauseHere_188 : decode cX11_clauseHere 188 = .ok (.ifCond .ne 10, 3) := by decide +kernel
theorem dX11_clauseHere_191 : decode cX11_clauseHere 191 = .ok (.aload_n 0, 1) := by decide +kernel
theorem dX11_clauseHere_192 : decode cX11_clauseHere 192 = .ok (.iconst 0, 1) := by decide +kernel
theorem dX11_clauseHere_193 : decode cX11_clauseHere 193 = .ok (.iload_n 1, 1) := by decide +kernel
theorem dX11_clauseHere_194 : decode cX11_clauseHere 194 = .ok (.invokevirtual 200, 3) := by decide +kernel
theorem dX11_clauseHere_197 : decode cX11_clauseHere 197 = .ok (.ireturn, 1) := by decide +kernel
theorem dX11_count_0 : decode cX11_count 0 = .ok (.iconst 0, 1) := by decide +kernel
theorem dX11_count_1 : decode cX11_count 1 = .ok (.istore_n 2, 1) := by decide +kernel
theorem dX11_count_2 : decode cX11_count 2 = .ok (.iload_n 1, 1) := by decide +kernel
theorem dX11_count_3 : decode cX11_count 3 = .ok (.tableswitch 139 0 7 #[45, 52, 59, 66, 73, 80, 87, 134], 45) := by decide +kernel
theorem dX11_count_48 : decode cX11_count 48 = .ok (.aload_n 0, 1) := by decide +kernel
theorem dX11_count_49 : decode cX11_count 49 = .ok (.getfield 7, 3) := by decide +kernel
theorem dX11_count_52 : decode cX11_count 52 = .ok (.iconst 0, 1) := by decide +kernel
theorem dX11_count_53 : decode cX11_count 53 = .ok (.iaload, 1) := by decide +kernel
theorem dX11_count_54 : decode cX11_count 54 = .ok (.ireturn, 1) := by decide +kernel
theorem dX11_count_55 : decode cX11_count 55 = .ok (.aload_n 0, 1) := by decide +kernel
theorem dX11_count_56 : decode cX11_count 56 = .ok (.getfield 7, 3) := by decide +kernel
theorem dX11_count_59 : decode cX11_count 59 = .ok (.iconst 1, 1) := by decide +kernel
theorem dX11_count_60 : decode cX11_count 60 = .ok (.iaload, 1) := by decide +kernel
theorem dX11_count_61 : decode cX11_count 61 = .ok (.ireturn, 1) := by decide +kernel
theorem dX11_count_62 : decode cX11_count 62 = .ok (.aload_n 0, 1) := by decide +kernel
theorem dX11_count_63 : decode cX11_count 63 = .ok (.getfield 20, 3) := by decide +kernel
theorem dX11_count_66 : decode cX11_count 66 = .ok (.iconst 0, 1) := by decide +kernel
theorem dX11_count_67 : decode cX11_count 67 = .ok (.iaload, 1) := by decide +kernel
theorem dX11_count_68 : decode cX11_count 68 = .ok (.ireturn, 1) := by decide +kernel
theorem dX11_count_69 : decode cX11_count 69 = .ok (.aload_n 0, 1) := by decide +kernel
theorem dX11_count_70 : decode cX11_count 70 = .ok (.getfield 20, 3) := by decide +kernel
theorem dX11_count_73 : decode cX11_count 73 = .ok (.iconst 1, 1) := by decide +kernel
theorem dX11_count_74 : decode cX11_count 74 = .ok (.iaload, 1) := by decide +kernel
theorem dX11_count_75 : decode cX11_count 75 = .ok (.ireturn, 1) := by decide +kernel
theorem dX11_count_76 : decode cX11_count 76 = .ok (.aload_n 0, 1) := by decide +kernel
theorem dX11_count_77 : decode cX11_count 77 = .ok (.getfield 20, 3) := by decide +kernel
theorem dX11_count_80 : decode cX11_count 80 = .ok (.iconst 2, 1) := by decide +kernel
theorem dX11_count_81 : decode cX11_count 81 = .ok (.iaload, 1) := by decide +kernel
theorem dX11_count_82 : decode cX11_count 82 = .ok (.ireturn, 1) := by decide +kernel
theorem dX11_count_83 : decode cX11_count 83 = .ok (.aload_n 0, 1) := by decide +kernel
theorem dX11_count_84 : decode cX11_count 84 = .ok (.getfield 7, 3) := by decide +kernel
theorem dX11_count_87 : decode cX11_count 87 = .ok (.iconst 2, 1) := by decide +kernel
theorem dX11_count_88 : decode cX11_count 88 = .ok (.iaload, 1) := by decide +kernel
theorem dX11_count_89 : decode cX11_count 89 = .ok (.ireturn, 1) := by decide +kernel
theorem dX11_count_90 : decode cX11_count 90 = .ok (.iconst 0, 1) := by decide +kernel
theorem dX11_count_91 : decode cX11_count 91 = .ok (.istore_n 3, 1) := by decide +kernel
theorem dX11_count_92 : decode cX11_count 92 = .ok (.iload_n 3, 1) := by decide +kernel
theorem dX11_count_93 : decode cX11_count 93 = .ok (.sipush 600, 3) := by decide +kernel
theorem dX11_count_96 : decode cX11_count 96 = .ok (.aload_n 0, 1) := by decide +kernel
theorem dX11_count_97 : decode cX11_count 97 = .ok (.getfield 7, 3) := by decide +kernel
theorem dX11_count_100 : decode cX11_count 100 = .ok (.iconst 0, 1) := by decide +kernel
theorem dX11_count_101 : decode cX11_count 101 = .ok (.iaload, 1) := by decide +kernel
theorem dX11_count_102 : decode cX11_count 102 = .ok (.imul, 1) := by decide +kernel
theorem dX11_count_103 : decode cX11_count 103 = .ok (.if_icmp .ge 32, 3) := by decide +kernel
theorem dX11_count_135 : decode cX11_count 135 = .ok (.iload_n 2, 1) := by decide +kernel
theorem dX11_count_136 : decode cX11_count 136 = .ok (.ireturn, 1) := by decide +kernel
theorem dX11_count_137 : decode cX11_count 137 = .ok (.aload_n 0, 1) := by decide +kernel
theorem dX11_count_138 : decode cX11_count 138 = .ok (.getfield 169, 3) := by decide +kernel
theorem dX11_count_141 : decode cX11_count 141 = .ok (.ireturn, 1) := by decide +kernel
theorem dX11_count_142 : decode cX11_count 142 = .ok (.iconst (-1), 1) := by decide +kernel
theorem dX11_count_143 : decode cX11_count 143 = .ok (.ireturn, 1) := by decide +kernel
theorem dX11_end_0 : decode cX11_end 0 = .ok (.iload_n 1, 1) := by decide +kernel
theorem dX11_end_1 : decode cX11_end 1 = .ok (.ifCond .lt 11, 3) := by decide +kernel
theorem dX11_end_4 : decode cX11_end 4 = .ok (.iload_n 1, 1) := by decide +kernel
theorem dX11_end_5 : decode cX11_end 5 = .ok (.aload_n 0, 1) := by decide +kernel
theorem dX11_end_6 : decode cX11_end 6 = .ok (.getfield 169, 3) := by decide +kernel
theorem dX11_end_9 : decode cX11_end 9 = .ok (.if_icmp .le 5, 3) := by decide +kernel
theorem dX11_end_12 : decode cX11_end 12 = .ok (.iconst (-1), 1) := by decide +kernel
theorem dX11_end_13 : decode cX11_end 13 = .ok (.ireturn, 1) := by decide +kernel
theorem dX11_end_14 : decode cX11_end 14 = .ok (.aload_n 0, 1) := by decide +kernel
theorem dX11_end_15 : decode cX11_end 15 = .ok (.iload_n 1, 1) := by decide +kernel
theorem dX11_end_16 : decode cX11_end 16 = .ok (.putfield 169, 3) := by decide +kernel
theorem dX11_end_19 : decode cX11_end 19 = .ok (.iload_n 1, 1) := by decide +kernel
theorem dX11_end_20 : decode cX11_end 20 = .ok (.ireturn, 1) := by decide +kernel
theorem dX11_fails_0 : decode cX11_fails 0 = .ok (.aload_n 0, 1) := by decide +kernel
theorem dX11_fails_1 : decode cX11_fails 1 = .ok (.getfield 177, 3) := by decide +kernel
theorem dX11_fails_4 : decode cX11_fails 4 = .ok (.ifCond .ne 15, 3) := by decide +kernel
theorem dX11_fails_7 : decode cX11_fails 7 = .ok (.aload_n 0, 1) := by decide +kernel
theorem dX11_fails_8 : decode cX11_fails 8 = .ok (.iconst 1, 1) := by decide +kernel
theorem dX11_fails_9 : decode cX11_fails 9 = .ok (.bipush 8, 2) := by decide +kernel
theorem dX11_fails_11 : decode cX11_fails 11 = .ok (.iload_n 2, 1) := by decide +kernel
theorem dX11_fails_12 : decode cX11_fails 12 = .ok (.imul, 1) := by decide +kernel
theorem dX11_fails_13 : decode cX11_fails 13 = .ok (.iadd, 1) := by decide +kernel
theorem dX11_fails_14 : decode cX11_fails 14 = .ok (.iload_n 1, 1) := by decide +kernel
theorem dX11_fails_15 : decode cX11_fails 15 = .ok (.iadd, 1) := by decide +kernel
theorem dX11_fails_16 : decode cX11_fails 16 = .ok (.putfield 177, 3) := by decide +kernel
theorem dX11_fails_19 : decode cX11_fails 19 = .ok (.iconst 0, 1) := by decide +kernel
theorem dX11_fails_20 : decode cX11_fails 20 = .ok (.ireturn, 1) := by decide +kernel
theorem dX11_feed_0 : decode cX11_feed 0 = .ok (.aload_n 0, 1) := by decide +kernel
theorem dX11_feed_1 : decode cX11_feed 1 = .ok (.getfield 169, 3) := by decide +kernel
theorem dX11_feed_4 : decode cX11_feed 4 = .ok (.bipush 20, 2) := by decide +kernel
theorem dX11_feed_6 : decode cX11_feed 6 = .ok (.iadd, 1) := by decide +kernel
theorem dX11_feed_7 : decode cX11_feed 7 = .ok (.sipush 400, 3) := by decide +kernel
theorem dX11_feed_10 : decode cX11_feed 10 = .ok (.if_icmp .le 5, 3) := by decide +kernel
theorem dX11_feed_15 : decode cX11_feed 15 = .ok (.aload_n 0, 1) := by decide +kernel
theorem dX11_feed_16 : decode cX11_feed 16 = .ok (.iload_n 1, 1) := by decide +kernel
theorem dX11_feed_17 : decode cX11_feed 17 = .ok (.invokevirtual 173, 3) := by decide +kernel
theorem dX11_feed_20 : decode cX11_feed 20 = .ok (.aload_n 0, 1) := by decide +kernel
theorem dX11_feed_21 : decode cX11_feed 21 = .ok (.iload_n 2, 1) := by decide +kernel
theorem dX11_feed_22 : decode cX11_feed 22 = .ok (.invokevirtual 173, 3) := by decide +kernel
theorem dX11_feed_25 : decode cX11_feed 25 = .ok (.aload_n 0, 1) := by decide +kernel
theorem dX11_feed_26 : decode cX11_feed 26 = .ok (.iload_n 3, 1) := by decide +kernel
theorem dX11_feed_27 : decode cX11_feed 27 = .ok (.invokevirtual 173, 3) := by decide +kernel
theorem dX11_feed_30 : decode cX11_feed 30 = .ok (.aload_n 0, 1) := by decide +kernel
theorem dX11_feed_31 : decode cX11_feed 31 = .ok (.iload 4, 2) := by decide +kernel
theorem dX11_feed_33 : decode cX11_feed 33 = .ok (.invokevirtual 173, 3) := by decide +kernel
theorem dX11_feed_36 : decode cX11_feed 36 = .ok (.aload_n 0, 1) := by decide +kernel
theorem dX11_feed_37 : decode cX11_feed 37 = .ok (.iload 5, 2) := by decide +kernel
theorem dX11_feed_39 : decode cX11_feed 39 = .ok (.invokevirtual 173, 3) := by decide +kernel
theorem dX11_feed_42 : decode cX11_feed 42 = .ok (.aload_n 0, 1) := by decide +kernel
theorem dX11_feed_43 : decode cX11_feed 43 = .ok (.getfield 169, 3) := by decide +kernel
theorem dX11_feed_46 : decode cX11_feed 46 = .ok (.ireturn, 1) := by decide +kernel
theorem dX11_finest_0 : decode cX11_finest 0 = .ok (.iconst (-1), 1) := by decide +kernel
theorem dX11_finest_1 : decode cX11_finest 1 = .ok (.istore_n 1, 1) := by decide +kernel
theorem dX11_finest_2 : decode cX11_finest 2 = .ok (.iconst 0, 1) := by decide +kernel
theorem dX11_finest_3 : decode cX11_finest 3 = .ok (.istore_n 2, 1) := by decide +kernel
theorem dX11_finest_4 : decode cX11_finest 4 = .ok (.iconst 0, 1) := by decide +kernel
theorem dX11_finest_5 : decode cX11_finest 5 = .ok (.istore_n 3, 1) := by decide +kernel
theorem dX11_finest_6 : decode cX11_finest 6 = .ok (.iconst 0, 1) := by decide +kernel
theorem dX11_finest_7 : decode cX11_finest 7 = .ok (.istore 4, 2) := by decide +kernel
theorem dX11_finest_9 : decode cX11_finest 9 = .ok (.iload 4, 2) := by decide +kernel
theorem dX11_finest_11 : decode cX11_finest 11 = .ok (.aload_n 0, 1) := by decide +kernel
theorem dX11_finest_12 : decode cX11_finest 12 = .ok (.getfield 20, 3) := by decide +kernel
theorem dX11_finest_15 : decode cX11_finest 15 = .ok (.iconst 1, 1) := by decide +kernel
theorem dX11_finest_16 : decode cX11_finest 16 = .ok (.iaload, 1) := by decide +kernel
theorem dX11_finest_17 : decode cX11_finest 17 = .ok (.if_icmp .ge 105, 3) := by decide +kernel
theorem dX11_finest_122 : decode cX11_finest 122 = .ok (.iload_n 1, 1) := by decide +kernel
theorem dX11_finest_123 : decode cX11_finest 123 = .ok (.ireturn, 1) := by decide +kernel
theorem dX11_fold_0 : decode cX11_fold 0 = .ok (.aload_n 0, 1) := by decide +kernel
theorem dX11_fold_1 : decode cX11_fold 1 = .ok (.iload_n 1, 1) := by decide +kernel
theorem dX11_fold_2 : decode cX11_fold 2 = .ok (.invokevirtual 108, 3) := by decide +kernel
theorem dX11_fold_5 : decode cX11_fold 5 = .ok (.ifCond .eq 54, 3) := by decide +kernel
theorem dX11_fold_59 : decode cX11_fold 59 = .ok (.ldc2_w 567, 3) := by decide +kernel
theorem dX11_fold_62 : decode cX11_fold 62 = .ok (.lreturn, 1) := by decide +kernel
theorem dX11_found_0 : decode cX11_found 0 = .ok (.aload_n 0, 1) := by decide +kernel
theorem dX11_found_1 : decode cX11_found 1 = .ok (.iconst 1, 1) := by decide +kernel
theorem dX11_found_2 : decode cX11_found 2 = .ok (.iload_n 1, 1) := by decide +kernel
theorem dX11_found_3 : decode cX11_found 3 = .ok (.invokevirtual 366, 3) := by decide +kernel
theorem dX11_found_6 : decode cX11_found 6 = .ok (.ifCond .eq 36, 3) := by decide +kernel
theorem dX11_found_42 : decode cX11_found 42 = .ok (.ldc2_w 485, 3) := by decide +kernel
theorem dX11_found_45 : decode cX11_found 45 = .ok (.lreturn, 1) := by decide +kernel
theorem dX11_four_0 : decode cX11_four 0 = .ok (.bipush 24, 2) := by decide +kernel
theorem dX11_four_2 : decode cX11_four 2 = .ok (.istore_n 2, 1) := by decide +kernel
theorem dX11_four_3 : decode cX11_four 3 = .ok (.iload_n 2, 1) := by decide +kernel
theorem dX11_four_4 : decode cX11_four 4 = .ok (.ifCond .lt 32, 3) := by decide +kernel
theorem dX11_four_7 : decode cX11_four 7 = .ok (.aload_n 0, 1) := by decide +kernel
theorem dX11_four_8 : decode cX11_four 8 = .ok (.getfield 16, 3) := by decide +kernel
theorem dX11_four_11 : decode cX11_four 11 = .ok (.aload_n 0, 1) := by decide +kernel
theorem dX11_four_12 : decode cX11_four 12 = .ok (.getfield 169, 3) := by decide +kernel
theorem dX11_four_15 : decode cX11_four 15 = .ok (.iload_n 1, 1) := by decide +kernel
theorem dX11_four_16 : decode cX11_four 16 = .ok (.iload_n 2, 1) := by decide +kernel
theorem dX11_four_17 : decode cX11_four 17 = .ok (.ishr, 1) := by decide +kernel
theorem dX11_four_18 : decode cX11_four 18 = .ok (.i2b, 1) := by decide +kernel
theorem dX11_four_19 : decode cX11_four 19 = .ok (.bastore, 1) := by decide +kernel
theorem dX11_four_20 : decode cX11_four 20 = .ok (.aload_n 0, 1) := by decide +kernel
theorem dX11_four_21 : decode cX11_four 21 = .ok (.dup, 1) := by decide +kernel
theorem dX11_four_22 : decode cX11_four 22 = .ok (.getfield 169, 3) := by decide +kernel
theorem dX11_four_25 : decode cX11_four 25 = .ok (.iconst 1, 1) := by decide +kernel
theorem dX11_four_26 : decode cX11_four 26 = .ok (.iadd, 1) := by decide +kernel
theorem dX11_four_27 : decode cX11_four 27 = .ok (.putfield 169, 3) := by decide +kernel
theorem dX11_four_30 : decode cX11_four 30 = .ok (.iinc 2 (-8), 3) := by decide +kernel
theorem dX11_four_33 : decode cX11_four 33 = .ok (.goto (-30), 3) := by decide +kernel
theorem dX11_four_36 : decode cX11_four 36 = .ok (.return_, 1) := by decide +kernel
theorem dX11_in_0 : decode cX11_in 0 = .ok (.lload_n 0, 1) := by decide +kernel
theorem dX11_in_1 : decode cX11_in 1 = .ok (.lload_n 2, 1) := by decide +kernel
theorem dX11_in_2 : decode cX11_in 2 = .ok (.lcmp, 1) := by decide +kernel
theorem dX11_in_3 : decode cX11_in 3 = .ok (.ifCond .lt 14, 3) := by decide +kernel
theorem dX11_in_6 : decode cX11_in 6 = .ok (.lload_n 0, 1) := by decide +kernel
theorem dX11_in_7 : decode cX11_in 7 = .ok (.lload 4, 2) := by decide +kernel
theorem dX11_in_9 : decode cX11_in 9 = .ok (.lcmp, 1) := by decide +kernel
theorem dX11_in_10 : decode cX11_in 10 = .ok (.ifCond .gt 7, 3) := by decide +kernel
theorem dX11_in_13 : decode cX11_in 13 = .ok (.iconst 1, 1) := by decide +kernel
theorem dX11_in_14 : decode cX11_in 14 = .ok (.goto 4, 3) := by decide +kernel
theorem dX11_in_17 : decode cX11_in 17 = .ok (.iconst 0, 1) := by decide +kernel
theorem dX11_in_18 : decode cX11_in 18 = .ok (.ireturn, 1) := by decide +kernel
theorem dX11_isHour_0 : decode cX11_isHour 0 = .ok (.iload_n 0, 1) := by decide +kernel
theorem dX11_isHour_1 : decode cX11_isHour 1 = .ok (.ifCond .lt 14, 3) := by decide +kernel
theorem dX11_isHour_4 : decode cX11_isHour 4 = .ok (.iload_n 0, 1) := by decide +kernel
theorem dX11_isHour_5 : decode cX11_isHour 5 = .ok (.sipush 600, 3) := by decide +kernel
theorem dX11_isHour_8 : decode cX11_isHour 8 = .ok (.if_icmp .ge 7, 3) := by decide +kernel
theorem dX11_isHour_11 : decode cX11_isHour 11 = .ok (.iconst 1, 1) := by decide +kernel
theorem dX11_isHour_12 : decode cX11_isHour 12 = .ok (.goto 4, 3) := by decide +kernel
theorem dX11_isHour_15 : decode cX11_isHour 15 = .ok (.iconst 0, 1) := by decide +kernel
theorem dX11_isHour_16 : decode cX11_isHour 16 = .ok (.ireturn, 1) := by decide +kernel
theorem dX11_isLetter_0 : decode cX11_isLetter 0 = .ok (.iload_n 1, 1) := by decide +kernel
theorem dX11_isLetter_1 : decode cX11_isLetter 1 = .ok (.aload_n 0, 1) := by decide +kernel
theorem dX11_isLetter_2 : decode cX11_isLetter 2 = .ok (.getfield 169, 3) := by decide +kernel
theorem dX11_isLetter_5 : decode cX11_isLetter 5 = .ok (.if_icmp .ge 29, 3) := by decide +kernel
theorem dX11_isLetter_34 : decode cX11_isLetter 34 = .ok (.iconst 0, 1) := by decide +kernel
theorem dX11_isLetter_35 : decode cX11_isLetter 35 = .ok (.ireturn, 1) := by decide +kernel
theorem dX11_isStar_0 : decode cX11_isStar 0 = .ok (.iload_n 1, 1) := by decide +kernel
theorem dX11_isStar_1 : decode cX11_isStar 1 = .ok (.ifCond .lt 17, 3) := by decide +kernel
theorem dX11_isStar_4 : decode cX11_isStar 4 = .ok (.iload_n 1, 1) := by decide +kernel
theorem dX11_isStar_5 : decode cX11_isStar 5 = .ok (.aload_n 0, 1) := by decide +kernel
theorem dX11_isStar_6 : decode cX11_isStar 6 = .ok (.getfield 7, 3) := by decide +kernel
theorem dX11_isStar_9 : decode cX11_isStar 9 = .ok (.iconst 0, 1) := by decide +kernel
theorem dX11_isStar_10 : decode cX11_isStar 10 = .ok (.iaload, 1) := by decide +kernel
theorem dX11_isStar_11 : decode cX11_isStar 11 = .ok (.if_icmp .ge 7, 3) := by decide +kernel
theorem dX11_isStar_18 : decode cX11_isStar 18 = .ok (.iconst 0, 1) := by decide +kernel
theorem dX11_isStar_19 : decode cX11_isStar 19 = .ok (.ireturn, 1) := by decide +kernel
theorem dX11_isText_0 : decode cX11_isText 0 = .ok (.iload_n 2, 1) := by decide +kernel
theorem dX11_isText_1 : decode cX11_isText 1 = .ok (.ifCond .lt 17, 3) := by decide +kernel
theorem dX11_isText_4 : decode cX11_isText 4 = .ok (.iload_n 2, 1) := by decide +kernel
theorem dX11_isText_5 : decode cX11_isText 5 = .ok (.aload_n 0, 1) := by decide +kernel
theorem dX11_isText_6 : decode cX11_isText 6 = .ok (.getfield 20, 3) := by decide +kernel
theorem dX11_isText_9 : decode cX11_isText 9 = .ok (.iload_n 1, 1) := by decide +kernel
theorem dX11_isText_10 : decode cX11_isText 10 = .ok (.iaload, 1) := by decide +kernel
theorem dX11_isText_11 : decode cX11_isText 11 = .ok (.if_icmp .ge 7, 3) := by decide +kernel
theorem dX11_isText_18 : decode cX11_isText 18 = .ok (.iconst 0, 1) := by decide +kernel
theorem dX11_isText_19 : decode cX11_isText 19 = .ok (.ireturn, 1) := by decide +kernel
theorem dX11_isWord_0 : decode cX11_isWord 0 = .ok (.aload_n 0, 1) := by decide +kernel
theorem dX11_isWord_1 : decode cX11_isWord 1 = .ok (.invokevirtual 183, 3) := by decide +kernel
theorem dX11_isWord_4 : decode cX11_isWord 4 = .ok (.pop, 1) := by decide +kernel
theorem dX11_isWord_5 : decode cX11_isWord 5 = .ok (.lconst 0, 1) := by decide +kernel
theorem dX11_isWord_6 : decode cX11_isWord 6 = .ok (.lstore_n 3, 1) := by decide +kernel
theorem dX11_isWord_7 : decode cX11_isWord 7 = .ok (.iconst 0, 1) := by decide +kernel
theorem dX11_isWord_8 : decode cX11_isWord 8 = .ok (.istore 5, 2) := by decide +kernel
theorem dX11_isWord_10 : decode cX11_isWord 10 = .ok (.aload_n 0, 1) := by decide +kernel
theorem dX11_isWord_11 : decode cX11_isWord 11 = .ok (.aload_n 0, 1) := by decide +kernel
theorem dX11_isWord_12 : decode cX11_isWord 12 = .ok (.getfield 180, 3) := by decide +kernel
theorem dX11_isWord_15 : decode cX11_isWord 15 = .ok (.iload 5, 2) := by decide +kernel
theorem dX11_isWord_17 : decode cX11_isWord 17 = .ok (.iadd, 1) := by decide +kernel
theorem dX11_isWord_18 : decode cX11_isWord 18 = .ok (.invokevirtual 187, 3) := by decide +kernel
theorem dX11_isWord_21 : decode cX11_isWord 21 = .ok (.ifCond .eq 35, 3) := by decide +kernel
theorem dX11_isWord_56 : decode cX11_isWord 56 = .ok (.iload 5, 2) := by decide +kernel
theorem dX11_isWord_58 : decode cX11_isWord 58 = .ok (.ifCond .le 20, 3) := by decide +kernel
theorem dX11_isWord_78 : decode cX11_isWord 78 = .ok (.iconst 0, 1) := by decide +kernel
theorem dX11_isWord_79 : decode cX11_isWord 79 = .ok (.ireturn, 1) := by decide +kernel
theorem dX11_line_0 : decode cX11_line 0 = .ok (.aload_n 0, 1) := by decide +kernel
theorem dX11_line_1 : decode cX11_line 1 = .ok (.iconst 1, 1) := by decide +kernel
theorem dX11_line_2 : decode cX11_line 2 = .ok (.iload_n 1, 1) := by decide +kernel
theorem dX11_line_3 : decode cX11_line 3 = .ok (.invokevirtual 366, 3) := by decide +kernel
theorem dX11_line_6 : decode cX11_line 6 = .ok (.ifCond .eq 51, 3) := by decide +kernel
theorem dX11_line_57 : decode cX11_line 57 = .ok (.iconst (-1), 1) := by decide +kernel
theorem dX11_line_58 : decode cX11_line 58 = .ok (.ireturn, 1) := by decide +kernel
theorem dX11_make_0 : decode cX11_make 0 = .ok (.aload_n 0, 1) := by decide +kernel
theorem dX11_make_1 : decode cX11_make 1 = .ok (.iconst 0, 1) := by decide +kernel
theorem dX11_make_2 : decode cX11_make 2 = .ok (.iload_n 1, 1) := by decide +kernel
theorem dX11_make_3 : decode cX11_make 3 = .ok (.invokevirtual 366, 3) := by decide +kernel
theorem dX11_make_6 : decode cX11_make 6 = .ok (.ifCond .eq 38, 3) := by decide +kernel
theorem dX11_make_44 : decode cX11_make 44 = .ok (.iconst (-1), 1) := by decide +kernel
theorem dX11_make_45 : decode cX11_make 45 = .ok (.ireturn, 1) := by decide +kernel
theorem dX11_many_0 : decode cX11_many 0 = .ok (.aload_n 0, 1) := by decide +kernel
theorem dX11_many_1 : decode cX11_many 1 = .ok (.iconst 1, 1) := by decide +kernel
theorem dX11_many_2 : decode cX11_many 2 = .ok (.iload_n 1, 1) := by decide +kernel
theorem dX11_many_3 : decode cX11_many 3 = .ok (.invokevirtual 366, 3) := by decide +kernel
theorem dX11_many_6 : decode cX11_many 6 = .ok (.ifCond .eq 33, 3) := by decide +kernel
theorem dX11_many_39 : decode cX11_many 39 = .ok (.iconst (-1), 1) := by decide +kernel
theorem dX11_many_40 : decode cX11_many 40 = .ok (.ireturn, 1) := by decide +kernel
theorem dX11_mask_0 : decode cX11_mask 0 = .ok (.iload_n 1, 1) := by decide +kernel
theorem dX11_mask_1 : decode cX11_mask 1 = .ok (.i2l, 1) := by decide +kernel
theorem dX11_mask_2 : decode cX11_mask 2 = .ok (.lconst 0, 1) := by decide +kernel
theorem dX11_mask_3 : decode cX11_mask 3 = .ok (.ldc2_w 103, 3) := by decide +kernel
theorem dX11_mask_6 : decode cX11_mask 6 = .ok (.invokestatic 99, 3) := by decide +kernel
theorem dX11_mask_9 : decode cX11_mask 9 = .ok (.ifCond .eq 27, 3) := by decide +kernel
theorem dX11_mask_12 : decode cX11_mask 12 = .ok (.iload_n 2, 1) := by decide +kernel
theorem dX11_mask_13 : decode cX11_mask 13 = .ok (.i2l, 1) := by decide +kernel
theorem dX11_mask_14 : decode cX11_mask 14 = .ok (.lconst 0, 1) := by decide +kernel
theorem dX11_mask_15 : decode cX11_mask 15 = .ok (.ldc2_w 126, 3) := by decide +kernel
theorem dX11_mask_18 : decode cX11_mask 18 = .ok (.invokestatic 99, 3) := by decide +kernel
theorem dX11_mask_21 : decode cX11_mask 21 = .ok (.ifCond .eq 15, 3) := by decide +kernel
theorem dX11_mask_24 : decode cX11_mask 24 = .ok (.iload_n 3, 1) := by decide +kernel
theorem dX11_mask_25 : decode cX11_mask 25 = .ok (.i2l, 1) := by decide +kernel
theorem dX11_mask_26 : decode cX11_mask 26 = .ok (.lconst 0, 1) := by decide +kernel
theorem dX11_mask_27 : decode cX11_mask 27 = .ok (.ldc2_w 117, 3) := by decide +kernel
theorem dX11_mask_30 : decode cX11_mask 30 = .ok (.invokestatic 99, 3) := by decide +kernel
theorem dX11_mask_33 : decode cX11_mask 33 = .ok (.ifCond .ne 5, 3) := by decide +kernel
theorem dX11_mask_36 : decode cX11_mask 36 = .ok (.iconst 0, 1) := by decide +kernel
theorem dX11_mask_37 : decode cX11_mask 37 = .ok (.ireturn, 1) := by decide +kernel
theorem dX11_mask_38 : decode cX11_mask 38 = .ok (.aload_n 0, 1) := by decide +kernel
theorem dX11_mask_39 : decode cX11_mask 39 = .ok (.getfield 7, 3) := by decide +kernel
theorem dX11_mask_42 : decode cX11_mask 42 = .ok (.sipush 7517, 3) := by decide +kernel
theorem dX11_mask_45 : decode cX11_mask 45 = .ok (.iconst 2, 1) := by decide +kernel
theorem dX11_mask_46 : decode cX11_mask 46 = .ok (.iload_n 1, 1) := by decide +kernel
theorem dX11_mask_47 : decode cX11_mask 47 = .ok (.imul, 1) := by decide +kernel
theorem dX11_mask_48 : decode cX11_mask 48 = .ok (.iadd, 1) := by decide +kernel
theorem dX11_mask_49 : decode cX11_mask 49 = .ok (.iload_n 2, 1) := by decide +kernel
theorem dX11_mask_50 : decode cX11_mask 50 = .ok (.iastore, 1) := by decide +kernel
theorem dX11_mask_51 : decode cX11_mask 51 = .ok (.aload_n 0, 1) := by decide +kernel
theorem dX11_mask_52 : decode cX11_mask 52 = .ok (.getfield 7, 3) := by decide +kernel
theorem dX11_mask_55 : decode cX11_mask 55 = .ok (.sipush 7517, 3) := by decide +kernel
theorem dX11_mask_58 : decode cX11_mask 58 = .ok (.iconst 2, 1) := by decide +kernel
theorem dX11_mask_59 : decode cX11_mask 59 = .ok (.iload_n 1, 1) := by decide +kernel
theorem dX11_mask_60 : decode cX11_mask 60 = .ok (.imul, 1) := by decide +kernel
theorem dX11_mask_61 : decode cX11_mask 61 = .ok (.iadd, 1) := by decide +kernel
theorem dX11_mask_62 : decode cX11_mask 62 = .ok (.iconst 1, 1) := by decide +kernel
theorem dX11_mask_63 : decode cX11_mask 63 = .ok (.iadd, 1) := by decide +kernel
theorem dX11_mask_64 : decode cX11_mask 64 = .ok (.iload_n 3, 1) := by decide +kernel
theorem dX11_mask_65 : decode cX11_mask 65 = .ok (.iastore, 1) := by decide +kernel
theorem dX11_mask_66 : decode cX11_mask 66 = .ok (.iconst 1, 1) := by decide +kernel
theorem dX11_mask_67 : decode cX11_mask 67 = .ok (.ireturn, 1) := by decide +kernel
theorem dX11_next_0 : decode cX11_next 0 = .ok (.aload_n 0, 1) := by decide +kernel
theorem dX11_next_1 : decode cX11_next 1 = .ok (.iconst 1, 1) := by decide +kernel
theorem dX11_next_2 : decode cX11_next 2 = .ok (.iload_n 1, 1) := by decide +kernel
theorem dX11_next_3 : decode cX11_next 3 = .ok (.invokevirtual 366, 3) := by decide +kernel
theorem dX11_next_6 : decode cX11_next 6 = .ok (.ifCond .eq 23, 3) := by decide +kernel
theorem dX11_next_29 : decode cX11_next 29 = .ok (.iconst (-1), 1) := by decide +kernel
theorem dX11_next_30 : decode cX11_next 30 = .ok (.ireturn, 1) := by decide +kernel
theorem dX11_nights_0 : decode cX11_nights 0 = .ok (.iload_n 1, 1) := by decide +kernel
theorem dX11_nights_1 : decode cX11_nights 1 = .ok (.i2l, 1) := by decide +kernel
theorem dX11_nights_2 : decode cX11_nights 2 = .ok (.lconst 0, 1) := by decide +kernel
theorem dX11_nights_3 : decode cX11_nights 3 = .ok (.ldc2_w 571, 3) := by decide +kernel
theorem dX11_nights_6 : decode cX11_nights 6 = .ok (.invokestatic 99, 3) := by decide +kernel
theorem dX11_nights_9 : decode cX11_nights 9 = .ok (.ifCond .eq 13, 3) := by decide +kernel
theorem dX11_nights_12 : decode cX11_nights 12 = .ok (.iload_n 2, 1) := by decide +kernel
theorem dX11_nights_13 : decode cX11_nights 13 = .ok (.i2l, 1) := by decide +kernel
theorem dX11_nights_14 : decode cX11_nights 14 = .ok (.lconst 0, 1) := by decide +kernel
theorem dX11_nights_15 : decode cX11_nights 15 = .ok (.lconst 1, 1) := by decide +kernel
theorem dX11_nights_16 : decode cX11_nights 16 = .ok (.invokestatic 99, 3) := by decide +kernel
theorem dX11_nights_19 : decode cX11_nights 19 = .ok (.ifCond .ne 5, 3) := by decide +kernel
theorem dX11_nights_22 : decode cX11_nights 22 = .ok (.iconst (-1), 1) := by decide +kernel
theorem dX11_nights_23 : decode cX11_nights 23 = .ok (.ireturn, 1) := by decide +kernel
theorem dX11_nights_24 : decode cX11_nights 24 = .ok (.iconst 0, 1) := by decide +kernel
theorem dX11_nights_25 : decode cX11_nights 25 = .ok (.istore_n 3, 1) := by decide +kernel
theorem dX11_nights_26 : decode cX11_nights 26 = .ok (.iconst 0, 1) := by decide +kernel
theorem dX11_nights_27 : decode cX11_nights 27 = .ok (.istore 4, 2) := by decide +kernel
theorem dX11_nights_29 : decode cX11_nights 29 = .ok (.iconst 0, 1) := by decide +kernel
theorem dX11_nights_30 : decode cX11_nights 30 = .ok (.istore 5, 2) := by decide +kernel
theorem dX11_nights_32 : decode cX11_nights 32 = .ok (.iconst 1, 1) := by decide +kernel
theorem dX11_nights_33 : decode cX11_nights 33 = .ok (.istore 6, 2) := by decide +kernel
theorem dX11_nights_35 : decode cX11_nights 35 = .ok (.iload 6, 2) := by decide +kernel
theorem dX11_nights_37 : decode cX11_nights 37 = .ok (.iconst 1, 1) := by decide +kernel
theorem dX11_nights_38 : decode cX11_nights 38 = .ok (.aload_n 0, 1) := by decide +kernel
theorem dX11_nights_39 : decode cX11_nights 39 = .ok (.getfield 7, 3) := by decide +kernel
theorem dX11_nights_42 : decode cX11_nights 42 = .ok (.iconst 2, 1) := by decide +kernel
theorem dX11_nights_43 : decode cX11_nights 43 = .ok (.iaload, 1) := by decide +kernel
theorem dX11_nights_44 : decode cX11_nights 44 = .ok (.ishl, 1) := by decide +kernel
theorem dX11_nights_45 : decode cX11_nights 45 = .ok (.if_icmp .ge 132, 3) := by decide +kernel
theorem dX11_nights_177 : decode cX11_nights 177 = .ok (.iload_n 2, 1) := by decide +kernel
theorem dX11_nights_178 : decode cX11_nights 178 = .ok (.ifCond .ne 7, 3) := by decide +kernel
theorem dX11_nights_181 : decode cX11_nights 181 = .ok (.iload_n 3, 1) := by decide +kernel
theorem dX11_nights_182 : decode cX11_nights 182 = .ok (.goto 5, 3) := by decide +kernel
theorem dX11_nights_185 : decode cX11_nights 185 = .ok (.iload 4, 2) := by decide +kernel
theorem dX11_nights_187 : decode cX11_nights 187 = .ok (.ireturn, 1) := by decide +kernel
theorem dX11_odds_0 : decode cX11_odds 0 = .ok (.iload 4, 2) := by decide +kernel
theorem dX11_odds_2 : decode cX11_odds 2 = .ok (.i2l, 1) := by decide +kernel
theorem dX11_odds_3 : decode cX11_odds 3 = .ok (.lconst 0, 1) := by decide +kernel
theorem dX11_odds_4 : decode cX11_odds 4 = .ok (.ldc2_w 422, 3) := by decide +kernel
theorem dX11_odds_7 : decode cX11_odds 7 = .ok (.invokestatic 99, 3) := by decide +kernel
