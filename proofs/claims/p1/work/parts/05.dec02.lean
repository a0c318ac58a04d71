theorem dX10_wide_20 : decode cX10_wide 20 = .ok (.aload_n 0, 1) := by decide +kernel
theorem dX10_wide_21 : decode cX10_wide 21 = .ok (.getfield 10, 3) := by decide +kernel
theorem dX10_wide_24 : decode cX10_wide 24 = .ok (.iload_n 1, 1) := by decide +kernel
theorem dX10_wide_25 : decode cX10_wide 25 = .ok (.putfield 125, 3) := by decide +kernel
theorem dX10_wide_28 : decode cX10_wide 28 = .ok (.aload_n 0, 1) := by decide +kernel
theorem dX10_wide_29 : decode cX10_wide 29 = .ok (.dup, 1) := by decide +kernel
theorem dX10_wide_30 : decode cX10_wide 30 = .ok (.getfield 84, 3) := by decide +kernel
theorem dX10_wide_33 : decode cX10_wide 33 = .ok (.iconst 1, 1) := by decide +kernel
theorem dX10_wide_34 : decode cX10_wide 34 = .ok (.iadd, 1) := by decide +kernel
theorem dX10_wide_35 : decode cX10_wide 35 = .ok (.putfield 84, 3) := by decide +kernel
theorem dX10_wide_38 : decode cX10_wide 38 = .ok (.iload_n 2, 1) := by decide +kernel
theorem dX10_wide_39 : decode cX10_wide 39 = .ok (.ireturn, 1) := by decide +kernel
theorem dX10_world_0 : decode cX10_world 0 = .ok (.iload_n 2, 1) := by decide +kernel
theorem dX10_world_1 : decode cX10_world 1 = .ok (.iconst 2, 1) := by decide +kernel
theorem dX10_world_2 : decode cX10_world 2 = .ok (.sipush 599, 3) := by decide +kernel
theorem dX10_world_5 : decode cX10_world 5 = .ok (.invokestatic 100, 3) := by decide +kernel
theorem dX10_world_8 : decode cX10_world 8 = .ok (.ifCond .eq 14, 3) := by decide +kernel
theorem dX10_world_11 : decode cX10_world 11 = .ok (.iload_n 3, 1) := by decide +kernel
theorem dX10_world_12 : decode cX10_world 12 = .ok (.invokestatic 113, 3) := by decide +kernel
theorem dX10_world_15 : decode cX10_world 15 = .ok (.ifCond .eq 7, 3) := by decide +kernel
theorem dX10_world_18 : decode cX10_world 18 = .ok (.iconst 1, 1) := by decide +kernel
theorem dX10_world_19 : decode cX10_world 19 = .ok (.goto 4, 3) := by decide +kernel
theorem dX10_world_22 : decode cX10_world 22 = .ok (.iconst 0, 1) := by decide +kernel
theorem dX10_world_23 : decode cX10_world 23 = .ok (.istore 7, 2) := by decide +kernel
theorem dX10_world_25 : decode cX10_world 25 = .ok (.iload 4, 2) := by decide +kernel
theorem dX10_world_27 : decode cX10_world 27 = .ok (.iconst 1, 1) := by decide +kernel
theorem dX10_world_28 : decode cX10_world 28 = .ok (.bipush 30, 2) := by decide +kernel
theorem dX10_world_30 : decode cX10_world 30 = .ok (.invokestatic 100, 3) := by decide +kernel
theorem dX10_world_33 : decode cX10_world 33 = .ok (.ifCond .eq 25, 3) := by decide +kernel
theorem dX10_world_36 : decode cX10_world 36 = .ok (.iload 4, 2) := by decide +kernel
theorem dX10_world_38 : decode cX10_world 38 = .ok (.iload_n 2, 1) := by decide +kernel
theorem dX10_world_39 : decode cX10_world 39 = .ok (.if_icmp .ge 19, 3) := by decide +kernel
theorem dX10_world_42 : decode cX10_world 42 = .ok (.iload 5, 2) := by decide +kernel
theorem dX10_world_44 : decode cX10_world 44 = .ok (.iconst 1, 1) := by decide +kernel
theorem dX10_world_45 : decode cX10_world 45 = .ok (.sipush 30000, 3) := by decide +kernel
theorem dX10_world_48 : decode cX10_world 48 = .ok (.invokestatic 100, 3) := by decide +kernel
theorem dX10_world_51 : decode cX10_world 51 = .ok (.ifCond .eq 7, 3) := by decide +kernel
theorem dX10_world_54 : decode cX10_world 54 = .ok (.iconst 1, 1) := by decide +kernel
theorem dX10_world_55 : decode cX10_world 55 = .ok (.goto 4, 3) := by decide +kernel
theorem dX10_world_58 : decode cX10_world 58 = .ok (.iconst 0, 1) := by decide +kernel
theorem dX10_world_59 : decode cX10_world 59 = .ok (.istore 8, 2) := by decide +kernel
theorem dX10_world_61 : decode cX10_world 61 = .ok (.aload_n 0, 1) := by decide +kernel
theorem dX10_world_62 : decode cX10_world 62 = .ok (.iload_n 1, 1) := by decide +kernel
theorem dX10_world_63 : decode cX10_world 63 = .ok (.invokevirtual 137, 3) := by decide +kernel
theorem dX10_world_66 : decode cX10_world 66 = .ok (.ifCond .eq 25, 3) := by decide +kernel
theorem dX10_world_91 : decode cX10_world 91 = .ok (.iconst (-1), 1) := by decide +kernel
theorem dX10_world_92 : decode cX10_world 92 = .ok (.ireturn, 1) := by decide +kernel
theorem dX11_alias_0 : decode cX11_alias 0 = .ok (.aload_n 0, 1) := by decide +kernel
theorem dX11_alias_1 : decode cX11_alias 1 = .ok (.iconst 1, 1) := by decide +kernel
theorem dX11_alias_2 : decode cX11_alias 2 = .ok (.iload_n 1, 1) := by decide +kernel
theorem dX11_alias_3 : decode cX11_alias 3 = .ok (.invokevirtual 366, 3) := by decide +kernel
theorem dX11_alias_6 : decode cX11_alias 6 = .ok (.ifCond .eq 23, 3) := by decide +kernel
theorem dX11_alias_29 : decode cX11_alias 29 = .ok (.ldc2_w 404, 3) := by decide +kernel
theorem dX11_alias_32 : decode cX11_alias 32 = .ok (.lreturn, 1) := by decide +kernel
theorem dX11_at_0 : decode cX11_at 0 = .ok (.aload_n 0, 1) := by decide +kernel
theorem dX11_at_1 : decode cX11_at 1 = .ok (.iload_n 1, 1) := by decide +kernel
theorem dX11_at_2 : decode cX11_at 2 = .ok (.invokevirtual 108, 3) := by decide +kernel
theorem dX11_at_5 : decode cX11_at 5 = .ok (.ifCond .eq 22, 3) := by decide +kernel
theorem dX11_at_27 : decode cX11_at 27 = .ok (.ldc 119, 2) := by decide +kernel
theorem dX11_at_29 : decode cX11_at 29 = .ok (.ireturn, 1) := by decide +kernel
theorem dX11_back_0 : decode cX11_back 0 = .ok (.iload_n 1, 1) := by decide +kernel
theorem dX11_back_1 : decode cX11_back 1 = .ok (.i2l, 1) := by decide +kernel
theorem dX11_back_2 : decode cX11_back 2 = .ok (.lconst 0, 1) := by decide +kernel
theorem dX11_back_3 : decode cX11_back 3 = .ok (.ldc2_w 573, 3) := by decide +kernel
theorem dX11_back_6 : decode cX11_back 6 = .ok (.invokestatic 99, 3) := by decide +kernel
theorem dX11_back_9 : decode cX11_back 9 = .ok (.ifCond .eq 12, 3) := by decide +kernel
theorem dX11_back_12 : decode cX11_back 12 = .ok (.aload_n 0, 1) := by decide +kernel
theorem dX11_back_13 : decode cX11_back 13 = .ok (.getfield 93, 3) := by decide +kernel
theorem dX11_back_16 : decode cX11_back 16 = .ok (.iload_n 1, 1) := by decide +kernel
theorem dX11_back_17 : decode cX11_back 17 = .ok (.baload, 1) := by decide +kernel
theorem dX11_back_18 : decode cX11_back 18 = .ok (.ifCond .ne 5, 3) := by decide +kernel
theorem dX11_back_21 : decode cX11_back 21 = .ok (.iconst (-1), 1) := by decide +kernel
theorem dX11_back_22 : decode cX11_back 22 = .ok (.ireturn, 1) := by decide +kernel
theorem dX11_bound_0 : decode cX11_bound 0 = .ok (.aload_n 0, 1) := by decide +kernel
theorem dX11_bound_1 : decode cX11_bound 1 = .ok (.iconst 1, 1) := by decide +kernel
theorem dX11_bound_2 : decode cX11_bound 2 = .ok (.iload_n 1, 1) := by decide +kernel
theorem dX11_bound_3 : decode cX11_bound 3 = .ok (.invokevirtual 366, 3) := by decide +kernel
theorem dX11_bound_6 : decode cX11_bound 6 = .ok (.ifCond .eq 15, 3) := by decide +kernel
theorem dX11_bound_21 : decode cX11_bound 21 = .ok (.iconst (-1), 1) := by decide +kernel
theorem dX11_bound_22 : decode cX11_bound 22 = .ok (.ireturn, 1) := by decide +kernel
theorem dX11_canWeigh_0 : decode cX11_canWeigh 0 = .ok (.aload_n 0, 1) := by decide +kernel
theorem dX11_canWeigh_1 : decode cX11_canWeigh 1 = .ok (.iconst 2, 1) := by decide +kernel
theorem dX11_canWeigh_2 : decode cX11_canWeigh 2 = .ok (.iload_n 1, 1) := by decide +kernel
theorem dX11_canWeigh_3 : decode cX11_canWeigh 3 = .ok (.invokevirtual 366, 3) := by decide +kernel
theorem dX11_canWeigh_6 : decode cX11_canWeigh 6 = .ok (.ifCond .eq 34, 3) := by decide +kernel
theorem dX11_canWeigh_40 : decode cX11_canWeigh 40 = .ok (.iconst 0, 1) := by decide +kernel
theorem dX11_canWeigh_41 : decode cX11_canWeigh 41 = .ok (.ireturn, 1) := by decide +kernel
theorem dX11_candidate_0 : decode cX11_candidate 0 = .ok (.aload_n 0, 1) := by decide +kernel
theorem dX11_candidate_1 : decode cX11_candidate 1 = .ok (.getfield 7, 3) := by decide +kernel
theorem dX11_candidate_4 : decode cX11_candidate 4 = .ok (.iconst 2, 1) := by decide +kernel
theorem dX11_candidate_5 : decode cX11_candidate 5 = .ok (.iaload, 1) := by decide +kernel
theorem dX11_candidate_6 : decode cX11_candidate 6 = .ok (.bipush 12, 2) := by decide +kernel
theorem dX11_candidate_8 : decode cX11_candidate 8 = .ok (.if_icmp .eq 35, 3) := by decide +kernel
theorem dX11_candidate_11 : decode cX11_candidate 11 = .ok (.aload_n 0, 1) := by decide +kernel
theorem dX11_candidate_12 : decode cX11_candidate 12 = .ok (.iload_n 1, 1) := by decide +kernel
theorem dX11_candidate_13 : decode cX11_candidate 13 = .ok (.invokevirtual 108, 3) := by decide +kernel
theorem dX11_candidate_16 : decode cX11_candidate 16 = .ok (.ifCond .eq 27, 3) := by decide +kernel
theorem dX11_candidate_43 : decode cX11_candidate 43 = .ok (.iconst (-1), 1) := by decide +kernel
theorem dX11_candidate_44 : decode cX11_candidate 44 = .ok (.ireturn, 1) := by decide +kernel
theorem dX11_catches_0 : decode cX11_catches 0 = .ok (.aload_n 0, 1) := by decide +kernel
theorem dX11_catches_1 : decode cX11_catches 1 = .ok (.iconst 1, 1) := by decide +kernel
theorem dX11_catches_2 : decode cX11_catches 2 = .ok (.iload_n 1, 1) := by decide +kernel
theorem dX11_catches_3 : decode cX11_catches 3 = .ok (.invokevirtual 366, 3) := by decide +kernel
theorem dX11_catches_6 : decode cX11_catches 6 = .ok (.ifCond .eq 11, 3) := by decide +kernel
theorem dX11_catches_17 : decode cX11_catches 17 = .ok (.iconst (-1), 1) := by decide +kernel
theorem dX11_catches_18 : decode cX11_catches 18 = .ok (.goto 17, 3) := by decide +kernel
theorem dX11_catches_35 : decode cX11_catches 35 = .ok (.ireturn, 1) := by decide +kernel
theorem dX11_chance_0 : decode cX11_chance 0 = .ok (.aload_n 0, 1) := by decide +kernel
theorem dX11_chance_1 : decode cX11_chance 1 = .ok (.iconst 1, 1) := by decide +kernel
theorem dX11_chance_2 : decode cX11_chance 2 = .ok (.iload_n 1, 1) := by decide +kernel
theorem dX11_chance_3 : decode cX11_chance 3 = .ok (.invokevirtual 366, 3) := by decide +kernel
theorem dX11_chance_6 : decode cX11_chance 6 = .ok (.ifCond .eq 27, 3) := by decide +kernel
theorem dX11_chance_33 : decode cX11_chance 33 = .ok (.iconst (-1), 1) := by decide +kernel
theorem dX11_chance_34 : decode cX11_chance 34 = .ok (.ireturn, 1) := by decide +kernel
theorem dX11_clauseHere_0 : decode cX11_clauseHere 0 = .ok (.aload_n 0, 1) := by decide +kernel
theorem dX11_clauseHere_1 : decode cX11_clauseHere 1 = .ok (.invokevirtual 183, 3) := by decide +kernel
theorem dX11_clauseHere_4 : decode cX11_clauseHere 4 = .ok (.pop, 1) := by decide +kernel
theorem dX11_clauseHere_5 : decode cX11_clauseHere 5 = .ok (.aload_n 0, 1) := by decide +kernel
theorem dX11_clauseHere_6 : decode cX11_clauseHere 6 = .ok (.getfield 180, 3) := by decide +kernel
theorem dX11_clauseHere_9 : decode cX11_clauseHere 9 = .ok (.istore_n 1, 1) := by decide +kernel
theorem dX11_clauseHere_10 : decode cX11_clauseHere 10 = .ok (.aload_n 0, 1) := by decide +kernel
theorem dX11_clauseHere_11 : decode cX11_clauseHere 11 = .ok (.getfield 206, 3) := by decide +kernel
theorem dX11_clauseHere_14 : decode cX11_clauseHere 14 = .ok (.bipush 6, 2) := by decide +kernel
theorem dX11_clauseHere_16 : decode cX11_clauseHere 16 = .ok (.idiv, 1) := by decide +kernel
theorem dX11_clauseHere_17 : decode cX11_clauseHere 17 = .ok (.istore_n 2, 1) := by decide +kernel
theorem dX11_clauseHere_18 : decode cX11_clauseHere 18 = .ok (.aload_n 0, 1) := by decide +kernel
theorem dX11_clauseHere_19 : decode cX11_clauseHere 19 = .ok (.ldc2_w 321, 3) := by decide +kernel
theorem dX11_clauseHere_22 : decode cX11_clauseHere 22 = .ok (.invokevirtual 190, 3) := by decide +kernel
theorem dX11_clauseHere_25 : decode cX11_clauseHere 25 = .ok (.ifCond .eq 7, 3) := by decide +kernel
theorem dX11_clauseHere_32 : decode cX11_clauseHere 32 = .ok (.aload_n 0, 1) := by decide +kernel
theorem dX11_clauseHere_33 : decode cX11_clauseHere 33 = .ok (.ldc2_w 323, 3) := by decide +kernel
theorem dX11_clauseHere_36 : decode cX11_clauseHere 36 = .ok (.invokevirtual 190, 3) := by decide +kernel
theorem dX11_clauseHere_39 : decode cX11_clauseHere 39 = .ok (.ifCond .eq 7, 3) := by decide +kernel
theorem dX11_clauseHere_46 : decode cX11_clauseHere 46 = .ok (.aload_n 0, 1) := by decide +kernel
theorem dX11_clauseHere_47 : decode cX11_clauseHere 47 = .ok (.ldc2_w 325, 3) := by decide +kernel
theorem dX11_clauseHere_50 : decode cX11_clauseHere 50 = .ok (.invokevirtual 190, 3) := by decide +kernel
theorem dX11_clauseHere_53 : decode cX11_clauseHere 53 = .ok (.ifCond .eq 7, 3) := by decide +kernel
theorem dX11_clauseHere_60 : decode cX11_clauseHere 60 = .ok (.aload_n 0, 1) := by decide +kernel
theorem dX11_clauseHere_61 : decode cX11_clauseHere 61 = .ok (.ldc2_w 327, 3) := by decide +kernel
theorem dX11_clauseHere_64 : decode cX11_clauseHere 64 = .ok (.invokevirtual 190, 3) := by decide +kernel
theorem dX11_clauseHere_67 : decode cX11_clauseHere 67 = .ok (.ifCond .eq 7, 3) := by decide +kernel
theorem dX11_clauseHere_74 : decode cX11_clauseHere 74 = .ok (.aload_n 0, 1) := by decide +kernel
theorem dX11_clauseHere_75 : decode cX11_clauseHere 75 = .ok (.ldc2_w 329, 3) := by decide +kernel
theorem dX11_clauseHere_78 : decode cX11_clauseHere 78 = .ok (.invokevirtual 190, 3) := by decide +kernel
theorem dX11_clauseHere_81 : decode cX11_clauseHere 81 = .ok (.ifCond .eq 7, 3) := by decide +kernel
theorem dX11_clauseHere_88 : decode cX11_clauseHere 88 = .ok (.iconst (-1), 1) := by decide +kernel
theorem dX11_clauseHere_89 : decode cX11_clauseHere 89 = .ok (.istore_n 3, 1) := by decide +kernel
theorem dX11_clauseHere_90 : decode cX11_clauseHere 90 = .ok (.iload_n 2, 1) := by decide +kernel
theorem dX11_clauseHere_91 : decode cX11_clauseHere 91 = .ok (.ifCond .ne 31, 3) := by decide +kernel
theorem dX11_clauseHere_94 : decode cX11_clauseHere 94 = .ok (.aload_n 0, 1) := by decide +kernel
theorem dX11_clauseHere_95 : decode cX11_clauseHere 95 = .ok (.ldc2_w 310, 3) := by decide +kernel
theorem dX11_clauseHere_98 : decode cX11_clauseHere 98 = .ok (.invokevirtual 190, 3) := by decide +kernel
theorem dX11_clauseHere_101 : decode cX11_clauseHere 101 = .ok (.ifCond .ne 13, 3) := by decide +kernel
theorem dX11_clauseHere_104 : decode cX11_clauseHere 104 = .ok (.aload_n 0, 1) := by decide +kernel
theorem dX11_clauseHere_105 : decode cX11_clauseHere 105 = .ok (.ldc2_w 331, 3) := by decide +kernel
theorem dX11_clauseHere_108 : decode cX11_clauseHere 108 = .ok (.invokevirtual 190, 3) := by decide +kernel
theorem dX11_clauseHere_111 : decode cX11_clauseHere 111 = .ok (.ifCond .eq 7, 3) := by decide +kernel
theorem dX11_clauseHere_118 : decode cX11_clauseHere 118 = .ok (.iconst 0, 1) := by decide +kernel
theorem dX11_clauseHere_119 : decode cX11_clauseHere 119 = .ok (.goto 65, 3) := by decide +kernel
theorem dX11_clauseHere_122 : decode cX11_clauseHere 122 = .ok (.iload_n 2, 1) := by decide +kernel
theorem dX11_clauseHere_123 : decode cX11_clauseHere 123 = .ok (.iconst 1, 1) := by decide +kernel
theorem dX11_clauseHere_124 : decode cX11_clauseHere 124 = .ok (.if_icmp .ne 51, 3) := by decide +kernel
theorem dX11_clauseHere_127 : decode cX11_clauseHere 127 = .ok (.aload_n 0, 1) := by decide +kernel
theorem dX11_clauseHere_128 : decode cX11_clauseHere 128 = .ok (.ldc2_w 219, 3) := by decide +kernel
theorem dX11_clauseHere_131 : decode cX11_clauseHere 131 = .ok (.invokevirtual 190, 3) := by decide +kernel
theorem dX11_clauseHere_134 : decode cX11_clauseHere 134 = .ok (.ifCond .ne 33, 3) := by decide +kernel
theorem dX11_clauseHere_137 : decode cX11_clauseHere 137 = .ok (.aload_n 0, 1) := by decide +kernel
theorem dX11_clauseHere_138 : decode cX11_clauseHere 138 = .ok (.ldc2_w 221, 3) := by decide +kernel
theorem dX11_clauseHere_141 : decode cX11_clauseHere 141 = .ok (.invokevirtual 190, 3) := by decide +kernel
theorem dX11_clauseHere_144 : decode cX11_clauseHere 144 = .ok (.ifCond .ne 23, 3) := by decide +kernel
theorem dX11_clauseHere_147 : decode cX11_clauseHere 147 = .ok (.aload_n 0, 1) := by decide +kernel
theorem dX11_clauseHere_148 : decode cX11_clauseHere 148 = .ok (.ldc2_w 319, 3) := by decide +kernel
theorem dX11_clauseHere_151 : decode cX11_clauseHere 151 = .ok (.invokevirtual 190, 3) := by decide +kernel
theorem dX11_clauseHere_154 : decode cX11_clauseHere 154 = .ok (.ifCond .ne 13, 3) := by decide +kernel
theorem dX11_clauseHere_157 : decode cX11_clauseHere 157 = .ok (.aload_n 0, 1) := by decide +kernel
theorem dX11_clauseHere_158 : decode cX11_clauseHere 158 = .ok (.ldc2_w 333, 3) := by decide +kernel
theorem dX11_clauseHere_161 : decode cX11_clauseHere 161 = .ok (.invokevirtual 190, 3) := by decide +kernel
theorem dX11_clauseHere_164 : decode cX11_clauseHere 164 = .ok (.ifCond .eq 7, 3) := by decide +kernel
theorem dX11_clauseHere_171 : decode cX11_clauseHere 171 = .ok (.iconst 0, 1) := by decide +kernel
theorem dX11_clauseHere_172 : decode cX11_clauseHere 172 = .ok (.goto 12, 3) := by decide +kernel
theorem dX11_clauseHere_175 : decode cX11_clauseHere 175 = .ok (.iload_n 3, 1) := by decide +kernel
theorem dX11_clauseHere_176 : decode cX11_clauseHere 176 = .ok (.ifCond .lt 7, 3) := by decide +kernel
theorem dX11_clauseHere_183 : decode cX11_clauseHere 183 = .ok (.iconst 0, 1) := by decide +kernel
theorem dX11_clauseHere_184 : decode cX11_clauseHere 184 = .ok (.istore 4, 2) := by decide +kernel
theorem dX11_clauseHere_186 : decode cX11_clauseHere 186 = .ok (.iload 4, 2) := by decide +kernel
theorem dX11_clauseHere_188 : decode cX11_clauseHere 188 = .ok (.ifCond .ne 10, 3) := by decide +kernel
theorem dX11_clauseHere_191 : decode cX11_clauseHere 191 = .ok (.aload_n 0, 1) := by decide +kernel
theorem dX11_clauseHere_192 : decode cX11_clauseHere 192 = .ok (.iconst 0, 1) := by decide +kernel
theorem dX11_clauseHere_193 : decode cX11_clauseHere 193 = .ok (.iload_n 1, 1) := by decide +kernel
theorem dX11_clauseHere_194 : decode cX11_clauseHere 194 = .ok (.invokevirtual 200, 3) := by decide +kernel
theorem dX11_clauseHere_197 : decode cX11_clauseHere 197 = .ok (.ireturn, 1) := by decide +kernel
theorem dX11_count_0 : decode cX11_count 0 = .ok (.iconst 0, 1) := by decide +kernel
theorem dX11_count_1 : decode cX11_count 1 = .ok (.istore_n 2, 1) := by decide +kernel
theorem dX11_count_2 : decode cX11_count 2 = .ok (.iload_n 1, 1) := by decide +kernel
theorem dX11_count_3 : decode cX11_count 3 = .ok (.tableswitch 139 0 7 #[45, 52, 59, 66, 73, 80, 87, 134], 45) := by decide +kernel
theorem dX11_count_48 : decode cX11_count 48 = .ok (.aload_n 0, 1) := by decide +kernel
theorem dX11_count_49 : decode cX11_count 49 = .ok (.getfield 7, 3) := by decide +kernel
theorem dX11_count_52 : decode cX11_count 52 = .ok (.iconst 0, 1) := by decide +kernel
theorem dX11_count_53 : decode cX11_count 53 = .ok (.iaload, 1) := by decide +kernel
theorem dX11_count_54 : decode cX11_count 54 = .ok (.ireturn, 1) := by decide +kernel
theorem dX11_count_55 : decode cX11_count 55 = .ok (.aload_n 0, 1) := by decide +kernel
theorem dX11_count_56 : decode cX11_count 56 = .ok (.getfield 7, 3) := by decide +kernel
theorem dX11_count_59 : decode cX11_count 59 = .ok (.iconst 1, 1) := by decide +kernel
theorem dX11_count_60 : decode cX11_count 60 = .ok (.iaload, 1) := by decide +kernel
theorem dX11_count_61 : decode cX11_count 61 = .ok (.ireturn, 1) := by decide +kernel
theorem dX11_count_62 : decode cX11_count 62 = .ok (.aload_n 0, 1) := by decide +kernel
theorem dX11_count_63 : decode cX11_count 63 = .ok (.getfield 20, 3) := by decide +kernel
theorem dX11_count_66 : decode cX11_count 66 = .ok (.iconst 0, 1) := by decide +kernel
theorem dX11_count_67 : decode cX11_count 67 = .ok (.iaload, 1) := by decide +kernel
theorem dX11_count_68 : decode cX11_count 68 = .ok (.ireturn, 1) := by decide +kernel
theorem dX11_count_69 : decode cX11_count 69 = .ok (.aload_n 0, 1) := by decide +kernel
theorem dX11_count_70 : decode cX11_count 70 = .ok (.getfield 20, 3) := by decide +kernel
theorem dX11_count_73 : decode cX11_count 73 = .ok (.iconst 1, 1) := by decide +kernel
theorem dX11_count_74 : decode cX11_count 74 = .ok (.iaload, 1) := by decide +kernel
theorem dX11_count_75 : decode cX11_count 75 = .ok (.ireturn, 1) := by decide +kernel
theorem dX11_count_76 : decode cX11_count 76 = .ok (.aload_n 0, 1) := by decide +kernel
theorem dX11_count_77 : decode cX11_count 77 = .ok (.getfield 20, 3) := by decide +kernel
theorem dX11_count_80 : decode cX11_count 80 = .ok (.iconst 2, 1) := by decide +kernel
theorem dX11_count_81 : decode cX11_count 81 = .ok (.iaload, 1) := by decide +kernel
theorem dX11_count_82 : decode cX11_count 82 = .ok (.ireturn, 1) := by decide +kernel
theorem dX11_count_83 : decode cX11_count 83 = .ok (.aload_n 0, 1) := by decide +kernel
theorem dX11_count_84 : decode cX11_count 84 = .ok (.getfield 7, 3) := by decide +kernel
theorem dX11_count_87 : decode cX11_count 87 = .ok (.iconst 2, 1) := by decide +kernel
theorem dX11_count_88 : decode cX11_count 88 = .ok (.iaload, 1) := by decide +kernel
theorem dX11_count_89 : decode cX11_count 89 = .ok (.ireturn, 1) := by decide +kernel
theorem dX11_count_90 : decode cX11_count 90 = .ok (.iconst 0, 1) := by decide +kernel
theorem dX11_count_91 : decode cX11_count 91 = .ok (.istore_n 3, 1) := by decide +kernel
theorem dX11_count_92 : decode cX11_count 92 = .ok (.iload_n 3, 1) := by decide +kernel
theorem dX11_count_93 : decode cX11_count 93 = .ok (.sipush 600, 3) := by decide +kernel
theorem dX11_count_96 : decode cX11_count 96 = .ok (.aload_n 0, 1) := by decide +kernel
theorem dX11_count_97 : decode cX11_count 97 = .ok (.getfield 7, 3) := by decide +kernel
theorem dX11_count_100 : decode cX11_count 100 = .ok (.iconst 0, 1) := by decide +kernel
theorem dX11_count_101 : decode cX11_count 101 = .ok (.iaload, 1) := by decide +kernel
theorem dX11_count_102 : decode cX11_count 102 = .ok (.imul, 1) := by decide +kernel
theorem dX11_count_103 : decode cX11_count 103 = .ok (.if_icmp .ge 32, 3) := by decide +kernel
theorem dX11_count_135 : decode cX11_count 135 = .ok (.iload_n 2, 1) := by decide +kernel
theorem dX11_count_136 : decode cX11_count 136 = .ok (.ireturn, 1) := by decide +kernel
theorem dX11_count_137 : decode cX11_count 137 = .ok (.aload_n 0, 1) := by decide +kernel
theorem dX11_count_138 : decode cX11_count 138 = .ok (.getfield 169, 3) := by decide +kernel
theorem dX11_count_141 : decode cX11_count 141 = .ok (.ireturn, 1) := by decide +kernel
theorem dX11_count_142 : decode cX11_count 142 = .ok (.iconst (-1), 1) := by decide +kernel
theorem dX11_count_143 : decode cX11_count 143 = .ok (.ireturn, 1) := by decide +kernel
theorem dX11_end_0 : decode cX11_end 0 = .ok (.iload_n 1, 1) := by decide +kernel
theorem dX11_end_1 : decode cX11_end 1 = .ok (.ifCond .lt 11, 3) := by decide +kernel
theorem dX11_end_4 : decode cX11_end 4 = .ok (.iload_n 1, 1) := by decide +kernel
theorem dX11_end_5 : decode cX11_end 5 = .ok (.aload_n 0, 1) := by decide +kernel
theorem dX11_end_6 : decode cX11_end 6 = .ok (.getfield 169, 3) := by decide +kernel
theorem dX11_end_9 : decode cX11_end 9 = .ok (.if_icmp .le 5, 3) := by decide +kernel
theorem dX11_end_12 : decode cX11_end 12 = .ok (.iconst (-1), 1) := by decide +kernel
theorem dX11_end_13 : decode cX11_end 13 = .ok (.ireturn, 1) := by decide +kernel
theorem dX11_end_14 : decode cX11_end 14 = .ok (.aload_n 0, 1) := by decide +kernel
theorem dX11_end_15 : decode cX11_end 15 = .ok (.iload_n 1, 1) := by decide +kernel
theorem dX11_end_16 : decode cX11_end 16 = .ok (.putfield 169, 3) := by decide +kernel
theorem dX11_end_19 : decode cX11_end 19 = .ok (.iload_n 1, 1) := by decide +kernel
theorem dX11_end_20 : decode cX11_end 20 = .ok (.ireturn, 1) := by decide +kernel
theorem dX11_fails_0 : decode cX11_fails 0 = .ok (.aload_n 0, 1) := by decide +kernel
theorem dX11_fails_1 : decode cX11_fails 1 = .ok (.getfield 177, 3) := by decide +kernel
theorem dX11_fails_4 : decode cX11_fails 4 = .ok (.ifCond .ne 15, 3) := by decide +kernel
theorem dX11_fails_7 : decode cX11_fails 7 = .ok (.aload_n 0, 1) := by decide +kernel
theorem dX11_fails_8 : decode cX11_fails 8 = .ok (.iconst 1, 1) := by decide +kernel
theorem dX11_fails_9 : decode cX11_fails 9 = .ok (.bipush 8, 2) := by decide +kernel
theorem dX11_fails_11 : decode cX11_fails 11 = .ok (.iload_n 2, 1) := by decide +kernel
theorem dX11_fails_12 : decode cX11_fails 12 = .ok (.imul, 1) := by decide +kernel
theorem dX11_fails_13 : decode cX11_fails 13 = .ok (.iadd, 1) := by decide +kernel
theorem dX11_fails_14 : decode cX11_fails 14 = .ok (.iload_n 1, 1) := by decide +kernel
theorem dX11_fails_15 : decode cX11_fails 15 = .ok (.iadd, 1) := by decide +kernel
theorem dX11_fails_16 : decode cX11_fails 16 = .ok (.putfield 177, 3) := by decide +kernel
theorem dX11_fails_19 : decode cX11_fails 19 = .ok (.iconst 0, 1) := by decide +kernel
theorem dX11_fails_20 : decode cX11_fails 20 = .ok (.ireturn, 1) := by decide +kernel
theorem dX11_feed_0 : decode cX11_feed 0 = .ok (.aload_n 0, 1) := by decide +kernel
theorem dX11_feed_1 : decode cX11_feed 1 = .ok (.getfield 169, 3) := by decide +kernel
theorem dX11_feed_4 : decode cX11_feed 4 = .ok (.bipush 20, 2) := by decide +kernel
theorem dX11_feed_6 : decode cX11_feed 6 = .ok (.iadd, 1) := by decide +kernel
theorem dX11_feed_7 : decode cX11_feed 7 = .ok (.sipush 400, 3) := by decide +kernel
theorem dX11_feed_10 : decode cX11_feed 10 = .ok (.if_icmp .le 5, 3) := by decide +kernel
theorem dX11_feed_15 : decode cX11_feed 15 = .ok (.aload_n 0, 1) := by decide +kernel
theorem dX11_feed_16 : decode cX11_feed 16 = .ok (.iload_n 1, 1) := by decide +kernel
theorem dX11_feed_17 : decode cX11_feed 17 = .ok (.invokevirtual 173, 3) := by decide +kernel
theorem dX11_feed_20 : decode cX11_feed 20 = .ok (.aload_n 0, 1) := by decide +kernel
theorem dX11_feed_21 : decode cX11_feed 21 = .ok (.iload_n 2, 1) := by decide +kernel
theorem dX11_feed_22 : decode cX11_feed 22 = .ok (.invokevirtual 173, 3) := by decide +kernel
theorem dX11_feed_25 : decode cX11_feed 25 = .ok (.aload_n 0, 1) := by decide +kernel
theorem dX11_feed_26 : decode cX11_feed 26 = .ok (.iload_n 3, 1) := by decide +kernel
theorem dX11_feed_27 : decode cX11_feed 27 = .ok (.invokevirtual 173, 3) := by decide +kernel
theorem dX11_feed_30 : decode cX11_feed 30 = .ok (.aload_n 0, 1) := by decide +kernel
theorem dX11_feed_31 : decode cX11_feed 31 = .ok (.iload 4, 2) := by decide +kernel
theorem dX11_feed_33 : decode cX11_feed 33 = .ok (.invokevirtual 173, 3) := by decide +kernel
theorem dX11_feed_36 : decode cX11_feed 36 = .ok (.aload_n 0, 1) := by decide +kernel
theorem dX11_feed_37 : decode cX11_feed 37 = .ok (.iload 5, 2) := by decide +kernel
theorem dX11_feed_39 : decode cX11_feed 39 = .ok (.invokevirtual 173, 3) := by decide +kernel
theorem dX11_feed_42 : decode cX11_feed 42 = .ok (.aload_n 0, 1) := by decide +kernel
theorem dX11_feed_43 : decode cX11_feed 43 = .ok (.getfield 169, 3) := by decide +kernel
theorem dX11_feed_46 : decode cX11_feed 46 = .ok (.ireturn, 1) := by decide +kernel
theorem dX11_finest_0 : decode cX11_finest 0 = .ok (.iconst (-1), 1) := by decide +kernel
theorem dX11_finest_1 : decode cX11_finest 1 = .ok (.istore_n 1, 1) := by decide +kernel
theorem dX11_finest_2 : decode cX11_finest 2 = .ok (.iconst 0, 1) := by decide +kernel
theorem dX11_finest_3 : decode cX11_finest 3 = .ok (.istore_n 2, 1) := by decide +kernel
theorem dX11_finest_4 : decode cX11_finest 4 = .ok (.iconst 0, 1) := by decide +kernel
theorem dX11_finest_5 : decode cX11_finest 5 = .ok (.istore_n 3, 1) := by decide +kernel
theorem dX11_finest_6 : decode cX11_finest 6 = .ok (.iconst 0, 1) := by decide +kernel
theorem dX11_finest_7 : decode cX11_finest 7 = .ok (.istore 4, 2) := by decide +kernel
theorem dX11_finest_9 : decode cX11_finest 9 = .ok (.iload 4, 2) := by decide +kernel
theorem dX11_finest_11 : decode cX11_finest 11 = .ok (.aload_n 0, 1) := by decide +kernel
theorem dX11_finest_12 : decode cX11_finest 12 = .ok (.getfield 20, 3) := by decide +kernel
theorem dX11_finest_15 : decode cX11_finest 15 = .ok (.iconst 1, 1) := by decide +kernel
theorem dX11_finest_16 : decode cX11_finest 16 = .ok (.iaload, 1) := by decide +kernel
theorem dX11_finest_17 : decode cX11_finest 17 = .ok (.if_icmp .ge 105, 3) := by decide +kernel
theorem dX11_finest_122 : decode cX11_finest 122 = .ok (.iload_n 1, 1) := by decide +kernel
theorem dX11_finest_123 : decode cX11_finest 123 = .ok (.ireturn, 1) := by decide +kernel
theorem dX11_fold_0 : decode cX11_fold 0 = .ok (.aload_n 0, 1) := by decide +kernel
theorem dX11_fold_1 : decode cX11_fold 1 = .ok (.iload_n 1, 1) := by decide +kernel
theorem dX11_fold_2 : decode cX11_fold 2 = .ok (.invokevirtual 108, 3) := by decide +kernel
theorem dX11_fold_5 : decode cX11_fold 5 = .ok (.ifCond .eq 54, 3) := by decide +kernel
theorem dX11_fold_59 : decode cX11_fold 59 = .ok (.ldc2_w 567, 3) := by decide +kernel
theorem dX11_fold_62 : decode cX11_fold 62 = .ok (.lreturn, 1) := by decide +kernel
theorem dX11_found_0 : decode cX11_found 0 = .ok (.aload_n 0, 1) := by decide +kernel
theorem dX11_found_1 : decode cX11_found 1 = .ok (.iconst 1, 1) := by decide +kernel
theorem dX11_found_2 : decode cX11_found 2 = .ok (.iload_n 1, 1) := by decide +kernel
theorem dX11_found_3 : decode cX11_found 3 = .ok (.invokevirtual 366, 3) := by decide +kernel
theorem dX11_found_6 : decode cX11_found 6 = .ok (.ifCond .eq 36, 3) := by decide +kernel
theorem dX11_found_42 : decode cX11_found 42 = .ok (.ldc2_w 485, 3) := by decide +kernel
theorem dX11_found_45 : decode cX11_found 45 = .ok (.lreturn, 1) := by decide +kernel
theorem dX11_four_0 : decode cX11_four 0 = .ok (.bipush 24, 2) := by decide +kernel
theorem dX11_four_2 : decode cX11_four 2 = .ok (.istore_n 2, 1) := by decide +kernel
theorem dX11_four_3 : decode cX11_four 3 = .ok (.iload_n 2, 1) := by decide +kernel
theorem dX11_four_4 : decode cX11_four 4 = .ok (.ifCond .lt 32, 3) := by decide +kernel
theorem dX11_four_7 : decode cX11_four 7 = .ok (.aload_n 0, 1) := by decide +kernel
theorem dX11_four_8 : decode cX11_four 8 = .ok (.getfield 16, 3) := by decide +kernel
theorem dX11_four_11 : decode cX11_four 11 = .ok (.aload_n 0, 1) := by decide +kernel
theorem dX11_four_12 : decode cX11_four 12 = .ok (.getfield 169, 3) := by decide +kernel
theorem dX11_four_15 : decode cX11_four 15 = .ok (.iload_n 1, 1) := by decide +kernel
theorem dX11_four_16 : decode cX11_four 16 = .ok (.iload_n 2, 1) := by decide +kernel
theorem dX11_four_17 : decode cX11_four 17 = .ok (.ishr, 1) := by decide +kernel
theorem dX11_four_18 : decode cX11_four 18 = .ok (.i2b, 1) := by decide +kernel
theorem dX11_four_19 : decode cX11_four 19 = .ok (.bastore, 1) := by decide +kernel
theorem dX11_four_20 : decode cX11_four 20 = .ok (.aload_n 0, 1) := by decide +kernel
theorem dX11_four_21 : decode cX11_four 21 = .ok (.dup, 1) := by decide +kernel
theorem dX11_four_22 : decode cX11_four 22 = .ok (.getfield 169, 3) := by decide +kernel
theorem dX11_four_25 : decode cX11_four 25 = .ok (.iconst 1, 1) := by decide +kernel
theorem dX11_four_26 : decode cX11_four 26 = .ok (.iadd, 1) := by decide +kernel
theorem dX11_four_27 : decode cX11_four 27 = .ok (.putfield 169, 3) := by decide +kernel
theorem dX11_four_30 : decode cX11_four 30 = .ok (.iinc 2 (-8), 3) := by decide +kernel
theorem dX11_four_33 : decode cX11_four 33 = .ok (.goto (-30), 3) := by decide +kernel
theorem dX11_four_36 : decode cX11_four 36 = .ok (.return_, 1) := by decide +kernel
theorem dX11_image_0 : decode cX11_image 0 = .ok (.iload_n 1, 1) := by decide +kernel
theorem dX11_image_1 : decode cX11_image 1 = .ok (.i2l, 1) := by decide +kernel
theorem dX11_image_2 : decode cX11_image 2 = .ok (.lconst 0, 1) := by decide +kernel
theorem dX11_image_3 : decode cX11_image 3 = .ok (.ldc2_w 573, 3) := by decide +kernel
theorem dX11_image_6 : decode cX11_image 6 = .ok (.invokestatic 99, 3) := by decide +kernel
theorem dX11_image_9 : decode cX11_image 9 = .ok (.ifCond .ne 5, 3) := by decide +kernel
theorem dX11_image_12 : decode cX11_image 12 = .ok (.iconst (-1), 1) := by decide +kernel
theorem dX11_image_13 : decode cX11_image 13 = .ok (.ireturn, 1) := by decide +kernel
theorem dX11_image_14 : decode cX11_image 14 = .ok (.aload_n 0, 1) := by decide +kernel
theorem dX11_image_15 : decode cX11_image 15 = .ok (.getfield 93, 3) := by decide +kernel
theorem dX11_image_18 : decode cX11_image 18 = .ok (.iload_n 1, 1) := by decide +kernel
theorem dX11_image_19 : decode cX11_image 19 = .ok (.iconst 1, 1) := by decide +kernel
theorem dX11_image_20 : decode cX11_image 20 = .ok (.bastore, 1) := by decide +kernel
theorem dX11_image_21 : decode cX11_image 21 = .ok (.iconst 0, 1) := by decide +kernel
theorem dX11_image_22 : decode cX11_image 22 = .ok (.istore_n 2, 1) := by decide +kernel
theorem dX11_image_23 : decode cX11_image 23 = .ok (.iload_n 2, 1) := by decide +kernel
theorem dX11_image_24 : decode cX11_image 24 = .ok (.sipush 7533, 3) := by decide +kernel
theorem dX11_image_27 : decode cX11_image 27 = .ok (.if_icmp .ge 27, 3) := by decide +kernel
theorem dX11_image_30 : decode cX11_image 30 = .ok (.aload_n 0, 1) := by decide +kernel
theorem dX11_image_31 : decode cX11_image 31 = .ok (.getfield 90, 3) := by decide +kernel
theorem dX11_image_34 : decode cX11_image 34 = .ok (.sipush 7533, 3) := by decide +kernel
theorem dX11_image_37 : decode cX11_image 37 = .ok (.iload_n 1, 1) := by decide +kernel
theorem dX11_image_38 : decode cX11_image 38 = .ok (.imul, 1) := by decide +kernel
theorem dX11_image_39 : decode cX11_image 39 = .ok (.iload_n 2, 1) := by decide +kernel
theorem dX11_image_40 : decode cX11_image 40 = .ok (.iadd, 1) := by decide +kernel
theorem dX11_image_41 : decode cX11_image 41 = .ok (.aload_n 0, 1) := by decide +kernel
theorem dX11_image_42 : decode cX11_image 42 = .ok (.getfield 7, 3) := by decide +kernel
theorem dX11_image_45 : decode cX11_image 45 = .ok (.iload_n 2, 1) := by decide +kernel
theorem dX11_image_46 : decode cX11_image 46 = .ok (.iaload, 1) := by decide +kernel
theorem dX11_image_47 : decode cX11_image 47 = .ok (.iastore, 1) := by decide +kernel
theorem dX11_image_48 : decode cX11_image 48 = .ok (.iinc 2 1, 3) := by decide +kernel
theorem dX11_image_51 : decode cX11_image 51 = .ok (.goto (-28), 3) := by decide +kernel
theorem dX11_image_54 : decode cX11_image 54 = .ok (.aload_n 0, 1) := by decide +kernel
theorem dX11_image_55 : decode cX11_image 55 = .ok (.getfield 7, 3) := by decide +kernel
theorem dX11_image_58 : decode cX11_image 58 = .ok (.iconst 0, 1) := by decide +kernel
theorem dX11_image_59 : decode cX11_image 59 = .ok (.iaload, 1) := by decide +kernel
theorem dX11_image_60 : decode cX11_image 60 = .ok (.ireturn, 1) := by decide +kernel
theorem dX11_in_0 : decode cX11_in 0 = .ok (.lload_n 0, 1) := by decide +kernel
theorem dX11_in_1 : decode cX11_in 1 = .ok (.lload_n 2, 1) := by decide +kernel
theorem dX11_in_2 : decode cX11_in 2 = .ok (.lcmp, 1) := by decide +kernel
theorem dX11_in_3 : decode cX11_in 3 = .ok (.ifCond .lt 14, 3) := by decide +kernel
theorem dX11_in_6 : decode cX11_in 6 = .ok (.lload_n 0, 1) := by decide +kernel
theorem dX11_in_7 : decode cX11_in 7 = .ok (.lload 4, 2) := by decide +kernel
theorem dX11_in_9 : decode cX11_in 9 = .ok (.lcmp, 1) := by decide +kernel
theorem dX11_in_10 : decode cX11_in 10 = .ok (.ifCond .gt 7, 3) := by decide +kernel
theorem dX11_in_13 : decode cX11_in 13 = .ok (.iconst 1, 1) := by decide +kernel
theorem dX11_in_14 : decode cX11_in 14 = .ok (.goto 4, 3) := by decide +kernel
theorem dX11_in_17 : decode cX11_in 17 = .ok (.iconst 0, 1) := by decide +kernel
theorem dX11_in_18 : decode cX11_in 18 = .ok (.ireturn, 1) := by decide +kernel
theorem dX11_init_0 : decode cX11_init 0 = .ok (.aload_n 0, 1) := by decide +kernel
theorem dX11_init_1 : decode cX11_init 1 = .ok (.invokespecial 1, 3) := by decide +kernel
theorem dX11_init_4 : decode cX11_init 4 = .ok (.aload_n 0, 1) := by decide +kernel
theorem dX11_init_5 : decode cX11_init 5 = .ok (.sipush 7533, 3) := by decide +kernel
theorem dX11_init_8 : decode cX11_init 8 = .ok (.newarray .int, 2) := by decide +kernel
theorem dX11_init_10 : decode cX11_init 10 = .ok (.putfield 7, 3) := by decide +kernel
theorem dX11_init_13 : decode cX11_init 13 = .ok (.aload_n 0, 1) := by decide +kernel
