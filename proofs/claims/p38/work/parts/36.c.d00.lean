theorem dX10_alias_0 : decode cX10_alias 0 = .ok (.aload_n 0, 1) := by decide +kernel
theorem dX10_alias_1 : decode cX10_alias 1 = .ok (.iload_n 1, 1) := by decide +kernel
theorem dX10_alias_2 : decode cX10_alias 2 = .ok (.invokevirtual 259, 3) := by decide +kernel
theorem dX10_alias_5 : decode cX10_alias 5 = .ok (.ifnull 20, 3) := by decide +kernel
theorem dX10_alias_8 : decode cX10_alias 8 = .ok (.aload_n 0, 1) := by decide +kernel
theorem dX10_alias_9 : decode cX10_alias 9 = .ok (.iload_n 2, 1) := by decide +kernel
theorem dX10_alias_10 : decode cX10_alias 10 = .ok (.invokevirtual 137, 3) := by decide +kernel
theorem dX10_alias_13 : decode cX10_alias 13 = .ok (.ifCond .eq 12, 3) := by decide +kernel
theorem dX10_alias_16 : decode cX10_alias 16 = .ok (.iload_n 3, 1) := by decide +kernel
theorem dX10_alias_17 : decode cX10_alias 17 = .ok (.iconst 0, 1) := by decide +kernel
theorem dX10_alias_18 : decode cX10_alias 18 = .ok (.iconst 2, 1) := by decide +kernel
theorem dX10_alias_19 : decode cX10_alias 19 = .ok (.invokestatic 100, 3) := by decide +kernel
theorem dX10_alias_22 : decode cX10_alias 22 = .ok (.ifCond .ne 7, 3) := by decide +kernel
theorem dX10_alias_25 : decode cX10_alias 25 = .ok (.ldc2_w 274, 3) := by decide +kernel
theorem dX10_alias_28 : decode cX10_alias 28 = .ok (.lreturn, 1) := by decide +kernel
theorem dX10_alias_29 : decode cX10_alias 29 = .ok (.aload_n 0, 1) := by decide +kernel
theorem dX10_alias_30 : decode cX10_alias 30 = .ok (.iload_n 1, 1) := by decide +kernel
theorem dX10_alias_31 : decode cX10_alias 31 = .ok (.iload_n 2, 1) := by decide +kernel
theorem dX10_alias_32 : decode cX10_alias 32 = .ok (.iconst 0, 1) := by decide +kernel
theorem dX10_alias_33 : decode cX10_alias 33 = .ok (.invokevirtual 264, 3) := by decide +kernel
theorem dX10_alias_36 : decode cX10_alias 36 = .ok (.astore 4, 2) := by decide +kernel
theorem dX10_alias_38 : decode cX10_alias 38 = .ok (.aload 4, 2) := by decide +kernel
theorem dX10_alias_40 : decode cX10_alias 40 = .ok (.invokevirtual 315, 3) := by decide +kernel
theorem dX10_alias_43 : decode cX10_alias 43 = .ok (.ifCond .eq 7, 3) := by decide +kernel
theorem dX10_alias_46 : decode cX10_alias 46 = .ok (.ldc2_w 262, 3) := by decide +kernel
theorem dX10_alias_49 : decode cX10_alias 49 = .ok (.lreturn, 1) := by decide +kernel
theorem dX10_alias_50 : decode cX10_alias 50 = .ok (.aload_n 0, 1) := by decide +kernel
theorem dX10_alias_51 : decode cX10_alias 51 = .ok (.getfield 49, 3) := by decide +kernel
theorem dX10_alias_54 : decode cX10_alias 54 = .ok (.aload_n 0, 1) := by decide +kernel
theorem dX10_alias_55 : decode cX10_alias 55 = .ok (.getfield 10, 3) := by decide +kernel
theorem dX10_alias_58 : decode cX10_alias 58 = .ok (.iload_n 2, 1) := by decide +kernel
theorem dX10_alias_59 : decode cX10_alias 59 = .ok (.iconst 0, 1) := by decide +kernel
theorem dX10_alias_60 : decode cX10_alias 60 = .ok (.invokevirtual 143, 3) := by decide +kernel
theorem dX10_alias_63 : decode cX10_alias 63 = .ok (.aload_n 0, 1) := by decide +kernel
theorem dX10_alias_64 : decode cX10_alias 64 = .ok (.getfield 49, 3) := by decide +kernel
theorem dX10_alias_67 : decode cX10_alias 67 = .ok (.aload 4, 2) := by decide +kernel
theorem dX10_alias_69 : decode cX10_alias 69 = .ok (.invokevirtual 376, 3) := by decide +kernel
theorem dX10_alias_72 : decode cX10_alias 72 = .ok (.lstore 5, 2) := by decide +kernel
theorem dX10_alias_74 : decode cX10_alias 74 = .ok (.aload_n 0, 1) := by decide +kernel
theorem dX10_alias_75 : decode cX10_alias 75 = .ok (.getfield 49, 3) := by decide +kernel
theorem dX10_alias_78 : decode cX10_alias 78 = .ok (.aload 4, 2) := by decide +kernel
theorem dX10_alias_80 : decode cX10_alias 80 = .ok (.invokevirtual 380, 3) := by decide +kernel
theorem dX10_alias_83 : decode cX10_alias 83 = .ok (.lstore 7, 2) := by decide +kernel
theorem dX10_alias_85 : decode cX10_alias 85 = .ok (.iload_n 3, 1) := by decide +kernel
theorem dX10_alias_86 : decode cX10_alias 86 = .ok (.ifCond .eq 16, 3) := by decide +kernel
theorem dX10_alias_89 : decode cX10_alias 89 = .ok (.iload_n 3, 1) := by decide +kernel
theorem dX10_alias_90 : decode cX10_alias 90 = .ok (.iconst 1, 1) := by decide +kernel
theorem dX10_alias_91 : decode cX10_alias 91 = .ok (.if_icmp .ne 8, 3) := by decide +kernel
theorem dX10_alias_94 : decode cX10_alias 94 = .ok (.lload 5, 2) := by decide +kernel
theorem dX10_alias_96 : decode cX10_alias 96 = .ok (.goto 5, 3) := by decide +kernel
theorem dX10_alias_99 : decode cX10_alias 99 = .ok (.lload 7, 2) := by decide +kernel
theorem dX10_alias_101 : decode cX10_alias 101 = .ok (.lreturn, 1) := by decide +kernel
theorem dX10_alias_102 : decode cX10_alias 102 = .ok (.aload 4, 2) := by decide +kernel
theorem dX10_alias_104 : decode cX10_alias 104 = .ok (.getfield 383, 3) := by decide +kernel
theorem dX10_alias_107 : decode cX10_alias 107 = .ok (.lload 5, 2) := by decide +kernel
theorem dX10_alias_109 : decode cX10_alias 109 = .ok (.lcmp, 1) := by decide +kernel
theorem dX10_alias_110 : decode cX10_alias 110 = .ok (.ifCond .lt 16, 3) := by decide +kernel
theorem dX10_alias_113 : decode cX10_alias 113 = .ok (.aload 4, 2) := by decide +kernel
theorem dX10_alias_115 : decode cX10_alias 115 = .ok (.getfield 383, 3) := by decide +kernel
theorem dX10_alias_118 : decode cX10_alias 118 = .ok (.lload 7, 2) := by decide +kernel
theorem dX10_alias_120 : decode cX10_alias 120 = .ok (.lcmp, 1) := by decide +kernel
theorem dX10_alias_121 : decode cX10_alias 121 = .ok (.ifCond .lt 5, 3) := by decide +kernel
theorem dX10_alias_124 : decode cX10_alias 124 = .ok (.lconst 0, 1) := by decide +kernel
theorem dX10_alias_125 : decode cX10_alias 125 = .ok (.lreturn, 1) := by decide +kernel
theorem dX10_alias_126 : decode cX10_alias 126 = .ok (.lload 5, 2) := by decide +kernel
theorem dX10_alias_128 : decode cX10_alias 128 = .ok (.lload 7, 2) := by decide +kernel
theorem dX10_alias_130 : decode cX10_alias 130 = .ok (.lcmp, 1) := by decide +kernel
theorem dX10_alias_131 : decode cX10_alias 131 = .ok (.ifCond .lt 7, 3) := by decide +kernel
theorem dX10_alias_134 : decode cX10_alias 134 = .ok (.lconst 1, 1) := by decide +kernel
theorem dX10_alias_135 : decode cX10_alias 135 = .ok (.goto 6, 3) := by decide +kernel
theorem dX10_alias_138 : decode cX10_alias 138 = .ok (.ldc2_w 221, 3) := by decide +kernel
theorem dX10_alias_141 : decode cX10_alias 141 = .ok (.lreturn, 1) := by decide +kernel
theorem dX10_at_0 : decode cX10_at 0 = .ok (.aload_n 0, 1) := by decide +kernel
theorem dX10_at_1 : decode cX10_at 1 = .ok (.iload_n 1, 1) := by decide +kernel
theorem dX10_at_2 : decode cX10_at 2 = .ok (.invokevirtual 137, 3) := by decide +kernel
theorem dX10_at_5 : decode cX10_at 5 = .ok (.ifCond .eq 17, 3) := by decide +kernel
theorem dX10_at_8 : decode cX10_at 8 = .ok (.iload_n 2, 1) := by decide +kernel
theorem dX10_at_9 : decode cX10_at 9 = .ok (.invokestatic 113, 3) := by decide +kernel
theorem dX10_at_12 : decode cX10_at 12 = .ok (.ifCond .eq 10, 3) := by decide +kernel
theorem dX10_at_15 : decode cX10_at 15 = .ok (.iload_n 3, 1) := by decide +kernel
theorem dX10_at_16 : decode cX10_at 16 = .ok (.invokestatic 140, 3) := by decide +kernel
theorem dX10_at_19 : decode cX10_at 19 = .ok (.ifCond .ne 6, 3) := by decide +kernel
theorem dX10_at_22 : decode cX10_at 22 = .ok (.ldc 116, 2) := by decide +kernel
theorem dX10_at_24 : decode cX10_at 24 = .ok (.ireturn, 1) := by decide +kernel
theorem dX10_at_25 : decode cX10_at 25 = .ok (.aload_n 0, 1) := by decide +kernel
theorem dX10_at_26 : decode cX10_at 26 = .ok (.getfield 49, 3) := by decide +kernel
theorem dX10_at_29 : decode cX10_at 29 = .ok (.aload_n 0, 1) := by decide +kernel
theorem dX10_at_30 : decode cX10_at 30 = .ok (.getfield 10, 3) := by decide +kernel
theorem dX10_at_33 : decode cX10_at 33 = .ok (.iload_n 1, 1) := by decide +kernel
theorem dX10_at_34 : decode cX10_at 34 = .ok (.iload_n 3, 1) := by decide +kernel
theorem dX10_at_35 : decode cX10_at 35 = .ok (.invokevirtual 143, 3) := by decide +kernel
theorem dX10_at_38 : decode cX10_at 38 = .ok (.aload_n 0, 1) := by decide +kernel
theorem dX10_at_39 : decode cX10_at 39 = .ok (.getfield 49, 3) := by decide +kernel
theorem dX10_at_42 : decode cX10_at 42 = .ok (.getfield 147, 3) := by decide +kernel
theorem dX10_at_45 : decode cX10_at 45 = .ok (.iload_n 2, 1) := by decide +kernel
theorem dX10_at_46 : decode cX10_at 46 = .ok (.iaload, 1) := by decide +kernel
theorem dX10_at_47 : decode cX10_at 47 = .ok (.ireturn, 1) := by decide +kernel
theorem dX10_back_0 : decode cX10_back 0 = .ok (.iload_n 1, 1) := by decide +kernel
theorem dX10_back_1 : decode cX10_back 1 = .ok (.iconst 0, 1) := by decide +kernel
theorem dX10_back_2 : decode cX10_back 2 = .ok (.iconst 3, 1) := by decide +kernel
theorem dX10_back_3 : decode cX10_back 3 = .ok (.invokestatic 100, 3) := by decide +kernel
theorem dX10_back_6 : decode cX10_back 6 = .ok (.ifCond .eq 12, 3) := by decide +kernel
theorem dX10_back_9 : decode cX10_back 9 = .ok (.aload_n 0, 1) := by decide +kernel
theorem dX10_back_10 : decode cX10_back 10 = .ok (.getfield 16, 3) := by decide +kernel
theorem dX10_back_13 : decode cX10_back 13 = .ok (.iload_n 1, 1) := by decide +kernel
theorem dX10_back_14 : decode cX10_back 14 = .ok (.aaload, 1) := by decide +kernel
theorem dX10_back_15 : decode cX10_back 15 = .ok (.goto 4, 3) := by decide +kernel
theorem dX10_back_18 : decode cX10_back 18 = .ok (.aconst_null, 1) := by decide +kernel
theorem dX10_back_19 : decode cX10_back 19 = .ok (.astore_n 2, 1) := by decide +kernel
theorem dX10_back_20 : decode cX10_back 20 = .ok (.aload_n 2, 1) := by decide +kernel
theorem dX10_back_21 : decode cX10_back 21 = .ok (.ifnonnull 5, 3) := by decide +kernel
theorem dX10_back_24 : decode cX10_back 24 = .ok (.iconst (-1), 1) := by decide +kernel
theorem dX10_back_25 : decode cX10_back 25 = .ok (.ireturn, 1) := by decide +kernel
theorem dX10_back_26 : decode cX10_back 26 = .ok (.aload_n 0, 1) := by decide +kernel
theorem dX10_back_27 : decode cX10_back 27 = .ok (.getfield 10, 3) := by decide +kernel
theorem dX10_back_30 : decode cX10_back 30 = .ok (.aload_n 2, 1) := by decide +kernel
theorem dX10_back_31 : decode cX10_back 31 = .ok (.invokevirtual 429, 3) := by decide +kernel
theorem dX10_back_34 : decode cX10_back 34 = .ok (.aload_n 0, 1) := by decide +kernel
theorem dX10_back_35 : decode cX10_back 35 = .ok (.dup, 1) := by decide +kernel
theorem dX10_back_36 : decode cX10_back 36 = .ok (.getfield 84, 3) := by decide +kernel
theorem dX10_back_39 : decode cX10_back 39 = .ok (.iconst 1, 1) := by decide +kernel
theorem dX10_back_40 : decode cX10_back 40 = .ok (.iadd, 1) := by decide +kernel
theorem dX10_back_41 : decode cX10_back 41 = .ok (.putfield 84, 3) := by decide +kernel
theorem dX10_back_44 : decode cX10_back 44 = .ok (.aload_n 0, 1) := by decide +kernel
theorem dX10_back_45 : decode cX10_back 45 = .ok (.getfield 10, 3) := by decide +kernel
theorem dX10_back_48 : decode cX10_back 48 = .ok (.getfield 352, 3) := by decide +kernel
theorem dX10_back_51 : decode cX10_back 51 = .ok (.ireturn, 1) := by decide +kernel
theorem dX10_bound_0 : decode cX10_bound 0 = .ok (.aload_n 0, 1) := by decide +kernel
theorem dX10_bound_1 : decode cX10_bound 1 = .ok (.iload_n 1, 1) := by decide +kernel
theorem dX10_bound_2 : decode cX10_bound 2 = .ok (.invokevirtual 259, 3) := by decide +kernel
theorem dX10_bound_5 : decode cX10_bound 5 = .ok (.astore_n 3, 1) := by decide +kernel
theorem dX10_bound_6 : decode cX10_bound 6 = .ok (.aload_n 3, 1) := by decide +kernel
theorem dX10_bound_7 : decode cX10_bound 7 = .ok (.ifnull 14, 3) := by decide +kernel
theorem dX10_bound_10 : decode cX10_bound 10 = .ok (.iload_n 2, 1) := by decide +kernel
theorem dX10_bound_11 : decode cX10_bound 11 = .ok (.iconst 1, 1) := by decide +kernel
theorem dX10_bound_12 : decode cX10_bound 12 = .ok (.sipush 1000, 3) := by decide +kernel
theorem dX10_bound_15 : decode cX10_bound 15 = .ok (.invokestatic 100, 3) := by decide +kernel
theorem dX10_bound_18 : decode cX10_bound 18 = .ok (.ifCond .ne 5, 3) := by decide +kernel
theorem dX10_bound_21 : decode cX10_bound 21 = .ok (.iconst (-1), 1) := by decide +kernel
theorem dX10_bound_22 : decode cX10_bound 22 = .ok (.ireturn, 1) := by decide +kernel
theorem dX10_bound_23 : decode cX10_bound 23 = .ok (.aload_n 0, 1) := by decide +kernel
theorem dX10_bound_24 : decode cX10_bound 24 = .ok (.getfield 10, 3) := by decide +kernel
theorem dX10_bound_27 : decode cX10_bound 27 = .ok (.invokevirtual 303, 3) := by decide +kernel
theorem dX10_bound_30 : decode cX10_bound 30 = .ok (.istore 4, 2) := by decide +kernel
theorem dX10_bound_32 : decode cX10_bound 32 = .ok (.iload 4, 2) := by decide +kernel
theorem dX10_bound_34 : decode cX10_bound 34 = .ok (.ifCond .ne 7, 3) := by decide +kernel
theorem dX10_bound_37 : decode cX10_bound 37 = .ok (.lconst 0, 1) := by decide +kernel
theorem dX10_bound_38 : decode cX10_bound 38 = .ok (.goto 20, 3) := by decide +kernel
theorem dX10_bound_41 : decode cX10_bound 41 = .ok (.iload_n 2, 1) := by decide +kernel
theorem dX10_bound_42 : decode cX10_bound 42 = .ok (.i2l, 1) := by decide +kernel
theorem dX10_bound_43 : decode cX10_bound 43 = .ok (.aload_n 0, 1) := by decide +kernel
theorem dX10_bound_44 : decode cX10_bound 44 = .ok (.iload_n 1, 1) := by decide +kernel
theorem dX10_bound_45 : decode cX10_bound 45 = .ok (.aload_n 3, 1) := by decide +kernel
theorem dX10_bound_46 : decode cX10_bound 46 = .ok (.getfield 268, 3) := by decide +kernel
theorem dX10_bound_49 : decode cX10_bound 49 = .ok (.invokevirtual 299, 3) := by decide +kernel
theorem dX10_bound_52 : decode cX10_bound 52 = .ok (.i2l, 1) := by decide +kernel
theorem dX10_bound_53 : decode cX10_bound 53 = .ok (.lmul, 1) := by decide +kernel
theorem dX10_bound_54 : decode cX10_bound 54 = .ok (.iload 4, 2) := by decide +kernel
theorem dX10_bound_56 : decode cX10_bound 56 = .ok (.i2l, 1) := by decide +kernel
theorem dX10_bound_57 : decode cX10_bound 57 = .ok (.ldiv, 1) := by decide +kernel
theorem dX10_bound_58 : decode cX10_bound 58 = .ok (.lstore 5, 2) := by decide +kernel
theorem dX10_bound_60 : decode cX10_bound 60 = .ok (.lload 5, 2) := by decide +kernel
theorem dX10_bound_62 : decode cX10_bound 62 = .ok (.lconst 0, 1) := by decide +kernel
theorem dX10_bound_63 : decode cX10_bound 63 = .ok (.lcmp, 1) := by decide +kernel
theorem dX10_bound_64 : decode cX10_bound 64 = .ok (.ifCond .ne 6, 3) := by decide +kernel
theorem dX10_bound_67 : decode cX10_bound 67 = .ok (.bipush (-2), 2) := by decide +kernel
theorem dX10_bound_69 : decode cX10_bound 69 = .ok (.ireturn, 1) := by decide +kernel
theorem dX10_bound_70 : decode cX10_bound 70 = .ok (.ldc2_w 362, 3) := by decide +kernel
theorem dX10_bound_73 : decode cX10_bound 73 = .ok (.lstore 7, 2) := by decide +kernel
theorem dX10_bound_75 : decode cX10_bound 75 = .ok (.iconst 0, 1) := by decide +kernel
theorem dX10_bound_76 : decode cX10_bound 76 = .ok (.istore 9, 2) := by decide +kernel
theorem dX10_bound_78 : decode cX10_bound 78 = .ok (.ldc2_w 364, 3) := by decide +kernel
theorem dX10_bound_81 : decode cX10_bound 81 = .ok (.lload 7, 2) := by decide +kernel
theorem dX10_bound_83 : decode cX10_bound 83 = .ok (.lmul, 1) := by decide +kernel
theorem dX10_bound_84 : decode cX10_bound 84 = .ok (.ldc2_w 362, 3) := by decide +kernel
theorem dX10_bound_87 : decode cX10_bound 87 = .ok (.lcmp, 1) := by decide +kernel
theorem dX10_bound_88 : decode cX10_bound 88 = .ok (.ifCond .lt 32, 3) := by decide +kernel
theorem dX10_bound_91 : decode cX10_bound 91 = .ok (.iload 9, 2) := by decide +kernel
theorem dX10_bound_93 : decode cX10_bound 93 = .ok (.ldc_w 366, 3) := by decide +kernel
theorem dX10_bound_96 : decode cX10_bound 96 = .ok (.if_icmp .ge 24, 3) := by decide +kernel
theorem dX10_bound_99 : decode cX10_bound 99 = .ok (.lload 7, 2) := by decide +kernel
theorem dX10_bound_101 : decode cX10_bound 101 = .ok (.ldc2_w 367, 3) := by decide +kernel
theorem dX10_bound_104 : decode cX10_bound 104 = .ok (.lload 5, 2) := by decide +kernel
theorem dX10_bound_106 : decode cX10_bound 106 = .ok (.lsub, 1) := by decide +kernel
theorem dX10_bound_107 : decode cX10_bound 107 = .ok (.lmul, 1) := by decide +kernel
theorem dX10_bound_108 : decode cX10_bound 108 = .ok (.ldc2_w 367, 3) := by decide +kernel
theorem dX10_bound_111 : decode cX10_bound 111 = .ok (.ldiv, 1) := by decide +kernel
theorem dX10_bound_112 : decode cX10_bound 112 = .ok (.lstore 7, 2) := by decide +kernel
theorem dX10_bound_114 : decode cX10_bound 114 = .ok (.iinc 9 1, 3) := by decide +kernel
theorem dX10_bound_117 : decode cX10_bound 117 = .ok (.goto (-39), 3) := by decide +kernel
theorem dX10_bound_120 : decode cX10_bound 120 = .ok (.iload 9, 2) := by decide +kernel
theorem dX10_bound_122 : decode cX10_bound 122 = .ok (.ireturn, 1) := by decide +kernel
theorem dX10_candidate_0 : decode cX10_candidate 0 = .ok (.aload_n 0, 1) := by decide +kernel
theorem dX10_candidate_1 : decode cX10_candidate 1 = .ok (.iload_n 1, 1) := by decide +kernel
theorem dX10_candidate_2 : decode cX10_candidate 2 = .ok (.invokevirtual 137, 3) := by decide +kernel
theorem dX10_candidate_5 : decode cX10_candidate 5 = .ok (.ifCond .eq 28, 3) := by decide +kernel
theorem dX10_candidate_8 : decode cX10_candidate 8 = .ok (.iload_n 2, 1) := by decide +kernel
theorem dX10_candidate_9 : decode cX10_candidate 9 = .ok (.iconst 1, 1) := by decide +kernel
theorem dX10_candidate_10 : decode cX10_candidate 10 = .ok (.bipush 99, 2) := by decide +kernel
theorem dX10_candidate_12 : decode cX10_candidate 12 = .ok (.invokestatic 100, 3) := by decide +kernel
theorem dX10_candidate_15 : decode cX10_candidate 15 = .ok (.ifCond .eq 18, 3) := by decide +kernel
theorem dX10_candidate_18 : decode cX10_candidate 18 = .ok (.iload_n 3, 1) := by decide +kernel
theorem dX10_candidate_19 : decode cX10_candidate 19 = .ok (.iconst 0, 1) := by decide +kernel
theorem dX10_candidate_20 : decode cX10_candidate 20 = .ok (.sipush 9999, 3) := by decide +kernel
theorem dX10_candidate_23 : decode cX10_candidate 23 = .ok (.invokestatic 100, 3) := by decide +kernel
theorem dX10_candidate_26 : decode cX10_candidate 26 = .ok (.ifCond .eq 7, 3) := by decide +kernel
theorem dX10_candidate_29 : decode cX10_candidate 29 = .ok (.iconst 1, 1) := by decide +kernel
theorem dX10_candidate_30 : decode cX10_candidate 30 = .ok (.goto 4, 3) := by decide +kernel
theorem dX10_candidate_33 : decode cX10_candidate 33 = .ok (.iconst 0, 1) := by decide +kernel
theorem dX10_candidate_34 : decode cX10_candidate 34 = .ok (.istore 4, 2) := by decide +kernel
theorem dX10_candidate_36 : decode cX10_candidate 36 = .ok (.iload 4, 2) := by decide +kernel
theorem dX10_candidate_38 : decode cX10_candidate 38 = .ok (.ifCond .eq 15, 3) := by decide +kernel
theorem dX10_candidate_41 : decode cX10_candidate 41 = .ok (.aload_n 0, 1) := by decide +kernel
theorem dX10_candidate_42 : decode cX10_candidate 42 = .ok (.getfield 10, 3) := by decide +kernel
theorem dX10_candidate_45 : decode cX10_candidate 45 = .ok (.getfield 413, 3) := by decide +kernel
theorem dX10_candidate_48 : decode cX10_candidate 48 = .ok (.bipush 12, 2) := by decide +kernel
theorem dX10_candidate_50 : decode cX10_candidate 50 = .ok (.if_icmp .lt 5, 3) := by decide +kernel
theorem dX10_candidate_53 : decode cX10_candidate 53 = .ok (.iconst (-1), 1) := by decide +kernel
theorem dX10_candidate_54 : decode cX10_candidate 54 = .ok (.ireturn, 1) := by decide +kernel
theorem dX10_candidate_55 : decode cX10_candidate 55 = .ok (.aload_n 0, 1) := by decide +kernel
theorem dX10_candidate_56 : decode cX10_candidate 56 = .ok (.getfield 10, 3) := by decide +kernel
theorem dX10_candidate_59 : decode cX10_candidate 59 = .ok (.getfield 416, 3) := by decide +kernel
theorem dX10_candidate_62 : decode cX10_candidate 62 = .ok (.aload_n 0, 1) := by decide +kernel
theorem dX10_candidate_63 : decode cX10_candidate 63 = .ok (.getfield 10, 3) := by decide +kernel
theorem dX10_candidate_66 : decode cX10_candidate 66 = .ok (.getfield 413, 3) := by decide +kernel
theorem dX10_candidate_69 : decode cX10_candidate 69 = .ok (.iload_n 2, 1) := by decide +kernel
theorem dX10_candidate_70 : decode cX10_candidate 70 = .ok (.iastore, 1) := by decide +kernel
theorem dX10_candidate_71 : decode cX10_candidate 71 = .ok (.aload_n 0, 1) := by decide +kernel
theorem dX10_candidate_72 : decode cX10_candidate 72 = .ok (.getfield 10, 3) := by decide +kernel
theorem dX10_candidate_75 : decode cX10_candidate 75 = .ok (.getfield 419, 3) := by decide +kernel
theorem dX10_candidate_78 : decode cX10_candidate 78 = .ok (.aload_n 0, 1) := by decide +kernel
theorem dX10_candidate_79 : decode cX10_candidate 79 = .ok (.getfield 10, 3) := by decide +kernel
theorem dX10_candidate_82 : decode cX10_candidate 82 = .ok (.getfield 413, 3) := by decide +kernel
theorem dX10_candidate_85 : decode cX10_candidate 85 = .ok (.iload_n 3, 1) := by decide +kernel
theorem dX10_candidate_86 : decode cX10_candidate 86 = .ok (.iastore, 1) := by decide +kernel
theorem dX10_candidate_87 : decode cX10_candidate 87 = .ok (.aload_n 0, 1) := by decide +kernel
theorem dX10_candidate_88 : decode cX10_candidate 88 = .ok (.getfield 10, 3) := by decide +kernel
theorem dX10_candidate_91 : decode cX10_candidate 91 = .ok (.dup, 1) := by decide +kernel
theorem dX10_candidate_92 : decode cX10_candidate 92 = .ok (.getfield 413, 3) := by decide +kernel
theorem dX10_candidate_95 : decode cX10_candidate 95 = .ok (.iconst 1, 1) := by decide +kernel
theorem dX10_candidate_96 : decode cX10_candidate 96 = .ok (.iadd, 1) := by decide +kernel
theorem dX10_candidate_97 : decode cX10_candidate 97 = .ok (.putfield 413, 3) := by decide +kernel
theorem dX10_candidate_100 : decode cX10_candidate 100 = .ok (.aload_n 0, 1) := by decide +kernel
theorem dX10_candidate_101 : decode cX10_candidate 101 = .ok (.getfield 10, 3) := by decide +kernel
theorem dX10_candidate_104 : decode cX10_candidate 104 = .ok (.getfield 413, 3) := by decide +kernel
theorem dX10_candidate_107 : decode cX10_candidate 107 = .ok (.iconst 1, 1) := by decide +kernel
theorem dX10_candidate_108 : decode cX10_candidate 108 = .ok (.isub, 1) := by decide +kernel
theorem dX10_candidate_109 : decode cX10_candidate 109 = .ok (.ireturn, 1) := by decide +kernel
theorem dX10_catches_0 : decode cX10_catches 0 = .ok (.aload_n 0, 1) := by decide +kernel
theorem dX10_catches_1 : decode cX10_catches 1 = .ok (.iload_n 1, 1) := by decide +kernel
theorem dX10_catches_2 : decode cX10_catches 2 = .ok (.invokevirtual 259, 3) := by decide +kernel
theorem dX10_catches_5 : decode cX10_catches 5 = .ok (.astore_n 3, 1) := by decide +kernel
theorem dX10_catches_6 : decode cX10_catches 6 = .ok (.aload_n 0, 1) := by decide +kernel
theorem dX10_catches_7 : decode cX10_catches 7 = .ok (.getfield 10, 3) := by decide +kernel
theorem dX10_catches_10 : decode cX10_catches 10 = .ok (.iload_n 2, 1) := by decide +kernel
theorem dX10_catches_11 : decode cX10_catches 11 = .ok (.invokevirtual 280, 3) := by decide +kernel
theorem dX10_catches_14 : decode cX10_catches 14 = .ok (.astore 4, 2) := by decide +kernel
theorem dX10_catches_16 : decode cX10_catches 16 = .ok (.aload_n 3, 1) := by decide +kernel
theorem dX10_catches_17 : decode cX10_catches 17 = .ok (.ifnull 16, 3) := by decide +kernel
theorem dX10_catches_20 : decode cX10_catches 20 = .ok (.aload 4, 2) := by decide +kernel
theorem dX10_catches_22 : decode cX10_catches 22 = .ok (.ifnull 11, 3) := by decide +kernel
theorem dX10_catches_25 : decode cX10_catches 25 = .ok (.aload 4, 2) := by decide +kernel
theorem dX10_catches_27 : decode cX10_catches 27 = .ok (.getfield 284, 3) := by decide +kernel
theorem dX10_catches_30 : decode cX10_catches 30 = .ok (.ifCond .ne 5, 3) := by decide +kernel
theorem dX10_catches_33 : decode cX10_catches 33 = .ok (.iconst (-1), 1) := by decide +kernel
theorem dX10_catches_34 : decode cX10_catches 34 = .ok (.ireturn, 1) := by decide +kernel
theorem dX10_catches_35 : decode cX10_catches 35 = .ok (.aload_n 0, 1) := by decide +kernel
theorem dX10_catches_36 : decode cX10_catches 36 = .ok (.iload_n 1, 1) := by decide +kernel
theorem dX10_catches_37 : decode cX10_catches 37 = .ok (.iload_n 2, 1) := by decide +kernel
theorem dX10_catches_38 : decode cX10_catches 38 = .ok (.invokevirtual 288, 3) := by decide +kernel
theorem dX10_catches_41 : decode cX10_catches 41 = .ok (.aload 4, 2) := by decide +kernel
theorem dX10_catches_43 : decode cX10_catches 43 = .ok (.getfield 292, 3) := by decide +kernel
theorem dX10_catches_46 : decode cX10_catches 46 = .ok (.aload_n 3, 1) := by decide +kernel
theorem dX10_catches_47 : decode cX10_catches 47 = .ok (.getfield 268, 3) := by decide +kernel
theorem dX10_catches_50 : decode cX10_catches 50 = .ok (.invokevirtual 295, 3) := by decide +kernel
theorem dX10_catches_53 : decode cX10_catches 53 = .ok (.ifCond .eq 7, 3) := by decide +kernel
theorem dX10_catches_56 : decode cX10_catches 56 = .ok (.iconst 1, 1) := by decide +kernel
theorem dX10_catches_57 : decode cX10_catches 57 = .ok (.goto 4, 3) := by decide +kernel
theorem dX10_catches_60 : decode cX10_catches 60 = .ok (.iconst 0, 1) := by decide +kernel
theorem dX10_catches_61 : decode cX10_catches 61 = .ok (.ireturn, 1) := by decide +kernel
theorem dX10_caughtFrom_0 : decode cX10_caughtFrom 0 = .ok (.iconst 0, 1) := by decide +kernel
theorem dX10_caughtFrom_1 : decode cX10_caughtFrom 1 = .ok (.istore_n 3, 1) := by decide +kernel
theorem dX10_caughtFrom_2 : decode cX10_caughtFrom 2 = .ok (.iconst 0, 1) := by decide +kernel
theorem dX10_caughtFrom_3 : decode cX10_caughtFrom 3 = .ok (.istore 4, 2) := by decide +kernel
theorem dX10_caughtFrom_5 : decode cX10_caughtFrom 5 = .ok (.iload 4, 2) := by decide +kernel
theorem dX10_caughtFrom_7 : decode cX10_caughtFrom 7 = .ok (.aload_n 0, 1) := by decide +kernel
theorem dX10_caughtFrom_8 : decode cX10_caughtFrom 8 = .ok (.getfield 10, 3) := by decide +kernel
theorem dX10_caughtFrom_11 : decode cX10_caughtFrom 11 = .ok (.getfield 150, 3) := by decide +kernel
theorem dX10_caughtFrom_14 : decode cX10_caughtFrom 14 = .ok (.if_icmp .ge 55, 3) := by decide +kernel
theorem dX10_caughtFrom_17 : decode cX10_caughtFrom 17 = .ok (.aload_n 0, 1) := by decide +kernel
theorem dX10_caughtFrom_18 : decode cX10_caughtFrom 18 = .ok (.getfield 10, 3) := by decide +kernel
theorem dX10_caughtFrom_21 : decode cX10_caughtFrom 21 = .ok (.iload 4, 2) := by decide +kernel
theorem dX10_caughtFrom_23 : decode cX10_caughtFrom 23 = .ok (.invokevirtual 280, 3) := by decide +kernel
theorem dX10_caughtFrom_26 : decode cX10_caughtFrom 26 = .ok (.astore 5, 2) := by decide +kernel
theorem dX10_caughtFrom_28 : decode cX10_caughtFrom 28 = .ok (.aload 5, 2) := by decide +kernel
theorem dX10_caughtFrom_30 : decode cX10_caughtFrom 30 = .ok (.ifnull 33, 3) := by decide +kernel
theorem dX10_caughtFrom_33 : decode cX10_caughtFrom 33 = .ok (.aload 5, 2) := by decide +kernel
theorem dX10_caughtFrom_35 : decode cX10_caughtFrom 35 = .ok (.getfield 284, 3) := by decide +kernel
theorem dX10_caughtFrom_38 : decode cX10_caughtFrom 38 = .ok (.ifCond .eq 25, 3) := by decide +kernel
theorem dX10_caughtFrom_41 : decode cX10_caughtFrom 41 = .ok (.aload_n 0, 1) := by decide +kernel
theorem dX10_caughtFrom_42 : decode cX10_caughtFrom 42 = .ok (.iload_n 1, 1) := by decide +kernel
theorem dX10_caughtFrom_43 : decode cX10_caughtFrom 43 = .ok (.iload 4, 2) := by decide +kernel
theorem dX10_caughtFrom_45 : decode cX10_caughtFrom 45 = .ok (.invokevirtual 288, 3) := by decide +kernel
theorem dX10_caughtFrom_48 : decode cX10_caughtFrom 48 = .ok (.aload 5, 2) := by decide +kernel
theorem dX10_caughtFrom_50 : decode cX10_caughtFrom 50 = .ok (.getfield 292, 3) := by decide +kernel
theorem dX10_caughtFrom_53 : decode cX10_caughtFrom 53 = .ok (.iload_n 2, 1) := by decide +kernel
theorem dX10_caughtFrom_54 : decode cX10_caughtFrom 54 = .ok (.invokevirtual 295, 3) := by decide +kernel
theorem dX10_caughtFrom_57 : decode cX10_caughtFrom 57 = .ok (.ifCond .eq 6, 3) := by decide +kernel
theorem dX10_caughtFrom_60 : decode cX10_caughtFrom 60 = .ok (.iinc 3 1, 3) := by decide +kernel
theorem dX10_caughtFrom_63 : decode cX10_caughtFrom 63 = .ok (.iinc 4 1, 3) := by decide +kernel
theorem dX10_caughtFrom_66 : decode cX10_caughtFrom 66 = .ok (.goto (-61), 3) := by decide +kernel
theorem dX10_caughtFrom_69 : decode cX10_caughtFrom 69 = .ok (.iload_n 3, 1) := by decide +kernel
theorem dX10_caughtFrom_70 : decode cX10_caughtFrom 70 = .ok (.ireturn, 1) := by decide +kernel
theorem dX10_chance_0 : decode cX10_chance 0 = .ok (.aload_n 0, 1) := by decide +kernel
theorem dX10_chance_1 : decode cX10_chance 1 = .ok (.iload_n 1, 1) := by decide +kernel
theorem dX10_chance_2 : decode cX10_chance 2 = .ok (.invokevirtual 259, 3) := by decide +kernel
theorem dX10_chance_5 : decode cX10_chance 5 = .ok (.ifnull 21, 3) := by decide +kernel
theorem dX10_chance_8 : decode cX10_chance 8 = .ok (.iload_n 2, 1) := by decide +kernel
theorem dX10_chance_9 : decode cX10_chance 9 = .ok (.iconst 0, 1) := by decide +kernel
theorem dX10_chance_10 : decode cX10_chance 10 = .ok (.ldc_w 310, 3) := by decide +kernel
theorem dX10_chance_13 : decode cX10_chance 13 = .ok (.invokestatic 100, 3) := by decide +kernel
theorem dX10_chance_16 : decode cX10_chance 16 = .ok (.ifCond .eq 10, 3) := by decide +kernel
theorem dX10_chance_19 : decode cX10_chance 19 = .ok (.iload_n 3, 1) := by decide +kernel
theorem dX10_chance_20 : decode cX10_chance 20 = .ok (.invokestatic 140, 3) := by decide +kernel
theorem dX10_chance_23 : decode cX10_chance 23 = .ok (.ifCond .ne 5, 3) := by decide +kernel
theorem dX10_chance_26 : decode cX10_chance 26 = .ok (.iconst (-1), 1) := by decide +kernel
theorem dX10_chance_27 : decode cX10_chance 27 = .ok (.ireturn, 1) := by decide +kernel
theorem dX10_chance_28 : decode cX10_chance 28 = .ok (.aload_n 0, 1) := by decide +kernel
theorem dX10_chance_29 : decode cX10_chance 29 = .ok (.iload_n 1, 1) := by decide +kernel
theorem dX10_chance_30 : decode cX10_chance 30 = .ok (.iload_n 3, 1) := by decide +kernel
theorem dX10_chance_31 : decode cX10_chance 31 = .ok (.iload_n 2, 1) := by decide +kernel
theorem dX10_chance_32 : decode cX10_chance 32 = .ok (.invokevirtual 311, 3) := by decide +kernel
theorem dX10_chance_35 : decode cX10_chance 35 = .ok (.ireturn, 1) := by decide +kernel
theorem dX10_count_0 : decode cX10_count 0 = .ok (.iload_n 1, 1) := by decide +kernel
theorem dX10_count_1 : decode cX10_count 1 = .ok (.tableswitch 102 0 7 #[47, 55, 63, 68, 73, 78, 86, 94], 47) := by decide +kernel
theorem dX10_count_48 : decode cX10_count 48 = .ok (.aload_n 0, 1) := by decide +kernel
theorem dX10_count_49 : decode cX10_count 49 = .ok (.getfield 10, 3) := by decide +kernel
theorem dX10_count_52 : decode cX10_count 52 = .ok (.getfield 352, 3) := by decide +kernel
theorem dX10_count_55 : decode cX10_count 55 = .ok (.ireturn, 1) := by decide +kernel
theorem dX10_count_56 : decode cX10_count 56 = .ok (.aload_n 0, 1) := by decide +kernel
theorem dX10_count_57 : decode cX10_count 57 = .ok (.getfield 10, 3) := by decide +kernel
theorem dX10_count_60 : decode cX10_count 60 = .ok (.getfield 150, 3) := by decide +kernel
theorem dX10_count_63 : decode cX10_count 63 = .ok (.ireturn, 1) := by decide +kernel
theorem dX10_count_64 : decode cX10_count 64 = .ok (.aload_n 0, 1) := by decide +kernel
theorem dX10_count_65 : decode cX10_count 65 = .ok (.getfield 169, 3) := by decide +kernel
theorem dX10_count_68 : decode cX10_count 68 = .ok (.ireturn, 1) := by decide +kernel
theorem dX10_count_69 : decode cX10_count 69 = .ok (.aload_n 0, 1) := by decide +kernel
theorem dX10_count_70 : decode cX10_count 70 = .ok (.getfield 172, 3) := by decide +kernel
theorem dX10_count_73 : decode cX10_count 73 = .ok (.ireturn, 1) := by decide +kernel
theorem dX10_count_74 : decode cX10_count 74 = .ok (.aload_n 0, 1) := by decide +kernel
theorem dX10_count_75 : decode cX10_count 75 = .ok (.getfield 175, 3) := by decide +kernel
theorem dX10_count_78 : decode cX10_count 78 = .ok (.ireturn, 1) := by decide +kernel
theorem dX10_count_79 : decode cX10_count 79 = .ok (.aload_n 0, 1) := by decide +kernel
theorem dX10_count_80 : decode cX10_count 80 = .ok (.getfield 10, 3) := by decide +kernel
theorem dX10_count_83 : decode cX10_count 83 = .ok (.getfield 413, 3) := by decide +kernel
theorem dX10_count_86 : decode cX10_count 86 = .ok (.ireturn, 1) := by decide +kernel
theorem dX10_count_87 : decode cX10_count 87 = .ok (.aload_n 0, 1) := by decide +kernel
theorem dX10_count_88 : decode cX10_count 88 = .ok (.getfield 10, 3) := by decide +kernel
theorem dX10_count_91 : decode cX10_count 91 = .ok (.invokevirtual 426, 3) := by decide +kernel
theorem dX10_count_94 : decode cX10_count 94 = .ok (.ireturn, 1) := by decide +kernel
theorem dX10_count_95 : decode cX10_count 95 = .ok (.aload_n 0, 1) := by decide +kernel
theorem dX10_count_96 : decode cX10_count 96 = .ok (.getfield 10, 3) := by decide +kernel
theorem dX10_count_99 : decode cX10_count 99 = .ok (.getfield 162, 3) := by decide +kernel
theorem dX10_count_102 : decode cX10_count 102 = .ok (.ireturn, 1) := by decide +kernel
theorem dX10_count_103 : decode cX10_count 103 = .ok (.iconst (-1), 1) := by decide +kernel
theorem dX10_count_104 : decode cX10_count 104 = .ok (.ireturn, 1) := by decide +kernel
theorem dX10_end_0 : decode cX10_end 0 = .ok (.iload_n 1, 1) := by decide +kernel
theorem dX10_end_1 : decode cX10_end 1 = .ok (.iconst 0, 1) := by decide +kernel
theorem dX10_end_2 : decode cX10_end 2 = .ok (.aload_n 0, 1) := by decide +kernel
theorem dX10_end_3 : decode cX10_end 3 = .ok (.getfield 10, 3) := by decide +kernel
theorem dX10_end_6 : decode cX10_end 6 = .ok (.getfield 162, 3) := by decide +kernel
theorem dX10_end_9 : decode cX10_end 9 = .ok (.invokestatic 100, 3) := by decide +kernel
theorem dX10_end_12 : decode cX10_end 12 = .ok (.ifCond .ne 5, 3) := by decide +kernel
theorem dX10_end_15 : decode cX10_end 15 = .ok (.iconst (-1), 1) := by decide +kernel
theorem dX10_end_16 : decode cX10_end 16 = .ok (.ireturn, 1) := by decide +kernel
theorem dX10_end_17 : decode cX10_end 17 = .ok (.aload_n 0, 1) := by decide +kernel
theorem dX10_end_18 : decode cX10_end 18 = .ok (.getfield 10, 3) := by decide +kernel
theorem dX10_end_21 : decode cX10_end 21 = .ok (.iload_n 1, 1) := by decide +kernel
theorem dX10_end_22 : decode cX10_end 22 = .ok (.putfield 162, 3) := by decide +kernel
theorem dX10_end_25 : decode cX10_end 25 = .ok (.iload_n 1, 1) := by decide +kernel
theorem dX10_end_26 : decode cX10_end 26 = .ok (.ireturn, 1) := by decide +kernel
theorem dX10_feed_0 : decode cX10_feed 0 = .ok (.aload_n 0, 1) := by decide +kernel
theorem dX10_feed_1 : decode cX10_feed 1 = .ok (.getfield 10, 3) := by decide +kernel
theorem dX10_feed_4 : decode cX10_feed 4 = .ok (.getfield 162, 3) := by decide +kernel
theorem dX10_feed_7 : decode cX10_feed 7 = .ok (.bipush 20, 2) := by decide +kernel
theorem dX10_feed_9 : decode cX10_feed 9 = .ok (.iadd, 1) := by decide +kernel
theorem dX10_feed_10 : decode cX10_feed 10 = .ok (.sipush 400, 3) := by decide +kernel
theorem dX10_feed_13 : decode cX10_feed 13 = .ok (.if_icmp .le 5, 3) := by decide +kernel
theorem dX10_feed_16 : decode cX10_feed 16 = .ok (.iconst (-1), 1) := by decide +kernel
theorem dX10_feed_17 : decode cX10_feed 17 = .ok (.ireturn, 1) := by decide +kernel
theorem dX10_feed_18 : decode cX10_feed 18 = .ok (.aload_n 0, 1) := by decide +kernel
theorem dX10_feed_19 : decode cX10_feed 19 = .ok (.getfield 10, 3) := by decide +kernel
theorem dX10_feed_22 : decode cX10_feed 22 = .ok (.iload_n 1, 1) := by decide +kernel
theorem dX10_feed_23 : decode cX10_feed 23 = .ok (.invokevirtual 165, 3) := by decide +kernel
theorem dX10_feed_26 : decode cX10_feed 26 = .ok (.aload_n 0, 1) := by decide +kernel
theorem dX10_feed_27 : decode cX10_feed 27 = .ok (.getfield 10, 3) := by decide +kernel
theorem dX10_feed_30 : decode cX10_feed 30 = .ok (.iload_n 2, 1) := by decide +kernel
theorem dX10_feed_31 : decode cX10_feed 31 = .ok (.invokevirtual 165, 3) := by decide +kernel
theorem dX10_feed_34 : decode cX10_feed 34 = .ok (.aload_n 0, 1) := by decide +kernel
theorem dX10_feed_35 : decode cX10_feed 35 = .ok (.getfield 10, 3) := by decide +kernel
theorem dX10_feed_38 : decode cX10_feed 38 = .ok (.iload_n 3, 1) := by decide +kernel
theorem dX10_feed_39 : decode cX10_feed 39 = .ok (.invokevirtual 165, 3) := by decide +kernel
theorem dX10_feed_42 : decode cX10_feed 42 = .ok (.aload_n 0, 1) := by decide +kernel
theorem dX10_feed_43 : decode cX10_feed 43 = .ok (.getfield 10, 3) := by decide +kernel
theorem dX10_feed_46 : decode cX10_feed 46 = .ok (.iload 4, 2) := by decide +kernel
theorem dX10_feed_48 : decode cX10_feed 48 = .ok (.invokevirtual 165, 3) := by decide +kernel
theorem dX10_feed_51 : decode cX10_feed 51 = .ok (.aload_n 0, 1) := by decide +kernel
theorem dX10_feed_52 : decode cX10_feed 52 = .ok (.getfield 10, 3) := by decide +kernel
theorem dX10_feed_55 : decode cX10_feed 55 = .ok (.iload 5, 2) := by decide +kernel
theorem dX10_feed_57 : decode cX10_feed 57 = .ok (.invokevirtual 165, 3) := by decide +kernel
theorem dX10_feed_60 : decode cX10_feed 60 = .ok (.aload_n 0, 1) := by decide +kernel
theorem dX10_feed_61 : decode cX10_feed 61 = .ok (.getfield 10, 3) := by decide +kernel
theorem dX10_feed_64 : decode cX10_feed 64 = .ok (.getfield 162, 3) := by decide +kernel
theorem dX10_feed_67 : decode cX10_feed 67 = .ok (.ireturn, 1) := by decide +kernel
theorem dX10_fillWords_0 : decode cX10_fillWords 0 = .ok (.aload_n 0, 1) := by decide +kernel
theorem dX10_fillWords_1 : decode cX10_fillWords 1 = .ok (.iload_n 1, 1) := by decide +kernel
theorem dX10_fillWords_2 : decode cX10_fillWords 2 = .ok (.iload_n 2, 1) := by decide +kernel
theorem dX10_fillWords_3 : decode cX10_fillWords 3 = .ok (.iconst 0, 1) := by decide +kernel
theorem dX10_fillWords_4 : decode cX10_fillWords 4 = .ok (.invokevirtual 389, 3) := by decide +kernel
theorem dX10_fillWords_7 : decode cX10_fillWords 7 = .ok (.astore_n 3, 1) := by decide +kernel
theorem dX10_fillWords_8 : decode cX10_fillWords 8 = .ok (.aload_n 0, 1) := by decide +kernel
theorem dX10_fillWords_9 : decode cX10_fillWords 9 = .ok (.getfield 49, 3) := by decide +kernel
theorem dX10_fillWords_12 : decode cX10_fillWords 12 = .ok (.aload_n 0, 1) := by decide +kernel
theorem dX10_fillWords_13 : decode cX10_fillWords 13 = .ok (.getfield 10, 3) := by decide +kernel
theorem dX10_fillWords_16 : decode cX10_fillWords 16 = .ok (.iload_n 2, 1) := by decide +kernel
theorem dX10_fillWords_17 : decode cX10_fillWords 17 = .ok (.iconst 0, 1) := by decide +kernel
theorem dX10_fillWords_18 : decode cX10_fillWords 18 = .ok (.invokevirtual 143, 3) := by decide +kernel
theorem dX10_fillWords_21 : decode cX10_fillWords 21 = .ok (.aload_n 0, 1) := by decide +kernel
theorem dX10_fillWords_22 : decode cX10_fillWords 22 = .ok (.getfield 63, 3) := by decide +kernel
theorem dX10_fillWords_25 : decode cX10_fillWords 25 = .ok (.aload_n 0, 1) := by decide +kernel
theorem dX10_fillWords_26 : decode cX10_fillWords 26 = .ok (.getfield 49, 3) := by decide +kernel
theorem dX10_fillWords_29 : decode cX10_fillWords 29 = .ok (.aload_n 3, 1) := by decide +kernel
theorem dX10_fillWords_30 : decode cX10_fillWords 30 = .ok (.invokevirtual 327, 3) := by decide +kernel
theorem dX10_fillWords_33 : decode cX10_fillWords 33 = .ok (.aload_n 0, 1) := by decide +kernel
theorem dX10_fillWords_34 : decode cX10_fillWords 34 = .ok (.getfield 88, 3) := by decide +kernel
theorem dX10_fillWords_37 : decode cX10_fillWords 37 = .ok (.iconst 0, 1) := by decide +kernel
theorem dX10_fillWords_38 : decode cX10_fillWords 38 = .ok (.aload_n 3, 1) := by decide +kernel
theorem dX10_fillWords_39 : decode cX10_fillWords 39 = .ok (.getfield 336, 3) := by decide +kernel
theorem dX10_fillWords_42 : decode cX10_fillWords 42 = .ok (.i2l, 1) := by decide +kernel
theorem dX10_fillWords_43 : decode cX10_fillWords 43 = .ok (.lastore, 1) := by decide +kernel
theorem dX10_fillWords_44 : decode cX10_fillWords 44 = .ok (.aload_n 0, 1) := by decide +kernel
theorem dX10_fillWords_45 : decode cX10_fillWords 45 = .ok (.getfield 88, 3) := by decide +kernel
theorem dX10_fillWords_48 : decode cX10_fillWords 48 = .ok (.iconst 1, 1) := by decide +kernel
theorem dX10_fillWords_49 : decode cX10_fillWords 49 = .ok (.aload_n 3, 1) := by decide +kernel
theorem dX10_fillWords_50 : decode cX10_fillWords 50 = .ok (.getfield 337, 3) := by decide +kernel
theorem dX10_fillWords_53 : decode cX10_fillWords 53 = .ok (.i2l, 1) := by decide +kernel
theorem dX10_fillWords_54 : decode cX10_fillWords 54 = .ok (.lastore, 1) := by decide +kernel
theorem dX10_fillWords_55 : decode cX10_fillWords 55 = .ok (.aload_n 0, 1) := by decide +kernel
theorem dX10_fillWords_56 : decode cX10_fillWords 56 = .ok (.getfield 88, 3) := by decide +kernel
theorem dX10_fillWords_59 : decode cX10_fillWords 59 = .ok (.iconst 2, 1) := by decide +kernel
