theorem dX2_moveSeasons_34 : decode cX2_moveSeasons 34 = .ok (.iaload, 1) := by decide +kernel
theorem dX2_moveSeasons_35 : decode cX2_moveSeasons 35 = .ok (.sipush 150, 3) := by decide +kernel
theorem dX2_moveSeasons_38 : decode cX2_moveSeasons 38 = .ok (.imul, 1) := by decide +kernel
theorem dX2_moveSeasons_39 : decode cX2_moveSeasons 39 = .ok (.aload_n 0, 1) := by decide +kernel
theorem dX2_moveSeasons_40 : decode cX2_moveSeasons 40 = .ok (.getfield 9, 3) := by decide +kernel
theorem dX2_moveSeasons_43 : decode cX2_moveSeasons 43 = .ok (.iload_n 3, 1) := by decide +kernel
theorem dX2_moveSeasons_44 : decode cX2_moveSeasons 44 = .ok (.sipush 150, 3) := by decide +kernel
theorem dX2_moveSeasons_47 : decode cX2_moveSeasons 47 = .ok (.imul, 1) := by decide +kernel
theorem dX2_moveSeasons_48 : decode cX2_moveSeasons 48 = .ok (.sipush 150, 3) := by decide +kernel
theorem dX2_moveSeasons_51 : decode cX2_moveSeasons 51 = .ok (.invokestatic 56, 3) := by decide +kernel
theorem dX2_moveSeasons_54 : decode cX2_moveSeasons 54 = .ok (.iinc 3 1, 3) := by decide +kernel
theorem dX2_moveSeasons_57 : decode cX2_moveSeasons 57 = .ok (.goto (-55), 3) := by decide +kernel
theorem dX2_moveSeasons_60 : decode cX2_moveSeasons 60 = .ok (.return_, 1) := by decide +kernel
theorem dX2_score_0 : decode cX2_score 0 = .ok (.aload_n 0, 1) := by decide +kernel
theorem dX2_score_1 : decode cX2_score 1 = .ok (.getfield 106, 3) := by decide +kernel
theorem dX2_score_4 : decode cX2_score 4 = .ok (.aload_n 0, 1) := by decide +kernel
theorem dX2_score_5 : decode cX2_score 5 = .ok (.getfield 136, 3) := by decide +kernel
theorem dX2_score_8 : decode cX2_score 8 = .ok (.isub, 1) := by decide +kernel
theorem dX2_score_9 : decode cX2_score 9 = .ok (.istore_n 1, 1) := by decide +kernel
theorem dX2_score_10 : decode cX2_score 10 = .ok (.iload_n 1, 1) := by decide +kernel
theorem dX2_score_11 : decode cX2_score 11 = .ok (.i2l, 1) := by decide +kernel
theorem dX2_score_12 : decode cX2_score 12 = .ok (.aload_n 0, 1) := by decide +kernel
theorem dX2_score_13 : decode cX2_score 13 = .ok (.getfield 136, 3) := by decide +kernel
theorem dX2_score_16 : decode cX2_score 16 = .ok (.i2l, 1) := by decide +kernel
theorem dX2_score_17 : decode cX2_score 17 = .ok (.lmul, 1) := by decide +kernel
theorem dX2_score_18 : decode cX2_score 18 = .ok (.lstore_n 2, 1) := by decide +kernel
theorem dX2_score_19 : decode cX2_score 19 = .ok (.aload_n 0, 1) := by decide +kernel
theorem dX2_score_20 : decode cX2_score 20 = .ok (.getfield 109, 3) := by decide +kernel
theorem dX2_score_23 : decode cX2_score 23 = .ok (.aload_n 0, 1) := by decide +kernel
theorem dX2_score_24 : decode cX2_score 24 = .ok (.getfield 139, 3) := by decide +kernel
theorem dX2_score_27 : decode cX2_score 27 = .ok (.lsub, 1) := by decide +kernel
theorem dX2_score_28 : decode cX2_score 28 = .ok (.aload_n 0, 1) := by decide +kernel
theorem dX2_score_29 : decode cX2_score 29 = .ok (.getfield 136, 3) := by decide +kernel
theorem dX2_score_32 : decode cX2_score 32 = .ok (.i2l, 1) := by decide +kernel
theorem dX2_score_33 : decode cX2_score 33 = .ok (.lmul, 1) := by decide +kernel
theorem dX2_score_34 : decode cX2_score 34 = .ok (.aload_n 0, 1) := by decide +kernel
theorem dX2_score_35 : decode cX2_score 35 = .ok (.getfield 139, 3) := by decide +kernel
theorem dX2_score_38 : decode cX2_score 38 = .ok (.iload_n 1, 1) := by decide +kernel
theorem dX2_score_39 : decode cX2_score 39 = .ok (.i2l, 1) := by decide +kernel
theorem dX2_score_40 : decode cX2_score 40 = .ok (.lmul, 1) := by decide +kernel
theorem dX2_score_41 : decode cX2_score 41 = .ok (.lsub, 1) := by decide +kernel
theorem dX2_score_42 : decode cX2_score 42 = .ok (.lstore 4, 2) := by decide +kernel
theorem dX2_score_44 : decode cX2_score 44 = .ok (.lload_n 2, 1) := by decide +kernel
theorem dX2_score_45 : decode cX2_score 45 = .ok (.lconst 1, 1) := by decide +kernel
theorem dX2_score_46 : decode cX2_score 46 = .ok (.lcmp, 1) := by decide +kernel
theorem dX2_score_47 : decode cX2_score 47 = .ok (.ifCond .lt 19, 3) := by decide +kernel
theorem dX2_score_50 : decode cX2_score 50 = .ok (.lload 4, 2) := by decide +kernel
theorem dX2_score_52 : decode cX2_score 52 = .ok (.lload_n 2, 1) := by decide +kernel
theorem dX2_score_53 : decode cX2_score 53 = .ok (.lcmp, 1) := by decide +kernel
theorem dX2_score_54 : decode cX2_score 54 = .ok (.ifCond .lt 12, 3) := by decide +kernel
theorem dX2_score_57 : decode cX2_score 57 = .ok (.aload_n 0, 1) := by decide +kernel
theorem dX2_score_58 : decode cX2_score 58 = .ok (.getfield 118, 3) := by decide +kernel
theorem dX2_score_61 : decode cX2_score 61 = .ok (.lconst 1, 1) := by decide +kernel
theorem dX2_score_62 : decode cX2_score 62 = .ok (.lcmp, 1) := by decide +kernel
theorem dX2_score_63 : decode cX2_score 63 = .ok (.ifCond .ge 5, 3) := by decide +kernel
theorem dX2_score_66 : decode cX2_score 66 = .ok (.lconst 0, 1) := by decide +kernel
theorem dX2_score_67 : decode cX2_score 67 = .ok (.lreturn, 1) := by decide +kernel
theorem dX2_score_68 : decode cX2_score 68 = .ok (.lload 4, 2) := by decide +kernel
theorem dX2_score_70 : decode cX2_score 70 = .ok (.lload_n 2, 1) := by decide +kernel
theorem dX2_score_71 : decode cX2_score 71 = .ok (.ldiv, 1) := by decide +kernel
theorem dX2_score_72 : decode cX2_score 72 = .ok (.lstore 6, 2) := by decide +kernel
theorem dX2_score_74 : decode cX2_score 74 = .ok (.lload 6, 2) := by decide +kernel
theorem dX2_score_76 : decode cX2_score 76 = .ok (.lload 6, 2) := by decide +kernel
theorem dX2_score_78 : decode cX2_score 78 = .ok (.lmul, 1) := by decide +kernel
theorem dX2_score_79 : decode cX2_score 79 = .ok (.aload_n 0, 1) := by decide +kernel
theorem dX2_score_80 : decode cX2_score 80 = .ok (.getfield 136, 3) := by decide +kernel
theorem dX2_score_83 : decode cX2_score 83 = .ok (.i2l, 1) := by decide +kernel
theorem dX2_score_84 : decode cX2_score 84 = .ok (.lmul, 1) := by decide +kernel
theorem dX2_score_85 : decode cX2_score 85 = .ok (.aload_n 0, 1) := by decide +kernel
theorem dX2_score_86 : decode cX2_score 86 = .ok (.getfield 118, 3) := by decide +kernel
theorem dX2_score_89 : decode cX2_score 89 = .ok (.ldiv, 1) := by decide +kernel
theorem dX2_score_90 : decode cX2_score 90 = .ok (.lreturn, 1) := by decide +kernel
theorem dX2_scoreHalf_0 : decode cX2_scoreHalf 0 = .ok (.aload_n 1, 1) := by decide +kernel
theorem dX2_scoreHalf_1 : decode cX2_scoreHalf 1 = .ok (.getfield 156, 3) := by decide +kernel
theorem dX2_scoreHalf_4 : decode cX2_scoreHalf 4 = .ok (.iconst 2, 1) := by decide +kernel
theorem dX2_scoreHalf_5 : decode cX2_scoreHalf 5 = .ok (.idiv, 1) := by decide +kernel
theorem dX2_scoreHalf_6 : decode cX2_scoreHalf 6 = .ok (.istore_n 2, 1) := by decide +kernel
theorem dX2_scoreHalf_7 : decode cX2_scoreHalf 7 = .ok (.iload_n 2, 1) := by decide +kernel
theorem dX2_scoreHalf_8 : decode cX2_scoreHalf 8 = .ok (.iconst 1, 1) := by decide +kernel
theorem dX2_scoreHalf_9 : decode cX2_scoreHalf 9 = .ok (.if_icmp .lt 20, 3) := by decide +kernel
theorem dX2_scoreHalf_12 : decode cX2_scoreHalf 12 = .ok (.aload_n 1, 1) := by decide +kernel
theorem dX2_scoreHalf_13 : decode cX2_scoreHalf 13 = .ok (.getfield 156, 3) := by decide +kernel
theorem dX2_scoreHalf_16 : decode cX2_scoreHalf 16 = .ok (.iconst 2, 1) := by decide +kernel
theorem dX2_scoreHalf_17 : decode cX2_scoreHalf 17 = .ok (.irem, 1) := by decide +kernel
theorem dX2_scoreHalf_18 : decode cX2_scoreHalf 18 = .ok (.ifCond .ne 11, 3) := by decide +kernel
theorem dX2_scoreHalf_21 : decode cX2_scoreHalf 21 = .ok (.aload_n 1, 1) := by decide +kernel
theorem dX2_scoreHalf_22 : decode cX2_scoreHalf 22 = .ok (.getfield 161, 3) := by decide +kernel
theorem dX2_scoreHalf_25 : decode cX2_scoreHalf 25 = .ok (.iload_n 2, 1) := by decide +kernel
theorem dX2_scoreHalf_26 : decode cX2_scoreHalf 26 = .ok (.if_icmp .lt 5, 3) := by decide +kernel
theorem dX2_scoreHalf_29 : decode cX2_scoreHalf 29 = .ok (.lconst 0, 1) := by decide +kernel
theorem dX2_scoreHalf_30 : decode cX2_scoreHalf 30 = .ok (.lreturn, 1) := by decide +kernel
theorem dX2_scoreHalf_31 : decode cX2_scoreHalf 31 = .ok (.aload_n 0, 1) := by decide +kernel
theorem dX2_scoreHalf_32 : decode cX2_scoreHalf 32 = .ok (.iload_n 2, 1) := by decide +kernel
theorem dX2_scoreHalf_33 : decode cX2_scoreHalf 33 = .ok (.aload_n 1, 1) := by decide +kernel
theorem dX2_scoreHalf_34 : decode cX2_scoreHalf 34 = .ok (.getfield 161, 3) := by decide +kernel
theorem dX2_scoreHalf_37 : decode cX2_scoreHalf 37 = .ok (.aload_n 1, 1) := by decide +kernel
theorem dX2_scoreHalf_38 : decode cX2_scoreHalf 38 = .ok (.getfield 164, 3) := by decide +kernel
theorem dX2_scoreHalf_41 : decode cX2_scoreHalf 41 = .ok (.iload_n 2, 1) := by decide +kernel
theorem dX2_scoreHalf_42 : decode cX2_scoreHalf 42 = .ok (.irem, 1) := by decide +kernel
theorem dX2_scoreHalf_43 : decode cX2_scoreHalf 43 = .ok (.invokevirtual 167, 3) := by decide +kernel
theorem dX2_scoreHalf_46 : decode cX2_scoreHalf 46 = .ok (.aload_n 0, 1) := by decide +kernel
theorem dX2_scoreHalf_47 : decode cX2_scoreHalf 47 = .ok (.invokevirtual 171, 3) := by decide +kernel
theorem dX2_scoreHalf_50 : decode cX2_scoreHalf 50 = .ok (.lreturn, 1) := by decide +kernel
theorem dX2_scoreTwice_0 : decode cX2_scoreTwice 0 = .ok (.iconst 2, 1) := by decide +kernel
theorem dX2_scoreTwice_1 : decode cX2_scoreTwice 1 = .ok (.aload_n 1, 1) := by decide +kernel
theorem dX2_scoreTwice_2 : decode cX2_scoreTwice 2 = .ok (.getfield 156, 3) := by decide +kernel
theorem dX2_scoreTwice_5 : decode cX2_scoreTwice 5 = .ok (.imul, 1) := by decide +kernel
theorem dX2_scoreTwice_6 : decode cX2_scoreTwice 6 = .ok (.istore_n 2, 1) := by decide +kernel
theorem dX2_scoreTwice_7 : decode cX2_scoreTwice 7 = .ok (.iload_n 2, 1) := by decide +kernel
theorem dX2_scoreTwice_8 : decode cX2_scoreTwice 8 = .ok (.sipush 200, 3) := by decide +kernel
theorem dX2_scoreTwice_11 : decode cX2_scoreTwice 11 = .ok (.if_icmp .le 5, 3) := by decide +kernel
theorem dX2_scoreTwice_14 : decode cX2_scoreTwice 14 = .ok (.lconst 0, 1) := by decide +kernel
theorem dX2_scoreTwice_15 : decode cX2_scoreTwice 15 = .ok (.lreturn, 1) := by decide +kernel
theorem dX2_scoreTwice_16 : decode cX2_scoreTwice 16 = .ok (.aload_n 0, 1) := by decide +kernel
theorem dX2_scoreTwice_17 : decode cX2_scoreTwice 17 = .ok (.iload_n 2, 1) := by decide +kernel
theorem dX2_scoreTwice_18 : decode cX2_scoreTwice 18 = .ok (.aload_n 1, 1) := by decide +kernel
theorem dX2_scoreTwice_19 : decode cX2_scoreTwice 19 = .ok (.getfield 161, 3) := by decide +kernel
theorem dX2_scoreTwice_22 : decode cX2_scoreTwice 22 = .ok (.aload_n 1, 1) := by decide +kernel
theorem dX2_scoreTwice_23 : decode cX2_scoreTwice 23 = .ok (.getfield 164, 3) := by decide +kernel
theorem dX2_scoreTwice_26 : decode cX2_scoreTwice 26 = .ok (.invokevirtual 167, 3) := by decide +kernel
theorem dX2_scoreTwice_29 : decode cX2_scoreTwice 29 = .ok (.aload_n 0, 1) := by decide +kernel
theorem dX2_scoreTwice_30 : decode cX2_scoreTwice 30 = .ok (.invokevirtual 171, 3) := by decide +kernel
theorem dX2_scoreTwice_33 : decode cX2_scoreTwice 33 = .ok (.lstore_n 3, 1) := by decide +kernel
theorem dX2_scoreTwice_34 : decode cX2_scoreTwice 34 = .ok (.aload_n 0, 1) := by decide +kernel
theorem dX2_scoreTwice_35 : decode cX2_scoreTwice 35 = .ok (.iload_n 2, 1) := by decide +kernel
theorem dX2_scoreTwice_36 : decode cX2_scoreTwice 36 = .ok (.aload_n 1, 1) := by decide +kernel
theorem dX2_scoreTwice_37 : decode cX2_scoreTwice 37 = .ok (.getfield 161, 3) := by decide +kernel
theorem dX2_scoreTwice_40 : decode cX2_scoreTwice 40 = .ok (.aload_n 1, 1) := by decide +kernel
theorem dX2_scoreTwice_41 : decode cX2_scoreTwice 41 = .ok (.getfield 164, 3) := by decide +kernel
theorem dX2_scoreTwice_44 : decode cX2_scoreTwice 44 = .ok (.aload_n 1, 1) := by decide +kernel
theorem dX2_scoreTwice_45 : decode cX2_scoreTwice 45 = .ok (.getfield 156, 3) := by decide +kernel
theorem dX2_scoreTwice_48 : decode cX2_scoreTwice 48 = .ok (.iadd, 1) := by decide +kernel
theorem dX2_scoreTwice_49 : decode cX2_scoreTwice 49 = .ok (.invokevirtual 167, 3) := by decide +kernel
theorem dX2_scoreTwice_52 : decode cX2_scoreTwice 52 = .ok (.lload_n 3, 1) := by decide +kernel
theorem dX2_scoreTwice_53 : decode cX2_scoreTwice 53 = .ok (.aload_n 0, 1) := by decide +kernel
theorem dX2_scoreTwice_54 : decode cX2_scoreTwice 54 = .ok (.invokevirtual 171, 3) := by decide +kernel
theorem dX2_scoreTwice_57 : decode cX2_scoreTwice 57 = .ok (.invokestatic 115, 3) := by decide +kernel
theorem dX2_scoreTwice_60 : decode cX2_scoreTwice 60 = .ok (.lreturn, 1) := by decide +kernel
theorem dX2_see_0 : decode cX2_see 0 = .ok (.aload_n 1, 1) := by decide +kernel
theorem dX2_see_1 : decode cX2_see 1 = .ok (.iload_n 2, 1) := by decide +kernel
theorem dX2_see_2 : decode cX2_see 2 = .ok (.invokevirtual 21, 3) := by decide +kernel
theorem dX2_see_5 : decode cX2_see 5 = .ok (.astore 4, 2) := by decide +kernel
theorem dX2_see_7 : decode cX2_see 7 = .ok (.aload 4, 2) := by decide +kernel
theorem dX2_see_9 : decode cX2_see 9 = .ok (.ifnonnull 15, 3) := by decide +kernel
theorem dX2_see_12 : decode cX2_see 12 = .ok (.aload_n 0, 1) := by decide +kernel
theorem dX2_see_13 : decode cX2_see 13 = .ok (.getfield 9, 3) := by decide +kernel
theorem dX2_see_16 : decode cX2_see 16 = .ok (.ldc 27, 2) := by decide +kernel
theorem dX2_see_18 : decode cX2_see 18 = .ok (.invokestatic 28, 3) := by decide +kernel
theorem dX2_see_21 : decode cX2_see 21 = .ok (.goto 98, 3) := by decide +kernel
theorem dX2_see_24 : decode cX2_see 24 = .ok (.iload_n 3, 1) := by decide +kernel
theorem dX2_see_25 : decode cX2_see 25 = .ok (.iconst 1, 1) := by decide +kernel
theorem dX2_see_26 : decode cX2_see 26 = .ok (.if_icmp .ne 15, 3) := by decide +kernel
theorem dX2_see_29 : decode cX2_see 29 = .ok (.aload_n 0, 1) := by decide +kernel
theorem dX2_see_30 : decode cX2_see 30 = .ok (.aload 4, 2) := by decide +kernel
theorem dX2_see_32 : decode cX2_see 32 = .ok (.getfield 34, 3) := by decide +kernel
theorem dX2_see_35 : decode cX2_see 35 = .ok (.invokevirtual 39, 3) := by decide +kernel
theorem dX2_see_38 : decode cX2_see 38 = .ok (.goto 81, 3) := by decide +kernel
theorem dX2_see_41 : decode cX2_see 41 = .ok (.iload_n 3, 1) := by decide +kernel
theorem dX2_see_42 : decode cX2_see 42 = .ok (.iconst 2, 1) := by decide +kernel
theorem dX2_see_43 : decode cX2_see 43 = .ok (.if_icmp .ne 17, 3) := by decide +kernel
theorem dX2_see_46 : decode cX2_see 46 = .ok (.aload_n 0, 1) := by decide +kernel
theorem dX2_see_47 : decode cX2_see 47 = .ok (.aload 4, 2) := by decide +kernel
theorem dX2_see_49 : decode cX2_see 49 = .ok (.getfield 34, 3) := by decide +kernel
theorem dX2_see_52 : decode cX2_see 52 = .ok (.bipush 23, 2) := by decide +kernel
theorem dX2_see_54 : decode cX2_see 54 = .ok (.invokevirtual 43, 3) := by decide +kernel
theorem dX2_see_57 : decode cX2_see 57 = .ok (.goto 62, 3) := by decide +kernel
theorem dX2_see_60 : decode cX2_see 60 = .ok (.iload_n 3, 1) := by decide +kernel
theorem dX2_see_61 : decode cX2_see 61 = .ok (.iconst 3, 1) := by decide +kernel
theorem dX2_see_62 : decode cX2_see 62 = .ok (.if_icmp .ne 19, 3) := by decide +kernel
theorem dX2_see_65 : decode cX2_see 65 = .ok (.aload_n 0, 1) := by decide +kernel
theorem dX2_see_66 : decode cX2_see 66 = .ok (.aload 4, 2) := by decide +kernel
theorem dX2_see_68 : decode cX2_see 68 = .ok (.getfield 34, 3) := by decide +kernel
theorem dX2_see_71 : decode cX2_see 71 = .ok (.aload_n 1, 1) := by decide +kernel
theorem dX2_see_72 : decode cX2_see 72 = .ok (.getfield 46, 3) := by decide +kernel
theorem dX2_see_75 : decode cX2_see 75 = .ok (.invokevirtual 50, 3) := by decide +kernel
theorem dX2_see_78 : decode cX2_see 78 = .ok (.goto 41, 3) := by decide +kernel
theorem dX2_see_81 : decode cX2_see 81 = .ok (.iload_n 3, 1) := by decide +kernel
theorem dX2_see_82 : decode cX2_see 82 = .ok (.iconst 5, 1) := by decide +kernel
theorem dX2_see_83 : decode cX2_see 83 = .ok (.if_icmp .ne 19, 3) := by decide +kernel
theorem dX2_see_86 : decode cX2_see 86 = .ok (.aload_n 0, 1) := by decide +kernel
theorem dX2_see_87 : decode cX2_see 87 = .ok (.aload 4, 2) := by decide +kernel
theorem dX2_see_89 : decode cX2_see 89 = .ok (.getfield 34, 3) := by decide +kernel
theorem dX2_see_92 : decode cX2_see 92 = .ok (.aload_n 1, 1) := by decide +kernel
theorem dX2_see_93 : decode cX2_see 93 = .ok (.getfield 53, 3) := by decide +kernel
theorem dX2_see_96 : decode cX2_see 96 = .ok (.invokevirtual 43, 3) := by decide +kernel
theorem dX2_see_99 : decode cX2_see 99 = .ok (.goto 20, 3) := by decide +kernel
theorem dX2_see_102 : decode cX2_see 102 = .ok (.aload 4, 2) := by decide +kernel
theorem dX2_see_104 : decode cX2_see 104 = .ok (.getfield 34, 3) := by decide +kernel
theorem dX2_see_107 : decode cX2_see 107 = .ok (.iconst 0, 1) := by decide +kernel
theorem dX2_see_108 : decode cX2_see 108 = .ok (.aload_n 0, 1) := by decide +kernel
theorem dX2_see_109 : decode cX2_see 109 = .ok (.getfield 9, 3) := by decide +kernel
theorem dX2_see_112 : decode cX2_see 112 = .ok (.iconst 0, 1) := by decide +kernel
theorem dX2_see_113 : decode cX2_see 113 = .ok (.sipush 600, 3) := by decide +kernel
theorem dX2_see_116 : decode cX2_see 116 = .ok (.invokestatic 56, 3) := by decide +kernel
theorem dX2_see_119 : decode cX2_see 119 = .ok (.aload 4, 2) := by decide +kernel
theorem dX2_see_121 : decode cX2_see 121 = .ok (.ifnull 18, 3) := by decide +kernel
theorem dX2_see_124 : decode cX2_see 124 = .ok (.iload_n 3, 1) := by decide +kernel
theorem dX2_see_125 : decode cX2_see 125 = .ok (.iconst 4, 1) := by decide +kernel
theorem dX2_see_126 : decode cX2_see 126 = .ok (.if_icmp .ne 13, 3) := by decide +kernel
theorem dX2_see_129 : decode cX2_see 129 = .ok (.aload_n 0, 1) := by decide +kernel
theorem dX2_see_130 : decode cX2_see 130 = .ok (.aload_n 1, 1) := by decide +kernel
theorem dX2_see_131 : decode cX2_see 131 = .ok (.aload 4, 2) := by decide +kernel
theorem dX2_see_133 : decode cX2_see 133 = .ok (.getfield 62, 3) := by decide +kernel
theorem dX2_see_136 : decode cX2_see 136 = .ok (.invokevirtual 65, 3) := by decide +kernel
theorem dX2_see_139 : decode cX2_see 139 = .ok (.aload_n 0, 1) := by decide +kernel
theorem dX2_see_140 : decode cX2_see 140 = .ok (.invokevirtual 69, 3) := by decide +kernel
theorem dX2_see_143 : decode cX2_see 143 = .ok (.return_, 1) := by decide +kernel
theorem dX2_shiftOf_0 : decode cX2_shiftOf 0 = .ok (.bipush (-100), 2) := by decide +kernel
theorem dX2_shiftOf_2 : decode cX2_shiftOf 2 = .ok (.istore_n 3, 1) := by decide +kernel
theorem dX2_shiftOf_3 : decode cX2_shiftOf 3 = .ok (.lconst 0, 1) := by decide +kernel
theorem dX2_shiftOf_4 : decode cX2_shiftOf 4 = .ok (.lstore 4, 2) := by decide +kernel
theorem dX2_shiftOf_6 : decode cX2_shiftOf 6 = .ok (.lconst 0, 1) := by decide +kernel
theorem dX2_shiftOf_7 : decode cX2_shiftOf 7 = .ok (.lstore 6, 2) := by decide +kernel
theorem dX2_shiftOf_9 : decode cX2_shiftOf 9 = .ok (.iconst 0, 1) := by decide +kernel
theorem dX2_shiftOf_10 : decode cX2_shiftOf 10 = .ok (.istore 8, 2) := by decide +kernel
theorem dX2_shiftOf_12 : decode cX2_shiftOf 12 = .ok (.iload 8, 2) := by decide +kernel
theorem dX2_shiftOf_14 : decode cX2_shiftOf 14 = .ok (.getstatic 150, 3) := by decide +kernel
theorem dX2_shiftOf_17 : decode cX2_shiftOf 17 = .ok (.arraylength, 1) := by decide +kernel
theorem dX2_shiftOf_18 : decode cX2_shiftOf 18 = .ok (.if_icmp .ge 144, 3) := by decide +kernel
theorem dX2_shiftOf_21 : decode cX2_shiftOf 21 = .ok (.lconst 0, 1) := by decide +kernel
theorem dX2_shiftOf_22 : decode cX2_shiftOf 22 = .ok (.lstore 9, 2) := by decide +kernel
theorem dX2_shiftOf_24 : decode cX2_shiftOf 24 = .ok (.lconst 0, 1) := by decide +kernel
theorem dX2_shiftOf_25 : decode cX2_shiftOf 25 = .ok (.lstore 11, 2) := by decide +kernel
theorem dX2_shiftOf_27 : decode cX2_shiftOf 27 = .ok (.iload_n 1, 1) := by decide +kernel
theorem dX2_shiftOf_28 : decode cX2_shiftOf 28 = .ok (.getstatic 150, 3) := by decide +kernel
theorem dX2_shiftOf_31 : decode cX2_shiftOf 31 = .ok (.iload 8, 2) := by decide +kernel
theorem dX2_shiftOf_33 : decode cX2_shiftOf 33 = .ok (.iaload, 1) := by decide +kernel
theorem dX2_shiftOf_34 : decode cX2_shiftOf 34 = .ok (.iadd, 1) := by decide +kernel
theorem dX2_shiftOf_35 : decode cX2_shiftOf 35 = .ok (.istore 13, 2) := by decide +kernel
theorem dX2_shiftOf_37 : decode cX2_shiftOf 37 = .ok (.iload 13, 2) := by decide +kernel
theorem dX2_shiftOf_39 : decode cX2_shiftOf 39 = .ok (.iload_n 2, 1) := by decide +kernel
theorem dX2_shiftOf_40 : decode cX2_shiftOf 40 = .ok (.iadd, 1) := by decide +kernel
theorem dX2_shiftOf_41 : decode cX2_shiftOf 41 = .ok (.sipush 600, 3) := by decide +kernel
theorem dX2_shiftOf_44 : decode cX2_shiftOf 44 = .ok (.invokestatic 153, 3) := by decide +kernel
theorem dX2_shiftOf_47 : decode cX2_shiftOf 47 = .ok (.istore 14, 2) := by decide +kernel
theorem dX2_shiftOf_49 : decode cX2_shiftOf 49 = .ok (.iload 13, 2) := by decide +kernel
theorem dX2_shiftOf_51 : decode cX2_shiftOf 51 = .ok (.iconst 0, 1) := by decide +kernel
theorem dX2_shiftOf_52 : decode cX2_shiftOf 52 = .ok (.invokestatic 130, 3) := by decide +kernel
theorem dX2_shiftOf_55 : decode cX2_shiftOf 55 = .ok (.istore 15, 2) := by decide +kernel
theorem dX2_shiftOf_57 : decode cX2_shiftOf 57 = .ok (.iload 15, 2) := by decide +kernel
theorem dX2_shiftOf_59 : decode cX2_shiftOf 59 = .ok (.iload 14, 2) := by decide +kernel
theorem dX2_shiftOf_61 : decode cX2_shiftOf 61 = .ok (.if_icmp .ge 40, 3) := by decide +kernel
theorem dX2_shiftOf_64 : decode cX2_shiftOf 64 = .ok (.aload_n 0, 1) := by decide +kernel
theorem dX2_shiftOf_65 : decode cX2_shiftOf 65 = .ok (.getfield 9, 3) := by decide +kernel
theorem dX2_shiftOf_68 : decode cX2_shiftOf 68 = .ok (.iload 15, 2) := by decide +kernel
theorem dX2_shiftOf_70 : decode cX2_shiftOf 70 = .ok (.iaload, 1) := by decide +kernel
theorem dX2_shiftOf_71 : decode cX2_shiftOf 71 = .ok (.ldc 27, 2) := by decide +kernel
theorem dX2_shiftOf_73 : decode cX2_shiftOf 73 = .ok (.if_icmp .eq 22, 3) := by decide +kernel
theorem dX2_shiftOf_76 : decode cX2_shiftOf 76 = .ok (.lload 9, 2) := by decide +kernel
theorem dX2_shiftOf_78 : decode cX2_shiftOf 78 = .ok (.aload_n 0, 1) := by decide +kernel
theorem dX2_shiftOf_79 : decode cX2_shiftOf 79 = .ok (.getfield 9, 3) := by decide +kernel
theorem dX2_shiftOf_82 : decode cX2_shiftOf 82 = .ok (.iload 15, 2) := by decide +kernel
theorem dX2_shiftOf_84 : decode cX2_shiftOf 84 = .ok (.iaload, 1) := by decide +kernel
theorem dX2_shiftOf_85 : decode cX2_shiftOf 85 = .ok (.i2l, 1) := by decide +kernel
theorem dX2_shiftOf_86 : decode cX2_shiftOf 86 = .ok (.ladd, 1) := by decide +kernel
theorem dX2_shiftOf_87 : decode cX2_shiftOf 87 = .ok (.lstore 9, 2) := by decide +kernel
theorem dX2_shiftOf_89 : decode cX2_shiftOf 89 = .ok (.lload 11, 2) := by decide +kernel
theorem dX2_shiftOf_91 : decode cX2_shiftOf 91 = .ok (.lconst 1, 1) := by decide +kernel
theorem dX2_shiftOf_92 : decode cX2_shiftOf 92 = .ok (.ladd, 1) := by decide +kernel
theorem dX2_shiftOf_93 : decode cX2_shiftOf 93 = .ok (.lstore 11, 2) := by decide +kernel
theorem dX2_shiftOf_95 : decode cX2_shiftOf 95 = .ok (.iinc 15 1, 3) := by decide +kernel
theorem dX2_shiftOf_98 : decode cX2_shiftOf 98 = .ok (.goto (-41), 3) := by decide +kernel
theorem dX2_shiftOf_101 : decode cX2_shiftOf 101 = .ok (.lload 6, 2) := by decide +kernel
theorem dX2_shiftOf_103 : decode cX2_shiftOf 103 = .ok (.lconst 0, 1) := by decide +kernel
theorem dX2_shiftOf_104 : decode cX2_shiftOf 104 = .ok (.lcmp, 1) := by decide +kernel
theorem dX2_shiftOf_105 : decode cX2_shiftOf 105 = .ok (.ifCond .eq 17, 3) := by decide +kernel
theorem dX2_shiftOf_108 : decode cX2_shiftOf 108 = .ok (.lload 9, 2) := by decide +kernel
theorem dX2_shiftOf_110 : decode cX2_shiftOf 110 = .ok (.lload 6, 2) := by decide +kernel
theorem dX2_shiftOf_112 : decode cX2_shiftOf 112 = .ok (.lmul, 1) := by decide +kernel
theorem dX2_shiftOf_113 : decode cX2_shiftOf 113 = .ok (.lload 4, 2) := by decide +kernel
theorem dX2_shiftOf_115 : decode cX2_shiftOf 115 = .ok (.lload 11, 2) := by decide +kernel
theorem dX2_shiftOf_117 : decode cX2_shiftOf 117 = .ok (.lmul, 1) := by decide +kernel
theorem dX2_shiftOf_118 : decode cX2_shiftOf 118 = .ok (.lcmp, 1) := by decide +kernel
theorem dX2_shiftOf_119 : decode cX2_shiftOf 119 = .ok (.ifCond .ge 7, 3) := by decide +kernel
theorem dX2_shiftOf_122 : decode cX2_shiftOf 122 = .ok (.iconst 1, 1) := by decide +kernel
theorem dX2_shiftOf_123 : decode cX2_shiftOf 123 = .ok (.goto 4, 3) := by decide +kernel
theorem dX2_shiftOf_126 : decode cX2_shiftOf 126 = .ok (.iconst 0, 1) := by decide +kernel
theorem dX2_shiftOf_127 : decode cX2_shiftOf 127 = .ok (.istore 15, 2) := by decide +kernel
theorem dX2_shiftOf_129 : decode cX2_shiftOf 129 = .ok (.lload 11, 2) := by decide +kernel
theorem dX2_shiftOf_131 : decode cX2_shiftOf 131 = .ok (.lconst 0, 1) := by decide +kernel
theorem dX2_shiftOf_132 : decode cX2_shiftOf 132 = .ok (.lcmp, 1) := by decide +kernel
theorem dX2_shiftOf_133 : decode cX2_shiftOf 133 = .ok (.ifCond .le 23, 3) := by decide +kernel
theorem dX2_shiftOf_136 : decode cX2_shiftOf 136 = .ok (.iload 15, 2) := by decide +kernel
theorem dX2_shiftOf_138 : decode cX2_shiftOf 138 = .ok (.ifCond .eq 18, 3) := by decide +kernel
theorem dX2_shiftOf_141 : decode cX2_shiftOf 141 = .ok (.getstatic 150, 3) := by decide +kernel
theorem dX2_shiftOf_144 : decode cX2_shiftOf 144 = .ok (.iload 8, 2) := by decide +kernel
theorem dX2_shiftOf_146 : decode cX2_shiftOf 146 = .ok (.iaload, 1) := by decide +kernel
theorem dX2_shiftOf_147 : decode cX2_shiftOf 147 = .ok (.istore_n 3, 1) := by decide +kernel
theorem dX2_shiftOf_148 : decode cX2_shiftOf 148 = .ok (.lload 9, 2) := by decide +kernel
theorem dX2_shiftOf_150 : decode cX2_shiftOf 150 = .ok (.lstore 4, 2) := by decide +kernel
theorem dX2_shiftOf_152 : decode cX2_shiftOf 152 = .ok (.lload 11, 2) := by decide +kernel
theorem dX2_shiftOf_154 : decode cX2_shiftOf 154 = .ok (.lstore 6, 2) := by decide +kernel
theorem dX2_shiftOf_156 : decode cX2_shiftOf 156 = .ok (.iinc 8 1, 3) := by decide +kernel
theorem dX2_shiftOf_159 : decode cX2_shiftOf 159 = .ok (.goto (-147), 3) := by decide +kernel
theorem dX2_shiftOf_162 : decode cX2_shiftOf 162 = .ok (.iload_n 3, 1) := by decide +kernel
theorem dX2_shiftOf_163 : decode cX2_shiftOf 163 = .ok (.ireturn, 1) := by decide +kernel
theorem dX2_tally_0 : decode cX2_tally 0 = .ok (.aload_n 0, 1) := by decide +kernel
theorem dX2_tally_1 : decode cX2_tally 1 = .ok (.iconst 0, 1) := by decide +kernel
theorem dX2_tally_2 : decode cX2_tally 2 = .ok (.putfield 136, 3) := by decide +kernel
theorem dX2_tally_5 : decode cX2_tally 5 = .ok (.aload_n 0, 1) := by decide +kernel
theorem dX2_tally_6 : decode cX2_tally 6 = .ok (.lconst 0, 1) := by decide +kernel
theorem dX2_tally_7 : decode cX2_tally 7 = .ok (.putfield 139, 3) := by decide +kernel
theorem dX2_tally_10 : decode cX2_tally 10 = .ok (.iconst 0, 1) := by decide +kernel
theorem dX2_tally_11 : decode cX2_tally 11 = .ok (.istore 4, 2) := by decide +kernel
theorem dX2_tally_13 : decode cX2_tally 13 = .ok (.iload 4, 2) := by decide +kernel
theorem dX2_tally_15 : decode cX2_tally 15 = .ok (.aload_n 0, 1) := by decide +kernel
theorem dX2_tally_16 : decode cX2_tally 16 = .ok (.getfield 106, 3) := by decide +kernel
theorem dX2_tally_19 : decode cX2_tally 19 = .ok (.if_icmp .ge 61, 3) := by decide +kernel
theorem dX2_tally_22 : decode cX2_tally 22 = .ok (.aload_n 0, 1) := by decide +kernel
theorem dX2_tally_23 : decode cX2_tally 23 = .ok (.getfield 15, 3) := by decide +kernel
theorem dX2_tally_26 : decode cX2_tally 26 = .ok (.iload 4, 2) := by decide +kernel
theorem dX2_tally_28 : decode cX2_tally 28 = .ok (.iaload, 1) := by decide +kernel
theorem dX2_tally_29 : decode cX2_tally 29 = .ok (.istore 5, 2) := by decide +kernel
theorem dX2_tally_31 : decode cX2_tally 31 = .ok (.iload_n 1, 1) := by decide +kernel
theorem dX2_tally_32 : decode cX2_tally 32 = .ok (.ifCond .le 42, 3) := by decide +kernel
theorem dX2_tally_35 : decode cX2_tally 35 = .ok (.iload 5, 2) := by decide +kernel
theorem dX2_tally_37 : decode cX2_tally 37 = .ok (.iload_n 3, 1) := by decide +kernel
theorem dX2_tally_38 : decode cX2_tally 38 = .ok (.isub, 1) := by decide +kernel
theorem dX2_tally_39 : decode cX2_tally 39 = .ok (.iload_n 1, 1) := by decide +kernel
theorem dX2_tally_40 : decode cX2_tally 40 = .ok (.invokestatic 133, 3) := by decide +kernel
theorem dX2_tally_43 : decode cX2_tally 43 = .ok (.iload_n 2, 1) := by decide +kernel
theorem dX2_tally_44 : decode cX2_tally 44 = .ok (.if_icmp .ge 30, 3) := by decide +kernel
theorem dX2_tally_47 : decode cX2_tally 47 = .ok (.aload_n 0, 1) := by decide +kernel
theorem dX2_tally_48 : decode cX2_tally 48 = .ok (.dup, 1) := by decide +kernel
theorem dX2_tally_49 : decode cX2_tally 49 = .ok (.getfield 136, 3) := by decide +kernel
theorem dX2_tally_52 : decode cX2_tally 52 = .ok (.iconst 1, 1) := by decide +kernel
theorem dX2_tally_53 : decode cX2_tally 53 = .ok (.iadd, 1) := by decide +kernel
theorem dX2_tally_54 : decode cX2_tally 54 = .ok (.putfield 136, 3) := by decide +kernel
theorem dX2_tally_57 : decode cX2_tally 57 = .ok (.aload_n 0, 1) := by decide +kernel
theorem dX2_tally_58 : decode cX2_tally 58 = .ok (.dup, 1) := by decide +kernel
theorem dX2_tally_59 : decode cX2_tally 59 = .ok (.getfield 139, 3) := by decide +kernel
theorem dX2_tally_62 : decode cX2_tally 62 = .ok (.aload_n 0, 1) := by decide +kernel
theorem dX2_tally_63 : decode cX2_tally 63 = .ok (.getfield 9, 3) := by decide +kernel
theorem dX2_tally_66 : decode cX2_tally 66 = .ok (.iload 5, 2) := by decide +kernel
theorem dX2_tally_68 : decode cX2_tally 68 = .ok (.iaload, 1) := by decide +kernel
theorem dX2_tally_69 : decode cX2_tally 69 = .ok (.i2l, 1) := by decide +kernel
theorem dX2_tally_70 : decode cX2_tally 70 = .ok (.ladd, 1) := by decide +kernel
theorem dX2_tally_71 : decode cX2_tally 71 = .ok (.putfield 139, 3) := by decide +kernel
theorem dX2_tally_74 : decode cX2_tally 74 = .ok (.iinc 4 1, 3) := by decide +kernel
theorem dX2_tally_77 : decode cX2_tally 77 = .ok (.goto (-64), 3) := by decide +kernel
theorem dX2_tally_80 : decode cX2_tally 80 = .ok (.return_, 1) := by decide +kernel
theorem dX2_turnOver_0 : decode cX2_turnOver 0 = .ok (.iconst 0, 1) := by decide +kernel
theorem dX2_turnOver_1 : decode cX2_turnOver 1 = .ok (.istore_n 2, 1) := by decide +kernel
theorem dX2_turnOver_2 : decode cX2_turnOver 2 = .ok (.iload_n 2, 1) := by decide +kernel
theorem dX2_turnOver_3 : decode cX2_turnOver 3 = .ok (.sipush 600, 3) := by decide +kernel
theorem dX2_turnOver_6 : decode cX2_turnOver 6 = .ok (.if_icmp .ge 32, 3) := by decide +kernel
theorem dX2_turnOver_9 : decode cX2_turnOver 9 = .ok (.aload_n 0, 1) := by decide +kernel
theorem dX2_turnOver_10 : decode cX2_turnOver 10 = .ok (.getfield 9, 3) := by decide +kernel
theorem dX2_turnOver_13 : decode cX2_turnOver 13 = .ok (.iload_n 2, 1) := by decide +kernel
theorem dX2_turnOver_14 : decode cX2_turnOver 14 = .ok (.aload_n 1, 1) := by decide +kernel
theorem dX2_turnOver_15 : decode cX2_turnOver 15 = .ok (.iload_n 2, 1) := by decide +kernel
theorem dX2_turnOver_16 : decode cX2_turnOver 16 = .ok (.iaload, 1) := by decide +kernel
theorem dX2_turnOver_17 : decode cX2_turnOver 17 = .ok (.ldc 27, 2) := by decide +kernel
theorem dX2_turnOver_19 : decode cX2_turnOver 19 = .ok (.if_icmp .ne 8, 3) := by decide +kernel
theorem dX2_turnOver_22 : decode cX2_turnOver 22 = .ok (.ldc 27, 2) := by decide +kernel
theorem dX2_turnOver_24 : decode cX2_turnOver 24 = .ok (.goto 7, 3) := by decide +kernel
theorem dX2_turnOver_27 : decode cX2_turnOver 27 = .ok (.aload_n 1, 1) := by decide +kernel
theorem dX2_turnOver_28 : decode cX2_turnOver 28 = .ok (.iload_n 2, 1) := by decide +kernel
theorem dX2_turnOver_29 : decode cX2_turnOver 29 = .ok (.iaload, 1) := by decide +kernel
theorem dX2_turnOver_30 : decode cX2_turnOver 30 = .ok (.ineg, 1) := by decide +kernel
theorem dX2_turnOver_31 : decode cX2_turnOver 31 = .ok (.iastore, 1) := by decide +kernel
theorem dX2_turnOver_32 : decode cX2_turnOver 32 = .ok (.iinc 2 1, 3) := by decide +kernel
theorem dX2_turnOver_35 : decode cX2_turnOver 35 = .ok (.goto (-33), 3) := by decide +kernel
theorem dX2_turnOver_38 : decode cX2_turnOver 38 = .ok (.return_, 1) := by decide +kernel
theorem dX6_addBytes_0 : decode cX6_addBytes 0 = .ok (.bipush 24, 2) := by decide +kernel
theorem dX6_addBytes_2 : decode cX6_addBytes 2 = .ok (.istore_n 2, 1) := by decide +kernel
theorem dX6_addBytes_3 : decode cX6_addBytes 3 = .ok (.iload_n 2, 1) := by decide +kernel
theorem dX6_addBytes_4 : decode cX6_addBytes 4 = .ok (.ifCond .lt 42, 3) := by decide +kernel
theorem dX6_addBytes_7 : decode cX6_addBytes 7 = .ok (.aload_n 0, 1) := by decide +kernel
theorem dX6_addBytes_8 : decode cX6_addBytes 8 = .ok (.getfield 76, 3) := by decide +kernel
theorem dX6_addBytes_11 : decode cX6_addBytes 11 = .ok (.sipush 400, 3) := by decide +kernel
theorem dX6_addBytes_14 : decode cX6_addBytes 14 = .ok (.if_icmp .ge 32, 3) := by decide +kernel
theorem dX6_addBytes_17 : decode cX6_addBytes 17 = .ok (.aload_n 0, 1) := by decide +kernel
theorem dX6_addBytes_18 : decode cX6_addBytes 18 = .ok (.getfield 40, 3) := by decide +kernel
theorem dX6_addBytes_21 : decode cX6_addBytes 21 = .ok (.aload_n 0, 1) := by decide +kernel
theorem dX6_addBytes_22 : decode cX6_addBytes 22 = .ok (.getfield 76, 3) := by decide +kernel
theorem dX6_addBytes_25 : decode cX6_addBytes 25 = .ok (.iload_n 1, 1) := by decide +kernel
theorem dX6_addBytes_26 : decode cX6_addBytes 26 = .ok (.iload_n 2, 1) := by decide +kernel
theorem dX6_addBytes_27 : decode cX6_addBytes 27 = .ok (.iushr, 1) := by decide +kernel
theorem dX6_addBytes_28 : decode cX6_addBytes 28 = .ok (.i2b, 1) := by decide +kernel
theorem dX6_addBytes_29 : decode cX6_addBytes 29 = .ok (.bastore, 1) := by decide +kernel
theorem dX6_addBytes_30 : decode cX6_addBytes 30 = .ok (.aload_n 0, 1) := by decide +kernel
theorem dX6_addBytes_31 : decode cX6_addBytes 31 = .ok (.dup, 1) := by decide +kernel
theorem dX6_addBytes_32 : decode cX6_addBytes 32 = .ok (.getfield 76, 3) := by decide +kernel
theorem dX6_addBytes_35 : decode cX6_addBytes 35 = .ok (.iconst 1, 1) := by decide +kernel
theorem dX6_addBytes_36 : decode cX6_addBytes 36 = .ok (.iadd, 1) := by decide +kernel
theorem dX6_addBytes_37 : decode cX6_addBytes 37 = .ok (.putfield 76, 3) := by decide +kernel
theorem dX6_addBytes_40 : decode cX6_addBytes 40 = .ok (.iinc 2 (-8), 3) := by decide +kernel
theorem dX6_addBytes_43 : decode cX6_addBytes 43 = .ok (.goto (-40), 3) := by decide +kernel
theorem dX6_addBytes_46 : decode cX6_addBytes 46 = .ok (.return_, 1) := by decide +kernel
theorem dX6_addStar_0 : decode cX6_addStar 0 = .ok (.aload_n 0, 1) := by decide +kernel
theorem dX6_addStar_1 : decode cX6_addStar 1 = .ok (.getfield 44, 3) := by decide +kernel
theorem dX6_addStar_4 : decode cX6_addStar 4 = .ok (.bipush 12, 2) := by decide +kernel
theorem dX6_addStar_6 : decode cX6_addStar 6 = .ok (.if_icmp .lt 5, 3) := by decide +kernel
theorem dX6_addStar_9 : decode cX6_addStar 9 = .ok (.iconst (-1), 1) := by decide +kernel
theorem dX6_addStar_10 : decode cX6_addStar 10 = .ok (.ireturn, 1) := by decide +kernel
theorem dX6_addStar_11 : decode cX6_addStar 11 = .ok (.aload_n 0, 1) := by decide +kernel
theorem dX6_addStar_12 : decode cX6_addStar 12 = .ok (.aload_n 0, 1) := by decide +kernel
theorem dX6_addStar_13 : decode cX6_addStar 13 = .ok (.getfield 44, 3) := by decide +kernel
theorem dX6_addStar_16 : decode cX6_addStar 16 = .ok (.invokevirtual 68, 3) := by decide +kernel
theorem dX6_addStar_19 : decode cX6_addStar 19 = .ok (.astore 4, 2) := by decide +kernel
theorem dX6_addStar_21 : decode cX6_addStar 21 = .ok (.aload 4, 2) := by decide +kernel
theorem dX6_addStar_23 : decode cX6_addStar 23 = .ok (.iload_n 1, 1) := by decide +kernel
theorem dX6_addStar_24 : decode cX6_addStar 24 = .ok (.iload_n 2, 1) := by decide +kernel
theorem dX6_addStar_25 : decode cX6_addStar 25 = .ok (.iload_n 3, 1) := by decide +kernel
theorem dX6_addStar_26 : decode cX6_addStar 26 = .ok (.invokevirtual 71, 3) := by decide +kernel
theorem dX6_addStar_29 : decode cX6_addStar 29 = .ok (.aload_n 0, 1) := by decide +kernel
theorem dX6_addStar_30 : decode cX6_addStar 30 = .ok (.dup, 1) := by decide +kernel
theorem dX6_addStar_31 : decode cX6_addStar 31 = .ok (.getfield 44, 3) := by decide +kernel
theorem dX6_addStar_34 : decode cX6_addStar 34 = .ok (.iconst 1, 1) := by decide +kernel
theorem dX6_addStar_35 : decode cX6_addStar 35 = .ok (.iadd, 1) := by decide +kernel
theorem dX6_addStar_36 : decode cX6_addStar 36 = .ok (.putfield 44, 3) := by decide +kernel
theorem dX6_addStar_39 : decode cX6_addStar 39 = .ok (.aload_n 0, 1) := by decide +kernel
theorem dX6_addStar_40 : decode cX6_addStar 40 = .ok (.getfield 44, 3) := by decide +kernel
theorem dX6_addStar_43 : decode cX6_addStar 43 = .ok (.iconst 1, 1) := by decide +kernel
theorem dX6_addStar_44 : decode cX6_addStar 44 = .ok (.isub, 1) := by decide +kernel
theorem dX6_addStar_45 : decode cX6_addStar 45 = .ok (.ireturn, 1) := by decide +kernel
theorem dX6_become_0 : decode cX6_become 0 = .ok (.iconst 0, 1) := by decide +kernel
theorem dX6_become_1 : decode cX6_become 1 = .ok (.istore_n 2, 1) := by decide +kernel
theorem dX6_become_2 : decode cX6_become 2 = .ok (.iload_n 2, 1) := by decide +kernel
theorem dX6_become_3 : decode cX6_become 3 = .ok (.aload_n 1, 1) := by decide +kernel
theorem dX6_become_4 : decode cX6_become 4 = .ok (.getfield 44, 3) := by decide +kernel
theorem dX6_become_7 : decode cX6_become 7 = .ok (.if_icmp .ge 34, 3) := by decide +kernel
theorem dX6_become_10 : decode cX6_become 10 = .ok (.iload_n 2, 1) := by decide +kernel
theorem dX6_become_11 : decode cX6_become 11 = .ok (.bipush 12, 2) := by decide +kernel
theorem dX6_become_13 : decode cX6_become 13 = .ok (.if_icmp .ge 28, 3) := by decide +kernel
theorem dX6_become_16 : decode cX6_become 16 = .ok (.aload_n 1, 1) := by decide +kernel
theorem dX6_become_17 : decode cX6_become 17 = .ok (.iload_n 2, 1) := by decide +kernel
theorem dX6_become_18 : decode cX6_become 18 = .ok (.invokevirtual 58, 3) := by decide +kernel
theorem dX6_become_21 : decode cX6_become 21 = .ok (.astore_n 3, 1) := by decide +kernel
theorem dX6_become_22 : decode cX6_become 22 = .ok (.aload_n 3, 1) := by decide +kernel
theorem dX6_become_23 : decode cX6_become 23 = .ok (.ifnull 12, 3) := by decide +kernel
theorem dX6_become_26 : decode cX6_become 26 = .ok (.aload_n 0, 1) := by decide +kernel
theorem dX6_become_27 : decode cX6_become 27 = .ok (.iload_n 2, 1) := by decide +kernel
theorem dX6_become_28 : decode cX6_become 28 = .ok (.invokevirtual 68, 3) := by decide +kernel
theorem dX6_become_31 : decode cX6_become 31 = .ok (.aload_n 3, 1) := by decide +kernel
theorem dX6_become_32 : decode cX6_become 32 = .ok (.invokevirtual 99, 3) := by decide +kernel
theorem dX6_become_35 : decode cX6_become 35 = .ok (.iinc 2 1, 3) := by decide +kernel
theorem dX6_become_38 : decode cX6_become 38 = .ok (.goto (-36), 3) := by decide +kernel
theorem dX6_become_41 : decode cX6_become 41 = .ok (.iconst 0, 1) := by decide +kernel
theorem dX6_become_42 : decode cX6_become 42 = .ok (.istore_n 2, 1) := by decide +kernel
theorem dX6_become_43 : decode cX6_become 43 = .ok (.iload_n 2, 1) := by decide +kernel
theorem dX6_become_44 : decode cX6_become 44 = .ok (.aload_n 1, 1) := by decide +kernel
theorem dX6_become_45 : decode cX6_become 45 = .ok (.getfield 47, 3) := by decide +kernel
theorem dX6_become_48 : decode cX6_become 48 = .ok (.if_icmp .ge 27, 3) := by decide +kernel
theorem dX6_become_51 : decode cX6_become 51 = .ok (.iload_n 2, 1) := by decide +kernel
theorem dX6_become_52 : decode cX6_become 52 = .ok (.bipush 40, 2) := by decide +kernel
theorem dX6_become_54 : decode cX6_become 54 = .ok (.if_icmp .ge 21, 3) := by decide +kernel
theorem dX6_become_57 : decode cX6_become 57 = .ok (.aload_n 0, 1) := by decide +kernel
theorem dX6_become_58 : decode cX6_become 58 = .ok (.getfield 19, 3) := by decide +kernel
