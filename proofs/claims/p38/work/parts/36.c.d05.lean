theorem dX10_truly_55 : decode cX10_truly 55 = .ok (.aload_n 0, 1) := by decide +kernel
theorem dX10_truly_56 : decode cX10_truly 56 = .ok (.iload_n 1, 1) := by decide +kernel
theorem dX10_truly_57 : decode cX10_truly 57 = .ok (.iconst 0, 1) := by decide +kernel
theorem dX10_truly_58 : decode cX10_truly 58 = .ok (.invokevirtual 319, 3) := by decide +kernel
theorem dX10_truly_61 : decode cX10_truly 61 = .ok (.lconst 0, 1) := by decide +kernel
theorem dX10_truly_62 : decode cX10_truly 62 = .ok (.lstore 8, 2) := by decide +kernel
theorem dX10_truly_64 : decode cX10_truly 64 = .ok (.iconst 0, 1) := by decide +kernel
theorem dX10_truly_65 : decode cX10_truly 65 = .ok (.istore 10, 2) := by decide +kernel
theorem dX10_truly_67 : decode cX10_truly 67 = .ok (.iload 10, 2) := by decide +kernel
theorem dX10_truly_69 : decode cX10_truly 69 = .ok (.aload_n 0, 1) := by decide +kernel
theorem dX10_truly_70 : decode cX10_truly 70 = .ok (.getfield 10, 3) := by decide +kernel
theorem dX10_truly_73 : decode cX10_truly 73 = .ok (.getfield 352, 3) := by decide +kernel
theorem dX10_truly_76 : decode cX10_truly 76 = .ok (.if_icmp .ge 55, 3) := by decide +kernel
theorem dX10_truly_79 : decode cX10_truly 79 = .ok (.aload_n 0, 1) := by decide +kernel
theorem dX10_truly_80 : decode cX10_truly 80 = .ok (.getfield 10, 3) := by decide +kernel
theorem dX10_truly_83 : decode cX10_truly 83 = .ok (.iload 10, 2) := by decide +kernel
theorem dX10_truly_85 : decode cX10_truly 85 = .ok (.invokevirtual 355, 3) := by decide +kernel
theorem dX10_truly_88 : decode cX10_truly 88 = .ok (.lload 4, 2) := by decide +kernel
theorem dX10_truly_90 : decode cX10_truly 90 = .ok (.lmul, 1) := by decide +kernel
theorem dX10_truly_91 : decode cX10_truly 91 = .ok (.lstore 11, 2) := by decide +kernel
theorem dX10_truly_93 : decode cX10_truly 93 = .ok (.lload 11, 2) := by decide +kernel
theorem dX10_truly_95 : decode cX10_truly 95 = .ok (.lconst 0, 1) := by decide +kernel
theorem dX10_truly_96 : decode cX10_truly 96 = .ok (.lcmp, 1) := by decide +kernel
theorem dX10_truly_97 : decode cX10_truly 97 = .ok (.ifCond .le 28, 3) := by decide +kernel
theorem dX10_truly_100 : decode cX10_truly 100 = .ok (.aload_n 0, 1) := by decide +kernel
theorem dX10_truly_101 : decode cX10_truly 101 = .ok (.iload_n 1, 1) := by decide +kernel
theorem dX10_truly_102 : decode cX10_truly 102 = .ok (.iload_n 2, 1) := by decide +kernel
theorem dX10_truly_103 : decode cX10_truly 103 = .ok (.iload 10, 2) := by decide +kernel
theorem dX10_truly_105 : decode cX10_truly 105 = .ok (.invokevirtual 359, 3) := by decide +kernel
theorem dX10_truly_108 : decode cX10_truly 108 = .ok (.ifCond .eq 17, 3) := by decide +kernel
theorem dX10_truly_111 : decode cX10_truly 111 = .ok (.lload 8, 2) := by decide +kernel
theorem dX10_truly_113 : decode cX10_truly 113 = .ok (.ldc2_w 362, 3) := by decide +kernel
theorem dX10_truly_116 : decode cX10_truly 116 = .ok (.lload 6, 2) := by decide +kernel
theorem dX10_truly_118 : decode cX10_truly 118 = .ok (.lmul, 1) := by decide +kernel
theorem dX10_truly_119 : decode cX10_truly 119 = .ok (.lload 11, 2) := by decide +kernel
theorem dX10_truly_121 : decode cX10_truly 121 = .ok (.ldiv, 1) := by decide +kernel
theorem dX10_truly_122 : decode cX10_truly 122 = .ok (.ladd, 1) := by decide +kernel
theorem dX10_truly_123 : decode cX10_truly 123 = .ok (.lstore 8, 2) := by decide +kernel
theorem dX10_truly_125 : decode cX10_truly 125 = .ok (.iinc 10 1, 3) := by decide +kernel
theorem dX10_truly_128 : decode cX10_truly 128 = .ok (.goto (-61), 3) := by decide +kernel
theorem dX10_truly_131 : decode cX10_truly 131 = .ok (.lload 8, 2) := by decide +kernel
theorem dX10_truly_133 : decode cX10_truly 133 = .ok (.lreturn, 1) := by decide +kernel
theorem dX10_weighAll_0 : decode cX10_weighAll 0 = .ok (.aload_n 0, 1) := by decide +kernel
theorem dX10_weighAll_1 : decode cX10_weighAll 1 = .ok (.iload_n 1, 1) := by decide +kernel
theorem dX10_weighAll_2 : decode cX10_weighAll 2 = .ok (.invokevirtual 349, 3) := by decide +kernel
theorem dX10_weighAll_5 : decode cX10_weighAll 5 = .ok (.astore 4, 2) := by decide +kernel
theorem dX10_weighAll_7 : decode cX10_weighAll 7 = .ok (.aload 4, 2) := by decide +kernel
theorem dX10_weighAll_9 : decode cX10_weighAll 9 = .ok (.ifnonnull 4, 3) := by decide +kernel
theorem dX10_weighAll_12 : decode cX10_weighAll 12 = .ok (.return_, 1) := by decide +kernel
theorem dX10_weighAll_13 : decode cX10_weighAll 13 = .ok (.aload_n 0, 1) := by decide +kernel
theorem dX10_weighAll_14 : decode cX10_weighAll 14 = .ok (.iload_n 2, 1) := by decide +kernel
theorem dX10_weighAll_15 : decode cX10_weighAll 15 = .ok (.iload_n 3, 1) := by decide +kernel
theorem dX10_weighAll_16 : decode cX10_weighAll 16 = .ok (.invokevirtual 467, 3) := by decide +kernel
theorem dX10_weighAll_19 : decode cX10_weighAll 19 = .ok (.iconst 0, 1) := by decide +kernel
theorem dX10_weighAll_20 : decode cX10_weighAll 20 = .ok (.istore 5, 2) := by decide +kernel
theorem dX10_weighAll_22 : decode cX10_weighAll 22 = .ok (.iload 5, 2) := by decide +kernel
theorem dX10_weighAll_24 : decode cX10_weighAll 24 = .ok (.iconst 5, 1) := by decide +kernel
theorem dX10_weighAll_25 : decode cX10_weighAll 25 = .ok (.if_icmp .ge 39, 3) := by decide +kernel
theorem dX10_weighAll_28 : decode cX10_weighAll 28 = .ok (.aload_n 0, 1) := by decide +kernel
theorem dX10_weighAll_29 : decode cX10_weighAll 29 = .ok (.getfield 92, 3) := by decide +kernel
theorem dX10_weighAll_32 : decode cX10_weighAll 32 = .ok (.iload 5, 2) := by decide +kernel
theorem dX10_weighAll_34 : decode cX10_weighAll 34 = .ok (.aload_n 0, 1) := by decide +kernel
theorem dX10_weighAll_35 : decode cX10_weighAll 35 = .ok (.getfield 42, 3) := by decide +kernel
theorem dX10_weighAll_38 : decode cX10_weighAll 38 = .ok (.aload 4, 2) := by decide +kernel
theorem dX10_weighAll_40 : decode cX10_weighAll 40 = .ok (.iload 5, 2) := by decide +kernel
theorem dX10_weighAll_42 : decode cX10_weighAll 42 = .ok (.aload_n 0, 1) := by decide +kernel
theorem dX10_weighAll_43 : decode cX10_weighAll 43 = .ok (.getfield 88, 3) := by decide +kernel
theorem dX10_weighAll_46 : decode cX10_weighAll 46 = .ok (.invokevirtual 470, 3) := by decide +kernel
theorem dX10_weighAll_49 : decode cX10_weighAll 49 = .ok (.lconst 0, 1) := by decide +kernel
theorem dX10_weighAll_50 : decode cX10_weighAll 50 = .ok (.ldc2_w 474, 3) := by decide +kernel
theorem dX10_weighAll_53 : decode cX10_weighAll 53 = .ok (.invokestatic 209, 3) := by decide +kernel
theorem dX10_weighAll_56 : decode cX10_weighAll 56 = .ok (.l2i, 1) := by decide +kernel
theorem dX10_weighAll_57 : decode cX10_weighAll 57 = .ok (.iastore, 1) := by decide +kernel
theorem dX10_weighAll_58 : decode cX10_weighAll 58 = .ok (.iinc 5 1, 3) := by decide +kernel
theorem dX10_weighAll_61 : decode cX10_weighAll 61 = .ok (.goto (-39), 3) := by decide +kernel
theorem dX10_weighAll_64 : decode cX10_weighAll 64 = .ok (.return_, 1) := by decide +kernel
theorem dX10_weight_0 : decode cX10_weight 0 = .ok (.iload 4, 2) := by decide +kernel
theorem dX10_weight_2 : decode cX10_weight 2 = .ok (.iconst 0, 1) := by decide +kernel
theorem dX10_weight_3 : decode cX10_weight 3 = .ok (.iconst 4, 1) := by decide +kernel
theorem dX10_weight_4 : decode cX10_weight 4 = .ok (.invokestatic 100, 3) := by decide +kernel
theorem dX10_weight_7 : decode cX10_weight 7 = .ok (.ifCond .eq 13, 3) := by decide +kernel
theorem dX10_weight_10 : decode cX10_weight 10 = .ok (.aload_n 0, 1) := by decide +kernel
theorem dX10_weight_11 : decode cX10_weight 11 = .ok (.iload_n 1, 1) := by decide +kernel
theorem dX10_weight_12 : decode cX10_weight 12 = .ok (.iload_n 2, 1) := by decide +kernel
theorem dX10_weight_13 : decode cX10_weight 13 = .ok (.iload_n 3, 1) := by decide +kernel
theorem dX10_weight_14 : decode cX10_weight 14 = .ok (.invokevirtual 343, 3) := by decide +kernel
theorem dX10_weight_17 : decode cX10_weight 17 = .ok (.ifCond .ne 5, 3) := by decide +kernel
theorem dX10_weight_20 : decode cX10_weight 20 = .ok (.iconst (-1), 1) := by decide +kernel
theorem dX10_weight_21 : decode cX10_weight 21 = .ok (.ireturn, 1) := by decide +kernel
theorem dX10_weight_22 : decode cX10_weight 22 = .ok (.aload_n 0, 1) := by decide +kernel
theorem dX10_weight_23 : decode cX10_weight 23 = .ok (.getfield 92, 3) := by decide +kernel
theorem dX10_weight_26 : decode cX10_weight 26 = .ok (.iload 4, 2) := by decide +kernel
theorem dX10_weight_28 : decode cX10_weight 28 = .ok (.iaload, 1) := by decide +kernel
theorem dX10_weight_29 : decode cX10_weight 29 = .ok (.ireturn, 1) := by decide +kernel
theorem dX10_wide_0 : decode cX10_wide 0 = .ok (.iload_n 1, 1) := by decide +kernel
theorem dX10_wide_1 : decode cX10_wide 1 = .ok (.iconst 0, 1) := by decide +kernel
theorem dX10_wide_2 : decode cX10_wide 2 = .ok (.bipush 50, 2) := by decide +kernel
theorem dX10_wide_4 : decode cX10_wide 4 = .ok (.invokestatic 100, 3) := by decide +kernel
theorem dX10_wide_7 : decode cX10_wide 7 = .ok (.ifCond .ne 5, 3) := by decide +kernel
theorem dX10_wide_10 : decode cX10_wide 10 = .ok (.iconst (-1), 1) := by decide +kernel
theorem dX10_wide_11 : decode cX10_wide 11 = .ok (.ireturn, 1) := by decide +kernel
theorem dX10_wide_12 : decode cX10_wide 12 = .ok (.aload_n 0, 1) := by decide +kernel
theorem dX10_wide_13 : decode cX10_wide 13 = .ok (.getfield 10, 3) := by decide +kernel
theorem dX10_wide_16 : decode cX10_wide 16 = .ok (.getfield 125, 3) := by decide +kernel
theorem dX10_wide_19 : decode cX10_wide 19 = .ok (.istore_n 2, 1) := by decide +kernel
theorem dX10_wide_20 : decode cX10_wide 20 = .ok (.aload_n 0, 1) := by decide +kernel
theorem dX10_wide_21 : decode cX10_wide 21 = .ok (.getfield 10, 3) := by decide +kernel
theorem dX10_wide_24 : decode cX10_wide 24 = .ok (.iload_n 1, 1) := by decide +kernel
theorem dX10_wide_25 : decode cX10_wide 25 = .ok (.putfield 125, 3) := by decide +kernel
theorem dX10_wide_28 : decode cX10_wide 28 = .ok (.aload_n 0, 1) := by decide +kernel
theorem dX10_wide_29 : decode cX10_wide 29 = .ok (.dup, 1) := by decide +kernel
theorem dX10_wide_30 : decode cX10_wide 30 = .ok (.getfield 84, 3) := by decide +kernel
theorem dX10_wide_33 : decode cX10_wide 33 = .ok (.iconst 1, 1) := by decide +kernel
theorem dX10_wide_34 : decode cX10_wide 34 = .ok (.iadd, 1) := by decide +kernel
theorem dX10_wide_35 : decode cX10_wide 35 = .ok (.putfield 84, 3) := by decide +kernel
theorem dX10_wide_38 : decode cX10_wide 38 = .ok (.iload_n 2, 1) := by decide +kernel
theorem dX10_wide_39 : decode cX10_wide 39 = .ok (.ireturn, 1) := by decide +kernel
theorem dX10_world_0 : decode cX10_world 0 = .ok (.iload_n 2, 1) := by decide +kernel
theorem dX10_world_1 : decode cX10_world 1 = .ok (.iconst 2, 1) := by decide +kernel
theorem dX10_world_2 : decode cX10_world 2 = .ok (.sipush 599, 3) := by decide +kernel
theorem dX10_world_5 : decode cX10_world 5 = .ok (.invokestatic 100, 3) := by decide +kernel
theorem dX10_world_8 : decode cX10_world 8 = .ok (.ifCond .eq 14, 3) := by decide +kernel
theorem dX10_world_11 : decode cX10_world 11 = .ok (.iload_n 3, 1) := by decide +kernel
theorem dX10_world_12 : decode cX10_world 12 = .ok (.invokestatic 113, 3) := by decide +kernel
theorem dX10_world_15 : decode cX10_world 15 = .ok (.ifCond .eq 7, 3) := by decide +kernel
theorem dX10_world_18 : decode cX10_world 18 = .ok (.iconst 1, 1) := by decide +kernel
theorem dX10_world_19 : decode cX10_world 19 = .ok (.goto 4, 3) := by decide +kernel
theorem dX10_world_22 : decode cX10_world 22 = .ok (.iconst 0, 1) := by decide +kernel
theorem dX10_world_23 : decode cX10_world 23 = .ok (.istore 7, 2) := by decide +kernel
theorem dX10_world_25 : decode cX10_world 25 = .ok (.iload 4, 2) := by decide +kernel
theorem dX10_world_27 : decode cX10_world 27 = .ok (.iconst 1, 1) := by decide +kernel
theorem dX10_world_28 : decode cX10_world 28 = .ok (.bipush 30, 2) := by decide +kernel
theorem dX10_world_30 : decode cX10_world 30 = .ok (.invokestatic 100, 3) := by decide +kernel
theorem dX10_world_33 : decode cX10_world 33 = .ok (.ifCond .eq 25, 3) := by decide +kernel
theorem dX10_world_36 : decode cX10_world 36 = .ok (.iload 4, 2) := by decide +kernel
theorem dX10_world_38 : decode cX10_world 38 = .ok (.iload_n 2, 1) := by decide +kernel
theorem dX10_world_39 : decode cX10_world 39 = .ok (.if_icmp .ge 19, 3) := by decide +kernel
theorem dX10_world_42 : decode cX10_world 42 = .ok (.iload 5, 2) := by decide +kernel
theorem dX10_world_44 : decode cX10_world 44 = .ok (.iconst 1, 1) := by decide +kernel
theorem dX10_world_45 : decode cX10_world 45 = .ok (.sipush 30000, 3) := by decide +kernel
theorem dX10_world_48 : decode cX10_world 48 = .ok (.invokestatic 100, 3) := by decide +kernel
theorem dX10_world_51 : decode cX10_world 51 = .ok (.ifCond .eq 7, 3) := by decide +kernel
theorem dX10_world_54 : decode cX10_world 54 = .ok (.iconst 1, 1) := by decide +kernel
theorem dX10_world_55 : decode cX10_world 55 = .ok (.goto 4, 3) := by decide +kernel
theorem dX10_world_58 : decode cX10_world 58 = .ok (.iconst 0, 1) := by decide +kernel
theorem dX10_world_59 : decode cX10_world 59 = .ok (.istore 8, 2) := by decide +kernel
theorem dX10_world_61 : decode cX10_world 61 = .ok (.aload_n 0, 1) := by decide +kernel
theorem dX10_world_62 : decode cX10_world 62 = .ok (.iload_n 1, 1) := by decide +kernel
theorem dX10_world_63 : decode cX10_world 63 = .ok (.invokevirtual 137, 3) := by decide +kernel
theorem dX10_world_66 : decode cX10_world 66 = .ok (.ifCond .eq 25, 3) := by decide +kernel
theorem dX10_world_69 : decode cX10_world 69 = .ok (.iload 7, 2) := by decide +kernel
theorem dX10_world_71 : decode cX10_world 71 = .ok (.ifCond .eq 20, 3) := by decide +kernel
theorem dX10_world_74 : decode cX10_world 74 = .ok (.iload 8, 2) := by decide +kernel
theorem dX10_world_76 : decode cX10_world 76 = .ok (.ifCond .eq 15, 3) := by decide +kernel
theorem dX10_world_79 : decode cX10_world 79 = .ok (.aload_n 0, 1) := by decide +kernel
theorem dX10_world_80 : decode cX10_world 80 = .ok (.getfield 10, 3) := by decide +kernel
theorem dX10_world_83 : decode cX10_world 83 = .ok (.getfield 150, 3) := by decide +kernel
theorem dX10_world_86 : decode cX10_world 86 = .ok (.bipush 40, 2) := by decide +kernel
theorem dX10_world_88 : decode cX10_world 88 = .ok (.if_icmp .lt 5, 3) := by decide +kernel
theorem dX10_world_91 : decode cX10_world 91 = .ok (.iconst (-1), 1) := by decide +kernel
theorem dX10_world_92 : decode cX10_world 92 = .ok (.ireturn, 1) := by decide +kernel
theorem dX10_world_93 : decode cX10_world 93 = .ok (.aload_n 0, 1) := by decide +kernel
theorem dX10_world_94 : decode cX10_world 94 = .ok (.getfield 10, 3) := by decide +kernel
theorem dX10_world_97 : decode cX10_world 97 = .ok (.getfield 153, 3) := by decide +kernel
theorem dX10_world_100 : decode cX10_world 100 = .ok (.aload_n 0, 1) := by decide +kernel
theorem dX10_world_101 : decode cX10_world 101 = .ok (.getfield 10, 3) := by decide +kernel
theorem dX10_world_104 : decode cX10_world 104 = .ok (.getfield 150, 3) := by decide +kernel
theorem dX10_world_107 : decode cX10_world 107 = .ok (.new 157, 3) := by decide +kernel
theorem dX10_world_110 : decode cX10_world 110 = .ok (.dup, 1) := by decide +kernel
theorem dX10_world_111 : decode cX10_world 111 = .ok (.iload_n 1, 1) := by decide +kernel
theorem dX10_world_112 : decode cX10_world 112 = .ok (.iload_n 2, 1) := by decide +kernel
theorem dX10_world_113 : decode cX10_world 113 = .ok (.iload_n 3, 1) := by decide +kernel
theorem dX10_world_114 : decode cX10_world 114 = .ok (.iload 4, 2) := by decide +kernel
theorem dX10_world_116 : decode cX10_world 116 = .ok (.iload 5, 2) := by decide +kernel
theorem dX10_world_118 : decode cX10_world 118 = .ok (.iload 6, 2) := by decide +kernel
theorem dX10_world_120 : decode cX10_world 120 = .ok (.invokespecial 159, 3) := by decide +kernel
theorem dX10_world_123 : decode cX10_world 123 = .ok (.aastore, 1) := by decide +kernel
theorem dX10_world_124 : decode cX10_world 124 = .ok (.aload_n 0, 1) := by decide +kernel
theorem dX10_world_125 : decode cX10_world 125 = .ok (.getfield 10, 3) := by decide +kernel
theorem dX10_world_128 : decode cX10_world 128 = .ok (.dup, 1) := by decide +kernel
theorem dX10_world_129 : decode cX10_world 129 = .ok (.getfield 150, 3) := by decide +kernel
theorem dX10_world_132 : decode cX10_world 132 = .ok (.iconst 1, 1) := by decide +kernel
theorem dX10_world_133 : decode cX10_world 133 = .ok (.iadd, 1) := by decide +kernel
theorem dX10_world_134 : decode cX10_world 134 = .ok (.putfield 150, 3) := by decide +kernel
theorem dX10_world_137 : decode cX10_world 137 = .ok (.aload_n 0, 1) := by decide +kernel
theorem dX10_world_138 : decode cX10_world 138 = .ok (.getfield 10, 3) := by decide +kernel
theorem dX10_world_141 : decode cX10_world 141 = .ok (.getfield 150, 3) := by decide +kernel
theorem dX10_world_144 : decode cX10_world 144 = .ok (.iconst 1, 1) := by decide +kernel
theorem dX10_world_145 : decode cX10_world 145 = .ok (.isub, 1) := by decide +kernel
theorem dX10_world_146 : decode cX10_world 146 = .ok (.ireturn, 1) := by decide +kernel
