theorem dX3_expect_0 : decode cX3_expect 0 = .ok (.aload_n 0, 1) := by decide +kernel
theorem dX3_expect_1 : decode cX3_expect 1 = .ok (.getfield 68, 3) := by decide +kernel
theorem dX3_expect_4 : decode cX3_expect 4 = .ok (.iload_n 1, 1) := by decide +kernel
theorem dX3_expect_5 : decode cX3_expect 5 = .ok (.if_icmp .ne 10, 3) := by decide +kernel
theorem dX3_expect_8 : decode cX3_expect 8 = .ok (.aload_n 0, 1) := by decide +kernel
theorem dX3_expect_9 : decode cX3_expect 9 = .ok (.invokevirtual 61, 3) := by decide +kernel
theorem dX3_expect_12 : decode cX3_expect 12 = .ok (.goto 8, 3) := by decide +kernel
theorem dX3_expect_15 : decode cX3_expect 15 = .ok (.aload_n 0, 1) := by decide +kernel
theorem dX3_expect_16 : decode cX3_expect 16 = .ok (.iconst 0, 1) := by decide +kernel
theorem dX3_expect_17 : decode cX3_expect 17 = .ok (.invokevirtual 78, 3) := by decide +kernel
theorem dX3_expect_20 : decode cX3_expect 20 = .ok (.return_, 1) := by decide +kernel
theorem dX3_handOver_0 : decode cX3_handOver 0 = .ok (.aload_n 0, 1) := by decide +kernel
theorem dX3_handOver_1 : decode cX3_handOver 1 = .ok (.iconst 1, 1) := by decide +kernel
theorem dX3_handOver_2 : decode cX3_handOver 2 = .ok (.putfield 54, 3) := by decide +kernel
theorem dX3_handOver_5 : decode cX3_handOver 5 = .ok (.aload_n 0, 1) := by decide +kernel
theorem dX3_handOver_6 : decode cX3_handOver 6 = .ok (.getfield 24, 3) := by decide +kernel
theorem dX3_handOver_9 : decode cX3_handOver 9 = .ok (.areturn, 1) := by decide +kernel
theorem dX3_read_0 : decode cX3_read 0 = .ok (.aload_n 0, 1) := by decide +kernel
theorem dX3_read_1 : decode cX3_read 1 = .ok (.aload_n 1, 1) := by decide +kernel
theorem dX3_read_2 : decode cX3_read 2 = .ok (.putfield 9, 3) := by decide +kernel
theorem dX3_read_5 : decode cX3_read 5 = .ok (.aload_n 0, 1) := by decide +kernel
theorem dX3_read_6 : decode cX3_read 6 = .ok (.iload_n 2, 1) := by decide +kernel
theorem dX3_read_7 : decode cX3_read 7 = .ok (.aload_n 1, 1) := by decide +kernel
theorem dX3_read_8 : decode cX3_read 8 = .ok (.arraylength, 1) := by decide +kernel
theorem dX3_read_9 : decode cX3_read 9 = .ok (.invokestatic 28, 3) := by decide +kernel
theorem dX3_read_12 : decode cX3_read 12 = .ok (.putfield 34, 3) := by decide +kernel
theorem dX3_read_15 : decode cX3_read 15 = .ok (.aload_n 0, 1) := by decide +kernel
theorem dX3_read_16 : decode cX3_read 16 = .ok (.iconst 0, 1) := by decide +kernel
theorem dX3_read_17 : decode cX3_read 17 = .ok (.putfield 38, 3) := by decide +kernel
theorem dX3_read_20 : decode cX3_read 20 = .ok (.aload_n 0, 1) := by decide +kernel
theorem dX3_read_21 : decode cX3_read 21 = .ok (.iconst 0, 1) := by decide +kernel
theorem dX3_read_22 : decode cX3_read 22 = .ok (.putfield 41, 3) := by decide +kernel
theorem dX3_read_25 : decode cX3_read 25 = .ok (.aload_n 0, 1) := by decide +kernel
theorem dX3_read_26 : decode cX3_read 26 = .ok (.iconst 0, 1) := by decide +kernel
theorem dX3_read_27 : decode cX3_read 27 = .ok (.putfield 44, 3) := by decide +kernel
theorem dX3_read_30 : decode cX3_read 30 = .ok (.aload_n 0, 1) := by decide +kernel
theorem dX3_read_31 : decode cX3_read 31 = .ok (.iconst 0, 1) := by decide +kernel
theorem dX3_read_32 : decode cX3_read 32 = .ok (.putfield 47, 3) := by decide +kernel
theorem dX3_read_35 : decode cX3_read 35 = .ok (.aload_n 0, 1) := by decide +kernel
theorem dX3_read_36 : decode cX3_read 36 = .ok (.iload_n 3, 1) := by decide +kernel
theorem dX3_read_37 : decode cX3_read 37 = .ok (.ifCond .ne 8, 3) := by decide +kernel
theorem dX3_read_40 : decode cX3_read 40 = .ok (.ldc 50, 2) := by decide +kernel
theorem dX3_read_42 : decode cX3_read 42 = .ok (.goto 5, 3) := by decide +kernel
theorem dX3_read_45 : decode cX3_read 45 = .ok (.ldc 52, 2) := by decide +kernel
theorem dX3_read_47 : decode cX3_read 47 = .ok (.putfield 17, 3) := by decide +kernel
theorem dX3_read_50 : decode cX3_read 50 = .ok (.aload_n 0, 1) := by decide +kernel
theorem dX3_read_51 : decode cX3_read 51 = .ok (.getfield 54, 3) := by decide +kernel
theorem dX3_read_54 : decode cX3_read 54 = .ok (.ifCond .eq 19, 3) := by decide +kernel
theorem dX3_read_57 : decode cX3_read 57 = .ok (.aload_n 0, 1) := by decide +kernel
theorem dX3_read_58 : decode cX3_read 58 = .ok (.new 21, 3) := by decide +kernel
theorem dX3_read_61 : decode cX3_read 61 = .ok (.dup, 1) := by decide +kernel
theorem dX3_read_62 : decode cX3_read 62 = .ok (.invokespecial 23, 3) := by decide +kernel
theorem dX3_read_65 : decode cX3_read 65 = .ok (.putfield 24, 3) := by decide +kernel
theorem dX3_read_68 : decode cX3_read 68 = .ok (.aload_n 0, 1) := by decide +kernel
theorem dX3_read_69 : decode cX3_read 69 = .ok (.iconst 0, 1) := by decide +kernel
theorem dX3_read_70 : decode cX3_read 70 = .ok (.putfield 54, 3) := by decide +kernel
theorem dX3_read_73 : decode cX3_read 73 = .ok (.aload_n 0, 1) := by decide +kernel
theorem dX3_read_74 : decode cX3_read 74 = .ok (.getfield 24, 3) := by decide +kernel
theorem dX3_read_77 : decode cX3_read 77 = .ok (.invokevirtual 58, 3) := by decide +kernel
theorem dX3_read_80 : decode cX3_read 80 = .ok (.aload_n 0, 1) := by decide +kernel
theorem dX3_read_81 : decode cX3_read 81 = .ok (.invokevirtual 61, 3) := by decide +kernel
theorem dX3_read_84 : decode cX3_read 84 = .ok (.iconst 0, 1) := by decide +kernel
theorem dX3_read_85 : decode cX3_read 85 = .ok (.istore 4, 2) := by decide +kernel
theorem dX3_read_87 : decode cX3_read 87 = .ok (.iload 4, 2) := by decide +kernel
theorem dX3_read_89 : decode cX3_read 89 = .ok (.sipush 400, 3) := by decide +kernel
theorem dX3_read_92 : decode cX3_read 92 = .ok (.if_icmp .gt 49, 3) := by decide +kernel
theorem dX3_read_95 : decode cX3_read 95 = .ok (.aload_n 0, 1) := by decide +kernel
theorem dX3_read_96 : decode cX3_read 96 = .ok (.getfield 41, 3) := by decide +kernel
theorem dX3_read_99 : decode cX3_read 99 = .ok (.ifCond .ne 42, 3) := by decide +kernel
theorem dX3_read_102 : decode cX3_read 102 = .ok (.aload_n 0, 1) := by decide +kernel
theorem dX3_read_103 : decode cX3_read 103 = .ok (.iload_n 3, 1) := by decide +kernel
theorem dX3_read_104 : decode cX3_read 104 = .ok (.iload 4, 2) := by decide +kernel
theorem dX3_read_106 : decode cX3_read 106 = .ok (.invokevirtual 64, 3) := by decide +kernel
theorem dX3_read_109 : decode cX3_read 109 = .ok (.aload_n 0, 1) := by decide +kernel
theorem dX3_read_110 : decode cX3_read 110 = .ok (.getfield 41, 3) := by decide +kernel
theorem dX3_read_113 : decode cX3_read 113 = .ok (.ifCond .ne 28, 3) := by decide +kernel
theorem dX3_read_116 : decode cX3_read 116 = .ok (.aload_n 0, 1) := by decide +kernel
theorem dX3_read_117 : decode cX3_read 117 = .ok (.getfield 68, 3) := by decide +kernel
theorem dX3_read_120 : decode cX3_read 120 = .ok (.sipush 256, 3) := by decide +kernel
theorem dX3_read_123 : decode cX3_read 123 = .ok (.if_icmp .ne 6, 3) := by decide +kernel
theorem dX3_read_126 : decode cX3_read 126 = .ok (.goto 15, 3) := by decide +kernel
theorem dX3_read_129 : decode cX3_read 129 = .ok (.aload_n 0, 1) := by decide +kernel
theorem dX3_read_130 : decode cX3_read 130 = .ok (.bipush 59, 2) := by decide +kernel
theorem dX3_read_132 : decode cX3_read 132 = .ok (.invokevirtual 71, 3) := by decide +kernel
theorem dX3_read_135 : decode cX3_read 135 = .ok (.iinc 4 1, 3) := by decide +kernel
theorem dX3_read_138 : decode cX3_read 138 = .ok (.goto (-51), 3) := by decide +kernel
theorem dX3_read_141 : decode cX3_read 141 = .ok (.aload_n 0, 1) := by decide +kernel
theorem dX3_read_142 : decode cX3_read 142 = .ok (.getfield 41, 3) := by decide +kernel
theorem dX3_read_145 : decode cX3_read 145 = .ok (.ireturn, 1) := by decide +kernel
theorem dX3_readClause_0 : decode cX3_readClause 0 = .ok (.iload_n 1, 1) := by decide +kernel
theorem dX3_readClause_1 : decode cX3_readClause 1 = .ok (.ifCond .ne 8, 3) := by decide +kernel
theorem dX3_readClause_4 : decode cX3_readClause 4 = .ok (.ldc 93, 2) := by decide +kernel
theorem dX3_readClause_6 : decode cX3_readClause 6 = .ok (.goto 15, 3) := by decide +kernel
theorem dX3_readClause_9 : decode cX3_readClause 9 = .ok (.iload_n 1, 1) := by decide +kernel
theorem dX3_readClause_10 : decode cX3_readClause 10 = .ok (.iconst 1, 1) := by decide +kernel
theorem dX3_readClause_11 : decode cX3_readClause 11 = .ok (.if_icmp .ne 8, 3) := by decide +kernel
theorem dX3_readClause_14 : decode cX3_readClause 14 = .ok (.ldc 95, 2) := by decide +kernel
theorem dX3_readClause_16 : decode cX3_readClause 16 = .ok (.goto 5, 3) := by decide +kernel
theorem dX3_readClause_19 : decode cX3_readClause 19 = .ok (.ldc 97, 2) := by decide +kernel
theorem dX3_readClause_21 : decode cX3_readClause 21 = .ok (.astore_n 3, 1) := by decide +kernel
theorem dX3_readClause_22 : decode cX3_readClause 22 = .ok (.aload_n 0, 1) := by decide +kernel
theorem dX3_readClause_23 : decode cX3_readClause 23 = .ok (.aload_n 3, 1) := by decide +kernel
theorem dX3_readClause_24 : decode cX3_readClause 24 = .ok (.invokevirtual 99, 3) := by decide +kernel
theorem dX3_readClause_27 : decode cX3_readClause 27 = .ok (.istore 4, 2) := by decide +kernel
theorem dX3_readClause_29 : decode cX3_readClause 29 = .ok (.iload_n 1, 1) := by decide +kernel
theorem dX3_readClause_30 : decode cX3_readClause 30 = .ok (.ifCond .ne 13, 3) := by decide +kernel
theorem dX3_readClause_33 : decode cX3_readClause 33 = .ok (.iload 4, 2) := by decide +kernel
theorem dX3_readClause_35 : decode cX3_readClause 35 = .ok (.iconst 1, 1) := by decide +kernel
theorem dX3_readClause_36 : decode cX3_readClause 36 = .ok (.if_icmp .ne 7, 3) := by decide +kernel
theorem dX3_readClause_39 : decode cX3_readClause 39 = .ok (.iconst 1, 1) := by decide +kernel
theorem dX3_readClause_40 : decode cX3_readClause 40 = .ok (.goto 4, 3) := by decide +kernel
theorem dX3_readClause_43 : decode cX3_readClause 43 = .ok (.iconst 0, 1) := by decide +kernel
theorem dX3_readClause_44 : decode cX3_readClause 44 = .ok (.istore 5, 2) := by decide +kernel
theorem dX3_readClause_46 : decode cX3_readClause 46 = .ok (.iload_n 1, 1) := by decide +kernel
theorem dX3_readClause_47 : decode cX3_readClause 47 = .ok (.iconst 1, 1) := by decide +kernel
theorem dX3_readClause_48 : decode cX3_readClause 48 = .ok (.if_icmp .eq 8, 3) := by decide +kernel
theorem dX3_readClause_51 : decode cX3_readClause 51 = .ok (.iload 5, 2) := by decide +kernel
theorem dX3_readClause_53 : decode cX3_readClause 53 = .ok (.ifCond .eq 7, 3) := by decide +kernel
theorem dX3_readClause_56 : decode cX3_readClause 56 = .ok (.iconst 1, 1) := by decide +kernel
theorem dX3_readClause_57 : decode cX3_readClause 57 = .ok (.goto 4, 3) := by decide +kernel
theorem dX3_readClause_60 : decode cX3_readClause 60 = .ok (.iconst 0, 1) := by decide +kernel
theorem dX3_readClause_61 : decode cX3_readClause 61 = .ok (.istore 6, 2) := by decide +kernel
theorem dX3_readClause_63 : decode cX3_readClause 63 = .ok (.iload 4, 2) := by decide +kernel
theorem dX3_readClause_65 : decode cX3_readClause 65 = .ok (.iconst (-1), 1) := by decide +kernel
theorem dX3_readClause_66 : decode cX3_readClause 66 = .ok (.if_icmp .ne 9, 3) := by decide +kernel
theorem dX3_readClause_69 : decode cX3_readClause 69 = .ok (.aload_n 0, 1) := by decide +kernel
theorem dX3_readClause_70 : decode cX3_readClause 70 = .ok (.iconst 0, 1) := by decide +kernel
theorem dX3_readClause_71 : decode cX3_readClause 71 = .ok (.invokevirtual 78, 3) := by decide +kernel
theorem dX3_readClause_74 : decode cX3_readClause 74 = .ok (.return_, 1) := by decide +kernel
theorem dX3_readClause_75 : decode cX3_readClause 75 = .ok (.iload_n 2, 1) := by decide +kernel
theorem dX3_readClause_76 : decode cX3_readClause 76 = .ok (.bipush 12, 2) := by decide +kernel
theorem dX3_readClause_78 : decode cX3_readClause 78 = .ok (.if_icmp .ge 21, 3) := by decide +kernel
theorem dX3_readClause_81 : decode cX3_readClause 81 = .ok (.iload 6, 2) := by decide +kernel
theorem dX3_readClause_83 : decode cX3_readClause 83 = .ok (.ifCond .eq 22, 3) := by decide +kernel
theorem dX3_readClause_86 : decode cX3_readClause 86 = .ok (.aload_n 0, 1) := by decide +kernel
theorem dX3_readClause_87 : decode cX3_readClause 87 = .ok (.getfield 47, 3) := by decide +kernel
theorem dX3_readClause_90 : decode cX3_readClause 90 = .ok (.iload 4, 2) := by decide +kernel
theorem dX3_readClause_92 : decode cX3_readClause 92 = .ok (.ishr, 1) := by decide +kernel
theorem dX3_readClause_93 : decode cX3_readClause 93 = .ok (.iconst 1, 1) := by decide +kernel
theorem dX3_readClause_94 : decode cX3_readClause 94 = .ok (.iand, 1) := by decide +kernel
theorem dX3_readClause_95 : decode cX3_readClause 95 = .ok (.iconst 1, 1) := by decide +kernel
theorem dX3_readClause_96 : decode cX3_readClause 96 = .ok (.if_icmp .ne 9, 3) := by decide +kernel
theorem dX3_readClause_99 : decode cX3_readClause 99 = .ok (.aload_n 0, 1) := by decide +kernel
theorem dX3_readClause_100 : decode cX3_readClause 100 = .ok (.iconst 4, 1) := by decide +kernel
theorem dX3_readClause_101 : decode cX3_readClause 101 = .ok (.invokevirtual 78, 3) := by decide +kernel
theorem dX3_readClause_104 : decode cX3_readClause 104 = .ok (.return_, 1) := by decide +kernel
theorem dX3_readClause_105 : decode cX3_readClause 105 = .ok (.aload_n 0, 1) := by decide +kernel
theorem dX3_readClause_106 : decode cX3_readClause 106 = .ok (.dup, 1) := by decide +kernel
theorem dX3_readClause_107 : decode cX3_readClause 107 = .ok (.getfield 47, 3) := by decide +kernel
theorem dX3_readClause_110 : decode cX3_readClause 110 = .ok (.iconst 1, 1) := by decide +kernel
theorem dX3_readClause_111 : decode cX3_readClause 111 = .ok (.iload 4, 2) := by decide +kernel
theorem dX3_readClause_113 : decode cX3_readClause 113 = .ok (.ishl, 1) := by decide +kernel
theorem dX3_readClause_114 : decode cX3_readClause 114 = .ok (.ior, 1) := by decide +kernel
theorem dX3_readClause_115 : decode cX3_readClause 115 = .ok (.putfield 47, 3) := by decide +kernel
theorem dX3_readClause_118 : decode cX3_readClause 118 = .ok (.aload_n 0, 1) := by decide +kernel
theorem dX3_readClause_119 : decode cX3_readClause 119 = .ok (.invokevirtual 61, 3) := by decide +kernel
theorem dX3_readClause_122 : decode cX3_readClause 122 = .ok (.iload_n 1, 1) := by decide +kernel
theorem dX3_readClause_123 : decode cX3_readClause 123 = .ok (.iconst 1, 1) := by decide +kernel
theorem dX3_readClause_124 : decode cX3_readClause 124 = .ok (.if_icmp .ne 12, 3) := by decide +kernel
theorem dX3_readClause_127 : decode cX3_readClause 127 = .ok (.aload_n 0, 1) := by decide +kernel
theorem dX3_readClause_128 : decode cX3_readClause 128 = .ok (.iload 4, 2) := by decide +kernel
theorem dX3_readClause_130 : decode cX3_readClause 130 = .ok (.invokevirtual 103, 3) := by decide +kernel
theorem dX3_readClause_133 : decode cX3_readClause 133 = .ok (.goto 78, 3) := by decide +kernel
theorem dX3_readClause_136 : decode cX3_readClause 136 = .ok (.iload 5, 2) := by decide +kernel
theorem dX3_readClause_138 : decode cX3_readClause 138 = .ok (.ifCond .eq 21, 3) := by decide +kernel
theorem dX3_readClause_141 : decode cX3_readClause 141 = .ok (.aload_n 0, 1) := by decide +kernel
theorem dX3_readClause_142 : decode cX3_readClause 142 = .ok (.getfield 24, 3) := by decide +kernel
theorem dX3_readClause_145 : decode cX3_readClause 145 = .ok (.aload_n 0, 1) := by decide +kernel
theorem dX3_readClause_146 : decode cX3_readClause 146 = .ok (.iconst 0, 1) := by decide +kernel
theorem dX3_readClause_147 : decode cX3_readClause 147 = .ok (.sipush 9999, 3) := by decide +kernel
theorem dX3_readClause_150 : decode cX3_readClause 150 = .ok (.invokevirtual 106, 3) := by decide +kernel
theorem dX3_readClause_153 : decode cX3_readClause 153 = .ok (.putfield 109, 3) := by decide +kernel
theorem dX3_readClause_156 : decode cX3_readClause 156 = .ok (.goto 55, 3) := by decide +kernel
theorem dX3_readClause_159 : decode cX3_readClause 159 = .ok (.aload_n 0, 1) := by decide +kernel
theorem dX3_readClause_160 : decode cX3_readClause 160 = .ok (.getfield 24, 3) := by decide +kernel
theorem dX3_readClause_163 : decode cX3_readClause 163 = .ok (.iload 4, 2) := by decide +kernel
theorem dX3_readClause_165 : decode cX3_readClause 165 = .ok (.invokevirtual 112, 3) := by decide +kernel
theorem dX3_readClause_168 : decode cX3_readClause 168 = .ok (.aload_n 0, 1) := by decide +kernel
theorem dX3_readClause_169 : decode cX3_readClause 169 = .ok (.invokevirtual 115, 3) := by decide +kernel
theorem dX3_readClause_172 : decode cX3_readClause 172 = .ok (.aload_n 0, 1) := by decide +kernel
theorem dX3_readClause_173 : decode cX3_readClause 173 = .ok (.getfield 24, 3) := by decide +kernel
theorem dX3_readClause_176 : decode cX3_readClause 176 = .ok (.invokevirtual 118, 3) := by decide +kernel
theorem dX3_readClause_179 : decode cX3_readClause 179 = .ok (.aload_n 0, 1) := by decide +kernel
theorem dX3_readClause_180 : decode cX3_readClause 180 = .ok (.getfield 41, 3) := by decide +kernel
theorem dX3_readClause_183 : decode cX3_readClause 183 = .ok (.ifCond .ne 21, 3) := by decide +kernel
theorem dX3_readClause_186 : decode cX3_readClause 186 = .ok (.aload_n 0, 1) := by decide +kernel
theorem dX3_readClause_187 : decode cX3_readClause 187 = .ok (.ldc 121, 2) := by decide +kernel
theorem dX3_readClause_189 : decode cX3_readClause 189 = .ok (.invokevirtual 99, 3) := by decide +kernel
theorem dX3_readClause_192 : decode cX3_readClause 192 = .ok (.ifCond .ne 12, 3) := by decide +kernel
theorem dX3_readClause_195 : decode cX3_readClause 195 = .ok (.aload_n 0, 1) := by decide +kernel
theorem dX3_readClause_196 : decode cX3_readClause 196 = .ok (.invokevirtual 61, 3) := by decide +kernel
theorem dX3_readClause_199 : decode cX3_readClause 199 = .ok (.aload_n 0, 1) := by decide +kernel
theorem dX3_readClause_200 : decode cX3_readClause 200 = .ok (.iconst 0, 1) := by decide +kernel
theorem dX3_readClause_201 : decode cX3_readClause 201 = .ok (.invokevirtual 123, 3) := by decide +kernel
theorem dX3_readClause_204 : decode cX3_readClause 204 = .ok (.aload_n 0, 1) := by decide +kernel
theorem dX3_readClause_205 : decode cX3_readClause 205 = .ok (.getfield 24, 3) := by decide +kernel
theorem dX3_readClause_208 : decode cX3_readClause 208 = .ok (.invokevirtual 126, 3) := by decide +kernel
theorem dX3_readClause_211 : decode cX3_readClause 211 = .ok (.return_, 1) := by decide +kernel
theorem dX3_readFact_0 : decode cX3_readFact 0 = .ok (.aload_n 0, 1) := by decide +kernel
theorem dX3_readFact_1 : decode cX3_readFact 1 = .ok (.ldc 158, 2) := by decide +kernel
theorem dX3_readFact_3 : decode cX3_readFact 3 = .ok (.invokevirtual 99, 3) := by decide +kernel
theorem dX3_readFact_6 : decode cX3_readFact 6 = .ok (.ifCond .ne 7, 3) := by decide +kernel
theorem dX3_readFact_9 : decode cX3_readFact 9 = .ok (.iconst 1, 1) := by decide +kernel
theorem dX3_readFact_10 : decode cX3_readFact 10 = .ok (.goto 4, 3) := by decide +kernel
theorem dX3_readFact_13 : decode cX3_readFact 13 = .ok (.iconst 0, 1) := by decide +kernel
theorem dX3_readFact_14 : decode cX3_readFact 14 = .ok (.istore_n 2, 1) := by decide +kernel
theorem dX3_readFact_15 : decode cX3_readFact 15 = .ok (.iload_n 2, 1) := by decide +kernel
theorem dX3_readFact_16 : decode cX3_readFact 16 = .ok (.ifCond .ne 12, 3) := by decide +kernel
theorem dX3_readFact_19 : decode cX3_readFact 19 = .ok (.aload_n 0, 1) := by decide +kernel
theorem dX3_readFact_20 : decode cX3_readFact 20 = .ok (.getfield 68, 3) := by decide +kernel
theorem dX3_readFact_23 : decode cX3_readFact 23 = .ok (.bipush 91, 2) := by decide +kernel
theorem dX3_readFact_25 : decode cX3_readFact 25 = .ok (.if_icmp .ne 17, 3) := by decide +kernel
theorem dX3_readFact_28 : decode cX3_readFact 28 = .ok (.iload_n 1, 1) := by decide +kernel
theorem dX3_readFact_29 : decode cX3_readFact 29 = .ok (.bipush 10, 2) := by decide +kernel
theorem dX3_readFact_31 : decode cX3_readFact 31 = .ok (.if_icmp .lt 11, 3) := by decide +kernel
theorem dX3_readFact_34 : decode cX3_readFact 34 = .ok (.aload_n 0, 1) := by decide +kernel
theorem dX3_readFact_35 : decode cX3_readFact 35 = .ok (.iconst 2, 1) := by decide +kernel
theorem dX3_readFact_36 : decode cX3_readFact 36 = .ok (.invokevirtual 78, 3) := by decide +kernel
theorem dX3_readFact_39 : decode cX3_readFact 39 = .ok (.goto 94, 3) := by decide +kernel
theorem dX3_readFact_42 : decode cX3_readFact 42 = .ok (.iload_n 2, 1) := by decide +kernel
theorem dX3_readFact_43 : decode cX3_readFact 43 = .ok (.ifCond .eq 26, 3) := by decide +kernel
theorem dX3_readFact_46 : decode cX3_readFact 46 = .ok (.aload_n 0, 1) := by decide +kernel
theorem dX3_readFact_47 : decode cX3_readFact 47 = .ok (.invokevirtual 61, 3) := by decide +kernel
theorem dX3_readFact_50 : decode cX3_readFact 50 = .ok (.aload_n 0, 1) := by decide +kernel
theorem dX3_readFact_51 : decode cX3_readFact 51 = .ok (.iload_n 1, 1) := by decide +kernel
theorem dX3_readFact_52 : decode cX3_readFact 52 = .ok (.iconst 1, 1) := by decide +kernel
theorem dX3_readFact_53 : decode cX3_readFact 53 = .ok (.iadd, 1) := by decide +kernel
theorem dX3_readFact_54 : decode cX3_readFact 54 = .ok (.invokevirtual 148, 3) := by decide +kernel
theorem dX3_readFact_57 : decode cX3_readFact 57 = .ok (.aload_n 0, 1) := by decide +kernel
theorem dX3_readFact_58 : decode cX3_readFact 58 = .ok (.getfield 24, 3) := by decide +kernel
theorem dX3_readFact_61 : decode cX3_readFact 61 = .ok (.ldc 160, 2) := by decide +kernel
theorem dX3_readFact_63 : decode cX3_readFact 63 = .ok (.invokevirtual 154, 3) := by decide +kernel
theorem dX3_readFact_66 : decode cX3_readFact 66 = .ok (.goto 67, 3) := by decide +kernel
theorem dX3_readFact_69 : decode cX3_readFact 69 = .ok (.aload_n 0, 1) := by decide +kernel
theorem dX3_readFact_70 : decode cX3_readFact 70 = .ok (.getfield 68, 3) := by decide +kernel
theorem dX3_readFact_73 : decode cX3_readFact 73 = .ok (.bipush 91, 2) := by decide +kernel
theorem dX3_readFact_75 : decode cX3_readFact 75 = .ok (.if_icmp .ne 23, 3) := by decide +kernel
theorem dX3_readFact_78 : decode cX3_readFact 78 = .ok (.aload_n 0, 1) := by decide +kernel
theorem dX3_readFact_79 : decode cX3_readFact 79 = .ok (.invokevirtual 61, 3) := by decide +kernel
theorem dX3_readFact_82 : decode cX3_readFact 82 = .ok (.aload_n 0, 1) := by decide +kernel
theorem dX3_readFact_83 : decode cX3_readFact 83 = .ok (.iload_n 1, 1) := by decide +kernel
theorem dX3_readFact_84 : decode cX3_readFact 84 = .ok (.iconst 1, 1) := by decide +kernel
theorem dX3_readFact_85 : decode cX3_readFact 85 = .ok (.iadd, 1) := by decide +kernel
theorem dX3_readFact_86 : decode cX3_readFact 86 = .ok (.invokevirtual 123, 3) := by decide +kernel
theorem dX3_readFact_89 : decode cX3_readFact 89 = .ok (.aload_n 0, 1) := by decide +kernel
theorem dX3_readFact_90 : decode cX3_readFact 90 = .ok (.bipush 93, 2) := by decide +kernel
theorem dX3_readFact_92 : decode cX3_readFact 92 = .ok (.invokevirtual 71, 3) := by decide +kernel
theorem dX3_readFact_95 : decode cX3_readFact 95 = .ok (.goto 38, 3) := by decide +kernel
theorem dX3_readFact_98 : decode cX3_readFact 98 = .ok (.aload_n 0, 1) := by decide +kernel
theorem dX3_readFact_99 : decode cX3_readFact 99 = .ok (.invokevirtual 115, 3) := by decide +kernel
theorem dX3_readFact_102 : decode cX3_readFact 102 = .ok (.aload_n 0, 1) := by decide +kernel
theorem dX3_readFact_103 : decode cX3_readFact 103 = .ok (.getfield 68, 3) := by decide +kernel
theorem dX3_readFact_106 : decode cX3_readFact 106 = .ok (.istore_n 3, 1) := by decide +kernel
theorem dX3_readFact_107 : decode cX3_readFact 107 = .ok (.aload_n 0, 1) := by decide +kernel
theorem dX3_readFact_108 : decode cX3_readFact 108 = .ok (.invokevirtual 161, 3) := by decide +kernel
theorem dX3_readFact_111 : decode cX3_readFact 111 = .ok (.aload_n 0, 1) := by decide +kernel
theorem dX3_readFact_112 : decode cX3_readFact 112 = .ok (.getfield 41, 3) := by decide +kernel
theorem dX3_readFact_115 : decode cX3_readFact 115 = .ok (.ifCond .ne 18, 3) := by decide +kernel
theorem dX3_readFact_118 : decode cX3_readFact 118 = .ok (.aload_n 0, 1) := by decide +kernel
theorem dX3_readFact_119 : decode cX3_readFact 119 = .ok (.invokevirtual 115, 3) := by decide +kernel
theorem dX3_readFact_122 : decode cX3_readFact 122 = .ok (.aload_n 0, 1) := by decide +kernel
theorem dX3_readFact_123 : decode cX3_readFact 123 = .ok (.getfield 24, 3) := by decide +kernel
theorem dX3_readFact_126 : decode cX3_readFact 126 = .ok (.ldc 164, 2) := by decide +kernel
theorem dX3_readFact_128 : decode cX3_readFact 128 = .ok (.iload_n 3, 1) := by decide +kernel
theorem dX3_readFact_129 : decode cX3_readFact 129 = .ok (.iadd, 1) := by decide +kernel
theorem dX3_readFact_130 : decode cX3_readFact 130 = .ok (.invokevirtual 154, 3) := by decide +kernel
theorem dX3_readFact_133 : decode cX3_readFact 133 = .ok (.return_, 1) := by decide +kernel
theorem dX3_readNumber_0 : decode cX3_readNumber 0 = .ok (.aload_n 0, 1) := by decide +kernel
theorem dX3_readNumber_1 : decode cX3_readNumber 1 = .ok (.getfield 41, 3) := by decide +kernel
theorem dX3_readNumber_4 : decode cX3_readNumber 4 = .ok (.ifCond .eq 5, 3) := by decide +kernel
theorem dX3_readNumber_7 : decode cX3_readNumber 7 = .ok (.iconst (-1), 1) := by decide +kernel
theorem dX3_readNumber_8 : decode cX3_readNumber 8 = .ok (.ireturn, 1) := by decide +kernel
theorem dX3_readNumber_9 : decode cX3_readNumber 9 = .ok (.aload_n 0, 1) := by decide +kernel
theorem dX3_readNumber_10 : decode cX3_readNumber 10 = .ok (.getfield 68, 3) := by decide +kernel
theorem dX3_readNumber_13 : decode cX3_readNumber 13 = .ok (.sipush 257, 3) := by decide +kernel
theorem dX3_readNumber_16 : decode cX3_readNumber 16 = .ok (.if_icmp .eq 10, 3) := by decide +kernel
theorem dX3_readNumber_19 : decode cX3_readNumber 19 = .ok (.aload_n 0, 1) := by decide +kernel
theorem dX3_readNumber_20 : decode cX3_readNumber 20 = .ok (.iconst 0, 1) := by decide +kernel
theorem dX3_readNumber_21 : decode cX3_readNumber 21 = .ok (.invokevirtual 78, 3) := by decide +kernel
theorem dX3_readNumber_24 : decode cX3_readNumber 24 = .ok (.iconst (-1), 1) := by decide +kernel
theorem dX3_readNumber_25 : decode cX3_readNumber 25 = .ok (.ireturn, 1) := by decide +kernel
theorem dX3_readNumber_26 : decode cX3_readNumber 26 = .ok (.aload_n 0, 1) := by decide +kernel
theorem dX3_readNumber_27 : decode cX3_readNumber 27 = .ok (.getfield 81, 3) := by decide +kernel
theorem dX3_readNumber_30 : decode cX3_readNumber 30 = .ok (.iload_n 1, 1) := by decide +kernel
theorem dX3_readNumber_31 : decode cX3_readNumber 31 = .ok (.if_icmp .lt 11, 3) := by decide +kernel
theorem dX3_readNumber_34 : decode cX3_readNumber 34 = .ok (.aload_n 0, 1) := by decide +kernel
theorem dX3_readNumber_35 : decode cX3_readNumber 35 = .ok (.getfield 81, 3) := by decide +kernel
theorem dX3_readNumber_38 : decode cX3_readNumber 38 = .ok (.iload_n 2, 1) := by decide +kernel
theorem dX3_readNumber_39 : decode cX3_readNumber 39 = .ok (.if_icmp .le 10, 3) := by decide +kernel
theorem dX3_readNumber_42 : decode cX3_readNumber 42 = .ok (.aload_n 0, 1) := by decide +kernel
theorem dX3_readNumber_43 : decode cX3_readNumber 43 = .ok (.iconst 1, 1) := by decide +kernel
theorem dX3_readNumber_44 : decode cX3_readNumber 44 = .ok (.invokevirtual 78, 3) := by decide +kernel
theorem dX3_readNumber_47 : decode cX3_readNumber 47 = .ok (.iconst (-1), 1) := by decide +kernel
theorem dX3_readNumber_48 : decode cX3_readNumber 48 = .ok (.ireturn, 1) := by decide +kernel
theorem dX3_readNumber_49 : decode cX3_readNumber 49 = .ok (.aload_n 0, 1) := by decide +kernel
theorem dX3_readNumber_50 : decode cX3_readNumber 50 = .ok (.getfield 81, 3) := by decide +kernel
theorem dX3_readNumber_53 : decode cX3_readNumber 53 = .ok (.istore_n 3, 1) := by decide +kernel
theorem dX3_readNumber_54 : decode cX3_readNumber 54 = .ok (.aload_n 0, 1) := by decide +kernel
theorem dX3_readNumber_55 : decode cX3_readNumber 55 = .ok (.invokevirtual 61, 3) := by decide +kernel
theorem dX3_readNumber_58 : decode cX3_readNumber 58 = .ok (.iload_n 3, 1) := by decide +kernel
theorem dX3_readNumber_59 : decode cX3_readNumber 59 = .ok (.ireturn, 1) := by decide +kernel
theorem dX3_readSearch_0 : decode cX3_readSearch 0 = .ok (.iload_n 1, 1) := by decide +kernel
theorem dX3_readSearch_1 : decode cX3_readSearch 1 = .ok (.ifCond .ne 42, 3) := by decide +kernel
theorem dX3_readSearch_4 : decode cX3_readSearch 4 = .ok (.aload_n 0, 1) := by decide +kernel
theorem dX3_readSearch_5 : decode cX3_readSearch 5 = .ok (.getfield 24, 3) := by decide +kernel
theorem dX3_readSearch_8 : decode cX3_readSearch 8 = .ok (.aload_n 0, 1) := by decide +kernel
theorem dX3_readSearch_9 : decode cX3_readSearch 9 = .ok (.iconst 2, 1) := by decide +kernel
theorem dX3_readSearch_10 : decode cX3_readSearch 10 = .ok (.sipush 200, 3) := by decide +kernel
theorem dX3_readSearch_13 : decode cX3_readSearch 13 = .ok (.invokevirtual 106, 3) := by decide +kernel
theorem dX3_readSearch_16 : decode cX3_readSearch 16 = .ok (.putfield 129, 3) := by decide +kernel
theorem dX3_readSearch_19 : decode cX3_readSearch 19 = .ok (.aload_n 0, 1) := by decide +kernel
theorem dX3_readSearch_20 : decode cX3_readSearch 20 = .ok (.getfield 24, 3) := by decide +kernel
theorem dX3_readSearch_23 : decode cX3_readSearch 23 = .ok (.aload_n 0, 1) := by decide +kernel
theorem dX3_readSearch_24 : decode cX3_readSearch 24 = .ok (.aload_n 0, 1) := by decide +kernel
theorem dX3_readSearch_25 : decode cX3_readSearch 25 = .ok (.getfield 24, 3) := by decide +kernel
theorem dX3_readSearch_28 : decode cX3_readSearch 28 = .ok (.getfield 129, 3) := by decide +kernel
theorem dX3_readSearch_31 : decode cX3_readSearch 31 = .ok (.sipush 200, 3) := by decide +kernel
theorem dX3_readSearch_34 : decode cX3_readSearch 34 = .ok (.invokevirtual 106, 3) := by decide +kernel
theorem dX3_readSearch_37 : decode cX3_readSearch 37 = .ok (.putfield 132, 3) := by decide +kernel
theorem dX3_readSearch_40 : decode cX3_readSearch 40 = .ok (.goto 81, 3) := by decide +kernel
theorem dX3_readSearch_43 : decode cX3_readSearch 43 = .ok (.iload_n 1, 1) := by decide +kernel
theorem dX3_readSearch_44 : decode cX3_readSearch 44 = .ok (.iconst 1, 1) := by decide +kernel
theorem dX3_readSearch_45 : decode cX3_readSearch 45 = .ok (.if_icmp .ne 40, 3) := by decide +kernel
theorem dX3_readSearch_48 : decode cX3_readSearch 48 = .ok (.aload_n 0, 1) := by decide +kernel
theorem dX3_readSearch_49 : decode cX3_readSearch 49 = .ok (.getfield 24, 3) := by decide +kernel
theorem dX3_readSearch_52 : decode cX3_readSearch 52 = .ok (.aload_n 0, 1) := by decide +kernel
theorem dX3_readSearch_53 : decode cX3_readSearch 53 = .ok (.iconst 1, 1) := by decide +kernel
theorem dX3_readSearch_54 : decode cX3_readSearch 54 = .ok (.bipush 10, 2) := by decide +kernel
theorem dX3_readSearch_56 : decode cX3_readSearch 56 = .ok (.invokevirtual 106, 3) := by decide +kernel
theorem dX3_readSearch_59 : decode cX3_readSearch 59 = .ok (.putfield 135, 3) := by decide +kernel
theorem dX3_readSearch_62 : decode cX3_readSearch 62 = .ok (.aload_n 0, 1) := by decide +kernel
theorem dX3_readSearch_63 : decode cX3_readSearch 63 = .ok (.getfield 24, 3) := by decide +kernel
theorem dX3_readSearch_66 : decode cX3_readSearch 66 = .ok (.aload_n 0, 1) := by decide +kernel
theorem dX3_readSearch_67 : decode cX3_readSearch 67 = .ok (.aload_n 0, 1) := by decide +kernel
theorem dX3_readSearch_68 : decode cX3_readSearch 68 = .ok (.getfield 24, 3) := by decide +kernel
theorem dX3_readSearch_71 : decode cX3_readSearch 71 = .ok (.getfield 135, 3) := by decide +kernel
theorem dX3_readSearch_74 : decode cX3_readSearch 74 = .ok (.bipush 10, 2) := by decide +kernel
theorem dX3_readSearch_76 : decode cX3_readSearch 76 = .ok (.invokevirtual 106, 3) := by decide +kernel
theorem dX3_readSearch_79 : decode cX3_readSearch 79 = .ok (.putfield 138, 3) := by decide +kernel
theorem dX3_readSearch_82 : decode cX3_readSearch 82 = .ok (.goto 39, 3) := by decide +kernel
theorem dX3_readSearch_85 : decode cX3_readSearch 85 = .ok (.iload_n 1, 1) := by decide +kernel
theorem dX3_readSearch_86 : decode cX3_readSearch 86 = .ok (.iconst 2, 1) := by decide +kernel
theorem dX3_readSearch_87 : decode cX3_readSearch 87 = .ok (.if_icmp .ne 20, 3) := by decide +kernel
theorem dX3_readSearch_90 : decode cX3_readSearch 90 = .ok (.aload_n 0, 1) := by decide +kernel
theorem dX3_readSearch_91 : decode cX3_readSearch 91 = .ok (.getfield 24, 3) := by decide +kernel
theorem dX3_readSearch_94 : decode cX3_readSearch 94 = .ok (.aload_n 0, 1) := by decide +kernel
theorem dX3_readSearch_95 : decode cX3_readSearch 95 = .ok (.iconst 1, 1) := by decide +kernel
theorem dX3_readSearch_96 : decode cX3_readSearch 96 = .ok (.bipush 99, 2) := by decide +kernel
theorem dX3_readSearch_98 : decode cX3_readSearch 98 = .ok (.invokevirtual 106, 3) := by decide +kernel
theorem dX3_readSearch_101 : decode cX3_readSearch 101 = .ok (.putfield 141, 3) := by decide +kernel
theorem dX3_readSearch_104 : decode cX3_readSearch 104 = .ok (.goto 17, 3) := by decide +kernel
theorem dX3_readSearch_107 : decode cX3_readSearch 107 = .ok (.aload_n 0, 1) := by decide +kernel
theorem dX3_readSearch_108 : decode cX3_readSearch 108 = .ok (.getfield 24, 3) := by decide +kernel
theorem dX3_readSearch_111 : decode cX3_readSearch 111 = .ok (.aload_n 0, 1) := by decide +kernel
theorem dX3_readSearch_112 : decode cX3_readSearch 112 = .ok (.iconst 0, 1) := by decide +kernel
theorem dX3_readSearch_113 : decode cX3_readSearch 113 = .ok (.ldc 144, 2) := by decide +kernel
theorem dX3_readSearch_115 : decode cX3_readSearch 115 = .ok (.invokevirtual 106, 3) := by decide +kernel
theorem dX3_readSearch_118 : decode cX3_readSearch 118 = .ok (.putfield 145, 3) := by decide +kernel
theorem dX3_readSearch_121 : decode cX3_readSearch 121 = .ok (.return_, 1) := by decide +kernel
theorem dX3_readSign_0 : decode cX3_readSign 0 = .ok (.aload_n 0, 1) := by decide +kernel
theorem dX3_readSign_1 : decode cX3_readSign 1 = .ok (.getfield 68, 3) := by decide +kernel
theorem dX3_readSign_4 : decode cX3_readSign 4 = .ok (.bipush 60, 2) := by decide +kernel
theorem dX3_readSign_6 : decode cX3_readSign 6 = .ok (.if_icmp .eq 13, 3) := by decide +kernel
theorem dX3_readSign_9 : decode cX3_readSign 9 = .ok (.aload_n 0, 1) := by decide +kernel
theorem dX3_readSign_10 : decode cX3_readSign 10 = .ok (.getfield 68, 3) := by decide +kernel
theorem dX3_readSign_13 : decode cX3_readSign 13 = .ok (.sipush 259, 3) := by decide +kernel
theorem dX3_readSign_16 : decode cX3_readSign 16 = .ok (.if_icmp .ne 7, 3) := by decide +kernel
theorem dX3_readSign_19 : decode cX3_readSign 19 = .ok (.iconst 1, 1) := by decide +kernel
theorem dX3_readSign_20 : decode cX3_readSign 20 = .ok (.goto 4, 3) := by decide +kernel
theorem dX3_readSign_23 : decode cX3_readSign 23 = .ok (.iconst 0, 1) := by decide +kernel
theorem dX3_readSign_24 : decode cX3_readSign 24 = .ok (.istore_n 1, 1) := by decide +kernel
theorem dX3_readSign_25 : decode cX3_readSign 25 = .ok (.aload_n 0, 1) := by decide +kernel
theorem dX3_readSign_26 : decode cX3_readSign 26 = .ok (.getfield 68, 3) := by decide +kernel
theorem dX3_readSign_29 : decode cX3_readSign 29 = .ok (.bipush 62, 2) := by decide +kernel
theorem dX3_readSign_31 : decode cX3_readSign 31 = .ok (.if_icmp .eq 13, 3) := by decide +kernel
theorem dX3_readSign_34 : decode cX3_readSign 34 = .ok (.aload_n 0, 1) := by decide +kernel
theorem dX3_readSign_35 : decode cX3_readSign 35 = .ok (.getfield 68, 3) := by decide +kernel
theorem dX3_readSign_38 : decode cX3_readSign 38 = .ok (.sipush 260, 3) := by decide +kernel
theorem dX3_readSign_41 : decode cX3_readSign 41 = .ok (.if_icmp .ne 7, 3) := by decide +kernel
theorem dX3_readSign_44 : decode cX3_readSign 44 = .ok (.iconst 1, 1) := by decide +kernel
theorem dX3_readSign_45 : decode cX3_readSign 45 = .ok (.goto 4, 3) := by decide +kernel
theorem dX3_readSign_48 : decode cX3_readSign 48 = .ok (.iconst 0, 1) := by decide +kernel
theorem dX3_readSign_49 : decode cX3_readSign 49 = .ok (.istore_n 2, 1) := by decide +kernel
theorem dX3_readSign_50 : decode cX3_readSign 50 = .ok (.iload_n 1, 1) := by decide +kernel
theorem dX3_readSign_51 : decode cX3_readSign 51 = .ok (.ifCond .ne 24, 3) := by decide +kernel
theorem dX3_readSign_54 : decode cX3_readSign 54 = .ok (.iload_n 2, 1) := by decide +kernel
theorem dX3_readSign_55 : decode cX3_readSign 55 = .ok (.ifCond .ne 20, 3) := by decide +kernel
theorem dX3_readSign_58 : decode cX3_readSign 58 = .ok (.aload_n 0, 1) := by decide +kernel
theorem dX3_readSign_59 : decode cX3_readSign 59 = .ok (.getfield 68, 3) := by decide +kernel
theorem dX3_readSign_62 : decode cX3_readSign 62 = .ok (.bipush 61, 2) := by decide +kernel
theorem dX3_readSign_64 : decode cX3_readSign 64 = .ok (.if_icmp .eq 11, 3) := by decide +kernel
theorem dX3_readSign_67 : decode cX3_readSign 67 = .ok (.aload_n 0, 1) := by decide +kernel
theorem dX3_readSign_68 : decode cX3_readSign 68 = .ok (.iconst 0, 1) := by decide +kernel
theorem dX3_readSign_69 : decode cX3_readSign 69 = .ok (.invokevirtual 78, 3) := by decide +kernel
theorem dX3_readSign_72 : decode cX3_readSign 72 = .ok (.goto 34, 3) := by decide +kernel
theorem dX3_readSign_75 : decode cX3_readSign 75 = .ok (.aload_n 0, 1) := by decide +kernel
theorem dX3_readSign_76 : decode cX3_readSign 76 = .ok (.getfield 44, 3) := by decide +kernel
theorem dX3_readSign_79 : decode cX3_readSign 79 = .ok (.bipush 60, 2) := by decide +kernel
theorem dX3_readSign_81 : decode cX3_readSign 81 = .ok (.if_icmp .lt 11, 3) := by decide +kernel
theorem dX3_readSign_84 : decode cX3_readSign 84 = .ok (.aload_n 0, 1) := by decide +kernel
theorem dX3_readSign_85 : decode cX3_readSign 85 = .ok (.iconst 3, 1) := by decide +kernel
theorem dX3_readSign_86 : decode cX3_readSign 86 = .ok (.invokevirtual 78, 3) := by decide +kernel
theorem dX3_readSign_89 : decode cX3_readSign 89 = .ok (.goto 17, 3) := by decide +kernel
theorem dX3_readSign_92 : decode cX3_readSign 92 = .ok (.aload_n 0, 1) := by decide +kernel
theorem dX3_readSign_93 : decode cX3_readSign 93 = .ok (.dup, 1) := by decide +kernel
theorem dX3_readSign_94 : decode cX3_readSign 94 = .ok (.getfield 44, 3) := by decide +kernel
theorem dX3_readSign_97 : decode cX3_readSign 97 = .ok (.iconst 1, 1) := by decide +kernel
theorem dX3_readSign_98 : decode cX3_readSign 98 = .ok (.iadd, 1) := by decide +kernel
theorem dX3_readSign_99 : decode cX3_readSign 99 = .ok (.putfield 44, 3) := by decide +kernel
theorem dX3_readSign_102 : decode cX3_readSign 102 = .ok (.aload_n 0, 1) := by decide +kernel
theorem dX3_readSign_103 : decode cX3_readSign 103 = .ok (.invokevirtual 61, 3) := by decide +kernel
theorem dX3_readSign_106 : decode cX3_readSign 106 = .ok (.return_, 1) := by decide +kernel
theorem dX3_readSum_0 : decode cX3_readSum 0 = .ok (.iconst (-1), 1) := by decide +kernel
theorem dX3_readSum_1 : decode cX3_readSum 1 = .ok (.istore_n 1, 1) := by decide +kernel
theorem dX3_readSum_2 : decode cX3_readSum 2 = .ok (.aload_n 0, 1) := by decide +kernel
theorem dX3_readSum_3 : decode cX3_readSum 3 = .ok (.invokevirtual 165, 3) := by decide +kernel
theorem dX3_readSum_6 : decode cX3_readSum 6 = .ok (.iconst 0, 1) := by decide +kernel
theorem dX3_readSum_7 : decode cX3_readSum 7 = .ok (.istore_n 2, 1) := by decide +kernel
theorem dX3_readSum_8 : decode cX3_readSum 8 = .ok (.iload_n 2, 1) := by decide +kernel
theorem dX3_readSum_9 : decode cX3_readSum 9 = .ok (.sipush 400, 3) := by decide +kernel
theorem dX3_readSum_12 : decode cX3_readSum 12 = .ok (.if_icmp .ge 116, 3) := by decide +kernel
theorem dX3_readSum_15 : decode cX3_readSum 15 = .ok (.aload_n 0, 1) := by decide +kernel
theorem dX3_readSum_16 : decode cX3_readSum 16 = .ok (.getfield 41, 3) := by decide +kernel
theorem dX3_readSum_19 : decode cX3_readSum 19 = .ok (.ifCond .ne 109, 3) := by decide +kernel
theorem dX3_readSum_22 : decode cX3_readSum 22 = .ok (.aload_n 0, 1) := by decide +kernel
theorem dX3_readSum_23 : decode cX3_readSum 23 = .ok (.getfield 68, 3) := by decide +kernel
theorem dX3_readSum_26 : decode cX3_readSum 26 = .ok (.istore_n 3, 1) := by decide +kernel
theorem dX3_readSum_27 : decode cX3_readSum 27 = .ok (.iload_n 3, 1) := by decide +kernel
theorem dX3_readSum_28 : decode cX3_readSum 28 = .ok (.bipush 42, 2) := by decide +kernel
theorem dX3_readSum_30 : decode cX3_readSum 30 = .ok (.if_icmp .eq 9, 3) := by decide +kernel
theorem dX3_readSum_33 : decode cX3_readSum 33 = .ok (.iload_n 3, 1) := by decide +kernel
theorem dX3_readSum_34 : decode cX3_readSum 34 = .ok (.bipush 47, 2) := by decide +kernel
theorem dX3_readSum_36 : decode cX3_readSum 36 = .ok (.if_icmp .ne 7, 3) := by decide +kernel
theorem dX3_readSum_39 : decode cX3_readSum 39 = .ok (.iconst 1, 1) := by decide +kernel
theorem dX3_readSum_40 : decode cX3_readSum 40 = .ok (.goto 4, 3) := by decide +kernel
theorem dX3_readSum_43 : decode cX3_readSum 43 = .ok (.iconst 0, 1) := by decide +kernel
theorem dX3_readSum_44 : decode cX3_readSum 44 = .ok (.istore 4, 2) := by decide +kernel
theorem dX3_readSum_46 : decode cX3_readSum 46 = .ok (.iload 4, 2) := by decide +kernel
theorem dX3_readSum_48 : decode cX3_readSum 48 = .ok (.ifCond .ne 18, 3) := by decide +kernel
theorem dX3_readSum_51 : decode cX3_readSum 51 = .ok (.iload_n 3, 1) := by decide +kernel
theorem dX3_readSum_52 : decode cX3_readSum 52 = .ok (.bipush 43, 2) := by decide +kernel
theorem dX3_readSum_54 : decode cX3_readSum 54 = .ok (.if_icmp .eq 12, 3) := by decide +kernel
theorem dX3_readSum_57 : decode cX3_readSum 57 = .ok (.iload_n 3, 1) := by decide +kernel
theorem dX3_readSum_58 : decode cX3_readSum 58 = .ok (.bipush 45, 2) := by decide +kernel
theorem dX3_readSum_60 : decode cX3_readSum 60 = .ok (.if_icmp .eq 6, 3) := by decide +kernel
theorem dX3_readSum_63 : decode cX3_readSum 63 = .ok (.goto 65, 3) := by decide +kernel
theorem dX3_readSum_66 : decode cX3_readSum 66 = .ok (.aload_n 0, 1) := by decide +kernel
theorem dX3_readSum_67 : decode cX3_readSum 67 = .ok (.invokevirtual 61, 3) := by decide +kernel
theorem dX3_readSum_70 : decode cX3_readSum 70 = .ok (.iload 4, 2) := by decide +kernel
theorem dX3_readSum_72 : decode cX3_readSum 72 = .ok (.ifCond .ne 19, 3) := by decide +kernel
