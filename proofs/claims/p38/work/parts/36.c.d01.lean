theorem dX10_fillWords_60 : decode cX10_fillWords 60 = .ok (.aload_n 3, 1) := by decide +kernel
theorem dX10_fillWords_61 : decode cX10_fillWords 61 = .ok (.getfield 476, 3) := by decide +kernel
theorem dX10_fillWords_64 : decode cX10_fillWords 64 = .ok (.lastore, 1) := by decide +kernel
theorem dX10_fillWords_65 : decode cX10_fillWords 65 = .ok (.aload_n 0, 1) := by decide +kernel
theorem dX10_fillWords_66 : decode cX10_fillWords 66 = .ok (.getfield 88, 3) := by decide +kernel
theorem dX10_fillWords_69 : decode cX10_fillWords 69 = .ok (.iconst 3, 1) := by decide +kernel
theorem dX10_fillWords_70 : decode cX10_fillWords 70 = .ok (.aload_n 3, 1) := by decide +kernel
theorem dX10_fillWords_71 : decode cX10_fillWords 71 = .ok (.getfield 383, 3) := by decide +kernel
theorem dX10_fillWords_74 : decode cX10_fillWords 74 = .ok (.lastore, 1) := by decide +kernel
theorem dX10_fillWords_75 : decode cX10_fillWords 75 = .ok (.aload_n 0, 1) := by decide +kernel
theorem dX10_fillWords_76 : decode cX10_fillWords 76 = .ok (.getfield 88, 3) := by decide +kernel
theorem dX10_fillWords_79 : decode cX10_fillWords 79 = .ok (.iconst 4, 1) := by decide +kernel
theorem dX10_fillWords_80 : decode cX10_fillWords 80 = .ok (.aload_n 3, 1) := by decide +kernel
theorem dX10_fillWords_81 : decode cX10_fillWords 81 = .ok (.getfield 478, 3) := by decide +kernel
theorem dX10_fillWords_84 : decode cX10_fillWords 84 = .ok (.i2l, 1) := by decide +kernel
theorem dX10_fillWords_85 : decode cX10_fillWords 85 = .ok (.lastore, 1) := by decide +kernel
theorem dX10_fillWords_86 : decode cX10_fillWords 86 = .ok (.aload_n 0, 1) := by decide +kernel
theorem dX10_fillWords_87 : decode cX10_fillWords 87 = .ok (.getfield 88, 3) := by decide +kernel
theorem dX10_fillWords_90 : decode cX10_fillWords 90 = .ok (.iconst 5, 1) := by decide +kernel
theorem dX10_fillWords_91 : decode cX10_fillWords 91 = .ok (.aload_n 0, 1) := by decide +kernel
theorem dX10_fillWords_92 : decode cX10_fillWords 92 = .ok (.getfield 63, 3) := by decide +kernel
theorem dX10_fillWords_95 : decode cX10_fillWords 95 = .ok (.iconst 2, 1) := by decide +kernel
theorem dX10_fillWords_96 : decode cX10_fillWords 96 = .ok (.invokevirtual 330, 3) := by decide +kernel
theorem dX10_fillWords_99 : decode cX10_fillWords 99 = .ok (.i2l, 1) := by decide +kernel
theorem dX10_fillWords_100 : decode cX10_fillWords 100 = .ok (.lastore, 1) := by decide +kernel
theorem dX10_fillWords_101 : decode cX10_fillWords 101 = .ok (.aload_n 0, 1) := by decide +kernel
theorem dX10_fillWords_102 : decode cX10_fillWords 102 = .ok (.getfield 88, 3) := by decide +kernel
theorem dX10_fillWords_105 : decode cX10_fillWords 105 = .ok (.bipush 6, 2) := by decide +kernel
theorem dX10_fillWords_107 : decode cX10_fillWords 107 = .ok (.aload_n 0, 1) := by decide +kernel
theorem dX10_fillWords_108 : decode cX10_fillWords 108 = .ok (.getfield 63, 3) := by decide +kernel
theorem dX10_fillWords_111 : decode cX10_fillWords 111 = .ok (.iconst 3, 1) := by decide +kernel
theorem dX10_fillWords_112 : decode cX10_fillWords 112 = .ok (.invokevirtual 330, 3) := by decide +kernel
theorem dX10_fillWords_115 : decode cX10_fillWords 115 = .ok (.i2l, 1) := by decide +kernel
theorem dX10_fillWords_116 : decode cX10_fillWords 116 = .ok (.lastore, 1) := by decide +kernel
theorem dX10_fillWords_117 : decode cX10_fillWords 117 = .ok (.aload_n 0, 1) := by decide +kernel
theorem dX10_fillWords_118 : decode cX10_fillWords 118 = .ok (.getfield 88, 3) := by decide +kernel
theorem dX10_fillWords_121 : decode cX10_fillWords 121 = .ok (.bipush 7, 2) := by decide +kernel
theorem dX10_fillWords_123 : decode cX10_fillWords 123 = .ok (.aload_n 0, 1) := by decide +kernel
theorem dX10_fillWords_124 : decode cX10_fillWords 124 = .ok (.iload_n 1, 1) := by decide +kernel
theorem dX10_fillWords_125 : decode cX10_fillWords 125 = .ok (.iload_n 2, 1) := by decide +kernel
theorem dX10_fillWords_126 : decode cX10_fillWords 126 = .ok (.aload_n 3, 1) := by decide +kernel
theorem dX10_fillWords_127 : decode cX10_fillWords 127 = .ok (.invokevirtual 323, 3) := by decide +kernel
theorem dX10_fillWords_130 : decode cX10_fillWords 130 = .ok (.i2l, 1) := by decide +kernel
theorem dX10_fillWords_131 : decode cX10_fillWords 131 = .ok (.lastore, 1) := by decide +kernel
theorem dX10_fillWords_132 : decode cX10_fillWords 132 = .ok (.aload_n 0, 1) := by decide +kernel
theorem dX10_fillWords_133 : decode cX10_fillWords 133 = .ok (.getfield 88, 3) := by decide +kernel
theorem dX10_fillWords_136 : decode cX10_fillWords 136 = .ok (.bipush 8, 2) := by decide +kernel
theorem dX10_fillWords_138 : decode cX10_fillWords 138 = .ok (.aload_n 0, 1) := by decide +kernel
theorem dX10_fillWords_139 : decode cX10_fillWords 139 = .ok (.getfield 63, 3) := by decide +kernel
theorem dX10_fillWords_142 : decode cX10_fillWords 142 = .ok (.iconst 5, 1) := by decide +kernel
theorem dX10_fillWords_143 : decode cX10_fillWords 143 = .ok (.invokevirtual 330, 3) := by decide +kernel
theorem dX10_fillWords_146 : decode cX10_fillWords 146 = .ok (.i2l, 1) := by decide +kernel
theorem dX10_fillWords_147 : decode cX10_fillWords 147 = .ok (.lastore, 1) := by decide +kernel
theorem dX10_fillWords_148 : decode cX10_fillWords 148 = .ok (.aload_n 0, 1) := by decide +kernel
theorem dX10_fillWords_149 : decode cX10_fillWords 149 = .ok (.getfield 88, 3) := by decide +kernel
theorem dX10_fillWords_152 : decode cX10_fillWords 152 = .ok (.bipush 9, 2) := by decide +kernel
theorem dX10_fillWords_154 : decode cX10_fillWords 154 = .ok (.aload_n 0, 1) := by decide +kernel
theorem dX10_fillWords_155 : decode cX10_fillWords 155 = .ok (.getfield 10, 3) := by decide +kernel
theorem dX10_fillWords_158 : decode cX10_fillWords 158 = .ok (.iload_n 2, 1) := by decide +kernel
theorem dX10_fillWords_159 : decode cX10_fillWords 159 = .ok (.invokevirtual 457, 3) := by decide +kernel
theorem dX10_fillWords_162 : decode cX10_fillWords 162 = .ok (.lastore, 1) := by decide +kernel
theorem dX10_fillWords_163 : decode cX10_fillWords 163 = .ok (.return_, 1) := by decide +kernel
theorem dX10_findAll_0 : decode cX10_findAll 0 = .ok (.iconst 0, 1) := by decide +kernel
theorem dX10_findAll_1 : decode cX10_findAll 1 = .ok (.istore_n 3, 1) := by decide +kernel
theorem dX10_findAll_2 : decode cX10_findAll 2 = .ok (.iload_n 3, 1) := by decide +kernel
theorem dX10_findAll_3 : decode cX10_findAll 3 = .ok (.aload_n 0, 1) := by decide +kernel
theorem dX10_findAll_4 : decode cX10_findAll 4 = .ok (.getfield 10, 3) := by decide +kernel
theorem dX10_findAll_7 : decode cX10_findAll 7 = .ok (.getfield 352, 3) := by decide +kernel
theorem dX10_findAll_10 : decode cX10_findAll 10 = .ok (.if_icmp .ge 17, 3) := by decide +kernel
theorem dX10_findAll_13 : decode cX10_findAll 13 = .ok (.aload_n 0, 1) := by decide +kernel
theorem dX10_findAll_14 : decode cX10_findAll 14 = .ok (.iload_n 1, 1) := by decide +kernel
theorem dX10_findAll_15 : decode cX10_findAll 15 = .ok (.iload_n 3, 1) := by decide +kernel
theorem dX10_findAll_16 : decode cX10_findAll 16 = .ok (.iload_n 2, 1) := by decide +kernel
theorem dX10_findAll_17 : decode cX10_findAll 17 = .ok (.invokevirtual 264, 3) := by decide +kernel
theorem dX10_findAll_20 : decode cX10_findAll 20 = .ok (.pop, 1) := by decide +kernel
theorem dX10_findAll_21 : decode cX10_findAll 21 = .ok (.iinc 3 1, 3) := by decide +kernel
theorem dX10_findAll_24 : decode cX10_findAll 24 = .ok (.goto (-22), 3) := by decide +kernel
theorem dX10_findAll_27 : decode cX10_findAll 27 = .ok (.return_, 1) := by decide +kernel
theorem dX10_findingOf_0 : decode cX10_findingOf 0 = .ok (.aload_n 0, 1) := by decide +kernel
theorem dX10_findingOf_1 : decode cX10_findingOf 1 = .ok (.iload_n 1, 1) := by decide +kernel
theorem dX10_findingOf_2 : decode cX10_findingOf 2 = .ok (.invokevirtual 259, 3) := by decide +kernel
theorem dX10_findingOf_5 : decode cX10_findingOf 5 = .ok (.astore 4, 2) := by decide +kernel
theorem dX10_findingOf_7 : decode cX10_findingOf 7 = .ok (.iload_n 1, 1) := by decide +kernel
theorem dX10_findingOf_8 : decode cX10_findingOf 8 = .ok (.iload_n 2, 1) := by decide +kernel
theorem dX10_findingOf_9 : decode cX10_findingOf 9 = .ok (.iload_n 3, 1) := by decide +kernel
theorem dX10_findingOf_10 : decode cX10_findingOf 10 = .ok (.invokestatic 442, 3) := by decide +kernel
theorem dX10_findingOf_13 : decode cX10_findingOf 13 = .ok (.istore 5, 2) := by decide +kernel
theorem dX10_findingOf_15 : decode cX10_findingOf 15 = .ok (.aload 4, 2) := by decide +kernel
theorem dX10_findingOf_17 : decode cX10_findingOf 17 = .ok (.ifnull 9, 3) := by decide +kernel
theorem dX10_findingOf_20 : decode cX10_findingOf 20 = .ok (.iload 5, 2) := by decide +kernel
theorem dX10_findingOf_22 : decode cX10_findingOf 22 = .ok (.iconst (-1), 1) := by decide +kernel
theorem dX10_findingOf_23 : decode cX10_findingOf 23 = .ok (.if_icmp .ne 8, 3) := by decide +kernel
theorem dX10_findingOf_26 : decode cX10_findingOf 26 = .ok (.aload_n 0, 1) := by decide +kernel
theorem dX10_findingOf_27 : decode cX10_findingOf 27 = .ok (.getfield 70, 3) := by decide +kernel
theorem dX10_findingOf_30 : decode cX10_findingOf 30 = .ok (.areturn, 1) := by decide +kernel
theorem dX10_findingOf_31 : decode cX10_findingOf 31 = .ok (.aload_n 0, 1) := by decide +kernel
theorem dX10_findingOf_32 : decode cX10_findingOf 32 = .ok (.getfield 77, 3) := by decide +kernel
theorem dX10_findingOf_35 : decode cX10_findingOf 35 = .ok (.iload 5, 2) := by decide +kernel
theorem dX10_findingOf_37 : decode cX10_findingOf 37 = .ok (.invokestatic 445, 3) := by decide +kernel
theorem dX10_findingOf_40 : decode cX10_findingOf 40 = .ok (.astore 6, 2) := by decide +kernel
theorem dX10_findingOf_42 : decode cX10_findingOf 42 = .ok (.aload 6, 2) := by decide +kernel
theorem dX10_findingOf_44 : decode cX10_findingOf 44 = .ok (.getfield 449, 3) := by decide +kernel
theorem dX10_findingOf_47 : decode cX10_findingOf 47 = .ok (.aload_n 0, 1) := by decide +kernel
theorem dX10_findingOf_48 : decode cX10_findingOf 48 = .ok (.getfield 84, 3) := by decide +kernel
theorem dX10_findingOf_51 : decode cX10_findingOf 51 = .ok (.if_icmp .eq 40, 3) := by decide +kernel
theorem dX10_findingOf_54 : decode cX10_findingOf 54 = .ok (.aload_n 0, 1) := by decide +kernel
theorem dX10_findingOf_55 : decode cX10_findingOf 55 = .ok (.getfield 49, 3) := by decide +kernel
theorem dX10_findingOf_58 : decode cX10_findingOf 58 = .ok (.aload_n 0, 1) := by decide +kernel
theorem dX10_findingOf_59 : decode cX10_findingOf 59 = .ok (.getfield 10, 3) := by decide +kernel
theorem dX10_findingOf_62 : decode cX10_findingOf 62 = .ok (.iload_n 2, 1) := by decide +kernel
theorem dX10_findingOf_63 : decode cX10_findingOf 63 = .ok (.iload_n 3, 1) := by decide +kernel
theorem dX10_findingOf_64 : decode cX10_findingOf 64 = .ok (.invokevirtual 143, 3) := by decide +kernel
theorem dX10_findingOf_67 : decode cX10_findingOf 67 = .ok (.aload_n 0, 1) := by decide +kernel
theorem dX10_findingOf_68 : decode cX10_findingOf 68 = .ok (.getfield 56, 3) := by decide +kernel
theorem dX10_findingOf_71 : decode cX10_findingOf 71 = .ok (.aload_n 0, 1) := by decide +kernel
theorem dX10_findingOf_72 : decode cX10_findingOf 72 = .ok (.getfield 49, 3) := by decide +kernel
theorem dX10_findingOf_75 : decode cX10_findingOf 75 = .ok (.aload 4, 2) := by decide +kernel
theorem dX10_findingOf_77 : decode cX10_findingOf 77 = .ok (.aload 6, 2) := by decide +kernel
theorem dX10_findingOf_79 : decode cX10_findingOf 79 = .ok (.invokevirtual 372, 3) := by decide +kernel
theorem dX10_findingOf_82 : decode cX10_findingOf 82 = .ok (.aload 6, 2) := by decide +kernel
theorem dX10_findingOf_84 : decode cX10_findingOf 84 = .ok (.aload_n 0, 1) := by decide +kernel
theorem dX10_findingOf_85 : decode cX10_findingOf 85 = .ok (.getfield 84, 3) := by decide +kernel
theorem dX10_findingOf_88 : decode cX10_findingOf 88 = .ok (.putfield 449, 3) := by decide +kernel
theorem dX10_findingOf_91 : decode cX10_findingOf 91 = .ok (.aload 6, 2) := by decide +kernel
theorem dX10_findingOf_93 : decode cX10_findingOf 93 = .ok (.areturn, 1) := by decide +kernel
theorem dX10_findingWith_0 : decode cX10_findingWith 0 = .ok (.aload_n 0, 1) := by decide +kernel
theorem dX10_findingWith_1 : decode cX10_findingWith 1 = .ok (.iload_n 1, 1) := by decide +kernel
theorem dX10_findingWith_2 : decode cX10_findingWith 2 = .ok (.invokevirtual 259, 3) := by decide +kernel
theorem dX10_findingWith_5 : decode cX10_findingWith 5 = .ok (.astore_n 3, 1) := by decide +kernel
theorem dX10_findingWith_6 : decode cX10_findingWith 6 = .ok (.aload_n 0, 1) := by decide +kernel
theorem dX10_findingWith_7 : decode cX10_findingWith 7 = .ok (.getfield 10, 3) := by decide +kernel
theorem dX10_findingWith_10 : decode cX10_findingWith 10 = .ok (.iload_n 2, 1) := by decide +kernel
theorem dX10_findingWith_11 : decode cX10_findingWith 11 = .ok (.invokevirtual 280, 3) := by decide +kernel
theorem dX10_findingWith_14 : decode cX10_findingWith 14 = .ok (.astore 4, 2) := by decide +kernel
theorem dX10_findingWith_16 : decode cX10_findingWith 16 = .ok (.aload_n 3, 1) := by decide +kernel
theorem dX10_findingWith_17 : decode cX10_findingWith 17 = .ok (.ifnull 18, 3) := by decide +kernel
theorem dX10_findingWith_20 : decode cX10_findingWith 20 = .ok (.aload 4, 2) := by decide +kernel
theorem dX10_findingWith_22 : decode cX10_findingWith 22 = .ok (.ifnull 13, 3) := by decide +kernel
theorem dX10_findingWith_25 : decode cX10_findingWith 25 = .ok (.iload_n 2, 1) := by decide +kernel
theorem dX10_findingWith_26 : decode cX10_findingWith 26 = .ok (.iconst 0, 1) := by decide +kernel
theorem dX10_findingWith_27 : decode cX10_findingWith 27 = .ok (.bipush 39, 2) := by decide +kernel
theorem dX10_findingWith_29 : decode cX10_findingWith 29 = .ok (.invokestatic 100, 3) := by decide +kernel
theorem dX10_findingWith_32 : decode cX10_findingWith 32 = .ok (.ifCond .ne 8, 3) := by decide +kernel
theorem dX10_findingWith_35 : decode cX10_findingWith 35 = .ok (.aload_n 0, 1) := by decide +kernel
theorem dX10_findingWith_36 : decode cX10_findingWith 36 = .ok (.getfield 70, 3) := by decide +kernel
theorem dX10_findingWith_39 : decode cX10_findingWith 39 = .ok (.areturn, 1) := by decide +kernel
theorem dX10_findingWith_40 : decode cX10_findingWith 40 = .ok (.aload_n 0, 1) := by decide +kernel
theorem dX10_findingWith_41 : decode cX10_findingWith 41 = .ok (.getfield 81, 3) := by decide +kernel
theorem dX10_findingWith_44 : decode cX10_findingWith 44 = .ok (.iload_n 1, 1) := by decide +kernel
theorem dX10_findingWith_45 : decode cX10_findingWith 45 = .ok (.bipush 40, 2) := by decide +kernel
theorem dX10_findingWith_47 : decode cX10_findingWith 47 = .ok (.imul, 1) := by decide +kernel
theorem dX10_findingWith_48 : decode cX10_findingWith 48 = .ok (.iload_n 2, 1) := by decide +kernel
theorem dX10_findingWith_49 : decode cX10_findingWith 49 = .ok (.iadd, 1) := by decide +kernel
theorem dX10_findingWith_50 : decode cX10_findingWith 50 = .ok (.invokestatic 445, 3) := by decide +kernel
theorem dX10_findingWith_53 : decode cX10_findingWith 53 = .ok (.astore 5, 2) := by decide +kernel
theorem dX10_findingWith_55 : decode cX10_findingWith 55 = .ok (.aload 5, 2) := by decide +kernel
theorem dX10_findingWith_57 : decode cX10_findingWith 57 = .ok (.getfield 449, 3) := by decide +kernel
theorem dX10_findingWith_60 : decode cX10_findingWith 60 = .ok (.aload_n 0, 1) := by decide +kernel
theorem dX10_findingWith_61 : decode cX10_findingWith 61 = .ok (.getfield 84, 3) := by decide +kernel
theorem dX10_findingWith_64 : decode cX10_findingWith 64 = .ok (.if_icmp .eq 52, 3) := by decide +kernel
theorem dX10_findingWith_67 : decode cX10_findingWith 67 = .ok (.aload_n 0, 1) := by decide +kernel
theorem dX10_findingWith_68 : decode cX10_findingWith 68 = .ok (.getfield 49, 3) := by decide +kernel
theorem dX10_findingWith_71 : decode cX10_findingWith 71 = .ok (.aload_n 0, 1) := by decide +kernel
theorem dX10_findingWith_72 : decode cX10_findingWith 72 = .ok (.getfield 10, 3) := by decide +kernel
theorem dX10_findingWith_75 : decode cX10_findingWith 75 = .ok (.aload 4, 2) := by decide +kernel
theorem dX10_findingWith_77 : decode cX10_findingWith 77 = .ok (.getfield 450, 3) := by decide +kernel
theorem dX10_findingWith_80 : decode cX10_findingWith 80 = .ok (.iconst 0, 1) := by decide +kernel
theorem dX10_findingWith_81 : decode cX10_findingWith 81 = .ok (.invokevirtual 143, 3) := by decide +kernel
theorem dX10_findingWith_84 : decode cX10_findingWith 84 = .ok (.aload_n 0, 1) := by decide +kernel
theorem dX10_findingWith_85 : decode cX10_findingWith 85 = .ok (.getfield 49, 3) := by decide +kernel
theorem dX10_findingWith_88 : decode cX10_findingWith 88 = .ok (.aload 4, 2) := by decide +kernel
theorem dX10_findingWith_90 : decode cX10_findingWith 90 = .ok (.invokevirtual 453, 3) := by decide +kernel
theorem dX10_findingWith_93 : decode cX10_findingWith 93 = .ok (.aload_n 0, 1) := by decide +kernel
theorem dX10_findingWith_94 : decode cX10_findingWith 94 = .ok (.getfield 56, 3) := by decide +kernel
theorem dX10_findingWith_97 : decode cX10_findingWith 97 = .ok (.aload_n 0, 1) := by decide +kernel
theorem dX10_findingWith_98 : decode cX10_findingWith 98 = .ok (.getfield 49, 3) := by decide +kernel
theorem dX10_findingWith_101 : decode cX10_findingWith 101 = .ok (.aload_n 3, 1) := by decide +kernel
theorem dX10_findingWith_102 : decode cX10_findingWith 102 = .ok (.aload 5, 2) := by decide +kernel
theorem dX10_findingWith_104 : decode cX10_findingWith 104 = .ok (.invokevirtual 372, 3) := by decide +kernel
theorem dX10_findingWith_107 : decode cX10_findingWith 107 = .ok (.aload 5, 2) := by decide +kernel
theorem dX10_findingWith_109 : decode cX10_findingWith 109 = .ok (.aload_n 0, 1) := by decide +kernel
theorem dX10_findingWith_110 : decode cX10_findingWith 110 = .ok (.getfield 84, 3) := by decide +kernel
theorem dX10_findingWith_113 : decode cX10_findingWith 113 = .ok (.putfield 449, 3) := by decide +kernel
theorem dX10_findingWith_116 : decode cX10_findingWith 116 = .ok (.aload 5, 2) := by decide +kernel
theorem dX10_findingWith_118 : decode cX10_findingWith 118 = .ok (.areturn, 1) := by decide +kernel
theorem dX10_finest_0 : decode cX10_finest 0 = .ok (.iconst (-1), 1) := by decide +kernel
theorem dX10_finest_1 : decode cX10_finest 1 = .ok (.istore_n 1, 1) := by decide +kernel
theorem dX10_finest_2 : decode cX10_finest 2 = .ok (.iconst 0, 1) := by decide +kernel
theorem dX10_finest_3 : decode cX10_finest 3 = .ok (.istore_n 2, 1) := by decide +kernel
theorem dX10_finest_4 : decode cX10_finest 4 = .ok (.iconst 0, 1) := by decide +kernel
theorem dX10_finest_5 : decode cX10_finest 5 = .ok (.istore_n 3, 1) := by decide +kernel
theorem dX10_finest_6 : decode cX10_finest 6 = .ok (.iconst 0, 1) := by decide +kernel
theorem dX10_finest_7 : decode cX10_finest 7 = .ok (.istore 4, 2) := by decide +kernel
theorem dX10_finest_9 : decode cX10_finest 9 = .ok (.iload 4, 2) := by decide +kernel
theorem dX10_finest_11 : decode cX10_finest 11 = .ok (.aload_n 0, 1) := by decide +kernel
theorem dX10_finest_12 : decode cX10_finest 12 = .ok (.getfield 172, 3) := by decide +kernel
theorem dX10_finest_15 : decode cX10_finest 15 = .ok (.if_icmp .ge 86, 3) := by decide +kernel
theorem dX10_finest_18 : decode cX10_finest 18 = .ok (.aload_n 0, 1) := by decide +kernel
theorem dX10_finest_19 : decode cX10_finest 19 = .ok (.iload 4, 2) := by decide +kernel
theorem dX10_finest_21 : decode cX10_finest 21 = .ok (.invokevirtual 259, 3) := by decide +kernel
theorem dX10_finest_24 : decode cX10_finest 24 = .ok (.astore 5, 2) := by decide +kernel
theorem dX10_finest_26 : decode cX10_finest 26 = .ok (.aload 5, 2) := by decide +kernel
theorem dX10_finest_28 : decode cX10_finest 28 = .ok (.ifnonnull 7, 3) := by decide +kernel
theorem dX10_finest_31 : decode cX10_finest 31 = .ok (.iconst 0, 1) := by decide +kernel
theorem dX10_finest_32 : decode cX10_finest 32 = .ok (.goto 8, 3) := by decide +kernel
theorem dX10_finest_35 : decode cX10_finest 35 = .ok (.aload 5, 2) := by decide +kernel
theorem dX10_finest_37 : decode cX10_finest 37 = .ok (.getfield 268, 3) := by decide +kernel
theorem dX10_finest_40 : decode cX10_finest 40 = .ok (.istore 6, 2) := by decide +kernel
theorem dX10_finest_42 : decode cX10_finest 42 = .ok (.aload_n 0, 1) := by decide +kernel
theorem dX10_finest_43 : decode cX10_finest 43 = .ok (.iload 4, 2) := by decide +kernel
theorem dX10_finest_45 : decode cX10_finest 45 = .ok (.iload 6, 2) := by decide +kernel
theorem dX10_finest_47 : decode cX10_finest 47 = .ok (.invokevirtual 299, 3) := by decide +kernel
theorem dX10_finest_50 : decode cX10_finest 50 = .ok (.istore 7, 2) := by decide +kernel
theorem dX10_finest_52 : decode cX10_finest 52 = .ok (.aload_n 0, 1) := by decide +kernel
theorem dX10_finest_53 : decode cX10_finest 53 = .ok (.iload 4, 2) := by decide +kernel
theorem dX10_finest_55 : decode cX10_finest 55 = .ok (.iconst 1, 1) := by decide +kernel
theorem dX10_finest_56 : decode cX10_finest 56 = .ok (.iload 6, 2) := by decide +kernel
theorem dX10_finest_58 : decode cX10_finest 58 = .ok (.invokevirtual 311, 3) := by decide +kernel
theorem dX10_finest_61 : decode cX10_finest 61 = .ok (.istore 8, 2) := by decide +kernel
theorem dX10_finest_63 : decode cX10_finest 63 = .ok (.iload_n 1, 1) := by decide +kernel
theorem dX10_finest_64 : decode cX10_finest 64 = .ok (.iconst (-1), 1) := by decide +kernel
theorem dX10_finest_65 : decode cX10_finest 65 = .ok (.if_icmp .eq 21, 3) := by decide +kernel
theorem dX10_finest_68 : decode cX10_finest 68 = .ok (.iload 7, 2) := by decide +kernel
theorem dX10_finest_70 : decode cX10_finest 70 = .ok (.iload_n 2, 1) := by decide +kernel
theorem dX10_finest_71 : decode cX10_finest 71 = .ok (.if_icmp .gt 15, 3) := by decide +kernel
theorem dX10_finest_74 : decode cX10_finest 74 = .ok (.iload 7, 2) := by decide +kernel
theorem dX10_finest_76 : decode cX10_finest 76 = .ok (.iload_n 2, 1) := by decide +kernel
theorem dX10_finest_77 : decode cX10_finest 77 = .ok (.if_icmp .ne 18, 3) := by decide +kernel
theorem dX10_finest_80 : decode cX10_finest 80 = .ok (.iload 8, 2) := by decide +kernel
theorem dX10_finest_82 : decode cX10_finest 82 = .ok (.iload_n 3, 1) := by decide +kernel
theorem dX10_finest_83 : decode cX10_finest 83 = .ok (.if_icmp .ge 12, 3) := by decide +kernel
theorem dX10_finest_86 : decode cX10_finest 86 = .ok (.iload 4, 2) := by decide +kernel
theorem dX10_finest_88 : decode cX10_finest 88 = .ok (.istore_n 1, 1) := by decide +kernel
theorem dX10_finest_89 : decode cX10_finest 89 = .ok (.iload 7, 2) := by decide +kernel
theorem dX10_finest_91 : decode cX10_finest 91 = .ok (.istore_n 2, 1) := by decide +kernel
theorem dX10_finest_92 : decode cX10_finest 92 = .ok (.iload 8, 2) := by decide +kernel
theorem dX10_finest_94 : decode cX10_finest 94 = .ok (.istore_n 3, 1) := by decide +kernel
theorem dX10_finest_95 : decode cX10_finest 95 = .ok (.iinc 4 1, 3) := by decide +kernel
theorem dX10_finest_98 : decode cX10_finest 98 = .ok (.goto (-89), 3) := by decide +kernel
theorem dX10_finest_101 : decode cX10_finest 101 = .ok (.iload_n 1, 1) := by decide +kernel
theorem dX10_finest_102 : decode cX10_finest 102 = .ok (.ireturn, 1) := by decide +kernel
theorem dX10_fold_0 : decode cX10_fold 0 = .ok (.iload_n 3, 1) := by decide +kernel
theorem dX10_fold_1 : decode cX10_fold 1 = .ok (.invokestatic 234, 3) := by decide +kernel
theorem dX10_fold_4 : decode cX10_fold 4 = .ok (.ifCond .eq 19, 3) := by decide +kernel
theorem dX10_fold_7 : decode cX10_fold 7 = .ok (.iload 4, 2) := by decide +kernel
theorem dX10_fold_9 : decode cX10_fold 9 = .ok (.iconst 0, 1) := by decide +kernel
theorem dX10_fold_10 : decode cX10_fold 10 = .ok (.iload_n 3, 1) := by decide +kernel
theorem dX10_fold_11 : decode cX10_fold 11 = .ok (.iconst 1, 1) := by decide +kernel
theorem dX10_fold_12 : decode cX10_fold 12 = .ok (.isub, 1) := by decide +kernel
theorem dX10_fold_13 : decode cX10_fold 13 = .ok (.invokestatic 100, 3) := by decide +kernel
theorem dX10_fold_16 : decode cX10_fold 16 = .ok (.ifCond .eq 7, 3) := by decide +kernel
theorem dX10_fold_19 : decode cX10_fold 19 = .ok (.iconst 1, 1) := by decide +kernel
theorem dX10_fold_20 : decode cX10_fold 20 = .ok (.goto 4, 3) := by decide +kernel
theorem dX10_fold_23 : decode cX10_fold 23 = .ok (.iconst 0, 1) := by decide +kernel
theorem dX10_fold_24 : decode cX10_fold 24 = .ok (.istore 6, 2) := by decide +kernel
theorem dX10_fold_26 : decode cX10_fold 26 = .ok (.aload_n 0, 1) := by decide +kernel
theorem dX10_fold_27 : decode cX10_fold 27 = .ok (.iload_n 1, 1) := by decide +kernel
theorem dX10_fold_28 : decode cX10_fold 28 = .ok (.invokevirtual 137, 3) := by decide +kernel
theorem dX10_fold_31 : decode cX10_fold 31 = .ok (.ifCond .eq 25, 3) := by decide +kernel
theorem dX10_fold_34 : decode cX10_fold 34 = .ok (.iload_n 2, 1) := by decide +kernel
theorem dX10_fold_35 : decode cX10_fold 35 = .ok (.invokestatic 140, 3) := by decide +kernel
theorem dX10_fold_38 : decode cX10_fold 38 = .ok (.ifCond .eq 18, 3) := by decide +kernel
theorem dX10_fold_41 : decode cX10_fold 41 = .ok (.iload 6, 2) := by decide +kernel
theorem dX10_fold_43 : decode cX10_fold 43 = .ok (.ifCond .eq 13, 3) := by decide +kernel
theorem dX10_fold_46 : decode cX10_fold 46 = .ok (.iload 5, 2) := by decide +kernel
theorem dX10_fold_48 : decode cX10_fold 48 = .ok (.iconst 0, 1) := by decide +kernel
theorem dX10_fold_49 : decode cX10_fold 49 = .ok (.iconst 1, 1) := by decide +kernel
theorem dX10_fold_50 : decode cX10_fold 50 = .ok (.invokestatic 100, 3) := by decide +kernel
theorem dX10_fold_53 : decode cX10_fold 53 = .ok (.ifCond .ne 7, 3) := by decide +kernel
theorem dX10_fold_56 : decode cX10_fold 56 = .ok (.ldc2_w 408, 3) := by decide +kernel
theorem dX10_fold_59 : decode cX10_fold 59 = .ok (.lreturn, 1) := by decide +kernel
theorem dX10_fold_60 : decode cX10_fold 60 = .ok (.aload_n 0, 1) := by decide +kernel
theorem dX10_fold_61 : decode cX10_fold 61 = .ok (.getfield 49, 3) := by decide +kernel
theorem dX10_fold_64 : decode cX10_fold 64 = .ok (.aload_n 0, 1) := by decide +kernel
theorem dX10_fold_65 : decode cX10_fold 65 = .ok (.getfield 10, 3) := by decide +kernel
theorem dX10_fold_68 : decode cX10_fold 68 = .ok (.iload_n 1, 1) := by decide +kernel
theorem dX10_fold_69 : decode cX10_fold 69 = .ok (.iload_n 2, 1) := by decide +kernel
theorem dX10_fold_70 : decode cX10_fold 70 = .ok (.invokevirtual 143, 3) := by decide +kernel
theorem dX10_fold_73 : decode cX10_fold 73 = .ok (.aload_n 0, 1) := by decide +kernel
theorem dX10_fold_74 : decode cX10_fold 74 = .ok (.getfield 49, 3) := by decide +kernel
theorem dX10_fold_77 : decode cX10_fold 77 = .ok (.iload_n 3, 1) := by decide +kernel
theorem dX10_fold_78 : decode cX10_fold 78 = .ok (.iconst 1, 1) := by decide +kernel
theorem dX10_fold_79 : decode cX10_fold 79 = .ok (.iload 4, 2) := by decide +kernel
theorem dX10_fold_81 : decode cX10_fold 81 = .ok (.invokevirtual 239, 3) := by decide +kernel
theorem dX10_fold_84 : decode cX10_fold 84 = .ok (.iload 5, 2) := by decide +kernel
theorem dX10_fold_86 : decode cX10_fold 86 = .ok (.ifCond .ne 14, 3) := by decide +kernel
theorem dX10_fold_89 : decode cX10_fold 89 = .ok (.aload_n 0, 1) := by decide +kernel
theorem dX10_fold_90 : decode cX10_fold 90 = .ok (.getfield 49, 3) := by decide +kernel
theorem dX10_fold_93 : decode cX10_fold 93 = .ok (.getfield 243, 3) := by decide +kernel
theorem dX10_fold_96 : decode cX10_fold 96 = .ok (.i2l, 1) := by decide +kernel
theorem dX10_fold_97 : decode cX10_fold 97 = .ok (.goto 10, 3) := by decide +kernel
theorem dX10_fold_100 : decode cX10_fold 100 = .ok (.aload_n 0, 1) := by decide +kernel
theorem dX10_fold_101 : decode cX10_fold 101 = .ok (.getfield 49, 3) := by decide +kernel
theorem dX10_fold_104 : decode cX10_fold 104 = .ok (.getfield 410, 3) := by decide +kernel
theorem dX10_fold_107 : decode cX10_fold 107 = .ok (.lreturn, 1) := by decide +kernel
theorem dX10_found_0 : decode cX10_found 0 = .ok (.aload_n 0, 1) := by decide +kernel
theorem dX10_found_1 : decode cX10_found 1 = .ok (.iload_n 1, 1) := by decide +kernel
theorem dX10_found_2 : decode cX10_found 2 = .ok (.invokevirtual 259, 3) := by decide +kernel
theorem dX10_found_5 : decode cX10_found 5 = .ok (.astore 5, 2) := by decide +kernel
theorem dX10_found_7 : decode cX10_found 7 = .ok (.aload 5, 2) := by decide +kernel
theorem dX10_found_9 : decode cX10_found 9 = .ok (.ifnull 29, 3) := by decide +kernel
theorem dX10_found_12 : decode cX10_found 12 = .ok (.aload_n 0, 1) := by decide +kernel
theorem dX10_found_13 : decode cX10_found 13 = .ok (.iload_n 2, 1) := by decide +kernel
theorem dX10_found_14 : decode cX10_found 14 = .ok (.invokevirtual 137, 3) := by decide +kernel
theorem dX10_found_17 : decode cX10_found 17 = .ok (.ifCond .eq 21, 3) := by decide +kernel
theorem dX10_found_20 : decode cX10_found 20 = .ok (.iload_n 3, 1) := by decide +kernel
theorem dX10_found_21 : decode cX10_found 21 = .ok (.invokestatic 140, 3) := by decide +kernel
theorem dX10_found_24 : decode cX10_found 24 = .ok (.ifCond .eq 14, 3) := by decide +kernel
theorem dX10_found_27 : decode cX10_found 27 = .ok (.iload 4, 2) := by decide +kernel
theorem dX10_found_29 : decode cX10_found 29 = .ok (.iconst 0, 1) := by decide +kernel
theorem dX10_found_30 : decode cX10_found 30 = .ok (.bipush 6, 2) := by decide +kernel
theorem dX10_found_32 : decode cX10_found 32 = .ok (.invokestatic 100, 3) := by decide +kernel
theorem dX10_found_35 : decode cX10_found 35 = .ok (.ifCond .ne 7, 3) := by decide +kernel
theorem dX10_found_38 : decode cX10_found 38 = .ok (.ldc2_w 262, 3) := by decide +kernel
theorem dX10_found_41 : decode cX10_found 41 = .ok (.lreturn, 1) := by decide +kernel
theorem dX10_found_42 : decode cX10_found 42 = .ok (.aload_n 0, 1) := by decide +kernel
theorem dX10_found_43 : decode cX10_found 43 = .ok (.iload_n 1, 1) := by decide +kernel
theorem dX10_found_44 : decode cX10_found 44 = .ok (.iload_n 2, 1) := by decide +kernel
theorem dX10_found_45 : decode cX10_found 45 = .ok (.iload_n 3, 1) := by decide +kernel
theorem dX10_found_46 : decode cX10_found 46 = .ok (.invokevirtual 264, 3) := by decide +kernel
theorem dX10_found_49 : decode cX10_found 49 = .ok (.iload 4, 2) := by decide +kernel
theorem dX10_found_51 : decode cX10_found 51 = .ok (.aload 5, 2) := by decide +kernel
theorem dX10_found_53 : decode cX10_found 53 = .ok (.getfield 268, 3) := by decide +kernel
theorem dX10_found_56 : decode cX10_found 56 = .ok (.invokevirtual 271, 3) := by decide +kernel
theorem dX10_found_59 : decode cX10_found 59 = .ok (.lreturn, 1) := by decide +kernel
theorem dX10_foundFrom_0 : decode cX10_foundFrom 0 = .ok (.iconst 0, 1) := by decide +kernel
theorem dX10_foundFrom_1 : decode cX10_foundFrom 1 = .ok (.istore 4, 2) := by decide +kernel
theorem dX10_foundFrom_3 : decode cX10_foundFrom 3 = .ok (.iconst 0, 1) := by decide +kernel
theorem dX10_foundFrom_4 : decode cX10_foundFrom 4 = .ok (.istore 5, 2) := by decide +kernel
theorem dX10_foundFrom_6 : decode cX10_foundFrom 6 = .ok (.iload 5, 2) := by decide +kernel
theorem dX10_foundFrom_8 : decode cX10_foundFrom 8 = .ok (.aload_n 0, 1) := by decide +kernel
theorem dX10_foundFrom_9 : decode cX10_foundFrom 9 = .ok (.getfield 10, 3) := by decide +kernel
theorem dX10_foundFrom_12 : decode cX10_foundFrom 12 = .ok (.getfield 352, 3) := by decide +kernel
theorem dX10_foundFrom_15 : decode cX10_foundFrom 15 = .ok (.if_icmp .ge 34, 3) := by decide +kernel
theorem dX10_foundFrom_18 : decode cX10_foundFrom 18 = .ok (.iload 4, 2) := by decide +kernel
theorem dX10_foundFrom_20 : decode cX10_foundFrom 20 = .ok (.aload_n 0, 1) := by decide +kernel
theorem dX10_foundFrom_21 : decode cX10_foundFrom 21 = .ok (.iload_n 1, 1) := by decide +kernel
theorem dX10_foundFrom_22 : decode cX10_foundFrom 22 = .ok (.iload 5, 2) := by decide +kernel
theorem dX10_foundFrom_24 : decode cX10_foundFrom 24 = .ok (.iload_n 2, 1) := by decide +kernel
theorem dX10_foundFrom_25 : decode cX10_foundFrom 25 = .ok (.invokevirtual 264, 3) := by decide +kernel
theorem dX10_foundFrom_28 : decode cX10_foundFrom 28 = .ok (.iload_n 3, 1) := by decide +kernel
theorem dX10_foundFrom_29 : decode cX10_foundFrom 29 = .ok (.invokevirtual 392, 3) := by decide +kernel
theorem dX10_foundFrom_32 : decode cX10_foundFrom 32 = .ok (.ifCond .eq 7, 3) := by decide +kernel
theorem dX10_foundFrom_35 : decode cX10_foundFrom 35 = .ok (.iconst 1, 1) := by decide +kernel
theorem dX10_foundFrom_36 : decode cX10_foundFrom 36 = .ok (.goto 4, 3) := by decide +kernel
theorem dX10_foundFrom_39 : decode cX10_foundFrom 39 = .ok (.iconst 0, 1) := by decide +kernel
theorem dX10_foundFrom_40 : decode cX10_foundFrom 40 = .ok (.iadd, 1) := by decide +kernel
theorem dX10_foundFrom_41 : decode cX10_foundFrom 41 = .ok (.istore 4, 2) := by decide +kernel
theorem dX10_foundFrom_43 : decode cX10_foundFrom 43 = .ok (.iinc 5 1, 3) := by decide +kernel
theorem dX10_foundFrom_46 : decode cX10_foundFrom 46 = .ok (.goto (-40), 3) := by decide +kernel
theorem dX10_foundFrom_49 : decode cX10_foundFrom 49 = .ok (.iload 4, 2) := by decide +kernel
theorem dX10_foundFrom_51 : decode cX10_foundFrom 51 = .ok (.ireturn, 1) := by decide +kernel
theorem dX10_heaviest_0 : decode cX10_heaviest 0 = .ok (.bipush (-2), 2) := by decide +kernel
theorem dX10_heaviest_2 : decode cX10_heaviest 2 = .ok (.istore_n 1, 1) := by decide +kernel
theorem dX10_heaviest_3 : decode cX10_heaviest 3 = .ok (.iconst 0, 1) := by decide +kernel
theorem dX10_heaviest_4 : decode cX10_heaviest 4 = .ok (.istore_n 2, 1) := by decide +kernel
theorem dX10_heaviest_5 : decode cX10_heaviest 5 = .ok (.iconst 0, 1) := by decide +kernel
theorem dX10_heaviest_6 : decode cX10_heaviest 6 = .ok (.istore_n 3, 1) := by decide +kernel
theorem dX10_heaviest_7 : decode cX10_heaviest 7 = .ok (.iload_n 3, 1) := by decide +kernel
theorem dX10_heaviest_8 : decode cX10_heaviest 8 = .ok (.iconst 5, 1) := by decide +kernel
theorem dX10_heaviest_9 : decode cX10_heaviest 9 = .ok (.if_icmp .ge 28, 3) := by decide +kernel
theorem dX10_heaviest_12 : decode cX10_heaviest 12 = .ok (.aload_n 0, 1) := by decide +kernel
theorem dX10_heaviest_13 : decode cX10_heaviest 13 = .ok (.getfield 92, 3) := by decide +kernel
theorem dX10_heaviest_16 : decode cX10_heaviest 16 = .ok (.iload_n 3, 1) := by decide +kernel
theorem dX10_heaviest_17 : decode cX10_heaviest 17 = .ok (.iaload, 1) := by decide +kernel
theorem dX10_heaviest_18 : decode cX10_heaviest 18 = .ok (.iload_n 2, 1) := by decide +kernel
theorem dX10_heaviest_19 : decode cX10_heaviest 19 = .ok (.if_icmp .le 12, 3) := by decide +kernel
theorem dX10_heaviest_22 : decode cX10_heaviest 22 = .ok (.iload_n 3, 1) := by decide +kernel
theorem dX10_heaviest_23 : decode cX10_heaviest 23 = .ok (.istore_n 1, 1) := by decide +kernel
theorem dX10_heaviest_24 : decode cX10_heaviest 24 = .ok (.aload_n 0, 1) := by decide +kernel
theorem dX10_heaviest_25 : decode cX10_heaviest 25 = .ok (.getfield 92, 3) := by decide +kernel
theorem dX10_heaviest_28 : decode cX10_heaviest 28 = .ok (.iload_n 3, 1) := by decide +kernel
theorem dX10_heaviest_29 : decode cX10_heaviest 29 = .ok (.iaload, 1) := by decide +kernel
theorem dX10_heaviest_30 : decode cX10_heaviest 30 = .ok (.istore_n 2, 1) := by decide +kernel
theorem dX10_heaviest_31 : decode cX10_heaviest 31 = .ok (.iinc 3 1, 3) := by decide +kernel
theorem dX10_heaviest_34 : decode cX10_heaviest 34 = .ok (.goto (-27), 3) := by decide +kernel
theorem dX10_heaviest_37 : decode cX10_heaviest 37 = .ok (.iload_n 1, 1) := by decide +kernel
theorem dX10_heaviest_38 : decode cX10_heaviest 38 = .ok (.ireturn, 1) := by decide +kernel
theorem dX10_image_0 : decode cX10_image 0 = .ok (.iload_n 1, 1) := by decide +kernel
theorem dX10_image_1 : decode cX10_image 1 = .ok (.iconst 0, 1) := by decide +kernel
theorem dX10_image_2 : decode cX10_image 2 = .ok (.iconst 3, 1) := by decide +kernel
theorem dX10_image_3 : decode cX10_image 3 = .ok (.invokestatic 100, 3) := by decide +kernel
theorem dX10_image_6 : decode cX10_image 6 = .ok (.ifCond .ne 5, 3) := by decide +kernel
theorem dX10_image_9 : decode cX10_image 9 = .ok (.iconst (-1), 1) := by decide +kernel
theorem dX10_image_10 : decode cX10_image 10 = .ok (.ireturn, 1) := by decide +kernel
theorem dX10_image_11 : decode cX10_image 11 = .ok (.aload_n 0, 1) := by decide +kernel
theorem dX10_image_12 : decode cX10_image 12 = .ok (.getfield 16, 3) := by decide +kernel
theorem dX10_image_15 : decode cX10_image 15 = .ok (.iload_n 1, 1) := by decide +kernel
theorem dX10_image_16 : decode cX10_image 16 = .ok (.aaload, 1) := by decide +kernel
theorem dX10_image_17 : decode cX10_image 17 = .ok (.astore_n 2, 1) := by decide +kernel
theorem dX10_image_18 : decode cX10_image 18 = .ok (.aload_n 2, 1) := by decide +kernel
theorem dX10_image_19 : decode cX10_image 19 = .ok (.ifnonnull 18, 3) := by decide +kernel
theorem dX10_image_22 : decode cX10_image 22 = .ok (.new 7, 3) := by decide +kernel
theorem dX10_image_25 : decode cX10_image 25 = .ok (.dup, 1) := by decide +kernel
theorem dX10_image_26 : decode cX10_image 26 = .ok (.invokespecial 9, 3) := by decide +kernel
theorem dX10_image_29 : decode cX10_image 29 = .ok (.astore_n 2, 1) := by decide +kernel
theorem dX10_image_30 : decode cX10_image 30 = .ok (.aload_n 0, 1) := by decide +kernel
theorem dX10_image_31 : decode cX10_image 31 = .ok (.getfield 16, 3) := by decide +kernel
theorem dX10_image_34 : decode cX10_image 34 = .ok (.iload_n 1, 1) := by decide +kernel
theorem dX10_image_35 : decode cX10_image 35 = .ok (.aload_n 2, 1) := by decide +kernel
theorem dX10_image_36 : decode cX10_image 36 = .ok (.aastore, 1) := by decide +kernel
theorem dX10_image_37 : decode cX10_image 37 = .ok (.aload_n 2, 1) := by decide +kernel
theorem dX10_image_38 : decode cX10_image 38 = .ok (.aload_n 0, 1) := by decide +kernel
theorem dX10_image_39 : decode cX10_image 39 = .ok (.getfield 10, 3) := by decide +kernel
theorem dX10_image_42 : decode cX10_image 42 = .ok (.invokevirtual 429, 3) := by decide +kernel
theorem dX10_image_45 : decode cX10_image 45 = .ok (.aload_n 0, 1) := by decide +kernel
theorem dX10_image_46 : decode cX10_image 46 = .ok (.getfield 10, 3) := by decide +kernel
theorem dX10_image_49 : decode cX10_image 49 = .ok (.getfield 352, 3) := by decide +kernel
theorem dX10_image_52 : decode cX10_image 52 = .ok (.ireturn, 1) := by decide +kernel
theorem dX10_isSeenWorld_0 : decode cX10_isSeenWorld 0 = .ok (.aload_n 0, 1) := by decide +kernel
theorem dX10_isSeenWorld_1 : decode cX10_isSeenWorld 1 = .ok (.iload_n 1, 1) := by decide +kernel
theorem dX10_isSeenWorld_2 : decode cX10_isSeenWorld 2 = .ok (.invokevirtual 259, 3) := by decide +kernel
theorem dX10_isSeenWorld_5 : decode cX10_isSeenWorld 5 = .ok (.astore 4, 2) := by decide +kernel
theorem dX10_isSeenWorld_7 : decode cX10_isSeenWorld 7 = .ok (.aload 4, 2) := by decide +kernel
theorem dX10_isSeenWorld_9 : decode cX10_isSeenWorld 9 = .ok (.ifnull 21, 3) := by decide +kernel
theorem dX10_isSeenWorld_12 : decode cX10_isSeenWorld 12 = .ok (.aload_n 0, 1) := by decide +kernel
theorem dX10_isSeenWorld_13 : decode cX10_isSeenWorld 13 = .ok (.iload_n 1, 1) := by decide +kernel
theorem dX10_isSeenWorld_14 : decode cX10_isSeenWorld 14 = .ok (.iload_n 3, 1) := by decide +kernel
theorem dX10_isSeenWorld_15 : decode cX10_isSeenWorld 15 = .ok (.iconst 0, 1) := by decide +kernel
theorem dX10_isSeenWorld_16 : decode cX10_isSeenWorld 16 = .ok (.invokevirtual 389, 3) := by decide +kernel
theorem dX10_isSeenWorld_19 : decode cX10_isSeenWorld 19 = .ok (.aload 4, 2) := by decide +kernel
theorem dX10_isSeenWorld_21 : decode cX10_isSeenWorld 21 = .ok (.getfield 268, 3) := by decide +kernel
theorem dX10_isSeenWorld_24 : decode cX10_isSeenWorld 24 = .ok (.invokevirtual 392, 3) := by decide +kernel
theorem dX10_isSeenWorld_27 : decode cX10_isSeenWorld 27 = .ok (.ifCond .ne 5, 3) := by decide +kernel
theorem dX10_isSeenWorld_30 : decode cX10_isSeenWorld 30 = .ok (.iconst 0, 1) := by decide +kernel
theorem dX10_isSeenWorld_31 : decode cX10_isSeenWorld 31 = .ok (.ireturn, 1) := by decide +kernel
theorem dX10_isSeenWorld_32 : decode cX10_isSeenWorld 32 = .ok (.aload_n 0, 1) := by decide +kernel
theorem dX10_isSeenWorld_33 : decode cX10_isSeenWorld 33 = .ok (.iload_n 2, 1) := by decide +kernel
theorem dX10_isSeenWorld_34 : decode cX10_isSeenWorld 34 = .ok (.iload_n 1, 1) := by decide +kernel
theorem dX10_isSeenWorld_35 : decode cX10_isSeenWorld 35 = .ok (.iload_n 3, 1) := by decide +kernel
theorem dX10_isSeenWorld_36 : decode cX10_isSeenWorld 36 = .ok (.invokevirtual 464, 3) := by decide +kernel
theorem dX10_isSeenWorld_39 : decode cX10_isSeenWorld 39 = .ok (.aload_n 0, 1) := by decide +kernel
theorem dX10_isSeenWorld_40 : decode cX10_isSeenWorld 40 = .ok (.invokevirtual 346, 3) := by decide +kernel
theorem dX10_isSeenWorld_43 : decode cX10_isSeenWorld 43 = .ok (.ifCond .ne 7, 3) := by decide +kernel
theorem dX10_isSeenWorld_46 : decode cX10_isSeenWorld 46 = .ok (.iconst 1, 1) := by decide +kernel
theorem dX10_isSeenWorld_47 : decode cX10_isSeenWorld 47 = .ok (.goto 4, 3) := by decide +kernel
theorem dX10_isSeenWorld_50 : decode cX10_isSeenWorld 50 = .ok (.iconst 0, 1) := by decide +kernel
theorem dX10_isSeenWorld_51 : decode cX10_isSeenWorld 51 = .ok (.ireturn, 1) := by decide +kernel
theorem dX10_isStar_0 : decode cX10_isStar 0 = .ok (.aload_n 0, 1) := by decide +kernel
theorem dX10_isStar_1 : decode cX10_isStar 1 = .ok (.getfield 10, 3) := by decide +kernel
theorem dX10_isStar_4 : decode cX10_isStar 4 = .ok (.iload_n 1, 1) := by decide +kernel
theorem dX10_isStar_5 : decode cX10_isStar 5 = .ok (.invokevirtual 108, 3) := by decide +kernel
theorem dX10_isStar_8 : decode cX10_isStar 8 = .ok (.ifnull 7, 3) := by decide +kernel
theorem dX10_isStar_11 : decode cX10_isStar 11 = .ok (.iconst 1, 1) := by decide +kernel
theorem dX10_isStar_12 : decode cX10_isStar 12 = .ok (.goto 4, 3) := by decide +kernel
theorem dX10_isStar_15 : decode cX10_isStar 15 = .ok (.iconst 0, 1) := by decide +kernel
theorem dX10_isStar_16 : decode cX10_isStar 16 = .ok (.ireturn, 1) := by decide +kernel
theorem dX10_isWeighed_0 : decode cX10_isWeighed 0 = .ok (.aload_n 0, 1) := by decide +kernel
theorem dX10_isWeighed_1 : decode cX10_isWeighed 1 = .ok (.iload_n 1, 1) := by decide +kernel
theorem dX10_isWeighed_2 : decode cX10_isWeighed 2 = .ok (.invokevirtual 349, 3) := by decide +kernel
