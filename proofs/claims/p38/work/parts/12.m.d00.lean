theorem dX11_isText_0 : decode cX11_isText 0 = .ok (.iload_n 2, 1) := by decide +kernel
theorem dX11_isText_1 : decode cX11_isText 1 = .ok (.ifCond .lt 17, 3) := by decide +kernel
theorem dX11_isText_4 : decode cX11_isText 4 = .ok (.iload_n 2, 1) := by decide +kernel
theorem dX11_isText_5 : decode cX11_isText 5 = .ok (.aload_n 0, 1) := by decide +kernel
theorem dX11_isText_6 : decode cX11_isText 6 = .ok (.getfield 20, 3) := by decide +kernel
theorem dX11_isText_9 : decode cX11_isText 9 = .ok (.iload_n 1, 1) := by decide +kernel
theorem dX11_isText_10 : decode cX11_isText 10 = .ok (.iaload, 1) := by decide +kernel
theorem dX11_isText_11 : decode cX11_isText 11 = .ok (.if_icmp .ge 7, 3) := by decide +kernel
theorem dX11_isText_14 : decode cX11_isText 14 = .ok (.iconst 1, 1) := by decide +kernel
theorem dX11_isText_15 : decode cX11_isText 15 = .ok (.goto 4, 3) := by decide +kernel
theorem dX11_isText_18 : decode cX11_isText 18 = .ok (.iconst 0, 1) := by decide +kernel
theorem dX11_isText_19 : decode cX11_isText 19 = .ok (.ireturn, 1) := by decide +kernel
theorem dX11_rests_0 : decode cX11_rests 0 = .ok (.iconst 0, 1) := by decide +kernel
theorem dX11_rests_1 : decode cX11_rests 1 = .ok (.istore_n 2, 1) := by decide +kernel
theorem dX11_rests_2 : decode cX11_rests 2 = .ok (.iload_n 2, 1) := by decide +kernel
theorem dX11_rests_3 : decode cX11_rests 3 = .ok (.iload_n 1, 1) := by decide +kernel
theorem dX11_rests_4 : decode cX11_rests 4 = .ok (.if_icmp .ge 37, 3) := by decide +kernel
theorem dX11_rests_7 : decode cX11_rests 7 = .ok (.aload_n 0, 1) := by decide +kernel
theorem dX11_rests_8 : decode cX11_rests 8 = .ok (.getfield 69, 3) := by decide +kernel
theorem dX11_rests_11 : decode cX11_rests 11 = .ok (.iload_n 2, 1) := by decide +kernel
theorem dX11_rests_12 : decode cX11_rests 12 = .ok (.lconst 0, 1) := by decide +kernel
theorem dX11_rests_13 : decode cX11_rests 13 = .ok (.lastore, 1) := by decide +kernel
theorem dX11_rests_14 : decode cX11_rests 14 = .ok (.aload_n 0, 1) := by decide +kernel
theorem dX11_rests_15 : decode cX11_rests 15 = .ok (.getfield 72, 3) := by decide +kernel
theorem dX11_rests_18 : decode cX11_rests 18 = .ok (.iload_n 2, 1) := by decide +kernel
theorem dX11_rests_19 : decode cX11_rests 19 = .ok (.iconst 0, 1) := by decide +kernel
theorem dX11_rests_20 : decode cX11_rests 20 = .ok (.iastore, 1) := by decide +kernel
theorem dX11_rests_21 : decode cX11_rests 21 = .ok (.aload_n 0, 1) := by decide +kernel
theorem dX11_rests_22 : decode cX11_rests 22 = .ok (.getfield 75, 3) := by decide +kernel
theorem dX11_rests_25 : decode cX11_rests 25 = .ok (.iload_n 2, 1) := by decide +kernel
theorem dX11_rests_26 : decode cX11_rests 26 = .ok (.lconst 0, 1) := by decide +kernel
theorem dX11_rests_27 : decode cX11_rests 27 = .ok (.lastore, 1) := by decide +kernel
theorem dX11_rests_28 : decode cX11_rests 28 = .ok (.aload_n 0, 1) := by decide +kernel
theorem dX11_rests_29 : decode cX11_rests 29 = .ok (.getfield 78, 3) := by decide +kernel
theorem dX11_rests_32 : decode cX11_rests 32 = .ok (.iload_n 2, 1) := by decide +kernel
theorem dX11_rests_33 : decode cX11_rests 33 = .ok (.iconst 0, 1) := by decide +kernel
theorem dX11_rests_34 : decode cX11_rests 34 = .ok (.iastore, 1) := by decide +kernel
theorem dX11_rests_35 : decode cX11_rests 35 = .ok (.iinc 2 1, 3) := by decide +kernel
theorem dX11_rests_38 : decode cX11_rests 38 = .ok (.goto (-36), 3) := by decide +kernel
theorem dX11_rests_41 : decode cX11_rests 41 = .ok (.iconst 0, 1) := by decide +kernel
theorem dX11_rests_42 : decode cX11_rests 42 = .ok (.istore_n 2, 1) := by decide +kernel
theorem dX11_rests_43 : decode cX11_rests 43 = .ok (.iload_n 2, 1) := by decide +kernel
theorem dX11_rests_44 : decode cX11_rests 44 = .ok (.sipush 600, 3) := by decide +kernel
theorem dX11_rests_47 : decode cX11_rests 47 = .ok (.if_icmp .ge 53, 3) := by decide +kernel
theorem dX11_rests_50 : decode cX11_rests 50 = .ok (.aload_n 0, 1) := by decide +kernel
theorem dX11_rests_51 : decode cX11_rests 51 = .ok (.getfield 66, 3) := by decide +kernel
theorem dX11_rests_54 : decode cX11_rests 54 = .ok (.iload_n 2, 1) := by decide +kernel
theorem dX11_rests_55 : decode cX11_rests 55 = .ok (.iaload, 1) := by decide +kernel
theorem dX11_rests_56 : decode cX11_rests 56 = .ok (.ldc 107, 2) := by decide +kernel
theorem dX11_rests_58 : decode cX11_rests 58 = .ok (.if_icmp .ne 6, 3) := by decide +kernel
theorem dX11_rests_61 : decode cX11_rests 61 = .ok (.goto 33, 3) := by decide +kernel
theorem dX11_rests_64 : decode cX11_rests 64 = .ok (.aload_n 0, 1) := by decide +kernel
theorem dX11_rests_65 : decode cX11_rests 65 = .ok (.getfield 69, 3) := by decide +kernel
theorem dX11_rests_68 : decode cX11_rests 68 = .ok (.iload_n 2, 1) := by decide +kernel
theorem dX11_rests_69 : decode cX11_rests 69 = .ok (.iload_n 1, 1) := by decide +kernel
theorem dX11_rests_70 : decode cX11_rests 70 = .ok (.irem, 1) := by decide +kernel
theorem dX11_rests_71 : decode cX11_rests 71 = .ok (.dup2, 1) := by decide +kernel
theorem dX11_rests_72 : decode cX11_rests 72 = .ok (.laload, 1) := by decide +kernel
theorem dX11_rests_73 : decode cX11_rests 73 = .ok (.aload_n 0, 1) := by decide +kernel
theorem dX11_rests_74 : decode cX11_rests 74 = .ok (.getfield 66, 3) := by decide +kernel
theorem dX11_rests_77 : decode cX11_rests 77 = .ok (.iload_n 2, 1) := by decide +kernel
theorem dX11_rests_78 : decode cX11_rests 78 = .ok (.iaload, 1) := by decide +kernel
theorem dX11_rests_79 : decode cX11_rests 79 = .ok (.i2l, 1) := by decide +kernel
theorem dX11_rests_80 : decode cX11_rests 80 = .ok (.ladd, 1) := by decide +kernel
theorem dX11_rests_81 : decode cX11_rests 81 = .ok (.lastore, 1) := by decide +kernel
theorem dX11_rests_82 : decode cX11_rests 82 = .ok (.aload_n 0, 1) := by decide +kernel
theorem dX11_rests_83 : decode cX11_rests 83 = .ok (.getfield 72, 3) := by decide +kernel
theorem dX11_rests_86 : decode cX11_rests 86 = .ok (.iload_n 2, 1) := by decide +kernel
theorem dX11_rests_87 : decode cX11_rests 87 = .ok (.iload_n 1, 1) := by decide +kernel
theorem dX11_rests_88 : decode cX11_rests 88 = .ok (.irem, 1) := by decide +kernel
theorem dX11_rests_89 : decode cX11_rests 89 = .ok (.dup2, 1) := by decide +kernel
theorem dX11_rests_90 : decode cX11_rests 90 = .ok (.iaload, 1) := by decide +kernel
theorem dX11_rests_91 : decode cX11_rests 91 = .ok (.iconst 1, 1) := by decide +kernel
theorem dX11_rests_92 : decode cX11_rests 92 = .ok (.iadd, 1) := by decide +kernel
theorem dX11_rests_93 : decode cX11_rests 93 = .ok (.iastore, 1) := by decide +kernel
theorem dX11_rests_94 : decode cX11_rests 94 = .ok (.iinc 2 1, 3) := by decide +kernel
theorem dX11_rests_97 : decode cX11_rests 97 = .ok (.goto (-54), 3) := by decide +kernel
theorem dX11_rests_100 : decode cX11_rests 100 = .ok (.return_, 1) := by decide +kernel
theorem dX11_seeks_0 : decode cX11_seeks 0 = .ok (.bipush 6, 2) := by decide +kernel
theorem dX11_seeks_2 : decode cX11_seeks 2 = .ok (.iload_n 1, 1) := by decide +kernel
theorem dX11_seeks_3 : decode cX11_seeks 3 = .ok (.iadd, 1) := by decide +kernel
theorem dX11_seeks_4 : decode cX11_seeks 4 = .ok (.istore_n 2, 1) := by decide +kernel
theorem dX11_seeks_5 : decode cX11_seeks 5 = .ok (.aload_n 0, 1) := by decide +kernel
theorem dX11_seeks_6 : decode cX11_seeks 6 = .ok (.lconst 0, 1) := by decide +kernel
theorem dX11_seeks_7 : decode cX11_seeks 7 = .ok (.putfield 455, 3) := by decide +kernel
theorem dX11_seeks_10 : decode cX11_seeks 10 = .ok (.aload_n 0, 1) := by decide +kernel
theorem dX11_seeks_11 : decode cX11_seeks 11 = .ok (.getfield 38, 3) := by decide +kernel
theorem dX11_seeks_14 : decode cX11_seeks 14 = .ok (.iload_n 2, 1) := by decide +kernel
theorem dX11_seeks_15 : decode cX11_seeks 15 = .ok (.iaload, 1) := by decide +kernel
theorem dX11_seeks_16 : decode cX11_seeks 16 = .ok (.istore_n 3, 1) := by decide +kernel
theorem dX11_seeks_17 : decode cX11_seeks 17 = .ok (.iload_n 3, 1) := by decide +kernel
theorem dX11_seeks_18 : decode cX11_seeks 18 = .ok (.aload_n 0, 1) := by decide +kernel
theorem dX11_seeks_19 : decode cX11_seeks 19 = .ok (.getfield 41, 3) := by decide +kernel
theorem dX11_seeks_22 : decode cX11_seeks 22 = .ok (.iload_n 2, 1) := by decide +kernel
theorem dX11_seeks_23 : decode cX11_seeks 23 = .ok (.iaload, 1) := by decide +kernel
theorem dX11_seeks_24 : decode cX11_seeks 24 = .ok (.if_icmp .gt 121, 3) := by decide +kernel
theorem dX11_seeks_27 : decode cX11_seeks 27 = .ok (.aload_n 0, 1) := by decide +kernel
theorem dX11_seeks_28 : decode cX11_seeks 28 = .ok (.iload_n 3, 1) := by decide +kernel
theorem dX11_seeks_29 : decode cX11_seeks 29 = .ok (.invokevirtual 473, 3) := by decide +kernel
theorem dX11_seeks_32 : decode cX11_seeks 32 = .ok (.iconst 1, 1) := by decide +kernel
theorem dX11_seeks_33 : decode cX11_seeks 33 = .ok (.istore 4, 2) := by decide +kernel
theorem dX11_seeks_35 : decode cX11_seeks 35 = .ok (.iload 4, 2) := by decide +kernel
theorem dX11_seeks_37 : decode cX11_seeks 37 = .ok (.aload_n 0, 1) := by decide +kernel
theorem dX11_seeks_38 : decode cX11_seeks 38 = .ok (.getfield 47, 3) := by decide +kernel
theorem dX11_seeks_41 : decode cX11_seeks 41 = .ok (.iload_n 2, 1) := by decide +kernel
theorem dX11_seeks_42 : decode cX11_seeks 42 = .ok (.iaload, 1) := by decide +kernel
theorem dX11_seeks_43 : decode cX11_seeks 43 = .ok (.if_icmp .gt 96, 3) := by decide +kernel
theorem dX11_seeks_46 : decode cX11_seeks 46 = .ok (.iload 4, 2) := by decide +kernel
theorem dX11_seeks_48 : decode cX11_seeks 48 = .ok (.iload_n 3, 1) := by decide +kernel
theorem dX11_seeks_49 : decode cX11_seeks 49 = .ok (.if_icmp .ge 90, 3) := by decide +kernel
theorem dX11_seeks_52 : decode cX11_seeks 52 = .ok (.iconst 0, 1) := by decide +kernel
theorem dX11_seeks_53 : decode cX11_seeks 53 = .ok (.istore 5, 2) := by decide +kernel
theorem dX11_seeks_55 : decode cX11_seeks 55 = .ok (.iload 5, 2) := by decide +kernel
theorem dX11_seeks_57 : decode cX11_seeks 57 = .ok (.iload_n 3, 1) := by decide +kernel
theorem dX11_seeks_58 : decode cX11_seeks 58 = .ok (.if_icmp .ge 75, 3) := by decide +kernel
theorem dX11_seeks_61 : decode cX11_seeks 61 = .ok (.iload 5, 2) := by decide +kernel
theorem dX11_seeks_63 : decode cX11_seeks 63 = .ok (.iload 4, 2) := by decide +kernel
theorem dX11_seeks_65 : decode cX11_seeks 65 = .ok (.iadd, 1) := by decide +kernel
theorem dX11_seeks_66 : decode cX11_seeks 66 = .ok (.iconst 1, 1) := by decide +kernel
theorem dX11_seeks_67 : decode cX11_seeks 67 = .ok (.isub, 1) := by decide +kernel
theorem dX11_seeks_68 : decode cX11_seeks 68 = .ok (.iload_n 3, 1) := by decide +kernel
theorem dX11_seeks_69 : decode cX11_seeks 69 = .ok (.irem, 1) := by decide +kernel
theorem dX11_seeks_70 : decode cX11_seeks 70 = .ok (.istore 6, 2) := by decide +kernel
theorem dX11_seeks_72 : decode cX11_seeks 72 = .ok (.aload_n 0, 1) := by decide +kernel
theorem dX11_seeks_73 : decode cX11_seeks 73 = .ok (.getfield 75, 3) := by decide +kernel
theorem dX11_seeks_76 : decode cX11_seeks 76 = .ok (.iload 5, 2) := by decide +kernel
theorem dX11_seeks_78 : decode cX11_seeks 78 = .ok (.dup2, 1) := by decide +kernel
theorem dX11_seeks_79 : decode cX11_seeks 79 = .ok (.laload, 1) := by decide +kernel
theorem dX11_seeks_80 : decode cX11_seeks 80 = .ok (.aload_n 0, 1) := by decide +kernel
theorem dX11_seeks_81 : decode cX11_seeks 81 = .ok (.getfield 69, 3) := by decide +kernel
theorem dX11_seeks_84 : decode cX11_seeks 84 = .ok (.iload 6, 2) := by decide +kernel
theorem dX11_seeks_86 : decode cX11_seeks 86 = .ok (.laload, 1) := by decide +kernel
theorem dX11_seeks_87 : decode cX11_seeks 87 = .ok (.ladd, 1) := by decide +kernel
theorem dX11_seeks_88 : decode cX11_seeks 88 = .ok (.lastore, 1) := by decide +kernel
theorem dX11_seeks_89 : decode cX11_seeks 89 = .ok (.aload_n 0, 1) := by decide +kernel
theorem dX11_seeks_90 : decode cX11_seeks 90 = .ok (.getfield 78, 3) := by decide +kernel
theorem dX11_seeks_93 : decode cX11_seeks 93 = .ok (.iload 5, 2) := by decide +kernel
theorem dX11_seeks_95 : decode cX11_seeks 95 = .ok (.dup2, 1) := by decide +kernel
theorem dX11_seeks_96 : decode cX11_seeks 96 = .ok (.iaload, 1) := by decide +kernel
theorem dX11_seeks_97 : decode cX11_seeks 97 = .ok (.aload_n 0, 1) := by decide +kernel
theorem dX11_seeks_98 : decode cX11_seeks 98 = .ok (.getfield 72, 3) := by decide +kernel
theorem dX11_seeks_101 : decode cX11_seeks 101 = .ok (.iload 6, 2) := by decide +kernel
theorem dX11_seeks_103 : decode cX11_seeks 103 = .ok (.iaload, 1) := by decide +kernel
theorem dX11_seeks_104 : decode cX11_seeks 104 = .ok (.iadd, 1) := by decide +kernel
theorem dX11_seeks_105 : decode cX11_seeks 105 = .ok (.iastore, 1) := by decide +kernel
theorem dX11_seeks_106 : decode cX11_seeks 106 = .ok (.iload 4, 2) := by decide +kernel
theorem dX11_seeks_108 : decode cX11_seeks 108 = .ok (.aload_n 0, 1) := by decide +kernel
theorem dX11_seeks_109 : decode cX11_seeks 109 = .ok (.getfield 44, 3) := by decide +kernel
theorem dX11_seeks_112 : decode cX11_seeks 112 = .ok (.iload_n 2, 1) := by decide +kernel
theorem dX11_seeks_113 : decode cX11_seeks 113 = .ok (.iaload, 1) := by decide +kernel
theorem dX11_seeks_114 : decode cX11_seeks 114 = .ok (.if_icmp .lt 13, 3) := by decide +kernel
theorem dX11_seeks_117 : decode cX11_seeks 117 = .ok (.aload_n 0, 1) := by decide +kernel
theorem dX11_seeks_118 : decode cX11_seeks 118 = .ok (.iload_n 2, 1) := by decide +kernel
theorem dX11_seeks_119 : decode cX11_seeks 119 = .ok (.iload_n 3, 1) := by decide +kernel
theorem dX11_seeks_120 : decode cX11_seeks 120 = .ok (.iload 4, 2) := by decide +kernel
theorem dX11_seeks_122 : decode cX11_seeks 122 = .ok (.iload 5, 2) := by decide +kernel
theorem dX11_seeks_124 : decode cX11_seeks 124 = .ok (.invokevirtual 476, 3) := by decide +kernel
theorem dX11_seeks_127 : decode cX11_seeks 127 = .ok (.iinc 5 1, 3) := by decide +kernel
theorem dX11_seeks_130 : decode cX11_seeks 130 = .ok (.goto (-75), 3) := by decide +kernel
theorem dX11_seeks_133 : decode cX11_seeks 133 = .ok (.iinc 4 1, 3) := by decide +kernel
theorem dX11_seeks_136 : decode cX11_seeks 136 = .ok (.goto (-101), 3) := by decide +kernel
theorem dX11_seeks_139 : decode cX11_seeks 139 = .ok (.iinc 3 1, 3) := by decide +kernel
theorem dX11_seeks_142 : decode cX11_seeks 142 = .ok (.goto (-125), 3) := by decide +kernel
theorem dX11_seeks_145 : decode cX11_seeks 145 = .ok (.aload_n 0, 1) := by decide +kernel
theorem dX11_seeks_146 : decode cX11_seeks 146 = .ok (.getfield 455, 3) := by decide +kernel
theorem dX11_seeks_149 : decode cX11_seeks 149 = .ok (.lconst 0, 1) := by decide +kernel
theorem dX11_seeks_150 : decode cX11_seeks 150 = .ok (.lcmp, 1) := by decide +kernel
theorem dX11_seeks_151 : decode cX11_seeks 151 = .ok (.ifCond .le 7, 3) := by decide +kernel
theorem dX11_seeks_154 : decode cX11_seeks 154 = .ok (.iconst 1, 1) := by decide +kernel
theorem dX11_seeks_155 : decode cX11_seeks 155 = .ok (.goto 4, 3) := by decide +kernel
theorem dX11_seeks_158 : decode cX11_seeks 158 = .ok (.iconst 0, 1) := by decide +kernel
theorem dX11_seeks_159 : decode cX11_seeks 159 = .ok (.ireturn, 1) := by decide +kernel
theorem dX11_tries_0 : decode cX11_tries 0 = .ok (.aload_n 0, 1) := by decide +kernel
theorem dX11_tries_1 : decode cX11_tries 1 = .ok (.getfield 78, 3) := by decide +kernel
theorem dX11_tries_4 : decode cX11_tries 4 = .ok (.iload 4, 2) := by decide +kernel
theorem dX11_tries_6 : decode cX11_tries 6 = .ok (.iaload, 1) := by decide +kernel
theorem dX11_tries_7 : decode cX11_tries 7 = .ok (.istore 5, 2) := by decide +kernel
theorem dX11_tries_9 : decode cX11_tries 9 = .ok (.aload_n 0, 1) := by decide +kernel
theorem dX11_tries_10 : decode cX11_tries 10 = .ok (.getfield 394, 3) := by decide +kernel
theorem dX11_tries_13 : decode cX11_tries 13 = .ok (.iload 5, 2) := by decide +kernel
theorem dX11_tries_15 : decode cX11_tries 15 = .ok (.isub, 1) := by decide +kernel
theorem dX11_tries_16 : decode cX11_tries 16 = .ok (.istore 6, 2) := by decide +kernel
theorem dX11_tries_18 : decode cX11_tries 18 = .ok (.iload 5, 2) := by decide +kernel
theorem dX11_tries_20 : decode cX11_tries 20 = .ok (.ifCond .eq 8, 3) := by decide +kernel
theorem dX11_tries_23 : decode cX11_tries 23 = .ok (.iload 6, 2) := by decide +kernel
theorem dX11_tries_25 : decode cX11_tries 25 = .ok (.ifCond .ne 4, 3) := by decide +kernel
theorem dX11_tries_28 : decode cX11_tries 28 = .ok (.return_, 1) := by decide +kernel
theorem dX11_tries_29 : decode cX11_tries 29 = .ok (.aload_n 0, 1) := by decide +kernel
theorem dX11_tries_30 : decode cX11_tries 30 = .ok (.aload_n 0, 1) := by decide +kernel
theorem dX11_tries_31 : decode cX11_tries 31 = .ok (.getfield 397, 3) := by decide +kernel
theorem dX11_tries_34 : decode cX11_tries 34 = .ok (.aload_n 0, 1) := by decide +kernel
theorem dX11_tries_35 : decode cX11_tries 35 = .ok (.getfield 75, 3) := by decide +kernel
theorem dX11_tries_38 : decode cX11_tries 38 = .ok (.iload 4, 2) := by decide +kernel
theorem dX11_tries_40 : decode cX11_tries 40 = .ok (.laload, 1) := by decide +kernel
theorem dX11_tries_41 : decode cX11_tries 41 = .ok (.lsub, 1) := by decide +kernel
theorem dX11_tries_42 : decode cX11_tries 42 = .ok (.iload 6, 2) := by decide +kernel
theorem dX11_tries_44 : decode cX11_tries 44 = .ok (.aload_n 0, 1) := by decide +kernel
theorem dX11_tries_45 : decode cX11_tries 45 = .ok (.getfield 75, 3) := by decide +kernel
theorem dX11_tries_48 : decode cX11_tries 48 = .ok (.iload 4, 2) := by decide +kernel
theorem dX11_tries_50 : decode cX11_tries 50 = .ok (.laload, 1) := by decide +kernel
theorem dX11_tries_51 : decode cX11_tries 51 = .ok (.iload 5, 2) := by decide +kernel
theorem dX11_tries_53 : decode cX11_tries 53 = .ok (.invokevirtual 441, 3) := by decide +kernel
theorem dX11_tries_56 : decode cX11_tries 56 = .ok (.lstore 7, 2) := by decide +kernel
theorem dX11_tries_58 : decode cX11_tries 58 = .ok (.aload_n 0, 1) := by decide +kernel
theorem dX11_tries_59 : decode cX11_tries 59 = .ok (.lload 7, 2) := by decide +kernel
theorem dX11_tries_61 : decode cX11_tries 61 = .ok (.iload 5, 2) := by decide +kernel
theorem dX11_tries_63 : decode cX11_tries 63 = .ok (.invokevirtual 451, 3) := by decide +kernel
theorem dX11_tries_66 : decode cX11_tries 66 = .ok (.lstore 9, 2) := by decide +kernel
theorem dX11_tries_68 : decode cX11_tries 68 = .ok (.lload 9, 2) := by decide +kernel
theorem dX11_tries_70 : decode cX11_tries 70 = .ok (.aload_n 0, 1) := by decide +kernel
theorem dX11_tries_71 : decode cX11_tries 71 = .ok (.getfield 455, 3) := by decide +kernel
theorem dX11_tries_74 : decode cX11_tries 74 = .ok (.lcmp, 1) := by decide +kernel
theorem dX11_tries_75 : decode cX11_tries 75 = .ok (.ifCond .gt 4, 3) := by decide +kernel
theorem dX11_tries_78 : decode cX11_tries 78 = .ok (.return_, 1) := by decide +kernel
theorem dX11_tries_79 : decode cX11_tries 79 = .ok (.aload_n 0, 1) := by decide +kernel
theorem dX11_tries_80 : decode cX11_tries 80 = .ok (.iload_n 2, 1) := by decide +kernel
theorem dX11_tries_81 : decode cX11_tries 81 = .ok (.iload_n 3, 1) := by decide +kernel
theorem dX11_tries_82 : decode cX11_tries 82 = .ok (.iload 4, 2) := by decide +kernel
theorem dX11_tries_84 : decode cX11_tries 84 = .ok (.invokevirtual 433, 3) := by decide +kernel
theorem dX11_tries_87 : decode cX11_tries 87 = .ok (.istore 11, 2) := by decide +kernel
theorem dX11_tries_89 : decode cX11_tries 89 = .ok (.iload 11, 2) := by decide +kernel
theorem dX11_tries_91 : decode cX11_tries 91 = .ok (.aload_n 0, 1) := by decide +kernel
theorem dX11_tries_92 : decode cX11_tries 92 = .ok (.getfield 50, 3) := by decide +kernel
theorem dX11_tries_95 : decode cX11_tries 95 = .ok (.iload_n 1, 1) := by decide +kernel
theorem dX11_tries_96 : decode cX11_tries 96 = .ok (.iaload, 1) := by decide +kernel
theorem dX11_tries_97 : decode cX11_tries 97 = .ok (.if_icmp .ge 4, 3) := by decide +kernel
theorem dX11_tries_100 : decode cX11_tries 100 = .ok (.return_, 1) := by decide +kernel
theorem dX11_tries_101 : decode cX11_tries 101 = .ok (.aload_n 0, 1) := by decide +kernel
theorem dX11_tries_102 : decode cX11_tries 102 = .ok (.iload_n 2, 1) := by decide +kernel
theorem dX11_tries_103 : decode cX11_tries 103 = .ok (.putfield 458, 3) := by decide +kernel
theorem dX11_tries_106 : decode cX11_tries 106 = .ok (.aload_n 0, 1) := by decide +kernel
theorem dX11_tries_107 : decode cX11_tries 107 = .ok (.iload_n 3, 1) := by decide +kernel
theorem dX11_tries_108 : decode cX11_tries 108 = .ok (.putfield 461, 3) := by decide +kernel
theorem dX11_tries_111 : decode cX11_tries 111 = .ok (.aload_n 0, 1) := by decide +kernel
theorem dX11_tries_112 : decode cX11_tries 112 = .ok (.iload 4, 2) := by decide +kernel
theorem dX11_tries_114 : decode cX11_tries 114 = .ok (.putfield 464, 3) := by decide +kernel
theorem dX11_tries_117 : decode cX11_tries 117 = .ok (.aload_n 0, 1) := by decide +kernel
theorem dX11_tries_118 : decode cX11_tries 118 = .ok (.lload 7, 2) := by decide +kernel
theorem dX11_tries_120 : decode cX11_tries 120 = .ok (.putfield 467, 3) := by decide +kernel
theorem dX11_tries_123 : decode cX11_tries 123 = .ok (.aload_n 0, 1) := by decide +kernel
theorem dX11_tries_124 : decode cX11_tries 124 = .ok (.lload 9, 2) := by decide +kernel
theorem dX11_tries_126 : decode cX11_tries 126 = .ok (.putfield 455, 3) := by decide +kernel
theorem dX11_tries_129 : decode cX11_tries 129 = .ok (.aload_n 0, 1) := by decide +kernel
theorem dX11_tries_130 : decode cX11_tries 130 = .ok (.iload 11, 2) := by decide +kernel
theorem dX11_tries_132 : decode cX11_tries 132 = .ok (.putfield 470, 3) := by decide +kernel
theorem dX11_tries_135 : decode cX11_tries 135 = .ok (.return_, 1) := by decide +kernel
