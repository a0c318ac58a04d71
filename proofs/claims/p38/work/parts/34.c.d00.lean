theorem dX0_find_0 : decode cX0_find 0 = .ok (.aload_n 3, 1) := by decide +kernel
theorem dX0_find_1 : decode cX0_find 1 = .ok (.iconst 0, 1) := by decide +kernel
theorem dX0_find_2 : decode cX0_find 2 = .ok (.putfield 19, 3) := by decide +kernel
theorem dX0_find_5 : decode cX0_find 5 = .ok (.aload_n 3, 1) := by decide +kernel
theorem dX0_find_6 : decode cX0_find 6 = .ok (.iconst 0, 1) := by decide +kernel
theorem dX0_find_7 : decode cX0_find 7 = .ok (.putfield 25, 3) := by decide +kernel
theorem dX0_find_10 : decode cX0_find 10 = .ok (.aload_n 3, 1) := by decide +kernel
theorem dX0_find_11 : decode cX0_find 11 = .ok (.lconst 0, 1) := by decide +kernel
theorem dX0_find_12 : decode cX0_find 12 = .ok (.putfield 28, 3) := by decide +kernel
theorem dX0_find_15 : decode cX0_find 15 = .ok (.aload_n 2, 1) := by decide +kernel
theorem dX0_find_16 : decode cX0_find 16 = .ok (.getfield 32, 3) := by decide +kernel
theorem dX0_find_19 : decode cX0_find 19 = .ok (.sipush 200, 3) := by decide +kernel
theorem dX0_find_22 : decode cX0_find 22 = .ok (.invokestatic 37, 3) := by decide +kernel
theorem dX0_find_25 : decode cX0_find 25 = .ok (.istore 4, 2) := by decide +kernel
theorem dX0_find_27 : decode cX0_find 27 = .ok (.iconst 2, 1) := by decide +kernel
theorem dX0_find_28 : decode cX0_find 28 = .ok (.aload_n 2, 1) := by decide +kernel
theorem dX0_find_29 : decode cX0_find 29 = .ok (.getfield 43, 3) := by decide +kernel
theorem dX0_find_32 : decode cX0_find 32 = .ok (.invokestatic 46, 3) := by decide +kernel
theorem dX0_find_35 : decode cX0_find 35 = .ok (.istore 5, 2) := by decide +kernel
theorem dX0_find_37 : decode cX0_find 37 = .ok (.iload 5, 2) := by decide +kernel
theorem dX0_find_39 : decode cX0_find 39 = .ok (.iload 4, 2) := by decide +kernel
theorem dX0_find_41 : decode cX0_find 41 = .ok (.if_icmp .gt 60, 3) := by decide +kernel
theorem dX0_find_44 : decode cX0_find 44 = .ok (.sipush 600, 3) := by decide +kernel
theorem dX0_find_47 : decode cX0_find 47 = .ok (.iload 5, 2) := by decide +kernel
theorem dX0_find_49 : decode cX0_find 49 = .ok (.idiv, 1) := by decide +kernel
theorem dX0_find_50 : decode cX0_find 50 = .ok (.iconst 2, 1) := by decide +kernel
theorem dX0_find_51 : decode cX0_find 51 = .ok (.iadd, 1) := by decide +kernel
theorem dX0_find_52 : decode cX0_find 52 = .ok (.aload_n 2, 1) := by decide +kernel
theorem dX0_find_53 : decode cX0_find 53 = .ok (.getfield 49, 3) := by decide +kernel
theorem dX0_find_56 : decode cX0_find 56 = .ok (.if_icmp .lt 7, 3) := by decide +kernel
theorem dX0_find_59 : decode cX0_find 59 = .ok (.iconst 1, 1) := by decide +kernel
theorem dX0_find_60 : decode cX0_find 60 = .ok (.goto 4, 3) := by decide +kernel
theorem dX0_find_63 : decode cX0_find 63 = .ok (.iconst 0, 1) := by decide +kernel
theorem dX0_find_64 : decode cX0_find 64 = .ok (.istore 6, 2) := by decide +kernel
theorem dX0_find_66 : decode cX0_find 66 = .ok (.iload 6, 2) := by decide +kernel
theorem dX0_find_68 : decode cX0_find 68 = .ok (.ifCond .eq 27, 3) := by decide +kernel
theorem dX0_find_71 : decode cX0_find 71 = .ok (.aload_n 1, 1) := by decide +kernel
theorem dX0_find_72 : decode cX0_find 72 = .ok (.getfield 52, 3) := by decide +kernel
theorem dX0_find_75 : decode cX0_find 75 = .ok (.iconst 1, 1) := by decide +kernel
theorem dX0_find_76 : decode cX0_find 76 = .ok (.if_icmp .le 19, 3) := by decide +kernel
theorem dX0_find_79 : decode cX0_find 79 = .ok (.aload_n 0, 1) := by decide +kernel
theorem dX0_find_80 : decode cX0_find 80 = .ok (.aload_n 1, 1) := by decide +kernel
theorem dX0_find_81 : decode cX0_find 81 = .ok (.iload 5, 2) := by decide +kernel
theorem dX0_find_83 : decode cX0_find 83 = .ok (.invokevirtual 57, 3) := by decide +kernel
theorem dX0_find_86 : decode cX0_find 86 = .ok (.aload_n 0, 1) := by decide +kernel
theorem dX0_find_87 : decode cX0_find 87 = .ok (.aload_n 1, 1) := by decide +kernel
theorem dX0_find_88 : decode cX0_find 88 = .ok (.aload_n 2, 1) := by decide +kernel
theorem dX0_find_89 : decode cX0_find 89 = .ok (.iload 5, 2) := by decide +kernel
theorem dX0_find_91 : decode cX0_find 91 = .ok (.aload_n 3, 1) := by decide +kernel
theorem dX0_find_92 : decode cX0_find 92 = .ok (.invokevirtual 61, 3) := by decide +kernel
theorem dX0_find_95 : decode cX0_find 95 = .ok (.iinc 5 1, 3) := by decide +kernel
theorem dX0_find_98 : decode cX0_find 98 = .ok (.goto (-61), 3) := by decide +kernel
theorem dX0_find_101 : decode cX0_find 101 = .ok (.aload_n 3, 1) := by decide +kernel
theorem dX0_find_102 : decode cX0_find 102 = .ok (.invokevirtual 65, 3) := by decide +kernel
theorem dX0_find_105 : decode cX0_find 105 = .ok (.ifCond .ne 47, 3) := by decide +kernel
theorem dX0_find_108 : decode cX0_find 108 = .ok (.aload_n 1, 1) := by decide +kernel
theorem dX0_find_109 : decode cX0_find 109 = .ok (.aload_n 3, 1) := by decide +kernel
theorem dX0_find_110 : decode cX0_find 110 = .ok (.getfield 19, 3) := by decide +kernel
theorem dX0_find_113 : decode cX0_find 113 = .ok (.aload_n 3, 1) := by decide +kernel
theorem dX0_find_114 : decode cX0_find 114 = .ok (.getfield 69, 3) := by decide +kernel
theorem dX0_find_117 : decode cX0_find 117 = .ok (.aload_n 3, 1) := by decide +kernel
theorem dX0_find_118 : decode cX0_find 118 = .ok (.getfield 72, 3) := by decide +kernel
theorem dX0_find_121 : decode cX0_find 121 = .ok (.invokevirtual 75, 3) := by decide +kernel
theorem dX0_find_124 : decode cX0_find 124 = .ok (.aload_n 3, 1) := by decide +kernel
theorem dX0_find_125 : decode cX0_find 125 = .ok (.aload_n 1, 1) := by decide +kernel
theorem dX0_find_126 : decode cX0_find 126 = .ok (.invokevirtual 79, 3) := by decide +kernel
theorem dX0_find_129 : decode cX0_find 129 = .ok (.putfield 83, 3) := by decide +kernel
theorem dX0_find_132 : decode cX0_find 132 = .ok (.aload_n 3, 1) := by decide +kernel
theorem dX0_find_133 : decode cX0_find 133 = .ok (.aload_n 1, 1) := by decide +kernel
theorem dX0_find_134 : decode cX0_find 134 = .ok (.aload_n 3, 1) := by decide +kernel
theorem dX0_find_135 : decode cX0_find 135 = .ok (.getfield 19, 3) := by decide +kernel
theorem dX0_find_138 : decode cX0_find 138 = .ok (.aload_n 3, 1) := by decide +kernel
theorem dX0_find_139 : decode cX0_find 139 = .ok (.getfield 69, 3) := by decide +kernel
theorem dX0_find_142 : decode cX0_find 142 = .ok (.aload_n 3, 1) := by decide +kernel
theorem dX0_find_143 : decode cX0_find 143 = .ok (.getfield 72, 3) := by decide +kernel
theorem dX0_find_146 : decode cX0_find 146 = .ok (.invokevirtual 85, 3) := by decide +kernel
theorem dX0_find_149 : decode cX0_find 149 = .ok (.putfield 25, 3) := by decide +kernel
theorem dX0_find_152 : decode cX0_find 152 = .ok (.return_, 1) := by decide +kernel
theorem dX0_foldBy_0 : decode cX0_foldBy 0 = .ok (.iconst 0, 1) := by decide +kernel
theorem dX0_foldBy_1 : decode cX0_foldBy 1 = .ok (.istore_n 3, 1) := by decide +kernel
theorem dX0_foldBy_2 : decode cX0_foldBy 2 = .ok (.iload_n 3, 1) := by decide +kernel
theorem dX0_foldBy_3 : decode cX0_foldBy 3 = .ok (.iload_n 2, 1) := by decide +kernel
theorem dX0_foldBy_4 : decode cX0_foldBy 4 = .ok (.if_icmp .ge 30, 3) := by decide +kernel
theorem dX0_foldBy_7 : decode cX0_foldBy 7 = .ok (.iload_n 3, 1) := by decide +kernel
theorem dX0_foldBy_8 : decode cX0_foldBy 8 = .ok (.sipush 200, 3) := by decide +kernel
theorem dX0_foldBy_11 : decode cX0_foldBy 11 = .ok (.if_icmp .ge 23, 3) := by decide +kernel
theorem dX0_foldBy_14 : decode cX0_foldBy 14 = .ok (.aload_n 0, 1) := by decide +kernel
theorem dX0_foldBy_15 : decode cX0_foldBy 15 = .ok (.getfield 9, 3) := by decide +kernel
theorem dX0_foldBy_18 : decode cX0_foldBy 18 = .ok (.iload_n 3, 1) := by decide +kernel
theorem dX0_foldBy_19 : decode cX0_foldBy 19 = .ok (.iconst 0, 1) := by decide +kernel
theorem dX0_foldBy_20 : decode cX0_foldBy 20 = .ok (.iastore, 1) := by decide +kernel
theorem dX0_foldBy_21 : decode cX0_foldBy 21 = .ok (.aload_n 0, 1) := by decide +kernel
theorem dX0_foldBy_22 : decode cX0_foldBy 22 = .ok (.getfield 15, 3) := by decide +kernel
theorem dX0_foldBy_25 : decode cX0_foldBy 25 = .ok (.iload_n 3, 1) := by decide +kernel
theorem dX0_foldBy_26 : decode cX0_foldBy 26 = .ok (.lconst 0, 1) := by decide +kernel
theorem dX0_foldBy_27 : decode cX0_foldBy 27 = .ok (.lastore, 1) := by decide +kernel
theorem dX0_foldBy_28 : decode cX0_foldBy 28 = .ok (.iinc 3 1, 3) := by decide +kernel
theorem dX0_foldBy_31 : decode cX0_foldBy 31 = .ok (.goto (-29), 3) := by decide +kernel
theorem dX0_foldBy_34 : decode cX0_foldBy 34 = .ok (.iconst 0, 1) := by decide +kernel
theorem dX0_foldBy_35 : decode cX0_foldBy 35 = .ok (.istore_n 3, 1) := by decide +kernel
theorem dX0_foldBy_36 : decode cX0_foldBy 36 = .ok (.iload_n 3, 1) := by decide +kernel
theorem dX0_foldBy_37 : decode cX0_foldBy 37 = .ok (.aload_n 1, 1) := by decide +kernel
theorem dX0_foldBy_38 : decode cX0_foldBy 38 = .ok (.getfield 52, 3) := by decide +kernel
theorem dX0_foldBy_41 : decode cX0_foldBy 41 = .ok (.if_icmp .ge 68, 3) := by decide +kernel
theorem dX0_foldBy_44 : decode cX0_foldBy 44 = .ok (.aload_n 1, 1) := by decide +kernel
theorem dX0_foldBy_45 : decode cX0_foldBy 45 = .ok (.getfield 88, 3) := by decide +kernel
theorem dX0_foldBy_48 : decode cX0_foldBy 48 = .ok (.iload_n 3, 1) := by decide +kernel
theorem dX0_foldBy_49 : decode cX0_foldBy 49 = .ok (.iaload, 1) := by decide +kernel
theorem dX0_foldBy_50 : decode cX0_foldBy 50 = .ok (.istore 4, 2) := by decide +kernel
theorem dX0_foldBy_52 : decode cX0_foldBy 52 = .ok (.iload_n 2, 1) := by decide +kernel
theorem dX0_foldBy_53 : decode cX0_foldBy 53 = .ok (.ifCond .le 10, 3) := by decide +kernel
theorem dX0_foldBy_56 : decode cX0_foldBy 56 = .ok (.iload 4, 2) := by decide +kernel
theorem dX0_foldBy_58 : decode cX0_foldBy 58 = .ok (.iload_n 2, 1) := by decide +kernel
theorem dX0_foldBy_59 : decode cX0_foldBy 59 = .ok (.irem, 1) := by decide +kernel
theorem dX0_foldBy_60 : decode cX0_foldBy 60 = .ok (.goto 4, 3) := by decide +kernel
theorem dX0_foldBy_63 : decode cX0_foldBy 63 = .ok (.iconst 0, 1) := by decide +kernel
theorem dX0_foldBy_64 : decode cX0_foldBy 64 = .ok (.istore 5, 2) := by decide +kernel
theorem dX0_foldBy_66 : decode cX0_foldBy 66 = .ok (.iload 5, 2) := by decide +kernel
theorem dX0_foldBy_68 : decode cX0_foldBy 68 = .ok (.sipush 200, 3) := by decide +kernel
theorem dX0_foldBy_71 : decode cX0_foldBy 71 = .ok (.if_icmp .ge 32, 3) := by decide +kernel
theorem dX0_foldBy_74 : decode cX0_foldBy 74 = .ok (.aload_n 0, 1) := by decide +kernel
theorem dX0_foldBy_75 : decode cX0_foldBy 75 = .ok (.getfield 9, 3) := by decide +kernel
theorem dX0_foldBy_78 : decode cX0_foldBy 78 = .ok (.iload 5, 2) := by decide +kernel
theorem dX0_foldBy_80 : decode cX0_foldBy 80 = .ok (.dup2, 1) := by decide +kernel
theorem dX0_foldBy_81 : decode cX0_foldBy 81 = .ok (.iaload, 1) := by decide +kernel
theorem dX0_foldBy_82 : decode cX0_foldBy 82 = .ok (.iconst 1, 1) := by decide +kernel
theorem dX0_foldBy_83 : decode cX0_foldBy 83 = .ok (.iadd, 1) := by decide +kernel
theorem dX0_foldBy_84 : decode cX0_foldBy 84 = .ok (.iastore, 1) := by decide +kernel
theorem dX0_foldBy_85 : decode cX0_foldBy 85 = .ok (.aload_n 0, 1) := by decide +kernel
theorem dX0_foldBy_86 : decode cX0_foldBy 86 = .ok (.getfield 15, 3) := by decide +kernel
theorem dX0_foldBy_89 : decode cX0_foldBy 89 = .ok (.iload 5, 2) := by decide +kernel
theorem dX0_foldBy_91 : decode cX0_foldBy 91 = .ok (.dup2, 1) := by decide +kernel
theorem dX0_foldBy_92 : decode cX0_foldBy 92 = .ok (.laload, 1) := by decide +kernel
theorem dX0_foldBy_93 : decode cX0_foldBy 93 = .ok (.aload_n 1, 1) := by decide +kernel
theorem dX0_foldBy_94 : decode cX0_foldBy 94 = .ok (.getfield 91, 3) := by decide +kernel
theorem dX0_foldBy_97 : decode cX0_foldBy 97 = .ok (.iload 4, 2) := by decide +kernel
theorem dX0_foldBy_99 : decode cX0_foldBy 99 = .ok (.iaload, 1) := by decide +kernel
theorem dX0_foldBy_100 : decode cX0_foldBy 100 = .ok (.i2l, 1) := by decide +kernel
theorem dX0_foldBy_101 : decode cX0_foldBy 101 = .ok (.ladd, 1) := by decide +kernel
theorem dX0_foldBy_102 : decode cX0_foldBy 102 = .ok (.lastore, 1) := by decide +kernel
theorem dX0_foldBy_103 : decode cX0_foldBy 103 = .ok (.iinc 3 1, 3) := by decide +kernel
theorem dX0_foldBy_106 : decode cX0_foldBy 106 = .ok (.goto (-70), 3) := by decide +kernel
theorem dX0_foldBy_109 : decode cX0_foldBy 109 = .ok (.return_, 1) := by decide +kernel
theorem dX0_tryBeat_0 : decode cX0_tryBeat 0 = .ok (.aload_n 2, 1) := by decide +kernel
theorem dX0_tryBeat_1 : decode cX0_tryBeat 1 = .ok (.getfield 94, 3) := by decide +kernel
theorem dX0_tryBeat_4 : decode cX0_tryBeat 4 = .ok (.iload_n 3, 1) := by decide +kernel
theorem dX0_tryBeat_5 : decode cX0_tryBeat 5 = .ok (.iconst 1, 1) := by decide +kernel
theorem dX0_tryBeat_6 : decode cX0_tryBeat 6 = .ok (.isub, 1) := by decide +kernel
theorem dX0_tryBeat_7 : decode cX0_tryBeat 7 = .ok (.invokestatic 37, 3) := by decide +kernel
theorem dX0_tryBeat_10 : decode cX0_tryBeat 10 = .ok (.istore 5, 2) := by decide +kernel
theorem dX0_tryBeat_12 : decode cX0_tryBeat 12 = .ok (.iconst 1, 1) := by decide +kernel
theorem dX0_tryBeat_13 : decode cX0_tryBeat 13 = .ok (.aload_n 2, 1) := by decide +kernel
theorem dX0_tryBeat_14 : decode cX0_tryBeat 14 = .ok (.getfield 97, 3) := by decide +kernel
theorem dX0_tryBeat_17 : decode cX0_tryBeat 17 = .ok (.invokestatic 46, 3) := by decide +kernel
theorem dX0_tryBeat_20 : decode cX0_tryBeat 20 = .ok (.istore 6, 2) := by decide +kernel
theorem dX0_tryBeat_22 : decode cX0_tryBeat 22 = .ok (.iload 6, 2) := by decide +kernel
theorem dX0_tryBeat_24 : decode cX0_tryBeat 24 = .ok (.iload 5, 2) := by decide +kernel
theorem dX0_tryBeat_26 : decode cX0_tryBeat 26 = .ok (.if_icmp .gt 226, 3) := by decide +kernel
theorem dX0_tryBeat_29 : decode cX0_tryBeat 29 = .ok (.iconst 0, 1) := by decide +kernel
theorem dX0_tryBeat_30 : decode cX0_tryBeat 30 = .ok (.istore 7, 2) := by decide +kernel
theorem dX0_tryBeat_32 : decode cX0_tryBeat 32 = .ok (.lconst 0, 1) := by decide +kernel
theorem dX0_tryBeat_33 : decode cX0_tryBeat 33 = .ok (.lstore 8, 2) := by decide +kernel
theorem dX0_tryBeat_35 : decode cX0_tryBeat 35 = .ok (.iconst 0, 1) := by decide +kernel
theorem dX0_tryBeat_36 : decode cX0_tryBeat 36 = .ok (.istore 10, 2) := by decide +kernel
theorem dX0_tryBeat_38 : decode cX0_tryBeat 38 = .ok (.iload 10, 2) := by decide +kernel
theorem dX0_tryBeat_40 : decode cX0_tryBeat 40 = .ok (.iload 6, 2) := by decide +kernel
theorem dX0_tryBeat_42 : decode cX0_tryBeat 42 = .ok (.iconst 1, 1) := by decide +kernel
theorem dX0_tryBeat_43 : decode cX0_tryBeat 43 = .ok (.isub, 1) := by decide +kernel
theorem dX0_tryBeat_44 : decode cX0_tryBeat 44 = .ok (.if_icmp .ge 33, 3) := by decide +kernel
theorem dX0_tryBeat_47 : decode cX0_tryBeat 47 = .ok (.iload 7, 2) := by decide +kernel
theorem dX0_tryBeat_49 : decode cX0_tryBeat 49 = .ok (.aload_n 0, 1) := by decide +kernel
theorem dX0_tryBeat_50 : decode cX0_tryBeat 50 = .ok (.getfield 9, 3) := by decide +kernel
theorem dX0_tryBeat_53 : decode cX0_tryBeat 53 = .ok (.iload 10, 2) := by decide +kernel
theorem dX0_tryBeat_55 : decode cX0_tryBeat 55 = .ok (.iaload, 1) := by decide +kernel
theorem dX0_tryBeat_56 : decode cX0_tryBeat 56 = .ok (.iadd, 1) := by decide +kernel
theorem dX0_tryBeat_57 : decode cX0_tryBeat 57 = .ok (.istore 7, 2) := by decide +kernel
theorem dX0_tryBeat_59 : decode cX0_tryBeat 59 = .ok (.lload 8, 2) := by decide +kernel
theorem dX0_tryBeat_61 : decode cX0_tryBeat 61 = .ok (.aload_n 0, 1) := by decide +kernel
theorem dX0_tryBeat_62 : decode cX0_tryBeat 62 = .ok (.getfield 15, 3) := by decide +kernel
theorem dX0_tryBeat_65 : decode cX0_tryBeat 65 = .ok (.iload 10, 2) := by decide +kernel
theorem dX0_tryBeat_67 : decode cX0_tryBeat 67 = .ok (.laload, 1) := by decide +kernel
theorem dX0_tryBeat_68 : decode cX0_tryBeat 68 = .ok (.ladd, 1) := by decide +kernel
theorem dX0_tryBeat_69 : decode cX0_tryBeat 69 = .ok (.lstore 8, 2) := by decide +kernel
theorem dX0_tryBeat_71 : decode cX0_tryBeat 71 = .ok (.iinc 10 1, 3) := by decide +kernel
theorem dX0_tryBeat_74 : decode cX0_tryBeat 74 = .ok (.goto (-36), 3) := by decide +kernel
theorem dX0_tryBeat_77 : decode cX0_tryBeat 77 = .ok (.iconst 0, 1) := by decide +kernel
theorem dX0_tryBeat_78 : decode cX0_tryBeat 78 = .ok (.istore 10, 2) := by decide +kernel
theorem dX0_tryBeat_80 : decode cX0_tryBeat 80 = .ok (.iload 10, 2) := by decide +kernel
theorem dX0_tryBeat_82 : decode cX0_tryBeat 82 = .ok (.iload_n 3, 1) := by decide +kernel
theorem dX0_tryBeat_83 : decode cX0_tryBeat 83 = .ok (.if_icmp .ge 163, 3) := by decide +kernel
theorem dX0_tryBeat_86 : decode cX0_tryBeat 86 = .ok (.iload 10, 2) := by decide +kernel
theorem dX0_tryBeat_88 : decode cX0_tryBeat 88 = .ok (.iload 6, 2) := by decide +kernel
theorem dX0_tryBeat_90 : decode cX0_tryBeat 90 = .ok (.iadd, 1) := by decide +kernel
theorem dX0_tryBeat_91 : decode cX0_tryBeat 91 = .ok (.iconst 1, 1) := by decide +kernel
theorem dX0_tryBeat_92 : decode cX0_tryBeat 92 = .ok (.isub, 1) := by decide +kernel
theorem dX0_tryBeat_93 : decode cX0_tryBeat 93 = .ok (.istore 11, 2) := by decide +kernel
theorem dX0_tryBeat_95 : decode cX0_tryBeat 95 = .ok (.iload 11, 2) := by decide +kernel
theorem dX0_tryBeat_97 : decode cX0_tryBeat 97 = .ok (.iload 11, 2) := by decide +kernel
theorem dX0_tryBeat_99 : decode cX0_tryBeat 99 = .ok (.iload_n 3, 1) := by decide +kernel
theorem dX0_tryBeat_100 : decode cX0_tryBeat 100 = .ok (.if_icmp .lt 7, 3) := by decide +kernel
theorem dX0_tryBeat_103 : decode cX0_tryBeat 103 = .ok (.iload_n 3, 1) := by decide +kernel
theorem dX0_tryBeat_104 : decode cX0_tryBeat 104 = .ok (.goto 4, 3) := by decide +kernel
theorem dX0_tryBeat_107 : decode cX0_tryBeat 107 = .ok (.iconst 0, 1) := by decide +kernel
theorem dX0_tryBeat_108 : decode cX0_tryBeat 108 = .ok (.isub, 1) := by decide +kernel
theorem dX0_tryBeat_109 : decode cX0_tryBeat 109 = .ok (.istore 11, 2) := by decide +kernel
theorem dX0_tryBeat_111 : decode cX0_tryBeat 111 = .ok (.iload 7, 2) := by decide +kernel
theorem dX0_tryBeat_113 : decode cX0_tryBeat 113 = .ok (.aload_n 0, 1) := by decide +kernel
theorem dX0_tryBeat_114 : decode cX0_tryBeat 114 = .ok (.getfield 9, 3) := by decide +kernel
theorem dX0_tryBeat_117 : decode cX0_tryBeat 117 = .ok (.iload 11, 2) := by decide +kernel
theorem dX0_tryBeat_119 : decode cX0_tryBeat 119 = .ok (.iaload, 1) := by decide +kernel
theorem dX0_tryBeat_120 : decode cX0_tryBeat 120 = .ok (.iadd, 1) := by decide +kernel
theorem dX0_tryBeat_121 : decode cX0_tryBeat 121 = .ok (.istore 7, 2) := by decide +kernel
theorem dX0_tryBeat_123 : decode cX0_tryBeat 123 = .ok (.lload 8, 2) := by decide +kernel
theorem dX0_tryBeat_125 : decode cX0_tryBeat 125 = .ok (.aload_n 0, 1) := by decide +kernel
theorem dX0_tryBeat_126 : decode cX0_tryBeat 126 = .ok (.getfield 15, 3) := by decide +kernel
theorem dX0_tryBeat_129 : decode cX0_tryBeat 129 = .ok (.iload 11, 2) := by decide +kernel
theorem dX0_tryBeat_131 : decode cX0_tryBeat 131 = .ok (.laload, 1) := by decide +kernel
theorem dX0_tryBeat_132 : decode cX0_tryBeat 132 = .ok (.ladd, 1) := by decide +kernel
theorem dX0_tryBeat_133 : decode cX0_tryBeat 133 = .ok (.lstore 8, 2) := by decide +kernel
theorem dX0_tryBeat_135 : decode cX0_tryBeat 135 = .ok (.aload_n 1, 1) := by decide +kernel
theorem dX0_tryBeat_136 : decode cX0_tryBeat 136 = .ok (.iload 7, 2) := by decide +kernel
theorem dX0_tryBeat_138 : decode cX0_tryBeat 138 = .ok (.putfield 100, 3) := by decide +kernel
theorem dX0_tryBeat_141 : decode cX0_tryBeat 141 = .ok (.aload_n 1, 1) := by decide +kernel
theorem dX0_tryBeat_142 : decode cX0_tryBeat 142 = .ok (.lload 8, 2) := by decide +kernel
theorem dX0_tryBeat_144 : decode cX0_tryBeat 144 = .ok (.putfield 103, 3) := by decide +kernel
theorem dX0_tryBeat_147 : decode cX0_tryBeat 147 = .ok (.aload_n 1, 1) := by decide +kernel
theorem dX0_tryBeat_148 : decode cX0_tryBeat 148 = .ok (.invokevirtual 106, 3) := by decide +kernel
theorem dX0_tryBeat_151 : decode cX0_tryBeat 151 = .ok (.lstore 12, 2) := by decide +kernel
theorem dX0_tryBeat_153 : decode cX0_tryBeat 153 = .ok (.lload 12, 2) := by decide +kernel
theorem dX0_tryBeat_155 : decode cX0_tryBeat 155 = .ok (.aload 4, 2) := by decide +kernel
theorem dX0_tryBeat_157 : decode cX0_tryBeat 157 = .ok (.getfield 28, 3) := by decide +kernel
theorem dX0_tryBeat_160 : decode cX0_tryBeat 160 = .ok (.lcmp, 1) := by decide +kernel
theorem dX0_tryBeat_161 : decode cX0_tryBeat 161 = .ok (.ifCond .le 55, 3) := by decide +kernel
theorem dX0_tryBeat_164 : decode cX0_tryBeat 164 = .ok (.iload 7, 2) := by decide +kernel
theorem dX0_tryBeat_166 : decode cX0_tryBeat 166 = .ok (.aload_n 2, 1) := by decide +kernel
theorem dX0_tryBeat_167 : decode cX0_tryBeat 167 = .ok (.getfield 49, 3) := by decide +kernel
theorem dX0_tryBeat_170 : decode cX0_tryBeat 170 = .ok (.if_icmp .lt 46, 3) := by decide +kernel
theorem dX0_tryBeat_173 : decode cX0_tryBeat 173 = .ok (.aload_n 1, 1) := by decide +kernel
theorem dX0_tryBeat_174 : decode cX0_tryBeat 174 = .ok (.iload_n 3, 1) := by decide +kernel
theorem dX0_tryBeat_175 : decode cX0_tryBeat 175 = .ok (.iload 6, 2) := by decide +kernel
theorem dX0_tryBeat_177 : decode cX0_tryBeat 177 = .ok (.iload 10, 2) := by decide +kernel
theorem dX0_tryBeat_179 : decode cX0_tryBeat 179 = .ok (.invokevirtual 85, 3) := by decide +kernel
theorem dX0_tryBeat_182 : decode cX0_tryBeat 182 = .ok (.aload_n 2, 1) := by decide +kernel
theorem dX0_tryBeat_183 : decode cX0_tryBeat 183 = .ok (.getfield 49, 3) := by decide +kernel
theorem dX0_tryBeat_186 : decode cX0_tryBeat 186 = .ok (.if_icmp .lt 30, 3) := by decide +kernel
theorem dX0_tryBeat_189 : decode cX0_tryBeat 189 = .ok (.aload 4, 2) := by decide +kernel
theorem dX0_tryBeat_191 : decode cX0_tryBeat 191 = .ok (.iload_n 3, 1) := by decide +kernel
theorem dX0_tryBeat_192 : decode cX0_tryBeat 192 = .ok (.putfield 19, 3) := by decide +kernel
theorem dX0_tryBeat_195 : decode cX0_tryBeat 195 = .ok (.aload 4, 2) := by decide +kernel
theorem dX0_tryBeat_197 : decode cX0_tryBeat 197 = .ok (.iload 6, 2) := by decide +kernel
theorem dX0_tryBeat_199 : decode cX0_tryBeat 199 = .ok (.putfield 69, 3) := by decide +kernel
theorem dX0_tryBeat_202 : decode cX0_tryBeat 202 = .ok (.aload 4, 2) := by decide +kernel
theorem dX0_tryBeat_204 : decode cX0_tryBeat 204 = .ok (.iload 10, 2) := by decide +kernel
theorem dX0_tryBeat_206 : decode cX0_tryBeat 206 = .ok (.putfield 72, 3) := by decide +kernel
theorem dX0_tryBeat_209 : decode cX0_tryBeat 209 = .ok (.aload 4, 2) := by decide +kernel
theorem dX0_tryBeat_211 : decode cX0_tryBeat 211 = .ok (.lload 12, 2) := by decide +kernel
theorem dX0_tryBeat_213 : decode cX0_tryBeat 213 = .ok (.putfield 28, 3) := by decide +kernel
theorem dX0_tryBeat_216 : decode cX0_tryBeat 216 = .ok (.iload 7, 2) := by decide +kernel
theorem dX0_tryBeat_218 : decode cX0_tryBeat 218 = .ok (.aload_n 0, 1) := by decide +kernel
theorem dX0_tryBeat_219 : decode cX0_tryBeat 219 = .ok (.getfield 9, 3) := by decide +kernel
theorem dX0_tryBeat_222 : decode cX0_tryBeat 222 = .ok (.iload 10, 2) := by decide +kernel
theorem dX0_tryBeat_224 : decode cX0_tryBeat 224 = .ok (.iaload, 1) := by decide +kernel
theorem dX0_tryBeat_225 : decode cX0_tryBeat 225 = .ok (.isub, 1) := by decide +kernel
theorem dX0_tryBeat_226 : decode cX0_tryBeat 226 = .ok (.istore 7, 2) := by decide +kernel
theorem dX0_tryBeat_228 : decode cX0_tryBeat 228 = .ok (.lload 8, 2) := by decide +kernel
theorem dX0_tryBeat_230 : decode cX0_tryBeat 230 = .ok (.aload_n 0, 1) := by decide +kernel
theorem dX0_tryBeat_231 : decode cX0_tryBeat 231 = .ok (.getfield 15, 3) := by decide +kernel
theorem dX0_tryBeat_234 : decode cX0_tryBeat 234 = .ok (.iload 10, 2) := by decide +kernel
theorem dX0_tryBeat_236 : decode cX0_tryBeat 236 = .ok (.laload, 1) := by decide +kernel
theorem dX0_tryBeat_237 : decode cX0_tryBeat 237 = .ok (.lsub, 1) := by decide +kernel
theorem dX0_tryBeat_238 : decode cX0_tryBeat 238 = .ok (.lstore 8, 2) := by decide +kernel
theorem dX0_tryBeat_240 : decode cX0_tryBeat 240 = .ok (.iinc 10 1, 3) := by decide +kernel
theorem dX0_tryBeat_243 : decode cX0_tryBeat 243 = .ok (.goto (-163), 3) := by decide +kernel
theorem dX0_tryBeat_246 : decode cX0_tryBeat 246 = .ok (.iinc 6 1, 3) := by decide +kernel
theorem dX0_tryBeat_249 : decode cX0_tryBeat 249 = .ok (.goto (-227), 3) := by decide +kernel
theorem dX0_tryBeat_252 : decode cX0_tryBeat 252 = .ok (.return_, 1) := by decide +kernel
theorem dX1_isNone_0 : decode cX1_isNone 0 = .ok (.aload_n 0, 1) := by decide +kernel
theorem dX1_isNone_1 : decode cX1_isNone 1 = .ok (.getfield 9, 3) := by decide +kernel
theorem dX1_isNone_4 : decode cX1_isNone 4 = .ok (.lconst 1, 1) := by decide +kernel
theorem dX1_isNone_5 : decode cX1_isNone 5 = .ok (.lcmp, 1) := by decide +kernel
theorem dX1_isNone_6 : decode cX1_isNone 6 = .ok (.ifCond .lt 11, 3) := by decide +kernel
theorem dX1_isNone_9 : decode cX1_isNone 9 = .ok (.aload_n 0, 1) := by decide +kernel
theorem dX1_isNone_10 : decode cX1_isNone 10 = .ok (.getfield 15, 3) := by decide +kernel
theorem dX1_isNone_13 : decode cX1_isNone 13 = .ok (.iconst 1, 1) := by decide +kernel
theorem dX1_isNone_14 : decode cX1_isNone 14 = .ok (.if_icmp .ge 7, 3) := by decide +kernel
theorem dX1_isNone_17 : decode cX1_isNone 17 = .ok (.iconst 1, 1) := by decide +kernel
theorem dX1_isNone_18 : decode cX1_isNone 18 = .ok (.goto 4, 3) := by decide +kernel
theorem dX1_isNone_21 : decode cX1_isNone 21 = .ok (.iconst 0, 1) := by decide +kernel
theorem dX1_isNone_22 : decode cX1_isNone 22 = .ok (.ireturn, 1) := by decide +kernel
theorem dX1_isSeen_0 : decode cX1_isSeen 0 = .ok (.aload_n 0, 1) := by decide +kernel
theorem dX1_isSeen_1 : decode cX1_isSeen 1 = .ok (.invokevirtual 19, 3) := by decide +kernel
theorem dX1_isSeen_4 : decode cX1_isSeen 4 = .ok (.ifCond .ne 17, 3) := by decide +kernel
theorem dX1_isSeen_7 : decode cX1_isSeen 7 = .ok (.aload_n 0, 1) := by decide +kernel
theorem dX1_isSeen_8 : decode cX1_isSeen 8 = .ok (.getfield 9, 3) := by decide +kernel
theorem dX1_isSeen_11 : decode cX1_isSeen 11 = .ok (.iload_n 1, 1) := by decide +kernel
theorem dX1_isSeen_12 : decode cX1_isSeen 12 = .ok (.i2l, 1) := by decide +kernel
theorem dX1_isSeen_13 : decode cX1_isSeen 13 = .ok (.lcmp, 1) := by decide +kernel
theorem dX1_isSeen_14 : decode cX1_isSeen 14 = .ok (.ifCond .lt 7, 3) := by decide +kernel
theorem dX1_isSeen_17 : decode cX1_isSeen 17 = .ok (.iconst 1, 1) := by decide +kernel
theorem dX1_isSeen_18 : decode cX1_isSeen 18 = .ok (.goto 4, 3) := by decide +kernel
theorem dX1_isSeen_21 : decode cX1_isSeen 21 = .ok (.iconst 0, 1) := by decide +kernel
theorem dX1_isSeen_22 : decode cX1_isSeen 22 = .ok (.ireturn, 1) := by decide +kernel
theorem dX1_isSeenWith_0 : decode cX1_isSeenWith 0 = .ok (.aload_n 0, 1) := by decide +kernel
theorem dX1_isSeenWith_1 : decode cX1_isSeenWith 1 = .ok (.iload_n 2, 1) := by decide +kernel
theorem dX1_isSeenWith_2 : decode cX1_isSeenWith 2 = .ok (.invokevirtual 23, 3) := by decide +kernel
theorem dX1_isSeenWith_5 : decode cX1_isSeenWith 5 = .ok (.ifCond .eq 15, 3) := by decide +kernel
theorem dX1_isSeenWith_8 : decode cX1_isSeenWith 8 = .ok (.aload_n 0, 1) := by decide +kernel
theorem dX1_isSeenWith_9 : decode cX1_isSeenWith 9 = .ok (.getfield 15, 3) := by decide +kernel
theorem dX1_isSeenWith_12 : decode cX1_isSeenWith 12 = .ok (.iload_n 1, 1) := by decide +kernel
theorem dX1_isSeenWith_13 : decode cX1_isSeenWith 13 = .ok (.if_icmp .ne 7, 3) := by decide +kernel
theorem dX1_isSeenWith_16 : decode cX1_isSeenWith 16 = .ok (.iconst 1, 1) := by decide +kernel
theorem dX1_isSeenWith_17 : decode cX1_isSeenWith 17 = .ok (.goto 4, 3) := by decide +kernel
theorem dX1_isSeenWith_20 : decode cX1_isSeenWith 20 = .ok (.iconst 0, 1) := by decide +kernel
theorem dX1_isSeenWith_21 : decode cX1_isSeenWith 21 = .ok (.ireturn, 1) := by decide +kernel
theorem dX1_part_0 : decode cX1_part 0 = .ok (.iload_n 1, 1) := by decide +kernel
theorem dX1_part_1 : decode cX1_part 1 = .ok (.bipush 6, 2) := by decide +kernel
theorem dX1_part_3 : decode cX1_part 3 = .ok (.if_icmp .ne 17, 3) := by decide +kernel
theorem dX1_part_6 : decode cX1_part 6 = .ok (.aload_n 0, 1) := by decide +kernel
theorem dX1_part_7 : decode cX1_part 7 = .ok (.iload_n 2, 1) := by decide +kernel
theorem dX1_part_8 : decode cX1_part 8 = .ok (.invokevirtual 23, 3) := by decide +kernel
theorem dX1_part_11 : decode cX1_part 11 = .ok (.ifCond .eq 7, 3) := by decide +kernel
theorem dX1_part_14 : decode cX1_part 14 = .ok (.lconst 1, 1) := by decide +kernel
theorem dX1_part_15 : decode cX1_part 15 = .ok (.goto 4, 3) := by decide +kernel
theorem dX1_part_18 : decode cX1_part 18 = .ok (.lconst 0, 1) := by decide +kernel
theorem dX1_part_19 : decode cX1_part 19 = .ok (.lreturn, 1) := by decide +kernel
theorem dX1_part_20 : decode cX1_part 20 = .ok (.aload_n 0, 1) := by decide +kernel
theorem dX1_part_21 : decode cX1_part 21 = .ok (.invokevirtual 19, 3) := by decide +kernel
theorem dX1_part_24 : decode cX1_part 24 = .ok (.ifCond .eq 7, 3) := by decide +kernel
theorem dX1_part_27 : decode cX1_part 27 = .ok (.ldc2_w 27, 3) := by decide +kernel
theorem dX1_part_30 : decode cX1_part 30 = .ok (.lreturn, 1) := by decide +kernel
theorem dX1_part_31 : decode cX1_part 31 = .ok (.iload_n 1, 1) := by decide +kernel
theorem dX1_part_32 : decode cX1_part 32 = .ok (.tableswitch 64 0 4 #[36, 42, 48, 54, 59], 36) := by decide +kernel
theorem dX1_part_68 : decode cX1_part 68 = .ok (.aload_n 0, 1) := by decide +kernel
theorem dX1_part_69 : decode cX1_part 69 = .ok (.getfield 15, 3) := by decide +kernel
theorem dX1_part_72 : decode cX1_part 72 = .ok (.i2l, 1) := by decide +kernel
theorem dX1_part_73 : decode cX1_part 73 = .ok (.lreturn, 1) := by decide +kernel
theorem dX1_part_74 : decode cX1_part 74 = .ok (.aload_n 0, 1) := by decide +kernel
theorem dX1_part_75 : decode cX1_part 75 = .ok (.getfield 29, 3) := by decide +kernel
theorem dX1_part_78 : decode cX1_part 78 = .ok (.i2l, 1) := by decide +kernel
theorem dX1_part_79 : decode cX1_part 79 = .ok (.lreturn, 1) := by decide +kernel
theorem dX1_part_80 : decode cX1_part 80 = .ok (.aload_n 0, 1) := by decide +kernel
theorem dX1_part_81 : decode cX1_part 81 = .ok (.getfield 32, 3) := by decide +kernel
theorem dX1_part_84 : decode cX1_part 84 = .ok (.i2l, 1) := by decide +kernel
theorem dX1_part_85 : decode cX1_part 85 = .ok (.lreturn, 1) := by decide +kernel
theorem dX1_part_86 : decode cX1_part 86 = .ok (.aload_n 0, 1) := by decide +kernel
theorem dX1_part_87 : decode cX1_part 87 = .ok (.getfield 35, 3) := by decide +kernel
theorem dX1_part_90 : decode cX1_part 90 = .ok (.lreturn, 1) := by decide +kernel
theorem dX1_part_91 : decode cX1_part 91 = .ok (.aload_n 0, 1) := by decide +kernel
theorem dX1_part_92 : decode cX1_part 92 = .ok (.getfield 9, 3) := by decide +kernel
theorem dX1_part_95 : decode cX1_part 95 = .ok (.lreturn, 1) := by decide +kernel
theorem dX1_part_96 : decode cX1_part 96 = .ok (.aload_n 0, 1) := by decide +kernel
theorem dX1_part_97 : decode cX1_part 97 = .ok (.getfield 38, 3) := by decide +kernel
theorem dX1_part_100 : decode cX1_part 100 = .ok (.i2l, 1) := by decide +kernel
theorem dX1_part_101 : decode cX1_part 101 = .ok (.lreturn, 1) := by decide +kernel
theorem dX1_radiusAt_0 : decode cX1_radiusAt 0 = .ok (.aload_n 0, 1) := by decide +kernel
theorem dX1_radiusAt_1 : decode cX1_radiusAt 1 = .ok (.getfield 35, 3) := by decide +kernel
theorem dX1_radiusAt_4 : decode cX1_radiusAt 4 = .ok (.lload_n 1, 1) := by decide +kernel
theorem dX1_radiusAt_5 : decode cX1_radiusAt 5 = .ok (.lmul, 1) := by decide +kernel
theorem dX1_radiusAt_6 : decode cX1_radiusAt 6 = .ok (.lload_n 1, 1) := by decide +kernel
theorem dX1_radiusAt_7 : decode cX1_radiusAt 7 = .ok (.lmul, 1) := by decide +kernel
theorem dX1_radiusAt_8 : decode cX1_radiusAt 8 = .ok (.lstore_n 3, 1) := by decide +kernel
theorem dX1_radiusAt_9 : decode cX1_radiusAt 9 = .ok (.iconst 0, 1) := by decide +kernel
theorem dX1_radiusAt_10 : decode cX1_radiusAt 10 = .ok (.istore 5, 2) := by decide +kernel
theorem dX1_radiusAt_12 : decode cX1_radiusAt 12 = .ok (.iload 5, 2) := by decide +kernel
theorem dX1_radiusAt_14 : decode cX1_radiusAt 14 = .ok (.sipush 1000, 3) := by decide +kernel
theorem dX1_radiusAt_17 : decode cX1_radiusAt 17 = .ok (.if_icmp .ge 29, 3) := by decide +kernel
theorem dX1_radiusAt_20 : decode cX1_radiusAt 20 = .ok (.iload 5, 2) := by decide +kernel
theorem dX1_radiusAt_22 : decode cX1_radiusAt 22 = .ok (.i2l, 1) := by decide +kernel
theorem dX1_radiusAt_23 : decode cX1_radiusAt 23 = .ok (.lconst 1, 1) := by decide +kernel
theorem dX1_radiusAt_24 : decode cX1_radiusAt 24 = .ok (.ladd, 1) := by decide +kernel
theorem dX1_radiusAt_25 : decode cX1_radiusAt 25 = .ok (.iload 5, 2) := by decide +kernel
theorem dX1_radiusAt_27 : decode cX1_radiusAt 27 = .ok (.i2l, 1) := by decide +kernel
theorem dX1_radiusAt_28 : decode cX1_radiusAt 28 = .ok (.lconst 1, 1) := by decide +kernel
theorem dX1_radiusAt_29 : decode cX1_radiusAt 29 = .ok (.ladd, 1) := by decide +kernel
theorem dX1_radiusAt_30 : decode cX1_radiusAt 30 = .ok (.lmul, 1) := by decide +kernel
theorem dX1_radiusAt_31 : decode cX1_radiusAt 31 = .ok (.ldc2_w 41, 3) := by decide +kernel
theorem dX1_radiusAt_34 : decode cX1_radiusAt 34 = .ok (.lmul, 1) := by decide +kernel
theorem dX1_radiusAt_35 : decode cX1_radiusAt 35 = .ok (.lload_n 3, 1) := by decide +kernel
theorem dX1_radiusAt_36 : decode cX1_radiusAt 36 = .ok (.lcmp, 1) := by decide +kernel
theorem dX1_radiusAt_37 : decode cX1_radiusAt 37 = .ok (.ifCond .gt 9, 3) := by decide +kernel
theorem dX1_radiusAt_40 : decode cX1_radiusAt 40 = .ok (.iinc 5 1, 3) := by decide +kernel
theorem dX1_radiusAt_43 : decode cX1_radiusAt 43 = .ok (.goto (-31), 3) := by decide +kernel
theorem dX1_radiusAt_46 : decode cX1_radiusAt 46 = .ok (.iload 5, 2) := by decide +kernel
theorem dX1_radiusAt_48 : decode cX1_radiusAt 48 = .ok (.ireturn, 1) := by decide +kernel
theorem dX4_brightness_0 : decode cX4_brightness 0 = .ok (.iconst 0, 1) := by decide +kernel
theorem dX4_brightness_1 : decode cX4_brightness 1 = .ok (.istore_n 3, 1) := by decide +kernel
theorem dX4_brightness_2 : decode cX4_brightness 2 = .ok (.iload_n 3, 1) := by decide +kernel
theorem dX4_brightness_3 : decode cX4_brightness 3 = .ok (.aload_n 1, 1) := by decide +kernel
theorem dX4_brightness_4 : decode cX4_brightness 4 = .ok (.getfield 15, 3) := by decide +kernel
theorem dX4_brightness_7 : decode cX4_brightness 7 = .ok (.if_icmp .ge 44, 3) := by decide +kernel
theorem dX4_brightness_10 : decode cX4_brightness 10 = .ok (.iload_n 3, 1) := by decide +kernel
theorem dX4_brightness_11 : decode cX4_brightness 11 = .ok (.bipush 12, 2) := by decide +kernel
theorem dX4_brightness_13 : decode cX4_brightness 13 = .ok (.if_icmp .ge 38, 3) := by decide +kernel
theorem dX4_brightness_16 : decode cX4_brightness 16 = .ok (.aload_n 0, 1) := by decide +kernel
theorem dX4_brightness_17 : decode cX4_brightness 17 = .ok (.aload_n 1, 1) := by decide +kernel
theorem dX4_brightness_18 : decode cX4_brightness 18 = .ok (.iload_n 3, 1) := by decide +kernel
theorem dX4_brightness_19 : decode cX4_brightness 19 = .ok (.aload_n 2, 1) := by decide +kernel
theorem dX4_brightness_20 : decode cX4_brightness 20 = .ok (.invokevirtual 21, 3) := by decide +kernel
theorem dX4_brightness_23 : decode cX4_brightness 23 = .ok (.ifCond .eq 22, 3) := by decide +kernel
theorem dX4_brightness_26 : decode cX4_brightness 26 = .ok (.aload_n 0, 1) := by decide +kernel
theorem dX4_brightness_27 : decode cX4_brightness 27 = .ok (.aload_n 1, 1) := by decide +kernel
theorem dX4_brightness_28 : decode cX4_brightness 28 = .ok (.aload_n 1, 1) := by decide +kernel
theorem dX4_brightness_29 : decode cX4_brightness 29 = .ok (.getfield 25, 3) := by decide +kernel
theorem dX4_brightness_32 : decode cX4_brightness 32 = .ok (.iload_n 3, 1) := by decide +kernel
theorem dX4_brightness_33 : decode cX4_brightness 33 = .ok (.iaload, 1) := by decide +kernel
theorem dX4_brightness_34 : decode cX4_brightness 34 = .ok (.aload_n 1, 1) := by decide +kernel
theorem dX4_brightness_35 : decode cX4_brightness 35 = .ok (.getfield 29, 3) := by decide +kernel
theorem dX4_brightness_38 : decode cX4_brightness 38 = .ok (.iload_n 3, 1) := by decide +kernel
theorem dX4_brightness_39 : decode cX4_brightness 39 = .ok (.iaload, 1) := by decide +kernel
theorem dX4_brightness_40 : decode cX4_brightness 40 = .ok (.aload_n 2, 1) := by decide +kernel
theorem dX4_brightness_41 : decode cX4_brightness 41 = .ok (.invokevirtual 32, 3) := by decide +kernel
theorem dX4_brightness_44 : decode cX4_brightness 44 = .ok (.lreturn, 1) := by decide +kernel
theorem dX4_brightness_45 : decode cX4_brightness 45 = .ok (.iinc 3 1, 3) := by decide +kernel
theorem dX4_brightness_48 : decode cX4_brightness 48 = .ok (.goto (-46), 3) := by decide +kernel
theorem dX4_brightness_51 : decode cX4_brightness 51 = .ok (.lconst 0, 1) := by decide +kernel
theorem dX4_brightness_52 : decode cX4_brightness 52 = .ok (.lreturn, 1) := by decide +kernel
theorem dX4_holds_0 : decode cX4_holds 0 = .ok (.aload_n 1, 1) := by decide +kernel
theorem dX4_holds_1 : decode cX4_holds 1 = .ok (.getfield 29, 3) := by decide +kernel
theorem dX4_holds_4 : decode cX4_holds 4 = .ok (.iload_n 2, 1) := by decide +kernel
theorem dX4_holds_5 : decode cX4_holds 5 = .ok (.iaload, 1) := by decide +kernel
theorem dX4_holds_6 : decode cX4_holds 6 = .ok (.istore 4, 2) := by decide +kernel
theorem dX4_holds_8 : decode cX4_holds 8 = .ok (.aload_n 1, 1) := by decide +kernel
theorem dX4_holds_9 : decode cX4_holds 9 = .ok (.getfield 39, 3) := by decide +kernel
theorem dX4_holds_12 : decode cX4_holds 12 = .ok (.iload_n 2, 1) := by decide +kernel
theorem dX4_holds_13 : decode cX4_holds 13 = .ok (.iaload, 1) := by decide +kernel
theorem dX4_holds_14 : decode cX4_holds 14 = .ok (.istore 5, 2) := by decide +kernel
theorem dX4_holds_16 : decode cX4_holds 16 = .ok (.iload 4, 2) := by decide +kernel
theorem dX4_holds_18 : decode cX4_holds 18 = .ok (.iload 5, 2) := by decide +kernel
theorem dX4_holds_20 : decode cX4_holds 20 = .ok (.if_icmp .eq 18, 3) := by decide +kernel
theorem dX4_holds_23 : decode cX4_holds 23 = .ok (.aload_n 0, 1) := by decide +kernel
theorem dX4_holds_24 : decode cX4_holds 24 = .ok (.aload_n 1, 1) := by decide +kernel
theorem dX4_holds_25 : decode cX4_holds 25 = .ok (.iload 4, 2) := by decide +kernel
theorem dX4_holds_27 : decode cX4_holds 27 = .ok (.iload 5, 2) := by decide +kernel
theorem dX4_holds_29 : decode cX4_holds 29 = .ok (.aload_n 3, 1) := by decide +kernel
theorem dX4_holds_30 : decode cX4_holds 30 = .ok (.invokevirtual 32, 3) := by decide +kernel
theorem dX4_holds_33 : decode cX4_holds 33 = .ok (.lconst 0, 1) := by decide +kernel
theorem dX4_holds_34 : decode cX4_holds 34 = .ok (.lcmp, 1) := by decide +kernel
theorem dX4_holds_35 : decode cX4_holds 35 = .ok (.ifCond .eq 7, 3) := by decide +kernel
theorem dX4_holds_38 : decode cX4_holds 38 = .ok (.iconst 1, 1) := by decide +kernel
theorem dX4_holds_39 : decode cX4_holds 39 = .ok (.goto 4, 3) := by decide +kernel
theorem dX4_holds_42 : decode cX4_holds 42 = .ok (.iconst 0, 1) := by decide +kernel
theorem dX4_holds_43 : decode cX4_holds 43 = .ok (.ireturn, 1) := by decide +kernel
theorem dX4_operand_0 : decode cX4_operand 0 = .ok (.iload_n 0, 1) := by decide +kernel
theorem dX4_operand_1 : decode cX4_operand 1 = .ok (.ldc 61, 2) := by decide +kernel
theorem dX4_operand_3 : decode cX4_operand 3 = .ok (.if_icmp .ge 6, 3) := by decide +kernel
theorem dX4_operand_6 : decode cX4_operand 6 = .ok (.iload_n 0, 1) := by decide +kernel
theorem dX4_operand_7 : decode cX4_operand 7 = .ok (.i2l, 1) := by decide +kernel
theorem dX4_operand_8 : decode cX4_operand 8 = .ok (.lreturn, 1) := by decide +kernel
theorem dX4_operand_9 : decode cX4_operand 9 = .ok (.iload_n 0, 1) := by decide +kernel
theorem dX4_operand_10 : decode cX4_operand 10 = .ok (.ldc 61, 2) := by decide +kernel
