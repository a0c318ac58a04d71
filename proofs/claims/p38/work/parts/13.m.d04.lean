theorem dX11_shift_22 : decode cX11_shift 22 = .ok (.ldc2_w 541, 3) := by decide +kernel
theorem dX11_shift_25 : decode cX11_shift 25 = .ok (.invokestatic 99, 3) := by decide +kernel
theorem dX11_shift_28 : decode cX11_shift 28 = .ok (.ifCond .eq 21, 3) := by decide +kernel
theorem dX11_shift_31 : decode cX11_shift 31 = .ok (.aload_n 0, 1) := by decide +kernel
theorem dX11_shift_32 : decode cX11_shift 32 = .ok (.iload_n 1, 1) := by decide +kernel
theorem dX11_shift_33 : decode cX11_shift 33 = .ok (.iload_n 2, 1) := by decide +kernel
theorem dX11_shift_34 : decode cX11_shift 34 = .ok (.iconst 0, 1) := by decide +kernel
theorem dX11_shift_35 : decode cX11_shift 35 = .ok (.invokevirtual 487, 3) := by decide +kernel
theorem dX11_shift_38 : decode cX11_shift 38 = .ok (.ifCond .eq 11, 3) := by decide +kernel
theorem dX11_shift_41 : decode cX11_shift 41 = .ok (.aload_n 0, 1) := by decide +kernel
theorem dX11_shift_42 : decode cX11_shift 42 = .ok (.iload_n 3, 1) := by decide +kernel
theorem dX11_shift_43 : decode cX11_shift 43 = .ok (.invokevirtual 526, 3) := by decide +kernel
theorem dX11_shift_46 : decode cX11_shift 46 = .ok (.goto 6, 3) := by decide +kernel
theorem dX11_shift_49 : decode cX11_shift 49 = .ok (.sipush (-200), 3) := by decide +kernel
theorem dX11_shift_52 : decode cX11_shift 52 = .ok (.ireturn, 1) := by decide +kernel
theorem dX11_shiftOf_0 : decode cX11_shiftOf 0 = .ok (.bipush (-100), 2) := by decide +kernel
theorem dX11_shiftOf_2 : decode cX11_shiftOf 2 = .ok (.istore_n 2, 1) := by decide +kernel
theorem dX11_shiftOf_3 : decode cX11_shiftOf 3 = .ok (.lconst 0, 1) := by decide +kernel
theorem dX11_shiftOf_4 : decode cX11_shiftOf 4 = .ok (.lstore_n 3, 1) := by decide +kernel
theorem dX11_shiftOf_5 : decode cX11_shiftOf 5 = .ok (.iconst 0, 1) := by decide +kernel
theorem dX11_shiftOf_6 : decode cX11_shiftOf 6 = .ok (.istore 5, 2) := by decide +kernel
theorem dX11_shiftOf_8 : decode cX11_shiftOf 8 = .ok (.iconst 0, 1) := by decide +kernel
theorem dX11_shiftOf_9 : decode cX11_shiftOf 9 = .ok (.istore 6, 2) := by decide +kernel
theorem dX11_shiftOf_11 : decode cX11_shiftOf 11 = .ok (.iload 6, 2) := by decide +kernel
theorem dX11_shiftOf_13 : decode cX11_shiftOf 13 = .ok (.bipush 7, 2) := by decide +kernel
theorem dX11_shiftOf_15 : decode cX11_shiftOf 15 = .ok (.if_icmp .ge 142, 3) := by decide +kernel
theorem dX11_shiftOf_18 : decode cX11_shiftOf 18 = .ok (.iload 6, 2) := by decide +kernel
theorem dX11_shiftOf_20 : decode cX11_shiftOf 20 = .ok (.iconst 2, 1) := by decide +kernel
theorem dX11_shiftOf_21 : decode cX11_shiftOf 21 = .ok (.irem, 1) := by decide +kernel
theorem dX11_shiftOf_22 : decode cX11_shiftOf 22 = .ok (.ifCond .ne 10, 3) := by decide +kernel
theorem dX11_shiftOf_25 : decode cX11_shiftOf 25 = .ok (.iload 6, 2) := by decide +kernel
theorem dX11_shiftOf_27 : decode cX11_shiftOf 27 = .ok (.iconst 2, 1) := by decide +kernel
theorem dX11_shiftOf_28 : decode cX11_shiftOf 28 = .ok (.idiv, 1) := by decide +kernel
theorem dX11_shiftOf_29 : decode cX11_shiftOf 29 = .ok (.goto 10, 3) := by decide +kernel
theorem dX11_shiftOf_32 : decode cX11_shiftOf 32 = .ok (.iload 6, 2) := by decide +kernel
theorem dX11_shiftOf_34 : decode cX11_shiftOf 34 = .ok (.iconst 2, 1) := by decide +kernel
theorem dX11_shiftOf_35 : decode cX11_shiftOf 35 = .ok (.idiv, 1) := by decide +kernel
theorem dX11_shiftOf_36 : decode cX11_shiftOf 36 = .ok (.ineg, 1) := by decide +kernel
theorem dX11_shiftOf_37 : decode cX11_shiftOf 37 = .ok (.iconst 1, 1) := by decide +kernel
theorem dX11_shiftOf_38 : decode cX11_shiftOf 38 = .ok (.isub, 1) := by decide +kernel
theorem dX11_shiftOf_39 : decode cX11_shiftOf 39 = .ok (.istore 7, 2) := by decide +kernel
theorem dX11_shiftOf_41 : decode cX11_shiftOf 41 = .ok (.lconst 0, 1) := by decide +kernel
theorem dX11_shiftOf_42 : decode cX11_shiftOf 42 = .ok (.lstore 8, 2) := by decide +kernel
theorem dX11_shiftOf_44 : decode cX11_shiftOf 44 = .ok (.iconst 0, 1) := by decide +kernel
theorem dX11_shiftOf_45 : decode cX11_shiftOf 45 = .ok (.istore 10, 2) := by decide +kernel
theorem dX11_shiftOf_47 : decode cX11_shiftOf 47 = .ok (.aload_n 0, 1) := by decide +kernel
theorem dX11_shiftOf_48 : decode cX11_shiftOf 48 = .ok (.getfield 464, 3) := by decide +kernel
theorem dX11_shiftOf_51 : decode cX11_shiftOf 51 = .ok (.iload_n 1, 1) := by decide +kernel
theorem dX11_shiftOf_52 : decode cX11_shiftOf 52 = .ok (.aload_n 0, 1) := by decide +kernel
theorem dX11_shiftOf_53 : decode cX11_shiftOf 53 = .ok (.getfield 458, 3) := by decide +kernel
theorem dX11_shiftOf_56 : decode cX11_shiftOf 56 = .ok (.imul, 1) := by decide +kernel
theorem dX11_shiftOf_57 : decode cX11_shiftOf 57 = .ok (.iadd, 1) := by decide +kernel
theorem dX11_shiftOf_58 : decode cX11_shiftOf 58 = .ok (.iload 7, 2) := by decide +kernel
theorem dX11_shiftOf_60 : decode cX11_shiftOf 60 = .ok (.iadd, 1) := by decide +kernel
theorem dX11_shiftOf_61 : decode cX11_shiftOf 61 = .ok (.istore 11, 2) := by decide +kernel
theorem dX11_shiftOf_63 : decode cX11_shiftOf 63 = .ok (.iload 11, 2) := by decide +kernel
theorem dX11_shiftOf_65 : decode cX11_shiftOf 65 = .ok (.istore 12, 2) := by decide +kernel
theorem dX11_shiftOf_67 : decode cX11_shiftOf 67 = .ok (.iload 12, 2) := by decide +kernel
theorem dX11_shiftOf_69 : decode cX11_shiftOf 69 = .ok (.iload 11, 2) := by decide +kernel
theorem dX11_shiftOf_71 : decode cX11_shiftOf 71 = .ok (.aload_n 0, 1) := by decide +kernel
theorem dX11_shiftOf_72 : decode cX11_shiftOf 72 = .ok (.getfield 461, 3) := by decide +kernel
theorem dX11_shiftOf_75 : decode cX11_shiftOf 75 = .ok (.iadd, 1) := by decide +kernel
theorem dX11_shiftOf_76 : decode cX11_shiftOf 76 = .ok (.if_icmp .ge 37, 3) := by decide +kernel
theorem dX11_shiftOf_79 : decode cX11_shiftOf 79 = .ok (.aload_n 0, 1) := by decide +kernel
theorem dX11_shiftOf_80 : decode cX11_shiftOf 80 = .ok (.iload 12, 2) := by decide +kernel
theorem dX11_shiftOf_82 : decode cX11_shiftOf 82 = .ok (.invokevirtual 409, 3) := by decide +kernel
theorem dX11_shiftOf_85 : decode cX11_shiftOf 85 = .ok (.ifCond .ne 6, 3) := by decide +kernel
theorem dX11_shiftOf_88 : decode cX11_shiftOf 88 = .ok (.goto 19, 3) := by decide +kernel
theorem dX11_shiftOf_91 : decode cX11_shiftOf 91 = .ok (.lload 8, 2) := by decide +kernel
theorem dX11_shiftOf_93 : decode cX11_shiftOf 93 = .ok (.aload_n 0, 1) := by decide +kernel
theorem dX11_shiftOf_94 : decode cX11_shiftOf 94 = .ok (.getfield 66, 3) := by decide +kernel
theorem dX11_shiftOf_97 : decode cX11_shiftOf 97 = .ok (.iload 12, 2) := by decide +kernel
theorem dX11_shiftOf_99 : decode cX11_shiftOf 99 = .ok (.iaload, 1) := by decide +kernel
theorem dX11_shiftOf_100 : decode cX11_shiftOf 100 = .ok (.i2l, 1) := by decide +kernel
theorem dX11_shiftOf_101 : decode cX11_shiftOf 101 = .ok (.ladd, 1) := by decide +kernel
theorem dX11_shiftOf_102 : decode cX11_shiftOf 102 = .ok (.lstore 8, 2) := by decide +kernel
theorem dX11_shiftOf_104 : decode cX11_shiftOf 104 = .ok (.iinc 10 1, 3) := by decide +kernel
theorem dX11_shiftOf_107 : decode cX11_shiftOf 107 = .ok (.iinc 12 1, 3) := by decide +kernel
theorem dX11_shiftOf_110 : decode cX11_shiftOf 110 = .ok (.goto (-43), 3) := by decide +kernel
theorem dX11_shiftOf_113 : decode cX11_shiftOf 113 = .ok (.iload 10, 2) := by decide +kernel
theorem dX11_shiftOf_115 : decode cX11_shiftOf 115 = .ok (.ifCond .eq 36, 3) := by decide +kernel
theorem dX11_shiftOf_118 : decode cX11_shiftOf 118 = .ok (.iload 5, 2) := by decide +kernel
theorem dX11_shiftOf_120 : decode cX11_shiftOf 120 = .ok (.ifCond .le 21, 3) := by decide +kernel
theorem dX11_shiftOf_123 : decode cX11_shiftOf 123 = .ok (.lload 8, 2) := by decide +kernel
theorem dX11_shiftOf_125 : decode cX11_shiftOf 125 = .ok (.iload 5, 2) := by decide +kernel
theorem dX11_shiftOf_127 : decode cX11_shiftOf 127 = .ok (.i2l, 1) := by decide +kernel
theorem dX11_shiftOf_128 : decode cX11_shiftOf 128 = .ok (.lmul, 1) := by decide +kernel
theorem dX11_shiftOf_129 : decode cX11_shiftOf 129 = .ok (.lload_n 3, 1) := by decide +kernel
theorem dX11_shiftOf_130 : decode cX11_shiftOf 130 = .ok (.iload 10, 2) := by decide +kernel
theorem dX11_shiftOf_132 : decode cX11_shiftOf 132 = .ok (.i2l, 1) := by decide +kernel
theorem dX11_shiftOf_133 : decode cX11_shiftOf 133 = .ok (.lmul, 1) := by decide +kernel
theorem dX11_shiftOf_134 : decode cX11_shiftOf 134 = .ok (.lcmp, 1) := by decide +kernel
theorem dX11_shiftOf_135 : decode cX11_shiftOf 135 = .ok (.ifCond .lt 6, 3) := by decide +kernel
theorem dX11_shiftOf_138 : decode cX11_shiftOf 138 = .ok (.goto 13, 3) := by decide +kernel
theorem dX11_shiftOf_141 : decode cX11_shiftOf 141 = .ok (.iload 7, 2) := by decide +kernel
theorem dX11_shiftOf_143 : decode cX11_shiftOf 143 = .ok (.istore_n 2, 1) := by decide +kernel
theorem dX11_shiftOf_144 : decode cX11_shiftOf 144 = .ok (.lload 8, 2) := by decide +kernel
theorem dX11_shiftOf_146 : decode cX11_shiftOf 146 = .ok (.lstore_n 3, 1) := by decide +kernel
theorem dX11_shiftOf_147 : decode cX11_shiftOf 147 = .ok (.iload 10, 2) := by decide +kernel
theorem dX11_shiftOf_149 : decode cX11_shiftOf 149 = .ok (.istore 5, 2) := by decide +kernel
theorem dX11_shiftOf_151 : decode cX11_shiftOf 151 = .ok (.iinc 6 1, 3) := by decide +kernel
theorem dX11_shiftOf_154 : decode cX11_shiftOf 154 = .ok (.goto (-143), 3) := by decide +kernel
theorem dX11_shiftOf_157 : decode cX11_shiftOf 157 = .ok (.iload_n 2, 1) := by decide +kernel
theorem dX11_shiftOf_158 : decode cX11_shiftOf 158 = .ok (.ireturn, 1) := by decide +kernel
theorem dX11_sign_0 : decode cX11_sign 0 = .ok (.aload_n 0, 1) := by decide +kernel
theorem dX11_sign_1 : decode cX11_sign 1 = .ok (.iconst 1, 1) := by decide +kernel
theorem dX11_sign_2 : decode cX11_sign 2 = .ok (.iload_n 1, 1) := by decide +kernel
theorem dX11_sign_3 : decode cX11_sign 3 = .ok (.invokevirtual 366, 3) := by decide +kernel
theorem dX11_sign_6 : decode cX11_sign 6 = .ok (.ifCond .eq 33, 3) := by decide +kernel
theorem dX11_sign_9 : decode cX11_sign 9 = .ok (.aload_n 0, 1) := by decide +kernel
theorem dX11_sign_10 : decode cX11_sign 10 = .ok (.iload_n 2, 1) := by decide +kernel
theorem dX11_sign_11 : decode cX11_sign 11 = .ok (.invokevirtual 108, 3) := by decide +kernel
theorem dX11_sign_14 : decode cX11_sign 14 = .ok (.ifCond .eq 25, 3) := by decide +kernel
theorem dX11_sign_17 : decode cX11_sign 17 = .ok (.iload_n 3, 1) := by decide +kernel
theorem dX11_sign_18 : decode cX11_sign 18 = .ok (.i2l, 1) := by decide +kernel
theorem dX11_sign_19 : decode cX11_sign 19 = .ok (.lconst 0, 1) := by decide +kernel
theorem dX11_sign_20 : decode cX11_sign 20 = .ok (.ldc2_w 152, 3) := by decide +kernel
theorem dX11_sign_23 : decode cX11_sign 23 = .ok (.invokestatic 99, 3) := by decide +kernel
theorem dX11_sign_26 : decode cX11_sign 26 = .ok (.ifCond .eq 13, 3) := by decide +kernel
theorem dX11_sign_29 : decode cX11_sign 29 = .ok (.aload_n 0, 1) := by decide +kernel
theorem dX11_sign_30 : decode cX11_sign 30 = .ok (.iload_n 1, 1) := by decide +kernel
theorem dX11_sign_31 : decode cX11_sign 31 = .ok (.iload_n 2, 1) := by decide +kernel
theorem dX11_sign_32 : decode cX11_sign 32 = .ok (.iconst 0, 1) := by decide +kernel
theorem dX11_sign_33 : decode cX11_sign 33 = .ok (.invokevirtual 487, 3) := by decide +kernel
theorem dX11_sign_36 : decode cX11_sign 36 = .ok (.ifCond .ne 6, 3) := by decide +kernel
theorem dX11_sign_39 : decode cX11_sign 39 = .ok (.ldc 119, 2) := by decide +kernel
theorem dX11_sign_41 : decode cX11_sign 41 = .ok (.ireturn, 1) := by decide +kernel
theorem dX11_sign_42 : decode cX11_sign 42 = .ok (.iload_n 3, 1) := by decide +kernel
theorem dX11_sign_43 : decode cX11_sign 43 = .ok (.tableswitch 66 0 4 #[33, 40, 47, 53, 59], 33) := by decide +kernel
theorem dX11_sign_76 : decode cX11_sign 76 = .ok (.aload_n 0, 1) := by decide +kernel
theorem dX11_sign_77 : decode cX11_sign 77 = .ok (.iconst 0, 1) := by decide +kernel
theorem dX11_sign_78 : decode cX11_sign 78 = .ok (.invokevirtual 522, 3) := by decide +kernel
theorem dX11_sign_81 : decode cX11_sign 81 = .ok (.l2i, 1) := by decide +kernel
theorem dX11_sign_82 : decode cX11_sign 82 = .ok (.ireturn, 1) := by decide +kernel
theorem dX11_sign_83 : decode cX11_sign 83 = .ok (.aload_n 0, 1) := by decide +kernel
theorem dX11_sign_84 : decode cX11_sign 84 = .ok (.iconst 1, 1) := by decide +kernel
theorem dX11_sign_85 : decode cX11_sign 85 = .ok (.invokevirtual 522, 3) := by decide +kernel
theorem dX11_sign_88 : decode cX11_sign 88 = .ok (.l2i, 1) := by decide +kernel
theorem dX11_sign_89 : decode cX11_sign 89 = .ok (.ireturn, 1) := by decide +kernel
theorem dX11_sign_90 : decode cX11_sign 90 = .ok (.aload_n 0, 1) := by decide +kernel
theorem dX11_sign_91 : decode cX11_sign 91 = .ok (.invokevirtual 529, 3) := by decide +kernel
theorem dX11_sign_94 : decode cX11_sign 94 = .ok (.l2i, 1) := by decide +kernel
theorem dX11_sign_95 : decode cX11_sign 95 = .ok (.ireturn, 1) := by decide +kernel
theorem dX11_sign_96 : decode cX11_sign 96 = .ok (.aload_n 0, 1) := by decide +kernel
theorem dX11_sign_97 : decode cX11_sign 97 = .ok (.invokevirtual 532, 3) := by decide +kernel
theorem dX11_sign_100 : decode cX11_sign 100 = .ok (.l2i, 1) := by decide +kernel
theorem dX11_sign_101 : decode cX11_sign 101 = .ok (.ireturn, 1) := by decide +kernel
theorem dX11_sign_102 : decode cX11_sign 102 = .ok (.aload_n 0, 1) := by decide +kernel
theorem dX11_sign_103 : decode cX11_sign 103 = .ok (.iload_n 1, 1) := by decide +kernel
theorem dX11_sign_104 : decode cX11_sign 104 = .ok (.iload_n 2, 1) := by decide +kernel
theorem dX11_sign_105 : decode cX11_sign 105 = .ok (.invokevirtual 535, 3) := by decide +kernel
theorem dX11_sign_108 : decode cX11_sign 108 = .ok (.ireturn, 1) := by decide +kernel
theorem dX11_sign_109 : decode cX11_sign 109 = .ok (.aload_n 0, 1) := by decide +kernel
theorem dX11_sign_110 : decode cX11_sign 110 = .ok (.invokevirtual 538, 3) := by decide +kernel
theorem dX11_sign_113 : decode cX11_sign 113 = .ok (.ireturn, 1) := by decide +kernel
theorem dX11_star_0 : decode cX11_star 0 = .ok (.aload_n 0, 1) := by decide +kernel
theorem dX11_star_1 : decode cX11_star 1 = .ok (.getfield 7, 3) := by decide +kernel
theorem dX11_star_4 : decode cX11_star 4 = .ok (.iconst 0, 1) := by decide +kernel
theorem dX11_star_5 : decode cX11_star 5 = .ok (.iaload, 1) := by decide +kernel
theorem dX11_star_6 : decode cX11_star 6 = .ok (.bipush 12, 2) := by decide +kernel
theorem dX11_star_8 : decode cX11_star 8 = .ok (.if_icmp .eq 39, 3) := by decide +kernel
theorem dX11_star_11 : decode cX11_star 11 = .ok (.iload_n 1, 1) := by decide +kernel
theorem dX11_star_12 : decode cX11_star 12 = .ok (.i2l, 1) := by decide +kernel
theorem dX11_star_13 : decode cX11_star 13 = .ok (.lconst 1, 1) := by decide +kernel
theorem dX11_star_14 : decode cX11_star 14 = .ok (.ldc2_w 97, 3) := by decide +kernel
theorem dX11_star_17 : decode cX11_star 17 = .ok (.invokestatic 99, 3) := by decide +kernel
theorem dX11_star_20 : decode cX11_star 20 = .ok (.ifCond .eq 27, 3) := by decide +kernel
theorem dX11_star_23 : decode cX11_star 23 = .ok (.iload_n 2, 1) := by decide +kernel
theorem dX11_star_24 : decode cX11_star 24 = .ok (.i2l, 1) := by decide +kernel
theorem dX11_star_25 : decode cX11_star 25 = .ok (.lconst 0, 1) := by decide +kernel
theorem dX11_star_26 : decode cX11_star 26 = .ok (.ldc2_w 103, 3) := by decide +kernel
theorem dX11_star_29 : decode cX11_star 29 = .ok (.invokestatic 99, 3) := by decide +kernel
theorem dX11_star_32 : decode cX11_star 32 = .ok (.ifCond .eq 15, 3) := by decide +kernel
theorem dX11_star_35 : decode cX11_star 35 = .ok (.iload_n 3, 1) := by decide +kernel
theorem dX11_star_36 : decode cX11_star 36 = .ok (.i2l, 1) := by decide +kernel
theorem dX11_star_37 : decode cX11_star 37 = .ok (.lconst 1, 1) := by decide +kernel
theorem dX11_star_38 : decode cX11_star 38 = .ok (.ldc2_w 105, 3) := by decide +kernel
theorem dX11_star_41 : decode cX11_star 41 = .ok (.invokestatic 99, 3) := by decide +kernel
theorem dX11_star_44 : decode cX11_star 44 = .ok (.ifCond .ne 5, 3) := by decide +kernel
theorem dX11_star_47 : decode cX11_star 47 = .ok (.iconst (-1), 1) := by decide +kernel
theorem dX11_star_48 : decode cX11_star 48 = .ok (.ireturn, 1) := by decide +kernel
theorem dX11_star_49 : decode cX11_star 49 = .ok (.aload_n 0, 1) := by decide +kernel
theorem dX11_star_50 : decode cX11_star 50 = .ok (.getfield 7, 3) := by decide +kernel
theorem dX11_star_53 : decode cX11_star 53 = .ok (.iconst 0, 1) := by decide +kernel
theorem dX11_star_54 : decode cX11_star 54 = .ok (.iaload, 1) := by decide +kernel
theorem dX11_star_55 : decode cX11_star 55 = .ok (.istore 4, 2) := by decide +kernel
theorem dX11_star_57 : decode cX11_star 57 = .ok (.aload_n 0, 1) := by decide +kernel
theorem dX11_star_58 : decode cX11_star 58 = .ok (.getfield 7, 3) := by decide +kernel
theorem dX11_star_61 : decode cX11_star 61 = .ok (.iconst 3, 1) := by decide +kernel
theorem dX11_star_62 : decode cX11_star 62 = .ok (.iconst 3, 1) := by decide +kernel
theorem dX11_star_63 : decode cX11_star 63 = .ok (.iload 4, 2) := by decide +kernel
theorem dX11_star_65 : decode cX11_star 65 = .ok (.imul, 1) := by decide +kernel
theorem dX11_star_66 : decode cX11_star 66 = .ok (.iadd, 1) := by decide +kernel
theorem dX11_star_67 : decode cX11_star 67 = .ok (.iload_n 1, 1) := by decide +kernel
theorem dX11_star_68 : decode cX11_star 68 = .ok (.iastore, 1) := by decide +kernel
theorem dX11_star_69 : decode cX11_star 69 = .ok (.aload_n 0, 1) := by decide +kernel
theorem dX11_star_70 : decode cX11_star 70 = .ok (.getfield 7, 3) := by decide +kernel
theorem dX11_star_73 : decode cX11_star 73 = .ok (.iconst 3, 1) := by decide +kernel
theorem dX11_star_74 : decode cX11_star 74 = .ok (.iconst 3, 1) := by decide +kernel
theorem dX11_star_75 : decode cX11_star 75 = .ok (.iload 4, 2) := by decide +kernel
theorem dX11_star_77 : decode cX11_star 77 = .ok (.imul, 1) := by decide +kernel
theorem dX11_star_78 : decode cX11_star 78 = .ok (.iadd, 1) := by decide +kernel
theorem dX11_star_79 : decode cX11_star 79 = .ok (.iconst 1, 1) := by decide +kernel
theorem dX11_star_80 : decode cX11_star 80 = .ok (.iadd, 1) := by decide +kernel
theorem dX11_star_81 : decode cX11_star 81 = .ok (.iload_n 2, 1) := by decide +kernel
theorem dX11_star_82 : decode cX11_star 82 = .ok (.iastore, 1) := by decide +kernel
theorem dX11_star_83 : decode cX11_star 83 = .ok (.aload_n 0, 1) := by decide +kernel
theorem dX11_star_84 : decode cX11_star 84 = .ok (.getfield 7, 3) := by decide +kernel
theorem dX11_star_87 : decode cX11_star 87 = .ok (.iconst 3, 1) := by decide +kernel
theorem dX11_star_88 : decode cX11_star 88 = .ok (.iconst 3, 1) := by decide +kernel
theorem dX11_star_89 : decode cX11_star 89 = .ok (.iload 4, 2) := by decide +kernel
theorem dX11_star_91 : decode cX11_star 91 = .ok (.imul, 1) := by decide +kernel
theorem dX11_star_92 : decode cX11_star 92 = .ok (.iadd, 1) := by decide +kernel
theorem dX11_star_93 : decode cX11_star 93 = .ok (.iconst 2, 1) := by decide +kernel
theorem dX11_star_94 : decode cX11_star 94 = .ok (.iadd, 1) := by decide +kernel
theorem dX11_star_95 : decode cX11_star 95 = .ok (.iload_n 3, 1) := by decide +kernel
theorem dX11_star_96 : decode cX11_star 96 = .ok (.iastore, 1) := by decide +kernel
theorem dX11_star_97 : decode cX11_star 97 = .ok (.iconst 0, 1) := by decide +kernel
theorem dX11_star_98 : decode cX11_star 98 = .ok (.istore 5, 2) := by decide +kernel
theorem dX11_star_100 : decode cX11_star 100 = .ok (.iload 5, 2) := by decide +kernel
theorem dX11_star_102 : decode cX11_star 102 = .ok (.sipush 600, 3) := by decide +kernel
theorem dX11_star_105 : decode cX11_star 105 = .ok (.if_icmp .ge 29, 3) := by decide +kernel
theorem dX11_star_108 : decode cX11_star 108 = .ok (.aload_n 0, 1) := by decide +kernel
theorem dX11_star_109 : decode cX11_star 109 = .ok (.getfield 7, 3) := by decide +kernel
theorem dX11_star_112 : decode cX11_star 112 = .ok (.sipush 315, 3) := by decide +kernel
theorem dX11_star_115 : decode cX11_star 115 = .ok (.sipush 600, 3) := by decide +kernel
theorem dX11_star_118 : decode cX11_star 118 = .ok (.iload 4, 2) := by decide +kernel
theorem dX11_star_120 : decode cX11_star 120 = .ok (.imul, 1) := by decide +kernel
theorem dX11_star_121 : decode cX11_star 121 = .ok (.iadd, 1) := by decide +kernel
theorem dX11_star_122 : decode cX11_star 122 = .ok (.iload 5, 2) := by decide +kernel
theorem dX11_star_124 : decode cX11_star 124 = .ok (.iadd, 1) := by decide +kernel
theorem dX11_star_125 : decode cX11_star 125 = .ok (.ldc 107, 2) := by decide +kernel
theorem dX11_star_127 : decode cX11_star 127 = .ok (.iastore, 1) := by decide +kernel
theorem dX11_star_128 : decode cX11_star 128 = .ok (.iinc 5 1, 3) := by decide +kernel
theorem dX11_star_131 : decode cX11_star 131 = .ok (.goto (-31), 3) := by decide +kernel
theorem dX11_star_134 : decode cX11_star 134 = .ok (.aload_n 0, 1) := by decide +kernel
theorem dX11_star_135 : decode cX11_star 135 = .ok (.getfield 7, 3) := by decide +kernel
theorem dX11_star_138 : decode cX11_star 138 = .ok (.iconst 0, 1) := by decide +kernel
theorem dX11_star_139 : decode cX11_star 139 = .ok (.dup2, 1) := by decide +kernel
theorem dX11_star_140 : decode cX11_star 140 = .ok (.iaload, 1) := by decide +kernel
theorem dX11_star_141 : decode cX11_star 141 = .ok (.iconst 1, 1) := by decide +kernel
theorem dX11_star_142 : decode cX11_star 142 = .ok (.iadd, 1) := by decide +kernel
theorem dX11_star_143 : decode cX11_star 143 = .ok (.iastore, 1) := by decide +kernel
theorem dX11_star_144 : decode cX11_star 144 = .ok (.iload 4, 2) := by decide +kernel
theorem dX11_star_146 : decode cX11_star 146 = .ok (.ireturn, 1) := by decide +kernel
theorem dX11_tells_0 : decode cX11_tells 0 = .ok (.iload_n 2, 1) := by decide +kernel
theorem dX11_tells_1 : decode cX11_tells 1 = .ok (.tableswitch 73 0 5 #[39, 45, 51, 57, 62, 67], 39) := by decide +kernel
theorem dX11_tells_40 : decode cX11_tells 40 = .ok (.aload_n 0, 1) := by decide +kernel
theorem dX11_tells_41 : decode cX11_tells 41 = .ok (.getfield 458, 3) := by decide +kernel
theorem dX11_tells_44 : decode cX11_tells 44 = .ok (.i2l, 1) := by decide +kernel
theorem dX11_tells_45 : decode cX11_tells 45 = .ok (.lreturn, 1) := by decide +kernel
theorem dX11_tells_46 : decode cX11_tells 46 = .ok (.aload_n 0, 1) := by decide +kernel
theorem dX11_tells_47 : decode cX11_tells 47 = .ok (.getfield 461, 3) := by decide +kernel
theorem dX11_tells_50 : decode cX11_tells 50 = .ok (.i2l, 1) := by decide +kernel
theorem dX11_tells_51 : decode cX11_tells 51 = .ok (.lreturn, 1) := by decide +kernel
theorem dX11_tells_52 : decode cX11_tells 52 = .ok (.aload_n 0, 1) := by decide +kernel
theorem dX11_tells_53 : decode cX11_tells 53 = .ok (.getfield 464, 3) := by decide +kernel
theorem dX11_tells_56 : decode cX11_tells 56 = .ok (.i2l, 1) := by decide +kernel
theorem dX11_tells_57 : decode cX11_tells 57 = .ok (.lreturn, 1) := by decide +kernel
theorem dX11_tells_58 : decode cX11_tells 58 = .ok (.aload_n 0, 1) := by decide +kernel
theorem dX11_tells_59 : decode cX11_tells 59 = .ok (.getfield 467, 3) := by decide +kernel
theorem dX11_tells_62 : decode cX11_tells 62 = .ok (.lreturn, 1) := by decide +kernel
theorem dX11_tells_63 : decode cX11_tells 63 = .ok (.aload_n 0, 1) := by decide +kernel
theorem dX11_tells_64 : decode cX11_tells 64 = .ok (.getfield 455, 3) := by decide +kernel
theorem dX11_tells_67 : decode cX11_tells 67 = .ok (.lreturn, 1) := by decide +kernel
theorem dX11_tells_68 : decode cX11_tells 68 = .ok (.aload_n 0, 1) := by decide +kernel
theorem dX11_tells_69 : decode cX11_tells 69 = .ok (.getfield 470, 3) := by decide +kernel
theorem dX11_tells_72 : decode cX11_tells 72 = .ok (.i2l, 1) := by decide +kernel
theorem dX11_tells_73 : decode cX11_tells 73 = .ok (.lreturn, 1) := by decide +kernel
theorem dX11_tells_74 : decode cX11_tells 74 = .ok (.aload_n 0, 1) := by decide +kernel
theorem dX11_tells_75 : decode cX11_tells 75 = .ok (.iload_n 1, 1) := by decide +kernel
theorem dX11_tells_76 : decode cX11_tells 76 = .ok (.invokevirtual 494, 3) := by decide +kernel
theorem dX11_tells_79 : decode cX11_tells 79 = .ok (.ifCond .eq 7, 3) := by decide +kernel
theorem dX11_tells_82 : decode cX11_tells 82 = .ok (.lconst 1, 1) := by decide +kernel
theorem dX11_tells_83 : decode cX11_tells 83 = .ok (.goto 4, 3) := by decide +kernel
theorem dX11_tells_86 : decode cX11_tells 86 = .ok (.lconst 0, 1) := by decide +kernel
theorem dX11_tells_87 : decode cX11_tells 87 = .ok (.lreturn, 1) := by decide +kernel
theorem dX11_tried_0 : decode cX11_tried 0 = .ok (.aload_n 0, 1) := by decide +kernel
theorem dX11_tried_1 : decode cX11_tried 1 = .ok (.iload_n 1, 1) := by decide +kernel
theorem dX11_tried_2 : decode cX11_tried 2 = .ok (.invokevirtual 108, 3) := by decide +kernel
theorem dX11_tried_5 : decode cX11_tried 5 = .ok (.ifCond .eq 75, 3) := by decide +kernel
theorem dX11_tried_8 : decode cX11_tried 8 = .ok (.iload_n 2, 1) := by decide +kernel
theorem dX11_tried_9 : decode cX11_tried 9 = .ok (.i2l, 1) := by decide +kernel
theorem dX11_tried_10 : decode cX11_tried 10 = .ok (.lconst 0, 1) := by decide +kernel
theorem dX11_tried_11 : decode cX11_tried 11 = .ok (.ldc2_w 152, 3) := by decide +kernel
theorem dX11_tried_14 : decode cX11_tried 14 = .ok (.invokestatic 99, 3) := by decide +kernel
theorem dX11_tried_17 : decode cX11_tried 17 = .ok (.ifCond .eq 63, 3) := by decide +kernel
theorem dX11_tried_20 : decode cX11_tried 20 = .ok (.iload_n 3, 1) := by decide +kernel
theorem dX11_tried_21 : decode cX11_tried 21 = .ok (.i2l, 1) := by decide +kernel
theorem dX11_tried_22 : decode cX11_tried 22 = .ok (.ldc2_w 160, 3) := by decide +kernel
theorem dX11_tried_25 : decode cX11_tried 25 = .ok (.ldc2_w 418, 3) := by decide +kernel
theorem dX11_tried_28 : decode cX11_tried 28 = .ok (.invokestatic 99, 3) := by decide +kernel
theorem dX11_tried_31 : decode cX11_tried 31 = .ok (.ifCond .eq 49, 3) := by decide +kernel
theorem dX11_tried_34 : decode cX11_tried 34 = .ok (.iload 4, 2) := by decide +kernel
theorem dX11_tried_36 : decode cX11_tried 36 = .ok (.i2l, 1) := by decide +kernel
theorem dX11_tried_37 : decode cX11_tried 37 = .ok (.lconst 1, 1) := by decide +kernel
theorem dX11_tried_38 : decode cX11_tried 38 = .ok (.ldc2_w 420, 3) := by decide +kernel
theorem dX11_tried_41 : decode cX11_tried 41 = .ok (.invokestatic 99, 3) := by decide +kernel
theorem dX11_tried_44 : decode cX11_tried 44 = .ok (.ifCond .eq 36, 3) := by decide +kernel
theorem dX11_tried_47 : decode cX11_tried 47 = .ok (.iload 4, 2) := by decide +kernel
theorem dX11_tried_49 : decode cX11_tried 49 = .ok (.iload_n 3, 1) := by decide +kernel
theorem dX11_tried_50 : decode cX11_tried 50 = .ok (.if_icmp .ge 30, 3) := by decide +kernel
theorem dX11_tried_53 : decode cX11_tried 53 = .ok (.iload 5, 2) := by decide +kernel
theorem dX11_tried_55 : decode cX11_tried 55 = .ok (.i2l, 1) := by decide +kernel
theorem dX11_tried_56 : decode cX11_tried 56 = .ok (.lconst 0, 1) := by decide +kernel
theorem dX11_tried_57 : decode cX11_tried 57 = .ok (.iload_n 3, 1) := by decide +kernel
theorem dX11_tried_58 : decode cX11_tried 58 = .ok (.iconst 1, 1) := by decide +kernel
theorem dX11_tried_59 : decode cX11_tried 59 = .ok (.isub, 1) := by decide +kernel
theorem dX11_tried_60 : decode cX11_tried 60 = .ok (.i2l, 1) := by decide +kernel
theorem dX11_tried_61 : decode cX11_tried 61 = .ok (.invokestatic 99, 3) := by decide +kernel
theorem dX11_tried_64 : decode cX11_tried 64 = .ok (.ifCond .eq 16, 3) := by decide +kernel
theorem dX11_tried_67 : decode cX11_tried 67 = .ok (.iload 6, 2) := by decide +kernel
theorem dX11_tried_69 : decode cX11_tried 69 = .ok (.i2l, 1) := by decide +kernel
theorem dX11_tried_70 : decode cX11_tried 70 = .ok (.lconst 0, 1) := by decide +kernel
theorem dX11_tried_71 : decode cX11_tried 71 = .ok (.ldc2_w 422, 3) := by decide +kernel
theorem dX11_tried_74 : decode cX11_tried 74 = .ok (.invokestatic 99, 3) := by decide +kernel
theorem dX11_tried_77 : decode cX11_tried 77 = .ok (.ifCond .ne 7, 3) := by decide +kernel
theorem dX11_tried_80 : decode cX11_tried 80 = .ok (.ldc2_w 424, 3) := by decide +kernel
theorem dX11_tried_83 : decode cX11_tried 83 = .ok (.lreturn, 1) := by decide +kernel
theorem dX11_tried_84 : decode cX11_tried 84 = .ok (.aload_n 0, 1) := by decide +kernel
theorem dX11_tried_85 : decode cX11_tried 85 = .ok (.iload_n 1, 1) := by decide +kernel
theorem dX11_tried_86 : decode cX11_tried 86 = .ok (.iload_n 2, 1) := by decide +kernel
theorem dX11_tried_87 : decode cX11_tried 87 = .ok (.invokevirtual 406, 3) := by decide +kernel
theorem dX11_tried_90 : decode cX11_tried 90 = .ok (.aload_n 0, 1) := by decide +kernel
theorem dX11_tried_91 : decode cX11_tried 91 = .ok (.iload_n 3, 1) := by decide +kernel
theorem dX11_tried_92 : decode cX11_tried 92 = .ok (.iload 4, 2) := by decide +kernel
theorem dX11_tried_94 : decode cX11_tried 94 = .ok (.iload 5, 2) := by decide +kernel
theorem dX11_tried_96 : decode cX11_tried 96 = .ok (.invokevirtual 426, 3) := by decide +kernel
theorem dX11_tried_99 : decode cX11_tried 99 = .ok (.iload 6, 2) := by decide +kernel
theorem dX11_tried_101 : decode cX11_tried 101 = .ok (.ifCond .ne 9, 3) := by decide +kernel
theorem dX11_tried_104 : decode cX11_tried 104 = .ok (.aload_n 0, 1) := by decide +kernel
theorem dX11_tried_105 : decode cX11_tried 105 = .ok (.getfield 430, 3) := by decide +kernel
theorem dX11_tried_108 : decode cX11_tried 108 = .ok (.i2l, 1) := by decide +kernel
theorem dX11_tried_109 : decode cX11_tried 109 = .ok (.lreturn, 1) := by decide +kernel
theorem dX11_tried_110 : decode cX11_tried 110 = .ok (.iload 6, 2) := by decide +kernel
theorem dX11_tried_112 : decode cX11_tried 112 = .ok (.iconst 1, 1) := by decide +kernel
theorem dX11_tried_113 : decode cX11_tried 113 = .ok (.if_icmp .ne 14, 3) := by decide +kernel
theorem dX11_tried_116 : decode cX11_tried 116 = .ok (.aload_n 0, 1) := by decide +kernel
theorem dX11_tried_117 : decode cX11_tried 117 = .ok (.getfield 394, 3) := by decide +kernel
theorem dX11_tried_120 : decode cX11_tried 120 = .ok (.aload_n 0, 1) := by decide +kernel
theorem dX11_tried_121 : decode cX11_tried 121 = .ok (.getfield 430, 3) := by decide +kernel
theorem dX11_tried_124 : decode cX11_tried 124 = .ok (.isub, 1) := by decide +kernel
theorem dX11_tried_125 : decode cX11_tried 125 = .ok (.i2l, 1) := by decide +kernel
theorem dX11_tried_126 : decode cX11_tried 126 = .ok (.lreturn, 1) := by decide +kernel
theorem dX11_tried_127 : decode cX11_tried 127 = .ok (.iload 6, 2) := by decide +kernel
theorem dX11_tried_129 : decode cX11_tried 129 = .ok (.iconst 3, 1) := by decide +kernel
theorem dX11_tried_130 : decode cX11_tried 130 = .ok (.if_icmp .ne 14, 3) := by decide +kernel
theorem dX11_tried_133 : decode cX11_tried 133 = .ok (.aload_n 0, 1) := by decide +kernel
theorem dX11_tried_134 : decode cX11_tried 134 = .ok (.iload_n 3, 1) := by decide +kernel
theorem dX11_tried_135 : decode cX11_tried 135 = .ok (.iload 4, 2) := by decide +kernel
theorem dX11_tried_137 : decode cX11_tried 137 = .ok (.iload 5, 2) := by decide +kernel
theorem dX11_tried_139 : decode cX11_tried 139 = .ok (.invokevirtual 433, 3) := by decide +kernel
theorem dX11_tried_142 : decode cX11_tried 142 = .ok (.i2l, 1) := by decide +kernel
theorem dX11_tried_143 : decode cX11_tried 143 = .ok (.lreturn, 1) := by decide +kernel
theorem dX11_tried_144 : decode cX11_tried 144 = .ok (.aload_n 0, 1) := by decide +kernel
theorem dX11_tried_145 : decode cX11_tried 145 = .ok (.getfield 430, 3) := by decide +kernel
theorem dX11_tried_148 : decode cX11_tried 148 = .ok (.ifCond .eq 14, 3) := by decide +kernel
theorem dX11_tried_151 : decode cX11_tried 151 = .ok (.aload_n 0, 1) := by decide +kernel
theorem dX11_tried_152 : decode cX11_tried 152 = .ok (.getfield 430, 3) := by decide +kernel
theorem dX11_tried_155 : decode cX11_tried 155 = .ok (.aload_n 0, 1) := by decide +kernel
theorem dX11_tried_156 : decode cX11_tried 156 = .ok (.getfield 394, 3) := by decide +kernel
theorem dX11_tried_159 : decode cX11_tried 159 = .ok (.if_icmp .ne 17, 3) := by decide +kernel
theorem dX11_tried_162 : decode cX11_tried 162 = .ok (.iload 6, 2) := by decide +kernel
theorem dX11_tried_164 : decode cX11_tried 164 = .ok (.iconst 2, 1) := by decide +kernel
theorem dX11_tried_165 : decode cX11_tried 165 = .ok (.if_icmp .ne 9, 3) := by decide +kernel
theorem dX11_tried_168 : decode cX11_tried 168 = .ok (.ldc2_w 436, 3) := by decide +kernel
theorem dX11_tried_171 : decode cX11_tried 171 = .ok (.goto 4, 3) := by decide +kernel
theorem dX11_tried_174 : decode cX11_tried 174 = .ok (.lconst 0, 1) := by decide +kernel
theorem dX11_tried_175 : decode cX11_tried 175 = .ok (.lreturn, 1) := by decide +kernel
theorem dX11_tried_176 : decode cX11_tried 176 = .ok (.iload 6, 2) := by decide +kernel
theorem dX11_tried_178 : decode cX11_tried 178 = .ok (.iconst 2, 1) := by decide +kernel
theorem dX11_tried_179 : decode cX11_tried 179 = .ok (.if_icmp .ne 36, 3) := by decide +kernel
theorem dX11_tried_182 : decode cX11_tried 182 = .ok (.aload_n 0, 1) := by decide +kernel
theorem dX11_tried_183 : decode cX11_tried 183 = .ok (.aload_n 0, 1) := by decide +kernel
theorem dX11_tried_184 : decode cX11_tried 184 = .ok (.getfield 397, 3) := by decide +kernel
theorem dX11_tried_187 : decode cX11_tried 187 = .ok (.aload_n 0, 1) := by decide +kernel
theorem dX11_tried_188 : decode cX11_tried 188 = .ok (.getfield 438, 3) := by decide +kernel
theorem dX11_tried_191 : decode cX11_tried 191 = .ok (.lsub, 1) := by decide +kernel
theorem dX11_tried_192 : decode cX11_tried 192 = .ok (.aload_n 0, 1) := by decide +kernel
theorem dX11_tried_193 : decode cX11_tried 193 = .ok (.getfield 394, 3) := by decide +kernel
theorem dX11_tried_196 : decode cX11_tried 196 = .ok (.aload_n 0, 1) := by decide +kernel
theorem dX11_tried_197 : decode cX11_tried 197 = .ok (.getfield 430, 3) := by decide +kernel
theorem dX11_tried_200 : decode cX11_tried 200 = .ok (.isub, 1) := by decide +kernel
theorem dX11_tried_201 : decode cX11_tried 201 = .ok (.aload_n 0, 1) := by decide +kernel
theorem dX11_tried_202 : decode cX11_tried 202 = .ok (.getfield 438, 3) := by decide +kernel
theorem dX11_tried_205 : decode cX11_tried 205 = .ok (.aload_n 0, 1) := by decide +kernel
theorem dX11_tried_206 : decode cX11_tried 206 = .ok (.getfield 430, 3) := by decide +kernel
theorem dX11_tried_209 : decode cX11_tried 209 = .ok (.invokevirtual 441, 3) := by decide +kernel
theorem dX11_tried_212 : decode cX11_tried 212 = .ok (.goto 12, 3) := by decide +kernel
theorem dX11_tried_215 : decode cX11_tried 215 = .ok (.aload_n 0, 1) := by decide +kernel
theorem dX11_tried_216 : decode cX11_tried 216 = .ok (.iload_n 3, 1) := by decide +kernel
theorem dX11_tried_217 : decode cX11_tried 217 = .ok (.iload 4, 2) := by decide +kernel
theorem dX11_tried_219 : decode cX11_tried 219 = .ok (.iload 5, 2) := by decide +kernel
theorem dX11_tried_221 : decode cX11_tried 221 = .ok (.invokevirtual 445, 3) := by decide +kernel
theorem dX11_tried_224 : decode cX11_tried 224 = .ok (.lreturn, 1) := by decide +kernel
theorem dX11_world_0 : decode cX11_world 0 = .ok (.aload_n 0, 1) := by decide +kernel
theorem dX11_world_1 : decode cX11_world 1 = .ok (.getfield 7, 3) := by decide +kernel
theorem dX11_world_4 : decode cX11_world 4 = .ok (.iconst 1, 1) := by decide +kernel
theorem dX11_world_5 : decode cX11_world 5 = .ok (.iaload, 1) := by decide +kernel
theorem dX11_world_6 : decode cX11_world 6 = .ok (.bipush 40, 2) := by decide +kernel
theorem dX11_world_8 : decode cX11_world 8 = .ok (.if_icmp .eq 69, 3) := by decide +kernel
theorem dX11_world_11 : decode cX11_world 11 = .ok (.aload_n 0, 1) := by decide +kernel
theorem dX11_world_12 : decode cX11_world 12 = .ok (.iload_n 1, 1) := by decide +kernel
theorem dX11_world_13 : decode cX11_world 13 = .ok (.invokevirtual 108, 3) := by decide +kernel
theorem dX11_world_16 : decode cX11_world 16 = .ok (.ifCond .eq 61, 3) := by decide +kernel
theorem dX11_world_19 : decode cX11_world 19 = .ok (.iload_n 2, 1) := by decide +kernel
theorem dX11_world_20 : decode cX11_world 20 = .ok (.i2l, 1) := by decide +kernel
theorem dX11_world_21 : decode cX11_world 21 = .ok (.ldc2_w 160, 3) := by decide +kernel
theorem dX11_world_24 : decode cX11_world 24 = .ok (.ldc2_w 162, 3) := by decide +kernel
theorem dX11_world_27 : decode cX11_world 27 = .ok (.invokestatic 99, 3) := by decide +kernel
theorem dX11_world_30 : decode cX11_world 30 = .ok (.ifCond .eq 47, 3) := by decide +kernel
theorem dX11_world_33 : decode cX11_world 33 = .ok (.iload_n 3, 1) := by decide +kernel
theorem dX11_world_34 : decode cX11_world 34 = .ok (.i2l, 1) := by decide +kernel
theorem dX11_world_35 : decode cX11_world 35 = .ok (.lconst 0, 1) := by decide +kernel
theorem dX11_world_36 : decode cX11_world 36 = .ok (.ldc2_w 162, 3) := by decide +kernel
theorem dX11_world_39 : decode cX11_world 39 = .ok (.invokestatic 99, 3) := by decide +kernel
theorem dX11_world_42 : decode cX11_world 42 = .ok (.ifCond .eq 35, 3) := by decide +kernel
theorem dX11_world_45 : decode cX11_world 45 = .ok (.iload 4, 2) := by decide +kernel
theorem dX11_world_47 : decode cX11_world 47 = .ok (.i2l, 1) := by decide +kernel
theorem dX11_world_48 : decode cX11_world 48 = .ok (.lconst 1, 1) := by decide +kernel
theorem dX11_world_49 : decode cX11_world 49 = .ok (.ldc2_w 164, 3) := by decide +kernel
theorem dX11_world_52 : decode cX11_world 52 = .ok (.invokestatic 99, 3) := by decide +kernel
theorem dX11_world_55 : decode cX11_world 55 = .ok (.ifCond .eq 22, 3) := by decide +kernel
theorem dX11_world_58 : decode cX11_world 58 = .ok (.iload 4, 2) := by decide +kernel
theorem dX11_world_60 : decode cX11_world 60 = .ok (.iload_n 2, 1) := by decide +kernel
theorem dX11_world_61 : decode cX11_world 61 = .ok (.if_icmp .ge 16, 3) := by decide +kernel
theorem dX11_world_64 : decode cX11_world 64 = .ok (.iload 5, 2) := by decide +kernel
theorem dX11_world_66 : decode cX11_world 66 = .ok (.i2l, 1) := by decide +kernel
theorem dX11_world_67 : decode cX11_world 67 = .ok (.lconst 1, 1) := by decide +kernel
theorem dX11_world_68 : decode cX11_world 68 = .ok (.ldc2_w 117, 3) := by decide +kernel
theorem dX11_world_71 : decode cX11_world 71 = .ok (.invokestatic 99, 3) := by decide +kernel
theorem dX11_world_74 : decode cX11_world 74 = .ok (.ifCond .ne 5, 3) := by decide +kernel
theorem dX11_world_77 : decode cX11_world 77 = .ok (.iconst (-1), 1) := by decide +kernel
theorem dX11_world_78 : decode cX11_world 78 = .ok (.ireturn, 1) := by decide +kernel
theorem dX11_world_79 : decode cX11_world 79 = .ok (.bipush 39, 2) := by decide +kernel
theorem dX11_world_81 : decode cX11_world 81 = .ok (.bipush 6, 2) := by decide +kernel
theorem dX11_world_83 : decode cX11_world 83 = .ok (.aload_n 0, 1) := by decide +kernel
theorem dX11_world_84 : decode cX11_world 84 = .ok (.getfield 7, 3) := by decide +kernel
theorem dX11_world_87 : decode cX11_world 87 = .ok (.iconst 1, 1) := by decide +kernel
theorem dX11_world_88 : decode cX11_world 88 = .ok (.iaload, 1) := by decide +kernel
theorem dX11_world_89 : decode cX11_world 89 = .ok (.imul, 1) := by decide +kernel
theorem dX11_world_90 : decode cX11_world 90 = .ok (.iadd, 1) := by decide +kernel
theorem dX11_world_91 : decode cX11_world 91 = .ok (.istore 7, 2) := by decide +kernel
theorem dX11_world_93 : decode cX11_world 93 = .ok (.aload_n 0, 1) := by decide +kernel
theorem dX11_world_94 : decode cX11_world 94 = .ok (.getfield 7, 3) := by decide +kernel
theorem dX11_world_97 : decode cX11_world 97 = .ok (.iload 7, 2) := by decide +kernel
theorem dX11_world_99 : decode cX11_world 99 = .ok (.iload_n 1, 1) := by decide +kernel
theorem dX11_world_100 : decode cX11_world 100 = .ok (.iastore, 1) := by decide +kernel
theorem dX11_world_101 : decode cX11_world 101 = .ok (.aload_n 0, 1) := by decide +kernel
theorem dX11_world_102 : decode cX11_world 102 = .ok (.getfield 7, 3) := by decide +kernel
