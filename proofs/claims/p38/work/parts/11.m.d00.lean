theorem dX11_at_0 : decode cX11_at 0 = .ok (.aload_n 0, 1) := by decide +kernel
theorem dX11_at_1 : decode cX11_at 1 = .ok (.iload_n 1, 1) := by decide +kernel
theorem dX11_at_2 : decode cX11_at 2 = .ok (.invokevirtual 108, 3) := by decide +kernel
theorem dX11_at_5 : decode cX11_at 5 = .ok (.ifCond .eq 22, 3) := by decide +kernel
theorem dX11_at_8 : decode cX11_at 8 = .ok (.iload_n 2, 1) := by decide +kernel
theorem dX11_at_9 : decode cX11_at 9 = .ok (.invokestatic 112, 3) := by decide +kernel
theorem dX11_at_12 : decode cX11_at 12 = .ok (.ifCond .eq 15, 3) := by decide +kernel
theorem dX11_at_15 : decode cX11_at 15 = .ok (.iload_n 3, 1) := by decide +kernel
theorem dX11_at_16 : decode cX11_at 16 = .ok (.i2l, 1) := by decide +kernel
theorem dX11_at_17 : decode cX11_at 17 = .ok (.lconst 0, 1) := by decide +kernel
theorem dX11_at_18 : decode cX11_at 18 = .ok (.ldc2_w 152, 3) := by decide +kernel
theorem dX11_at_21 : decode cX11_at 21 = .ok (.invokestatic 99, 3) := by decide +kernel
theorem dX11_at_24 : decode cX11_at 24 = .ok (.ifCond .ne 6, 3) := by decide +kernel
theorem dX11_at_27 : decode cX11_at 27 = .ok (.ldc 119, 2) := by decide +kernel
theorem dX11_at_29 : decode cX11_at 29 = .ok (.ireturn, 1) := by decide +kernel
theorem dX11_at_30 : decode cX11_at 30 = .ok (.aload_n 0, 1) := by decide +kernel
theorem dX11_at_31 : decode cX11_at 31 = .ok (.invokevirtual 154, 3) := by decide +kernel
theorem dX11_at_34 : decode cX11_at 34 = .ok (.aload_n 0, 1) := by decide +kernel
theorem dX11_at_35 : decode cX11_at 35 = .ok (.iload_n 1, 1) := by decide +kernel
theorem dX11_at_36 : decode cX11_at 36 = .ok (.iload_n 2, 1) := by decide +kernel
theorem dX11_at_37 : decode cX11_at 37 = .ok (.iload_n 3, 1) := by decide +kernel
theorem dX11_at_38 : decode cX11_at 38 = .ok (.invokevirtual 157, 3) := by decide +kernel
theorem dX11_at_41 : decode cX11_at 41 = .ok (.ireturn, 1) := by decide +kernel
theorem dX11_counts_0 : decode cX11_counts 0 = .ok (.aload_n 0, 1) := by decide +kernel
theorem dX11_counts_1 : decode cX11_counts 1 = .ok (.iconst 0, 1) := by decide +kernel
theorem dX11_counts_2 : decode cX11_counts 2 = .ok (.putfield 394, 3) := by decide +kernel
theorem dX11_counts_5 : decode cX11_counts 5 = .ok (.aload_n 0, 1) := by decide +kernel
theorem dX11_counts_6 : decode cX11_counts 6 = .ok (.lconst 0, 1) := by decide +kernel
theorem dX11_counts_7 : decode cX11_counts 7 = .ok (.putfield 397, 3) := by decide +kernel
theorem dX11_counts_10 : decode cX11_counts 10 = .ok (.lconst 0, 1) := by decide +kernel
theorem dX11_counts_11 : decode cX11_counts 11 = .ok (.lstore_n 1, 1) := by decide +kernel
theorem dX11_counts_12 : decode cX11_counts 12 = .ok (.iconst 0, 1) := by decide +kernel
theorem dX11_counts_13 : decode cX11_counts 13 = .ok (.istore_n 3, 1) := by decide +kernel
theorem dX11_counts_14 : decode cX11_counts 14 = .ok (.iload_n 3, 1) := by decide +kernel
theorem dX11_counts_15 : decode cX11_counts 15 = .ok (.sipush 600, 3) := by decide +kernel
theorem dX11_counts_18 : decode cX11_counts 18 = .ok (.if_icmp .ge 67, 3) := by decide +kernel
theorem dX11_counts_21 : decode cX11_counts 21 = .ok (.aload_n 0, 1) := by decide +kernel
theorem dX11_counts_22 : decode cX11_counts 22 = .ok (.getfield 66, 3) := by decide +kernel
theorem dX11_counts_25 : decode cX11_counts 25 = .ok (.iload_n 3, 1) := by decide +kernel
theorem dX11_counts_26 : decode cX11_counts 26 = .ok (.iaload, 1) := by decide +kernel
theorem dX11_counts_27 : decode cX11_counts 27 = .ok (.ldc 107, 2) := by decide +kernel
theorem dX11_counts_29 : decode cX11_counts 29 = .ok (.if_icmp .ne 6, 3) := by decide +kernel
theorem dX11_counts_32 : decode cX11_counts 32 = .ok (.goto 47, 3) := by decide +kernel
theorem dX11_counts_35 : decode cX11_counts 35 = .ok (.aload_n 0, 1) := by decide +kernel
theorem dX11_counts_36 : decode cX11_counts 36 = .ok (.dup, 1) := by decide +kernel
theorem dX11_counts_37 : decode cX11_counts 37 = .ok (.getfield 394, 3) := by decide +kernel
theorem dX11_counts_40 : decode cX11_counts 40 = .ok (.iconst 1, 1) := by decide +kernel
theorem dX11_counts_41 : decode cX11_counts 41 = .ok (.iadd, 1) := by decide +kernel
theorem dX11_counts_42 : decode cX11_counts 42 = .ok (.putfield 394, 3) := by decide +kernel
theorem dX11_counts_45 : decode cX11_counts 45 = .ok (.aload_n 0, 1) := by decide +kernel
theorem dX11_counts_46 : decode cX11_counts 46 = .ok (.dup, 1) := by decide +kernel
theorem dX11_counts_47 : decode cX11_counts 47 = .ok (.getfield 397, 3) := by decide +kernel
theorem dX11_counts_50 : decode cX11_counts 50 = .ok (.aload_n 0, 1) := by decide +kernel
theorem dX11_counts_51 : decode cX11_counts 51 = .ok (.getfield 66, 3) := by decide +kernel
theorem dX11_counts_54 : decode cX11_counts 54 = .ok (.iload_n 3, 1) := by decide +kernel
theorem dX11_counts_55 : decode cX11_counts 55 = .ok (.iaload, 1) := by decide +kernel
theorem dX11_counts_56 : decode cX11_counts 56 = .ok (.i2l, 1) := by decide +kernel
theorem dX11_counts_57 : decode cX11_counts 57 = .ok (.ladd, 1) := by decide +kernel
theorem dX11_counts_58 : decode cX11_counts 58 = .ok (.putfield 397, 3) := by decide +kernel
theorem dX11_counts_61 : decode cX11_counts 61 = .ok (.lload_n 1, 1) := by decide +kernel
theorem dX11_counts_62 : decode cX11_counts 62 = .ok (.aload_n 0, 1) := by decide +kernel
theorem dX11_counts_63 : decode cX11_counts 63 = .ok (.getfield 66, 3) := by decide +kernel
theorem dX11_counts_66 : decode cX11_counts 66 = .ok (.iload_n 3, 1) := by decide +kernel
theorem dX11_counts_67 : decode cX11_counts 67 = .ok (.iaload, 1) := by decide +kernel
theorem dX11_counts_68 : decode cX11_counts 68 = .ok (.i2l, 1) := by decide +kernel
theorem dX11_counts_69 : decode cX11_counts 69 = .ok (.aload_n 0, 1) := by decide +kernel
theorem dX11_counts_70 : decode cX11_counts 70 = .ok (.getfield 66, 3) := by decide +kernel
theorem dX11_counts_73 : decode cX11_counts 73 = .ok (.iload_n 3, 1) := by decide +kernel
theorem dX11_counts_74 : decode cX11_counts 74 = .ok (.iaload, 1) := by decide +kernel
theorem dX11_counts_75 : decode cX11_counts 75 = .ok (.i2l, 1) := by decide +kernel
theorem dX11_counts_76 : decode cX11_counts 76 = .ok (.lmul, 1) := by decide +kernel
theorem dX11_counts_77 : decode cX11_counts 77 = .ok (.ladd, 1) := by decide +kernel
theorem dX11_counts_78 : decode cX11_counts 78 = .ok (.lstore_n 1, 1) := by decide +kernel
theorem dX11_counts_79 : decode cX11_counts 79 = .ok (.iinc 3 1, 3) := by decide +kernel
theorem dX11_counts_82 : decode cX11_counts 82 = .ok (.goto (-68), 3) := by decide +kernel
theorem dX11_counts_85 : decode cX11_counts 85 = .ok (.aload_n 0, 1) := by decide +kernel
theorem dX11_counts_86 : decode cX11_counts 86 = .ok (.getfield 394, 3) := by decide +kernel
theorem dX11_counts_89 : decode cX11_counts 89 = .ok (.ifCond .le 36, 3) := by decide +kernel
theorem dX11_counts_92 : decode cX11_counts 92 = .ok (.aload_n 0, 1) := by decide +kernel
theorem dX11_counts_93 : decode cX11_counts 93 = .ok (.aload_n 0, 1) := by decide +kernel
theorem dX11_counts_94 : decode cX11_counts 94 = .ok (.getfield 394, 3) := by decide +kernel
theorem dX11_counts_97 : decode cX11_counts 97 = .ok (.i2l, 1) := by decide +kernel
theorem dX11_counts_98 : decode cX11_counts 98 = .ok (.lload_n 1, 1) := by decide +kernel
theorem dX11_counts_99 : decode cX11_counts 99 = .ok (.lmul, 1) := by decide +kernel
theorem dX11_counts_100 : decode cX11_counts 100 = .ok (.aload_n 0, 1) := by decide +kernel
theorem dX11_counts_101 : decode cX11_counts 101 = .ok (.getfield 397, 3) := by decide +kernel
theorem dX11_counts_104 : decode cX11_counts 104 = .ok (.aload_n 0, 1) := by decide +kernel
theorem dX11_counts_105 : decode cX11_counts 105 = .ok (.getfield 397, 3) := by decide +kernel
theorem dX11_counts_108 : decode cX11_counts 108 = .ok (.lmul, 1) := by decide +kernel
theorem dX11_counts_109 : decode cX11_counts 109 = .ok (.lsub, 1) := by decide +kernel
theorem dX11_counts_110 : decode cX11_counts 110 = .ok (.aload_n 0, 1) := by decide +kernel
theorem dX11_counts_111 : decode cX11_counts 111 = .ok (.getfield 394, 3) := by decide +kernel
theorem dX11_counts_114 : decode cX11_counts 114 = .ok (.i2l, 1) := by decide +kernel
theorem dX11_counts_115 : decode cX11_counts 115 = .ok (.aload_n 0, 1) := by decide +kernel
theorem dX11_counts_116 : decode cX11_counts 116 = .ok (.getfield 394, 3) := by decide +kernel
theorem dX11_counts_119 : decode cX11_counts 119 = .ok (.i2l, 1) := by decide +kernel
theorem dX11_counts_120 : decode cX11_counts 120 = .ok (.lmul, 1) := by decide +kernel
theorem dX11_counts_121 : decode cX11_counts 121 = .ok (.ldiv, 1) := by decide +kernel
theorem dX11_counts_122 : decode cX11_counts 122 = .ok (.putfield 401, 3) := by decide +kernel
theorem dX11_counts_125 : decode cX11_counts 125 = .ok (.aload_n 0, 1) := by decide +kernel
theorem dX11_counts_126 : decode cX11_counts 126 = .ok (.getfield 401, 3) := by decide +kernel
theorem dX11_counts_129 : decode cX11_counts 129 = .ok (.lconst 1, 1) := by decide +kernel
theorem dX11_counts_130 : decode cX11_counts 130 = .ok (.lcmp, 1) := by decide +kernel
theorem dX11_counts_131 : decode cX11_counts 131 = .ok (.ifCond .lt 10, 3) := by decide +kernel
theorem dX11_counts_134 : decode cX11_counts 134 = .ok (.aload_n 0, 1) := by decide +kernel
theorem dX11_counts_135 : decode cX11_counts 135 = .ok (.getfield 394, 3) := by decide +kernel
theorem dX11_counts_138 : decode cX11_counts 138 = .ok (.ifCond .ne 8, 3) := by decide +kernel
theorem dX11_counts_141 : decode cX11_counts 141 = .ok (.aload_n 0, 1) := by decide +kernel
theorem dX11_counts_142 : decode cX11_counts 142 = .ok (.lconst 1, 1) := by decide +kernel
theorem dX11_counts_143 : decode cX11_counts 143 = .ok (.putfield 401, 3) := by decide +kernel
theorem dX11_counts_146 : decode cX11_counts 146 = .ok (.return_, 1) := by decide +kernel
theorem dX11_deepBy_0 : decode cX11_deepBy 0 = .ok (.lload_n 1, 1) := by decide +kernel
theorem dX11_deepBy_1 : decode cX11_deepBy 1 = .ok (.iload 6, 2) := by decide +kernel
theorem dX11_deepBy_3 : decode cX11_deepBy 3 = .ok (.i2l, 1) := by decide +kernel
theorem dX11_deepBy_4 : decode cX11_deepBy 4 = .ok (.lmul, 1) := by decide +kernel
theorem dX11_deepBy_5 : decode cX11_deepBy 5 = .ok (.lload 4, 2) := by decide +kernel
theorem dX11_deepBy_7 : decode cX11_deepBy 7 = .ok (.iload_n 3, 1) := by decide +kernel
theorem dX11_deepBy_8 : decode cX11_deepBy 8 = .ok (.i2l, 1) := by decide +kernel
theorem dX11_deepBy_9 : decode cX11_deepBy 9 = .ok (.lmul, 1) := by decide +kernel
theorem dX11_deepBy_10 : decode cX11_deepBy 10 = .ok (.lsub, 1) := by decide +kernel
theorem dX11_deepBy_11 : decode cX11_deepBy 11 = .ok (.iload_n 3, 1) := by decide +kernel
theorem dX11_deepBy_12 : decode cX11_deepBy 12 = .ok (.i2l, 1) := by decide +kernel
theorem dX11_deepBy_13 : decode cX11_deepBy 13 = .ok (.iload 6, 2) := by decide +kernel
theorem dX11_deepBy_15 : decode cX11_deepBy 15 = .ok (.i2l, 1) := by decide +kernel
theorem dX11_deepBy_16 : decode cX11_deepBy 16 = .ok (.lmul, 1) := by decide +kernel
theorem dX11_deepBy_17 : decode cX11_deepBy 17 = .ok (.invokestatic 133, 3) := by decide +kernel
theorem dX11_deepBy_20 : decode cX11_deepBy 20 = .ok (.lreturn, 1) := by decide +kernel
theorem dX11_dipAt_0 : decode cX11_dipAt 0 = .ok (.iload_n 0, 1) := by decide +kernel
theorem dX11_dipAt_1 : decode cX11_dipAt 1 = .ok (.iload_n 2, 1) := by decide +kernel
theorem dX11_dipAt_2 : decode cX11_dipAt 2 = .ok (.if_icmp .ge 7, 3) := by decide +kernel
theorem dX11_dipAt_5 : decode cX11_dipAt 5 = .ok (.iconst (-1), 1) := by decide +kernel
theorem dX11_dipAt_6 : decode cX11_dipAt 6 = .ok (.goto 8, 3) := by decide +kernel
theorem dX11_dipAt_9 : decode cX11_dipAt 9 = .ok (.iload_n 0, 1) := by decide +kernel
theorem dX11_dipAt_10 : decode cX11_dipAt 10 = .ok (.iload_n 2, 1) := by decide +kernel
theorem dX11_dipAt_11 : decode cX11_dipAt 11 = .ok (.isub, 1) := by decide +kernel
theorem dX11_dipAt_12 : decode cX11_dipAt 12 = .ok (.iload_n 1, 1) := by decide +kernel
theorem dX11_dipAt_13 : decode cX11_dipAt 13 = .ok (.idiv, 1) := by decide +kernel
theorem dX11_dipAt_14 : decode cX11_dipAt 14 = .ok (.ireturn, 1) := by decide +kernel
theorem dX11_dipsOf_0 : decode cX11_dipsOf 0 = .ok (.iconst 0, 1) := by decide +kernel
theorem dX11_dipsOf_1 : decode cX11_dipsOf 1 = .ok (.istore 4, 2) := by decide +kernel
theorem dX11_dipsOf_3 : decode cX11_dipsOf 3 = .ok (.iload_n 3, 1) := by decide +kernel
theorem dX11_dipsOf_4 : decode cX11_dipsOf 4 = .ok (.iload_n 1, 1) := by decide +kernel
theorem dX11_dipsOf_5 : decode cX11_dipsOf 5 = .ok (.isub, 1) := by decide +kernel
theorem dX11_dipsOf_6 : decode cX11_dipsOf 6 = .ok (.istore 5, 2) := by decide +kernel
theorem dX11_dipsOf_8 : decode cX11_dipsOf 8 = .ok (.iload 5, 2) := by decide +kernel
theorem dX11_dipsOf_10 : decode cX11_dipsOf 10 = .ok (.sipush 600, 3) := by decide +kernel
theorem dX11_dipsOf_13 : decode cX11_dipsOf 13 = .ok (.if_icmp .ge 32, 3) := by decide +kernel
theorem dX11_dipsOf_16 : decode cX11_dipsOf 16 = .ok (.iload 4, 2) := by decide +kernel
theorem dX11_dipsOf_18 : decode cX11_dipsOf 18 = .ok (.aload_n 0, 1) := by decide +kernel
theorem dX11_dipsOf_19 : decode cX11_dipsOf 19 = .ok (.iload 5, 2) := by decide +kernel
theorem dX11_dipsOf_21 : decode cX11_dipsOf 21 = .ok (.iload_n 2, 1) := by decide +kernel
theorem dX11_dipsOf_22 : decode cX11_dipsOf 22 = .ok (.invokevirtual 412, 3) := by decide +kernel
theorem dX11_dipsOf_25 : decode cX11_dipsOf 25 = .ok (.ifCond .eq 7, 3) := by decide +kernel
theorem dX11_dipsOf_28 : decode cX11_dipsOf 28 = .ok (.iconst 1, 1) := by decide +kernel
theorem dX11_dipsOf_29 : decode cX11_dipsOf 29 = .ok (.goto 4, 3) := by decide +kernel
theorem dX11_dipsOf_32 : decode cX11_dipsOf 32 = .ok (.iconst 0, 1) := by decide +kernel
theorem dX11_dipsOf_33 : decode cX11_dipsOf 33 = .ok (.iadd, 1) := by decide +kernel
theorem dX11_dipsOf_34 : decode cX11_dipsOf 34 = .ok (.istore 4, 2) := by decide +kernel
theorem dX11_dipsOf_36 : decode cX11_dipsOf 36 = .ok (.iload 5, 2) := by decide +kernel
theorem dX11_dipsOf_38 : decode cX11_dipsOf 38 = .ok (.iload_n 1, 1) := by decide +kernel
theorem dX11_dipsOf_39 : decode cX11_dipsOf 39 = .ok (.iadd, 1) := by decide +kernel
theorem dX11_dipsOf_40 : decode cX11_dipsOf 40 = .ok (.istore 5, 2) := by decide +kernel
theorem dX11_dipsOf_42 : decode cX11_dipsOf 42 = .ok (.goto (-34), 3) := by decide +kernel
theorem dX11_dipsOf_45 : decode cX11_dipsOf 45 = .ok (.iload 4, 2) := by decide +kernel
theorem dX11_dipsOf_47 : decode cX11_dipsOf 47 = .ok (.ireturn, 1) := by decide +kernel
theorem dX11_end_0 : decode cX11_end 0 = .ok (.iload_n 1, 1) := by decide +kernel
theorem dX11_end_1 : decode cX11_end 1 = .ok (.ifCond .lt 11, 3) := by decide +kernel
theorem dX11_end_4 : decode cX11_end 4 = .ok (.iload_n 1, 1) := by decide +kernel
theorem dX11_end_5 : decode cX11_end 5 = .ok (.aload_n 0, 1) := by decide +kernel
theorem dX11_end_6 : decode cX11_end 6 = .ok (.getfield 169, 3) := by decide +kernel
theorem dX11_end_9 : decode cX11_end 9 = .ok (.if_icmp .le 5, 3) := by decide +kernel
theorem dX11_end_12 : decode cX11_end 12 = .ok (.iconst (-1), 1) := by decide +kernel
theorem dX11_end_13 : decode cX11_end 13 = .ok (.ireturn, 1) := by decide +kernel
theorem dX11_end_14 : decode cX11_end 14 = .ok (.aload_n 0, 1) := by decide +kernel
theorem dX11_end_15 : decode cX11_end 15 = .ok (.iload_n 1, 1) := by decide +kernel
theorem dX11_end_16 : decode cX11_end 16 = .ok (.putfield 169, 3) := by decide +kernel
theorem dX11_end_19 : decode cX11_end 19 = .ok (.iload_n 1, 1) := by decide +kernel
theorem dX11_end_20 : decode cX11_end 20 = .ok (.ireturn, 1) := by decide +kernel
theorem dX11_feed_0 : decode cX11_feed 0 = .ok (.aload_n 0, 1) := by decide +kernel
theorem dX11_feed_1 : decode cX11_feed 1 = .ok (.getfield 169, 3) := by decide +kernel
theorem dX11_feed_4 : decode cX11_feed 4 = .ok (.bipush 20, 2) := by decide +kernel
theorem dX11_feed_6 : decode cX11_feed 6 = .ok (.iadd, 1) := by decide +kernel
theorem dX11_feed_7 : decode cX11_feed 7 = .ok (.sipush 400, 3) := by decide +kernel
theorem dX11_feed_10 : decode cX11_feed 10 = .ok (.if_icmp .le 5, 3) := by decide +kernel
theorem dX11_feed_13 : decode cX11_feed 13 = .ok (.iconst (-1), 1) := by decide +kernel
theorem dX11_feed_14 : decode cX11_feed 14 = .ok (.ireturn, 1) := by decide +kernel
theorem dX11_feed_15 : decode cX11_feed 15 = .ok (.aload_n 0, 1) := by decide +kernel
theorem dX11_feed_16 : decode cX11_feed 16 = .ok (.iload_n 1, 1) := by decide +kernel
theorem dX11_feed_17 : decode cX11_feed 17 = .ok (.invokevirtual 173, 3) := by decide +kernel
theorem dX11_feed_20 : decode cX11_feed 20 = .ok (.aload_n 0, 1) := by decide +kernel
theorem dX11_feed_21 : decode cX11_feed 21 = .ok (.iload_n 2, 1) := by decide +kernel
theorem dX11_feed_22 : decode cX11_feed 22 = .ok (.invokevirtual 173, 3) := by decide +kernel
theorem dX11_feed_25 : decode cX11_feed 25 = .ok (.aload_n 0, 1) := by decide +kernel
theorem dX11_feed_26 : decode cX11_feed 26 = .ok (.iload_n 3, 1) := by decide +kernel
theorem dX11_feed_27 : decode cX11_feed 27 = .ok (.invokevirtual 173, 3) := by decide +kernel
theorem dX11_feed_30 : decode cX11_feed 30 = .ok (.aload_n 0, 1) := by decide +kernel
theorem dX11_feed_31 : decode cX11_feed 31 = .ok (.iload 4, 2) := by decide +kernel
theorem dX11_feed_33 : decode cX11_feed 33 = .ok (.invokevirtual 173, 3) := by decide +kernel
theorem dX11_feed_36 : decode cX11_feed 36 = .ok (.aload_n 0, 1) := by decide +kernel
theorem dX11_feed_37 : decode cX11_feed 37 = .ok (.iload 5, 2) := by decide +kernel
theorem dX11_feed_39 : decode cX11_feed 39 = .ok (.invokevirtual 173, 3) := by decide +kernel
theorem dX11_feed_42 : decode cX11_feed 42 = .ok (.aload_n 0, 1) := by decide +kernel
theorem dX11_feed_43 : decode cX11_feed 43 = .ok (.getfield 169, 3) := by decide +kernel
theorem dX11_feed_46 : decode cX11_feed 46 = .ok (.ireturn, 1) := by decide +kernel
theorem dX11_four_0 : decode cX11_four 0 = .ok (.bipush 24, 2) := by decide +kernel
theorem dX11_four_2 : decode cX11_four 2 = .ok (.istore_n 2, 1) := by decide +kernel
theorem dX11_four_3 : decode cX11_four 3 = .ok (.iload_n 2, 1) := by decide +kernel
theorem dX11_four_4 : decode cX11_four 4 = .ok (.ifCond .lt 32, 3) := by decide +kernel
theorem dX11_four_7 : decode cX11_four 7 = .ok (.aload_n 0, 1) := by decide +kernel
theorem dX11_four_8 : decode cX11_four 8 = .ok (.getfield 16, 3) := by decide +kernel
theorem dX11_four_11 : decode cX11_four 11 = .ok (.aload_n 0, 1) := by decide +kernel
theorem dX11_four_12 : decode cX11_four 12 = .ok (.getfield 169, 3) := by decide +kernel
theorem dX11_four_15 : decode cX11_four 15 = .ok (.iload_n 1, 1) := by decide +kernel
theorem dX11_four_16 : decode cX11_four 16 = .ok (.iload_n 2, 1) := by decide +kernel
theorem dX11_four_17 : decode cX11_four 17 = .ok (.ishr, 1) := by decide +kernel
theorem dX11_four_18 : decode cX11_four 18 = .ok (.i2b, 1) := by decide +kernel
theorem dX11_four_19 : decode cX11_four 19 = .ok (.bastore, 1) := by decide +kernel
theorem dX11_four_20 : decode cX11_four 20 = .ok (.aload_n 0, 1) := by decide +kernel
theorem dX11_four_21 : decode cX11_four 21 = .ok (.dup, 1) := by decide +kernel
theorem dX11_four_22 : decode cX11_four 22 = .ok (.getfield 169, 3) := by decide +kernel
theorem dX11_four_25 : decode cX11_four 25 = .ok (.iconst 1, 1) := by decide +kernel
theorem dX11_four_26 : decode cX11_four 26 = .ok (.iadd, 1) := by decide +kernel
theorem dX11_four_27 : decode cX11_four 27 = .ok (.putfield 169, 3) := by decide +kernel
theorem dX11_four_30 : decode cX11_four 30 = .ok (.iinc 2 (-8), 3) := by decide +kernel
theorem dX11_four_33 : decode cX11_four 33 = .ok (.goto (-30), 3) := by decide +kernel
theorem dX11_four_36 : decode cX11_four 36 = .ok (.return_, 1) := by decide +kernel
theorem dX11_hasHour_0 : decode cX11_hasHour 0 = .ok (.iload_n 1, 1) := by decide +kernel
theorem dX11_hasHour_1 : decode cX11_hasHour 1 = .ok (.istore_n 3, 1) := by decide +kernel
theorem dX11_hasHour_2 : decode cX11_hasHour 2 = .ok (.iload_n 3, 1) := by decide +kernel
theorem dX11_hasHour_3 : decode cX11_hasHour 3 = .ok (.iload_n 1, 1) := by decide +kernel
theorem dX11_hasHour_4 : decode cX11_hasHour 4 = .ok (.iload_n 2, 1) := by decide +kernel
theorem dX11_hasHour_5 : decode cX11_hasHour 5 = .ok (.iadd, 1) := by decide +kernel
theorem dX11_hasHour_6 : decode cX11_hasHour 6 = .ok (.if_icmp .ge 19, 3) := by decide +kernel
theorem dX11_hasHour_9 : decode cX11_hasHour 9 = .ok (.aload_n 0, 1) := by decide +kernel
theorem dX11_hasHour_10 : decode cX11_hasHour 10 = .ok (.iload_n 3, 1) := by decide +kernel
theorem dX11_hasHour_11 : decode cX11_hasHour 11 = .ok (.invokevirtual 409, 3) := by decide +kernel
theorem dX11_hasHour_14 : decode cX11_hasHour 14 = .ok (.ifCond .eq 5, 3) := by decide +kernel
theorem dX11_hasHour_17 : decode cX11_hasHour 17 = .ok (.iconst 1, 1) := by decide +kernel
theorem dX11_hasHour_18 : decode cX11_hasHour 18 = .ok (.ireturn, 1) := by decide +kernel
theorem dX11_hasHour_19 : decode cX11_hasHour 19 = .ok (.iinc 3 1, 3) := by decide +kernel
theorem dX11_hasHour_22 : decode cX11_hasHour 22 = .ok (.goto (-20), 3) := by decide +kernel
theorem dX11_hasHour_25 : decode cX11_hasHour 25 = .ok (.iconst 0, 1) := by decide +kernel
theorem dX11_hasHour_26 : decode cX11_hasHour 26 = .ok (.ireturn, 1) := by decide +kernel
theorem dX11_isDip_0 : decode cX11_isDip 0 = .ok (.iload_n 2, 1) := by decide +kernel
theorem dX11_isDip_1 : decode cX11_isDip 1 = .ok (.aload_n 0, 1) := by decide +kernel
theorem dX11_isDip_2 : decode cX11_isDip 2 = .ok (.iload_n 1, 1) := by decide +kernel
theorem dX11_isDip_3 : decode cX11_isDip 3 = .ok (.iconst 2, 1) := by decide +kernel
theorem dX11_isDip_4 : decode cX11_isDip 4 = .ok (.invokevirtual 166, 3) := by decide +kernel
theorem dX11_isDip_7 : decode cX11_isDip 7 = .ok (.isub, 1) := by decide +kernel
theorem dX11_isDip_8 : decode cX11_isDip 8 = .ok (.istore_n 3, 1) := by decide +kernel
theorem dX11_isDip_9 : decode cX11_isDip 9 = .ok (.iload_n 3, 1) := by decide +kernel
theorem dX11_isDip_10 : decode cX11_isDip 10 = .ok (.ifCond .lt 24, 3) := by decide +kernel
theorem dX11_isDip_13 : decode cX11_isDip 13 = .ok (.iload_n 3, 1) := by decide +kernel
theorem dX11_isDip_14 : decode cX11_isDip 14 = .ok (.aload_n 0, 1) := by decide +kernel
theorem dX11_isDip_15 : decode cX11_isDip 15 = .ok (.iload_n 1, 1) := by decide +kernel
theorem dX11_isDip_16 : decode cX11_isDip 16 = .ok (.iconst 1, 1) := by decide +kernel
theorem dX11_isDip_17 : decode cX11_isDip 17 = .ok (.invokevirtual 166, 3) := by decide +kernel
theorem dX11_isDip_20 : decode cX11_isDip 20 = .ok (.irem, 1) := by decide +kernel
theorem dX11_isDip_21 : decode cX11_isDip 21 = .ok (.aload_n 0, 1) := by decide +kernel
theorem dX11_isDip_22 : decode cX11_isDip 22 = .ok (.iload_n 1, 1) := by decide +kernel
theorem dX11_isDip_23 : decode cX11_isDip 23 = .ok (.iconst 3, 1) := by decide +kernel
theorem dX11_isDip_24 : decode cX11_isDip 24 = .ok (.invokevirtual 166, 3) := by decide +kernel
theorem dX11_isDip_27 : decode cX11_isDip 27 = .ok (.if_icmp .ge 7, 3) := by decide +kernel
theorem dX11_isDip_30 : decode cX11_isDip 30 = .ok (.iconst 1, 1) := by decide +kernel
theorem dX11_isDip_31 : decode cX11_isDip 31 = .ok (.goto 4, 3) := by decide +kernel
theorem dX11_isDip_34 : decode cX11_isDip 34 = .ok (.iconst 0, 1) := by decide +kernel
theorem dX11_isDip_35 : decode cX11_isDip 35 = .ok (.ireturn, 1) := by decide +kernel
theorem dX11_isMasked_0 : decode cX11_isMasked 0 = .ok (.aload_n 0, 1) := by decide +kernel
theorem dX11_isMasked_1 : decode cX11_isMasked 1 = .ok (.getfield 7, 3) := by decide +kernel
theorem dX11_isMasked_4 : decode cX11_isMasked 4 = .ok (.sipush 7517, 3) := by decide +kernel
theorem dX11_isMasked_7 : decode cX11_isMasked 7 = .ok (.iconst 2, 1) := by decide +kernel
theorem dX11_isMasked_8 : decode cX11_isMasked 8 = .ok (.iload_n 1, 1) := by decide +kernel
theorem dX11_isMasked_9 : decode cX11_isMasked 9 = .ok (.imul, 1) := by decide +kernel
theorem dX11_isMasked_10 : decode cX11_isMasked 10 = .ok (.iadd, 1) := by decide +kernel
theorem dX11_isMasked_11 : decode cX11_isMasked 11 = .ok (.iaload, 1) := by decide +kernel
theorem dX11_isMasked_12 : decode cX11_isMasked 12 = .ok (.istore_n 3, 1) := by decide +kernel
theorem dX11_isMasked_13 : decode cX11_isMasked 13 = .ok (.iconst 0, 1) := by decide +kernel
theorem dX11_isMasked_14 : decode cX11_isMasked 14 = .ok (.istore 4, 2) := by decide +kernel
theorem dX11_isMasked_16 : decode cX11_isMasked 16 = .ok (.iconst 0, 1) := by decide +kernel
theorem dX11_isMasked_17 : decode cX11_isMasked 17 = .ok (.istore 5, 2) := by decide +kernel
theorem dX11_isMasked_19 : decode cX11_isMasked 19 = .ok (.iload 5, 2) := by decide +kernel
theorem dX11_isMasked_21 : decode cX11_isMasked 21 = .ok (.aload_n 0, 1) := by decide +kernel
theorem dX11_isMasked_22 : decode cX11_isMasked 22 = .ok (.getfield 7, 3) := by decide +kernel
theorem dX11_isMasked_25 : decode cX11_isMasked 25 = .ok (.iconst 0, 1) := by decide +kernel
theorem dX11_isMasked_26 : decode cX11_isMasked 26 = .ok (.iaload, 1) := by decide +kernel
theorem dX11_isMasked_27 : decode cX11_isMasked 27 = .ok (.if_icmp .ge 74, 3) := by decide +kernel
theorem dX11_isMasked_30 : decode cX11_isMasked 30 = .ok (.iload 4, 2) := by decide +kernel
theorem dX11_isMasked_32 : decode cX11_isMasked 32 = .ok (.aload_n 0, 1) := by decide +kernel
theorem dX11_isMasked_33 : decode cX11_isMasked 33 = .ok (.iload 5, 2) := by decide +kernel
theorem dX11_isMasked_35 : decode cX11_isMasked 35 = .ok (.iconst 1, 1) := by decide +kernel
theorem dX11_isMasked_36 : decode cX11_isMasked 36 = .ok (.invokevirtual 120, 3) := by decide +kernel
theorem dX11_isMasked_39 : decode cX11_isMasked 39 = .ok (.iload_n 1, 1) := by decide +kernel
theorem dX11_isMasked_40 : decode cX11_isMasked 40 = .ok (.if_icmp .ne 51, 3) := by decide +kernel
theorem dX11_isMasked_43 : decode cX11_isMasked 43 = .ok (.aload_n 0, 1) := by decide +kernel
theorem dX11_isMasked_44 : decode cX11_isMasked 44 = .ok (.iload 5, 2) := by decide +kernel
theorem dX11_isMasked_46 : decode cX11_isMasked 46 = .ok (.iload_n 2, 1) := by decide +kernel
theorem dX11_isMasked_47 : decode cX11_isMasked 47 = .ok (.invokevirtual 130, 3) := by decide +kernel
theorem dX11_isMasked_50 : decode cX11_isMasked 50 = .ok (.ldc 107, 2) := by decide +kernel
theorem dX11_isMasked_52 : decode cX11_isMasked 52 = .ok (.if_icmp .eq 39, 3) := by decide +kernel
theorem dX11_isMasked_55 : decode cX11_isMasked 55 = .ok (.aload_n 0, 1) := by decide +kernel
theorem dX11_isMasked_56 : decode cX11_isMasked 56 = .ok (.iload 5, 2) := by decide +kernel
theorem dX11_isMasked_58 : decode cX11_isMasked 58 = .ok (.iload_n 2, 1) := by decide +kernel
theorem dX11_isMasked_59 : decode cX11_isMasked 59 = .ok (.invokevirtual 130, 3) := by decide +kernel
theorem dX11_isMasked_62 : decode cX11_isMasked 62 = .ok (.aload_n 0, 1) := by decide +kernel
theorem dX11_isMasked_63 : decode cX11_isMasked 63 = .ok (.getfield 13, 3) := by decide +kernel
theorem dX11_isMasked_66 : decode cX11_isMasked 66 = .ok (.iload 5, 2) := by decide +kernel
theorem dX11_isMasked_68 : decode cX11_isMasked 68 = .ok (.iaload, 1) := by decide +kernel
theorem dX11_isMasked_69 : decode cX11_isMasked 69 = .ok (.aload_n 0, 1) := by decide +kernel
theorem dX11_isMasked_70 : decode cX11_isMasked 70 = .ok (.getfield 7, 3) := by decide +kernel
theorem dX11_isMasked_73 : decode cX11_isMasked 73 = .ok (.sipush 7517, 3) := by decide +kernel
theorem dX11_isMasked_76 : decode cX11_isMasked 76 = .ok (.iconst 2, 1) := by decide +kernel
theorem dX11_isMasked_77 : decode cX11_isMasked 77 = .ok (.iload_n 1, 1) := by decide +kernel
theorem dX11_isMasked_78 : decode cX11_isMasked 78 = .ok (.imul, 1) := by decide +kernel
theorem dX11_isMasked_79 : decode cX11_isMasked 79 = .ok (.iadd, 1) := by decide +kernel
theorem dX11_isMasked_80 : decode cX11_isMasked 80 = .ok (.iconst 1, 1) := by decide +kernel
theorem dX11_isMasked_81 : decode cX11_isMasked 81 = .ok (.iadd, 1) := by decide +kernel
theorem dX11_isMasked_82 : decode cX11_isMasked 82 = .ok (.iaload, 1) := by decide +kernel
theorem dX11_isMasked_83 : decode cX11_isMasked 83 = .ok (.isub, 1) := by decide +kernel
theorem dX11_isMasked_84 : decode cX11_isMasked 84 = .ok (.if_icmp .ge 7, 3) := by decide +kernel
theorem dX11_isMasked_87 : decode cX11_isMasked 87 = .ok (.iconst 1, 1) := by decide +kernel
theorem dX11_isMasked_88 : decode cX11_isMasked 88 = .ok (.goto 4, 3) := by decide +kernel
theorem dX11_isMasked_91 : decode cX11_isMasked 91 = .ok (.iconst 0, 1) := by decide +kernel
theorem dX11_isMasked_92 : decode cX11_isMasked 92 = .ok (.iadd, 1) := by decide +kernel
theorem dX11_isMasked_93 : decode cX11_isMasked 93 = .ok (.istore 4, 2) := by decide +kernel
theorem dX11_isMasked_95 : decode cX11_isMasked 95 = .ok (.iinc 5 1, 3) := by decide +kernel
theorem dX11_isMasked_98 : decode cX11_isMasked 98 = .ok (.goto (-79), 3) := by decide +kernel
theorem dX11_isMasked_101 : decode cX11_isMasked 101 = .ok (.iload_n 3, 1) := by decide +kernel
theorem dX11_isMasked_102 : decode cX11_isMasked 102 = .ok (.ifCond .le 13, 3) := by decide +kernel
theorem dX11_isMasked_105 : decode cX11_isMasked 105 = .ok (.iload 4, 2) := by decide +kernel
theorem dX11_isMasked_107 : decode cX11_isMasked 107 = .ok (.iload_n 3, 1) := by decide +kernel
theorem dX11_isMasked_108 : decode cX11_isMasked 108 = .ok (.if_icmp .lt 7, 3) := by decide +kernel
theorem dX11_isMasked_111 : decode cX11_isMasked 111 = .ok (.iconst 1, 1) := by decide +kernel
theorem dX11_isMasked_112 : decode cX11_isMasked 112 = .ok (.goto 4, 3) := by decide +kernel
theorem dX11_isMasked_115 : decode cX11_isMasked 115 = .ok (.iconst 0, 1) := by decide +kernel
theorem dX11_isMasked_116 : decode cX11_isMasked 116 = .ok (.ireturn, 1) := by decide +kernel
theorem dX11_isNumber_0 : decode cX11_isNumber 0 = .ok (.iload_n 1, 1) := by decide +kernel
theorem dX11_isNumber_1 : decode cX11_isNumber 1 = .ok (.invokestatic 112, 3) := by decide +kernel
theorem dX11_isNumber_4 : decode cX11_isNumber 4 = .ok (.ifCond .eq 18, 3) := by decide +kernel
theorem dX11_isNumber_7 : decode cX11_isNumber 7 = .ok (.aload_n 0, 1) := by decide +kernel
theorem dX11_isNumber_8 : decode cX11_isNumber 8 = .ok (.getfield 66, 3) := by decide +kernel
theorem dX11_isNumber_11 : decode cX11_isNumber 11 = .ok (.iload_n 1, 1) := by decide +kernel
theorem dX11_isNumber_12 : decode cX11_isNumber 12 = .ok (.iaload, 1) := by decide +kernel
theorem dX11_isNumber_13 : decode cX11_isNumber 13 = .ok (.ldc 107, 2) := by decide +kernel
theorem dX11_isNumber_15 : decode cX11_isNumber 15 = .ok (.if_icmp .eq 7, 3) := by decide +kernel
theorem dX11_isNumber_18 : decode cX11_isNumber 18 = .ok (.iconst 1, 1) := by decide +kernel
theorem dX11_isNumber_19 : decode cX11_isNumber 19 = .ok (.goto 4, 3) := by decide +kernel
theorem dX11_isNumber_22 : decode cX11_isNumber 22 = .ok (.iconst 0, 1) := by decide +kernel
theorem dX11_isNumber_23 : decode cX11_isNumber 23 = .ok (.ireturn, 1) := by decide +kernel
theorem dX11_lifts_0 : decode cX11_lifts 0 = .ok (.iload_n 2, 1) := by decide +kernel
theorem dX11_lifts_1 : decode cX11_lifts 1 = .ok (.iconst 4, 1) := by decide +kernel
theorem dX11_lifts_2 : decode cX11_lifts 2 = .ok (.if_icmp .ne 7, 3) := by decide +kernel
theorem dX11_lifts_5 : decode cX11_lifts 5 = .ok (.aload_n 0, 1) := by decide +kernel
theorem dX11_lifts_6 : decode cX11_lifts 6 = .ok (.invokevirtual 154, 3) := by decide +kernel
theorem dX11_lifts_9 : decode cX11_lifts 9 = .ok (.iconst 0, 1) := by decide +kernel
theorem dX11_lifts_10 : decode cX11_lifts 10 = .ok (.istore_n 3, 1) := by decide +kernel
theorem dX11_lifts_11 : decode cX11_lifts 11 = .ok (.iload_n 3, 1) := by decide +kernel
theorem dX11_lifts_12 : decode cX11_lifts 12 = .ok (.sipush 600, 3) := by decide +kernel
theorem dX11_lifts_15 : decode cX11_lifts 15 = .ok (.if_icmp .ge 22, 3) := by decide +kernel
theorem dX11_lifts_18 : decode cX11_lifts 18 = .ok (.aload_n 0, 1) := by decide +kernel
theorem dX11_lifts_19 : decode cX11_lifts 19 = .ok (.getfield 66, 3) := by decide +kernel
theorem dX11_lifts_22 : decode cX11_lifts 22 = .ok (.iload_n 3, 1) := by decide +kernel
theorem dX11_lifts_23 : decode cX11_lifts 23 = .ok (.aload_n 0, 1) := by decide +kernel
theorem dX11_lifts_24 : decode cX11_lifts 24 = .ok (.iload_n 1, 1) := by decide +kernel
theorem dX11_lifts_25 : decode cX11_lifts 25 = .ok (.iload_n 3, 1) := by decide +kernel
theorem dX11_lifts_26 : decode cX11_lifts 26 = .ok (.iload_n 2, 1) := by decide +kernel
theorem dX11_lifts_27 : decode cX11_lifts 27 = .ok (.invokevirtual 157, 3) := by decide +kernel
theorem dX11_lifts_30 : decode cX11_lifts 30 = .ok (.iastore, 1) := by decide +kernel
theorem dX11_lifts_31 : decode cX11_lifts 31 = .ok (.iinc 3 1, 3) := by decide +kernel
theorem dX11_lifts_34 : decode cX11_lifts 34 = .ok (.goto (-23), 3) := by decide +kernel
theorem dX11_lifts_37 : decode cX11_lifts 37 = .ok (.aload_n 0, 1) := by decide +kernel
theorem dX11_lifts_38 : decode cX11_lifts 38 = .ok (.invokevirtual 391, 3) := by decide +kernel
theorem dX11_lifts_41 : decode cX11_lifts 41 = .ok (.return_, 1) := by decide +kernel
theorem dX11_means_0 : decode cX11_means 0 = .ok (.iconst 0, 1) := by decide +kernel
theorem dX11_means_1 : decode cX11_means 1 = .ok (.istore_n 1, 1) := by decide +kernel
theorem dX11_means_2 : decode cX11_means 2 = .ok (.iload_n 1, 1) := by decide +kernel
theorem dX11_means_3 : decode cX11_means 3 = .ok (.aload_n 0, 1) := by decide +kernel
theorem dX11_means_4 : decode cX11_means 4 = .ok (.getfield 7, 3) := by decide +kernel
theorem dX11_means_7 : decode cX11_means 7 = .ok (.iconst 0, 1) := by decide +kernel
theorem dX11_means_8 : decode cX11_means 8 = .ok (.iaload, 1) := by decide +kernel
theorem dX11_means_9 : decode cX11_means 9 = .ok (.if_icmp .ge 24, 3) := by decide +kernel
theorem dX11_means_12 : decode cX11_means 12 = .ok (.aload_n 0, 1) := by decide +kernel
theorem dX11_means_13 : decode cX11_means 13 = .ok (.getfield 13, 3) := by decide +kernel
theorem dX11_means_16 : decode cX11_means 16 = .ok (.iload_n 1, 1) := by decide +kernel
theorem dX11_means_17 : decode cX11_means 17 = .ok (.aload_n 0, 1) := by decide +kernel
theorem dX11_means_18 : decode cX11_means 18 = .ok (.iload_n 1, 1) := by decide +kernel
theorem dX11_means_19 : decode cX11_means 19 = .ok (.iconst 0, 1) := by decide +kernel
theorem dX11_means_20 : decode cX11_means 20 = .ok (.sipush 599, 3) := by decide +kernel
theorem dX11_means_23 : decode cX11_means 23 = .ok (.invokevirtual 144, 3) := by decide +kernel
theorem dX11_means_26 : decode cX11_means 26 = .ok (.iastore, 1) := by decide +kernel
theorem dX11_means_27 : decode cX11_means 27 = .ok (.iinc 1 1, 3) := by decide +kernel
theorem dX11_means_30 : decode cX11_means 30 = .ok (.goto (-28), 3) := by decide +kernel
theorem dX11_means_33 : decode cX11_means 33 = .ok (.return_, 1) := by decide +kernel
theorem dX11_placeAt_0 : decode cX11_placeAt 0 = .ok (.iload_n 0, 1) := by decide +kernel
theorem dX11_placeAt_1 : decode cX11_placeAt 1 = .ok (.iload_n 2, 1) := by decide +kernel
theorem dX11_placeAt_2 : decode cX11_placeAt 2 = .ok (.isub, 1) := by decide +kernel
theorem dX11_placeAt_3 : decode cX11_placeAt 3 = .ok (.iload_n 1, 1) := by decide +kernel
theorem dX11_placeAt_4 : decode cX11_placeAt 4 = .ok (.iload_n 0, 1) := by decide +kernel
theorem dX11_placeAt_5 : decode cX11_placeAt 5 = .ok (.iload_n 1, 1) := by decide +kernel
theorem dX11_placeAt_6 : decode cX11_placeAt 6 = .ok (.iload_n 2, 1) := by decide +kernel
theorem dX11_placeAt_7 : decode cX11_placeAt 7 = .ok (.invokestatic 415, 3) := by decide +kernel
theorem dX11_placeAt_10 : decode cX11_placeAt 10 = .ok (.imul, 1) := by decide +kernel
theorem dX11_placeAt_11 : decode cX11_placeAt 11 = .ok (.isub, 1) := by decide +kernel
theorem dX11_placeAt_12 : decode cX11_placeAt 12 = .ok (.ireturn, 1) := by decide +kernel
theorem dX11_scoreOf_0 : decode cX11_scoreOf 0 = .ok (.lload_n 1, 1) := by decide +kernel
theorem dX11_scoreOf_1 : decode cX11_scoreOf 1 = .ok (.lconst 1, 1) := by decide +kernel
theorem dX11_scoreOf_2 : decode cX11_scoreOf 2 = .ok (.lcmp, 1) := by decide +kernel
theorem dX11_scoreOf_3 : decode cX11_scoreOf 3 = .ok (.ifCond .ge 7, 3) := by decide +kernel
theorem dX11_scoreOf_6 : decode cX11_scoreOf 6 = .ok (.lconst 0, 1) := by decide +kernel
theorem dX11_scoreOf_7 : decode cX11_scoreOf 7 = .ok (.goto 14, 3) := by decide +kernel
theorem dX11_scoreOf_10 : decode cX11_scoreOf 10 = .ok (.lload_n 1, 1) := by decide +kernel
theorem dX11_scoreOf_11 : decode cX11_scoreOf 11 = .ok (.lload_n 1, 1) := by decide +kernel
theorem dX11_scoreOf_12 : decode cX11_scoreOf 12 = .ok (.lmul, 1) := by decide +kernel
theorem dX11_scoreOf_13 : decode cX11_scoreOf 13 = .ok (.iload_n 3, 1) := by decide +kernel
theorem dX11_scoreOf_14 : decode cX11_scoreOf 14 = .ok (.i2l, 1) := by decide +kernel
theorem dX11_scoreOf_15 : decode cX11_scoreOf 15 = .ok (.lmul, 1) := by decide +kernel
theorem dX11_scoreOf_16 : decode cX11_scoreOf 16 = .ok (.aload_n 0, 1) := by decide +kernel
theorem dX11_scoreOf_17 : decode cX11_scoreOf 17 = .ok (.getfield 401, 3) := by decide +kernel
theorem dX11_scoreOf_20 : decode cX11_scoreOf 20 = .ok (.ldiv, 1) := by decide +kernel
theorem dX11_scoreOf_21 : decode cX11_scoreOf 21 = .ok (.lreturn, 1) := by decide +kernel
theorem dX11_seasonAt_0 : decode cX11_seasonAt 0 = .ok (.iload_n 0, 1) := by decide +kernel
theorem dX11_seasonAt_1 : decode cX11_seasonAt 1 = .ok (.istore_n 2, 1) := by decide +kernel
theorem dX11_seasonAt_2 : decode cX11_seasonAt 2 = .ok (.bipush 15, 2) := by decide +kernel
theorem dX11_seasonAt_4 : decode cX11_seasonAt 4 = .ok (.istore_n 3, 1) := by decide +kernel
theorem dX11_seasonAt_5 : decode cX11_seasonAt 5 = .ok (.bipush 6, 2) := by decide +kernel
theorem dX11_seasonAt_7 : decode cX11_seasonAt 7 = .ok (.istore 4, 2) := by decide +kernel
theorem dX11_seasonAt_9 : decode cX11_seasonAt 9 = .ok (.iconst 0, 1) := by decide +kernel
theorem dX11_seasonAt_10 : decode cX11_seasonAt 10 = .ok (.istore 5, 2) := by decide +kernel
theorem dX11_seasonAt_12 : decode cX11_seasonAt 12 = .ok (.iconst 0, 1) := by decide +kernel
theorem dX11_seasonAt_13 : decode cX11_seasonAt 13 = .ok (.istore 6, 2) := by decide +kernel
theorem dX11_seasonAt_15 : decode cX11_seasonAt 15 = .ok (.iload 6, 2) := by decide +kernel
theorem dX11_seasonAt_17 : decode cX11_seasonAt 17 = .ok (.iload_n 1, 1) := by decide +kernel
theorem dX11_seasonAt_18 : decode cX11_seasonAt 18 = .ok (.if_icmp .gt 75, 3) := by decide +kernel
theorem dX11_seasonAt_21 : decode cX11_seasonAt 21 = .ok (.iload_n 2, 1) := by decide +kernel
theorem dX11_seasonAt_22 : decode cX11_seasonAt 22 = .ok (.iload 4, 2) := by decide +kernel
theorem dX11_seasonAt_24 : decode cX11_seasonAt 24 = .ok (.idiv, 1) := by decide +kernel
theorem dX11_seasonAt_25 : decode cX11_seasonAt 25 = .ok (.istore 7, 2) := by decide +kernel
theorem dX11_seasonAt_27 : decode cX11_seasonAt 27 = .ok (.iload_n 2, 1) := by decide +kernel
theorem dX11_seasonAt_28 : decode cX11_seasonAt 28 = .ok (.iload 4, 2) := by decide +kernel
theorem dX11_seasonAt_30 : decode cX11_seasonAt 30 = .ok (.irem, 1) := by decide +kernel
theorem dX11_seasonAt_31 : decode cX11_seasonAt 31 = .ok (.istore_n 2, 1) := by decide +kernel
theorem dX11_seasonAt_32 : decode cX11_seasonAt 32 = .ok (.iload 6, 2) := by decide +kernel
theorem dX11_seasonAt_34 : decode cX11_seasonAt 34 = .ok (.ifCond .ne 7, 3) := by decide +kernel
theorem dX11_seasonAt_37 : decode cX11_seasonAt 37 = .ok (.iconst 2, 1) := by decide +kernel
theorem dX11_seasonAt_38 : decode cX11_seasonAt 38 = .ok (.goto 4, 3) := by decide +kernel
theorem dX11_seasonAt_41 : decode cX11_seasonAt 41 = .ok (.iconst 1, 1) := by decide +kernel
theorem dX11_seasonAt_42 : decode cX11_seasonAt 42 = .ok (.istore 4, 2) := by decide +kernel
theorem dX11_seasonAt_44 : decode cX11_seasonAt 44 = .ok (.iconst 0, 1) := by decide +kernel
theorem dX11_seasonAt_45 : decode cX11_seasonAt 45 = .ok (.istore 5, 2) := by decide +kernel
theorem dX11_seasonAt_47 : decode cX11_seasonAt 47 = .ok (.iload_n 3, 1) := by decide +kernel
theorem dX11_seasonAt_48 : decode cX11_seasonAt 48 = .ok (.iload 5, 2) := by decide +kernel
