theorem dJ7_fill_53178_0 : decode cJ7_fill_53178 0 = .ok (.iconst 0, 1) := by decide +kernel
theorem dJ7_fill_53178_1 : decode cJ7_fill_53178 1 = .ok (.istore_n 2, 1) := by decide +kernel
theorem dJ7_fill_53178_2 : decode cJ7_fill_53178 2 = .ok (.aload_n 0, 1) := by decide +kernel
theorem dJ7_fill_53178_3 : decode cJ7_fill_53178 3 = .ok (.arraylength, 1) := by decide +kernel
theorem dJ7_fill_53178_4 : decode cJ7_fill_53178 4 = .ok (.istore_n 3, 1) := by decide +kernel
theorem dJ7_fill_53178_5 : decode cJ7_fill_53178 5 = .ok (.iload_n 2, 1) := by decide +kernel
theorem dJ7_fill_53178_6 : decode cJ7_fill_53178 6 = .ok (.iload_n 3, 1) := by decide +kernel
theorem dJ7_fill_53178_7 : decode cJ7_fill_53178 7 = .ok (.if_icmp .ge 13, 3) := by decide +kernel
theorem dJ7_fill_53178_10 : decode cJ7_fill_53178 10 = .ok (.aload_n 0, 1) := by decide +kernel
theorem dJ7_fill_53178_11 : decode cJ7_fill_53178 11 = .ok (.iload_n 2, 1) := by decide +kernel
theorem dJ7_fill_53178_12 : decode cJ7_fill_53178 12 = .ok (.iload_n 1, 1) := by decide +kernel
theorem dJ7_fill_53178_13 : decode cJ7_fill_53178 13 = .ok (.iastore, 1) := by decide +kernel
theorem dJ7_fill_53178_14 : decode cJ7_fill_53178 14 = .ok (.iinc 2 1, 3) := by decide +kernel
theorem dJ7_fill_53178_17 : decode cJ7_fill_53178 17 = .ok (.goto (-12), 3) := by decide +kernel
theorem dJ7_fill_53178_20 : decode cJ7_fill_53178 20 = .ok (.return_, 1) := by decide +kernel
theorem dJ7_fill_d0a16_0 : decode cJ7_fill_d0a16 0 = .ok (.iconst 0, 1) := by decide +kernel
theorem dJ7_fill_d0a16_1 : decode cJ7_fill_d0a16 1 = .ok (.istore_n 3, 1) := by decide +kernel
theorem dJ7_fill_d0a16_2 : decode cJ7_fill_d0a16 2 = .ok (.aload_n 0, 1) := by decide +kernel
theorem dJ7_fill_d0a16_3 : decode cJ7_fill_d0a16 3 = .ok (.arraylength, 1) := by decide +kernel
theorem dJ7_fill_d0a16_4 : decode cJ7_fill_d0a16 4 = .ok (.istore 4, 2) := by decide +kernel
theorem dJ7_fill_d0a16_6 : decode cJ7_fill_d0a16 6 = .ok (.iload_n 3, 1) := by decide +kernel
theorem dJ7_fill_d0a16_7 : decode cJ7_fill_d0a16 7 = .ok (.iload 4, 2) := by decide +kernel
theorem dJ7_fill_d0a16_9 : decode cJ7_fill_d0a16 9 = .ok (.if_icmp .ge 13, 3) := by decide +kernel
theorem dJ7_fill_d0a16_12 : decode cJ7_fill_d0a16 12 = .ok (.aload_n 0, 1) := by decide +kernel
theorem dJ7_fill_d0a16_13 : decode cJ7_fill_d0a16 13 = .ok (.iload_n 3, 1) := by decide +kernel
theorem dJ7_fill_d0a16_14 : decode cJ7_fill_d0a16 14 = .ok (.lload_n 1, 1) := by decide +kernel
theorem dJ7_fill_d0a16_15 : decode cJ7_fill_d0a16 15 = .ok (.lastore, 1) := by decide +kernel
theorem dJ7_fill_d0a16_16 : decode cJ7_fill_d0a16 16 = .ok (.iinc 3 1, 3) := by decide +kernel
theorem dJ7_fill_d0a16_19 : decode cJ7_fill_d0a16 19 = .ok (.goto (-13), 3) := by decide +kernel
theorem dJ7_fill_d0a16_22 : decode cJ7_fill_d0a16 22 = .ok (.return_, 1) := by decide +kernel
theorem dX2_addWorld_0 : decode cX2_addWorld 0 = .ok (.iconst 0, 1) := by decide +kernel
theorem dX2_addWorld_1 : decode cX2_addWorld 1 = .ok (.istore_n 2, 1) := by decide +kernel
theorem dX2_addWorld_2 : decode cX2_addWorld 2 = .ok (.iload_n 2, 1) := by decide +kernel
theorem dX2_addWorld_3 : decode cX2_addWorld 3 = .ok (.sipush 600, 3) := by decide +kernel
theorem dX2_addWorld_6 : decode cX2_addWorld 6 = .ok (.if_icmp .ge 51, 3) := by decide +kernel
theorem dX2_addWorld_9 : decode cX2_addWorld 9 = .ok (.aload_n 0, 1) := by decide +kernel
theorem dX2_addWorld_10 : decode cX2_addWorld 10 = .ok (.getfield 9, 3) := by decide +kernel
theorem dX2_addWorld_13 : decode cX2_addWorld 13 = .ok (.iload_n 2, 1) := by decide +kernel
theorem dX2_addWorld_14 : decode cX2_addWorld 14 = .ok (.iaload, 1) := by decide +kernel
theorem dX2_addWorld_15 : decode cX2_addWorld 15 = .ok (.ldc 27, 2) := by decide +kernel
theorem dX2_addWorld_17 : decode cX2_addWorld 17 = .ok (.if_icmp .eq 34, 3) := by decide +kernel
theorem dX2_addWorld_20 : decode cX2_addWorld 20 = .ok (.aload_n 1, 1) := by decide +kernel
theorem dX2_addWorld_21 : decode cX2_addWorld 21 = .ok (.iload_n 2, 1) := by decide +kernel
theorem dX2_addWorld_22 : decode cX2_addWorld 22 = .ok (.invokevirtual 121, 3) := by decide +kernel
theorem dX2_addWorld_25 : decode cX2_addWorld 25 = .ok (.ifCond .eq 26, 3) := by decide +kernel
theorem dX2_addWorld_28 : decode cX2_addWorld 28 = .ok (.aload_n 0, 1) := by decide +kernel
theorem dX2_addWorld_29 : decode cX2_addWorld 29 = .ok (.getfield 9, 3) := by decide +kernel
theorem dX2_addWorld_32 : decode cX2_addWorld 32 = .ok (.iload_n 2, 1) := by decide +kernel
theorem dX2_addWorld_33 : decode cX2_addWorld 33 = .ok (.sipush (-30000), 3) := by decide +kernel
theorem dX2_addWorld_36 : decode cX2_addWorld 36 = .ok (.aload_n 0, 1) := by decide +kernel
theorem dX2_addWorld_37 : decode cX2_addWorld 37 = .ok (.getfield 9, 3) := by decide +kernel
theorem dX2_addWorld_40 : decode cX2_addWorld 40 = .ok (.iload_n 2, 1) := by decide +kernel
theorem dX2_addWorld_41 : decode cX2_addWorld 41 = .ok (.iaload, 1) := by decide +kernel
theorem dX2_addWorld_42 : decode cX2_addWorld 42 = .ok (.aload_n 1, 1) := by decide +kernel
theorem dX2_addWorld_43 : decode cX2_addWorld 43 = .ok (.getfield 127, 3) := by decide +kernel
theorem dX2_addWorld_46 : decode cX2_addWorld 46 = .ok (.isub, 1) := by decide +kernel
theorem dX2_addWorld_47 : decode cX2_addWorld 47 = .ok (.invokestatic 130, 3) := by decide +kernel
theorem dX2_addWorld_50 : decode cX2_addWorld 50 = .ok (.iastore, 1) := by decide +kernel
theorem dX2_addWorld_51 : decode cX2_addWorld 51 = .ok (.iinc 2 1, 3) := by decide +kernel
theorem dX2_addWorld_54 : decode cX2_addWorld 54 = .ok (.goto (-52), 3) := by decide +kernel
theorem dX2_addWorld_57 : decode cX2_addWorld 57 = .ok (.aload_n 0, 1) := by decide +kernel
theorem dX2_addWorld_58 : decode cX2_addWorld 58 = .ok (.invokevirtual 69, 3) := by decide +kernel
theorem dX2_addWorld_61 : decode cX2_addWorld 61 = .ok (.return_, 1) := by decide +kernel
theorem dX2_cleanRow_0 : decode cX2_cleanRow 0 = .ok (.lconst 0, 1) := by decide +kernel
theorem dX2_cleanRow_1 : decode cX2_cleanRow 1 = .ok (.lstore_n 3, 1) := by decide +kernel
theorem dX2_cleanRow_2 : decode cX2_cleanRow 2 = .ok (.lconst 0, 1) := by decide +kernel
theorem dX2_cleanRow_3 : decode cX2_cleanRow 3 = .ok (.lstore 5, 2) := by decide +kernel
theorem dX2_cleanRow_5 : decode cX2_cleanRow 5 = .ok (.iload_n 2, 1) := by decide +kernel
theorem dX2_cleanRow_6 : decode cX2_cleanRow 6 = .ok (.ineg, 1) := by decide +kernel
theorem dX2_cleanRow_7 : decode cX2_cleanRow 7 = .ok (.istore 7, 2) := by decide +kernel
theorem dX2_cleanRow_9 : decode cX2_cleanRow 9 = .ok (.iload 7, 2) := by decide +kernel
theorem dX2_cleanRow_11 : decode cX2_cleanRow 11 = .ok (.sipush 600, 3) := by decide +kernel
theorem dX2_cleanRow_14 : decode cX2_cleanRow 14 = .ok (.if_icmp .ge 149, 3) := by decide +kernel
theorem dX2_cleanRow_17 : decode cX2_cleanRow 17 = .ok (.iload 7, 2) := by decide +kernel
theorem dX2_cleanRow_19 : decode cX2_cleanRow 19 = .ok (.iload_n 2, 1) := by decide +kernel
theorem dX2_cleanRow_20 : decode cX2_cleanRow 20 = .ok (.iadd, 1) := by decide +kernel
theorem dX2_cleanRow_21 : decode cX2_cleanRow 21 = .ok (.istore 8, 2) := by decide +kernel
theorem dX2_cleanRow_23 : decode cX2_cleanRow 23 = .ok (.iload 7, 2) := by decide +kernel
theorem dX2_cleanRow_25 : decode cX2_cleanRow 25 = .ok (.iload_n 2, 1) := by decide +kernel
theorem dX2_cleanRow_26 : decode cX2_cleanRow 26 = .ok (.isub, 1) := by decide +kernel
theorem dX2_cleanRow_27 : decode cX2_cleanRow 27 = .ok (.iconst 1, 1) := by decide +kernel
theorem dX2_cleanRow_28 : decode cX2_cleanRow 28 = .ok (.isub, 1) := by decide +kernel
theorem dX2_cleanRow_29 : decode cX2_cleanRow 29 = .ok (.istore 9, 2) := by decide +kernel
theorem dX2_cleanRow_31 : decode cX2_cleanRow 31 = .ok (.iload 8, 2) := by decide +kernel
theorem dX2_cleanRow_33 : decode cX2_cleanRow 33 = .ok (.sipush 600, 3) := by decide +kernel
theorem dX2_cleanRow_36 : decode cX2_cleanRow 36 = .ok (.if_icmp .ge 26, 3) := by decide +kernel
theorem dX2_cleanRow_39 : decode cX2_cleanRow 39 = .ok (.aload_n 1, 1) := by decide +kernel
theorem dX2_cleanRow_40 : decode cX2_cleanRow 40 = .ok (.iload 8, 2) := by decide +kernel
theorem dX2_cleanRow_42 : decode cX2_cleanRow 42 = .ok (.iaload, 1) := by decide +kernel
theorem dX2_cleanRow_43 : decode cX2_cleanRow 43 = .ok (.ldc 27, 2) := by decide +kernel
theorem dX2_cleanRow_45 : decode cX2_cleanRow 45 = .ok (.if_icmp .eq 17, 3) := by decide +kernel
theorem dX2_cleanRow_48 : decode cX2_cleanRow 48 = .ok (.lload_n 3, 1) := by decide +kernel
theorem dX2_cleanRow_49 : decode cX2_cleanRow 49 = .ok (.aload_n 1, 1) := by decide +kernel
theorem dX2_cleanRow_50 : decode cX2_cleanRow 50 = .ok (.iload 8, 2) := by decide +kernel
theorem dX2_cleanRow_52 : decode cX2_cleanRow 52 = .ok (.iaload, 1) := by decide +kernel
theorem dX2_cleanRow_53 : decode cX2_cleanRow 53 = .ok (.i2l, 1) := by decide +kernel
theorem dX2_cleanRow_54 : decode cX2_cleanRow 54 = .ok (.ladd, 1) := by decide +kernel
theorem dX2_cleanRow_55 : decode cX2_cleanRow 55 = .ok (.lstore_n 3, 1) := by decide +kernel
theorem dX2_cleanRow_56 : decode cX2_cleanRow 56 = .ok (.lload 5, 2) := by decide +kernel
theorem dX2_cleanRow_58 : decode cX2_cleanRow 58 = .ok (.lconst 1, 1) := by decide +kernel
theorem dX2_cleanRow_59 : decode cX2_cleanRow 59 = .ok (.ladd, 1) := by decide +kernel
theorem dX2_cleanRow_60 : decode cX2_cleanRow 60 = .ok (.lstore 5, 2) := by decide +kernel
theorem dX2_cleanRow_62 : decode cX2_cleanRow 62 = .ok (.iload 9, 2) := by decide +kernel
theorem dX2_cleanRow_64 : decode cX2_cleanRow 64 = .ok (.ifCond .lt 26, 3) := by decide +kernel
theorem dX2_cleanRow_67 : decode cX2_cleanRow 67 = .ok (.aload_n 1, 1) := by decide +kernel
theorem dX2_cleanRow_68 : decode cX2_cleanRow 68 = .ok (.iload 9, 2) := by decide +kernel
theorem dX2_cleanRow_70 : decode cX2_cleanRow 70 = .ok (.iaload, 1) := by decide +kernel
theorem dX2_cleanRow_71 : decode cX2_cleanRow 71 = .ok (.ldc 27, 2) := by decide +kernel
theorem dX2_cleanRow_73 : decode cX2_cleanRow 73 = .ok (.if_icmp .eq 17, 3) := by decide +kernel
theorem dX2_cleanRow_76 : decode cX2_cleanRow 76 = .ok (.lload_n 3, 1) := by decide +kernel
theorem dX2_cleanRow_77 : decode cX2_cleanRow 77 = .ok (.aload_n 1, 1) := by decide +kernel
theorem dX2_cleanRow_78 : decode cX2_cleanRow 78 = .ok (.iload 9, 2) := by decide +kernel
theorem dX2_cleanRow_80 : decode cX2_cleanRow 80 = .ok (.iaload, 1) := by decide +kernel
theorem dX2_cleanRow_81 : decode cX2_cleanRow 81 = .ok (.i2l, 1) := by decide +kernel
theorem dX2_cleanRow_82 : decode cX2_cleanRow 82 = .ok (.lsub, 1) := by decide +kernel
theorem dX2_cleanRow_83 : decode cX2_cleanRow 83 = .ok (.lstore_n 3, 1) := by decide +kernel
theorem dX2_cleanRow_84 : decode cX2_cleanRow 84 = .ok (.lload 5, 2) := by decide +kernel
theorem dX2_cleanRow_86 : decode cX2_cleanRow 86 = .ok (.lconst 1, 1) := by decide +kernel
theorem dX2_cleanRow_87 : decode cX2_cleanRow 87 = .ok (.lsub, 1) := by decide +kernel
theorem dX2_cleanRow_88 : decode cX2_cleanRow 88 = .ok (.lstore 5, 2) := by decide +kernel
theorem dX2_cleanRow_90 : decode cX2_cleanRow 90 = .ok (.iload 7, 2) := by decide +kernel
theorem dX2_cleanRow_92 : decode cX2_cleanRow 92 = .ok (.ifCond .lt 24, 3) := by decide +kernel
theorem dX2_cleanRow_95 : decode cX2_cleanRow 95 = .ok (.aload_n 1, 1) := by decide +kernel
theorem dX2_cleanRow_96 : decode cX2_cleanRow 96 = .ok (.iload 7, 2) := by decide +kernel
theorem dX2_cleanRow_98 : decode cX2_cleanRow 98 = .ok (.iaload, 1) := by decide +kernel
theorem dX2_cleanRow_99 : decode cX2_cleanRow 99 = .ok (.ldc 27, 2) := by decide +kernel
theorem dX2_cleanRow_101 : decode cX2_cleanRow 101 = .ok (.if_icmp .ne 15, 3) := by decide +kernel
theorem dX2_cleanRow_104 : decode cX2_cleanRow 104 = .ok (.aload_n 0, 1) := by decide +kernel
theorem dX2_cleanRow_105 : decode cX2_cleanRow 105 = .ok (.getfield 9, 3) := by decide +kernel
theorem dX2_cleanRow_108 : decode cX2_cleanRow 108 = .ok (.iload 7, 2) := by decide +kernel
theorem dX2_cleanRow_110 : decode cX2_cleanRow 110 = .ok (.ldc 27, 2) := by decide +kernel
theorem dX2_cleanRow_112 : decode cX2_cleanRow 112 = .ok (.iastore, 1) := by decide +kernel
theorem dX2_cleanRow_113 : decode cX2_cleanRow 113 = .ok (.goto 44, 3) := by decide +kernel
theorem dX2_cleanRow_116 : decode cX2_cleanRow 116 = .ok (.iload 7, 2) := by decide +kernel
theorem dX2_cleanRow_118 : decode cX2_cleanRow 118 = .ok (.ifCond .lt 39, 3) := by decide +kernel
theorem dX2_cleanRow_121 : decode cX2_cleanRow 121 = .ok (.lload 5, 2) := by decide +kernel
theorem dX2_cleanRow_123 : decode cX2_cleanRow 123 = .ok (.lconst 0, 1) := by decide +kernel
theorem dX2_cleanRow_124 : decode cX2_cleanRow 124 = .ok (.lcmp, 1) := by decide +kernel
theorem dX2_cleanRow_125 : decode cX2_cleanRow 125 = .ok (.ifCond .le 32, 3) := by decide +kernel
theorem dX2_cleanRow_128 : decode cX2_cleanRow 128 = .ok (.aload_n 0, 1) := by decide +kernel
theorem dX2_cleanRow_129 : decode cX2_cleanRow 129 = .ok (.getfield 9, 3) := by decide +kernel
theorem dX2_cleanRow_132 : decode cX2_cleanRow 132 = .ok (.iload 7, 2) := by decide +kernel
theorem dX2_cleanRow_134 : decode cX2_cleanRow 134 = .ok (.aload_n 1, 1) := by decide +kernel
theorem dX2_cleanRow_135 : decode cX2_cleanRow 135 = .ok (.iload 7, 2) := by decide +kernel
theorem dX2_cleanRow_137 : decode cX2_cleanRow 137 = .ok (.iaload, 1) := by decide +kernel
theorem dX2_cleanRow_138 : decode cX2_cleanRow 138 = .ok (.i2l, 1) := by decide +kernel
theorem dX2_cleanRow_139 : decode cX2_cleanRow 139 = .ok (.lload_n 3, 1) := by decide +kernel
theorem dX2_cleanRow_140 : decode cX2_cleanRow 140 = .ok (.lload 5, 2) := by decide +kernel
theorem dX2_cleanRow_142 : decode cX2_cleanRow 142 = .ok (.invokestatic 75, 3) := by decide +kernel
theorem dX2_cleanRow_145 : decode cX2_cleanRow 145 = .ok (.lsub, 1) := by decide +kernel
theorem dX2_cleanRow_146 : decode cX2_cleanRow 146 = .ok (.ldc2_w 81, 3) := by decide +kernel
theorem dX2_cleanRow_149 : decode cX2_cleanRow 149 = .ok (.ldc2_w 83, 3) := by decide +kernel
theorem dX2_cleanRow_152 : decode cX2_cleanRow 152 = .ok (.invokestatic 85, 3) := by decide +kernel
theorem dX2_cleanRow_155 : decode cX2_cleanRow 155 = .ok (.l2i, 1) := by decide +kernel
theorem dX2_cleanRow_156 : decode cX2_cleanRow 156 = .ok (.iastore, 1) := by decide +kernel
theorem dX2_cleanRow_157 : decode cX2_cleanRow 157 = .ok (.iinc 7 1, 3) := by decide +kernel
theorem dX2_cleanRow_160 : decode cX2_cleanRow 160 = .ok (.goto (-151), 3) := by decide +kernel
theorem dX2_cleanRow_163 : decode cX2_cleanRow 163 = .ok (.return_, 1) := by decide +kernel
theorem dX2_deep_0 : decode cX2_deep 0 = .ok (.aload_n 0, 1) := by decide +kernel
theorem dX2_deep_1 : decode cX2_deep 1 = .ok (.getfield 106, 3) := by decide +kernel
theorem dX2_deep_4 : decode cX2_deep 4 = .ok (.aload_n 0, 1) := by decide +kernel
theorem dX2_deep_5 : decode cX2_deep 5 = .ok (.getfield 136, 3) := by decide +kernel
theorem dX2_deep_8 : decode cX2_deep 8 = .ok (.isub, 1) := by decide +kernel
theorem dX2_deep_9 : decode cX2_deep 9 = .ok (.aload_n 0, 1) := by decide +kernel
theorem dX2_deep_10 : decode cX2_deep 10 = .ok (.getfield 109, 3) := by decide +kernel
theorem dX2_deep_13 : decode cX2_deep 13 = .ok (.aload_n 0, 1) := by decide +kernel
theorem dX2_deep_14 : decode cX2_deep 14 = .ok (.getfield 139, 3) := by decide +kernel
theorem dX2_deep_17 : decode cX2_deep 17 = .ok (.lsub, 1) := by decide +kernel
theorem dX2_deep_18 : decode cX2_deep 18 = .ok (.aload_n 0, 1) := by decide +kernel
theorem dX2_deep_19 : decode cX2_deep 19 = .ok (.getfield 136, 3) := by decide +kernel
theorem dX2_deep_22 : decode cX2_deep 22 = .ok (.aload_n 0, 1) := by decide +kernel
theorem dX2_deep_23 : decode cX2_deep 23 = .ok (.getfield 139, 3) := by decide +kernel
theorem dX2_deep_26 : decode cX2_deep 26 = .ok (.invokestatic 142, 3) := by decide +kernel
theorem dX2_deep_29 : decode cX2_deep 29 = .ok (.lreturn, 1) := by decide +kernel
theorem dX2_dips_0 : decode cX2_dips 0 = .ok (.iload_n 1, 1) := by decide +kernel
theorem dX2_dips_1 : decode cX2_dips 1 = .ok (.iconst 1, 1) := by decide +kernel
theorem dX2_dips_2 : decode cX2_dips 2 = .ok (.if_icmp .ge 5, 3) := by decide +kernel
theorem dX2_dips_5 : decode cX2_dips 5 = .ok (.iconst 0, 1) := by decide +kernel
theorem dX2_dips_6 : decode cX2_dips 6 = .ok (.ireturn, 1) := by decide +kernel
theorem dX2_dips_7 : decode cX2_dips 7 = .ok (.iconst 0, 1) := by decide +kernel
theorem dX2_dips_8 : decode cX2_dips 8 = .ok (.istore 4, 2) := by decide +kernel
theorem dX2_dips_10 : decode cX2_dips 10 = .ok (.iload_n 3, 1) := by decide +kernel
theorem dX2_dips_11 : decode cX2_dips 11 = .ok (.iload_n 1, 1) := by decide +kernel
theorem dX2_dips_12 : decode cX2_dips 12 = .ok (.isub, 1) := by decide +kernel
theorem dX2_dips_13 : decode cX2_dips 13 = .ok (.istore 5, 2) := by decide +kernel
theorem dX2_dips_15 : decode cX2_dips 15 = .ok (.iload 5, 2) := by decide +kernel
theorem dX2_dips_17 : decode cX2_dips 17 = .ok (.sipush 600, 3) := by decide +kernel
theorem dX2_dips_20 : decode cX2_dips 20 = .ok (.if_icmp .ge 32, 3) := by decide +kernel
theorem dX2_dips_23 : decode cX2_dips 23 = .ok (.iload 4, 2) := by decide +kernel
theorem dX2_dips_25 : decode cX2_dips 25 = .ok (.aload_n 0, 1) := by decide +kernel
theorem dX2_dips_26 : decode cX2_dips 26 = .ok (.iload 5, 2) := by decide +kernel
theorem dX2_dips_28 : decode cX2_dips 28 = .ok (.iload_n 2, 1) := by decide +kernel
theorem dX2_dips_29 : decode cX2_dips 29 = .ok (.invokevirtual 146, 3) := by decide +kernel
theorem dX2_dips_32 : decode cX2_dips 32 = .ok (.ifCond .eq 7, 3) := by decide +kernel
theorem dX2_dips_35 : decode cX2_dips 35 = .ok (.iconst 1, 1) := by decide +kernel
theorem dX2_dips_36 : decode cX2_dips 36 = .ok (.goto 4, 3) := by decide +kernel
theorem dX2_dips_39 : decode cX2_dips 39 = .ok (.iconst 0, 1) := by decide +kernel
theorem dX2_dips_40 : decode cX2_dips 40 = .ok (.iadd, 1) := by decide +kernel
theorem dX2_dips_41 : decode cX2_dips 41 = .ok (.istore 4, 2) := by decide +kernel
theorem dX2_dips_43 : decode cX2_dips 43 = .ok (.iload 5, 2) := by decide +kernel
theorem dX2_dips_45 : decode cX2_dips 45 = .ok (.iload_n 1, 1) := by decide +kernel
theorem dX2_dips_46 : decode cX2_dips 46 = .ok (.iadd, 1) := by decide +kernel
theorem dX2_dips_47 : decode cX2_dips 47 = .ok (.istore 5, 2) := by decide +kernel
theorem dX2_dips_49 : decode cX2_dips 49 = .ok (.goto (-34), 3) := by decide +kernel
theorem dX2_dips_52 : decode cX2_dips 52 = .ok (.iload 4, 2) := by decide +kernel
theorem dX2_dips_54 : decode cX2_dips 54 = .ok (.ireturn, 1) := by decide +kernel
theorem dX2_dropDips_0 : decode cX2_dropDips 0 = .ok (.iconst 0, 1) := by decide +kernel
theorem dX2_dropDips_1 : decode cX2_dropDips 1 = .ok (.istore 4, 2) := by decide +kernel
theorem dX2_dropDips_3 : decode cX2_dropDips 3 = .ok (.iload 4, 2) := by decide +kernel
theorem dX2_dropDips_5 : decode cX2_dropDips 5 = .ok (.sipush 600, 3) := by decide +kernel
theorem dX2_dropDips_8 : decode cX2_dropDips 8 = .ok (.if_icmp .ge 34, 3) := by decide +kernel
theorem dX2_dropDips_11 : decode cX2_dropDips 11 = .ok (.iload_n 1, 1) := by decide +kernel
theorem dX2_dropDips_12 : decode cX2_dropDips 12 = .ok (.ifCond .le 24, 3) := by decide +kernel
theorem dX2_dropDips_15 : decode cX2_dropDips 15 = .ok (.iload 4, 2) := by decide +kernel
theorem dX2_dropDips_17 : decode cX2_dropDips 17 = .ok (.iload_n 3, 1) := by decide +kernel
theorem dX2_dropDips_18 : decode cX2_dropDips 18 = .ok (.isub, 1) := by decide +kernel
theorem dX2_dropDips_19 : decode cX2_dropDips 19 = .ok (.iload_n 1, 1) := by decide +kernel
theorem dX2_dropDips_20 : decode cX2_dropDips 20 = .ok (.invokestatic 133, 3) := by decide +kernel
theorem dX2_dropDips_23 : decode cX2_dropDips 23 = .ok (.iload_n 2, 1) := by decide +kernel
theorem dX2_dropDips_24 : decode cX2_dropDips 24 = .ok (.if_icmp .ge 12, 3) := by decide +kernel
theorem dX2_dropDips_27 : decode cX2_dropDips 27 = .ok (.aload_n 0, 1) := by decide +kernel
theorem dX2_dropDips_28 : decode cX2_dropDips 28 = .ok (.getfield 9, 3) := by decide +kernel
theorem dX2_dropDips_31 : decode cX2_dropDips 31 = .ok (.iload 4, 2) := by decide +kernel
theorem dX2_dropDips_33 : decode cX2_dropDips 33 = .ok (.ldc 27, 2) := by decide +kernel
theorem dX2_dropDips_35 : decode cX2_dropDips 35 = .ok (.iastore, 1) := by decide +kernel
theorem dX2_dropDips_36 : decode cX2_dropDips 36 = .ok (.iinc 4 1, 3) := by decide +kernel
theorem dX2_dropDips_39 : decode cX2_dropDips 39 = .ok (.goto (-36), 3) := by decide +kernel
theorem dX2_dropDips_42 : decode cX2_dropDips 42 = .ok (.aload_n 0, 1) := by decide +kernel
theorem dX2_dropDips_43 : decode cX2_dropDips 43 = .ok (.invokevirtual 69, 3) := by decide +kernel
theorem dX2_dropDips_46 : decode cX2_dropDips 46 = .ok (.return_, 1) := by decide +kernel
theorem dX2_dropMasked_0 : decode cX2_dropMasked 0 = .ok (.iload_n 2, 1) := by decide +kernel
theorem dX2_dropMasked_1 : decode cX2_dropMasked 1 = .ok (.ifCond .lt 18, 3) := by decide +kernel
theorem dX2_dropMasked_4 : decode cX2_dropMasked 4 = .ok (.iload_n 2, 1) := by decide +kernel
theorem dX2_dropMasked_5 : decode cX2_dropMasked 5 = .ok (.bipush 8, 2) := by decide +kernel
theorem dX2_dropMasked_7 : decode cX2_dropMasked 7 = .ok (.if_icmp .ge 12, 3) := by decide +kernel
theorem dX2_dropMasked_10 : decode cX2_dropMasked 10 = .ok (.aload_n 1, 1) := by decide +kernel
theorem dX2_dropMasked_11 : decode cX2_dropMasked 11 = .ok (.getfield 89, 3) := by decide +kernel
theorem dX2_dropMasked_14 : decode cX2_dropMasked 14 = .ok (.iload_n 2, 1) := by decide +kernel
theorem dX2_dropMasked_15 : decode cX2_dropMasked 15 = .ok (.iaload, 1) := by decide +kernel
theorem dX2_dropMasked_16 : decode cX2_dropMasked 16 = .ok (.ifCond .ne 4, 3) := by decide +kernel
theorem dX2_dropMasked_19 : decode cX2_dropMasked 19 = .ok (.return_, 1) := by decide +kernel
theorem dX2_dropMasked_20 : decode cX2_dropMasked 20 = .ok (.aload_n 0, 1) := by decide +kernel
theorem dX2_dropMasked_21 : decode cX2_dropMasked 21 = .ok (.getfield 18, 3) := by decide +kernel
theorem dX2_dropMasked_24 : decode cX2_dropMasked 24 = .ok (.iconst 0, 1) := by decide +kernel
theorem dX2_dropMasked_25 : decode cX2_dropMasked 25 = .ok (.invokestatic 28, 3) := by decide +kernel
theorem dX2_dropMasked_28 : decode cX2_dropMasked 28 = .ok (.iconst 0, 1) := by decide +kernel
theorem dX2_dropMasked_29 : decode cX2_dropMasked 29 = .ok (.istore_n 3, 1) := by decide +kernel
theorem dX2_dropMasked_30 : decode cX2_dropMasked 30 = .ok (.iload_n 3, 1) := by decide +kernel
theorem dX2_dropMasked_31 : decode cX2_dropMasked 31 = .ok (.aload_n 1, 1) := by decide +kernel
theorem dX2_dropMasked_32 : decode cX2_dropMasked 32 = .ok (.getfield 92, 3) := by decide +kernel
theorem dX2_dropMasked_35 : decode cX2_dropMasked 35 = .ok (.if_icmp .ge 52, 3) := by decide +kernel
theorem dX2_dropMasked_38 : decode cX2_dropMasked 38 = .ok (.aload_n 1, 1) := by decide +kernel
theorem dX2_dropMasked_39 : decode cX2_dropMasked 39 = .ok (.iload_n 3, 1) := by decide +kernel
theorem dX2_dropMasked_40 : decode cX2_dropMasked 40 = .ok (.invokevirtual 21, 3) := by decide +kernel
theorem dX2_dropMasked_43 : decode cX2_dropMasked 43 = .ok (.astore 4, 2) := by decide +kernel
theorem dX2_dropMasked_45 : decode cX2_dropMasked 45 = .ok (.aload 4, 2) := by decide +kernel
theorem dX2_dropMasked_47 : decode cX2_dropMasked 47 = .ok (.ifnull 34, 3) := by decide +kernel
theorem dX2_dropMasked_50 : decode cX2_dropMasked 50 = .ok (.aload 4, 2) := by decide +kernel
theorem dX2_dropMasked_52 : decode cX2_dropMasked 52 = .ok (.getfield 62, 3) := by decide +kernel
theorem dX2_dropMasked_55 : decode cX2_dropMasked 55 = .ok (.iload_n 2, 1) := by decide +kernel
theorem dX2_dropMasked_56 : decode cX2_dropMasked 56 = .ok (.if_icmp .ne 25, 3) := by decide +kernel
theorem dX2_dropMasked_59 : decode cX2_dropMasked 59 = .ok (.aload_n 0, 1) := by decide +kernel
theorem dX2_dropMasked_60 : decode cX2_dropMasked 60 = .ok (.aload 4, 2) := by decide +kernel
theorem dX2_dropMasked_62 : decode cX2_dropMasked 62 = .ok (.getfield 34, 3) := by decide +kernel
theorem dX2_dropMasked_65 : decode cX2_dropMasked 65 = .ok (.aload 4, 2) := by decide +kernel
theorem dX2_dropMasked_67 : decode cX2_dropMasked 67 = .ok (.invokevirtual 95, 3) := by decide +kernel
theorem dX2_dropMasked_70 : decode cX2_dropMasked 70 = .ok (.aload_n 1, 1) := by decide +kernel
theorem dX2_dropMasked_71 : decode cX2_dropMasked 71 = .ok (.getfield 99, 3) := by decide +kernel
theorem dX2_dropMasked_74 : decode cX2_dropMasked 74 = .ok (.iload_n 2, 1) := by decide +kernel
theorem dX2_dropMasked_75 : decode cX2_dropMasked 75 = .ok (.iaload, 1) := by decide +kernel
theorem dX2_dropMasked_76 : decode cX2_dropMasked 76 = .ok (.i2l, 1) := by decide +kernel
theorem dX2_dropMasked_77 : decode cX2_dropMasked 77 = .ok (.lsub, 1) := by decide +kernel
theorem dX2_dropMasked_78 : decode cX2_dropMasked 78 = .ok (.invokevirtual 102, 3) := by decide +kernel
theorem dX2_dropMasked_81 : decode cX2_dropMasked 81 = .ok (.iinc 3 1, 3) := by decide +kernel
theorem dX2_dropMasked_84 : decode cX2_dropMasked 84 = .ok (.goto (-54), 3) := by decide +kernel
theorem dX2_dropMasked_87 : decode cX2_dropMasked 87 = .ok (.iconst 0, 1) := by decide +kernel
theorem dX2_dropMasked_88 : decode cX2_dropMasked 88 = .ok (.istore_n 3, 1) := by decide +kernel
theorem dX2_dropMasked_89 : decode cX2_dropMasked 89 = .ok (.iload_n 3, 1) := by decide +kernel
theorem dX2_dropMasked_90 : decode cX2_dropMasked 90 = .ok (.sipush 600, 3) := by decide +kernel
theorem dX2_dropMasked_93 : decode cX2_dropMasked 93 = .ok (.if_icmp .ge 32, 3) := by decide +kernel
theorem dX2_dropMasked_96 : decode cX2_dropMasked 96 = .ok (.aload_n 0, 1) := by decide +kernel
theorem dX2_dropMasked_97 : decode cX2_dropMasked 97 = .ok (.getfield 18, 3) := by decide +kernel
theorem dX2_dropMasked_100 : decode cX2_dropMasked 100 = .ok (.iload_n 3, 1) := by decide +kernel
theorem dX2_dropMasked_101 : decode cX2_dropMasked 101 = .ok (.iaload, 1) := by decide +kernel
theorem dX2_dropMasked_102 : decode cX2_dropMasked 102 = .ok (.aload_n 1, 1) := by decide +kernel
theorem dX2_dropMasked_103 : decode cX2_dropMasked 103 = .ok (.getfield 89, 3) := by decide +kernel
theorem dX2_dropMasked_106 : decode cX2_dropMasked 106 = .ok (.iload_n 2, 1) := by decide +kernel
theorem dX2_dropMasked_107 : decode cX2_dropMasked 107 = .ok (.iaload, 1) := by decide +kernel
theorem dX2_dropMasked_108 : decode cX2_dropMasked 108 = .ok (.if_icmp .lt 11, 3) := by decide +kernel
theorem dX2_dropMasked_111 : decode cX2_dropMasked 111 = .ok (.aload_n 0, 1) := by decide +kernel
theorem dX2_dropMasked_112 : decode cX2_dropMasked 112 = .ok (.getfield 9, 3) := by decide +kernel
theorem dX2_dropMasked_115 : decode cX2_dropMasked 115 = .ok (.iload_n 3, 1) := by decide +kernel
theorem dX2_dropMasked_116 : decode cX2_dropMasked 116 = .ok (.ldc 27, 2) := by decide +kernel
theorem dX2_dropMasked_118 : decode cX2_dropMasked 118 = .ok (.iastore, 1) := by decide +kernel
theorem dX2_dropMasked_119 : decode cX2_dropMasked 119 = .ok (.iinc 3 1, 3) := by decide +kernel
theorem dX2_dropMasked_122 : decode cX2_dropMasked 122 = .ok (.goto (-33), 3) := by decide +kernel
theorem dX2_dropMasked_125 : decode cX2_dropMasked 125 = .ok (.return_, 1) := by decide +kernel
theorem dX2_hasNumber_0 : decode cX2_hasNumber 0 = .ok (.iload_n 1, 1) := by decide +kernel
theorem dX2_hasNumber_1 : decode cX2_hasNumber 1 = .ok (.istore_n 3, 1) := by decide +kernel
theorem dX2_hasNumber_2 : decode cX2_hasNumber 2 = .ok (.iload_n 3, 1) := by decide +kernel
theorem dX2_hasNumber_3 : decode cX2_hasNumber 3 = .ok (.iload_n 1, 1) := by decide +kernel
theorem dX2_hasNumber_4 : decode cX2_hasNumber 4 = .ok (.iload_n 2, 1) := by decide +kernel
theorem dX2_hasNumber_5 : decode cX2_hasNumber 5 = .ok (.iadd, 1) := by decide +kernel
theorem dX2_hasNumber_6 : decode cX2_hasNumber 6 = .ok (.if_icmp .ge 33, 3) := by decide +kernel
theorem dX2_hasNumber_9 : decode cX2_hasNumber 9 = .ok (.iload_n 3, 1) := by decide +kernel
theorem dX2_hasNumber_10 : decode cX2_hasNumber 10 = .ok (.ifCond .lt 23, 3) := by decide +kernel
theorem dX2_hasNumber_13 : decode cX2_hasNumber 13 = .ok (.iload_n 3, 1) := by decide +kernel
theorem dX2_hasNumber_14 : decode cX2_hasNumber 14 = .ok (.sipush 600, 3) := by decide +kernel
theorem dX2_hasNumber_17 : decode cX2_hasNumber 17 = .ok (.if_icmp .ge 16, 3) := by decide +kernel
theorem dX2_hasNumber_20 : decode cX2_hasNumber 20 = .ok (.aload_n 0, 1) := by decide +kernel
theorem dX2_hasNumber_21 : decode cX2_hasNumber 21 = .ok (.getfield 9, 3) := by decide +kernel
theorem dX2_hasNumber_24 : decode cX2_hasNumber 24 = .ok (.iload_n 3, 1) := by decide +kernel
theorem dX2_hasNumber_25 : decode cX2_hasNumber 25 = .ok (.iaload, 1) := by decide +kernel
theorem dX2_hasNumber_26 : decode cX2_hasNumber 26 = .ok (.ldc 27, 2) := by decide +kernel
theorem dX2_hasNumber_28 : decode cX2_hasNumber 28 = .ok (.if_icmp .eq 5, 3) := by decide +kernel
theorem dX2_hasNumber_31 : decode cX2_hasNumber 31 = .ok (.iconst 1, 1) := by decide +kernel
theorem dX2_hasNumber_32 : decode cX2_hasNumber 32 = .ok (.ireturn, 1) := by decide +kernel
theorem dX2_hasNumber_33 : decode cX2_hasNumber 33 = .ok (.iinc 3 1, 3) := by decide +kernel
theorem dX2_hasNumber_36 : decode cX2_hasNumber 36 = .ok (.goto (-34), 3) := by decide +kernel
theorem dX2_hasNumber_39 : decode cX2_hasNumber 39 = .ok (.iconst 0, 1) := by decide +kernel
theorem dX2_hasNumber_40 : decode cX2_hasNumber 40 = .ok (.ireturn, 1) := by decide +kernel
theorem dX2_markLow_0 : decode cX2_markLow 0 = .ok (.iconst 0, 1) := by decide +kernel
theorem dX2_markLow_1 : decode cX2_markLow 1 = .ok (.istore 4, 2) := by decide +kernel
theorem dX2_markLow_3 : decode cX2_markLow 3 = .ok (.iload 4, 2) := by decide +kernel
theorem dX2_markLow_5 : decode cX2_markLow 5 = .ok (.sipush 600, 3) := by decide +kernel
theorem dX2_markLow_8 : decode cX2_markLow 8 = .ok (.if_icmp .ge 39, 3) := by decide +kernel
theorem dX2_markLow_11 : decode cX2_markLow 11 = .ok (.aload_n 1, 1) := by decide +kernel
theorem dX2_markLow_12 : decode cX2_markLow 12 = .ok (.iload 4, 2) := by decide +kernel
theorem dX2_markLow_14 : decode cX2_markLow 14 = .ok (.iaload, 1) := by decide +kernel
theorem dX2_markLow_15 : decode cX2_markLow 15 = .ok (.ldc 27, 2) := by decide +kernel
theorem dX2_markLow_17 : decode cX2_markLow 17 = .ok (.if_icmp .eq 24, 3) := by decide +kernel
theorem dX2_markLow_20 : decode cX2_markLow 20 = .ok (.aload_n 1, 1) := by decide +kernel
theorem dX2_markLow_21 : decode cX2_markLow 21 = .ok (.iload 4, 2) := by decide +kernel
theorem dX2_markLow_23 : decode cX2_markLow 23 = .ok (.iaload, 1) := by decide +kernel
theorem dX2_markLow_24 : decode cX2_markLow 24 = .ok (.i2l, 1) := by decide +kernel
theorem dX2_markLow_25 : decode cX2_markLow 25 = .ok (.lload_n 2, 1) := by decide +kernel
theorem dX2_markLow_26 : decode cX2_markLow 26 = .ok (.lcmp, 1) := by decide +kernel
theorem dX2_markLow_27 : decode cX2_markLow 27 = .ok (.ifCond .ge 14, 3) := by decide +kernel
theorem dX2_markLow_30 : decode cX2_markLow 30 = .ok (.aload_n 0, 1) := by decide +kernel
theorem dX2_markLow_31 : decode cX2_markLow 31 = .ok (.getfield 18, 3) := by decide +kernel
theorem dX2_markLow_34 : decode cX2_markLow 34 = .ok (.iload 4, 2) := by decide +kernel
theorem dX2_markLow_36 : decode cX2_markLow 36 = .ok (.dup2, 1) := by decide +kernel
theorem dX2_markLow_37 : decode cX2_markLow 37 = .ok (.iaload, 1) := by decide +kernel
theorem dX2_markLow_38 : decode cX2_markLow 38 = .ok (.iconst 1, 1) := by decide +kernel
theorem dX2_markLow_39 : decode cX2_markLow 39 = .ok (.iadd, 1) := by decide +kernel
theorem dX2_markLow_40 : decode cX2_markLow 40 = .ok (.iastore, 1) := by decide +kernel
theorem dX2_markLow_41 : decode cX2_markLow 41 = .ok (.iinc 4 1, 3) := by decide +kernel
theorem dX2_markLow_44 : decode cX2_markLow 44 = .ok (.goto (-41), 3) := by decide +kernel
theorem dX2_markLow_47 : decode cX2_markLow 47 = .ok (.return_, 1) := by decide +kernel
theorem dX2_measure_0 : decode cX2_measure 0 = .ok (.lconst 0, 1) := by decide +kernel
theorem dX2_measure_1 : decode cX2_measure 1 = .ok (.lstore_n 1, 1) := by decide +kernel
theorem dX2_measure_2 : decode cX2_measure 2 = .ok (.aload_n 0, 1) := by decide +kernel
theorem dX2_measure_3 : decode cX2_measure 3 = .ok (.iconst 0, 1) := by decide +kernel
theorem dX2_measure_4 : decode cX2_measure 4 = .ok (.putfield 106, 3) := by decide +kernel
theorem dX2_measure_7 : decode cX2_measure 7 = .ok (.aload_n 0, 1) := by decide +kernel
theorem dX2_measure_8 : decode cX2_measure 8 = .ok (.lconst 0, 1) := by decide +kernel
theorem dX2_measure_9 : decode cX2_measure 9 = .ok (.putfield 109, 3) := by decide +kernel
theorem dX2_measure_12 : decode cX2_measure 12 = .ok (.iconst 0, 1) := by decide +kernel
theorem dX2_measure_13 : decode cX2_measure 13 = .ok (.istore_n 3, 1) := by decide +kernel
theorem dX2_measure_14 : decode cX2_measure 14 = .ok (.iload_n 3, 1) := by decide +kernel
theorem dX2_measure_15 : decode cX2_measure 15 = .ok (.sipush 600, 3) := by decide +kernel
theorem dX2_measure_18 : decode cX2_measure 18 = .ok (.if_icmp .ge 66, 3) := by decide +kernel
theorem dX2_measure_21 : decode cX2_measure 21 = .ok (.aload_n 0, 1) := by decide +kernel
theorem dX2_measure_22 : decode cX2_measure 22 = .ok (.getfield 9, 3) := by decide +kernel
theorem dX2_measure_25 : decode cX2_measure 25 = .ok (.iload_n 3, 1) := by decide +kernel
theorem dX2_measure_26 : decode cX2_measure 26 = .ok (.iaload, 1) := by decide +kernel
theorem dX2_measure_27 : decode cX2_measure 27 = .ok (.i2l, 1) := by decide +kernel
theorem dX2_measure_28 : decode cX2_measure 28 = .ok (.lstore 4, 2) := by decide +kernel
theorem dX2_measure_30 : decode cX2_measure 30 = .ok (.lload 4, 2) := by decide +kernel
theorem dX2_measure_32 : decode cX2_measure 32 = .ok (.ldc2_w 113, 3) := by decide +kernel
theorem dX2_measure_35 : decode cX2_measure 35 = .ok (.lcmp, 1) := by decide +kernel
theorem dX2_measure_36 : decode cX2_measure 36 = .ok (.ifCond .eq 42, 3) := by decide +kernel
theorem dX2_measure_39 : decode cX2_measure 39 = .ok (.aload_n 0, 1) := by decide +kernel
theorem dX2_measure_40 : decode cX2_measure 40 = .ok (.getfield 15, 3) := by decide +kernel
theorem dX2_measure_43 : decode cX2_measure 43 = .ok (.aload_n 0, 1) := by decide +kernel
theorem dX2_measure_44 : decode cX2_measure 44 = .ok (.getfield 106, 3) := by decide +kernel
theorem dX2_measure_47 : decode cX2_measure 47 = .ok (.iload_n 3, 1) := by decide +kernel
theorem dX2_measure_48 : decode cX2_measure 48 = .ok (.iastore, 1) := by decide +kernel
theorem dX2_measure_49 : decode cX2_measure 49 = .ok (.aload_n 0, 1) := by decide +kernel
theorem dX2_measure_50 : decode cX2_measure 50 = .ok (.dup, 1) := by decide +kernel
theorem dX2_measure_51 : decode cX2_measure 51 = .ok (.getfield 106, 3) := by decide +kernel
theorem dX2_measure_54 : decode cX2_measure 54 = .ok (.iconst 1, 1) := by decide +kernel
theorem dX2_measure_55 : decode cX2_measure 55 = .ok (.iadd, 1) := by decide +kernel
theorem dX2_measure_56 : decode cX2_measure 56 = .ok (.putfield 106, 3) := by decide +kernel
theorem dX2_measure_59 : decode cX2_measure 59 = .ok (.aload_n 0, 1) := by decide +kernel
theorem dX2_measure_60 : decode cX2_measure 60 = .ok (.dup, 1) := by decide +kernel
theorem dX2_measure_61 : decode cX2_measure 61 = .ok (.getfield 109, 3) := by decide +kernel
theorem dX2_measure_64 : decode cX2_measure 64 = .ok (.lload 4, 2) := by decide +kernel
theorem dX2_measure_66 : decode cX2_measure 66 = .ok (.ladd, 1) := by decide +kernel
theorem dX2_measure_67 : decode cX2_measure 67 = .ok (.putfield 109, 3) := by decide +kernel
theorem dX2_measure_70 : decode cX2_measure 70 = .ok (.lload_n 1, 1) := by decide +kernel
theorem dX2_measure_71 : decode cX2_measure 71 = .ok (.lload 4, 2) := by decide +kernel
theorem dX2_measure_73 : decode cX2_measure 73 = .ok (.lload 4, 2) := by decide +kernel
theorem dX2_measure_75 : decode cX2_measure 75 = .ok (.lmul, 1) := by decide +kernel
theorem dX2_measure_76 : decode cX2_measure 76 = .ok (.ladd, 1) := by decide +kernel
theorem dX2_measure_77 : decode cX2_measure 77 = .ok (.lstore_n 1, 1) := by decide +kernel
theorem dX2_measure_78 : decode cX2_measure 78 = .ok (.iinc 3 1, 3) := by decide +kernel
theorem dX2_measure_81 : decode cX2_measure 81 = .ok (.goto (-67), 3) := by decide +kernel
theorem dX2_measure_84 : decode cX2_measure 84 = .ok (.aload_n 0, 1) := by decide +kernel
theorem dX2_measure_85 : decode cX2_measure 85 = .ok (.getfield 106, 3) := by decide +kernel
theorem dX2_measure_88 : decode cX2_measure 88 = .ok (.i2l, 1) := by decide +kernel
theorem dX2_measure_89 : decode cX2_measure 89 = .ok (.aload_n 0, 1) := by decide +kernel
theorem dX2_measure_90 : decode cX2_measure 90 = .ok (.getfield 106, 3) := by decide +kernel
theorem dX2_measure_93 : decode cX2_measure 93 = .ok (.i2l, 1) := by decide +kernel
theorem dX2_measure_94 : decode cX2_measure 94 = .ok (.lmul, 1) := by decide +kernel
theorem dX2_measure_95 : decode cX2_measure 95 = .ok (.lstore_n 3, 1) := by decide +kernel
theorem dX2_measure_96 : decode cX2_measure 96 = .ok (.aload_n 0, 1) := by decide +kernel
theorem dX2_measure_97 : decode cX2_measure 97 = .ok (.lload_n 3, 1) := by decide +kernel
theorem dX2_measure_98 : decode cX2_measure 98 = .ok (.lconst 0, 1) := by decide +kernel
theorem dX2_measure_99 : decode cX2_measure 99 = .ok (.lcmp, 1) := by decide +kernel
theorem dX2_measure_100 : decode cX2_measure 100 = .ok (.ifCond .ne 7, 3) := by decide +kernel
theorem dX2_measure_103 : decode cX2_measure 103 = .ok (.lconst 1, 1) := by decide +kernel
theorem dX2_measure_104 : decode cX2_measure 104 = .ok (.goto 26, 3) := by decide +kernel
theorem dX2_measure_107 : decode cX2_measure 107 = .ok (.lconst 1, 1) := by decide +kernel
theorem dX2_measure_108 : decode cX2_measure 108 = .ok (.aload_n 0, 1) := by decide +kernel
theorem dX2_measure_109 : decode cX2_measure 109 = .ok (.getfield 106, 3) := by decide +kernel
theorem dX2_measure_112 : decode cX2_measure 112 = .ok (.i2l, 1) := by decide +kernel
theorem dX2_measure_113 : decode cX2_measure 113 = .ok (.lload_n 1, 1) := by decide +kernel
theorem dX2_measure_114 : decode cX2_measure 114 = .ok (.lmul, 1) := by decide +kernel
theorem dX2_measure_115 : decode cX2_measure 115 = .ok (.aload_n 0, 1) := by decide +kernel
theorem dX2_measure_116 : decode cX2_measure 116 = .ok (.getfield 109, 3) := by decide +kernel
theorem dX2_measure_119 : decode cX2_measure 119 = .ok (.aload_n 0, 1) := by decide +kernel
theorem dX2_measure_120 : decode cX2_measure 120 = .ok (.getfield 109, 3) := by decide +kernel
theorem dX2_measure_123 : decode cX2_measure 123 = .ok (.lmul, 1) := by decide +kernel
theorem dX2_measure_124 : decode cX2_measure 124 = .ok (.lsub, 1) := by decide +kernel
theorem dX2_measure_125 : decode cX2_measure 125 = .ok (.lload_n 3, 1) := by decide +kernel
theorem dX2_measure_126 : decode cX2_measure 126 = .ok (.ldiv, 1) := by decide +kernel
theorem dX2_measure_127 : decode cX2_measure 127 = .ok (.invokestatic 115, 3) := by decide +kernel
theorem dX2_measure_130 : decode cX2_measure 130 = .ok (.putfield 118, 3) := by decide +kernel
theorem dX2_measure_133 : decode cX2_measure 133 = .ok (.return_, 1) := by decide +kernel
theorem dX2_moveSeasons_0 : decode cX2_moveSeasons 0 = .ok (.iconst 0, 1) := by decide +kernel
theorem dX2_moveSeasons_1 : decode cX2_moveSeasons 1 = .ok (.istore_n 3, 1) := by decide +kernel
theorem dX2_moveSeasons_2 : decode cX2_moveSeasons 2 = .ok (.iload_n 3, 1) := by decide +kernel
theorem dX2_moveSeasons_3 : decode cX2_moveSeasons 3 = .ok (.iconst 4, 1) := by decide +kernel
theorem dX2_moveSeasons_4 : decode cX2_moveSeasons 4 = .ok (.if_icmp .ge 56, 3) := by decide +kernel
theorem dX2_moveSeasons_7 : decode cX2_moveSeasons 7 = .ok (.iload_n 2, 1) := by decide +kernel
theorem dX2_moveSeasons_8 : decode cX2_moveSeasons 8 = .ok (.iconst 4, 1) := by decide +kernel
theorem dX2_moveSeasons_9 : decode cX2_moveSeasons 9 = .ok (.imul, 1) := by decide +kernel
theorem dX2_moveSeasons_10 : decode cX2_moveSeasons 10 = .ok (.iload_n 3, 1) := by decide +kernel
theorem dX2_moveSeasons_11 : decode cX2_moveSeasons 11 = .ok (.iadd, 1) := by decide +kernel
theorem dX2_moveSeasons_12 : decode cX2_moveSeasons 12 = .ok (.istore 4, 2) := by decide +kernel
theorem dX2_moveSeasons_14 : decode cX2_moveSeasons 14 = .ok (.iload 4, 2) := by decide +kernel
theorem dX2_moveSeasons_16 : decode cX2_moveSeasons 16 = .ok (.ifCond .lt 38, 3) := by decide +kernel
theorem dX2_moveSeasons_19 : decode cX2_moveSeasons 19 = .ok (.iload 4, 2) := by decide +kernel
theorem dX2_moveSeasons_21 : decode cX2_moveSeasons 21 = .ok (.getstatic 72, 3) := by decide +kernel
theorem dX2_moveSeasons_24 : decode cX2_moveSeasons 24 = .ok (.arraylength, 1) := by decide +kernel
theorem dX2_moveSeasons_25 : decode cX2_moveSeasons 25 = .ok (.if_icmp .ge 29, 3) := by decide +kernel
theorem dX2_moveSeasons_28 : decode cX2_moveSeasons 28 = .ok (.aload_n 1, 1) := by decide +kernel
theorem dX2_moveSeasons_29 : decode cX2_moveSeasons 29 = .ok (.getstatic 72, 3) := by decide +kernel
theorem dX2_moveSeasons_32 : decode cX2_moveSeasons 32 = .ok (.iload 4, 2) := by decide +kernel
