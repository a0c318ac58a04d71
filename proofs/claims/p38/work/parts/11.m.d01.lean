theorem dX11_seasonAt_50 : decode cX11_seasonAt 50 = .ok (.ishr, 1) := by decide +kernel
theorem dX11_seasonAt_51 : decode cX11_seasonAt 51 = .ok (.iconst 1, 1) := by decide +kernel
theorem dX11_seasonAt_52 : decode cX11_seasonAt 52 = .ok (.iand, 1) := by decide +kernel
theorem dX11_seasonAt_53 : decode cX11_seasonAt 53 = .ok (.ifCond .eq 8, 3) := by decide +kernel
theorem dX11_seasonAt_56 : decode cX11_seasonAt 56 = .ok (.iload 7, 2) := by decide +kernel
theorem dX11_seasonAt_58 : decode cX11_seasonAt 58 = .ok (.ifCond .le 20, 3) := by decide +kernel
theorem dX11_seasonAt_61 : decode cX11_seasonAt 61 = .ok (.iload 7, 2) := by decide +kernel
theorem dX11_seasonAt_63 : decode cX11_seasonAt 63 = .ok (.iload_n 3, 1) := by decide +kernel
theorem dX11_seasonAt_64 : decode cX11_seasonAt 64 = .ok (.iload 5, 2) := by decide +kernel
theorem dX11_seasonAt_66 : decode cX11_seasonAt 66 = .ok (.ishr, 1) := by decide +kernel
theorem dX11_seasonAt_67 : decode cX11_seasonAt 67 = .ok (.iconst 1, 1) := by decide +kernel
theorem dX11_seasonAt_68 : decode cX11_seasonAt 68 = .ok (.iand, 1) := by decide +kernel
theorem dX11_seasonAt_69 : decode cX11_seasonAt 69 = .ok (.isub, 1) := by decide +kernel
theorem dX11_seasonAt_70 : decode cX11_seasonAt 70 = .ok (.istore 7, 2) := by decide +kernel
theorem dX11_seasonAt_72 : decode cX11_seasonAt 72 = .ok (.iinc 5 1, 3) := by decide +kernel
theorem dX11_seasonAt_75 : decode cX11_seasonAt 75 = .ok (.goto (-28), 3) := by decide +kernel
theorem dX11_seasonAt_78 : decode cX11_seasonAt 78 = .ok (.iload_n 3, 1) := by decide +kernel
theorem dX11_seasonAt_79 : decode cX11_seasonAt 79 = .ok (.iconst 1, 1) := by decide +kernel
theorem dX11_seasonAt_80 : decode cX11_seasonAt 80 = .ok (.iload 5, 2) := by decide +kernel
theorem dX11_seasonAt_82 : decode cX11_seasonAt 82 = .ok (.ishl, 1) := by decide +kernel
theorem dX11_seasonAt_83 : decode cX11_seasonAt 83 = .ok (.iconst (-1), 1) := by decide +kernel
theorem dX11_seasonAt_84 : decode cX11_seasonAt 84 = .ok (.ixor, 1) := by decide +kernel
theorem dX11_seasonAt_85 : decode cX11_seasonAt 85 = .ok (.iand, 1) := by decide +kernel
theorem dX11_seasonAt_86 : decode cX11_seasonAt 86 = .ok (.istore_n 3, 1) := by decide +kernel
theorem dX11_seasonAt_87 : decode cX11_seasonAt 87 = .ok (.iinc 6 1, 3) := by decide +kernel
theorem dX11_seasonAt_90 : decode cX11_seasonAt 90 = .ok (.goto (-75), 3) := by decide +kernel
theorem dX11_seasonAt_93 : decode cX11_seasonAt 93 = .ok (.iload 5, 2) := by decide +kernel
theorem dX11_seasonAt_95 : decode cX11_seasonAt 95 = .ok (.ireturn, 1) := by decide +kernel
theorem dX11_seenAt_0 : decode cX11_seenAt 0 = .ok (.iload_n 3, 1) := by decide +kernel
theorem dX11_seenAt_1 : decode cX11_seenAt 1 = .ok (.iconst 2, 1) := by decide +kernel
theorem dX11_seenAt_2 : decode cX11_seenAt 2 = .ok (.if_icmp .ne 23, 3) := by decide +kernel
theorem dX11_seenAt_5 : decode cX11_seenAt 5 = .ok (.iconst 3, 1) := by decide +kernel
theorem dX11_seenAt_6 : decode cX11_seenAt 6 = .ok (.iload_n 2, 1) := by decide +kernel
theorem dX11_seenAt_7 : decode cX11_seenAt 7 = .ok (.sipush 150, 3) := by decide +kernel
theorem dX11_seenAt_10 : decode cX11_seenAt 10 = .ok (.idiv, 1) := by decide +kernel
theorem dX11_seenAt_11 : decode cX11_seenAt 11 = .ok (.isub, 1) := by decide +kernel
theorem dX11_seenAt_12 : decode cX11_seenAt 12 = .ok (.sipush 150, 3) := by decide +kernel
theorem dX11_seenAt_15 : decode cX11_seenAt 15 = .ok (.imul, 1) := by decide +kernel
theorem dX11_seenAt_16 : decode cX11_seenAt 16 = .ok (.iload_n 2, 1) := by decide +kernel
theorem dX11_seenAt_17 : decode cX11_seenAt 17 = .ok (.sipush 150, 3) := by decide +kernel
theorem dX11_seenAt_20 : decode cX11_seenAt 20 = .ok (.irem, 1) := by decide +kernel
theorem dX11_seenAt_21 : decode cX11_seenAt 21 = .ok (.iadd, 1) := by decide +kernel
theorem dX11_seenAt_22 : decode cX11_seenAt 22 = .ok (.goto 38, 3) := by decide +kernel
theorem dX11_seenAt_25 : decode cX11_seenAt 25 = .ok (.iload_n 3, 1) := by decide +kernel
theorem dX11_seenAt_26 : decode cX11_seenAt 26 = .ok (.iconst 5, 1) := by decide +kernel
theorem dX11_seenAt_27 : decode cX11_seenAt 27 = .ok (.if_icmp .ne 32, 3) := by decide +kernel
theorem dX11_seenAt_30 : decode cX11_seenAt 30 = .ok (.aload_n 0, 1) := by decide +kernel
theorem dX11_seenAt_31 : decode cX11_seenAt 31 = .ok (.getfield 7, 3) := by decide +kernel
theorem dX11_seenAt_34 : decode cX11_seenAt 34 = .ok (.sipush 7516, 3) := by decide +kernel
theorem dX11_seenAt_37 : decode cX11_seenAt 37 = .ok (.iaload, 1) := by decide +kernel
theorem dX11_seenAt_38 : decode cX11_seenAt 38 = .ok (.iload_n 2, 1) := by decide +kernel
theorem dX11_seenAt_39 : decode cX11_seenAt 39 = .ok (.sipush 150, 3) := by decide +kernel
theorem dX11_seenAt_42 : decode cX11_seenAt 42 = .ok (.idiv, 1) := by decide +kernel
theorem dX11_seenAt_43 : decode cX11_seenAt 43 = .ok (.invokestatic 137, 3) := by decide +kernel
theorem dX11_seenAt_46 : decode cX11_seenAt 46 = .ok (.sipush 150, 3) := by decide +kernel
theorem dX11_seenAt_49 : decode cX11_seenAt 49 = .ok (.imul, 1) := by decide +kernel
theorem dX11_seenAt_50 : decode cX11_seenAt 50 = .ok (.iload_n 2, 1) := by decide +kernel
theorem dX11_seenAt_51 : decode cX11_seenAt 51 = .ok (.sipush 150, 3) := by decide +kernel
theorem dX11_seenAt_54 : decode cX11_seenAt 54 = .ok (.irem, 1) := by decide +kernel
theorem dX11_seenAt_55 : decode cX11_seenAt 55 = .ok (.iadd, 1) := by decide +kernel
theorem dX11_seenAt_56 : decode cX11_seenAt 56 = .ok (.goto 4, 3) := by decide +kernel
theorem dX11_seenAt_59 : decode cX11_seenAt 59 = .ok (.iload_n 2, 1) := by decide +kernel
theorem dX11_seenAt_60 : decode cX11_seenAt 60 = .ok (.istore 4, 2) := by decide +kernel
theorem dX11_seenAt_62 : decode cX11_seenAt 62 = .ok (.aload_n 0, 1) := by decide +kernel
theorem dX11_seenAt_63 : decode cX11_seenAt 63 = .ok (.iload_n 1, 1) := by decide +kernel
theorem dX11_seenAt_64 : decode cX11_seenAt 64 = .ok (.iload 4, 2) := by decide +kernel
theorem dX11_seenAt_66 : decode cX11_seenAt 66 = .ok (.invokevirtual 130, 3) := by decide +kernel
theorem dX11_seenAt_69 : decode cX11_seenAt 69 = .ok (.istore 5, 2) := by decide +kernel
theorem dX11_seenAt_71 : decode cX11_seenAt 71 = .ok (.iload 5, 2) := by decide +kernel
theorem dX11_seenAt_73 : decode cX11_seenAt 73 = .ok (.ldc 107, 2) := by decide +kernel
theorem dX11_seenAt_75 : decode cX11_seenAt 75 = .ok (.if_icmp .eq 17, 3) := by decide +kernel
theorem dX11_seenAt_78 : decode cX11_seenAt 78 = .ok (.iload_n 3, 1) := by decide +kernel
theorem dX11_seenAt_79 : decode cX11_seenAt 79 = .ok (.ifCond .eq 13, 3) := by decide +kernel
theorem dX11_seenAt_82 : decode cX11_seenAt 82 = .ok (.iload_n 3, 1) := by decide +kernel
theorem dX11_seenAt_83 : decode cX11_seenAt 83 = .ok (.iconst 2, 1) := by decide +kernel
theorem dX11_seenAt_84 : decode cX11_seenAt 84 = .ok (.if_icmp .eq 8, 3) := by decide +kernel
theorem dX11_seenAt_87 : decode cX11_seenAt 87 = .ok (.iload_n 3, 1) := by decide +kernel
theorem dX11_seenAt_88 : decode cX11_seenAt 88 = .ok (.iconst 5, 1) := by decide +kernel
theorem dX11_seenAt_89 : decode cX11_seenAt 89 = .ok (.if_icmp .ne 6, 3) := by decide +kernel
theorem dX11_seenAt_92 : decode cX11_seenAt 92 = .ok (.iload 5, 2) := by decide +kernel
theorem dX11_seenAt_94 : decode cX11_seenAt 94 = .ok (.ireturn, 1) := by decide +kernel
theorem dX11_seenAt_95 : decode cX11_seenAt 95 = .ok (.iload_n 3, 1) := by decide +kernel
theorem dX11_seenAt_96 : decode cX11_seenAt 96 = .ok (.iconst 1, 1) := by decide +kernel
theorem dX11_seenAt_97 : decode cX11_seenAt 97 = .ok (.if_icmp .ne 7, 3) := by decide +kernel
theorem dX11_seenAt_100 : decode cX11_seenAt 100 = .ok (.iload 5, 2) := by decide +kernel
theorem dX11_seenAt_102 : decode cX11_seenAt 102 = .ok (.ineg, 1) := by decide +kernel
theorem dX11_seenAt_103 : decode cX11_seenAt 103 = .ok (.ireturn, 1) := by decide +kernel
theorem dX11_seenAt_104 : decode cX11_seenAt 104 = .ok (.iload_n 3, 1) := by decide +kernel
theorem dX11_seenAt_105 : decode cX11_seenAt 105 = .ok (.iconst 4, 1) := by decide +kernel
theorem dX11_seenAt_106 : decode cX11_seenAt 106 = .ok (.if_icmp .ne 25, 3) := by decide +kernel
theorem dX11_seenAt_109 : decode cX11_seenAt 109 = .ok (.aload_n 0, 1) := by decide +kernel
theorem dX11_seenAt_110 : decode cX11_seenAt 110 = .ok (.aload_n 0, 1) := by decide +kernel
theorem dX11_seenAt_111 : decode cX11_seenAt 111 = .ok (.iload_n 1, 1) := by decide +kernel
theorem dX11_seenAt_112 : decode cX11_seenAt 112 = .ok (.iconst 1, 1) := by decide +kernel
theorem dX11_seenAt_113 : decode cX11_seenAt 113 = .ok (.invokevirtual 120, 3) := by decide +kernel
theorem dX11_seenAt_116 : decode cX11_seenAt 116 = .ok (.iload_n 2, 1) := by decide +kernel
theorem dX11_seenAt_117 : decode cX11_seenAt 117 = .ok (.invokevirtual 140, 3) := by decide +kernel
theorem dX11_seenAt_120 : decode cX11_seenAt 120 = .ok (.ifCond .eq 8, 3) := by decide +kernel
theorem dX11_seenAt_123 : decode cX11_seenAt 123 = .ok (.ldc 107, 2) := by decide +kernel
theorem dX11_seenAt_125 : decode cX11_seenAt 125 = .ok (.goto 5, 3) := by decide +kernel
theorem dX11_seenAt_128 : decode cX11_seenAt 128 = .ok (.iload 5, 2) := by decide +kernel
theorem dX11_seenAt_130 : decode cX11_seenAt 130 = .ok (.ireturn, 1) := by decide +kernel
theorem dX11_seenAt_131 : decode cX11_seenAt 131 = .ok (.iload 5, 2) := by decide +kernel
theorem dX11_seenAt_133 : decode cX11_seenAt 133 = .ok (.i2l, 1) := by decide +kernel
theorem dX11_seenAt_134 : decode cX11_seenAt 134 = .ok (.aload_n 0, 1) := by decide +kernel
theorem dX11_seenAt_135 : decode cX11_seenAt 135 = .ok (.iload_n 1, 1) := by decide +kernel
theorem dX11_seenAt_136 : decode cX11_seenAt 136 = .ok (.iload_n 2, 1) := by decide +kernel
theorem dX11_seenAt_137 : decode cX11_seenAt 137 = .ok (.aload_n 0, 1) := by decide +kernel
theorem dX11_seenAt_138 : decode cX11_seenAt 138 = .ok (.getfield 7, 3) := by decide +kernel
theorem dX11_seenAt_141 : decode cX11_seenAt 141 = .ok (.sipush 7515, 3) := by decide +kernel
theorem dX11_seenAt_144 : decode cX11_seenAt 144 = .ok (.iaload, 1) := by decide +kernel
theorem dX11_seenAt_145 : decode cX11_seenAt 145 = .ok (.isub, 1) := by decide +kernel
theorem dX11_seenAt_146 : decode cX11_seenAt 146 = .ok (.iload_n 2, 1) := by decide +kernel
theorem dX11_seenAt_147 : decode cX11_seenAt 147 = .ok (.aload_n 0, 1) := by decide +kernel
theorem dX11_seenAt_148 : decode cX11_seenAt 148 = .ok (.getfield 7, 3) := by decide +kernel
theorem dX11_seenAt_151 : decode cX11_seenAt 151 = .ok (.sipush 7515, 3) := by decide +kernel
theorem dX11_seenAt_154 : decode cX11_seenAt 154 = .ok (.iaload, 1) := by decide +kernel
theorem dX11_seenAt_155 : decode cX11_seenAt 155 = .ok (.iadd, 1) := by decide +kernel
theorem dX11_seenAt_156 : decode cX11_seenAt 156 = .ok (.invokevirtual 144, 3) := by decide +kernel
theorem dX11_seenAt_159 : decode cX11_seenAt 159 = .ok (.i2l, 1) := by decide +kernel
theorem dX11_seenAt_160 : decode cX11_seenAt 160 = .ok (.lsub, 1) := by decide +kernel
theorem dX11_seenAt_161 : decode cX11_seenAt 161 = .ok (.ldc2_w 115, 3) := by decide +kernel
theorem dX11_seenAt_164 : decode cX11_seenAt 164 = .ok (.ldc2_w 117, 3) := by decide +kernel
theorem dX11_seenAt_167 : decode cX11_seenAt 167 = .ok (.invokestatic 148, 3) := by decide +kernel
theorem dX11_seenAt_170 : decode cX11_seenAt 170 = .ok (.l2i, 1) := by decide +kernel
theorem dX11_seenAt_171 : decode cX11_seenAt 171 = .ok (.ireturn, 1) := by decide +kernel
theorem dX11_spread_0 : decode cX11_spread 0 = .ok (.aload_n 0, 1) := by decide +kernel
theorem dX11_spread_1 : decode cX11_spread 1 = .ok (.iload_n 1, 1) := by decide +kernel
theorem dX11_spread_2 : decode cX11_spread 2 = .ok (.invokevirtual 108, 3) := by decide +kernel
theorem dX11_spread_5 : decode cX11_spread 5 = .ok (.ifCond .ne 7, 3) := by decide +kernel
theorem dX11_spread_8 : decode cX11_spread 8 = .ok (.ldc2_w 404, 3) := by decide +kernel
theorem dX11_spread_11 : decode cX11_spread 11 = .ok (.lreturn, 1) := by decide +kernel
theorem dX11_spread_12 : decode cX11_spread 12 = .ok (.aload_n 0, 1) := by decide +kernel
theorem dX11_spread_13 : decode cX11_spread 13 = .ok (.iload_n 1, 1) := by decide +kernel
theorem dX11_spread_14 : decode cX11_spread 14 = .ok (.iconst 0, 1) := by decide +kernel
theorem dX11_spread_15 : decode cX11_spread 15 = .ok (.invokevirtual 406, 3) := by decide +kernel
theorem dX11_spread_18 : decode cX11_spread 18 = .ok (.aload_n 0, 1) := by decide +kernel
theorem dX11_spread_19 : decode cX11_spread 19 = .ok (.getfield 394, 3) := by decide +kernel
theorem dX11_spread_22 : decode cX11_spread 22 = .ok (.ifCond .ne 9, 3) := by decide +kernel
theorem dX11_spread_25 : decode cX11_spread 25 = .ok (.ldc2_w 404, 3) := by decide +kernel
theorem dX11_spread_28 : decode cX11_spread 28 = .ok (.goto 7, 3) := by decide +kernel
theorem dX11_spread_31 : decode cX11_spread 31 = .ok (.aload_n 0, 1) := by decide +kernel
theorem dX11_spread_32 : decode cX11_spread 32 = .ok (.getfield 401, 3) := by decide +kernel
theorem dX11_spread_35 : decode cX11_spread 35 = .ok (.lreturn, 1) := by decide +kernel
theorem dX11_takesIn_0 : decode cX11_takesIn 0 = .ok (.aload_n 0, 1) := by decide +kernel
theorem dX11_takesIn_1 : decode cX11_takesIn 1 = .ok (.iconst 0, 1) := by decide +kernel
theorem dX11_takesIn_2 : decode cX11_takesIn 2 = .ok (.putfield 430, 3) := by decide +kernel
theorem dX11_takesIn_5 : decode cX11_takesIn 5 = .ok (.aload_n 0, 1) := by decide +kernel
theorem dX11_takesIn_6 : decode cX11_takesIn 6 = .ok (.lconst 0, 1) := by decide +kernel
theorem dX11_takesIn_7 : decode cX11_takesIn 7 = .ok (.putfield 438, 3) := by decide +kernel
theorem dX11_takesIn_10 : decode cX11_takesIn 10 = .ok (.iconst 0, 1) := by decide +kernel
theorem dX11_takesIn_11 : decode cX11_takesIn 11 = .ok (.istore 4, 2) := by decide +kernel
theorem dX11_takesIn_13 : decode cX11_takesIn 13 = .ok (.iload 4, 2) := by decide +kernel
theorem dX11_takesIn_15 : decode cX11_takesIn 15 = .ok (.sipush 600, 3) := by decide +kernel
theorem dX11_takesIn_18 : decode cX11_takesIn 18 = .ok (.if_icmp .ge 59, 3) := by decide +kernel
theorem dX11_takesIn_21 : decode cX11_takesIn 21 = .ok (.aload_n 0, 1) := by decide +kernel
theorem dX11_takesIn_22 : decode cX11_takesIn 22 = .ok (.iload 4, 2) := by decide +kernel
theorem dX11_takesIn_24 : decode cX11_takesIn 24 = .ok (.invokevirtual 409, 3) := by decide +kernel
theorem dX11_takesIn_27 : decode cX11_takesIn 27 = .ok (.ifCond .eq 44, 3) := by decide +kernel
theorem dX11_takesIn_30 : decode cX11_takesIn 30 = .ok (.iload 4, 2) := by decide +kernel
theorem dX11_takesIn_32 : decode cX11_takesIn 32 = .ok (.iload_n 1, 1) := by decide +kernel
theorem dX11_takesIn_33 : decode cX11_takesIn 33 = .ok (.iload_n 3, 1) := by decide +kernel
theorem dX11_takesIn_34 : decode cX11_takesIn 34 = .ok (.invokestatic 448, 3) := by decide +kernel
theorem dX11_takesIn_37 : decode cX11_takesIn 37 = .ok (.iload_n 2, 1) := by decide +kernel
theorem dX11_takesIn_38 : decode cX11_takesIn 38 = .ok (.if_icmp .lt 6, 3) := by decide +kernel
theorem dX11_takesIn_41 : decode cX11_takesIn 41 = .ok (.goto 30, 3) := by decide +kernel
theorem dX11_takesIn_44 : decode cX11_takesIn 44 = .ok (.aload_n 0, 1) := by decide +kernel
theorem dX11_takesIn_45 : decode cX11_takesIn 45 = .ok (.dup, 1) := by decide +kernel
theorem dX11_takesIn_46 : decode cX11_takesIn 46 = .ok (.getfield 430, 3) := by decide +kernel
theorem dX11_takesIn_49 : decode cX11_takesIn 49 = .ok (.iconst 1, 1) := by decide +kernel
theorem dX11_takesIn_50 : decode cX11_takesIn 50 = .ok (.iadd, 1) := by decide +kernel
theorem dX11_takesIn_51 : decode cX11_takesIn 51 = .ok (.putfield 430, 3) := by decide +kernel
theorem dX11_takesIn_54 : decode cX11_takesIn 54 = .ok (.aload_n 0, 1) := by decide +kernel
theorem dX11_takesIn_55 : decode cX11_takesIn 55 = .ok (.dup, 1) := by decide +kernel
theorem dX11_takesIn_56 : decode cX11_takesIn 56 = .ok (.getfield 438, 3) := by decide +kernel
theorem dX11_takesIn_59 : decode cX11_takesIn 59 = .ok (.aload_n 0, 1) := by decide +kernel
theorem dX11_takesIn_60 : decode cX11_takesIn 60 = .ok (.getfield 66, 3) := by decide +kernel
theorem dX11_takesIn_63 : decode cX11_takesIn 63 = .ok (.iload 4, 2) := by decide +kernel
theorem dX11_takesIn_65 : decode cX11_takesIn 65 = .ok (.iaload, 1) := by decide +kernel
theorem dX11_takesIn_66 : decode cX11_takesIn 66 = .ok (.i2l, 1) := by decide +kernel
theorem dX11_takesIn_67 : decode cX11_takesIn 67 = .ok (.ladd, 1) := by decide +kernel
theorem dX11_takesIn_68 : decode cX11_takesIn 68 = .ok (.putfield 438, 3) := by decide +kernel
theorem dX11_takesIn_71 : decode cX11_takesIn 71 = .ok (.iinc 4 1, 3) := by decide +kernel
theorem dX11_takesIn_74 : decode cX11_takesIn 74 = .ok (.goto (-61), 3) := by decide +kernel
theorem dX11_takesIn_77 : decode cX11_takesIn 77 = .ok (.return_, 1) := by decide +kernel
