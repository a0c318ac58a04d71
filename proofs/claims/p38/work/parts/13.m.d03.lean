theorem dX11_nights_169 : decode cX11_nights 169 = .ok (.istore 5, 2) := by decide +kernel
theorem dX11_nights_171 : decode cX11_nights 171 = .ok (.iinc 6 1, 3) := by decide +kernel
theorem dX11_nights_174 : decode cX11_nights 174 = .ok (.goto (-139), 3) := by decide +kernel
theorem dX11_nights_177 : decode cX11_nights 177 = .ok (.iload_n 2, 1) := by decide +kernel
theorem dX11_nights_178 : decode cX11_nights 178 = .ok (.ifCond .ne 7, 3) := by decide +kernel
theorem dX11_nights_181 : decode cX11_nights 181 = .ok (.iload_n 3, 1) := by decide +kernel
theorem dX11_nights_182 : decode cX11_nights 182 = .ok (.goto 5, 3) := by decide +kernel
theorem dX11_nights_185 : decode cX11_nights 185 = .ok (.iload 4, 2) := by decide +kernel
theorem dX11_nights_187 : decode cX11_nights 187 = .ok (.ireturn, 1) := by decide +kernel
theorem dX11_oddness_0 : decode cX11_oddness 0 = .ok (.aload_n 0, 1) := by decide +kernel
theorem dX11_oddness_1 : decode cX11_oddness 1 = .ok (.iconst 0, 1) := by decide +kernel
theorem dX11_oddness_2 : decode cX11_oddness 2 = .ok (.invokevirtual 522, 3) := by decide +kernel
theorem dX11_oddness_5 : decode cX11_oddness 5 = .ok (.lstore_n 1, 1) := by decide +kernel
theorem dX11_oddness_6 : decode cX11_oddness 6 = .ok (.aload_n 0, 1) := by decide +kernel
theorem dX11_oddness_7 : decode cX11_oddness 7 = .ok (.iconst 1, 1) := by decide +kernel
theorem dX11_oddness_8 : decode cX11_oddness 8 = .ok (.invokevirtual 522, 3) := by decide +kernel
theorem dX11_oddness_11 : decode cX11_oddness 11 = .ok (.lstore_n 3, 1) := by decide +kernel
theorem dX11_oddness_12 : decode cX11_oddness 12 = .ok (.lload_n 1, 1) := by decide +kernel
theorem dX11_oddness_13 : decode cX11_oddness 13 = .ok (.ldc2_w 436, 3) := by decide +kernel
theorem dX11_oddness_16 : decode cX11_oddness 16 = .ok (.lcmp, 1) := by decide +kernel
theorem dX11_oddness_17 : decode cX11_oddness 17 = .ok (.ifCond .eq 11, 3) := by decide +kernel
theorem dX11_oddness_20 : decode cX11_oddness 20 = .ok (.lload_n 3, 1) := by decide +kernel
theorem dX11_oddness_21 : decode cX11_oddness 21 = .ok (.ldc2_w 436, 3) := by decide +kernel
theorem dX11_oddness_24 : decode cX11_oddness 24 = .ok (.lcmp, 1) := by decide +kernel
theorem dX11_oddness_25 : decode cX11_oddness 25 = .ok (.ifCond .ne 5, 3) := by decide +kernel
theorem dX11_oddness_28 : decode cX11_oddness 28 = .ok (.lconst 0, 1) := by decide +kernel
theorem dX11_oddness_29 : decode cX11_oddness 29 = .ok (.lreturn, 1) := by decide +kernel
theorem dX11_oddness_30 : decode cX11_oddness 30 = .ok (.lload_n 1, 1) := by decide +kernel
theorem dX11_oddness_31 : decode cX11_oddness 31 = .ok (.lload_n 3, 1) := by decide +kernel
theorem dX11_oddness_32 : decode cX11_oddness 32 = .ok (.lcmp, 1) := by decide +kernel
theorem dX11_oddness_33 : decode cX11_oddness 33 = .ok (.ifCond .ge 9, 3) := by decide +kernel
theorem dX11_oddness_36 : decode cX11_oddness 36 = .ok (.lload_n 3, 1) := by decide +kernel
theorem dX11_oddness_37 : decode cX11_oddness 37 = .ok (.lload_n 1, 1) := by decide +kernel
theorem dX11_oddness_38 : decode cX11_oddness 38 = .ok (.lsub, 1) := by decide +kernel
theorem dX11_oddness_39 : decode cX11_oddness 39 = .ok (.goto 6, 3) := by decide +kernel
theorem dX11_oddness_42 : decode cX11_oddness 42 = .ok (.lload_n 1, 1) := by decide +kernel
theorem dX11_oddness_43 : decode cX11_oddness 43 = .ok (.lload_n 3, 1) := by decide +kernel
theorem dX11_oddness_44 : decode cX11_oddness 44 = .ok (.lsub, 1) := by decide +kernel
theorem dX11_oddness_45 : decode cX11_oddness 45 = .ok (.lreturn, 1) := by decide +kernel
theorem dX11_other_0 : decode cX11_other 0 = .ok (.aload_n 0, 1) := by decide +kernel
theorem dX11_other_1 : decode cX11_other 1 = .ok (.iconst 1, 1) := by decide +kernel
theorem dX11_other_2 : decode cX11_other 2 = .ok (.iload_n 1, 1) := by decide +kernel
theorem dX11_other_3 : decode cX11_other 3 = .ok (.invokevirtual 366, 3) := by decide +kernel
theorem dX11_other_6 : decode cX11_other 6 = .ok (.ifCond .eq 21, 3) := by decide +kernel
theorem dX11_other_9 : decode cX11_other 9 = .ok (.aload_n 0, 1) := by decide +kernel
theorem dX11_other_10 : decode cX11_other 10 = .ok (.iload_n 2, 1) := by decide +kernel
theorem dX11_other_11 : decode cX11_other 11 = .ok (.invokevirtual 108, 3) := by decide +kernel
theorem dX11_other_14 : decode cX11_other 14 = .ok (.ifCond .eq 13, 3) := by decide +kernel
theorem dX11_other_17 : decode cX11_other 17 = .ok (.iload_n 3, 1) := by decide +kernel
theorem dX11_other_18 : decode cX11_other 18 = .ok (.i2l, 1) := by decide +kernel
theorem dX11_other_19 : decode cX11_other 19 = .ok (.lconst 0, 1) := by decide +kernel
theorem dX11_other_20 : decode cX11_other 20 = .ok (.lconst 1, 1) := by decide +kernel
theorem dX11_other_21 : decode cX11_other 21 = .ok (.invokestatic 99, 3) := by decide +kernel
theorem dX11_other_24 : decode cX11_other 24 = .ok (.ifCond .ne 6, 3) := by decide +kernel
theorem dX11_other_27 : decode cX11_other 27 = .ok (.bipush (-3), 2) := by decide +kernel
theorem dX11_other_29 : decode cX11_other 29 = .ok (.ireturn, 1) := by decide +kernel
theorem dX11_other_30 : decode cX11_other 30 = .ok (.aload_n 0, 1) := by decide +kernel
theorem dX11_other_31 : decode cX11_other 31 = .ok (.iload_n 1, 1) := by decide +kernel
theorem dX11_other_32 : decode cX11_other 32 = .ok (.iload_n 2, 1) := by decide +kernel
theorem dX11_other_33 : decode cX11_other 33 = .ok (.iconst 0, 1) := by decide +kernel
theorem dX11_other_34 : decode cX11_other 34 = .ok (.invokevirtual 487, 3) := by decide +kernel
theorem dX11_other_37 : decode cX11_other 37 = .ok (.ifCond .ne 6, 3) := by decide +kernel
theorem dX11_other_40 : decode cX11_other 40 = .ok (.bipush (-2), 2) := by decide +kernel
theorem dX11_other_42 : decode cX11_other 42 = .ok (.ireturn, 1) := by decide +kernel
theorem dX11_other_43 : decode cX11_other 43 = .ok (.iload_n 3, 1) := by decide +kernel
theorem dX11_other_44 : decode cX11_other 44 = .ok (.iconst 1, 1) := by decide +kernel
theorem dX11_other_45 : decode cX11_other 45 = .ok (.if_icmp .ne 33, 3) := by decide +kernel
theorem dX11_other_48 : decode cX11_other 48 = .ok (.iconst 1, 1) := by decide +kernel
theorem dX11_other_49 : decode cX11_other 49 = .ok (.istore 4, 2) := by decide +kernel
theorem dX11_other_51 : decode cX11_other 51 = .ok (.iload 4, 2) := by decide +kernel
theorem dX11_other_53 : decode cX11_other 53 = .ok (.bipush 20, 2) := by decide +kernel
theorem dX11_other_55 : decode cX11_other 55 = .ok (.if_icmp .gt 21, 3) := by decide +kernel
theorem dX11_other_58 : decode cX11_other 58 = .ok (.aload_n 0, 1) := by decide +kernel
theorem dX11_other_59 : decode cX11_other 59 = .ok (.iload 4, 2) := by decide +kernel
theorem dX11_other_61 : decode cX11_other 61 = .ok (.invokevirtual 564, 3) := by decide +kernel
theorem dX11_other_64 : decode cX11_other 64 = .ok (.ifCond .eq 6, 3) := by decide +kernel
theorem dX11_other_67 : decode cX11_other 67 = .ok (.iload 4, 2) := by decide +kernel
theorem dX11_other_69 : decode cX11_other 69 = .ok (.ireturn, 1) := by decide +kernel
theorem dX11_other_70 : decode cX11_other 70 = .ok (.iinc 4 1, 3) := by decide +kernel
theorem dX11_other_73 : decode cX11_other 73 = .ok (.goto (-22), 3) := by decide +kernel
theorem dX11_other_76 : decode cX11_other 76 = .ok (.iconst (-1), 1) := by decide +kernel
theorem dX11_other_77 : decode cX11_other 77 = .ok (.ireturn, 1) := by decide +kernel
theorem dX11_other_78 : decode cX11_other 78 = .ok (.iconst 0, 1) := by decide +kernel
theorem dX11_other_79 : decode cX11_other 79 = .ok (.istore 4, 2) := by decide +kernel
theorem dX11_other_81 : decode cX11_other 81 = .ok (.iconst (-1), 1) := by decide +kernel
theorem dX11_other_82 : decode cX11_other 82 = .ok (.istore 5, 2) := by decide +kernel
theorem dX11_other_84 : decode cX11_other 84 = .ok (.aload_n 0, 1) := by decide +kernel
theorem dX11_other_85 : decode cX11_other 85 = .ok (.getfield 464, 3) := by decide +kernel
theorem dX11_other_88 : decode cX11_other 88 = .ok (.iload 5, 2) := by decide +kernel
theorem dX11_other_90 : decode cX11_other 90 = .ok (.aload_n 0, 1) := by decide +kernel
theorem dX11_other_91 : decode cX11_other 91 = .ok (.getfield 458, 3) := by decide +kernel
theorem dX11_other_94 : decode cX11_other 94 = .ok (.imul, 1) := by decide +kernel
theorem dX11_other_95 : decode cX11_other 95 = .ok (.iadd, 1) := by decide +kernel
theorem dX11_other_96 : decode cX11_other 96 = .ok (.sipush 600, 3) := by decide +kernel
theorem dX11_other_99 : decode cX11_other 99 = .ok (.if_icmp .ge 37, 3) := by decide +kernel
theorem dX11_other_102 : decode cX11_other 102 = .ok (.iload 4, 2) := by decide +kernel
theorem dX11_other_104 : decode cX11_other 104 = .ok (.aload_n 0, 1) := by decide +kernel
theorem dX11_other_105 : decode cX11_other 105 = .ok (.iload 5, 2) := by decide +kernel
theorem dX11_other_107 : decode cX11_other 107 = .ok (.invokevirtual 561, 3) := by decide +kernel
theorem dX11_other_110 : decode cX11_other 110 = .ok (.ifCond .eq 16, 3) := by decide +kernel
theorem dX11_other_113 : decode cX11_other 113 = .ok (.aload_n 0, 1) := by decide +kernel
theorem dX11_other_114 : decode cX11_other 114 = .ok (.iload 5, 2) := by decide +kernel
theorem dX11_other_116 : decode cX11_other 116 = .ok (.invokevirtual 526, 3) := by decide +kernel
theorem dX11_other_119 : decode cX11_other 119 = .ok (.ifCond .eq 7, 3) := by decide +kernel
theorem dX11_other_122 : decode cX11_other 122 = .ok (.iconst 1, 1) := by decide +kernel
theorem dX11_other_123 : decode cX11_other 123 = .ok (.goto 4, 3) := by decide +kernel
theorem dX11_other_126 : decode cX11_other 126 = .ok (.iconst 0, 1) := by decide +kernel
theorem dX11_other_127 : decode cX11_other 127 = .ok (.iadd, 1) := by decide +kernel
theorem dX11_other_128 : decode cX11_other 128 = .ok (.istore 4, 2) := by decide +kernel
theorem dX11_other_130 : decode cX11_other 130 = .ok (.iinc 5 1, 3) := by decide +kernel
theorem dX11_other_133 : decode cX11_other 133 = .ok (.goto (-49), 3) := by decide +kernel
theorem dX11_other_136 : decode cX11_other 136 = .ok (.iload 4, 2) := by decide +kernel
theorem dX11_other_138 : decode cX11_other 138 = .ok (.ireturn, 1) := by decide +kernel
theorem dX11_putIn_0 : decode cX11_putIn 0 = .ok (.iconst 0, 1) := by decide +kernel
theorem dX11_putIn_1 : decode cX11_putIn 1 = .ok (.istore_n 1, 1) := by decide +kernel
theorem dX11_putIn_2 : decode cX11_putIn 2 = .ok (.iconst 0, 1) := by decide +kernel
theorem dX11_putIn_3 : decode cX11_putIn 3 = .ok (.istore_n 2, 1) := by decide +kernel
theorem dX11_putIn_4 : decode cX11_putIn 4 = .ok (.iload_n 2, 1) := by decide +kernel
theorem dX11_putIn_5 : decode cX11_putIn 5 = .ok (.aload_n 0, 1) := by decide +kernel
theorem dX11_putIn_6 : decode cX11_putIn 6 = .ok (.getfield 7, 3) := by decide +kernel
theorem dX11_putIn_9 : decode cX11_putIn 9 = .ok (.iconst 1, 1) := by decide +kernel
theorem dX11_putIn_10 : decode cX11_putIn 10 = .ok (.iaload, 1) := by decide +kernel
theorem dX11_putIn_11 : decode cX11_putIn 11 = .ok (.if_icmp .ge 25, 3) := by decide +kernel
theorem dX11_putIn_14 : decode cX11_putIn 14 = .ok (.iload_n 1, 1) := by decide +kernel
theorem dX11_putIn_15 : decode cX11_putIn 15 = .ok (.aload_n 0, 1) := by decide +kernel
theorem dX11_putIn_16 : decode cX11_putIn 16 = .ok (.iload_n 2, 1) := by decide +kernel
theorem dX11_putIn_17 : decode cX11_putIn 17 = .ok (.invokevirtual 500, 3) := by decide +kernel
theorem dX11_putIn_20 : decode cX11_putIn 20 = .ok (.ifCond .eq 7, 3) := by decide +kernel
theorem dX11_putIn_23 : decode cX11_putIn 23 = .ok (.iconst 1, 1) := by decide +kernel
theorem dX11_putIn_24 : decode cX11_putIn 24 = .ok (.goto 4, 3) := by decide +kernel
theorem dX11_putIn_27 : decode cX11_putIn 27 = .ok (.iconst 0, 1) := by decide +kernel
theorem dX11_putIn_28 : decode cX11_putIn 28 = .ok (.iadd, 1) := by decide +kernel
theorem dX11_putIn_29 : decode cX11_putIn 29 = .ok (.istore_n 1, 1) := by decide +kernel
theorem dX11_putIn_30 : decode cX11_putIn 30 = .ok (.iinc 2 1, 3) := by decide +kernel
theorem dX11_putIn_33 : decode cX11_putIn 33 = .ok (.goto (-29), 3) := by decide +kernel
theorem dX11_putIn_36 : decode cX11_putIn 36 = .ok (.iload_n 1, 1) := by decide +kernel
theorem dX11_putIn_37 : decode cX11_putIn 37 = .ok (.ireturn, 1) := by decide +kernel
theorem dX11_radius_0 : decode cX11_radius 0 = .ok (.aload_n 0, 1) := by decide +kernel
theorem dX11_radius_1 : decode cX11_radius 1 = .ok (.iconst 1, 1) := by decide +kernel
theorem dX11_radius_2 : decode cX11_radius 2 = .ok (.iload_n 1, 1) := by decide +kernel
theorem dX11_radius_3 : decode cX11_radius 3 = .ok (.invokevirtual 366, 3) := by decide +kernel
theorem dX11_radius_6 : decode cX11_radius 6 = .ok (.ifCond .eq 11, 3) := by decide +kernel
theorem dX11_radius_9 : decode cX11_radius 9 = .ok (.aload_n 0, 1) := by decide +kernel
theorem dX11_radius_10 : decode cX11_radius 10 = .ok (.iload_n 2, 1) := by decide +kernel
theorem dX11_radius_11 : decode cX11_radius 11 = .ok (.invokevirtual 108, 3) := by decide +kernel
theorem dX11_radius_14 : decode cX11_radius 14 = .ok (.ifCond .ne 5, 3) := by decide +kernel
theorem dX11_radius_17 : decode cX11_radius 17 = .ok (.iconst (-1), 1) := by decide +kernel
theorem dX11_radius_18 : decode cX11_radius 18 = .ok (.ireturn, 1) := by decide +kernel
theorem dX11_radius_19 : decode cX11_radius 19 = .ok (.aload_n 0, 1) := by decide +kernel
theorem dX11_radius_20 : decode cX11_radius 20 = .ok (.iload_n 1, 1) := by decide +kernel
theorem dX11_radius_21 : decode cX11_radius 21 = .ok (.iload_n 2, 1) := by decide +kernel
theorem dX11_radius_22 : decode cX11_radius 22 = .ok (.iconst 0, 1) := by decide +kernel
theorem dX11_radius_23 : decode cX11_radius 23 = .ok (.invokevirtual 487, 3) := by decide +kernel
theorem dX11_radius_26 : decode cX11_radius 26 = .ok (.ifCond .eq 11, 3) := by decide +kernel
theorem dX11_radius_29 : decode cX11_radius 29 = .ok (.aload_n 0, 1) := by decide +kernel
theorem dX11_radius_30 : decode cX11_radius 30 = .ok (.iload_n 2, 1) := by decide +kernel
theorem dX11_radius_31 : decode cX11_radius 31 = .ok (.invokevirtual 558, 3) := by decide +kernel
theorem dX11_radius_34 : decode cX11_radius 34 = .ok (.goto 5, 3) := by decide +kernel
theorem dX11_radius_37 : decode cX11_radius 37 = .ok (.bipush (-2), 2) := by decide +kernel
theorem dX11_radius_39 : decode cX11_radius 39 = .ok (.ireturn, 1) := by decide +kernel
theorem dX11_radiusOf_0 : decode cX11_radiusOf 0 = .ok (.aload_n 0, 1) := by decide +kernel
theorem dX11_radiusOf_1 : decode cX11_radiusOf 1 = .ok (.getfield 467, 3) := by decide +kernel
theorem dX11_radiusOf_4 : decode cX11_radiusOf 4 = .ok (.aload_n 0, 1) := by decide +kernel
theorem dX11_radiusOf_5 : decode cX11_radiusOf 5 = .ok (.iload_n 1, 1) := by decide +kernel
theorem dX11_radiusOf_6 : decode cX11_radiusOf 6 = .ok (.iconst 0, 1) := by decide +kernel
theorem dX11_radiusOf_7 : decode cX11_radiusOf 7 = .ok (.invokevirtual 120, 3) := by decide +kernel
theorem dX11_radiusOf_10 : decode cX11_radiusOf 10 = .ok (.i2l, 1) := by decide +kernel
theorem dX11_radiusOf_11 : decode cX11_radiusOf 11 = .ok (.lmul, 1) := by decide +kernel
theorem dX11_radiusOf_12 : decode cX11_radiusOf 12 = .ok (.aload_n 0, 1) := by decide +kernel
theorem dX11_radiusOf_13 : decode cX11_radiusOf 13 = .ok (.iload_n 1, 1) := by decide +kernel
theorem dX11_radiusOf_14 : decode cX11_radiusOf 14 = .ok (.iconst 0, 1) := by decide +kernel
theorem dX11_radiusOf_15 : decode cX11_radiusOf 15 = .ok (.invokevirtual 120, 3) := by decide +kernel
theorem dX11_radiusOf_18 : decode cX11_radiusOf 18 = .ok (.i2l, 1) := by decide +kernel
theorem dX11_radiusOf_19 : decode cX11_radiusOf 19 = .ok (.lmul, 1) := by decide +kernel
theorem dX11_radiusOf_20 : decode cX11_radiusOf 20 = .ok (.lstore_n 2, 1) := by decide +kernel
theorem dX11_radiusOf_21 : decode cX11_radiusOf 21 = .ok (.iconst 0, 1) := by decide +kernel
theorem dX11_radiusOf_22 : decode cX11_radiusOf 22 = .ok (.istore 4, 2) := by decide +kernel
theorem dX11_radiusOf_24 : decode cX11_radiusOf 24 = .ok (.iload 4, 2) := by decide +kernel
theorem dX11_radiusOf_26 : decode cX11_radiusOf 26 = .ok (.i2l, 1) := by decide +kernel
theorem dX11_radiusOf_27 : decode cX11_radiusOf 27 = .ok (.lconst 1, 1) := by decide +kernel
theorem dX11_radiusOf_28 : decode cX11_radiusOf 28 = .ok (.ladd, 1) := by decide +kernel
theorem dX11_radiusOf_29 : decode cX11_radiusOf 29 = .ok (.iload 4, 2) := by decide +kernel
theorem dX11_radiusOf_31 : decode cX11_radiusOf 31 = .ok (.i2l, 1) := by decide +kernel
theorem dX11_radiusOf_32 : decode cX11_radiusOf 32 = .ok (.lconst 1, 1) := by decide +kernel
theorem dX11_radiusOf_33 : decode cX11_radiusOf 33 = .ok (.ladd, 1) := by decide +kernel
theorem dX11_radiusOf_34 : decode cX11_radiusOf 34 = .ok (.lmul, 1) := by decide +kernel
theorem dX11_radiusOf_35 : decode cX11_radiusOf 35 = .ok (.ldc2_w 556, 3) := by decide +kernel
theorem dX11_radiusOf_38 : decode cX11_radiusOf 38 = .ok (.lmul, 1) := by decide +kernel
theorem dX11_radiusOf_39 : decode cX11_radiusOf 39 = .ok (.lload_n 2, 1) := by decide +kernel
theorem dX11_radiusOf_40 : decode cX11_radiusOf 40 = .ok (.lcmp, 1) := by decide +kernel
theorem dX11_radiusOf_41 : decode cX11_radiusOf 41 = .ok (.ifCond .gt 9, 3) := by decide +kernel
theorem dX11_radiusOf_44 : decode cX11_radiusOf 44 = .ok (.iinc 4 1, 3) := by decide +kernel
theorem dX11_radiusOf_47 : decode cX11_radiusOf 47 = .ok (.goto (-23), 3) := by decide +kernel
theorem dX11_radiusOf_50 : decode cX11_radiusOf 50 = .ok (.iload 4, 2) := by decide +kernel
theorem dX11_radiusOf_52 : decode cX11_radiusOf 52 = .ok (.ireturn, 1) := by decide +kernel
theorem dX11_room_0 : decode cX11_room 0 = .ok (.aload_n 0, 1) := by decide +kernel
theorem dX11_room_1 : decode cX11_room 1 = .ok (.iconst 1, 1) := by decide +kernel
theorem dX11_room_2 : decode cX11_room 2 = .ok (.iload_n 1, 1) := by decide +kernel
theorem dX11_room_3 : decode cX11_room 3 = .ok (.invokevirtual 366, 3) := by decide +kernel
theorem dX11_room_6 : decode cX11_room 6 = .ok (.ifCond .eq 51, 3) := by decide +kernel
theorem dX11_room_9 : decode cX11_room 9 = .ok (.iload_n 2, 1) := by decide +kernel
theorem dX11_room_10 : decode cX11_room 10 = .ok (.i2l, 1) := by decide +kernel
theorem dX11_room_11 : decode cX11_room 11 = .ok (.lconst 0, 1) := by decide +kernel
theorem dX11_room_12 : decode cX11_room 12 = .ok (.aload_n 0, 1) := by decide +kernel
theorem dX11_room_13 : decode cX11_room 13 = .ok (.getfield 7, 3) := by decide +kernel
theorem dX11_room_16 : decode cX11_room 16 = .ok (.iconst 1, 1) := by decide +kernel
theorem dX11_room_17 : decode cX11_room 17 = .ok (.iaload, 1) := by decide +kernel
theorem dX11_room_18 : decode cX11_room 18 = .ok (.iconst 1, 1) := by decide +kernel
theorem dX11_room_19 : decode cX11_room 19 = .ok (.isub, 1) := by decide +kernel
theorem dX11_room_20 : decode cX11_room 20 = .ok (.i2l, 1) := by decide +kernel
theorem dX11_room_21 : decode cX11_room 21 = .ok (.invokestatic 99, 3) := by decide +kernel
theorem dX11_room_24 : decode cX11_room 24 = .ok (.ifCond .eq 33, 3) := by decide +kernel
theorem dX11_room_27 : decode cX11_room 27 = .ok (.aload_n 0, 1) := by decide +kernel
theorem dX11_room_28 : decode cX11_room 28 = .ok (.iload_n 2, 1) := by decide +kernel
theorem dX11_room_29 : decode cX11_room 29 = .ok (.iconst 2, 1) := by decide +kernel
theorem dX11_room_30 : decode cX11_room 30 = .ok (.invokevirtual 166, 3) := by decide +kernel
theorem dX11_room_33 : decode cX11_room 33 = .ok (.aload_n 0, 1) := by decide +kernel
theorem dX11_room_34 : decode cX11_room 34 = .ok (.getfield 50, 3) := by decide +kernel
theorem dX11_room_37 : decode cX11_room 37 = .ok (.bipush 6, 2) := by decide +kernel
theorem dX11_room_39 : decode cX11_room 39 = .ok (.iload_n 1, 1) := by decide +kernel
theorem dX11_room_40 : decode cX11_room 40 = .ok (.iadd, 1) := by decide +kernel
theorem dX11_room_41 : decode cX11_room 41 = .ok (.iaload, 1) := by decide +kernel
theorem dX11_room_42 : decode cX11_room 42 = .ok (.iconst 1, 1) := by decide +kernel
theorem dX11_room_43 : decode cX11_room 43 = .ok (.isub, 1) := by decide +kernel
theorem dX11_room_44 : decode cX11_room 44 = .ok (.aload_n 0, 1) := by decide +kernel
theorem dX11_room_45 : decode cX11_room 45 = .ok (.iload_n 2, 1) := by decide +kernel
theorem dX11_room_46 : decode cX11_room 46 = .ok (.iconst 1, 1) := by decide +kernel
theorem dX11_room_47 : decode cX11_room 47 = .ok (.invokevirtual 166, 3) := by decide +kernel
theorem dX11_room_50 : decode cX11_room 50 = .ok (.imul, 1) := by decide +kernel
theorem dX11_room_51 : decode cX11_room 51 = .ok (.iadd, 1) := by decide +kernel
theorem dX11_room_52 : decode cX11_room 52 = .ok (.iconst 1, 1) := by decide +kernel
theorem dX11_room_53 : decode cX11_room 53 = .ok (.iadd, 1) := by decide +kernel
theorem dX11_room_54 : decode cX11_room 54 = .ok (.goto 4, 3) := by decide +kernel
theorem dX11_room_57 : decode cX11_room 57 = .ok (.iconst (-1), 1) := by decide +kernel
theorem dX11_room_58 : decode cX11_room 58 = .ok (.ireturn, 1) := by decide +kernel
theorem dX11_sames_0 : decode cX11_sames 0 = .ok (.aload_n 0, 1) := by decide +kernel
theorem dX11_sames_1 : decode cX11_sames 1 = .ok (.getfield 458, 3) := by decide +kernel
theorem dX11_sames_4 : decode cX11_sames 4 = .ok (.istore_n 3, 1) := by decide +kernel
theorem dX11_sames_5 : decode cX11_sames 5 = .ok (.aload_n 0, 1) := by decide +kernel
theorem dX11_sames_6 : decode cX11_sames 6 = .ok (.getfield 464, 3) := by decide +kernel
theorem dX11_sames_9 : decode cX11_sames 9 = .ok (.istore 4, 2) := by decide +kernel
theorem dX11_sames_11 : decode cX11_sames 11 = .ok (.iconst 0, 1) := by decide +kernel
theorem dX11_sames_12 : decode cX11_sames 12 = .ok (.istore 5, 2) := by decide +kernel
theorem dX11_sames_14 : decode cX11_sames 14 = .ok (.iconst 0, 1) := by decide +kernel
theorem dX11_sames_15 : decode cX11_sames 15 = .ok (.istore 6, 2) := by decide +kernel
theorem dX11_sames_17 : decode cX11_sames 17 = .ok (.iload 6, 2) := by decide +kernel
theorem dX11_sames_19 : decode cX11_sames 19 = .ok (.aload_n 0, 1) := by decide +kernel
theorem dX11_sames_20 : decode cX11_sames 20 = .ok (.getfield 7, 3) := by decide +kernel
theorem dX11_sames_23 : decode cX11_sames 23 = .ok (.iconst 0, 1) := by decide +kernel
theorem dX11_sames_24 : decode cX11_sames 24 = .ok (.iaload, 1) := by decide +kernel
theorem dX11_sames_25 : decode cX11_sames 25 = .ok (.if_icmp .ge 61, 3) := by decide +kernel
theorem dX11_sames_28 : decode cX11_sames 28 = .ok (.iload 5, 2) := by decide +kernel
theorem dX11_sames_30 : decode cX11_sames 30 = .ok (.iload 6, 2) := by decide +kernel
theorem dX11_sames_32 : decode cX11_sames 32 = .ok (.iload_n 2, 1) := by decide +kernel
theorem dX11_sames_33 : decode cX11_sames 33 = .ok (.if_icmp .eq 43, 3) := by decide +kernel
theorem dX11_sames_36 : decode cX11_sames 36 = .ok (.aload_n 0, 1) := by decide +kernel
theorem dX11_sames_37 : decode cX11_sames 37 = .ok (.iload_n 1, 1) := by decide +kernel
theorem dX11_sames_38 : decode cX11_sames 38 = .ok (.iload 6, 2) := by decide +kernel
theorem dX11_sames_40 : decode cX11_sames 40 = .ok (.iconst 0, 1) := by decide +kernel
theorem dX11_sames_41 : decode cX11_sames 41 = .ok (.invokevirtual 487, 3) := by decide +kernel
theorem dX11_sames_44 : decode cX11_sames 44 = .ok (.ifCond .eq 32, 3) := by decide +kernel
theorem dX11_sames_47 : decode cX11_sames 47 = .ok (.aload_n 0, 1) := by decide +kernel
theorem dX11_sames_48 : decode cX11_sames 48 = .ok (.iload_n 1, 1) := by decide +kernel
theorem dX11_sames_49 : decode cX11_sames 49 = .ok (.invokevirtual 494, 3) := by decide +kernel
theorem dX11_sames_52 : decode cX11_sames 52 = .ok (.ifCond .eq 24, 3) := by decide +kernel
theorem dX11_sames_55 : decode cX11_sames 55 = .ok (.aload_n 0, 1) := by decide +kernel
theorem dX11_sames_56 : decode cX11_sames 56 = .ok (.getfield 458, 3) := by decide +kernel
theorem dX11_sames_59 : decode cX11_sames 59 = .ok (.iload_n 3, 1) := by decide +kernel
theorem dX11_sames_60 : decode cX11_sames 60 = .ok (.if_icmp .ne 16, 3) := by decide +kernel
theorem dX11_sames_63 : decode cX11_sames 63 = .ok (.aload_n 0, 1) := by decide +kernel
theorem dX11_sames_64 : decode cX11_sames 64 = .ok (.getfield 464, 3) := by decide +kernel
theorem dX11_sames_67 : decode cX11_sames 67 = .ok (.iload 4, 2) := by decide +kernel
theorem dX11_sames_69 : decode cX11_sames 69 = .ok (.if_icmp .ne 7, 3) := by decide +kernel
theorem dX11_sames_72 : decode cX11_sames 72 = .ok (.iconst 1, 1) := by decide +kernel
theorem dX11_sames_73 : decode cX11_sames 73 = .ok (.goto 4, 3) := by decide +kernel
theorem dX11_sames_76 : decode cX11_sames 76 = .ok (.iconst 0, 1) := by decide +kernel
theorem dX11_sames_77 : decode cX11_sames 77 = .ok (.iadd, 1) := by decide +kernel
theorem dX11_sames_78 : decode cX11_sames 78 = .ok (.istore 5, 2) := by decide +kernel
theorem dX11_sames_80 : decode cX11_sames 80 = .ok (.iinc 6 1, 3) := by decide +kernel
theorem dX11_sames_83 : decode cX11_sames 83 = .ok (.goto (-66), 3) := by decide +kernel
theorem dX11_sames_86 : decode cX11_sames 86 = .ok (.iload 5, 2) := by decide +kernel
theorem dX11_sames_88 : decode cX11_sames 88 = .ok (.ireturn, 1) := by decide +kernel
theorem dX11_scoreTried_0 : decode cX11_scoreTried 0 = .ok (.aload_n 0, 1) := by decide +kernel
theorem dX11_scoreTried_1 : decode cX11_scoreTried 1 = .ok (.iload_n 1, 1) := by decide +kernel
theorem dX11_scoreTried_2 : decode cX11_scoreTried 2 = .ok (.iload_n 2, 1) := by decide +kernel
theorem dX11_scoreTried_3 : decode cX11_scoreTried 3 = .ok (.iload_n 3, 1) := by decide +kernel
theorem dX11_scoreTried_4 : decode cX11_scoreTried 4 = .ok (.invokevirtual 426, 3) := by decide +kernel
theorem dX11_scoreTried_7 : decode cX11_scoreTried 7 = .ok (.aload_n 0, 1) := by decide +kernel
theorem dX11_scoreTried_8 : decode cX11_scoreTried 8 = .ok (.getfield 430, 3) := by decide +kernel
theorem dX11_scoreTried_11 : decode cX11_scoreTried 11 = .ok (.ifCond .eq 14, 3) := by decide +kernel
theorem dX11_scoreTried_14 : decode cX11_scoreTried 14 = .ok (.aload_n 0, 1) := by decide +kernel
theorem dX11_scoreTried_15 : decode cX11_scoreTried 15 = .ok (.getfield 430, 3) := by decide +kernel
theorem dX11_scoreTried_18 : decode cX11_scoreTried 18 = .ok (.aload_n 0, 1) := by decide +kernel
theorem dX11_scoreTried_19 : decode cX11_scoreTried 19 = .ok (.getfield 394, 3) := by decide +kernel
theorem dX11_scoreTried_22 : decode cX11_scoreTried 22 = .ok (.if_icmp .ne 5, 3) := by decide +kernel
theorem dX11_scoreTried_25 : decode cX11_scoreTried 25 = .ok (.lconst 0, 1) := by decide +kernel
theorem dX11_scoreTried_26 : decode cX11_scoreTried 26 = .ok (.lreturn, 1) := by decide +kernel
theorem dX11_scoreTried_27 : decode cX11_scoreTried 27 = .ok (.aload_n 0, 1) := by decide +kernel
theorem dX11_scoreTried_28 : decode cX11_scoreTried 28 = .ok (.aload_n 0, 1) := by decide +kernel
theorem dX11_scoreTried_29 : decode cX11_scoreTried 29 = .ok (.aload_n 0, 1) := by decide +kernel
theorem dX11_scoreTried_30 : decode cX11_scoreTried 30 = .ok (.getfield 397, 3) := by decide +kernel
theorem dX11_scoreTried_33 : decode cX11_scoreTried 33 = .ok (.aload_n 0, 1) := by decide +kernel
theorem dX11_scoreTried_34 : decode cX11_scoreTried 34 = .ok (.getfield 438, 3) := by decide +kernel
theorem dX11_scoreTried_37 : decode cX11_scoreTried 37 = .ok (.lsub, 1) := by decide +kernel
theorem dX11_scoreTried_38 : decode cX11_scoreTried 38 = .ok (.aload_n 0, 1) := by decide +kernel
theorem dX11_scoreTried_39 : decode cX11_scoreTried 39 = .ok (.getfield 394, 3) := by decide +kernel
theorem dX11_scoreTried_42 : decode cX11_scoreTried 42 = .ok (.aload_n 0, 1) := by decide +kernel
theorem dX11_scoreTried_43 : decode cX11_scoreTried 43 = .ok (.getfield 430, 3) := by decide +kernel
theorem dX11_scoreTried_46 : decode cX11_scoreTried 46 = .ok (.isub, 1) := by decide +kernel
theorem dX11_scoreTried_47 : decode cX11_scoreTried 47 = .ok (.aload_n 0, 1) := by decide +kernel
theorem dX11_scoreTried_48 : decode cX11_scoreTried 48 = .ok (.getfield 438, 3) := by decide +kernel
theorem dX11_scoreTried_51 : decode cX11_scoreTried 51 = .ok (.aload_n 0, 1) := by decide +kernel
theorem dX11_scoreTried_52 : decode cX11_scoreTried 52 = .ok (.getfield 430, 3) := by decide +kernel
theorem dX11_scoreTried_55 : decode cX11_scoreTried 55 = .ok (.invokevirtual 441, 3) := by decide +kernel
theorem dX11_scoreTried_58 : decode cX11_scoreTried 58 = .ok (.aload_n 0, 1) := by decide +kernel
theorem dX11_scoreTried_59 : decode cX11_scoreTried 59 = .ok (.getfield 430, 3) := by decide +kernel
theorem dX11_scoreTried_62 : decode cX11_scoreTried 62 = .ok (.invokevirtual 451, 3) := by decide +kernel
theorem dX11_scoreTried_65 : decode cX11_scoreTried 65 = .ok (.lreturn, 1) := by decide +kernel
theorem dX11_second_0 : decode cX11_second 0 = .ok (.aload_n 0, 1) := by decide +kernel
theorem dX11_second_1 : decode cX11_second 1 = .ok (.iconst 1, 1) := by decide +kernel
theorem dX11_second_2 : decode cX11_second 2 = .ok (.iload_n 1, 1) := by decide +kernel
theorem dX11_second_3 : decode cX11_second 3 = .ok (.invokevirtual 366, 3) := by decide +kernel
theorem dX11_second_6 : decode cX11_second 6 = .ok (.ifCond .eq 33, 3) := by decide +kernel
theorem dX11_second_9 : decode cX11_second 9 = .ok (.aload_n 0, 1) := by decide +kernel
theorem dX11_second_10 : decode cX11_second 10 = .ok (.iload_n 2, 1) := by decide +kernel
theorem dX11_second_11 : decode cX11_second 11 = .ok (.invokevirtual 108, 3) := by decide +kernel
theorem dX11_second_14 : decode cX11_second 14 = .ok (.ifCond .eq 25, 3) := by decide +kernel
theorem dX11_second_17 : decode cX11_second 17 = .ok (.iload_n 3, 1) := by decide +kernel
theorem dX11_second_18 : decode cX11_second 18 = .ok (.i2l, 1) := by decide +kernel
theorem dX11_second_19 : decode cX11_second 19 = .ok (.lconst 0, 1) := by decide +kernel
theorem dX11_second_20 : decode cX11_second 20 = .ok (.ldc2_w 483, 3) := by decide +kernel
theorem dX11_second_23 : decode cX11_second 23 = .ok (.invokestatic 99, 3) := by decide +kernel
theorem dX11_second_26 : decode cX11_second 26 = .ok (.ifCond .eq 13, 3) := by decide +kernel
theorem dX11_second_29 : decode cX11_second 29 = .ok (.aload_n 0, 1) := by decide +kernel
theorem dX11_second_30 : decode cX11_second 30 = .ok (.iload_n 1, 1) := by decide +kernel
theorem dX11_second_31 : decode cX11_second 31 = .ok (.iload_n 2, 1) := by decide +kernel
theorem dX11_second_32 : decode cX11_second 32 = .ok (.iconst 0, 1) := by decide +kernel
theorem dX11_second_33 : decode cX11_second 33 = .ok (.invokevirtual 487, 3) := by decide +kernel
theorem dX11_second_36 : decode cX11_second 36 = .ok (.ifCond .ne 7, 3) := by decide +kernel
theorem dX11_second_39 : decode cX11_second 39 = .ok (.ldc2_w 485, 3) := by decide +kernel
theorem dX11_second_42 : decode cX11_second 42 = .ok (.lreturn, 1) := by decide +kernel
theorem dX11_second_43 : decode cX11_second 43 = .ok (.iconst 0, 1) := by decide +kernel
theorem dX11_second_44 : decode cX11_second 44 = .ok (.istore 4, 2) := by decide +kernel
theorem dX11_second_46 : decode cX11_second 46 = .ok (.iload 4, 2) := by decide +kernel
theorem dX11_second_48 : decode cX11_second 48 = .ok (.sipush 600, 3) := by decide +kernel
theorem dX11_second_51 : decode cX11_second 51 = .ok (.if_icmp .ge 38, 3) := by decide +kernel
theorem dX11_second_54 : decode cX11_second 54 = .ok (.iload 4, 2) := by decide +kernel
theorem dX11_second_56 : decode cX11_second 56 = .ok (.aload_n 0, 1) := by decide +kernel
theorem dX11_second_57 : decode cX11_second 57 = .ok (.getfield 458, 3) := by decide +kernel
theorem dX11_second_60 : decode cX11_second 60 = .ok (.aload_n 0, 1) := by decide +kernel
theorem dX11_second_61 : decode cX11_second 61 = .ok (.getfield 464, 3) := by decide +kernel
theorem dX11_second_64 : decode cX11_second 64 = .ok (.invokestatic 448, 3) := by decide +kernel
theorem dX11_second_67 : decode cX11_second 67 = .ok (.aload_n 0, 1) := by decide +kernel
theorem dX11_second_68 : decode cX11_second 68 = .ok (.getfield 461, 3) := by decide +kernel
theorem dX11_second_71 : decode cX11_second 71 = .ok (.if_icmp .ge 12, 3) := by decide +kernel
theorem dX11_second_74 : decode cX11_second 74 = .ok (.aload_n 0, 1) := by decide +kernel
theorem dX11_second_75 : decode cX11_second 75 = .ok (.getfield 66, 3) := by decide +kernel
theorem dX11_second_78 : decode cX11_second 78 = .ok (.iload 4, 2) := by decide +kernel
theorem dX11_second_80 : decode cX11_second 80 = .ok (.ldc 107, 2) := by decide +kernel
theorem dX11_second_82 : decode cX11_second 82 = .ok (.iastore, 1) := by decide +kernel
theorem dX11_second_83 : decode cX11_second 83 = .ok (.iinc 4 1, 3) := by decide +kernel
theorem dX11_second_86 : decode cX11_second 86 = .ok (.goto (-40), 3) := by decide +kernel
theorem dX11_second_89 : decode cX11_second 89 = .ok (.aload_n 0, 1) := by decide +kernel
theorem dX11_second_90 : decode cX11_second 90 = .ok (.invokevirtual 391, 3) := by decide +kernel
theorem dX11_second_93 : decode cX11_second 93 = .ok (.aload_n 0, 1) := by decide +kernel
theorem dX11_second_94 : decode cX11_second 94 = .ok (.iload_n 1, 1) := by decide +kernel
theorem dX11_second_95 : decode cX11_second 95 = .ok (.invokevirtual 480, 3) := by decide +kernel
theorem dX11_second_98 : decode cX11_second 98 = .ok (.ifCond .eq 12, 3) := by decide +kernel
theorem dX11_second_101 : decode cX11_second 101 = .ok (.aload_n 0, 1) := by decide +kernel
theorem dX11_second_102 : decode cX11_second 102 = .ok (.iload_n 1, 1) := by decide +kernel
theorem dX11_second_103 : decode cX11_second 103 = .ok (.iload_n 3, 1) := by decide +kernel
theorem dX11_second_104 : decode cX11_second 104 = .ok (.invokevirtual 491, 3) := by decide +kernel
theorem dX11_second_107 : decode cX11_second 107 = .ok (.goto 16, 3) := by decide +kernel
theorem dX11_second_110 : decode cX11_second 110 = .ok (.iload_n 3, 1) := by decide +kernel
theorem dX11_second_111 : decode cX11_second 111 = .ok (.bipush 6, 2) := by decide +kernel
theorem dX11_second_113 : decode cX11_second 113 = .ok (.if_icmp .ne 7, 3) := by decide +kernel
theorem dX11_second_116 : decode cX11_second 116 = .ok (.lconst 0, 1) := by decide +kernel
theorem dX11_second_117 : decode cX11_second 117 = .ok (.goto 6, 3) := by decide +kernel
theorem dX11_second_120 : decode cX11_second 120 = .ok (.ldc2_w 404, 3) := by decide +kernel
theorem dX11_second_123 : decode cX11_second 123 = .ok (.lreturn, 1) := by decide +kernel
theorem dX11_shapeOf_0 : decode cX11_shapeOf 0 = .ok (.aload_n 0, 1) := by decide +kernel
theorem dX11_shapeOf_1 : decode cX11_shapeOf 1 = .ok (.iconst 2, 1) := by decide +kernel
theorem dX11_shapeOf_2 : decode cX11_shapeOf 2 = .ok (.invokevirtual 522, 3) := by decide +kernel
theorem dX11_shapeOf_5 : decode cX11_shapeOf 5 = .ok (.lstore_n 1, 1) := by decide +kernel
theorem dX11_shapeOf_6 : decode cX11_shapeOf 6 = .ok (.aload_n 0, 1) := by decide +kernel
theorem dX11_shapeOf_7 : decode cX11_shapeOf 7 = .ok (.iconst 3, 1) := by decide +kernel
theorem dX11_shapeOf_8 : decode cX11_shapeOf 8 = .ok (.invokevirtual 522, 3) := by decide +kernel
theorem dX11_shapeOf_11 : decode cX11_shapeOf 11 = .ok (.lstore_n 3, 1) := by decide +kernel
theorem dX11_shapeOf_12 : decode cX11_shapeOf 12 = .ok (.lload_n 1, 1) := by decide +kernel
theorem dX11_shapeOf_13 : decode cX11_shapeOf 13 = .ok (.ldc2_w 436, 3) := by decide +kernel
theorem dX11_shapeOf_16 : decode cX11_shapeOf 16 = .ok (.lcmp, 1) := by decide +kernel
theorem dX11_shapeOf_17 : decode cX11_shapeOf 17 = .ok (.ifCond .eq 11, 3) := by decide +kernel
theorem dX11_shapeOf_20 : decode cX11_shapeOf 20 = .ok (.lload_n 3, 1) := by decide +kernel
theorem dX11_shapeOf_21 : decode cX11_shapeOf 21 = .ok (.ldc2_w 436, 3) := by decide +kernel
theorem dX11_shapeOf_24 : decode cX11_shapeOf 24 = .ok (.lcmp, 1) := by decide +kernel
theorem dX11_shapeOf_25 : decode cX11_shapeOf 25 = .ok (.ifCond .ne 7, 3) := by decide +kernel
theorem dX11_shapeOf_28 : decode cX11_shapeOf 28 = .ok (.lconst 0, 1) := by decide +kernel
theorem dX11_shapeOf_29 : decode cX11_shapeOf 29 = .ok (.goto 6, 3) := by decide +kernel
theorem dX11_shapeOf_32 : decode cX11_shapeOf 32 = .ok (.lload_n 1, 1) := by decide +kernel
theorem dX11_shapeOf_33 : decode cX11_shapeOf 33 = .ok (.lload_n 3, 1) := by decide +kernel
theorem dX11_shapeOf_34 : decode cX11_shapeOf 34 = .ok (.lsub, 1) := by decide +kernel
theorem dX11_shapeOf_35 : decode cX11_shapeOf 35 = .ok (.lreturn, 1) := by decide +kernel
theorem dX11_share_0 : decode cX11_share 0 = .ok (.aload_n 0, 1) := by decide +kernel
theorem dX11_share_1 : decode cX11_share 1 = .ok (.iconst 1, 1) := by decide +kernel
theorem dX11_share_2 : decode cX11_share 2 = .ok (.iload_n 1, 1) := by decide +kernel
theorem dX11_share_3 : decode cX11_share 3 = .ok (.invokevirtual 366, 3) := by decide +kernel
theorem dX11_share_6 : decode cX11_share 6 = .ok (.ifCond .eq 13, 3) := by decide +kernel
theorem dX11_share_9 : decode cX11_share 9 = .ok (.iload_n 2, 1) := by decide +kernel
theorem dX11_share_10 : decode cX11_share 10 = .ok (.i2l, 1) := by decide +kernel
theorem dX11_share_11 : decode cX11_share 11 = .ok (.lconst 0, 1) := by decide +kernel
theorem dX11_share_12 : decode cX11_share 12 = .ok (.lconst 1, 1) := by decide +kernel
theorem dX11_share_13 : decode cX11_share 13 = .ok (.invokestatic 99, 3) := by decide +kernel
theorem dX11_share_16 : decode cX11_share 16 = .ok (.ifCond .ne 5, 3) := by decide +kernel
theorem dX11_share_19 : decode cX11_share 19 = .ok (.iconst (-1), 1) := by decide +kernel
theorem dX11_share_20 : decode cX11_share 20 = .ok (.ireturn, 1) := by decide +kernel
theorem dX11_share_21 : decode cX11_share 21 = .ok (.aload_n 0, 1) := by decide +kernel
theorem dX11_share_22 : decode cX11_share 22 = .ok (.invokevirtual 506, 3) := by decide +kernel
theorem dX11_share_25 : decode cX11_share 25 = .ok (.istore_n 3, 1) := by decide +kernel
theorem dX11_share_26 : decode cX11_share 26 = .ok (.iload_n 3, 1) := by decide +kernel
theorem dX11_share_27 : decode cX11_share 27 = .ok (.ifCond .ne 5, 3) := by decide +kernel
theorem dX11_share_30 : decode cX11_share 30 = .ok (.iconst 0, 1) := by decide +kernel
theorem dX11_share_31 : decode cX11_share 31 = .ok (.ireturn, 1) := by decide +kernel
theorem dX11_share_32 : decode cX11_share 32 = .ok (.aload_n 0, 1) := by decide +kernel
theorem dX11_share_33 : decode cX11_share 33 = .ok (.iload_n 1, 1) := by decide +kernel
theorem dX11_share_34 : decode cX11_share 34 = .ok (.invokevirtual 509, 3) := by decide +kernel
theorem dX11_share_37 : decode cX11_share 37 = .ok (.istore 4, 2) := by decide +kernel
theorem dX11_share_39 : decode cX11_share 39 = .ok (.iload 4, 2) := by decide +kernel
theorem dX11_share_41 : decode cX11_share 41 = .ok (.iload_n 3, 1) := by decide +kernel
theorem dX11_share_42 : decode cX11_share 42 = .ok (.invokestatic 512, 3) := by decide +kernel
theorem dX11_share_45 : decode cX11_share 45 = .ok (.istore 5, 2) := by decide +kernel
theorem dX11_share_47 : decode cX11_share 47 = .ok (.iload_n 2, 1) := by decide +kernel
theorem dX11_share_48 : decode cX11_share 48 = .ok (.ifCond .ne 8, 3) := by decide +kernel
theorem dX11_share_51 : decode cX11_share 51 = .ok (.iload 4, 2) := by decide +kernel
theorem dX11_share_53 : decode cX11_share 53 = .ok (.goto 4, 3) := by decide +kernel
theorem dX11_share_56 : decode cX11_share 56 = .ok (.iload_n 3, 1) := by decide +kernel
theorem dX11_share_57 : decode cX11_share 57 = .ok (.iload 5, 2) := by decide +kernel
theorem dX11_share_59 : decode cX11_share 59 = .ok (.idiv, 1) := by decide +kernel
theorem dX11_share_60 : decode cX11_share 60 = .ok (.ireturn, 1) := by decide +kernel
theorem dX11_shift_0 : decode cX11_shift 0 = .ok (.aload_n 0, 1) := by decide +kernel
theorem dX11_shift_1 : decode cX11_shift 1 = .ok (.iconst 1, 1) := by decide +kernel
theorem dX11_shift_2 : decode cX11_shift 2 = .ok (.iload_n 1, 1) := by decide +kernel
theorem dX11_shift_3 : decode cX11_shift 3 = .ok (.invokevirtual 366, 3) := by decide +kernel
theorem dX11_shift_6 : decode cX11_shift 6 = .ok (.ifCond .eq 43, 3) := by decide +kernel
theorem dX11_shift_9 : decode cX11_shift 9 = .ok (.aload_n 0, 1) := by decide +kernel
theorem dX11_shift_10 : decode cX11_shift 10 = .ok (.iload_n 2, 1) := by decide +kernel
theorem dX11_shift_11 : decode cX11_shift 11 = .ok (.invokevirtual 108, 3) := by decide +kernel
theorem dX11_shift_14 : decode cX11_shift 14 = .ok (.ifCond .eq 35, 3) := by decide +kernel
theorem dX11_shift_17 : decode cX11_shift 17 = .ok (.iload_n 3, 1) := by decide +kernel
theorem dX11_shift_18 : decode cX11_shift 18 = .ok (.i2l, 1) := by decide +kernel
theorem dX11_shift_19 : decode cX11_shift 19 = .ok (.ldc2_w 404, 3) := by decide +kernel
