theorem dX11_down_0 : decode cX11_down 0 = .ok (.lload_n 0, 1) := by decide +kernel
theorem dX11_down_1 : decode cX11_down 1 = .ok (.lload_n 2, 1) := by decide +kernel
theorem dX11_down_2 : decode cX11_down 2 = .ok (.ldiv, 1) := by decide +kernel
theorem dX11_down_3 : decode cX11_down 3 = .ok (.lstore 4, 2) := by decide +kernel
theorem dX11_down_5 : decode cX11_down 5 = .ok (.lload 4, 2) := by decide +kernel
theorem dX11_down_7 : decode cX11_down 7 = .ok (.lload_n 2, 1) := by decide +kernel
theorem dX11_down_8 : decode cX11_down 8 = .ok (.lmul, 1) := by decide +kernel
theorem dX11_down_9 : decode cX11_down 9 = .ok (.lload_n 0, 1) := by decide +kernel
theorem dX11_down_10 : decode cX11_down 10 = .ok (.lcmp, 1) := by decide +kernel
theorem dX11_down_11 : decode cX11_down 11 = .ok (.ifCond .le 10, 3) := by decide +kernel
theorem dX11_down_14 : decode cX11_down 14 = .ok (.lload 4, 2) := by decide +kernel
theorem dX11_down_16 : decode cX11_down 16 = .ok (.lconst 1, 1) := by decide +kernel
theorem dX11_down_17 : decode cX11_down 17 = .ok (.lsub, 1) := by decide +kernel
theorem dX11_down_18 : decode cX11_down 18 = .ok (.goto 5, 3) := by decide +kernel
theorem dX11_down_21 : decode cX11_down 21 = .ok (.lload 4, 2) := by decide +kernel
theorem dX11_down_23 : decode cX11_down 23 = .ok (.lreturn, 1) := by decide +kernel
theorem dX11_held_0 : decode cX11_held 0 = .ok (.lload_n 0, 1) := by decide +kernel
theorem dX11_held_1 : decode cX11_held 1 = .ok (.lload_n 2, 1) := by decide +kernel
theorem dX11_held_2 : decode cX11_held 2 = .ok (.lcmp, 1) := by decide +kernel
theorem dX11_held_3 : decode cX11_held 3 = .ok (.ifCond .ge 7, 3) := by decide +kernel
theorem dX11_held_6 : decode cX11_held 6 = .ok (.lload_n 2, 1) := by decide +kernel
theorem dX11_held_7 : decode cX11_held 7 = .ok (.goto 16, 3) := by decide +kernel
theorem dX11_held_10 : decode cX11_held 10 = .ok (.lload_n 0, 1) := by decide +kernel
theorem dX11_held_11 : decode cX11_held 11 = .ok (.lload 4, 2) := by decide +kernel
theorem dX11_held_13 : decode cX11_held 13 = .ok (.lcmp, 1) := by decide +kernel
theorem dX11_held_14 : decode cX11_held 14 = .ok (.ifCond .le 8, 3) := by decide +kernel
theorem dX11_held_17 : decode cX11_held 17 = .ok (.lload 4, 2) := by decide +kernel
theorem dX11_held_19 : decode cX11_held 19 = .ok (.goto 4, 3) := by decide +kernel
theorem dX11_held_22 : decode cX11_held 22 = .ok (.lload_n 0, 1) := by decide +kernel
theorem dX11_held_23 : decode cX11_held 23 = .ok (.lreturn, 1) := by decide +kernel
theorem dX11_in_0 : decode cX11_in 0 = .ok (.lload_n 0, 1) := by decide +kernel
theorem dX11_in_1 : decode cX11_in 1 = .ok (.lload_n 2, 1) := by decide +kernel
theorem dX11_in_2 : decode cX11_in 2 = .ok (.lcmp, 1) := by decide +kernel
theorem dX11_in_3 : decode cX11_in 3 = .ok (.ifCond .lt 14, 3) := by decide +kernel
theorem dX11_in_6 : decode cX11_in 6 = .ok (.lload_n 0, 1) := by decide +kernel
theorem dX11_in_7 : decode cX11_in 7 = .ok (.lload 4, 2) := by decide +kernel
theorem dX11_in_9 : decode cX11_in 9 = .ok (.lcmp, 1) := by decide +kernel
theorem dX11_in_10 : decode cX11_in 10 = .ok (.ifCond .gt 7, 3) := by decide +kernel
theorem dX11_in_13 : decode cX11_in 13 = .ok (.iconst 1, 1) := by decide +kernel
theorem dX11_in_14 : decode cX11_in 14 = .ok (.goto 4, 3) := by decide +kernel
theorem dX11_in_17 : decode cX11_in 17 = .ok (.iconst 0, 1) := by decide +kernel
theorem dX11_in_18 : decode cX11_in 18 = .ok (.ireturn, 1) := by decide +kernel
theorem dX11_isHour_0 : decode cX11_isHour 0 = .ok (.iload_n 0, 1) := by decide +kernel
theorem dX11_isHour_1 : decode cX11_isHour 1 = .ok (.ifCond .lt 14, 3) := by decide +kernel
theorem dX11_isHour_4 : decode cX11_isHour 4 = .ok (.iload_n 0, 1) := by decide +kernel
theorem dX11_isHour_5 : decode cX11_isHour 5 = .ok (.sipush 600, 3) := by decide +kernel
theorem dX11_isHour_8 : decode cX11_isHour 8 = .ok (.if_icmp .ge 7, 3) := by decide +kernel
theorem dX11_isHour_11 : decode cX11_isHour 11 = .ok (.iconst 1, 1) := by decide +kernel
theorem dX11_isHour_12 : decode cX11_isHour 12 = .ok (.goto 4, 3) := by decide +kernel
theorem dX11_isHour_15 : decode cX11_isHour 15 = .ok (.iconst 0, 1) := by decide +kernel
theorem dX11_isHour_16 : decode cX11_isHour 16 = .ok (.ireturn, 1) := by decide +kernel
theorem dX11_isStar_0 : decode cX11_isStar 0 = .ok (.iload_n 1, 1) := by decide +kernel
theorem dX11_isStar_1 : decode cX11_isStar 1 = .ok (.ifCond .lt 17, 3) := by decide +kernel
theorem dX11_isStar_4 : decode cX11_isStar 4 = .ok (.iload_n 1, 1) := by decide +kernel
theorem dX11_isStar_5 : decode cX11_isStar 5 = .ok (.aload_n 0, 1) := by decide +kernel
theorem dX11_isStar_6 : decode cX11_isStar 6 = .ok (.getfield 7, 3) := by decide +kernel
theorem dX11_isStar_9 : decode cX11_isStar 9 = .ok (.iconst 0, 1) := by decide +kernel
theorem dX11_isStar_10 : decode cX11_isStar 10 = .ok (.iaload, 1) := by decide +kernel
theorem dX11_isStar_11 : decode cX11_isStar 11 = .ok (.if_icmp .ge 7, 3) := by decide +kernel
theorem dX11_isStar_14 : decode cX11_isStar 14 = .ok (.iconst 1, 1) := by decide +kernel
theorem dX11_isStar_15 : decode cX11_isStar 15 = .ok (.goto 4, 3) := by decide +kernel
theorem dX11_isStar_18 : decode cX11_isStar 18 = .ok (.iconst 0, 1) := by decide +kernel
theorem dX11_isStar_19 : decode cX11_isStar 19 = .ok (.ireturn, 1) := by decide +kernel
theorem dX11_mask_0 : decode cX11_mask 0 = .ok (.iload_n 1, 1) := by decide +kernel
theorem dX11_mask_1 : decode cX11_mask 1 = .ok (.i2l, 1) := by decide +kernel
theorem dX11_mask_2 : decode cX11_mask 2 = .ok (.lconst 0, 1) := by decide +kernel
theorem dX11_mask_3 : decode cX11_mask 3 = .ok (.ldc2_w 103, 3) := by decide +kernel
theorem dX11_mask_6 : decode cX11_mask 6 = .ok (.invokestatic 99, 3) := by decide +kernel
theorem dX11_mask_9 : decode cX11_mask 9 = .ok (.ifCond .eq 27, 3) := by decide +kernel
theorem dX11_mask_12 : decode cX11_mask 12 = .ok (.iload_n 2, 1) := by decide +kernel
theorem dX11_mask_13 : decode cX11_mask 13 = .ok (.i2l, 1) := by decide +kernel
theorem dX11_mask_14 : decode cX11_mask 14 = .ok (.lconst 0, 1) := by decide +kernel
theorem dX11_mask_15 : decode cX11_mask 15 = .ok (.ldc2_w 126, 3) := by decide +kernel
theorem dX11_mask_18 : decode cX11_mask 18 = .ok (.invokestatic 99, 3) := by decide +kernel
theorem dX11_mask_21 : decode cX11_mask 21 = .ok (.ifCond .eq 15, 3) := by decide +kernel
theorem dX11_mask_24 : decode cX11_mask 24 = .ok (.iload_n 3, 1) := by decide +kernel
theorem dX11_mask_25 : decode cX11_mask 25 = .ok (.i2l, 1) := by decide +kernel
theorem dX11_mask_26 : decode cX11_mask 26 = .ok (.lconst 0, 1) := by decide +kernel
theorem dX11_mask_27 : decode cX11_mask 27 = .ok (.ldc2_w 117, 3) := by decide +kernel
theorem dX11_mask_30 : decode cX11_mask 30 = .ok (.invokestatic 99, 3) := by decide +kernel
theorem dX11_mask_33 : decode cX11_mask 33 = .ok (.ifCond .ne 5, 3) := by decide +kernel
theorem dX11_mask_36 : decode cX11_mask 36 = .ok (.iconst 0, 1) := by decide +kernel
theorem dX11_mask_37 : decode cX11_mask 37 = .ok (.ireturn, 1) := by decide +kernel
theorem dX11_mask_38 : decode cX11_mask 38 = .ok (.aload_n 0, 1) := by decide +kernel
theorem dX11_mask_39 : decode cX11_mask 39 = .ok (.getfield 7, 3) := by decide +kernel
theorem dX11_mask_42 : decode cX11_mask 42 = .ok (.sipush 7517, 3) := by decide +kernel
theorem dX11_mask_45 : decode cX11_mask 45 = .ok (.iconst 2, 1) := by decide +kernel
theorem dX11_mask_46 : decode cX11_mask 46 = .ok (.iload_n 1, 1) := by decide +kernel
theorem dX11_mask_47 : decode cX11_mask 47 = .ok (.imul, 1) := by decide +kernel
theorem dX11_mask_48 : decode cX11_mask 48 = .ok (.iadd, 1) := by decide +kernel
theorem dX11_mask_49 : decode cX11_mask 49 = .ok (.iload_n 2, 1) := by decide +kernel
theorem dX11_mask_50 : decode cX11_mask 50 = .ok (.iastore, 1) := by decide +kernel
theorem dX11_mask_51 : decode cX11_mask 51 = .ok (.aload_n 0, 1) := by decide +kernel
theorem dX11_mask_52 : decode cX11_mask 52 = .ok (.getfield 7, 3) := by decide +kernel
theorem dX11_mask_55 : decode cX11_mask 55 = .ok (.sipush 7517, 3) := by decide +kernel
theorem dX11_mask_58 : decode cX11_mask 58 = .ok (.iconst 2, 1) := by decide +kernel
theorem dX11_mask_59 : decode cX11_mask 59 = .ok (.iload_n 1, 1) := by decide +kernel
theorem dX11_mask_60 : decode cX11_mask 60 = .ok (.imul, 1) := by decide +kernel
theorem dX11_mask_61 : decode cX11_mask 61 = .ok (.iadd, 1) := by decide +kernel
theorem dX11_mask_62 : decode cX11_mask 62 = .ok (.iconst 1, 1) := by decide +kernel
theorem dX11_mask_63 : decode cX11_mask 63 = .ok (.iadd, 1) := by decide +kernel
theorem dX11_mask_64 : decode cX11_mask 64 = .ok (.iload_n 3, 1) := by decide +kernel
theorem dX11_mask_65 : decode cX11_mask 65 = .ok (.iastore, 1) := by decide +kernel
theorem dX11_mask_66 : decode cX11_mask 66 = .ok (.iconst 1, 1) := by decide +kernel
theorem dX11_mask_67 : decode cX11_mask 67 = .ok (.ireturn, 1) := by decide +kernel
theorem dX11_meanOf_0 : decode cX11_meanOf 0 = .ok (.lconst 0, 1) := by decide +kernel
theorem dX11_meanOf_1 : decode cX11_meanOf 1 = .ok (.lstore 4, 2) := by decide +kernel
theorem dX11_meanOf_3 : decode cX11_meanOf 3 = .ok (.iconst 0, 1) := by decide +kernel
theorem dX11_meanOf_4 : decode cX11_meanOf 4 = .ok (.istore 6, 2) := by decide +kernel
theorem dX11_meanOf_6 : decode cX11_meanOf 6 = .ok (.iload_n 2, 1) := by decide +kernel
theorem dX11_meanOf_7 : decode cX11_meanOf 7 = .ok (.ifCond .ge 7, 3) := by decide +kernel
theorem dX11_meanOf_10 : decode cX11_meanOf 10 = .ok (.iconst 0, 1) := by decide +kernel
theorem dX11_meanOf_11 : decode cX11_meanOf 11 = .ok (.goto 4, 3) := by decide +kernel
theorem dX11_meanOf_14 : decode cX11_meanOf 14 = .ok (.iload_n 2, 1) := by decide +kernel
theorem dX11_meanOf_15 : decode cX11_meanOf 15 = .ok (.istore 7, 2) := by decide +kernel
theorem dX11_meanOf_17 : decode cX11_meanOf 17 = .ok (.iload 7, 2) := by decide +kernel
theorem dX11_meanOf_19 : decode cX11_meanOf 19 = .ok (.iload_n 3, 1) := by decide +kernel
theorem dX11_meanOf_20 : decode cX11_meanOf 20 = .ok (.if_icmp .gt 48, 3) := by decide +kernel
theorem dX11_meanOf_23 : decode cX11_meanOf 23 = .ok (.iload 7, 2) := by decide +kernel
theorem dX11_meanOf_25 : decode cX11_meanOf 25 = .ok (.sipush 600, 3) := by decide +kernel
theorem dX11_meanOf_28 : decode cX11_meanOf 28 = .ok (.if_icmp .ge 40, 3) := by decide +kernel
theorem dX11_meanOf_31 : decode cX11_meanOf 31 = .ok (.aload_n 0, 1) := by decide +kernel
theorem dX11_meanOf_32 : decode cX11_meanOf 32 = .ok (.iload_n 1, 1) := by decide +kernel
theorem dX11_meanOf_33 : decode cX11_meanOf 33 = .ok (.iload 7, 2) := by decide +kernel
theorem dX11_meanOf_35 : decode cX11_meanOf 35 = .ok (.invokevirtual 130, 3) := by decide +kernel
theorem dX11_meanOf_38 : decode cX11_meanOf 38 = .ok (.ldc 107, 2) := by decide +kernel
theorem dX11_meanOf_40 : decode cX11_meanOf 40 = .ok (.if_icmp .ne 6, 3) := by decide +kernel
theorem dX11_meanOf_43 : decode cX11_meanOf 43 = .ok (.goto 19, 3) := by decide +kernel
theorem dX11_meanOf_46 : decode cX11_meanOf 46 = .ok (.lload 4, 2) := by decide +kernel
theorem dX11_meanOf_48 : decode cX11_meanOf 48 = .ok (.aload_n 0, 1) := by decide +kernel
theorem dX11_meanOf_49 : decode cX11_meanOf 49 = .ok (.iload_n 1, 1) := by decide +kernel
theorem dX11_meanOf_50 : decode cX11_meanOf 50 = .ok (.iload 7, 2) := by decide +kernel
theorem dX11_meanOf_52 : decode cX11_meanOf 52 = .ok (.invokevirtual 130, 3) := by decide +kernel
theorem dX11_meanOf_55 : decode cX11_meanOf 55 = .ok (.i2l, 1) := by decide +kernel
theorem dX11_meanOf_56 : decode cX11_meanOf 56 = .ok (.ladd, 1) := by decide +kernel
theorem dX11_meanOf_57 : decode cX11_meanOf 57 = .ok (.lstore 4, 2) := by decide +kernel
theorem dX11_meanOf_59 : decode cX11_meanOf 59 = .ok (.iinc 6 1, 3) := by decide +kernel
theorem dX11_meanOf_62 : decode cX11_meanOf 62 = .ok (.iinc 7 1, 3) := by decide +kernel
theorem dX11_meanOf_65 : decode cX11_meanOf 65 = .ok (.goto (-48), 3) := by decide +kernel
theorem dX11_meanOf_68 : decode cX11_meanOf 68 = .ok (.iload 6, 2) := by decide +kernel
theorem dX11_meanOf_70 : decode cX11_meanOf 70 = .ok (.ifCond .ne 7, 3) := by decide +kernel
theorem dX11_meanOf_73 : decode cX11_meanOf 73 = .ok (.iconst 0, 1) := by decide +kernel
theorem dX11_meanOf_74 : decode cX11_meanOf 74 = .ok (.goto 12, 3) := by decide +kernel
theorem dX11_meanOf_77 : decode cX11_meanOf 77 = .ok (.lload 4, 2) := by decide +kernel
theorem dX11_meanOf_79 : decode cX11_meanOf 79 = .ok (.iload 6, 2) := by decide +kernel
theorem dX11_meanOf_81 : decode cX11_meanOf 81 = .ok (.i2l, 1) := by decide +kernel
theorem dX11_meanOf_82 : decode cX11_meanOf 82 = .ok (.invokestatic 133, 3) := by decide +kernel
theorem dX11_meanOf_85 : decode cX11_meanOf 85 = .ok (.l2i, 1) := by decide +kernel
theorem dX11_meanOf_86 : decode cX11_meanOf 86 = .ok (.ireturn, 1) := by decide +kernel
theorem dX11_one_0 : decode cX11_one 0 = .ok (.iload_n 0, 1) := by decide +kernel
theorem dX11_one_1 : decode cX11_one 1 = .ok (.tableswitch 149 2 12 #[59, 63, 67, 71, 85, 97, 109, 121, 133, 149, 145], 59) := by decide +kernel
theorem dX11_one_60 : decode cX11_one 60 = .ok (.lload_n 1, 1) := by decide +kernel
theorem dX11_one_61 : decode cX11_one 61 = .ok (.lload_n 3, 1) := by decide +kernel
theorem dX11_one_62 : decode cX11_one 62 = .ok (.ladd, 1) := by decide +kernel
theorem dX11_one_63 : decode cX11_one 63 = .ok (.lreturn, 1) := by decide +kernel
theorem dX11_one_64 : decode cX11_one 64 = .ok (.lload_n 1, 1) := by decide +kernel
theorem dX11_one_65 : decode cX11_one 65 = .ok (.lload_n 3, 1) := by decide +kernel
theorem dX11_one_66 : decode cX11_one 66 = .ok (.lsub, 1) := by decide +kernel
theorem dX11_one_67 : decode cX11_one 67 = .ok (.lreturn, 1) := by decide +kernel
theorem dX11_one_68 : decode cX11_one 68 = .ok (.lload_n 1, 1) := by decide +kernel
theorem dX11_one_69 : decode cX11_one 69 = .ok (.lload_n 3, 1) := by decide +kernel
theorem dX11_one_70 : decode cX11_one 70 = .ok (.lmul, 1) := by decide +kernel
theorem dX11_one_71 : decode cX11_one 71 = .ok (.lreturn, 1) := by decide +kernel
theorem dX11_one_72 : decode cX11_one 72 = .ok (.lload_n 3, 1) := by decide +kernel
theorem dX11_one_73 : decode cX11_one 73 = .ok (.lconst 0, 1) := by decide +kernel
theorem dX11_one_74 : decode cX11_one 74 = .ok (.lcmp, 1) := by decide +kernel
theorem dX11_one_75 : decode cX11_one 75 = .ok (.ifCond .ne 7, 3) := by decide +kernel
theorem dX11_one_78 : decode cX11_one 78 = .ok (.lconst 0, 1) := by decide +kernel
theorem dX11_one_79 : decode cX11_one 79 = .ok (.goto 6, 3) := by decide +kernel
theorem dX11_one_82 : decode cX11_one 82 = .ok (.lload_n 1, 1) := by decide +kernel
theorem dX11_one_83 : decode cX11_one 83 = .ok (.lload_n 3, 1) := by decide +kernel
theorem dX11_one_84 : decode cX11_one 84 = .ok (.ldiv, 1) := by decide +kernel
theorem dX11_one_85 : decode cX11_one 85 = .ok (.lreturn, 1) := by decide +kernel
theorem dX11_one_86 : decode cX11_one 86 = .ok (.lload_n 1, 1) := by decide +kernel
theorem dX11_one_87 : decode cX11_one 87 = .ok (.lload_n 3, 1) := by decide +kernel
theorem dX11_one_88 : decode cX11_one 88 = .ok (.lcmp, 1) := by decide +kernel
theorem dX11_one_89 : decode cX11_one 89 = .ok (.ifCond .ge 7, 3) := by decide +kernel
theorem dX11_one_92 : decode cX11_one 92 = .ok (.lconst 1, 1) := by decide +kernel
theorem dX11_one_93 : decode cX11_one 93 = .ok (.goto 4, 3) := by decide +kernel
theorem dX11_one_96 : decode cX11_one 96 = .ok (.lconst 0, 1) := by decide +kernel
theorem dX11_one_97 : decode cX11_one 97 = .ok (.lreturn, 1) := by decide +kernel
theorem dX11_one_98 : decode cX11_one 98 = .ok (.lload_n 1, 1) := by decide +kernel
theorem dX11_one_99 : decode cX11_one 99 = .ok (.lload_n 3, 1) := by decide +kernel
theorem dX11_one_100 : decode cX11_one 100 = .ok (.lcmp, 1) := by decide +kernel
theorem dX11_one_101 : decode cX11_one 101 = .ok (.ifCond .gt 7, 3) := by decide +kernel
theorem dX11_one_104 : decode cX11_one 104 = .ok (.lconst 1, 1) := by decide +kernel
theorem dX11_one_105 : decode cX11_one 105 = .ok (.goto 4, 3) := by decide +kernel
theorem dX11_one_108 : decode cX11_one 108 = .ok (.lconst 0, 1) := by decide +kernel
theorem dX11_one_109 : decode cX11_one 109 = .ok (.lreturn, 1) := by decide +kernel
theorem dX11_one_110 : decode cX11_one 110 = .ok (.lload_n 1, 1) := by decide +kernel
theorem dX11_one_111 : decode cX11_one 111 = .ok (.lload_n 3, 1) := by decide +kernel
theorem dX11_one_112 : decode cX11_one 112 = .ok (.lcmp, 1) := by decide +kernel
theorem dX11_one_113 : decode cX11_one 113 = .ok (.ifCond .ne 7, 3) := by decide +kernel
theorem dX11_one_116 : decode cX11_one 116 = .ok (.lconst 1, 1) := by decide +kernel
theorem dX11_one_117 : decode cX11_one 117 = .ok (.goto 4, 3) := by decide +kernel
theorem dX11_one_120 : decode cX11_one 120 = .ok (.lconst 0, 1) := by decide +kernel
theorem dX11_one_121 : decode cX11_one 121 = .ok (.lreturn, 1) := by decide +kernel
theorem dX11_one_122 : decode cX11_one 122 = .ok (.lload_n 1, 1) := by decide +kernel
theorem dX11_one_123 : decode cX11_one 123 = .ok (.lload_n 3, 1) := by decide +kernel
theorem dX11_one_124 : decode cX11_one 124 = .ok (.lcmp, 1) := by decide +kernel
theorem dX11_one_125 : decode cX11_one 125 = .ok (.ifCond .lt 7, 3) := by decide +kernel
theorem dX11_one_128 : decode cX11_one 128 = .ok (.lconst 1, 1) := by decide +kernel
theorem dX11_one_129 : decode cX11_one 129 = .ok (.goto 4, 3) := by decide +kernel
theorem dX11_one_132 : decode cX11_one 132 = .ok (.lconst 0, 1) := by decide +kernel
theorem dX11_one_133 : decode cX11_one 133 = .ok (.lreturn, 1) := by decide +kernel
theorem dX11_one_134 : decode cX11_one 134 = .ok (.lload_n 1, 1) := by decide +kernel
theorem dX11_one_135 : decode cX11_one 135 = .ok (.lload_n 3, 1) := by decide +kernel
theorem dX11_one_136 : decode cX11_one 136 = .ok (.lcmp, 1) := by decide +kernel
theorem dX11_one_137 : decode cX11_one 137 = .ok (.ifCond .le 7, 3) := by decide +kernel
theorem dX11_one_140 : decode cX11_one 140 = .ok (.lconst 1, 1) := by decide +kernel
theorem dX11_one_141 : decode cX11_one 141 = .ok (.goto 4, 3) := by decide +kernel
theorem dX11_one_144 : decode cX11_one 144 = .ok (.lconst 0, 1) := by decide +kernel
theorem dX11_one_145 : decode cX11_one 145 = .ok (.lreturn, 1) := by decide +kernel
theorem dX11_one_146 : decode cX11_one 146 = .ok (.lload_n 1, 1) := by decide +kernel
theorem dX11_one_147 : decode cX11_one 147 = .ok (.lload_n 3, 1) := by decide +kernel
theorem dX11_one_148 : decode cX11_one 148 = .ok (.land, 1) := by decide +kernel
theorem dX11_one_149 : decode cX11_one 149 = .ok (.lreturn, 1) := by decide +kernel
theorem dX11_one_150 : decode cX11_one 150 = .ok (.lload_n 1, 1) := by decide +kernel
theorem dX11_one_151 : decode cX11_one 151 = .ok (.lload_n 3, 1) := by decide +kernel
theorem dX11_one_152 : decode cX11_one 152 = .ok (.lor, 1) := by decide +kernel
theorem dX11_one_153 : decode cX11_one 153 = .ok (.lreturn, 1) := by decide +kernel
theorem dX11_order_0 : decode cX11_order 0 = .ok (.iload_n 1, 1) := by decide +kernel
theorem dX11_order_1 : decode cX11_order 1 = .ok (.i2l, 1) := by decide +kernel
theorem dX11_order_2 : decode cX11_order 2 = .ok (.lconst 0, 1) := by decide +kernel
theorem dX11_order_3 : decode cX11_order 3 = .ok (.ldc2_w 128, 3) := by decide +kernel
theorem dX11_order_6 : decode cX11_order 6 = .ok (.invokestatic 99, 3) := by decide +kernel
theorem dX11_order_9 : decode cX11_order 9 = .ok (.ifCond .ne 5, 3) := by decide +kernel
theorem dX11_order_12 : decode cX11_order 12 = .ok (.iconst (-1), 1) := by decide +kernel
theorem dX11_order_13 : decode cX11_order 13 = .ok (.ireturn, 1) := by decide +kernel
theorem dX11_order_14 : decode cX11_order 14 = .ok (.aload_n 0, 1) := by decide +kernel
theorem dX11_order_15 : decode cX11_order 15 = .ok (.getfield 7, 3) := by decide +kernel
theorem dX11_order_18 : decode cX11_order 18 = .ok (.sipush 7516, 3) := by decide +kernel
theorem dX11_order_21 : decode cX11_order 21 = .ok (.iaload, 1) := by decide +kernel
theorem dX11_order_22 : decode cX11_order 22 = .ok (.istore_n 2, 1) := by decide +kernel
theorem dX11_order_23 : decode cX11_order 23 = .ok (.aload_n 0, 1) := by decide +kernel
theorem dX11_order_24 : decode cX11_order 24 = .ok (.getfield 7, 3) := by decide +kernel
theorem dX11_order_27 : decode cX11_order 27 = .ok (.sipush 7516, 3) := by decide +kernel
theorem dX11_order_30 : decode cX11_order 30 = .ok (.iload_n 1, 1) := by decide +kernel
theorem dX11_order_31 : decode cX11_order 31 = .ok (.iastore, 1) := by decide +kernel
theorem dX11_order_32 : decode cX11_order 32 = .ok (.iload_n 2, 1) := by decide +kernel
theorem dX11_order_33 : decode cX11_order 33 = .ok (.ireturn, 1) := by decide +kernel
theorem dX11_resize_0 : decode cX11_resize 0 = .ok (.aload_n 0, 1) := by decide +kernel
theorem dX11_resize_1 : decode cX11_resize 1 = .ok (.iload_n 1, 1) := by decide +kernel
theorem dX11_resize_2 : decode cX11_resize 2 = .ok (.invokevirtual 108, 3) := by decide +kernel
theorem dX11_resize_5 : decode cX11_resize 5 = .ok (.ifCond .eq 15, 3) := by decide +kernel
theorem dX11_resize_8 : decode cX11_resize 8 = .ok (.iload_n 2, 1) := by decide +kernel
theorem dX11_resize_9 : decode cX11_resize 9 = .ok (.i2l, 1) := by decide +kernel
theorem dX11_resize_10 : decode cX11_resize 10 = .ok (.lconst 1, 1) := by decide +kernel
theorem dX11_resize_11 : decode cX11_resize 11 = .ok (.ldc2_w 97, 3) := by decide +kernel
theorem dX11_resize_14 : decode cX11_resize 14 = .ok (.invokestatic 99, 3) := by decide +kernel
theorem dX11_resize_17 : decode cX11_resize 17 = .ok (.ifCond .ne 5, 3) := by decide +kernel
theorem dX11_resize_20 : decode cX11_resize 20 = .ok (.iconst (-1), 1) := by decide +kernel
theorem dX11_resize_21 : decode cX11_resize 21 = .ok (.ireturn, 1) := by decide +kernel
theorem dX11_resize_22 : decode cX11_resize 22 = .ok (.aload_n 0, 1) := by decide +kernel
theorem dX11_resize_23 : decode cX11_resize 23 = .ok (.iload_n 1, 1) := by decide +kernel
theorem dX11_resize_24 : decode cX11_resize 24 = .ok (.iconst 0, 1) := by decide +kernel
theorem dX11_resize_25 : decode cX11_resize 25 = .ok (.invokevirtual 120, 3) := by decide +kernel
theorem dX11_resize_28 : decode cX11_resize 28 = .ok (.istore_n 3, 1) := by decide +kernel
theorem dX11_resize_29 : decode cX11_resize 29 = .ok (.aload_n 0, 1) := by decide +kernel
theorem dX11_resize_30 : decode cX11_resize 30 = .ok (.getfield 7, 3) := by decide +kernel
theorem dX11_resize_33 : decode cX11_resize 33 = .ok (.iconst 3, 1) := by decide +kernel
theorem dX11_resize_34 : decode cX11_resize 34 = .ok (.iconst 3, 1) := by decide +kernel
theorem dX11_resize_35 : decode cX11_resize 35 = .ok (.iload_n 1, 1) := by decide +kernel
theorem dX11_resize_36 : decode cX11_resize 36 = .ok (.imul, 1) := by decide +kernel
theorem dX11_resize_37 : decode cX11_resize 37 = .ok (.iadd, 1) := by decide +kernel
theorem dX11_resize_38 : decode cX11_resize 38 = .ok (.iload_n 2, 1) := by decide +kernel
theorem dX11_resize_39 : decode cX11_resize 39 = .ok (.iastore, 1) := by decide +kernel
theorem dX11_resize_40 : decode cX11_resize 40 = .ok (.iload_n 3, 1) := by decide +kernel
theorem dX11_resize_41 : decode cX11_resize 41 = .ok (.ireturn, 1) := by decide +kernel
theorem dX11_row_0 : decode cX11_row 0 = .ok (.aload_n 0, 1) := by decide +kernel
theorem dX11_row_1 : decode cX11_row 1 = .ok (.iload_n 1, 1) := by decide +kernel
theorem dX11_row_2 : decode cX11_row 2 = .ok (.invokevirtual 108, 3) := by decide +kernel
theorem dX11_row_5 : decode cX11_row 5 = .ok (.ifCond .eq 30, 3) := by decide +kernel
theorem dX11_row_8 : decode cX11_row 8 = .ok (.iload_n 2, 1) := by decide +kernel
theorem dX11_row_9 : decode cX11_row 9 = .ok (.invokestatic 112, 3) := by decide +kernel
theorem dX11_row_12 : decode cX11_row 12 = .ok (.ifCond .eq 23, 3) := by decide +kernel
theorem dX11_row_15 : decode cX11_row 15 = .ok (.iload_n 3, 1) := by decide +kernel
theorem dX11_row_16 : decode cX11_row 16 = .ok (.ldc 107, 2) := by decide +kernel
theorem dX11_row_18 : decode cX11_row 18 = .ok (.if_icmp .eq 20, 3) := by decide +kernel
theorem dX11_row_21 : decode cX11_row 21 = .ok (.iload_n 3, 1) := by decide +kernel
theorem dX11_row_22 : decode cX11_row 22 = .ok (.i2l, 1) := by decide +kernel
theorem dX11_row_23 : decode cX11_row 23 = .ok (.ldc2_w 115, 3) := by decide +kernel
theorem dX11_row_26 : decode cX11_row 26 = .ok (.ldc2_w 117, 3) := by decide +kernel
theorem dX11_row_29 : decode cX11_row 29 = .ok (.invokestatic 99, 3) := by decide +kernel
theorem dX11_row_32 : decode cX11_row 32 = .ok (.ifCond .ne 6, 3) := by decide +kernel
theorem dX11_row_35 : decode cX11_row 35 = .ok (.ldc 119, 2) := by decide +kernel
theorem dX11_row_37 : decode cX11_row 37 = .ok (.ireturn, 1) := by decide +kernel
theorem dX11_row_38 : decode cX11_row 38 = .ok (.aload_n 0, 1) := by decide +kernel
theorem dX11_row_39 : decode cX11_row 39 = .ok (.getfield 7, 3) := by decide +kernel
theorem dX11_row_42 : decode cX11_row 42 = .ok (.sipush 315, 3) := by decide +kernel
theorem dX11_row_45 : decode cX11_row 45 = .ok (.sipush 600, 3) := by decide +kernel
theorem dX11_row_48 : decode cX11_row 48 = .ok (.iload_n 1, 1) := by decide +kernel
theorem dX11_row_49 : decode cX11_row 49 = .ok (.imul, 1) := by decide +kernel
theorem dX11_row_50 : decode cX11_row 50 = .ok (.iadd, 1) := by decide +kernel
theorem dX11_row_51 : decode cX11_row 51 = .ok (.iload_n 2, 1) := by decide +kernel
theorem dX11_row_52 : decode cX11_row 52 = .ok (.iadd, 1) := by decide +kernel
theorem dX11_row_53 : decode cX11_row 53 = .ok (.iaload, 1) := by decide +kernel
theorem dX11_row_54 : decode cX11_row 54 = .ok (.istore 4, 2) := by decide +kernel
theorem dX11_row_56 : decode cX11_row 56 = .ok (.aload_n 0, 1) := by decide +kernel
theorem dX11_row_57 : decode cX11_row 57 = .ok (.getfield 7, 3) := by decide +kernel
theorem dX11_row_60 : decode cX11_row 60 = .ok (.sipush 315, 3) := by decide +kernel
theorem dX11_row_63 : decode cX11_row 63 = .ok (.sipush 600, 3) := by decide +kernel
theorem dX11_row_66 : decode cX11_row 66 = .ok (.iload_n 1, 1) := by decide +kernel
theorem dX11_row_67 : decode cX11_row 67 = .ok (.imul, 1) := by decide +kernel
theorem dX11_row_68 : decode cX11_row 68 = .ok (.iadd, 1) := by decide +kernel
theorem dX11_row_69 : decode cX11_row 69 = .ok (.iload_n 2, 1) := by decide +kernel
theorem dX11_row_70 : decode cX11_row 70 = .ok (.iadd, 1) := by decide +kernel
theorem dX11_row_71 : decode cX11_row 71 = .ok (.iload_n 3, 1) := by decide +kernel
theorem dX11_row_72 : decode cX11_row 72 = .ok (.iastore, 1) := by decide +kernel
theorem dX11_row_73 : decode cX11_row 73 = .ok (.iload 4, 2) := by decide +kernel
theorem dX11_row_75 : decode cX11_row 75 = .ok (.ireturn, 1) := by decide +kernel
theorem dX11_rowAt_0 : decode cX11_rowAt 0 = .ok (.aload_n 0, 1) := by decide +kernel
theorem dX11_rowAt_1 : decode cX11_rowAt 1 = .ok (.getfield 7, 3) := by decide +kernel
theorem dX11_rowAt_4 : decode cX11_rowAt 4 = .ok (.sipush 315, 3) := by decide +kernel
theorem dX11_rowAt_7 : decode cX11_rowAt 7 = .ok (.sipush 600, 3) := by decide +kernel
theorem dX11_rowAt_10 : decode cX11_rowAt 10 = .ok (.iload_n 1, 1) := by decide +kernel
theorem dX11_rowAt_11 : decode cX11_rowAt 11 = .ok (.imul, 1) := by decide +kernel
theorem dX11_rowAt_12 : decode cX11_rowAt 12 = .ok (.iadd, 1) := by decide +kernel
theorem dX11_rowAt_13 : decode cX11_rowAt 13 = .ok (.iload_n 2, 1) := by decide +kernel
theorem dX11_rowAt_14 : decode cX11_rowAt 14 = .ok (.iadd, 1) := by decide +kernel
theorem dX11_rowAt_15 : decode cX11_rowAt 15 = .ok (.iaload, 1) := by decide +kernel
theorem dX11_rowAt_16 : decode cX11_rowAt 16 = .ok (.ireturn, 1) := by decide +kernel
theorem dX11_starOf_0 : decode cX11_starOf 0 = .ok (.aload_n 0, 1) := by decide +kernel
theorem dX11_starOf_1 : decode cX11_starOf 1 = .ok (.getfield 7, 3) := by decide +kernel
theorem dX11_starOf_4 : decode cX11_starOf 4 = .ok (.iconst 3, 1) := by decide +kernel
theorem dX11_starOf_5 : decode cX11_starOf 5 = .ok (.iconst 3, 1) := by decide +kernel
theorem dX11_starOf_6 : decode cX11_starOf 6 = .ok (.iload_n 1, 1) := by decide +kernel
theorem dX11_starOf_7 : decode cX11_starOf 7 = .ok (.imul, 1) := by decide +kernel
theorem dX11_starOf_8 : decode cX11_starOf 8 = .ok (.iadd, 1) := by decide +kernel
theorem dX11_starOf_9 : decode cX11_starOf 9 = .ok (.iload_n 2, 1) := by decide +kernel
theorem dX11_starOf_10 : decode cX11_starOf 10 = .ok (.iadd, 1) := by decide +kernel
theorem dX11_starOf_11 : decode cX11_starOf 11 = .ok (.iaload, 1) := by decide +kernel
theorem dX11_starOf_12 : decode cX11_starOf 12 = .ok (.ireturn, 1) := by decide +kernel
theorem dX11_strength_0 : decode cX11_strength 0 = .ok (.iload_n 0, 1) := by decide +kernel
theorem dX11_strength_1 : decode cX11_strength 1 = .ok (.bipush 13, 2) := by decide +kernel
theorem dX11_strength_3 : decode cX11_strength 3 = .ok (.if_icmp .ne 7, 3) := by decide +kernel
theorem dX11_strength_6 : decode cX11_strength 6 = .ok (.iconst 1, 1) := by decide +kernel
theorem dX11_strength_7 : decode cX11_strength 7 = .ok (.goto 24, 3) := by decide +kernel
theorem dX11_strength_10 : decode cX11_strength 10 = .ok (.iload_n 0, 1) := by decide +kernel
theorem dX11_strength_11 : decode cX11_strength 11 = .ok (.bipush 12, 2) := by decide +kernel
theorem dX11_strength_13 : decode cX11_strength 13 = .ok (.if_icmp .ne 7, 3) := by decide +kernel
theorem dX11_strength_16 : decode cX11_strength 16 = .ok (.iconst 2, 1) := by decide +kernel
theorem dX11_strength_17 : decode cX11_strength 17 = .ok (.goto 14, 3) := by decide +kernel
theorem dX11_strength_20 : decode cX11_strength 20 = .ok (.iload_n 0, 1) := by decide +kernel
theorem dX11_strength_21 : decode cX11_strength 21 = .ok (.bipush 11, 2) := by decide +kernel
theorem dX11_strength_23 : decode cX11_strength 23 = .ok (.if_icmp .ne 7, 3) := by decide +kernel
theorem dX11_strength_26 : decode cX11_strength 26 = .ok (.iconst 3, 1) := by decide +kernel
theorem dX11_strength_27 : decode cX11_strength 27 = .ok (.goto 4, 3) := by decide +kernel
theorem dX11_strength_30 : decode cX11_strength 30 = .ok (.iconst 0, 1) := by decide +kernel
theorem dX11_strength_31 : decode cX11_strength 31 = .ok (.ireturn, 1) := by decide +kernel
theorem dX11_wide_0 : decode cX11_wide 0 = .ok (.iload_n 1, 1) := by decide +kernel
theorem dX11_wide_1 : decode cX11_wide 1 = .ok (.i2l, 1) := by decide +kernel
theorem dX11_wide_2 : decode cX11_wide 2 = .ok (.lconst 0, 1) := by decide +kernel
theorem dX11_wide_3 : decode cX11_wide 3 = .ok (.ldc2_w 124, 3) := by decide +kernel
theorem dX11_wide_6 : decode cX11_wide 6 = .ok (.invokestatic 99, 3) := by decide +kernel
theorem dX11_wide_9 : decode cX11_wide 9 = .ok (.ifCond .ne 5, 3) := by decide +kernel
theorem dX11_wide_12 : decode cX11_wide 12 = .ok (.iconst (-1), 1) := by decide +kernel
theorem dX11_wide_13 : decode cX11_wide 13 = .ok (.ireturn, 1) := by decide +kernel
theorem dX11_wide_14 : decode cX11_wide 14 = .ok (.aload_n 0, 1) := by decide +kernel
theorem dX11_wide_15 : decode cX11_wide 15 = .ok (.getfield 7, 3) := by decide +kernel
theorem dX11_wide_18 : decode cX11_wide 18 = .ok (.sipush 7515, 3) := by decide +kernel
theorem dX11_wide_21 : decode cX11_wide 21 = .ok (.iaload, 1) := by decide +kernel
theorem dX11_wide_22 : decode cX11_wide 22 = .ok (.istore_n 2, 1) := by decide +kernel
theorem dX11_wide_23 : decode cX11_wide 23 = .ok (.aload_n 0, 1) := by decide +kernel
theorem dX11_wide_24 : decode cX11_wide 24 = .ok (.getfield 7, 3) := by decide +kernel
theorem dX11_wide_27 : decode cX11_wide 27 = .ok (.sipush 7515, 3) := by decide +kernel
theorem dX11_wide_30 : decode cX11_wide 30 = .ok (.iload_n 1, 1) := by decide +kernel
theorem dX11_wide_31 : decode cX11_wide 31 = .ok (.iastore, 1) := by decide +kernel
theorem dX11_wide_32 : decode cX11_wide 32 = .ok (.iload_n 2, 1) := by decide +kernel
theorem dX11_wide_33 : decode cX11_wide 33 = .ok (.ireturn, 1) := by decide +kernel
theorem dX11_worldOf_0 : decode cX11_worldOf 0 = .ok (.aload_n 0, 1) := by decide +kernel
theorem dX11_worldOf_1 : decode cX11_worldOf 1 = .ok (.getfield 7, 3) := by decide +kernel
theorem dX11_worldOf_4 : decode cX11_worldOf 4 = .ok (.bipush 39, 2) := by decide +kernel
theorem dX11_worldOf_6 : decode cX11_worldOf 6 = .ok (.bipush 6, 2) := by decide +kernel
theorem dX11_worldOf_8 : decode cX11_worldOf 8 = .ok (.iload_n 1, 1) := by decide +kernel
theorem dX11_worldOf_9 : decode cX11_worldOf 9 = .ok (.imul, 1) := by decide +kernel
theorem dX11_worldOf_10 : decode cX11_worldOf 10 = .ok (.iadd, 1) := by decide +kernel
theorem dX11_worldOf_11 : decode cX11_worldOf 11 = .ok (.iload_n 2, 1) := by decide +kernel
theorem dX11_worldOf_12 : decode cX11_worldOf 12 = .ok (.iadd, 1) := by decide +kernel
theorem dX11_worldOf_13 : decode cX11_worldOf 13 = .ok (.iaload, 1) := by decide +kernel
theorem dX11_worldOf_14 : decode cX11_worldOf 14 = .ok (.ireturn, 1) := by decide +kernel
