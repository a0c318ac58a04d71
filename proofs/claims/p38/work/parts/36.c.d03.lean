theorem dX10_mask_32 : decode cX10_mask 32 = .ok (.ireturn, 1) := by decide +kernel
theorem dX10_mask_33 : decode cX10_mask 33 = .ok (.aload_n 0, 1) := by decide +kernel
theorem dX10_mask_34 : decode cX10_mask 34 = .ok (.getfield 10, 3) := by decide +kernel
theorem dX10_mask_37 : decode cX10_mask 37 = .ok (.getfield 128, 3) := by decide +kernel
theorem dX10_mask_40 : decode cX10_mask 40 = .ok (.iload_n 1, 1) := by decide +kernel
theorem dX10_mask_41 : decode cX10_mask 41 = .ok (.iload_n 2, 1) := by decide +kernel
theorem dX10_mask_42 : decode cX10_mask 42 = .ok (.iastore, 1) := by decide +kernel
theorem dX10_mask_43 : decode cX10_mask 43 = .ok (.aload_n 0, 1) := by decide +kernel
theorem dX10_mask_44 : decode cX10_mask 44 = .ok (.getfield 10, 3) := by decide +kernel
theorem dX10_mask_47 : decode cX10_mask 47 = .ok (.getfield 131, 3) := by decide +kernel
theorem dX10_mask_50 : decode cX10_mask 50 = .ok (.iload_n 1, 1) := by decide +kernel
theorem dX10_mask_51 : decode cX10_mask 51 = .ok (.iload_n 3, 1) := by decide +kernel
theorem dX10_mask_52 : decode cX10_mask 52 = .ok (.iastore, 1) := by decide +kernel
theorem dX10_mask_53 : decode cX10_mask 53 = .ok (.aload_n 0, 1) := by decide +kernel
theorem dX10_mask_54 : decode cX10_mask 54 = .ok (.dup, 1) := by decide +kernel
theorem dX10_mask_55 : decode cX10_mask 55 = .ok (.getfield 84, 3) := by decide +kernel
theorem dX10_mask_58 : decode cX10_mask 58 = .ok (.iconst 1, 1) := by decide +kernel
theorem dX10_mask_59 : decode cX10_mask 59 = .ok (.iadd, 1) := by decide +kernel
theorem dX10_mask_60 : decode cX10_mask 60 = .ok (.putfield 84, 3) := by decide +kernel
theorem dX10_mask_63 : decode cX10_mask 63 = .ok (.iconst 1, 1) := by decide +kernel
theorem dX10_mask_64 : decode cX10_mask 64 = .ok (.ireturn, 1) := by decide +kernel
theorem dX10_next_0 : decode cX10_next 0 = .ok (.aload_n 0, 1) := by decide +kernel
theorem dX10_next_1 : decode cX10_next 1 = .ok (.iload_n 1, 1) := by decide +kernel
theorem dX10_next_2 : decode cX10_next 2 = .ok (.invokevirtual 259, 3) := by decide +kernel
theorem dX10_next_5 : decode cX10_next 5 = .ok (.ifnull 22, 3) := by decide +kernel
theorem dX10_next_8 : decode cX10_next 8 = .ok (.aload_n 0, 1) := by decide +kernel
theorem dX10_next_9 : decode cX10_next 9 = .ok (.iload_n 2, 1) := by decide +kernel
theorem dX10_next_10 : decode cX10_next 10 = .ok (.invokevirtual 137, 3) := by decide +kernel
theorem dX10_next_13 : decode cX10_next 13 = .ok (.ifCond .eq 14, 3) := by decide +kernel
theorem dX10_next_16 : decode cX10_next 16 = .ok (.iload_n 3, 1) := by decide +kernel
theorem dX10_next_17 : decode cX10_next 17 = .ok (.iconst 0, 1) := by decide +kernel
theorem dX10_next_18 : decode cX10_next 18 = .ok (.ldc_w 314, 3) := by decide +kernel
theorem dX10_next_21 : decode cX10_next 21 = .ok (.invokestatic 100, 3) := by decide +kernel
theorem dX10_next_24 : decode cX10_next 24 = .ok (.ifCond .ne 5, 3) := by decide +kernel
theorem dX10_next_27 : decode cX10_next 27 = .ok (.iconst (-1), 1) := by decide +kernel
theorem dX10_next_28 : decode cX10_next 28 = .ok (.ireturn, 1) := by decide +kernel
theorem dX10_next_29 : decode cX10_next 29 = .ok (.aload_n 0, 1) := by decide +kernel
theorem dX10_next_30 : decode cX10_next 30 = .ok (.iload_n 1, 1) := by decide +kernel
theorem dX10_next_31 : decode cX10_next 31 = .ok (.iload_n 2, 1) := by decide +kernel
theorem dX10_next_32 : decode cX10_next 32 = .ok (.iconst 0, 1) := by decide +kernel
theorem dX10_next_33 : decode cX10_next 33 = .ok (.invokevirtual 264, 3) := by decide +kernel
theorem dX10_next_36 : decode cX10_next 36 = .ok (.astore 4, 2) := by decide +kernel
theorem dX10_next_38 : decode cX10_next 38 = .ok (.aload 4, 2) := by decide +kernel
theorem dX10_next_40 : decode cX10_next 40 = .ok (.invokevirtual 315, 3) := by decide +kernel
theorem dX10_next_43 : decode cX10_next 43 = .ok (.ifCond .eq 6, 3) := by decide +kernel
theorem dX10_next_46 : decode cX10_next 46 = .ok (.bipush (-2), 2) := by decide +kernel
theorem dX10_next_48 : decode cX10_next 48 = .ok (.ireturn, 1) := by decide +kernel
theorem dX10_next_49 : decode cX10_next 49 = .ok (.iload_n 3, 1) := by decide +kernel
theorem dX10_next_50 : decode cX10_next 50 = .ok (.aload 4, 2) := by decide +kernel
theorem dX10_next_52 : decode cX10_next 52 = .ok (.getfield 333, 3) := by decide +kernel
theorem dX10_next_55 : decode cX10_next 55 = .ok (.if_icmp .gt 9, 3) := by decide +kernel
theorem dX10_next_58 : decode cX10_next 58 = .ok (.aload 4, 2) := by decide +kernel
theorem dX10_next_60 : decode cX10_next 60 = .ok (.getfield 333, 3) := by decide +kernel
theorem dX10_next_63 : decode cX10_next 63 = .ok (.ireturn, 1) := by decide +kernel
theorem dX10_next_64 : decode cX10_next 64 = .ok (.iload_n 3, 1) := by decide +kernel
theorem dX10_next_65 : decode cX10_next 65 = .ok (.aload 4, 2) := by decide +kernel
theorem dX10_next_67 : decode cX10_next 67 = .ok (.getfield 333, 3) := by decide +kernel
theorem dX10_next_70 : decode cX10_next 70 = .ok (.isub, 1) := by decide +kernel
theorem dX10_next_71 : decode cX10_next 71 = .ok (.aload 4, 2) := by decide +kernel
theorem dX10_next_73 : decode cX10_next 73 = .ok (.getfield 336, 3) := by decide +kernel
theorem dX10_next_76 : decode cX10_next 76 = .ok (.iadd, 1) := by decide +kernel
theorem dX10_next_77 : decode cX10_next 77 = .ok (.iconst 1, 1) := by decide +kernel
theorem dX10_next_78 : decode cX10_next 78 = .ok (.isub, 1) := by decide +kernel
theorem dX10_next_79 : decode cX10_next 79 = .ok (.aload 4, 2) := by decide +kernel
theorem dX10_next_81 : decode cX10_next 81 = .ok (.getfield 336, 3) := by decide +kernel
theorem dX10_next_84 : decode cX10_next 84 = .ok (.idiv, 1) := by decide +kernel
theorem dX10_next_85 : decode cX10_next 85 = .ok (.istore 5, 2) := by decide +kernel
theorem dX10_next_87 : decode cX10_next 87 = .ok (.aload 4, 2) := by decide +kernel
theorem dX10_next_89 : decode cX10_next 89 = .ok (.getfield 333, 3) := by decide +kernel
theorem dX10_next_92 : decode cX10_next 92 = .ok (.iload 5, 2) := by decide +kernel
theorem dX10_next_94 : decode cX10_next 94 = .ok (.aload 4, 2) := by decide +kernel
theorem dX10_next_96 : decode cX10_next 96 = .ok (.getfield 336, 3) := by decide +kernel
theorem dX10_next_99 : decode cX10_next 99 = .ok (.imul, 1) := by decide +kernel
theorem dX10_next_100 : decode cX10_next 100 = .ok (.iadd, 1) := by decide +kernel
theorem dX10_next_101 : decode cX10_next 101 = .ok (.ireturn, 1) := by decide +kernel
theorem dX10_nights_0 : decode cX10_nights 0 = .ok (.iload_n 1, 1) := by decide +kernel
theorem dX10_nights_1 : decode cX10_nights 1 = .ok (.iconst 0, 1) := by decide +kernel
theorem dX10_nights_2 : decode cX10_nights 2 = .ok (.sipush 9999, 3) := by decide +kernel
theorem dX10_nights_5 : decode cX10_nights 5 = .ok (.invokestatic 100, 3) := by decide +kernel
theorem dX10_nights_8 : decode cX10_nights 8 = .ok (.ifCond .eq 12, 3) := by decide +kernel
theorem dX10_nights_11 : decode cX10_nights 11 = .ok (.iload_n 2, 1) := by decide +kernel
theorem dX10_nights_12 : decode cX10_nights 12 = .ok (.iconst 0, 1) := by decide +kernel
theorem dX10_nights_13 : decode cX10_nights 13 = .ok (.iconst 1, 1) := by decide +kernel
theorem dX10_nights_14 : decode cX10_nights 14 = .ok (.invokestatic 100, 3) := by decide +kernel
theorem dX10_nights_17 : decode cX10_nights 17 = .ok (.ifCond .ne 5, 3) := by decide +kernel
theorem dX10_nights_20 : decode cX10_nights 20 = .ok (.iconst (-1), 1) := by decide +kernel
theorem dX10_nights_21 : decode cX10_nights 21 = .ok (.ireturn, 1) := by decide +kernel
theorem dX10_nights_22 : decode cX10_nights 22 = .ok (.iconst 0, 1) := by decide +kernel
theorem dX10_nights_23 : decode cX10_nights 23 = .ok (.istore_n 3, 1) := by decide +kernel
theorem dX10_nights_24 : decode cX10_nights 24 = .ok (.iconst 0, 1) := by decide +kernel
theorem dX10_nights_25 : decode cX10_nights 25 = .ok (.istore 4, 2) := by decide +kernel
theorem dX10_nights_27 : decode cX10_nights 27 = .ok (.iconst 0, 1) := by decide +kernel
theorem dX10_nights_28 : decode cX10_nights 28 = .ok (.istore 5, 2) := by decide +kernel
theorem dX10_nights_30 : decode cX10_nights 30 = .ok (.iconst 0, 1) := by decide +kernel
theorem dX10_nights_31 : decode cX10_nights 31 = .ok (.istore 6, 2) := by decide +kernel
theorem dX10_nights_33 : decode cX10_nights 33 = .ok (.iconst 0, 1) := by decide +kernel
theorem dX10_nights_34 : decode cX10_nights 34 = .ok (.istore 7, 2) := by decide +kernel
theorem dX10_nights_36 : decode cX10_nights 36 = .ok (.iconst 1, 1) := by decide +kernel
theorem dX10_nights_37 : decode cX10_nights 37 = .ok (.istore 8, 2) := by decide +kernel
theorem dX10_nights_39 : decode cX10_nights 39 = .ok (.iload 8, 2) := by decide +kernel
theorem dX10_nights_41 : decode cX10_nights 41 = .ok (.iconst 1, 1) := by decide +kernel
theorem dX10_nights_42 : decode cX10_nights 42 = .ok (.aload_n 0, 1) := by decide +kernel
theorem dX10_nights_43 : decode cX10_nights 43 = .ok (.getfield 10, 3) := by decide +kernel
theorem dX10_nights_46 : decode cX10_nights 46 = .ok (.getfield 413, 3) := by decide +kernel
theorem dX10_nights_49 : decode cX10_nights 49 = .ok (.ishl, 1) := by decide +kernel
theorem dX10_nights_50 : decode cX10_nights 50 = .ok (.if_icmp .ge 101, 3) := by decide +kernel
theorem dX10_nights_53 : decode cX10_nights 53 = .ok (.iload 6, 2) := by decide +kernel
theorem dX10_nights_55 : decode cX10_nights 55 = .ok (.aload_n 0, 1) := by decide +kernel
theorem dX10_nights_56 : decode cX10_nights 56 = .ok (.getfield 10, 3) := by decide +kernel
theorem dX10_nights_59 : decode cX10_nights 59 = .ok (.aload_n 0, 1) := by decide +kernel
theorem dX10_nights_60 : decode cX10_nights 60 = .ok (.getfield 10, 3) := by decide +kernel
theorem dX10_nights_63 : decode cX10_nights 63 = .ok (.getfield 416, 3) := by decide +kernel
theorem dX10_nights_66 : decode cX10_nights 66 = .ok (.iload 8, 2) := by decide +kernel
theorem dX10_nights_68 : decode cX10_nights 68 = .ok (.invokevirtual 422, 3) := by decide +kernel
theorem dX10_nights_71 : decode cX10_nights 71 = .ok (.iadd, 1) := by decide +kernel
theorem dX10_nights_72 : decode cX10_nights 72 = .ok (.istore 6, 2) := by decide +kernel
theorem dX10_nights_74 : decode cX10_nights 74 = .ok (.iload 7, 2) := by decide +kernel
theorem dX10_nights_76 : decode cX10_nights 76 = .ok (.aload_n 0, 1) := by decide +kernel
theorem dX10_nights_77 : decode cX10_nights 77 = .ok (.getfield 10, 3) := by decide +kernel
theorem dX10_nights_80 : decode cX10_nights 80 = .ok (.aload_n 0, 1) := by decide +kernel
theorem dX10_nights_81 : decode cX10_nights 81 = .ok (.getfield 10, 3) := by decide +kernel
theorem dX10_nights_84 : decode cX10_nights 84 = .ok (.getfield 419, 3) := by decide +kernel
theorem dX10_nights_87 : decode cX10_nights 87 = .ok (.iload 8, 2) := by decide +kernel
theorem dX10_nights_89 : decode cX10_nights 89 = .ok (.invokevirtual 422, 3) := by decide +kernel
theorem dX10_nights_92 : decode cX10_nights 92 = .ok (.iadd, 1) := by decide +kernel
theorem dX10_nights_93 : decode cX10_nights 93 = .ok (.istore 7, 2) := by decide +kernel
theorem dX10_nights_95 : decode cX10_nights 95 = .ok (.iload 7, 2) := by decide +kernel
theorem dX10_nights_97 : decode cX10_nights 97 = .ok (.iload 4, 2) := by decide +kernel
theorem dX10_nights_99 : decode cX10_nights 99 = .ok (.if_icmp .gt 17, 3) := by decide +kernel
theorem dX10_nights_102 : decode cX10_nights 102 = .ok (.iload 7, 2) := by decide +kernel
theorem dX10_nights_104 : decode cX10_nights 104 = .ok (.iload 4, 2) := by decide +kernel
theorem dX10_nights_106 : decode cX10_nights 106 = .ok (.if_icmp .ne 14, 3) := by decide +kernel
theorem dX10_nights_109 : decode cX10_nights 109 = .ok (.iload 6, 2) := by decide +kernel
theorem dX10_nights_111 : decode cX10_nights 111 = .ok (.iload 5, 2) := by decide +kernel
theorem dX10_nights_113 : decode cX10_nights 113 = .ok (.if_icmp .ge 7, 3) := by decide +kernel
theorem dX10_nights_116 : decode cX10_nights 116 = .ok (.iconst 1, 1) := by decide +kernel
theorem dX10_nights_117 : decode cX10_nights 117 = .ok (.goto 4, 3) := by decide +kernel
theorem dX10_nights_120 : decode cX10_nights 120 = .ok (.iconst 0, 1) := by decide +kernel
theorem dX10_nights_121 : decode cX10_nights 121 = .ok (.istore 9, 2) := by decide +kernel
theorem dX10_nights_123 : decode cX10_nights 123 = .ok (.iload 6, 2) := by decide +kernel
theorem dX10_nights_125 : decode cX10_nights 125 = .ok (.iload_n 1, 1) := by decide +kernel
theorem dX10_nights_126 : decode cX10_nights 126 = .ok (.if_icmp .gt 19, 3) := by decide +kernel
theorem dX10_nights_129 : decode cX10_nights 129 = .ok (.iload 9, 2) := by decide +kernel
theorem dX10_nights_131 : decode cX10_nights 131 = .ok (.ifCond .eq 14, 3) := by decide +kernel
theorem dX10_nights_134 : decode cX10_nights 134 = .ok (.iload 8, 2) := by decide +kernel
theorem dX10_nights_136 : decode cX10_nights 136 = .ok (.istore_n 3, 1) := by decide +kernel
theorem dX10_nights_137 : decode cX10_nights 137 = .ok (.iload 7, 2) := by decide +kernel
theorem dX10_nights_139 : decode cX10_nights 139 = .ok (.istore 4, 2) := by decide +kernel
theorem dX10_nights_141 : decode cX10_nights 141 = .ok (.iload 6, 2) := by decide +kernel
theorem dX10_nights_143 : decode cX10_nights 143 = .ok (.istore 5, 2) := by decide +kernel
theorem dX10_nights_145 : decode cX10_nights 145 = .ok (.iinc 8 1, 3) := by decide +kernel
theorem dX10_nights_148 : decode cX10_nights 148 = .ok (.goto (-109), 3) := by decide +kernel
theorem dX10_nights_151 : decode cX10_nights 151 = .ok (.iload_n 2, 1) := by decide +kernel
theorem dX10_nights_152 : decode cX10_nights 152 = .ok (.ifCond .ne 7, 3) := by decide +kernel
theorem dX10_nights_155 : decode cX10_nights 155 = .ok (.iload_n 3, 1) := by decide +kernel
theorem dX10_nights_156 : decode cX10_nights 156 = .ok (.goto 5, 3) := by decide +kernel
theorem dX10_nights_159 : decode cX10_nights 159 = .ok (.iload 4, 2) := by decide +kernel
theorem dX10_nights_161 : decode cX10_nights 161 = .ok (.ireturn, 1) := by decide +kernel
theorem dX10_odds_0 : decode cX10_odds 0 = .ok (.iload 4, 2) := by decide +kernel
theorem dX10_odds_2 : decode cX10_odds 2 = .ok (.iconst 0, 1) := by decide +kernel
theorem dX10_odds_3 : decode cX10_odds 3 = .ok (.iconst 4, 1) := by decide +kernel
theorem dX10_odds_4 : decode cX10_odds 4 = .ok (.invokestatic 100, 3) := by decide +kernel
theorem dX10_odds_7 : decode cX10_odds 7 = .ok (.ifCond .eq 17, 3) := by decide +kernel
theorem dX10_odds_10 : decode cX10_odds 10 = .ok (.iload 5, 2) := by decide +kernel
theorem dX10_odds_12 : decode cX10_odds 12 = .ok (.iconst 0, 1) := by decide +kernel
theorem dX10_odds_13 : decode cX10_odds 13 = .ok (.iconst 1, 1) := by decide +kernel
theorem dX10_odds_14 : decode cX10_odds 14 = .ok (.invokestatic 100, 3) := by decide +kernel
theorem dX10_odds_17 : decode cX10_odds 17 = .ok (.ifCond .eq 7, 3) := by decide +kernel
theorem dX10_odds_20 : decode cX10_odds 20 = .ok (.iconst 1, 1) := by decide +kernel
theorem dX10_odds_21 : decode cX10_odds 21 = .ok (.goto 4, 3) := by decide +kernel
theorem dX10_odds_24 : decode cX10_odds 24 = .ok (.iconst 0, 1) := by decide +kernel
theorem dX10_odds_25 : decode cX10_odds 25 = .ok (.istore 6, 2) := by decide +kernel
theorem dX10_odds_27 : decode cX10_odds 27 = .ok (.iload 6, 2) := by decide +kernel
theorem dX10_odds_29 : decode cX10_odds 29 = .ok (.ifCond .eq 13, 3) := by decide +kernel
theorem dX10_odds_32 : decode cX10_odds 32 = .ok (.aload_n 0, 1) := by decide +kernel
theorem dX10_odds_33 : decode cX10_odds 33 = .ok (.iload_n 1, 1) := by decide +kernel
theorem dX10_odds_34 : decode cX10_odds 34 = .ok (.iload_n 2, 1) := by decide +kernel
theorem dX10_odds_35 : decode cX10_odds 35 = .ok (.iload_n 3, 1) := by decide +kernel
theorem dX10_odds_36 : decode cX10_odds 36 = .ok (.invokevirtual 343, 3) := by decide +kernel
theorem dX10_odds_39 : decode cX10_odds 39 = .ok (.ifCond .ne 5, 3) := by decide +kernel
theorem dX10_odds_42 : decode cX10_odds 42 = .ok (.iconst (-1), 1) := by decide +kernel
theorem dX10_odds_43 : decode cX10_odds 43 = .ok (.ireturn, 1) := by decide +kernel
theorem dX10_odds_44 : decode cX10_odds 44 = .ok (.iconst 0, 1) := by decide +kernel
theorem dX10_odds_45 : decode cX10_odds 45 = .ok (.istore 7, 2) := by decide +kernel
theorem dX10_odds_47 : decode cX10_odds 47 = .ok (.iconst 0, 1) := by decide +kernel
theorem dX10_odds_48 : decode cX10_odds 48 = .ok (.istore 8, 2) := by decide +kernel
theorem dX10_odds_50 : decode cX10_odds 50 = .ok (.iload 8, 2) := by decide +kernel
theorem dX10_odds_52 : decode cX10_odds 52 = .ok (.iconst 5, 1) := by decide +kernel
theorem dX10_odds_53 : decode cX10_odds 53 = .ok (.if_icmp .ge 21, 3) := by decide +kernel
theorem dX10_odds_56 : decode cX10_odds 56 = .ok (.iload 7, 2) := by decide +kernel
theorem dX10_odds_58 : decode cX10_odds 58 = .ok (.aload_n 0, 1) := by decide +kernel
theorem dX10_odds_59 : decode cX10_odds 59 = .ok (.getfield 92, 3) := by decide +kernel
theorem dX10_odds_62 : decode cX10_odds 62 = .ok (.iload 8, 2) := by decide +kernel
theorem dX10_odds_64 : decode cX10_odds 64 = .ok (.iaload, 1) := by decide +kernel
theorem dX10_odds_65 : decode cX10_odds 65 = .ok (.iadd, 1) := by decide +kernel
theorem dX10_odds_66 : decode cX10_odds 66 = .ok (.istore 7, 2) := by decide +kernel
theorem dX10_odds_68 : decode cX10_odds 68 = .ok (.iinc 8 1, 3) := by decide +kernel
theorem dX10_odds_71 : decode cX10_odds 71 = .ok (.goto (-21), 3) := by decide +kernel
theorem dX10_odds_74 : decode cX10_odds 74 = .ok (.aload_n 0, 1) := by decide +kernel
theorem dX10_odds_75 : decode cX10_odds 75 = .ok (.getfield 92, 3) := by decide +kernel
theorem dX10_odds_78 : decode cX10_odds 78 = .ok (.iload 4, 2) := by decide +kernel
theorem dX10_odds_80 : decode cX10_odds 80 = .ok (.iaload, 1) := by decide +kernel
theorem dX10_odds_81 : decode cX10_odds 81 = .ok (.iload 7, 2) := by decide +kernel
theorem dX10_odds_83 : decode cX10_odds 83 = .ok (.iload 5, 2) := by decide +kernel
theorem dX10_odds_85 : decode cX10_odds 85 = .ok (.invokestatic 307, 3) := by decide +kernel
theorem dX10_odds_88 : decode cX10_odds 88 = .ok (.ireturn, 1) := by decide +kernel
theorem dX10_order_0 : decode cX10_order 0 = .ok (.iload_n 1, 1) := by decide +kernel
theorem dX10_order_1 : decode cX10_order 1 = .ok (.iconst 0, 1) := by decide +kernel
theorem dX10_order_2 : decode cX10_order 2 = .ok (.bipush 23, 2) := by decide +kernel
theorem dX10_order_4 : decode cX10_order 4 = .ok (.invokestatic 100, 3) := by decide +kernel
theorem dX10_order_7 : decode cX10_order 7 = .ok (.ifCond .ne 5, 3) := by decide +kernel
theorem dX10_order_10 : decode cX10_order 10 = .ok (.iconst (-1), 1) := by decide +kernel
theorem dX10_order_11 : decode cX10_order 11 = .ok (.ireturn, 1) := by decide +kernel
theorem dX10_order_12 : decode cX10_order 12 = .ok (.aload_n 0, 1) := by decide +kernel
theorem dX10_order_13 : decode cX10_order 13 = .ok (.getfield 10, 3) := by decide +kernel
theorem dX10_order_16 : decode cX10_order 16 = .ok (.getfield 134, 3) := by decide +kernel
theorem dX10_order_19 : decode cX10_order 19 = .ok (.istore_n 2, 1) := by decide +kernel
theorem dX10_order_20 : decode cX10_order 20 = .ok (.aload_n 0, 1) := by decide +kernel
theorem dX10_order_21 : decode cX10_order 21 = .ok (.getfield 10, 3) := by decide +kernel
theorem dX10_order_24 : decode cX10_order 24 = .ok (.iload_n 1, 1) := by decide +kernel
theorem dX10_order_25 : decode cX10_order 25 = .ok (.putfield 134, 3) := by decide +kernel
theorem dX10_order_28 : decode cX10_order 28 = .ok (.aload_n 0, 1) := by decide +kernel
theorem dX10_order_29 : decode cX10_order 29 = .ok (.dup, 1) := by decide +kernel
theorem dX10_order_30 : decode cX10_order 30 = .ok (.getfield 84, 3) := by decide +kernel
theorem dX10_order_33 : decode cX10_order 33 = .ok (.iconst 1, 1) := by decide +kernel
theorem dX10_order_34 : decode cX10_order 34 = .ok (.iadd, 1) := by decide +kernel
theorem dX10_order_35 : decode cX10_order 35 = .ok (.putfield 84, 3) := by decide +kernel
theorem dX10_order_38 : decode cX10_order 38 = .ok (.iload_n 2, 1) := by decide +kernel
theorem dX10_order_39 : decode cX10_order 39 = .ok (.ireturn, 1) := by decide +kernel
theorem dX10_other_0 : decode cX10_other 0 = .ok (.aload_n 0, 1) := by decide +kernel
theorem dX10_other_1 : decode cX10_other 1 = .ok (.iload_n 1, 1) := by decide +kernel
theorem dX10_other_2 : decode cX10_other 2 = .ok (.invokevirtual 259, 3) := by decide +kernel
theorem dX10_other_5 : decode cX10_other 5 = .ok (.ifnull 20, 3) := by decide +kernel
theorem dX10_other_8 : decode cX10_other 8 = .ok (.aload_n 0, 1) := by decide +kernel
theorem dX10_other_9 : decode cX10_other 9 = .ok (.iload_n 2, 1) := by decide +kernel
theorem dX10_other_10 : decode cX10_other 10 = .ok (.invokevirtual 137, 3) := by decide +kernel
theorem dX10_other_13 : decode cX10_other 13 = .ok (.ifCond .eq 12, 3) := by decide +kernel
theorem dX10_other_16 : decode cX10_other 16 = .ok (.iload_n 3, 1) := by decide +kernel
theorem dX10_other_17 : decode cX10_other 17 = .ok (.iconst 0, 1) := by decide +kernel
theorem dX10_other_18 : decode cX10_other 18 = .ok (.iconst 1, 1) := by decide +kernel
theorem dX10_other_19 : decode cX10_other 19 = .ok (.invokestatic 100, 3) := by decide +kernel
theorem dX10_other_22 : decode cX10_other 22 = .ok (.ifCond .ne 6, 3) := by decide +kernel
theorem dX10_other_25 : decode cX10_other 25 = .ok (.bipush (-3), 2) := by decide +kernel
theorem dX10_other_27 : decode cX10_other 27 = .ok (.ireturn, 1) := by decide +kernel
theorem dX10_other_28 : decode cX10_other 28 = .ok (.aload_n 0, 1) := by decide +kernel
theorem dX10_other_29 : decode cX10_other 29 = .ok (.iload_n 1, 1) := by decide +kernel
theorem dX10_other_30 : decode cX10_other 30 = .ok (.iload_n 2, 1) := by decide +kernel
theorem dX10_other_31 : decode cX10_other 31 = .ok (.iconst 0, 1) := by decide +kernel
theorem dX10_other_32 : decode cX10_other 32 = .ok (.invokevirtual 264, 3) := by decide +kernel
theorem dX10_other_35 : decode cX10_other 35 = .ok (.astore 4, 2) := by decide +kernel
theorem dX10_other_37 : decode cX10_other 37 = .ok (.aload 4, 2) := by decide +kernel
theorem dX10_other_39 : decode cX10_other 39 = .ok (.invokevirtual 315, 3) := by decide +kernel
theorem dX10_other_42 : decode cX10_other 42 = .ok (.ifCond .eq 6, 3) := by decide +kernel
theorem dX10_other_45 : decode cX10_other 45 = .ok (.bipush (-2), 2) := by decide +kernel
theorem dX10_other_47 : decode cX10_other 47 = .ok (.ireturn, 1) := by decide +kernel
theorem dX10_other_48 : decode cX10_other 48 = .ok (.aload_n 0, 1) := by decide +kernel
theorem dX10_other_49 : decode cX10_other 49 = .ok (.getfield 49, 3) := by decide +kernel
theorem dX10_other_52 : decode cX10_other 52 = .ok (.aload_n 0, 1) := by decide +kernel
theorem dX10_other_53 : decode cX10_other 53 = .ok (.getfield 10, 3) := by decide +kernel
theorem dX10_other_56 : decode cX10_other 56 = .ok (.iload_n 2, 1) := by decide +kernel
theorem dX10_other_57 : decode cX10_other 57 = .ok (.iconst 0, 1) := by decide +kernel
theorem dX10_other_58 : decode cX10_other 58 = .ok (.invokevirtual 143, 3) := by decide +kernel
theorem dX10_other_61 : decode cX10_other 61 = .ok (.aload_n 0, 1) := by decide +kernel
theorem dX10_other_62 : decode cX10_other 62 = .ok (.getfield 63, 3) := by decide +kernel
theorem dX10_other_65 : decode cX10_other 65 = .ok (.aload_n 0, 1) := by decide +kernel
theorem dX10_other_66 : decode cX10_other 66 = .ok (.getfield 49, 3) := by decide +kernel
theorem dX10_other_69 : decode cX10_other 69 = .ok (.aload 4, 2) := by decide +kernel
theorem dX10_other_71 : decode cX10_other 71 = .ok (.invokevirtual 399, 3) := by decide +kernel
theorem dX10_other_74 : decode cX10_other 74 = .ok (.iload_n 3, 1) := by decide +kernel
theorem dX10_other_75 : decode cX10_other 75 = .ok (.ifCond .ne 13, 3) := by decide +kernel
theorem dX10_other_78 : decode cX10_other 78 = .ok (.aload_n 0, 1) := by decide +kernel
theorem dX10_other_79 : decode cX10_other 79 = .ok (.getfield 63, 3) := by decide +kernel
theorem dX10_other_82 : decode cX10_other 82 = .ok (.invokevirtual 402, 3) := by decide +kernel
theorem dX10_other_85 : decode cX10_other 85 = .ok (.goto 10, 3) := by decide +kernel
theorem dX10_other_88 : decode cX10_other 88 = .ok (.aload_n 0, 1) := by decide +kernel
theorem dX10_other_89 : decode cX10_other 89 = .ok (.getfield 63, 3) := by decide +kernel
theorem dX10_other_92 : decode cX10_other 92 = .ok (.invokevirtual 405, 3) := by decide +kernel
theorem dX10_other_95 : decode cX10_other 95 = .ok (.ireturn, 1) := by decide +kernel
theorem dX10_radius_0 : decode cX10_radius 0 = .ok (.aload_n 0, 1) := by decide +kernel
theorem dX10_radius_1 : decode cX10_radius 1 = .ok (.iload_n 1, 1) := by decide +kernel
theorem dX10_radius_2 : decode cX10_radius 2 = .ok (.invokevirtual 259, 3) := by decide +kernel
theorem dX10_radius_5 : decode cX10_radius 5 = .ok (.ifnull 11, 3) := by decide +kernel
theorem dX10_radius_8 : decode cX10_radius 8 = .ok (.aload_n 0, 1) := by decide +kernel
theorem dX10_radius_9 : decode cX10_radius 9 = .ok (.iload_n 2, 1) := by decide +kernel
theorem dX10_radius_10 : decode cX10_radius 10 = .ok (.invokevirtual 137, 3) := by decide +kernel
theorem dX10_radius_13 : decode cX10_radius 13 = .ok (.ifCond .ne 5, 3) := by decide +kernel
theorem dX10_radius_16 : decode cX10_radius 16 = .ok (.iconst (-1), 1) := by decide +kernel
theorem dX10_radius_17 : decode cX10_radius 17 = .ok (.ireturn, 1) := by decide +kernel
theorem dX10_radius_18 : decode cX10_radius 18 = .ok (.aload_n 0, 1) := by decide +kernel
theorem dX10_radius_19 : decode cX10_radius 19 = .ok (.iload_n 1, 1) := by decide +kernel
theorem dX10_radius_20 : decode cX10_radius 20 = .ok (.iload_n 2, 1) := by decide +kernel
theorem dX10_radius_21 : decode cX10_radius 21 = .ok (.iconst 0, 1) := by decide +kernel
theorem dX10_radius_22 : decode cX10_radius 22 = .ok (.invokevirtual 264, 3) := by decide +kernel
theorem dX10_radius_25 : decode cX10_radius 25 = .ok (.astore_n 3, 1) := by decide +kernel
theorem dX10_radius_26 : decode cX10_radius 26 = .ok (.aload_n 3, 1) := by decide +kernel
theorem dX10_radius_27 : decode cX10_radius 27 = .ok (.invokevirtual 315, 3) := by decide +kernel
theorem dX10_radius_30 : decode cX10_radius 30 = .ok (.ifCond .eq 8, 3) := by decide +kernel
theorem dX10_radius_33 : decode cX10_radius 33 = .ok (.bipush (-2), 2) := by decide +kernel
theorem dX10_radius_35 : decode cX10_radius 35 = .ok (.goto 9, 3) := by decide +kernel
theorem dX10_radius_38 : decode cX10_radius 38 = .ok (.aload_n 0, 1) := by decide +kernel
theorem dX10_radius_39 : decode cX10_radius 39 = .ok (.aload_n 3, 1) := by decide +kernel
theorem dX10_radius_40 : decode cX10_radius 40 = .ok (.iload_n 2, 1) := by decide +kernel
theorem dX10_radius_41 : decode cX10_radius 41 = .ok (.invokevirtual 385, 3) := by decide +kernel
theorem dX10_radius_44 : decode cX10_radius 44 = .ok (.ireturn, 1) := by decide +kernel
theorem dX10_radiusOf_0 : decode cX10_radiusOf 0 = .ok (.aload_n 0, 1) := by decide +kernel
theorem dX10_radiusOf_1 : decode cX10_radiusOf 1 = .ok (.getfield 10, 3) := by decide +kernel
theorem dX10_radiusOf_4 : decode cX10_radiusOf 4 = .ok (.iload_n 2, 1) := by decide +kernel
theorem dX10_radiusOf_5 : decode cX10_radiusOf 5 = .ok (.invokevirtual 457, 3) := by decide +kernel
theorem dX10_radiusOf_8 : decode cX10_radiusOf 8 = .ok (.lstore_n 3, 1) := by decide +kernel
theorem dX10_radiusOf_9 : decode cX10_radiusOf 9 = .ok (.aload_n 1, 1) := by decide +kernel
theorem dX10_radiusOf_10 : decode cX10_radiusOf 10 = .ok (.lload_n 3, 1) := by decide +kernel
theorem dX10_radiusOf_11 : decode cX10_radiusOf 11 = .ok (.invokevirtual 460, 3) := by decide +kernel
theorem dX10_radiusOf_14 : decode cX10_radiusOf 14 = .ok (.ireturn, 1) := by decide +kernel
theorem dX10_resize_0 : decode cX10_resize 0 = .ok (.aload_n 0, 1) := by decide +kernel
theorem dX10_resize_1 : decode cX10_resize 1 = .ok (.getfield 10, 3) := by decide +kernel
theorem dX10_resize_4 : decode cX10_resize 4 = .ok (.iload_n 1, 1) := by decide +kernel
theorem dX10_resize_5 : decode cX10_resize 5 = .ok (.invokevirtual 108, 3) := by decide +kernel
theorem dX10_resize_8 : decode cX10_resize 8 = .ok (.astore_n 3, 1) := by decide +kernel
theorem dX10_resize_9 : decode cX10_resize 9 = .ok (.aload_n 3, 1) := by decide +kernel
theorem dX10_resize_10 : decode cX10_resize 10 = .ok (.ifnull 10, 3) := by decide +kernel
theorem dX10_resize_13 : decode cX10_resize 13 = .ok (.iload_n 2, 1) := by decide +kernel
theorem dX10_resize_14 : decode cX10_resize 14 = .ok (.invokestatic 96, 3) := by decide +kernel
theorem dX10_resize_17 : decode cX10_resize 17 = .ok (.ifCond .ne 5, 3) := by decide +kernel
theorem dX10_resize_20 : decode cX10_resize 20 = .ok (.iconst (-1), 1) := by decide +kernel
theorem dX10_resize_21 : decode cX10_resize 21 = .ok (.ireturn, 1) := by decide +kernel
theorem dX10_resize_22 : decode cX10_resize 22 = .ok (.aload_n 3, 1) := by decide +kernel
theorem dX10_resize_23 : decode cX10_resize 23 = .ok (.getfield 122, 3) := by decide +kernel
theorem dX10_resize_26 : decode cX10_resize 26 = .ok (.istore 4, 2) := by decide +kernel
theorem dX10_resize_28 : decode cX10_resize 28 = .ok (.aload_n 3, 1) := by decide +kernel
theorem dX10_resize_29 : decode cX10_resize 29 = .ok (.iload_n 2, 1) := by decide +kernel
theorem dX10_resize_30 : decode cX10_resize 30 = .ok (.putfield 122, 3) := by decide +kernel
theorem dX10_resize_33 : decode cX10_resize 33 = .ok (.iload 4, 2) := by decide +kernel
theorem dX10_resize_35 : decode cX10_resize 35 = .ok (.ireturn, 1) := by decide +kernel
theorem dX10_room_0 : decode cX10_room 0 = .ok (.aload_n 0, 1) := by decide +kernel
theorem dX10_room_1 : decode cX10_room 1 = .ok (.iload_n 1, 1) := by decide +kernel
theorem dX10_room_2 : decode cX10_room 2 = .ok (.invokevirtual 259, 3) := by decide +kernel
theorem dX10_room_5 : decode cX10_room 5 = .ok (.astore_n 3, 1) := by decide +kernel
theorem dX10_room_6 : decode cX10_room 6 = .ok (.aload_n 0, 1) := by decide +kernel
theorem dX10_room_7 : decode cX10_room 7 = .ok (.getfield 10, 3) := by decide +kernel
theorem dX10_room_10 : decode cX10_room 10 = .ok (.iload_n 2, 1) := by decide +kernel
theorem dX10_room_11 : decode cX10_room 11 = .ok (.invokevirtual 280, 3) := by decide +kernel
theorem dX10_room_14 : decode cX10_room 14 = .ok (.astore 4, 2) := by decide +kernel
theorem dX10_room_16 : decode cX10_room 16 = .ok (.aload_n 3, 1) := by decide +kernel
theorem dX10_room_17 : decode cX10_room 17 = .ok (.ifnull 8, 3) := by decide +kernel
theorem dX10_room_20 : decode cX10_room 20 = .ok (.aload 4, 2) := by decide +kernel
theorem dX10_room_22 : decode cX10_room 22 = .ok (.ifnonnull 5, 3) := by decide +kernel
theorem dX10_room_25 : decode cX10_room 25 = .ok (.iconst (-1), 1) := by decide +kernel
theorem dX10_room_26 : decode cX10_room 26 = .ok (.ireturn, 1) := by decide +kernel
theorem dX10_room_27 : decode cX10_room 27 = .ok (.aload 4, 2) := by decide +kernel
theorem dX10_room_29 : decode cX10_room 29 = .ok (.getfield 395, 3) := by decide +kernel
theorem dX10_room_32 : decode cX10_room 32 = .ok (.aload_n 3, 1) := by decide +kernel
theorem dX10_room_33 : decode cX10_room 33 = .ok (.getfield 396, 3) := by decide +kernel
theorem dX10_room_36 : decode cX10_room 36 = .ok (.iconst 1, 1) := by decide +kernel
theorem dX10_room_37 : decode cX10_room 37 = .ok (.isub, 1) := by decide +kernel
theorem dX10_room_38 : decode cX10_room 38 = .ok (.aload 4, 2) := by decide +kernel
theorem dX10_room_40 : decode cX10_room 40 = .ok (.getfield 292, 3) := by decide +kernel
theorem dX10_room_43 : decode cX10_room 43 = .ok (.imul, 1) := by decide +kernel
theorem dX10_room_44 : decode cX10_room 44 = .ok (.iadd, 1) := by decide +kernel
theorem dX10_room_45 : decode cX10_room 45 = .ok (.iconst 1, 1) := by decide +kernel
theorem dX10_room_46 : decode cX10_room 46 = .ok (.iadd, 1) := by decide +kernel
theorem dX10_room_47 : decode cX10_room 47 = .ok (.ireturn, 1) := by decide +kernel
theorem dX10_row_0 : decode cX10_row 0 = .ok (.aload_n 0, 1) := by decide +kernel
theorem dX10_row_1 : decode cX10_row 1 = .ok (.getfield 10, 3) := by decide +kernel
theorem dX10_row_4 : decode cX10_row 4 = .ok (.iload_n 1, 1) := by decide +kernel
theorem dX10_row_5 : decode cX10_row 5 = .ok (.invokevirtual 108, 3) := by decide +kernel
theorem dX10_row_8 : decode cX10_row 8 = .ok (.astore 4, 2) := by decide +kernel
theorem dX10_row_10 : decode cX10_row 10 = .ok (.iload_n 3, 1) := by decide +kernel
theorem dX10_row_11 : decode cX10_row 11 = .ok (.ldc 112, 2) := by decide +kernel
theorem dX10_row_13 : decode cX10_row 13 = .ok (.if_icmp .eq 16, 3) := by decide +kernel
theorem dX10_row_16 : decode cX10_row 16 = .ok (.iload_n 3, 1) := by decide +kernel
theorem dX10_row_17 : decode cX10_row 17 = .ok (.sipush (-30000), 3) := by decide +kernel
theorem dX10_row_20 : decode cX10_row 20 = .ok (.sipush 30000, 3) := by decide +kernel
theorem dX10_row_23 : decode cX10_row 23 = .ok (.invokestatic 100, 3) := by decide +kernel
theorem dX10_row_26 : decode cX10_row 26 = .ok (.ifCond .eq 7, 3) := by decide +kernel
theorem dX10_row_29 : decode cX10_row 29 = .ok (.iconst 1, 1) := by decide +kernel
theorem dX10_row_30 : decode cX10_row 30 = .ok (.goto 4, 3) := by decide +kernel
theorem dX10_row_33 : decode cX10_row 33 = .ok (.iconst 0, 1) := by decide +kernel
theorem dX10_row_34 : decode cX10_row 34 = .ok (.istore 5, 2) := by decide +kernel
theorem dX10_row_36 : decode cX10_row 36 = .ok (.aload 4, 2) := by decide +kernel
theorem dX10_row_38 : decode cX10_row 38 = .ok (.ifnull 15, 3) := by decide +kernel
theorem dX10_row_41 : decode cX10_row 41 = .ok (.iload_n 2, 1) := by decide +kernel
theorem dX10_row_42 : decode cX10_row 42 = .ok (.invokestatic 113, 3) := by decide +kernel
theorem dX10_row_45 : decode cX10_row 45 = .ok (.ifCond .eq 8, 3) := by decide +kernel
theorem dX10_row_48 : decode cX10_row 48 = .ok (.iload 5, 2) := by decide +kernel
theorem dX10_row_50 : decode cX10_row 50 = .ok (.ifCond .ne 6, 3) := by decide +kernel
theorem dX10_row_53 : decode cX10_row 53 = .ok (.ldc 116, 2) := by decide +kernel
theorem dX10_row_55 : decode cX10_row 55 = .ok (.ireturn, 1) := by decide +kernel
theorem dX10_row_56 : decode cX10_row 56 = .ok (.aload 4, 2) := by decide +kernel
theorem dX10_row_58 : decode cX10_row 58 = .ok (.getfield 117, 3) := by decide +kernel
theorem dX10_row_61 : decode cX10_row 61 = .ok (.iload_n 2, 1) := by decide +kernel
theorem dX10_row_62 : decode cX10_row 62 = .ok (.iaload, 1) := by decide +kernel
theorem dX10_row_63 : decode cX10_row 63 = .ok (.istore 6, 2) := by decide +kernel
theorem dX10_row_65 : decode cX10_row 65 = .ok (.aload 4, 2) := by decide +kernel
theorem dX10_row_67 : decode cX10_row 67 = .ok (.getfield 117, 3) := by decide +kernel
theorem dX10_row_70 : decode cX10_row 70 = .ok (.iload_n 2, 1) := by decide +kernel
theorem dX10_row_71 : decode cX10_row 71 = .ok (.iload_n 3, 1) := by decide +kernel
theorem dX10_row_72 : decode cX10_row 72 = .ok (.iastore, 1) := by decide +kernel
theorem dX10_row_73 : decode cX10_row 73 = .ok (.aload_n 0, 1) := by decide +kernel
theorem dX10_row_74 : decode cX10_row 74 = .ok (.dup, 1) := by decide +kernel
theorem dX10_row_75 : decode cX10_row 75 = .ok (.getfield 84, 3) := by decide +kernel
theorem dX10_row_78 : decode cX10_row 78 = .ok (.iconst 1, 1) := by decide +kernel
theorem dX10_row_79 : decode cX10_row 79 = .ok (.iadd, 1) := by decide +kernel
theorem dX10_row_80 : decode cX10_row 80 = .ok (.putfield 84, 3) := by decide +kernel
theorem dX10_row_83 : decode cX10_row 83 = .ok (.iload 6, 2) := by decide +kernel
theorem dX10_row_85 : decode cX10_row 85 = .ok (.ireturn, 1) := by decide +kernel
theorem dX10_sameAs_0 : decode cX10_sameAs 0 = .ok (.aload_n 0, 1) := by decide +kernel
theorem dX10_sameAs_1 : decode cX10_sameAs 1 = .ok (.iload_n 1, 1) := by decide +kernel
theorem dX10_sameAs_2 : decode cX10_sameAs 2 = .ok (.invokevirtual 259, 3) := by decide +kernel
theorem dX10_sameAs_5 : decode cX10_sameAs 5 = .ok (.astore 4, 2) := by decide +kernel
theorem dX10_sameAs_7 : decode cX10_sameAs 7 = .ok (.iconst 0, 1) := by decide +kernel
theorem dX10_sameAs_8 : decode cX10_sameAs 8 = .ok (.istore 5, 2) := by decide +kernel
theorem dX10_sameAs_10 : decode cX10_sameAs 10 = .ok (.iconst 0, 1) := by decide +kernel
theorem dX10_sameAs_11 : decode cX10_sameAs 11 = .ok (.istore 6, 2) := by decide +kernel
theorem dX10_sameAs_13 : decode cX10_sameAs 13 = .ok (.iload 6, 2) := by decide +kernel
theorem dX10_sameAs_15 : decode cX10_sameAs 15 = .ok (.aload_n 0, 1) := by decide +kernel
theorem dX10_sameAs_16 : decode cX10_sameAs 16 = .ok (.getfield 10, 3) := by decide +kernel
theorem dX10_sameAs_19 : decode cX10_sameAs 19 = .ok (.getfield 352, 3) := by decide +kernel
theorem dX10_sameAs_22 : decode cX10_sameAs 22 = .ok (.if_icmp .ge 82, 3) := by decide +kernel
theorem dX10_sameAs_25 : decode cX10_sameAs 25 = .ok (.aload_n 0, 1) := by decide +kernel
theorem dX10_sameAs_26 : decode cX10_sameAs 26 = .ok (.iload_n 1, 1) := by decide +kernel
theorem dX10_sameAs_27 : decode cX10_sameAs 27 = .ok (.iload 6, 2) := by decide +kernel
theorem dX10_sameAs_29 : decode cX10_sameAs 29 = .ok (.iconst 0, 1) := by decide +kernel
theorem dX10_sameAs_30 : decode cX10_sameAs 30 = .ok (.invokevirtual 389, 3) := by decide +kernel
theorem dX10_sameAs_33 : decode cX10_sameAs 33 = .ok (.astore 7, 2) := by decide +kernel
theorem dX10_sameAs_35 : decode cX10_sameAs 35 = .ok (.aload 7, 2) := by decide +kernel
theorem dX10_sameAs_37 : decode cX10_sameAs 37 = .ok (.getfield 336, 3) := by decide +kernel
theorem dX10_sameAs_40 : decode cX10_sameAs 40 = .ok (.aload_n 3, 1) := by decide +kernel
theorem dX10_sameAs_41 : decode cX10_sameAs 41 = .ok (.getfield 336, 3) := by decide +kernel
theorem dX10_sameAs_44 : decode cX10_sameAs 44 = .ok (.if_icmp .ne 19, 3) := by decide +kernel
theorem dX10_sameAs_47 : decode cX10_sameAs 47 = .ok (.aload 7, 2) := by decide +kernel
theorem dX10_sameAs_49 : decode cX10_sameAs 49 = .ok (.getfield 333, 3) := by decide +kernel
theorem dX10_sameAs_52 : decode cX10_sameAs 52 = .ok (.aload_n 3, 1) := by decide +kernel
theorem dX10_sameAs_53 : decode cX10_sameAs 53 = .ok (.getfield 333, 3) := by decide +kernel
theorem dX10_sameAs_56 : decode cX10_sameAs 56 = .ok (.if_icmp .ne 7, 3) := by decide +kernel
theorem dX10_sameAs_59 : decode cX10_sameAs 59 = .ok (.iconst 1, 1) := by decide +kernel
theorem dX10_sameAs_60 : decode cX10_sameAs 60 = .ok (.goto 4, 3) := by decide +kernel
theorem dX10_sameAs_63 : decode cX10_sameAs 63 = .ok (.iconst 0, 1) := by decide +kernel
theorem dX10_sameAs_64 : decode cX10_sameAs 64 = .ok (.istore 8, 2) := by decide +kernel
theorem dX10_sameAs_66 : decode cX10_sameAs 66 = .ok (.iload 6, 2) := by decide +kernel
theorem dX10_sameAs_68 : decode cX10_sameAs 68 = .ok (.iload_n 2, 1) := by decide +kernel
theorem dX10_sameAs_69 : decode cX10_sameAs 69 = .ok (.if_icmp .eq 29, 3) := by decide +kernel
theorem dX10_sameAs_72 : decode cX10_sameAs 72 = .ok (.aload 4, 2) := by decide +kernel
theorem dX10_sameAs_74 : decode cX10_sameAs 74 = .ok (.ifnull 24, 3) := by decide +kernel
theorem dX10_sameAs_77 : decode cX10_sameAs 77 = .ok (.aload 7, 2) := by decide +kernel
theorem dX10_sameAs_79 : decode cX10_sameAs 79 = .ok (.aload 4, 2) := by decide +kernel
theorem dX10_sameAs_81 : decode cX10_sameAs 81 = .ok (.getfield 268, 3) := by decide +kernel
theorem dX10_sameAs_84 : decode cX10_sameAs 84 = .ok (.invokevirtual 392, 3) := by decide +kernel
theorem dX10_sameAs_87 : decode cX10_sameAs 87 = .ok (.ifCond .eq 11, 3) := by decide +kernel
theorem dX10_sameAs_90 : decode cX10_sameAs 90 = .ok (.iload 8, 2) := by decide +kernel
theorem dX10_sameAs_92 : decode cX10_sameAs 92 = .ok (.ifCond .eq 6, 3) := by decide +kernel
