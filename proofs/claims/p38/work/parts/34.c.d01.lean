theorem dX4_operand_12 : decode cX4_operand 12 = .ok (.isub, 1) := by decide +kernel
theorem dX4_operand_13 : decode cX4_operand 13 = .ok (.istore_n 2, 1) := by decide +kernel
theorem dX4_operand_14 : decode cX4_operand 14 = .ok (.iload_n 2, 1) := by decide +kernel
theorem dX4_operand_15 : decode cX4_operand 15 = .ok (.aload_n 1, 1) := by decide +kernel
theorem dX4_operand_16 : decode cX4_operand 16 = .ok (.arraylength, 1) := by decide +kernel
theorem dX4_operand_17 : decode cX4_operand 17 = .ok (.if_icmp .ge 9, 3) := by decide +kernel
theorem dX4_operand_20 : decode cX4_operand 20 = .ok (.aload_n 1, 1) := by decide +kernel
theorem dX4_operand_21 : decode cX4_operand 21 = .ok (.iload_n 2, 1) := by decide +kernel
theorem dX4_operand_22 : decode cX4_operand 22 = .ok (.laload, 1) := by decide +kernel
theorem dX4_operand_23 : decode cX4_operand 23 = .ok (.goto 4, 3) := by decide +kernel
theorem dX4_operand_26 : decode cX4_operand 26 = .ok (.lconst 0, 1) := by decide +kernel
theorem dX4_operand_27 : decode cX4_operand 27 = .ok (.lreturn, 1) := by decide +kernel
theorem dX4_run_0 : decode cX4_run 0 = .ok (.iconst 0, 1) := by decide +kernel
theorem dX4_run_1 : decode cX4_run 1 = .ok (.istore 5, 2) := by decide +kernel
theorem dX4_run_3 : decode cX4_run 3 = .ok (.iconst 0, 1) := by decide +kernel
theorem dX4_run_4 : decode cX4_run 4 = .ok (.iload_n 2, 1) := by decide +kernel
theorem dX4_run_5 : decode cX4_run 5 = .ok (.invokestatic 42, 3) := by decide +kernel
theorem dX4_run_8 : decode cX4_run 8 = .ok (.istore 6, 2) := by decide +kernel
theorem dX4_run_10 : decode cX4_run 10 = .ok (.iload 6, 2) := by decide +kernel
theorem dX4_run_12 : decode cX4_run 12 = .ok (.iload_n 3, 1) := by decide +kernel
theorem dX4_run_13 : decode cX4_run 13 = .ok (.if_icmp .ge 147, 3) := by decide +kernel
theorem dX4_run_16 : decode cX4_run 16 = .ok (.iload 6, 2) := by decide +kernel
theorem dX4_run_18 : decode cX4_run 18 = .ok (.sipush 400, 3) := by decide +kernel
theorem dX4_run_21 : decode cX4_run 21 = .ok (.if_icmp .ge 139, 3) := by decide +kernel
theorem dX4_run_24 : decode cX4_run 24 = .ok (.aload_n 1, 1) := by decide +kernel
theorem dX4_run_25 : decode cX4_run 25 = .ok (.getfield 48, 3) := by decide +kernel
theorem dX4_run_28 : decode cX4_run 28 = .ok (.iload 6, 2) := by decide +kernel
theorem dX4_run_30 : decode cX4_run 30 = .ok (.iaload, 1) := by decide +kernel
theorem dX4_run_31 : decode cX4_run 31 = .ok (.istore 7, 2) := by decide +kernel
theorem dX4_run_33 : decode cX4_run 33 = .ok (.iload 7, 2) := by decide +kernel
theorem dX4_run_35 : decode cX4_run 35 = .ok (.ldc 51, 2) := by decide +kernel
theorem dX4_run_37 : decode cX4_run 37 = .ok (.if_icmp .ge 33, 3) := by decide +kernel
theorem dX4_run_40 : decode cX4_run 40 = .ok (.iload 5, 2) := by decide +kernel
theorem dX4_run_42 : decode cX4_run 42 = .ok (.aload_n 0, 1) := by decide +kernel
theorem dX4_run_43 : decode cX4_run 43 = .ok (.getfield 9, 3) := by decide +kernel
theorem dX4_run_46 : decode cX4_run 46 = .ok (.arraylength, 1) := by decide +kernel
theorem dX4_run_47 : decode cX4_run 47 = .ok (.if_icmp .ge 23, 3) := by decide +kernel
theorem dX4_run_50 : decode cX4_run 50 = .ok (.aload_n 0, 1) := by decide +kernel
theorem dX4_run_51 : decode cX4_run 51 = .ok (.getfield 9, 3) := by decide +kernel
theorem dX4_run_54 : decode cX4_run 54 = .ok (.iload 5, 2) := by decide +kernel
theorem dX4_run_56 : decode cX4_run 56 = .ok (.iload 7, 2) := by decide +kernel
theorem dX4_run_58 : decode cX4_run 58 = .ok (.aload 4, 2) := by decide +kernel
theorem dX4_run_60 : decode cX4_run 60 = .ok (.invokestatic 52, 3) := by decide +kernel
theorem dX4_run_63 : decode cX4_run 63 = .ok (.lastore, 1) := by decide +kernel
theorem dX4_run_64 : decode cX4_run 64 = .ok (.iinc 5 1, 3) := by decide +kernel
theorem dX4_run_67 : decode cX4_run 67 = .ok (.goto 87, 3) := by decide +kernel
theorem dX4_run_70 : decode cX4_run 70 = .ok (.iload 7, 2) := by decide +kernel
theorem dX4_run_72 : decode cX4_run 72 = .ok (.ldc 56, 2) := by decide +kernel
theorem dX4_run_74 : decode cX4_run 74 = .ok (.if_icmp .ne 31, 3) := by decide +kernel
theorem dX4_run_77 : decode cX4_run 77 = .ok (.iload 5, 2) := by decide +kernel
theorem dX4_run_79 : decode cX4_run 79 = .ok (.ifCond .le 26, 3) := by decide +kernel
theorem dX4_run_82 : decode cX4_run 82 = .ok (.aload_n 0, 1) := by decide +kernel
theorem dX4_run_83 : decode cX4_run 83 = .ok (.getfield 9, 3) := by decide +kernel
theorem dX4_run_86 : decode cX4_run 86 = .ok (.iload 5, 2) := by decide +kernel
theorem dX4_run_88 : decode cX4_run 88 = .ok (.iconst 1, 1) := by decide +kernel
theorem dX4_run_89 : decode cX4_run 89 = .ok (.isub, 1) := by decide +kernel
theorem dX4_run_90 : decode cX4_run 90 = .ok (.lconst 1, 1) := by decide +kernel
theorem dX4_run_91 : decode cX4_run 91 = .ok (.aload_n 0, 1) := by decide +kernel
theorem dX4_run_92 : decode cX4_run 92 = .ok (.getfield 9, 3) := by decide +kernel
theorem dX4_run_95 : decode cX4_run 95 = .ok (.iload 5, 2) := by decide +kernel
theorem dX4_run_97 : decode cX4_run 97 = .ok (.iconst 1, 1) := by decide +kernel
theorem dX4_run_98 : decode cX4_run 98 = .ok (.isub, 1) := by decide +kernel
theorem dX4_run_99 : decode cX4_run 99 = .ok (.laload, 1) := by decide +kernel
theorem dX4_run_100 : decode cX4_run 100 = .ok (.lsub, 1) := by decide +kernel
theorem dX4_run_101 : decode cX4_run 101 = .ok (.lastore, 1) := by decide +kernel
theorem dX4_run_102 : decode cX4_run 102 = .ok (.goto 52, 3) := by decide +kernel
theorem dX4_run_105 : decode cX4_run 105 = .ok (.iload 7, 2) := by decide +kernel
theorem dX4_run_107 : decode cX4_run 107 = .ok (.ldc 51, 2) := by decide +kernel
theorem dX4_run_109 : decode cX4_run 109 = .ok (.if_icmp .le 45, 3) := by decide +kernel
theorem dX4_run_112 : decode cX4_run 112 = .ok (.iload 5, 2) := by decide +kernel
theorem dX4_run_114 : decode cX4_run 114 = .ok (.iconst 1, 1) := by decide +kernel
theorem dX4_run_115 : decode cX4_run 115 = .ok (.if_icmp .le 39, 3) := by decide +kernel
theorem dX4_run_118 : decode cX4_run 118 = .ok (.iinc 5 (-1), 3) := by decide +kernel
theorem dX4_run_121 : decode cX4_run 121 = .ok (.aload_n 0, 1) := by decide +kernel
theorem dX4_run_122 : decode cX4_run 122 = .ok (.getfield 9, 3) := by decide +kernel
theorem dX4_run_125 : decode cX4_run 125 = .ok (.iload 5, 2) := by decide +kernel
theorem dX4_run_127 : decode cX4_run 127 = .ok (.iconst 1, 1) := by decide +kernel
theorem dX4_run_128 : decode cX4_run 128 = .ok (.isub, 1) := by decide +kernel
theorem dX4_run_129 : decode cX4_run 129 = .ok (.iload 7, 2) := by decide +kernel
theorem dX4_run_131 : decode cX4_run 131 = .ok (.ldc 51, 2) := by decide +kernel
theorem dX4_run_133 : decode cX4_run 133 = .ok (.isub, 1) := by decide +kernel
theorem dX4_run_134 : decode cX4_run 134 = .ok (.aload_n 0, 1) := by decide +kernel
theorem dX4_run_135 : decode cX4_run 135 = .ok (.getfield 9, 3) := by decide +kernel
theorem dX4_run_138 : decode cX4_run 138 = .ok (.iload 5, 2) := by decide +kernel
theorem dX4_run_140 : decode cX4_run 140 = .ok (.iconst 1, 1) := by decide +kernel
theorem dX4_run_141 : decode cX4_run 141 = .ok (.isub, 1) := by decide +kernel
theorem dX4_run_142 : decode cX4_run 142 = .ok (.laload, 1) := by decide +kernel
theorem dX4_run_143 : decode cX4_run 143 = .ok (.aload_n 0, 1) := by decide +kernel
theorem dX4_run_144 : decode cX4_run 144 = .ok (.getfield 9, 3) := by decide +kernel
theorem dX4_run_147 : decode cX4_run 147 = .ok (.iload 5, 2) := by decide +kernel
theorem dX4_run_149 : decode cX4_run 149 = .ok (.laload, 1) := by decide +kernel
theorem dX4_run_150 : decode cX4_run 150 = .ok (.invokestatic 57, 3) := by decide +kernel
theorem dX4_run_153 : decode cX4_run 153 = .ok (.lastore, 1) := by decide +kernel
theorem dX4_run_154 : decode cX4_run 154 = .ok (.iinc 6 1, 3) := by decide +kernel
theorem dX4_run_157 : decode cX4_run 157 = .ok (.goto (-147), 3) := by decide +kernel
theorem dX4_run_160 : decode cX4_run 160 = .ok (.iload 5, 2) := by decide +kernel
theorem dX4_run_162 : decode cX4_run 162 = .ok (.ifCond .le 15, 3) := by decide +kernel
theorem dX4_run_165 : decode cX4_run 165 = .ok (.aload_n 0, 1) := by decide +kernel
theorem dX4_run_166 : decode cX4_run 166 = .ok (.getfield 9, 3) := by decide +kernel
theorem dX4_run_169 : decode cX4_run 169 = .ok (.iload 5, 2) := by decide +kernel
theorem dX4_run_171 : decode cX4_run 171 = .ok (.iconst 1, 1) := by decide +kernel
theorem dX4_run_172 : decode cX4_run 172 = .ok (.isub, 1) := by decide +kernel
theorem dX4_run_173 : decode cX4_run 173 = .ok (.laload, 1) := by decide +kernel
theorem dX4_run_174 : decode cX4_run 174 = .ok (.goto 4, 3) := by decide +kernel
theorem dX4_run_177 : decode cX4_run 177 = .ok (.lconst 0, 1) := by decide +kernel
theorem dX4_run_178 : decode cX4_run 178 = .ok (.lreturn, 1) := by decide +kernel
theorem dX4_weigh_0 : decode cX4_weigh 0 = .ok (.lconst 0, 1) := by decide +kernel
theorem dX4_weigh_1 : decode cX4_weigh 1 = .ok (.lstore 4, 2) := by decide +kernel
theorem dX4_weigh_3 : decode cX4_weigh 3 = .ok (.iconst 0, 1) := by decide +kernel
theorem dX4_weigh_4 : decode cX4_weigh 4 = .ok (.istore 6, 2) := by decide +kernel
theorem dX4_weigh_6 : decode cX4_weigh 6 = .ok (.iload 6, 2) := by decide +kernel
theorem dX4_weigh_8 : decode cX4_weigh 8 = .ok (.aload_n 1, 1) := by decide +kernel
theorem dX4_weigh_9 : decode cX4_weigh 9 = .ok (.getfield 15, 3) := by decide +kernel
theorem dX4_weigh_12 : decode cX4_weigh 12 = .ok (.if_icmp .ge 63, 3) := by decide +kernel
theorem dX4_weigh_15 : decode cX4_weigh 15 = .ok (.iload 6, 2) := by decide +kernel
theorem dX4_weigh_17 : decode cX4_weigh 17 = .ok (.bipush 12, 2) := by decide +kernel
theorem dX4_weigh_19 : decode cX4_weigh 19 = .ok (.if_icmp .ge 56, 3) := by decide +kernel
theorem dX4_weigh_22 : decode cX4_weigh 22 = .ok (.aload_n 1, 1) := by decide +kernel
theorem dX4_weigh_23 : decode cX4_weigh 23 = .ok (.getfield 36, 3) := by decide +kernel
theorem dX4_weigh_26 : decode cX4_weigh 26 = .ok (.iload 6, 2) := by decide +kernel
theorem dX4_weigh_28 : decode cX4_weigh 28 = .ok (.iaload, 1) := by decide +kernel
theorem dX4_weigh_29 : decode cX4_weigh 29 = .ok (.iload_n 2, 1) := by decide +kernel
theorem dX4_weigh_30 : decode cX4_weigh 30 = .ok (.if_icmp .ne 39, 3) := by decide +kernel
theorem dX4_weigh_33 : decode cX4_weigh 33 = .ok (.aload_n 0, 1) := by decide +kernel
theorem dX4_weigh_34 : decode cX4_weigh 34 = .ok (.aload_n 1, 1) := by decide +kernel
theorem dX4_weigh_35 : decode cX4_weigh 35 = .ok (.iload 6, 2) := by decide +kernel
theorem dX4_weigh_37 : decode cX4_weigh 37 = .ok (.aload_n 3, 1) := by decide +kernel
theorem dX4_weigh_38 : decode cX4_weigh 38 = .ok (.invokevirtual 21, 3) := by decide +kernel
theorem dX4_weigh_41 : decode cX4_weigh 41 = .ok (.ifCond .eq 28, 3) := by decide +kernel
theorem dX4_weigh_44 : decode cX4_weigh 44 = .ok (.lload 4, 2) := by decide +kernel
theorem dX4_weigh_46 : decode cX4_weigh 46 = .ok (.aload_n 0, 1) := by decide +kernel
theorem dX4_weigh_47 : decode cX4_weigh 47 = .ok (.aload_n 1, 1) := by decide +kernel
theorem dX4_weigh_48 : decode cX4_weigh 48 = .ok (.aload_n 1, 1) := by decide +kernel
theorem dX4_weigh_49 : decode cX4_weigh 49 = .ok (.getfield 25, 3) := by decide +kernel
theorem dX4_weigh_52 : decode cX4_weigh 52 = .ok (.iload 6, 2) := by decide +kernel
theorem dX4_weigh_54 : decode cX4_weigh 54 = .ok (.iaload, 1) := by decide +kernel
theorem dX4_weigh_55 : decode cX4_weigh 55 = .ok (.aload_n 1, 1) := by decide +kernel
theorem dX4_weigh_56 : decode cX4_weigh 56 = .ok (.getfield 29, 3) := by decide +kernel
theorem dX4_weigh_59 : decode cX4_weigh 59 = .ok (.iload 6, 2) := by decide +kernel
theorem dX4_weigh_61 : decode cX4_weigh 61 = .ok (.iaload, 1) := by decide +kernel
theorem dX4_weigh_62 : decode cX4_weigh 62 = .ok (.aload_n 3, 1) := by decide +kernel
theorem dX4_weigh_63 : decode cX4_weigh 63 = .ok (.invokevirtual 32, 3) := by decide +kernel
theorem dX4_weigh_66 : decode cX4_weigh 66 = .ok (.ladd, 1) := by decide +kernel
theorem dX4_weigh_67 : decode cX4_weigh 67 = .ok (.lstore 4, 2) := by decide +kernel
theorem dX4_weigh_69 : decode cX4_weigh 69 = .ok (.iinc 6 1, 3) := by decide +kernel
theorem dX4_weigh_72 : decode cX4_weigh 72 = .ok (.goto (-66), 3) := by decide +kernel
theorem dX4_weigh_75 : decode cX4_weigh 75 = .ok (.lload 4, 2) := by decide +kernel
theorem dX4_weigh_77 : decode cX4_weigh 77 = .ok (.lreturn, 1) := by decide +kernel
theorem dX5_add_0 : decode cX5_add 0 = .ok (.aload_n 0, 1) := by decide +kernel
theorem dX5_add_1 : decode cX5_add 1 = .ok (.getfield 9, 3) := by decide +kernel
theorem dX5_add_4 : decode cX5_add 4 = .ok (.iload_n 1, 1) := by decide +kernel
theorem dX5_add_5 : decode cX5_add 5 = .ok (.dup2, 1) := by decide +kernel
theorem dX5_add_6 : decode cX5_add 6 = .ok (.iaload, 1) := by decide +kernel
theorem dX5_add_7 : decode cX5_add 7 = .ok (.iconst 1, 1) := by decide +kernel
theorem dX5_add_8 : decode cX5_add 8 = .ok (.iadd, 1) := by decide +kernel
theorem dX5_add_9 : decode cX5_add 9 = .ok (.iastore, 1) := by decide +kernel
theorem dX5_add_10 : decode cX5_add 10 = .ok (.aload_n 0, 1) := by decide +kernel
theorem dX5_add_11 : decode cX5_add 11 = .ok (.getfield 15, 3) := by decide +kernel
theorem dX5_add_14 : decode cX5_add 14 = .ok (.iload_n 1, 1) := by decide +kernel
theorem dX5_add_15 : decode cX5_add 15 = .ok (.dup2, 1) := by decide +kernel
theorem dX5_add_16 : decode cX5_add 16 = .ok (.laload, 1) := by decide +kernel
theorem dX5_add_17 : decode cX5_add 17 = .ok (.iload_n 2, 1) := by decide +kernel
theorem dX5_add_18 : decode cX5_add 18 = .ok (.i2l, 1) := by decide +kernel
theorem dX5_add_19 : decode cX5_add 19 = .ok (.ladd, 1) := by decide +kernel
theorem dX5_add_20 : decode cX5_add 20 = .ok (.lastore, 1) := by decide +kernel
theorem dX5_add_21 : decode cX5_add 21 = .ok (.return_, 1) := by decide +kernel
theorem dX5_addHours_0 : decode cX5_addHours 0 = .ok (.aload_n 2, 1) := by decide +kernel
theorem dX5_addHours_1 : decode cX5_addHours 1 = .ok (.getfield 53, 3) := by decide +kernel
theorem dX5_addHours_4 : decode cX5_addHours 4 = .ok (.iconst 3, 1) := by decide +kernel
theorem dX5_addHours_5 : decode cX5_addHours 5 = .ok (.idiv, 1) := by decide +kernel
theorem dX5_addHours_6 : decode cX5_addHours 6 = .ok (.istore_n 3, 1) := by decide +kernel
theorem dX5_addHours_7 : decode cX5_addHours 7 = .ok (.iconst 0, 1) := by decide +kernel
theorem dX5_addHours_8 : decode cX5_addHours 8 = .ok (.istore 4, 2) := by decide +kernel
theorem dX5_addHours_10 : decode cX5_addHours 10 = .ok (.iload 4, 2) := by decide +kernel
theorem dX5_addHours_12 : decode cX5_addHours 12 = .ok (.aload_n 1, 1) := by decide +kernel
theorem dX5_addHours_13 : decode cX5_addHours 13 = .ok (.getfield 56, 3) := by decide +kernel
theorem dX5_addHours_16 : decode cX5_addHours 16 = .ok (.if_icmp .ge 140, 3) := by decide +kernel
theorem dX5_addHours_19 : decode cX5_addHours 19 = .ok (.aload_n 1, 1) := by decide +kernel
theorem dX5_addHours_20 : decode cX5_addHours 20 = .ok (.getfield 59, 3) := by decide +kernel
theorem dX5_addHours_23 : decode cX5_addHours 23 = .ok (.iload 4, 2) := by decide +kernel
theorem dX5_addHours_25 : decode cX5_addHours 25 = .ok (.iaload, 1) := by decide +kernel
theorem dX5_addHours_26 : decode cX5_addHours 26 = .ok (.istore 5, 2) := by decide +kernel
theorem dX5_addHours_28 : decode cX5_addHours 28 = .ok (.aload_n 1, 1) := by decide +kernel
theorem dX5_addHours_29 : decode cX5_addHours 29 = .ok (.getfield 62, 3) := by decide +kernel
theorem dX5_addHours_32 : decode cX5_addHours 32 = .ok (.iload 5, 2) := by decide +kernel
theorem dX5_addHours_34 : decode cX5_addHours 34 = .ok (.iaload, 1) := by decide +kernel
theorem dX5_addHours_35 : decode cX5_addHours 35 = .ok (.istore 6, 2) := by decide +kernel
theorem dX5_addHours_37 : decode cX5_addHours 37 = .ok (.iload 5, 2) := by decide +kernel
theorem dX5_addHours_39 : decode cX5_addHours 39 = .ok (.aload_n 2, 1) := by decide +kernel
theorem dX5_addHours_40 : decode cX5_addHours 40 = .ok (.getfield 65, 3) := by decide +kernel
theorem dX5_addHours_43 : decode cX5_addHours 43 = .ok (.isub, 1) := by decide +kernel
theorem dX5_addHours_44 : decode cX5_addHours 44 = .ok (.aload_n 2, 1) := by decide +kernel
theorem dX5_addHours_45 : decode cX5_addHours 45 = .ok (.getfield 34, 3) := by decide +kernel
theorem dX5_addHours_48 : decode cX5_addHours 48 = .ok (.invokestatic 68, 3) := by decide +kernel
theorem dX5_addHours_51 : decode cX5_addHours 51 = .ok (.istore 7, 2) := by decide +kernel
theorem dX5_addHours_53 : decode cX5_addHours 53 = .ok (.iload 7, 2) := by decide +kernel
theorem dX5_addHours_55 : decode cX5_addHours 55 = .ok (.aload_n 2, 1) := by decide +kernel
theorem dX5_addHours_56 : decode cX5_addHours 56 = .ok (.getfield 53, 3) := by decide +kernel
theorem dX5_addHours_59 : decode cX5_addHours 59 = .ok (.if_icmp .lt 13, 3) := by decide +kernel
theorem dX5_addHours_62 : decode cX5_addHours 62 = .ok (.aload_n 0, 1) := by decide +kernel
theorem dX5_addHours_63 : decode cX5_addHours 63 = .ok (.iconst 0, 1) := by decide +kernel
theorem dX5_addHours_64 : decode cX5_addHours 64 = .ok (.iload 6, 2) := by decide +kernel
theorem dX5_addHours_66 : decode cX5_addHours 66 = .ok (.invokevirtual 74, 3) := by decide +kernel
theorem dX5_addHours_69 : decode cX5_addHours 69 = .ok (.goto 81, 3) := by decide +kernel
theorem dX5_addHours_72 : decode cX5_addHours 72 = .ok (.iload 7, 2) := by decide +kernel
theorem dX5_addHours_74 : decode cX5_addHours 74 = .ok (.iload_n 3, 1) := by decide +kernel
theorem dX5_addHours_75 : decode cX5_addHours 75 = .ok (.if_icmp .lt 20, 3) := by decide +kernel
theorem dX5_addHours_78 : decode cX5_addHours 78 = .ok (.iload 7, 2) := by decide +kernel
theorem dX5_addHours_80 : decode cX5_addHours 80 = .ok (.aload_n 2, 1) := by decide +kernel
theorem dX5_addHours_81 : decode cX5_addHours 81 = .ok (.getfield 53, 3) := by decide +kernel
theorem dX5_addHours_84 : decode cX5_addHours 84 = .ok (.iconst 1, 1) := by decide +kernel
theorem dX5_addHours_85 : decode cX5_addHours 85 = .ok (.isub, 1) := by decide +kernel
theorem dX5_addHours_86 : decode cX5_addHours 86 = .ok (.iload_n 3, 1) := by decide +kernel
theorem dX5_addHours_87 : decode cX5_addHours 87 = .ok (.isub, 1) := by decide +kernel
theorem dX5_addHours_88 : decode cX5_addHours 88 = .ok (.if_icmp .gt 7, 3) := by decide +kernel
theorem dX5_addHours_91 : decode cX5_addHours 91 = .ok (.iconst 1, 1) := by decide +kernel
theorem dX5_addHours_92 : decode cX5_addHours 92 = .ok (.goto 4, 3) := by decide +kernel
theorem dX5_addHours_95 : decode cX5_addHours 95 = .ok (.iconst 0, 1) := by decide +kernel
theorem dX5_addHours_96 : decode cX5_addHours 96 = .ok (.istore 8, 2) := by decide +kernel
theorem dX5_addHours_98 : decode cX5_addHours 98 = .ok (.aload_n 0, 1) := by decide +kernel
theorem dX5_addHours_99 : decode cX5_addHours 99 = .ok (.iload 8, 2) := by decide +kernel
theorem dX5_addHours_101 : decode cX5_addHours 101 = .ok (.ifCond .eq 7, 3) := by decide +kernel
theorem dX5_addHours_104 : decode cX5_addHours 104 = .ok (.iconst 3, 1) := by decide +kernel
theorem dX5_addHours_105 : decode cX5_addHours 105 = .ok (.goto 4, 3) := by decide +kernel
theorem dX5_addHours_108 : decode cX5_addHours 108 = .ok (.iconst 4, 1) := by decide +kernel
theorem dX5_addHours_109 : decode cX5_addHours 109 = .ok (.iload 6, 2) := by decide +kernel
theorem dX5_addHours_111 : decode cX5_addHours 111 = .ok (.invokevirtual 74, 3) := by decide +kernel
theorem dX5_addHours_114 : decode cX5_addHours 114 = .ok (.iload 5, 2) := by decide +kernel
theorem dX5_addHours_116 : decode cX5_addHours 116 = .ok (.aload_n 2, 1) := by decide +kernel
theorem dX5_addHours_117 : decode cX5_addHours 117 = .ok (.getfield 65, 3) := by decide +kernel
theorem dX5_addHours_120 : decode cX5_addHours 120 = .ok (.isub, 1) := by decide +kernel
theorem dX5_addHours_121 : decode cX5_addHours 121 = .ok (.aload_n 2, 1) := by decide +kernel
theorem dX5_addHours_122 : decode cX5_addHours 122 = .ok (.getfield 34, 3) := by decide +kernel
theorem dX5_addHours_125 : decode cX5_addHours 125 = .ok (.invokestatic 78, 3) := by decide +kernel
theorem dX5_addHours_128 : decode cX5_addHours 128 = .ok (.istore 9, 2) := by decide +kernel
theorem dX5_addHours_130 : decode cX5_addHours 130 = .ok (.aload_n 0, 1) := by decide +kernel
theorem dX5_addHours_131 : decode cX5_addHours 131 = .ok (.iload 9, 2) := by decide +kernel
theorem dX5_addHours_133 : decode cX5_addHours 133 = .ok (.iconst 2, 1) := by decide +kernel
theorem dX5_addHours_134 : decode cX5_addHours 134 = .ok (.invokestatic 68, 3) := by decide +kernel
theorem dX5_addHours_137 : decode cX5_addHours 137 = .ok (.ifCond .ne 7, 3) := by decide +kernel
theorem dX5_addHours_140 : decode cX5_addHours 140 = .ok (.iconst 1, 1) := by decide +kernel
theorem dX5_addHours_141 : decode cX5_addHours 141 = .ok (.goto 4, 3) := by decide +kernel
theorem dX5_addHours_144 : decode cX5_addHours 144 = .ok (.iconst 2, 1) := by decide +kernel
theorem dX5_addHours_145 : decode cX5_addHours 145 = .ok (.iload 6, 2) := by decide +kernel
theorem dX5_addHours_147 : decode cX5_addHours 147 = .ok (.invokevirtual 74, 3) := by decide +kernel
theorem dX5_addHours_150 : decode cX5_addHours 150 = .ok (.iinc 4 1, 3) := by decide +kernel
theorem dX5_addHours_153 : decode cX5_addHours 153 = .ok (.goto (-143), 3) := by decide +kernel
theorem dX5_addHours_156 : decode cX5_addHours 156 = .ok (.return_, 1) := by decide +kernel
theorem dX5_gap_0 : decode cX5_gap 0 = .ok (.aload_n 0, 1) := by decide +kernel
theorem dX5_gap_1 : decode cX5_gap 1 = .ok (.getfield 9, 3) := by decide +kernel
theorem dX5_gap_4 : decode cX5_gap 4 = .ok (.iload_n 1, 1) := by decide +kernel
theorem dX5_gap_5 : decode cX5_gap 5 = .ok (.iaload, 1) := by decide +kernel
theorem dX5_gap_6 : decode cX5_gap 6 = .ok (.ifCond .eq 12, 3) := by decide +kernel
theorem dX5_gap_9 : decode cX5_gap 9 = .ok (.aload_n 0, 1) := by decide +kernel
theorem dX5_gap_10 : decode cX5_gap 10 = .ok (.getfield 9, 3) := by decide +kernel
theorem dX5_gap_13 : decode cX5_gap 13 = .ok (.iload_n 2, 1) := by decide +kernel
theorem dX5_gap_14 : decode cX5_gap 14 = .ok (.iaload, 1) := by decide +kernel
theorem dX5_gap_15 : decode cX5_gap 15 = .ok (.ifCond .ne 7, 3) := by decide +kernel
theorem dX5_gap_18 : decode cX5_gap 18 = .ok (.iconst 0, 1) := by decide +kernel
theorem dX5_gap_19 : decode cX5_gap 19 = .ok (.goto 16, 3) := by decide +kernel
theorem dX5_gap_22 : decode cX5_gap 22 = .ok (.aload_n 0, 1) := by decide +kernel
theorem dX5_gap_23 : decode cX5_gap 23 = .ok (.getfield 19, 3) := by decide +kernel
theorem dX5_gap_26 : decode cX5_gap 26 = .ok (.iload_n 1, 1) := by decide +kernel
theorem dX5_gap_27 : decode cX5_gap 27 = .ok (.iaload, 1) := by decide +kernel
theorem dX5_gap_28 : decode cX5_gap 28 = .ok (.aload_n 0, 1) := by decide +kernel
theorem dX5_gap_29 : decode cX5_gap 29 = .ok (.getfield 19, 3) := by decide +kernel
theorem dX5_gap_32 : decode cX5_gap 32 = .ok (.iload_n 2, 1) := by decide +kernel
theorem dX5_gap_33 : decode cX5_gap 33 = .ok (.iaload, 1) := by decide +kernel
theorem dX5_gap_34 : decode cX5_gap 34 = .ok (.isub, 1) := by decide +kernel
theorem dX5_gap_35 : decode cX5_gap 35 = .ok (.ireturn, 1) := by decide +kernel
theorem dX5_isRound_0 : decode cX5_isRound 0 = .ok (.iconst 0, 1) := by decide +kernel
theorem dX5_isRound_1 : decode cX5_isRound 1 = .ok (.istore_n 2, 1) := by decide +kernel
theorem dX5_isRound_2 : decode cX5_isRound 2 = .ok (.iconst 0, 1) := by decide +kernel
theorem dX5_isRound_3 : decode cX5_isRound 3 = .ok (.istore_n 3, 1) := by decide +kernel
theorem dX5_isRound_4 : decode cX5_isRound 4 = .ok (.iload_n 3, 1) := by decide +kernel
theorem dX5_isRound_5 : decode cX5_isRound 5 = .ok (.iload_n 1, 1) := by decide +kernel
theorem dX5_isRound_6 : decode cX5_isRound 6 = .ok (.iadd, 1) := by decide +kernel
theorem dX5_isRound_7 : decode cX5_isRound 7 = .ok (.aload_n 0, 1) := by decide +kernel
theorem dX5_isRound_8 : decode cX5_isRound 8 = .ok (.getfield 22, 3) := by decide +kernel
theorem dX5_isRound_11 : decode cX5_isRound 11 = .ok (.arraylength, 1) := by decide +kernel
theorem dX5_isRound_12 : decode cX5_isRound 12 = .ok (.if_icmp .ge 79, 3) := by decide +kernel
theorem dX5_isRound_15 : decode cX5_isRound 15 = .ok (.aload_n 0, 1) := by decide +kernel
theorem dX5_isRound_16 : decode cX5_isRound 16 = .ok (.getfield 22, 3) := by decide +kernel
theorem dX5_isRound_19 : decode cX5_isRound 19 = .ok (.iload_n 3, 1) := by decide +kernel
theorem dX5_isRound_20 : decode cX5_isRound 20 = .ok (.iaload, 1) := by decide +kernel
theorem dX5_isRound_21 : decode cX5_isRound 21 = .ok (.bipush (-100), 2) := by decide +kernel
theorem dX5_isRound_23 : decode cX5_isRound 23 = .ok (.if_icmp .eq 20, 3) := by decide +kernel
theorem dX5_isRound_26 : decode cX5_isRound 26 = .ok (.aload_n 0, 1) := by decide +kernel
theorem dX5_isRound_27 : decode cX5_isRound 27 = .ok (.getfield 22, 3) := by decide +kernel
theorem dX5_isRound_30 : decode cX5_isRound 30 = .ok (.iload_n 3, 1) := by decide +kernel
theorem dX5_isRound_31 : decode cX5_isRound 31 = .ok (.iload_n 1, 1) := by decide +kernel
theorem dX5_isRound_32 : decode cX5_isRound 32 = .ok (.iadd, 1) := by decide +kernel
theorem dX5_isRound_33 : decode cX5_isRound 33 = .ok (.iaload, 1) := by decide +kernel
theorem dX5_isRound_34 : decode cX5_isRound 34 = .ok (.bipush (-100), 2) := by decide +kernel
theorem dX5_isRound_36 : decode cX5_isRound 36 = .ok (.if_icmp .eq 7, 3) := by decide +kernel
theorem dX5_isRound_39 : decode cX5_isRound 39 = .ok (.iconst 1, 1) := by decide +kernel
theorem dX5_isRound_40 : decode cX5_isRound 40 = .ok (.goto 4, 3) := by decide +kernel
theorem dX5_isRound_43 : decode cX5_isRound 43 = .ok (.iconst 0, 1) := by decide +kernel
theorem dX5_isRound_44 : decode cX5_isRound 44 = .ok (.istore 4, 2) := by decide +kernel
theorem dX5_isRound_46 : decode cX5_isRound 46 = .ok (.iload 4, 2) := by decide +kernel
theorem dX5_isRound_48 : decode cX5_isRound 48 = .ok (.ifCond .eq 22, 3) := by decide +kernel
theorem dX5_isRound_51 : decode cX5_isRound 51 = .ok (.aload_n 0, 1) := by decide +kernel
theorem dX5_isRound_52 : decode cX5_isRound 52 = .ok (.getfield 22, 3) := by decide +kernel
theorem dX5_isRound_55 : decode cX5_isRound 55 = .ok (.iload_n 3, 1) := by decide +kernel
theorem dX5_isRound_56 : decode cX5_isRound 56 = .ok (.iaload, 1) := by decide +kernel
theorem dX5_isRound_57 : decode cX5_isRound 57 = .ok (.aload_n 0, 1) := by decide +kernel
theorem dX5_isRound_58 : decode cX5_isRound 58 = .ok (.getfield 22, 3) := by decide +kernel
theorem dX5_isRound_61 : decode cX5_isRound 61 = .ok (.iload_n 3, 1) := by decide +kernel
theorem dX5_isRound_62 : decode cX5_isRound 62 = .ok (.iload_n 1, 1) := by decide +kernel
theorem dX5_isRound_63 : decode cX5_isRound 63 = .ok (.iadd, 1) := by decide +kernel
theorem dX5_isRound_64 : decode cX5_isRound 64 = .ok (.iaload, 1) := by decide +kernel
theorem dX5_isRound_65 : decode cX5_isRound 65 = .ok (.if_icmp .eq 5, 3) := by decide +kernel
theorem dX5_isRound_68 : decode cX5_isRound 68 = .ok (.iconst 0, 1) := by decide +kernel
theorem dX5_isRound_69 : decode cX5_isRound 69 = .ok (.ireturn, 1) := by decide +kernel
theorem dX5_isRound_70 : decode cX5_isRound 70 = .ok (.iload_n 2, 1) := by decide +kernel
theorem dX5_isRound_71 : decode cX5_isRound 71 = .ok (.ifCond .ne 8, 3) := by decide +kernel
theorem dX5_isRound_74 : decode cX5_isRound 74 = .ok (.iload 4, 2) := by decide +kernel
theorem dX5_isRound_76 : decode cX5_isRound 76 = .ok (.ifCond .eq 7, 3) := by decide +kernel
theorem dX5_isRound_79 : decode cX5_isRound 79 = .ok (.iconst 1, 1) := by decide +kernel
theorem dX5_isRound_80 : decode cX5_isRound 80 = .ok (.goto 4, 3) := by decide +kernel
theorem dX5_isRound_83 : decode cX5_isRound 83 = .ok (.iconst 0, 1) := by decide +kernel
theorem dX5_isRound_84 : decode cX5_isRound 84 = .ok (.istore_n 2, 1) := by decide +kernel
theorem dX5_isRound_85 : decode cX5_isRound 85 = .ok (.iinc 3 1, 3) := by decide +kernel
theorem dX5_isRound_88 : decode cX5_isRound 88 = .ok (.goto (-84), 3) := by decide +kernel
theorem dX5_isRound_91 : decode cX5_isRound 91 = .ok (.iload_n 2, 1) := by decide +kernel
theorem dX5_isRound_92 : decode cX5_isRound 92 = .ok (.ireturn, 1) := by decide +kernel
theorem dX5_late_0 : decode cX5_late 0 = .ok (.bipush (-100), 2) := by decide +kernel
theorem dX5_late_2 : decode cX5_late 2 = .ok (.istore_n 1, 1) := by decide +kernel
theorem dX5_late_3 : decode cX5_late 3 = .ok (.bipush (-100), 2) := by decide +kernel
theorem dX5_late_5 : decode cX5_late 5 = .ok (.istore_n 2, 1) := by decide +kernel
theorem dX5_late_6 : decode cX5_late 6 = .ok (.iconst 0, 1) := by decide +kernel
theorem dX5_late_7 : decode cX5_late 7 = .ok (.istore_n 3, 1) := by decide +kernel
theorem dX5_late_8 : decode cX5_late 8 = .ok (.iload_n 3, 1) := by decide +kernel
theorem dX5_late_9 : decode cX5_late 9 = .ok (.aload_n 0, 1) := by decide +kernel
theorem dX5_late_10 : decode cX5_late 10 = .ok (.getfield 22, 3) := by decide +kernel
theorem dX5_late_13 : decode cX5_late 13 = .ok (.arraylength, 1) := by decide +kernel
theorem dX5_late_14 : decode cX5_late 14 = .ok (.if_icmp .ge 57, 3) := by decide +kernel
theorem dX5_late_17 : decode cX5_late 17 = .ok (.aload_n 0, 1) := by decide +kernel
theorem dX5_late_18 : decode cX5_late 18 = .ok (.getfield 22, 3) := by decide +kernel
theorem dX5_late_21 : decode cX5_late 21 = .ok (.iload_n 3, 1) := by decide +kernel
theorem dX5_late_22 : decode cX5_late 22 = .ok (.iaload, 1) := by decide +kernel
theorem dX5_late_23 : decode cX5_late 23 = .ok (.bipush (-100), 2) := by decide +kernel
theorem dX5_late_25 : decode cX5_late 25 = .ok (.if_icmp .eq 40, 3) := by decide +kernel
theorem dX5_late_28 : decode cX5_late 28 = .ok (.iload_n 1, 1) := by decide +kernel
theorem dX5_late_29 : decode cX5_late 29 = .ok (.bipush (-100), 2) := by decide +kernel
theorem dX5_late_31 : decode cX5_late 31 = .ok (.if_icmp .ne 12, 3) := by decide +kernel
theorem dX5_late_34 : decode cX5_late 34 = .ok (.aload_n 0, 1) := by decide +kernel
theorem dX5_late_35 : decode cX5_late 35 = .ok (.getfield 22, 3) := by decide +kernel
theorem dX5_late_38 : decode cX5_late 38 = .ok (.iload_n 3, 1) := by decide +kernel
theorem dX5_late_39 : decode cX5_late 39 = .ok (.iaload, 1) := by decide +kernel
theorem dX5_late_40 : decode cX5_late 40 = .ok (.goto 13, 3) := by decide +kernel
theorem dX5_late_43 : decode cX5_late 43 = .ok (.iload_n 1, 1) := by decide +kernel
theorem dX5_late_44 : decode cX5_late 44 = .ok (.aload_n 0, 1) := by decide +kernel
theorem dX5_late_45 : decode cX5_late 45 = .ok (.getfield 22, 3) := by decide +kernel
theorem dX5_late_48 : decode cX5_late 48 = .ok (.iload_n 3, 1) := by decide +kernel
theorem dX5_late_49 : decode cX5_late 49 = .ok (.iaload, 1) := by decide +kernel
theorem dX5_late_50 : decode cX5_late 50 = .ok (.invokestatic 99, 3) := by decide +kernel
theorem dX5_late_53 : decode cX5_late 53 = .ok (.istore_n 1, 1) := by decide +kernel
theorem dX5_late_54 : decode cX5_late 54 = .ok (.iload_n 2, 1) := by decide +kernel
theorem dX5_late_55 : decode cX5_late 55 = .ok (.aload_n 0, 1) := by decide +kernel
theorem dX5_late_56 : decode cX5_late 56 = .ok (.getfield 22, 3) := by decide +kernel
theorem dX5_late_59 : decode cX5_late 59 = .ok (.iload_n 3, 1) := by decide +kernel
theorem dX5_late_60 : decode cX5_late 60 = .ok (.iaload, 1) := by decide +kernel
theorem dX5_late_61 : decode cX5_late 61 = .ok (.invokestatic 102, 3) := by decide +kernel
theorem dX5_late_64 : decode cX5_late 64 = .ok (.istore_n 2, 1) := by decide +kernel
theorem dX5_late_65 : decode cX5_late 65 = .ok (.iinc 3 1, 3) := by decide +kernel
theorem dX5_late_68 : decode cX5_late 68 = .ok (.goto (-60), 3) := by decide +kernel
theorem dX5_late_71 : decode cX5_late 71 = .ok (.iload_n 2, 1) := by decide +kernel
theorem dX5_late_72 : decode cX5_late 72 = .ok (.iload_n 1, 1) := by decide +kernel
theorem dX5_late_73 : decode cX5_late 73 = .ok (.isub, 1) := by decide +kernel
theorem dX5_late_74 : decode cX5_late 74 = .ok (.ireturn, 1) := by decide +kernel
theorem dX5_part_0 : decode cX5_part 0 = .ok (.iload_n 1, 1) := by decide +kernel
theorem dX5_part_1 : decode cX5_part 1 = .ok (.tableswitch 62 0 3 #[31, 38, 45, 55], 31) := by decide +kernel
theorem dX5_part_32 : decode cX5_part 32 = .ok (.aload_n 0, 1) := by decide +kernel
theorem dX5_part_33 : decode cX5_part 33 = .ok (.getfield 19, 3) := by decide +kernel
theorem dX5_part_36 : decode cX5_part 36 = .ok (.iconst 1, 1) := by decide +kernel
theorem dX5_part_37 : decode cX5_part 37 = .ok (.iaload, 1) := by decide +kernel
theorem dX5_part_38 : decode cX5_part 38 = .ok (.ireturn, 1) := by decide +kernel
theorem dX5_part_39 : decode cX5_part 39 = .ok (.aload_n 0, 1) := by decide +kernel
theorem dX5_part_40 : decode cX5_part 40 = .ok (.getfield 19, 3) := by decide +kernel
theorem dX5_part_43 : decode cX5_part 43 = .ok (.iconst 2, 1) := by decide +kernel
theorem dX5_part_44 : decode cX5_part 44 = .ok (.iaload, 1) := by decide +kernel
theorem dX5_part_45 : decode cX5_part 45 = .ok (.ireturn, 1) := by decide +kernel
theorem dX5_part_46 : decode cX5_part 46 = .ok (.aload_n 0, 1) := by decide +kernel
theorem dX5_part_47 : decode cX5_part 47 = .ok (.iconst 1, 1) := by decide +kernel
theorem dX5_part_48 : decode cX5_part 48 = .ok (.iconst 2, 1) := by decide +kernel
theorem dX5_part_49 : decode cX5_part 49 = .ok (.invokevirtual 81, 3) := by decide +kernel
theorem dX5_part_52 : decode cX5_part 52 = .ok (.invokestatic 84, 3) := by decide +kernel
theorem dX5_part_55 : decode cX5_part 55 = .ok (.ireturn, 1) := by decide +kernel
theorem dX5_part_56 : decode cX5_part 56 = .ok (.aload_n 0, 1) := by decide +kernel
theorem dX5_part_57 : decode cX5_part 57 = .ok (.iconst 3, 1) := by decide +kernel
theorem dX5_part_58 : decode cX5_part 58 = .ok (.iconst 4, 1) := by decide +kernel
theorem dX5_part_59 : decode cX5_part 59 = .ok (.invokevirtual 81, 3) := by decide +kernel
theorem dX5_part_62 : decode cX5_part 62 = .ok (.ireturn, 1) := by decide +kernel
theorem dX5_part_63 : decode cX5_part 63 = .ok (.aload_n 0, 1) := by decide +kernel
theorem dX5_part_64 : decode cX5_part 64 = .ok (.invokevirtual 88, 3) := by decide +kernel
theorem dX5_part_67 : decode cX5_part 67 = .ok (.ireturn, 1) := by decide +kernel
theorem dX5_read_0 : decode cX5_read 0 = .ok (.aload_n 0, 1) := by decide +kernel
theorem dX5_read_1 : decode cX5_read 1 = .ok (.getfield 9, 3) := by decide +kernel
theorem dX5_read_4 : decode cX5_read 4 = .ok (.iconst 0, 1) := by decide +kernel
theorem dX5_read_5 : decode cX5_read 5 = .ok (.invokestatic 25, 3) := by decide +kernel
theorem dX5_read_8 : decode cX5_read 8 = .ok (.aload_n 0, 1) := by decide +kernel
theorem dX5_read_9 : decode cX5_read 9 = .ok (.getfield 15, 3) := by decide +kernel
theorem dX5_read_12 : decode cX5_read 12 = .ok (.lconst 0, 1) := by decide +kernel
theorem dX5_read_13 : decode cX5_read 13 = .ok (.invokestatic 31, 3) := by decide +kernel
theorem dX5_read_16 : decode cX5_read 16 = .ok (.aload_n 2, 1) := by decide +kernel
theorem dX5_read_17 : decode cX5_read 17 = .ok (.getfield 34, 3) := by decide +kernel
theorem dX5_read_20 : decode cX5_read 20 = .ok (.ifCond .le 9, 3) := by decide +kernel
theorem dX5_read_23 : decode cX5_read 23 = .ok (.aload_n 0, 1) := by decide +kernel
theorem dX5_read_24 : decode cX5_read 24 = .ok (.aload_n 1, 1) := by decide +kernel
theorem dX5_read_25 : decode cX5_read 25 = .ok (.aload_n 2, 1) := by decide +kernel
theorem dX5_read_26 : decode cX5_read 26 = .ok (.invokevirtual 40, 3) := by decide +kernel
theorem dX5_read_29 : decode cX5_read 29 = .ok (.iconst 0, 1) := by decide +kernel
theorem dX5_read_30 : decode cX5_read 30 = .ok (.istore_n 3, 1) := by decide +kernel
theorem dX5_read_31 : decode cX5_read 31 = .ok (.iload_n 3, 1) := by decide +kernel
theorem dX5_read_32 : decode cX5_read 32 = .ok (.aload_n 0, 1) := by decide +kernel
theorem dX5_read_33 : decode cX5_read 33 = .ok (.getfield 19, 3) := by decide +kernel
theorem dX5_read_36 : decode cX5_read 36 = .ok (.arraylength, 1) := by decide +kernel
theorem dX5_read_37 : decode cX5_read 37 = .ok (.if_icmp .ge 43, 3) := by decide +kernel
theorem dX5_read_40 : decode cX5_read 40 = .ok (.aload_n 0, 1) := by decide +kernel
theorem dX5_read_41 : decode cX5_read 41 = .ok (.getfield 19, 3) := by decide +kernel
theorem dX5_read_44 : decode cX5_read 44 = .ok (.iload_n 3, 1) := by decide +kernel
theorem dX5_read_45 : decode cX5_read 45 = .ok (.aload_n 0, 1) := by decide +kernel
theorem dX5_read_46 : decode cX5_read 46 = .ok (.getfield 9, 3) := by decide +kernel
theorem dX5_read_49 : decode cX5_read 49 = .ok (.iconst 0, 1) := by decide +kernel
theorem dX5_read_50 : decode cX5_read 50 = .ok (.iaload, 1) := by decide +kernel
theorem dX5_read_51 : decode cX5_read 51 = .ok (.aload_n 0, 1) := by decide +kernel
theorem dX5_read_52 : decode cX5_read 52 = .ok (.getfield 15, 3) := by decide +kernel
theorem dX5_read_55 : decode cX5_read 55 = .ok (.iconst 0, 1) := by decide +kernel
theorem dX5_read_56 : decode cX5_read 56 = .ok (.laload, 1) := by decide +kernel
theorem dX5_read_57 : decode cX5_read 57 = .ok (.aload_n 0, 1) := by decide +kernel
theorem dX5_read_58 : decode cX5_read 58 = .ok (.getfield 9, 3) := by decide +kernel
theorem dX5_read_61 : decode cX5_read 61 = .ok (.iload_n 3, 1) := by decide +kernel
theorem dX5_read_62 : decode cX5_read 62 = .ok (.iaload, 1) := by decide +kernel
theorem dX5_read_63 : decode cX5_read 63 = .ok (.aload_n 0, 1) := by decide +kernel
theorem dX5_read_64 : decode cX5_read 64 = .ok (.getfield 15, 3) := by decide +kernel
theorem dX5_read_67 : decode cX5_read 67 = .ok (.iload_n 3, 1) := by decide +kernel
theorem dX5_read_68 : decode cX5_read 68 = .ok (.laload, 1) := by decide +kernel
theorem dX5_read_69 : decode cX5_read 69 = .ok (.invokestatic 44, 3) := by decide +kernel
theorem dX5_read_72 : decode cX5_read 72 = .ok (.l2i, 1) := by decide +kernel
theorem dX5_read_73 : decode cX5_read 73 = .ok (.iastore, 1) := by decide +kernel
theorem dX5_read_74 : decode cX5_read 74 = .ok (.iinc 3 1, 3) := by decide +kernel
theorem dX5_read_77 : decode cX5_read 77 = .ok (.goto (-46), 3) := by decide +kernel
theorem dX5_read_80 : decode cX5_read 80 = .ok (.aload_n 0, 1) := by decide +kernel
theorem dX5_read_81 : decode cX5_read 81 = .ok (.aload_n 1, 1) := by decide +kernel
theorem dX5_read_82 : decode cX5_read 82 = .ok (.aload_n 2, 1) := by decide +kernel
theorem dX5_read_83 : decode cX5_read 83 = .ok (.invokevirtual 50, 3) := by decide +kernel
theorem dX5_read_86 : decode cX5_read 86 = .ok (.return_, 1) := by decide +kernel
theorem dX5_readShifts_0 : decode cX5_readShifts 0 = .ok (.iconst 0, 1) := by decide +kernel
theorem dX5_readShifts_1 : decode cX5_readShifts 1 = .ok (.istore_n 3, 1) := by decide +kernel
