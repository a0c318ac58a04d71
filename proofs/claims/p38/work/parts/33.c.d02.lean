theorem dX6_become_61 : decode cX6_become 61 = .ok (.iload_n 2, 1) := by decide +kernel
theorem dX6_become_62 : decode cX6_become 62 = .ok (.aload_n 1, 1) := by decide +kernel
theorem dX6_become_63 : decode cX6_become 63 = .ok (.getfield 19, 3) := by decide +kernel
theorem dX6_become_66 : decode cX6_become 66 = .ok (.iload_n 2, 1) := by decide +kernel
theorem dX6_become_67 : decode cX6_become 67 = .ok (.aaload, 1) := by decide +kernel
theorem dX6_become_68 : decode cX6_become 68 = .ok (.aastore, 1) := by decide +kernel
theorem dX6_become_69 : decode cX6_become 69 = .ok (.iinc 2 1, 3) := by decide +kernel
theorem dX6_become_72 : decode cX6_become 72 = .ok (.goto (-29), 3) := by decide +kernel
theorem dX6_become_75 : decode cX6_become 75 = .ok (.aload_n 0, 1) := by decide +kernel
theorem dX6_become_76 : decode cX6_become 76 = .ok (.aload_n 1, 1) := by decide +kernel
theorem dX6_become_77 : decode cX6_become 77 = .ok (.getfield 44, 3) := by decide +kernel
theorem dX6_become_80 : decode cX6_become 80 = .ok (.putfield 44, 3) := by decide +kernel
theorem dX6_become_83 : decode cX6_become 83 = .ok (.aload_n 0, 1) := by decide +kernel
theorem dX6_become_84 : decode cX6_become 84 = .ok (.aload_n 1, 1) := by decide +kernel
theorem dX6_become_85 : decode cX6_become 85 = .ok (.getfield 47, 3) := by decide +kernel
theorem dX6_become_88 : decode cX6_become 88 = .ok (.putfield 47, 3) := by decide +kernel
theorem dX6_become_91 : decode cX6_become 91 = .ok (.aload_n 0, 1) := by decide +kernel
theorem dX6_become_92 : decode cX6_become 92 = .ok (.aload_n 1, 1) := by decide +kernel
theorem dX6_become_93 : decode cX6_become 93 = .ok (.getfield 103, 3) := by decide +kernel
theorem dX6_become_96 : decode cX6_become 96 = .ok (.putfield 103, 3) := by decide +kernel
theorem dX6_become_99 : decode cX6_become 99 = .ok (.aload_n 0, 1) := by decide +kernel
theorem dX6_become_100 : decode cX6_become 100 = .ok (.aload_n 1, 1) := by decide +kernel
theorem dX6_become_101 : decode cX6_become 101 = .ok (.getfield 30, 3) := by decide +kernel
theorem dX6_become_104 : decode cX6_become 104 = .ok (.putfield 30, 3) := by decide +kernel
theorem dX6_become_107 : decode cX6_become 107 = .ok (.aload_n 0, 1) := by decide +kernel
theorem dX6_become_108 : decode cX6_become 108 = .ok (.aload_n 1, 1) := by decide +kernel
theorem dX6_become_109 : decode cX6_become 109 = .ok (.getfield 106, 3) := by decide +kernel
theorem dX6_become_112 : decode cX6_become 112 = .ok (.putfield 106, 3) := by decide +kernel
theorem dX6_become_115 : decode cX6_become 115 = .ok (.aload_n 0, 1) := by decide +kernel
theorem dX6_become_116 : decode cX6_become 116 = .ok (.aload_n 1, 1) := by decide +kernel
theorem dX6_become_117 : decode cX6_become 117 = .ok (.getfield 76, 3) := by decide +kernel
theorem dX6_become_120 : decode cX6_become 120 = .ok (.putfield 76, 3) := by decide +kernel
theorem dX6_become_123 : decode cX6_become 123 = .ok (.aload_n 1, 1) := by decide +kernel
theorem dX6_become_124 : decode cX6_become 124 = .ok (.getfield 23, 3) := by decide +kernel
theorem dX6_become_127 : decode cX6_become 127 = .ok (.iconst 0, 1) := by decide +kernel
theorem dX6_become_128 : decode cX6_become 128 = .ok (.aload_n 0, 1) := by decide +kernel
theorem dX6_become_129 : decode cX6_become 129 = .ok (.getfield 23, 3) := by decide +kernel
theorem dX6_become_132 : decode cX6_become 132 = .ok (.iconst 0, 1) := by decide +kernel
theorem dX6_become_133 : decode cX6_become 133 = .ok (.bipush 12, 2) := by decide +kernel
theorem dX6_become_135 : decode cX6_become 135 = .ok (.invokestatic 109, 3) := by decide +kernel
theorem dX6_become_138 : decode cX6_become 138 = .ok (.aload_n 1, 1) := by decide +kernel
theorem dX6_become_139 : decode cX6_become 139 = .ok (.getfield 27, 3) := by decide +kernel
theorem dX6_become_142 : decode cX6_become 142 = .ok (.iconst 0, 1) := by decide +kernel
theorem dX6_become_143 : decode cX6_become 143 = .ok (.aload_n 0, 1) := by decide +kernel
theorem dX6_become_144 : decode cX6_become 144 = .ok (.getfield 27, 3) := by decide +kernel
theorem dX6_become_147 : decode cX6_become 147 = .ok (.iconst 0, 1) := by decide +kernel
theorem dX6_become_148 : decode cX6_become 148 = .ok (.bipush 12, 2) := by decide +kernel
theorem dX6_become_150 : decode cX6_become 150 = .ok (.invokestatic 109, 3) := by decide +kernel
theorem dX6_become_153 : decode cX6_become 153 = .ok (.aload_n 1, 1) := by decide +kernel
theorem dX6_become_154 : decode cX6_become 154 = .ok (.getfield 34, 3) := by decide +kernel
theorem dX6_become_157 : decode cX6_become 157 = .ok (.iconst 0, 1) := by decide +kernel
theorem dX6_become_158 : decode cX6_become 158 = .ok (.aload_n 0, 1) := by decide +kernel
theorem dX6_become_159 : decode cX6_become 159 = .ok (.getfield 34, 3) := by decide +kernel
theorem dX6_become_162 : decode cX6_become 162 = .ok (.iconst 0, 1) := by decide +kernel
theorem dX6_become_163 : decode cX6_become 163 = .ok (.bipush 8, 2) := by decide +kernel
theorem dX6_become_165 : decode cX6_become 165 = .ok (.invokestatic 109, 3) := by decide +kernel
theorem dX6_become_168 : decode cX6_become 168 = .ok (.aload_n 1, 1) := by decide +kernel
theorem dX6_become_169 : decode cX6_become 169 = .ok (.getfield 37, 3) := by decide +kernel
theorem dX6_become_172 : decode cX6_become 172 = .ok (.iconst 0, 1) := by decide +kernel
theorem dX6_become_173 : decode cX6_become 173 = .ok (.aload_n 0, 1) := by decide +kernel
theorem dX6_become_174 : decode cX6_become 174 = .ok (.getfield 37, 3) := by decide +kernel
theorem dX6_become_177 : decode cX6_become 177 = .ok (.iconst 0, 1) := by decide +kernel
theorem dX6_become_178 : decode cX6_become 178 = .ok (.bipush 8, 2) := by decide +kernel
theorem dX6_become_180 : decode cX6_become 180 = .ok (.invokestatic 109, 3) := by decide +kernel
theorem dX6_become_183 : decode cX6_become 183 = .ok (.aload_n 1, 1) := by decide +kernel
theorem dX6_become_184 : decode cX6_become 184 = .ok (.getfield 40, 3) := by decide +kernel
theorem dX6_become_187 : decode cX6_become 187 = .ok (.iconst 0, 1) := by decide +kernel
theorem dX6_become_188 : decode cX6_become 188 = .ok (.aload_n 0, 1) := by decide +kernel
theorem dX6_become_189 : decode cX6_become 189 = .ok (.getfield 40, 3) := by decide +kernel
theorem dX6_become_192 : decode cX6_become 192 = .ok (.iconst 0, 1) := by decide +kernel
theorem dX6_become_193 : decode cX6_become 193 = .ok (.sipush 400, 3) := by decide +kernel
theorem dX6_become_196 : decode cX6_become 196 = .ok (.invokestatic 109, 3) := by decide +kernel
theorem dX6_become_199 : decode cX6_become 199 = .ok (.return_, 1) := by decide +kernel
theorem dX6_dimming_0 : decode cX6_dimming 0 = .ok (.lconst 0, 1) := by decide +kernel
theorem dX6_dimming_1 : decode cX6_dimming 1 = .ok (.lstore_n 3, 1) := by decide +kernel
theorem dX6_dimming_2 : decode cX6_dimming 2 = .ok (.iconst 0, 1) := by decide +kernel
theorem dX6_dimming_3 : decode cX6_dimming 3 = .ok (.istore 5, 2) := by decide +kernel
theorem dX6_dimming_5 : decode cX6_dimming 5 = .ok (.iload 5, 2) := by decide +kernel
theorem dX6_dimming_7 : decode cX6_dimming 7 = .ok (.aload_n 0, 1) := by decide +kernel
theorem dX6_dimming_8 : decode cX6_dimming 8 = .ok (.getfield 47, 3) := by decide +kernel
theorem dX6_dimming_11 : decode cX6_dimming 11 = .ok (.if_icmp .ge 57, 3) := by decide +kernel
theorem dX6_dimming_14 : decode cX6_dimming 14 = .ok (.aload_n 0, 1) := by decide +kernel
theorem dX6_dimming_15 : decode cX6_dimming 15 = .ok (.iload 5, 2) := by decide +kernel
theorem dX6_dimming_17 : decode cX6_dimming 17 = .ok (.invokevirtual 50, 3) := by decide +kernel
theorem dX6_dimming_20 : decode cX6_dimming 20 = .ok (.astore 6, 2) := by decide +kernel
theorem dX6_dimming_22 : decode cX6_dimming 22 = .ok (.aload 6, 2) := by decide +kernel
theorem dX6_dimming_24 : decode cX6_dimming 24 = .ok (.ifnull 38, 3) := by decide +kernel
theorem dX6_dimming_27 : decode cX6_dimming 27 = .ok (.aload 6, 2) := by decide +kernel
theorem dX6_dimming_29 : decode cX6_dimming 29 = .ok (.getfield 79, 3) := by decide +kernel
theorem dX6_dimming_32 : decode cX6_dimming 32 = .ok (.iload_n 1, 1) := by decide +kernel
theorem dX6_dimming_33 : decode cX6_dimming 33 = .ok (.if_icmp .ne 29, 3) := by decide +kernel
theorem dX6_dimming_36 : decode cX6_dimming 36 = .ok (.aload 6, 2) := by decide +kernel
theorem dX6_dimming_38 : decode cX6_dimming 38 = .ok (.getfield 54, 3) := by decide +kernel
theorem dX6_dimming_41 : decode cX6_dimming 41 = .ok (.ifCond .ne 21, 3) := by decide +kernel
theorem dX6_dimming_44 : decode cX6_dimming 44 = .ok (.aload 6, 2) := by decide +kernel
theorem dX6_dimming_46 : decode cX6_dimming 46 = .ok (.iload_n 2, 1) := by decide +kernel
theorem dX6_dimming_47 : decode cX6_dimming 47 = .ok (.invokevirtual 82, 3) := by decide +kernel
theorem dX6_dimming_50 : decode cX6_dimming 50 = .ok (.ifCond .eq 12, 3) := by decide +kernel
theorem dX6_dimming_53 : decode cX6_dimming 53 = .ok (.lload_n 3, 1) := by decide +kernel
theorem dX6_dimming_54 : decode cX6_dimming 54 = .ok (.aload 6, 2) := by decide +kernel
theorem dX6_dimming_56 : decode cX6_dimming 56 = .ok (.getfield 86, 3) := by decide +kernel
theorem dX6_dimming_59 : decode cX6_dimming 59 = .ok (.i2l, 1) := by decide +kernel
theorem dX6_dimming_60 : decode cX6_dimming 60 = .ok (.ladd, 1) := by decide +kernel
theorem dX6_dimming_61 : decode cX6_dimming 61 = .ok (.lstore_n 3, 1) := by decide +kernel
theorem dX6_dimming_62 : decode cX6_dimming 62 = .ok (.iinc 5 1, 3) := by decide +kernel
theorem dX6_dimming_65 : decode cX6_dimming 65 = .ok (.goto (-60), 3) := by decide +kernel
theorem dX6_dimming_68 : decode cX6_dimming 68 = .ok (.lload_n 3, 1) := by decide +kernel
theorem dX6_dimming_69 : decode cX6_dimming 69 = .ok (.lreturn, 1) := by decide +kernel
theorem dX6_luckOf_0 : decode cX6_luckOf 0 = .ok (.aload_n 0, 1) := by decide +kernel
theorem dX6_luckOf_1 : decode cX6_luckOf 1 = .ok (.iload_n 1, 1) := by decide +kernel
theorem dX6_luckOf_2 : decode cX6_luckOf 2 = .ok (.invokevirtual 58, 3) := by decide +kernel
theorem dX6_luckOf_5 : decode cX6_luckOf 5 = .ok (.astore_n 2, 1) := by decide +kernel
theorem dX6_luckOf_6 : decode cX6_luckOf 6 = .ok (.aload_n 2, 1) := by decide +kernel
theorem dX6_luckOf_7 : decode cX6_luckOf 7 = .ok (.ifnonnull 7, 3) := by decide +kernel
theorem dX6_luckOf_10 : decode cX6_luckOf 10 = .ok (.lconst 0, 1) := by decide +kernel
theorem dX6_luckOf_11 : decode cX6_luckOf 11 = .ok (.goto 8, 3) := by decide +kernel
theorem dX6_luckOf_14 : decode cX6_luckOf 14 = .ok (.aload_n 2, 1) := by decide +kernel
theorem dX6_luckOf_15 : decode cX6_luckOf 15 = .ok (.getfield 65, 3) := by decide +kernel
theorem dX6_luckOf_18 : decode cX6_luckOf 18 = .ok (.i2l, 1) := by decide +kernel
theorem dX6_luckOf_19 : decode cX6_luckOf 19 = .ok (.lreturn, 1) := by decide +kernel
theorem dX6_numbers_0 : decode cX6_numbers 0 = .ok (.iconst 0, 1) := by decide +kernel
theorem dX6_numbers_1 : decode cX6_numbers 1 = .ok (.istore_n 1, 1) := by decide +kernel
theorem dX6_numbers_2 : decode cX6_numbers 2 = .ok (.iconst 0, 1) := by decide +kernel
theorem dX6_numbers_3 : decode cX6_numbers 3 = .ok (.istore_n 2, 1) := by decide +kernel
theorem dX6_numbers_4 : decode cX6_numbers 4 = .ok (.iload_n 2, 1) := by decide +kernel
theorem dX6_numbers_5 : decode cX6_numbers 5 = .ok (.aload_n 0, 1) := by decide +kernel
theorem dX6_numbers_6 : decode cX6_numbers 6 = .ok (.getfield 44, 3) := by decide +kernel
theorem dX6_numbers_9 : decode cX6_numbers 9 = .ok (.if_icmp .ge 30, 3) := by decide +kernel
theorem dX6_numbers_12 : decode cX6_numbers 12 = .ok (.aload_n 0, 1) := by decide +kernel
theorem dX6_numbers_13 : decode cX6_numbers 13 = .ok (.iload_n 2, 1) := by decide +kernel
theorem dX6_numbers_14 : decode cX6_numbers 14 = .ok (.invokevirtual 58, 3) := by decide +kernel
theorem dX6_numbers_17 : decode cX6_numbers 17 = .ok (.astore_n 3, 1) := by decide +kernel
theorem dX6_numbers_18 : decode cX6_numbers 18 = .ok (.iload_n 1, 1) := by decide +kernel
theorem dX6_numbers_19 : decode cX6_numbers 19 = .ok (.aload_n 3, 1) := by decide +kernel
theorem dX6_numbers_20 : decode cX6_numbers 20 = .ok (.ifnonnull 7, 3) := by decide +kernel
theorem dX6_numbers_23 : decode cX6_numbers 23 = .ok (.iconst 0, 1) := by decide +kernel
theorem dX6_numbers_24 : decode cX6_numbers 24 = .ok (.goto 7, 3) := by decide +kernel
theorem dX6_numbers_27 : decode cX6_numbers 27 = .ok (.aload_n 3, 1) := by decide +kernel
theorem dX6_numbers_28 : decode cX6_numbers 28 = .ok (.invokevirtual 95, 3) := by decide +kernel
theorem dX6_numbers_31 : decode cX6_numbers 31 = .ok (.iadd, 1) := by decide +kernel
theorem dX6_numbers_32 : decode cX6_numbers 32 = .ok (.istore_n 1, 1) := by decide +kernel
theorem dX6_numbers_33 : decode cX6_numbers 33 = .ok (.iinc 2 1, 3) := by decide +kernel
theorem dX6_numbers_36 : decode cX6_numbers 36 = .ok (.goto (-32), 3) := by decide +kernel
theorem dX6_numbers_39 : decode cX6_numbers 39 = .ok (.iload_n 1, 1) := by decide +kernel
theorem dX6_numbers_40 : decode cX6_numbers 40 = .ok (.ireturn, 1) := by decide +kernel
theorem dX6_placeFor_0 : decode cX6_placeFor 0 = .ok (.aload_n 0, 1) := by decide +kernel
theorem dX6_placeFor_1 : decode cX6_placeFor 1 = .ok (.getfield 11, 3) := by decide +kernel
theorem dX6_placeFor_4 : decode cX6_placeFor 4 = .ok (.iload_n 1, 1) := by decide +kernel
theorem dX6_placeFor_5 : decode cX6_placeFor 5 = .ok (.aaload, 1) := by decide +kernel
theorem dX6_placeFor_6 : decode cX6_placeFor 6 = .ok (.astore_n 2, 1) := by decide +kernel
theorem dX6_placeFor_7 : decode cX6_placeFor 7 = .ok (.aload_n 2, 1) := by decide +kernel
theorem dX6_placeFor_8 : decode cX6_placeFor 8 = .ok (.ifnonnull 18, 3) := by decide +kernel
theorem dX6_placeFor_11 : decode cX6_placeFor 11 = .ok (.new 9, 3) := by decide +kernel
theorem dX6_placeFor_14 : decode cX6_placeFor 14 = .ok (.dup, 1) := by decide +kernel
theorem dX6_placeFor_15 : decode cX6_placeFor 15 = .ok (.invokespecial 75, 3) := by decide +kernel
theorem dX6_placeFor_18 : decode cX6_placeFor 18 = .ok (.astore_n 2, 1) := by decide +kernel
theorem dX6_placeFor_19 : decode cX6_placeFor 19 = .ok (.aload_n 0, 1) := by decide +kernel
theorem dX6_placeFor_20 : decode cX6_placeFor 20 = .ok (.getfield 11, 3) := by decide +kernel
theorem dX6_placeFor_23 : decode cX6_placeFor 23 = .ok (.iload_n 1, 1) := by decide +kernel
theorem dX6_placeFor_24 : decode cX6_placeFor 24 = .ok (.aload_n 2, 1) := by decide +kernel
theorem dX6_placeFor_25 : decode cX6_placeFor 25 = .ok (.aastore, 1) := by decide +kernel
theorem dX6_placeFor_26 : decode cX6_placeFor 26 = .ok (.aload_n 2, 1) := by decide +kernel
theorem dX6_placeFor_27 : decode cX6_placeFor 27 = .ok (.areturn, 1) := by decide +kernel
theorem dX6_putIn_0 : decode cX6_putIn 0 = .ok (.iconst 0, 1) := by decide +kernel
theorem dX6_putIn_1 : decode cX6_putIn 1 = .ok (.istore_n 1, 1) := by decide +kernel
theorem dX6_putIn_2 : decode cX6_putIn 2 = .ok (.iconst 0, 1) := by decide +kernel
theorem dX6_putIn_3 : decode cX6_putIn 3 = .ok (.istore_n 2, 1) := by decide +kernel
theorem dX6_putIn_4 : decode cX6_putIn 4 = .ok (.iload_n 2, 1) := by decide +kernel
theorem dX6_putIn_5 : decode cX6_putIn 5 = .ok (.aload_n 0, 1) := by decide +kernel
theorem dX6_putIn_6 : decode cX6_putIn 6 = .ok (.getfield 47, 3) := by decide +kernel
theorem dX6_putIn_9 : decode cX6_putIn 9 = .ok (.if_icmp .ge 34, 3) := by decide +kernel
theorem dX6_putIn_12 : decode cX6_putIn 12 = .ok (.aload_n 0, 1) := by decide +kernel
theorem dX6_putIn_13 : decode cX6_putIn 13 = .ok (.iload_n 2, 1) := by decide +kernel
theorem dX6_putIn_14 : decode cX6_putIn 14 = .ok (.invokevirtual 50, 3) := by decide +kernel
theorem dX6_putIn_17 : decode cX6_putIn 17 = .ok (.astore_n 3, 1) := by decide +kernel
theorem dX6_putIn_18 : decode cX6_putIn 18 = .ok (.iload_n 1, 1) := by decide +kernel
theorem dX6_putIn_19 : decode cX6_putIn 19 = .ok (.aload_n 3, 1) := by decide +kernel
theorem dX6_putIn_20 : decode cX6_putIn 20 = .ok (.ifnull 14, 3) := by decide +kernel
theorem dX6_putIn_23 : decode cX6_putIn 23 = .ok (.aload_n 3, 1) := by decide +kernel
theorem dX6_putIn_24 : decode cX6_putIn 24 = .ok (.getfield 54, 3) := by decide +kernel
theorem dX6_putIn_27 : decode cX6_putIn 27 = .ok (.ifCond .eq 7, 3) := by decide +kernel
theorem dX6_putIn_30 : decode cX6_putIn 30 = .ok (.iconst 1, 1) := by decide +kernel
theorem dX6_putIn_31 : decode cX6_putIn 31 = .ok (.goto 4, 3) := by decide +kernel
theorem dX6_putIn_34 : decode cX6_putIn 34 = .ok (.iconst 0, 1) := by decide +kernel
theorem dX6_putIn_35 : decode cX6_putIn 35 = .ok (.iadd, 1) := by decide +kernel
theorem dX6_putIn_36 : decode cX6_putIn 36 = .ok (.istore_n 1, 1) := by decide +kernel
theorem dX6_putIn_37 : decode cX6_putIn 37 = .ok (.iinc 2 1, 3) := by decide +kernel
theorem dX6_putIn_40 : decode cX6_putIn 40 = .ok (.goto (-36), 3) := by decide +kernel
theorem dX6_putIn_43 : decode cX6_putIn 43 = .ok (.iload_n 1, 1) := by decide +kernel
theorem dX6_putIn_44 : decode cX6_putIn 44 = .ok (.ireturn, 1) := by decide +kernel
theorem dX6_sizeOf_0 : decode cX6_sizeOf 0 = .ok (.aload_n 0, 1) := by decide +kernel
theorem dX6_sizeOf_1 : decode cX6_sizeOf 1 = .ok (.iload_n 1, 1) := by decide +kernel
theorem dX6_sizeOf_2 : decode cX6_sizeOf 2 = .ok (.invokevirtual 58, 3) := by decide +kernel
theorem dX6_sizeOf_5 : decode cX6_sizeOf 5 = .ok (.astore_n 2, 1) := by decide +kernel
theorem dX6_sizeOf_6 : decode cX6_sizeOf 6 = .ok (.aload_n 2, 1) := by decide +kernel
theorem dX6_sizeOf_7 : decode cX6_sizeOf 7 = .ok (.ifnonnull 7, 3) := by decide +kernel
theorem dX6_sizeOf_10 : decode cX6_sizeOf 10 = .ok (.lconst 0, 1) := by decide +kernel
theorem dX6_sizeOf_11 : decode cX6_sizeOf 11 = .ok (.goto 8, 3) := by decide +kernel
theorem dX6_sizeOf_14 : decode cX6_sizeOf 14 = .ok (.aload_n 2, 1) := by decide +kernel
theorem dX6_sizeOf_15 : decode cX6_sizeOf 15 = .ok (.getfield 62, 3) := by decide +kernel
theorem dX6_sizeOf_18 : decode cX6_sizeOf 18 = .ok (.i2l, 1) := by decide +kernel
theorem dX6_sizeOf_19 : decode cX6_sizeOf 19 = .ok (.lreturn, 1) := by decide +kernel
theorem dX6_starAt_0 : decode cX6_starAt 0 = .ok (.iload_n 1, 1) := by decide +kernel
theorem dX6_starAt_1 : decode cX6_starAt 1 = .ok (.ifCond .lt 26, 3) := by decide +kernel
theorem dX6_starAt_4 : decode cX6_starAt 4 = .ok (.iload_n 1, 1) := by decide +kernel
theorem dX6_starAt_5 : decode cX6_starAt 5 = .ok (.aload_n 0, 1) := by decide +kernel
theorem dX6_starAt_6 : decode cX6_starAt 6 = .ok (.getfield 44, 3) := by decide +kernel
theorem dX6_starAt_9 : decode cX6_starAt 9 = .ok (.if_icmp .ge 18, 3) := by decide +kernel
theorem dX6_starAt_12 : decode cX6_starAt 12 = .ok (.iload_n 1, 1) := by decide +kernel
theorem dX6_starAt_13 : decode cX6_starAt 13 = .ok (.bipush 12, 2) := by decide +kernel
theorem dX6_starAt_15 : decode cX6_starAt 15 = .ok (.if_icmp .ge 12, 3) := by decide +kernel
theorem dX6_starAt_18 : decode cX6_starAt 18 = .ok (.aload_n 0, 1) := by decide +kernel
theorem dX6_starAt_19 : decode cX6_starAt 19 = .ok (.getfield 11, 3) := by decide +kernel
theorem dX6_starAt_22 : decode cX6_starAt 22 = .ok (.iload_n 1, 1) := by decide +kernel
theorem dX6_starAt_23 : decode cX6_starAt 23 = .ok (.aaload, 1) := by decide +kernel
theorem dX6_starAt_24 : decode cX6_starAt 24 = .ok (.goto 4, 3) := by decide +kernel
theorem dX6_starAt_27 : decode cX6_starAt 27 = .ok (.aconst_null, 1) := by decide +kernel
theorem dX6_starAt_28 : decode cX6_starAt 28 = .ok (.areturn, 1) := by decide +kernel
theorem dX6_stepUp_0 : decode cX6_stepUp 0 = .ok (.iconst 0, 1) := by decide +kernel
theorem dX6_stepUp_1 : decode cX6_stepUp 1 = .ok (.istore_n 3, 1) := by decide +kernel
theorem dX6_stepUp_2 : decode cX6_stepUp 2 = .ok (.iload_n 2, 1) := by decide +kernel
theorem dX6_stepUp_3 : decode cX6_stepUp 3 = .ok (.invokestatic 89, 3) := by decide +kernel
theorem dX6_stepUp_6 : decode cX6_stepUp 6 = .ok (.istore 4, 2) := by decide +kernel
theorem dX6_stepUp_8 : decode cX6_stepUp 8 = .ok (.iconst 0, 1) := by decide +kernel
theorem dX6_stepUp_9 : decode cX6_stepUp 9 = .ok (.istore 5, 2) := by decide +kernel
theorem dX6_stepUp_11 : decode cX6_stepUp 11 = .ok (.iload 5, 2) := by decide +kernel
theorem dX6_stepUp_13 : decode cX6_stepUp 13 = .ok (.iload 4, 2) := by decide +kernel
theorem dX6_stepUp_15 : decode cX6_stepUp 15 = .ok (.if_icmp .gt 38, 3) := by decide +kernel
theorem dX6_stepUp_18 : decode cX6_stepUp 18 = .ok (.iload 5, 2) := by decide +kernel
theorem dX6_stepUp_20 : decode cX6_stepUp 20 = .ok (.aload_n 1, 1) := by decide +kernel
theorem dX6_stepUp_21 : decode cX6_stepUp 21 = .ok (.arraylength, 1) := by decide +kernel
theorem dX6_stepUp_22 : decode cX6_stepUp 22 = .ok (.if_icmp .ge 31, 3) := by decide +kernel
theorem dX6_stepUp_25 : decode cX6_stepUp 25 = .ok (.iload_n 3, 1) := by decide +kernel
theorem dX6_stepUp_26 : decode cX6_stepUp 26 = .ok (.iload 5, 2) := by decide +kernel
theorem dX6_stepUp_28 : decode cX6_stepUp 28 = .ok (.iload 4, 2) := by decide +kernel
theorem dX6_stepUp_30 : decode cX6_stepUp 30 = .ok (.if_icmp .ne 10, 3) := by decide +kernel
theorem dX6_stepUp_33 : decode cX6_stepUp 33 = .ok (.aload_n 1, 1) := by decide +kernel
theorem dX6_stepUp_34 : decode cX6_stepUp 34 = .ok (.iload 5, 2) := by decide +kernel
theorem dX6_stepUp_36 : decode cX6_stepUp 36 = .ok (.iaload, 1) := by decide +kernel
theorem dX6_stepUp_37 : decode cX6_stepUp 37 = .ok (.goto 8, 3) := by decide +kernel
theorem dX6_stepUp_40 : decode cX6_stepUp 40 = .ok (.aload_n 1, 1) := by decide +kernel
theorem dX6_stepUp_41 : decode cX6_stepUp 41 = .ok (.iload 5, 2) := by decide +kernel
theorem dX6_stepUp_43 : decode cX6_stepUp 43 = .ok (.iaload, 1) := by decide +kernel
theorem dX6_stepUp_44 : decode cX6_stepUp 44 = .ok (.ineg, 1) := by decide +kernel
theorem dX6_stepUp_45 : decode cX6_stepUp 45 = .ok (.iadd, 1) := by decide +kernel
theorem dX6_stepUp_46 : decode cX6_stepUp 46 = .ok (.istore_n 3, 1) := by decide +kernel
theorem dX6_stepUp_47 : decode cX6_stepUp 47 = .ok (.iinc 5 1, 3) := by decide +kernel
theorem dX6_stepUp_50 : decode cX6_stepUp 50 = .ok (.goto (-39), 3) := by decide +kernel
theorem dX6_stepUp_53 : decode cX6_stepUp 53 = .ok (.iload_n 3, 1) := by decide +kernel
theorem dX6_stepUp_54 : decode cX6_stepUp 54 = .ok (.ireturn, 1) := by decide +kernel
theorem dX6_worldAt_0 : decode cX6_worldAt 0 = .ok (.iload_n 1, 1) := by decide +kernel
theorem dX6_worldAt_1 : decode cX6_worldAt 1 = .ok (.ifCond .lt 26, 3) := by decide +kernel
theorem dX6_worldAt_4 : decode cX6_worldAt 4 = .ok (.iload_n 1, 1) := by decide +kernel
theorem dX6_worldAt_5 : decode cX6_worldAt 5 = .ok (.aload_n 0, 1) := by decide +kernel
theorem dX6_worldAt_6 : decode cX6_worldAt 6 = .ok (.getfield 47, 3) := by decide +kernel
theorem dX6_worldAt_9 : decode cX6_worldAt 9 = .ok (.if_icmp .ge 18, 3) := by decide +kernel
theorem dX6_worldAt_12 : decode cX6_worldAt 12 = .ok (.iload_n 1, 1) := by decide +kernel
theorem dX6_worldAt_13 : decode cX6_worldAt 13 = .ok (.bipush 40, 2) := by decide +kernel
theorem dX6_worldAt_15 : decode cX6_worldAt 15 = .ok (.if_icmp .ge 12, 3) := by decide +kernel
theorem dX6_worldAt_18 : decode cX6_worldAt 18 = .ok (.aload_n 0, 1) := by decide +kernel
theorem dX6_worldAt_19 : decode cX6_worldAt 19 = .ok (.getfield 19, 3) := by decide +kernel
theorem dX6_worldAt_22 : decode cX6_worldAt 22 = .ok (.iload_n 1, 1) := by decide +kernel
theorem dX6_worldAt_23 : decode cX6_worldAt 23 = .ok (.aaload, 1) := by decide +kernel
theorem dX6_worldAt_24 : decode cX6_worldAt 24 = .ok (.goto 4, 3) := by decide +kernel
theorem dX6_worldAt_27 : decode cX6_worldAt 27 = .ok (.aconst_null, 1) := by decide +kernel
theorem dX6_worldAt_28 : decode cX6_worldAt 28 = .ok (.areturn, 1) := by decide +kernel
theorem dX7_become_0 : decode cX7_become 0 = .ok (.aload_n 0, 1) := by decide +kernel
theorem dX7_become_1 : decode cX7_become 1 = .ok (.aload_n 1, 1) := by decide +kernel
theorem dX7_become_2 : decode cX7_become 2 = .ok (.getfield 15, 3) := by decide +kernel
theorem dX7_become_5 : decode cX7_become 5 = .ok (.putfield 15, 3) := by decide +kernel
theorem dX7_become_8 : decode cX7_become 8 = .ok (.aload_n 0, 1) := by decide +kernel
theorem dX7_become_9 : decode cX7_become 9 = .ok (.aload_n 1, 1) := by decide +kernel
theorem dX7_become_10 : decode cX7_become 10 = .ok (.getfield 19, 3) := by decide +kernel
theorem dX7_become_13 : decode cX7_become 13 = .ok (.putfield 19, 3) := by decide +kernel
theorem dX7_become_16 : decode cX7_become 16 = .ok (.aload_n 0, 1) := by decide +kernel
theorem dX7_become_17 : decode cX7_become 17 = .ok (.aload_n 1, 1) := by decide +kernel
theorem dX7_become_18 : decode cX7_become 18 = .ok (.getfield 22, 3) := by decide +kernel
theorem dX7_become_21 : decode cX7_become 21 = .ok (.putfield 22, 3) := by decide +kernel
theorem dX7_become_24 : decode cX7_become 24 = .ok (.aload_n 1, 1) := by decide +kernel
theorem dX7_become_25 : decode cX7_become 25 = .ok (.getfield 9, 3) := by decide +kernel
theorem dX7_become_28 : decode cX7_become 28 = .ok (.iconst 0, 1) := by decide +kernel
theorem dX7_become_29 : decode cX7_become 29 = .ok (.aload_n 0, 1) := by decide +kernel
theorem dX7_become_30 : decode cX7_become 30 = .ok (.getfield 9, 3) := by decide +kernel
theorem dX7_become_33 : decode cX7_become 33 = .ok (.iconst 0, 1) := by decide +kernel
theorem dX7_become_34 : decode cX7_become 34 = .ok (.sipush 600, 3) := by decide +kernel
theorem dX7_become_37 : decode cX7_become 37 = .ok (.invokestatic 32, 3) := by decide +kernel
theorem dX7_become_40 : decode cX7_become 40 = .ok (.return_, 1) := by decide +kernel
theorem dX7_begin_0 : decode cX7_begin 0 = .ok (.aload_n 0, 1) := by decide +kernel
theorem dX7_begin_1 : decode cX7_begin 1 = .ok (.iload_n 1, 1) := by decide +kernel
theorem dX7_begin_2 : decode cX7_begin 2 = .ok (.putfield 15, 3) := by decide +kernel
theorem dX7_begin_5 : decode cX7_begin 5 = .ok (.aload_n 0, 1) := by decide +kernel
theorem dX7_begin_6 : decode cX7_begin 6 = .ok (.iload_n 2, 1) := by decide +kernel
theorem dX7_begin_7 : decode cX7_begin 7 = .ok (.putfield 19, 3) := by decide +kernel
theorem dX7_begin_10 : decode cX7_begin 10 = .ok (.aload_n 0, 1) := by decide +kernel
theorem dX7_begin_11 : decode cX7_begin 11 = .ok (.iload_n 3, 1) := by decide +kernel
theorem dX7_begin_12 : decode cX7_begin 12 = .ok (.putfield 22, 3) := by decide +kernel
theorem dX7_begin_15 : decode cX7_begin 15 = .ok (.aload_n 0, 1) := by decide +kernel
theorem dX7_begin_16 : decode cX7_begin 16 = .ok (.getfield 9, 3) := by decide +kernel
theorem dX7_begin_19 : decode cX7_begin 19 = .ok (.ldc 25, 2) := by decide +kernel
theorem dX7_begin_21 : decode cX7_begin 21 = .ok (.invokestatic 26, 3) := by decide +kernel
theorem dX7_begin_24 : decode cX7_begin 24 = .ok (.return_, 1) := by decide +kernel
theorem dX7_mean_0 : decode cX7_mean 0 = .ok (.lconst 0, 1) := by decide +kernel
theorem dX7_mean_1 : decode cX7_mean 1 = .ok (.lstore_n 1, 1) := by decide +kernel
theorem dX7_mean_2 : decode cX7_mean 2 = .ok (.lconst 0, 1) := by decide +kernel
theorem dX7_mean_3 : decode cX7_mean 3 = .ok (.lstore_n 3, 1) := by decide +kernel
theorem dX7_mean_4 : decode cX7_mean 4 = .ok (.iconst 0, 1) := by decide +kernel
theorem dX7_mean_5 : decode cX7_mean 5 = .ok (.istore 5, 2) := by decide +kernel
theorem dX7_mean_7 : decode cX7_mean 7 = .ok (.iload 5, 2) := by decide +kernel
theorem dX7_mean_9 : decode cX7_mean 9 = .ok (.sipush 600, 3) := by decide +kernel
theorem dX7_mean_12 : decode cX7_mean 12 = .ok (.if_icmp .ge 56, 3) := by decide +kernel
theorem dX7_mean_15 : decode cX7_mean 15 = .ok (.lload_n 1, 1) := by decide +kernel
theorem dX7_mean_16 : decode cX7_mean 16 = .ok (.aload_n 0, 1) := by decide +kernel
theorem dX7_mean_17 : decode cX7_mean 17 = .ok (.getfield 9, 3) := by decide +kernel
theorem dX7_mean_20 : decode cX7_mean 20 = .ok (.iload 5, 2) := by decide +kernel
theorem dX7_mean_22 : decode cX7_mean 22 = .ok (.iaload, 1) := by decide +kernel
theorem dX7_mean_23 : decode cX7_mean 23 = .ok (.ldc 25, 2) := by decide +kernel
theorem dX7_mean_25 : decode cX7_mean 25 = .ok (.if_icmp .ne 7, 3) := by decide +kernel
theorem dX7_mean_28 : decode cX7_mean 28 = .ok (.lconst 0, 1) := by decide +kernel
theorem dX7_mean_29 : decode cX7_mean 29 = .ok (.goto 11, 3) := by decide +kernel
theorem dX7_mean_32 : decode cX7_mean 32 = .ok (.aload_n 0, 1) := by decide +kernel
theorem dX7_mean_33 : decode cX7_mean 33 = .ok (.getfield 9, 3) := by decide +kernel
theorem dX7_mean_36 : decode cX7_mean 36 = .ok (.iload 5, 2) := by decide +kernel
theorem dX7_mean_38 : decode cX7_mean 38 = .ok (.iaload, 1) := by decide +kernel
theorem dX7_mean_39 : decode cX7_mean 39 = .ok (.i2l, 1) := by decide +kernel
theorem dX7_mean_40 : decode cX7_mean 40 = .ok (.ladd, 1) := by decide +kernel
theorem dX7_mean_41 : decode cX7_mean 41 = .ok (.lstore_n 1, 1) := by decide +kernel
theorem dX7_mean_42 : decode cX7_mean 42 = .ok (.lload_n 3, 1) := by decide +kernel
theorem dX7_mean_43 : decode cX7_mean 43 = .ok (.aload_n 0, 1) := by decide +kernel
theorem dX7_mean_44 : decode cX7_mean 44 = .ok (.getfield 9, 3) := by decide +kernel
theorem dX7_mean_47 : decode cX7_mean 47 = .ok (.iload 5, 2) := by decide +kernel
theorem dX7_mean_49 : decode cX7_mean 49 = .ok (.iaload, 1) := by decide +kernel
theorem dX7_mean_50 : decode cX7_mean 50 = .ok (.ldc 25, 2) := by decide +kernel
theorem dX7_mean_52 : decode cX7_mean 52 = .ok (.if_icmp .ne 7, 3) := by decide +kernel
theorem dX7_mean_55 : decode cX7_mean 55 = .ok (.lconst 0, 1) := by decide +kernel
theorem dX7_mean_56 : decode cX7_mean 56 = .ok (.goto 4, 3) := by decide +kernel
theorem dX7_mean_59 : decode cX7_mean 59 = .ok (.lconst 1, 1) := by decide +kernel
theorem dX7_mean_60 : decode cX7_mean 60 = .ok (.ladd, 1) := by decide +kernel
theorem dX7_mean_61 : decode cX7_mean 61 = .ok (.lstore_n 3, 1) := by decide +kernel
theorem dX7_mean_62 : decode cX7_mean 62 = .ok (.iinc 5 1, 3) := by decide +kernel
theorem dX7_mean_65 : decode cX7_mean 65 = .ok (.goto (-58), 3) := by decide +kernel
theorem dX7_mean_68 : decode cX7_mean 68 = .ok (.lload_n 3, 1) := by decide +kernel
theorem dX7_mean_69 : decode cX7_mean 69 = .ok (.lconst 0, 1) := by decide +kernel
theorem dX7_mean_70 : decode cX7_mean 70 = .ok (.lcmp, 1) := by decide +kernel
theorem dX7_mean_71 : decode cX7_mean 71 = .ok (.ifCond .ne 7, 3) := by decide +kernel
theorem dX7_mean_74 : decode cX7_mean 74 = .ok (.lconst 0, 1) := by decide +kernel
theorem dX7_mean_75 : decode cX7_mean 75 = .ok (.goto 8, 3) := by decide +kernel
theorem dX7_mean_78 : decode cX7_mean 78 = .ok (.lload_n 1, 1) := by decide +kernel
theorem dX7_mean_79 : decode cX7_mean 79 = .ok (.lload_n 3, 1) := by decide +kernel
theorem dX7_mean_80 : decode cX7_mean 80 = .ok (.invokestatic 38, 3) := by decide +kernel
theorem dX7_mean_83 : decode cX7_mean 83 = .ok (.lreturn, 1) := by decide +kernel
theorem dX7_numbers_0 : decode cX7_numbers 0 = .ok (.iconst 0, 1) := by decide +kernel
theorem dX7_numbers_1 : decode cX7_numbers 1 = .ok (.istore_n 1, 1) := by decide +kernel
theorem dX7_numbers_2 : decode cX7_numbers 2 = .ok (.iconst 0, 1) := by decide +kernel
theorem dX7_numbers_3 : decode cX7_numbers 3 = .ok (.istore_n 2, 1) := by decide +kernel
theorem dX7_numbers_4 : decode cX7_numbers 4 = .ok (.iload_n 2, 1) := by decide +kernel
theorem dX7_numbers_5 : decode cX7_numbers 5 = .ok (.sipush 600, 3) := by decide +kernel
theorem dX7_numbers_8 : decode cX7_numbers 8 = .ok (.if_icmp .ge 28, 3) := by decide +kernel
theorem dX7_numbers_11 : decode cX7_numbers 11 = .ok (.iload_n 1, 1) := by decide +kernel
theorem dX7_numbers_12 : decode cX7_numbers 12 = .ok (.aload_n 0, 1) := by decide +kernel
theorem dX7_numbers_13 : decode cX7_numbers 13 = .ok (.getfield 9, 3) := by decide +kernel
theorem dX7_numbers_16 : decode cX7_numbers 16 = .ok (.iload_n 2, 1) := by decide +kernel
theorem dX7_numbers_17 : decode cX7_numbers 17 = .ok (.iaload, 1) := by decide +kernel
theorem dX7_numbers_18 : decode cX7_numbers 18 = .ok (.ldc 25, 2) := by decide +kernel
theorem dX7_numbers_20 : decode cX7_numbers 20 = .ok (.if_icmp .ne 7, 3) := by decide +kernel
theorem dX7_numbers_23 : decode cX7_numbers 23 = .ok (.iconst 0, 1) := by decide +kernel
theorem dX7_numbers_24 : decode cX7_numbers 24 = .ok (.goto 4, 3) := by decide +kernel
theorem dX7_numbers_27 : decode cX7_numbers 27 = .ok (.iconst 1, 1) := by decide +kernel
theorem dX7_numbers_28 : decode cX7_numbers 28 = .ok (.iadd, 1) := by decide +kernel
theorem dX7_numbers_29 : decode cX7_numbers 29 = .ok (.istore_n 1, 1) := by decide +kernel
theorem dX7_numbers_30 : decode cX7_numbers 30 = .ok (.iinc 2 1, 3) := by decide +kernel
theorem dX7_numbers_33 : decode cX7_numbers 33 = .ok (.goto (-29), 3) := by decide +kernel
theorem dX7_numbers_36 : decode cX7_numbers 36 = .ok (.iload_n 1, 1) := by decide +kernel
theorem dX7_numbers_37 : decode cX7_numbers 37 = .ok (.ireturn, 1) := by decide +kernel
theorem dX9_isDipAt_0 : decode cX9_isDipAt 0 = .ok (.iload_n 1, 1) := by decide +kernel
theorem dX9_isDipAt_1 : decode cX9_isDipAt 1 = .ok (.aload_n 0, 1) := by decide +kernel
theorem dX9_isDipAt_2 : decode cX9_isDipAt 2 = .ok (.getfield 16, 3) := by decide +kernel
theorem dX9_isDipAt_5 : decode cX9_isDipAt 5 = .ok (.if_icmp .lt 32, 3) := by decide +kernel
theorem dX9_isDipAt_8 : decode cX9_isDipAt 8 = .ok (.aload_n 0, 1) := by decide +kernel
theorem dX9_isDipAt_9 : decode cX9_isDipAt 9 = .ok (.getfield 13, 3) := by decide +kernel
theorem dX9_isDipAt_12 : decode cX9_isDipAt 12 = .ok (.ifCond .le 25, 3) := by decide +kernel
theorem dX9_isDipAt_15 : decode cX9_isDipAt 15 = .ok (.iload_n 1, 1) := by decide +kernel
theorem dX9_isDipAt_16 : decode cX9_isDipAt 16 = .ok (.aload_n 0, 1) := by decide +kernel
theorem dX9_isDipAt_17 : decode cX9_isDipAt 17 = .ok (.getfield 16, 3) := by decide +kernel
theorem dX9_isDipAt_20 : decode cX9_isDipAt 20 = .ok (.isub, 1) := by decide +kernel
theorem dX9_isDipAt_21 : decode cX9_isDipAt 21 = .ok (.aload_n 0, 1) := by decide +kernel
theorem dX9_isDipAt_22 : decode cX9_isDipAt 22 = .ok (.getfield 13, 3) := by decide +kernel
theorem dX9_isDipAt_25 : decode cX9_isDipAt 25 = .ok (.irem, 1) := by decide +kernel
theorem dX9_isDipAt_26 : decode cX9_isDipAt 26 = .ok (.aload_n 0, 1) := by decide +kernel
theorem dX9_isDipAt_27 : decode cX9_isDipAt 27 = .ok (.getfield 19, 3) := by decide +kernel
theorem dX9_isDipAt_30 : decode cX9_isDipAt 30 = .ok (.if_icmp .ge 7, 3) := by decide +kernel
theorem dX9_isDipAt_33 : decode cX9_isDipAt 33 = .ok (.iconst 1, 1) := by decide +kernel
theorem dX9_isDipAt_34 : decode cX9_isDipAt 34 = .ok (.goto 4, 3) := by decide +kernel
theorem dX9_isDipAt_37 : decode cX9_isDipAt 37 = .ok (.iconst 0, 1) := by decide +kernel
theorem dX9_isDipAt_38 : decode cX9_isDipAt 38 = .ok (.ireturn, 1) := by decide +kernel
