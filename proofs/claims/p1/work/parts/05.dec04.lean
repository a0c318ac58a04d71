theorem dX3_read_77 : decode cX3_read 77 = .ok (.invokevirtual 58, 3) := by decide +kernel
theorem dX3_read_80 : decode cX3_read 80 = .ok (.aload_n 0, 1) := by decide +kernel
theorem dX3_read_81 : decode cX3_read 81 = .ok (.invokevirtual 61, 3) := by decide +kernel
theorem dX3_read_84 : decode cX3_read 84 = .ok (.iconst 0, 1) := by decide +kernel
theorem dX3_read_85 : decode cX3_read 85 = .ok (.istore 4, 2) := by decide +kernel
theorem dX3_read_87 : decode cX3_read 87 = .ok (.iload 4, 2) := by decide +kernel
theorem dX3_read_89 : decode cX3_read 89 = .ok (.sipush 400, 3) := by decide +kernel
theorem dX3_read_92 : decode cX3_read 92 = .ok (.if_icmp .gt 49, 3) := by decide +kernel
theorem dX3_read_95 : decode cX3_read 95 = .ok (.aload_n 0, 1) := by decide +kernel
theorem dX3_read_96 : decode cX3_read 96 = .ok (.getfield 41, 3) := by decide +kernel
theorem dX3_read_99 : decode cX3_read 99 = .ok (.ifCond .ne 42, 3) := by decide +kernel
theorem dX3_read_102 : decode cX3_read 102 = .ok (.aload_n 0, 1) := by decide +kernel
theorem dX3_read_103 : decode cX3_read 103 = .ok (.iload_n 3, 1) := by decide +kernel
theorem dX3_read_104 : decode cX3_read 104 = .ok (.iload 4, 2) := by decide +kernel
theorem dX3_read_106 : decode cX3_read 106 = .ok (.invokevirtual 64, 3) := by decide +kernel
theorem dX3_read_109 : decode cX3_read 109 = .ok (.aload_n 0, 1) := by decide +kernel
theorem dX3_read_110 : decode cX3_read 110 = .ok (.getfield 41, 3) := by decide +kernel
theorem dX3_read_113 : decode cX3_read 113 = .ok (.ifCond .ne 28, 3) := by decide +kernel
theorem dX3_read_141 : decode cX3_read 141 = .ok (.aload_n 0, 1) := by decide +kernel
theorem dX3_read_142 : decode cX3_read 142 = .ok (.getfield 41, 3) := by decide +kernel
theorem dX3_read_145 : decode cX3_read 145 = .ok (.ireturn, 1) := by decide +kernel
theorem dX3_readClause_0 : decode cX3_readClause 0 = .ok (.iload_n 1, 1) := by decide +kernel
theorem dX3_readClause_1 : decode cX3_readClause 1 = .ok (.ifCond .ne 8, 3) := by decide +kernel
theorem dX3_readClause_4 : decode cX3_readClause 4 = .ok (.ldc 93, 2) := by decide +kernel
theorem dX3_readClause_6 : decode cX3_readClause 6 = .ok (.goto 15, 3) := by decide +kernel
theorem dX3_readClause_9 : decode cX3_readClause 9 = .ok (.iload_n 1, 1) := by decide +kernel
theorem dX3_readClause_10 : decode cX3_readClause 10 = .ok (.iconst 1, 1) := by decide +kernel
theorem dX3_readClause_11 : decode cX3_readClause 11 = .ok (.if_icmp .ne 8, 3) := by decide +kernel
theorem dX3_readClause_14 : decode cX3_readClause 14 = .ok (.ldc 95, 2) := by decide +kernel
theorem dX3_readClause_16 : decode cX3_readClause 16 = .ok (.goto 5, 3) := by decide +kernel
theorem dX3_readClause_19 : decode cX3_readClause 19 = .ok (.ldc 97, 2) := by decide +kernel
theorem dX3_readClause_21 : decode cX3_readClause 21 = .ok (.astore_n 3, 1) := by decide +kernel
theorem dX3_readClause_22 : decode cX3_readClause 22 = .ok (.aload_n 0, 1) := by decide +kernel
theorem dX3_readClause_23 : decode cX3_readClause 23 = .ok (.aload_n 3, 1) := by decide +kernel
theorem dX3_readClause_24 : decode cX3_readClause 24 = .ok (.invokevirtual 99, 3) := by decide +kernel
theorem dX3_readClause_27 : decode cX3_readClause 27 = .ok (.istore 4, 2) := by decide +kernel
theorem dX3_readClause_29 : decode cX3_readClause 29 = .ok (.iload_n 1, 1) := by decide +kernel
theorem dX3_readClause_30 : decode cX3_readClause 30 = .ok (.ifCond .ne 13, 3) := by decide +kernel
theorem dX3_readClause_33 : decode cX3_readClause 33 = .ok (.iload 4, 2) := by decide +kernel
theorem dX3_readClause_35 : decode cX3_readClause 35 = .ok (.iconst 1, 1) := by decide +kernel
theorem dX3_readClause_36 : decode cX3_readClause 36 = .ok (.if_icmp .ne 7, 3) := by decide +kernel
theorem dX3_readClause_43 : decode cX3_readClause 43 = .ok (.iconst 0, 1) := by decide +kernel
theorem dX3_readClause_44 : decode cX3_readClause 44 = .ok (.istore 5, 2) := by decide +kernel
theorem dX3_readClause_46 : decode cX3_readClause 46 = .ok (.iload_n 1, 1) := by decide +kernel
theorem dX3_readClause_47 : decode cX3_readClause 47 = .ok (.iconst 1, 1) := by decide +kernel
theorem dX3_readClause_48 : decode cX3_readClause 48 = .ok (.if_icmp .eq 8, 3) := by decide +kernel
theorem dX3_readClause_51 : decode cX3_readClause 51 = .ok (.iload 5, 2) := by decide +kernel
theorem dX3_readClause_53 : decode cX3_readClause 53 = .ok (.ifCond .eq 7, 3) := by decide +kernel
theorem dX3_readClause_56 : decode cX3_readClause 56 = .ok (.iconst 1, 1) := by decide +kernel
theorem dX3_readClause_57 : decode cX3_readClause 57 = .ok (.goto 4, 3) := by decide +kernel
theorem dX3_readClause_60 : decode cX3_readClause 60 = .ok (.iconst 0, 1) := by decide +kernel
theorem dX3_readClause_61 : decode cX3_readClause 61 = .ok (.istore 6, 2) := by decide +kernel
theorem dX3_readClause_63 : decode cX3_readClause 63 = .ok (.iload 4, 2) := by decide +kernel
theorem dX3_readClause_65 : decode cX3_readClause 65 = .ok (.iconst (-1), 1) := by decide +kernel
theorem dX3_readClause_66 : decode cX3_readClause 66 = .ok (.if_icmp .ne 9, 3) := by decide +kernel
theorem dX3_readClause_69 : decode cX3_readClause 69 = .ok (.aload_n 0, 1) := by decide +kernel
theorem dX3_readClause_70 : decode cX3_readClause 70 = .ok (.iconst 0, 1) := by decide +kernel
theorem dX3_readClause_71 : decode cX3_readClause 71 = .ok (.invokevirtual 78, 3) := by decide +kernel
theorem dX3_readClause_74 : decode cX3_readClause 74 = .ok (.return_, 1) := by decide +kernel
theorem dX3_setFault_0 : decode cX3_setFault 0 = .ok (.aload_n 0, 1) := by decide +kernel
theorem dX3_setFault_1 : decode cX3_setFault 1 = .ok (.getfield 41, 3) := by decide +kernel
theorem dX3_setFault_4 : decode cX3_setFault 4 = .ok (.ifCond .ne 18, 3) := by decide +kernel
theorem dX3_setFault_7 : decode cX3_setFault 7 = .ok (.aload_n 0, 1) := by decide +kernel
theorem dX3_setFault_8 : decode cX3_setFault 8 = .ok (.iconst 1, 1) := by decide +kernel
theorem dX3_setFault_9 : decode cX3_setFault 9 = .ok (.bipush 8, 2) := by decide +kernel
theorem dX3_setFault_11 : decode cX3_setFault 11 = .ok (.aload_n 0, 1) := by decide +kernel
theorem dX3_setFault_12 : decode cX3_setFault 12 = .ok (.getfield 75, 3) := by decide +kernel
theorem dX3_setFault_15 : decode cX3_setFault 15 = .ok (.imul, 1) := by decide +kernel
theorem dX3_setFault_16 : decode cX3_setFault 16 = .ok (.iadd, 1) := by decide +kernel
theorem dX3_setFault_17 : decode cX3_setFault 17 = .ok (.iload_n 1, 1) := by decide +kernel
theorem dX3_setFault_18 : decode cX3_setFault 18 = .ok (.iadd, 1) := by decide +kernel
theorem dX3_setFault_19 : decode cX3_setFault 19 = .ok (.putfield 41, 3) := by decide +kernel
theorem dX3_setFault_22 : decode cX3_setFault 22 = .ok (.return_, 1) := by decide +kernel
theorem dX3_step_0 : decode cX3_step 0 = .ok (.aload_n 0, 1) := by decide +kernel
theorem dX3_step_1 : decode cX3_step 1 = .ok (.getfield 38, 3) := by decide +kernel
theorem dX3_step_4 : decode cX3_step 4 = .ok (.aload_n 0, 1) := by decide +kernel
theorem dX3_step_5 : decode cX3_step 5 = .ok (.getfield 34, 3) := by decide +kernel
theorem dX3_step_8 : decode cX3_step 8 = .ok (.if_icmp .ge 30, 3) := by decide +kernel
theorem dX3_step_38 : decode cX3_step 38 = .ok (.aload_n 0, 1) := by decide +kernel
theorem dX3_step_39 : decode cX3_step 39 = .ok (.aload_n 0, 1) := by decide +kernel
theorem dX3_step_40 : decode cX3_step 40 = .ok (.getfield 38, 3) := by decide +kernel
theorem dX3_step_43 : decode cX3_step 43 = .ok (.putfield 75, 3) := by decide +kernel
theorem dX3_step_46 : decode cX3_step 46 = .ok (.aload_n 0, 1) := by decide +kernel
theorem dX3_step_47 : decode cX3_step 47 = .ok (.getfield 38, 3) := by decide +kernel
theorem dX3_step_50 : decode cX3_step 50 = .ok (.aload_n 0, 1) := by decide +kernel
theorem dX3_step_51 : decode cX3_step 51 = .ok (.getfield 34, 3) := by decide +kernel
theorem dX3_step_54 : decode cX3_step 54 = .ok (.if_icmp .ge 19, 3) := by decide +kernel
theorem dX3_step_73 : decode cX3_step 73 = .ok (.sipush 256, 3) := by decide +kernel
theorem dX3_step_76 : decode cX3_step 76 = .ok (.istore_n 1, 1) := by decide +kernel
theorem dX3_step_77 : decode cX3_step 77 = .ok (.iload_n 1, 1) := by decide +kernel
theorem dX3_step_78 : decode cX3_step 78 = .ok (.bipush 48, 2) := by decide +kernel
theorem dX3_step_80 : decode cX3_step 80 = .ok (.if_icmp .lt 124, 3) := by decide +kernel
theorem dX3_step_83 : decode cX3_step 83 = .ok (.iload_n 1, 1) := by decide +kernel
theorem dX3_step_84 : decode cX3_step 84 = .ok (.bipush 57, 2) := by decide +kernel
theorem dX3_step_86 : decode cX3_step 86 = .ok (.if_icmp .gt 118, 3) := by decide +kernel
theorem dX3_step_204 : decode cX3_step 204 = .ok (.iload_n 1, 1) := by decide +kernel
theorem dX3_step_205 : decode cX3_step 205 = .ok (.bipush 97, 2) := by decide +kernel
theorem dX3_step_207 : decode cX3_step 207 = .ok (.if_icmp .lt 68, 3) := by decide +kernel
theorem dX3_step_210 : decode cX3_step 210 = .ok (.iload_n 1, 1) := by decide +kernel
theorem dX3_step_211 : decode cX3_step 211 = .ok (.bipush 122, 2) := by decide +kernel
theorem dX3_step_213 : decode cX3_step 213 = .ok (.if_icmp .gt 62, 3) := by decide +kernel
theorem dX3_step_275 : decode cX3_step 275 = .ok (.aload_n 0, 1) := by decide +kernel
theorem dX3_step_276 : decode cX3_step 276 = .ok (.iload_n 1, 1) := by decide +kernel
theorem dX3_step_277 : decode cX3_step 277 = .ok (.putfield 68, 3) := by decide +kernel
theorem dX3_step_280 : decode cX3_step 280 = .ok (.aload_n 0, 1) := by decide +kernel
theorem dX3_step_281 : decode cX3_step 281 = .ok (.dup, 1) := by decide +kernel
theorem dX3_step_282 : decode cX3_step 282 = .ok (.getfield 38, 3) := by decide +kernel
theorem dX3_step_285 : decode cX3_step 285 = .ok (.iload_n 1, 1) := by decide +kernel
theorem dX3_step_286 : decode cX3_step 286 = .ok (.sipush 256, 3) := by decide +kernel
theorem dX3_step_289 : decode cX3_step 289 = .ok (.if_icmp .ne 7, 3) := by decide +kernel
theorem dX3_step_292 : decode cX3_step 292 = .ok (.iconst 0, 1) := by decide +kernel
theorem dX3_step_293 : decode cX3_step 293 = .ok (.goto 4, 3) := by decide +kernel
theorem dX3_step_297 : decode cX3_step 297 = .ok (.iadd, 1) := by decide +kernel
theorem dX3_step_298 : decode cX3_step 298 = .ok (.putfield 38, 3) := by decide +kernel
theorem dX3_step_301 : decode cX3_step 301 = .ok (.aload_n 0, 1) := by decide +kernel
theorem dX3_step_302 : decode cX3_step 302 = .ok (.getfield 38, 3) := by decide +kernel
theorem dX3_step_305 : decode cX3_step 305 = .ok (.aload_n 0, 1) := by decide +kernel
theorem dX3_step_306 : decode cX3_step 306 = .ok (.getfield 34, 3) := by decide +kernel
theorem dX3_step_309 : decode cX3_step 309 = .ok (.if_icmp .ge 21, 3) := by decide +kernel
theorem dX3_step_330 : decode cX3_step 330 = .ok (.iconst 0, 1) := by decide +kernel
theorem dX3_step_331 : decode cX3_step 331 = .ok (.istore_n 2, 1) := by decide +kernel
theorem dX3_step_332 : decode cX3_step 332 = .ok (.iload_n 2, 1) := by decide +kernel
theorem dX3_step_333 : decode cX3_step 333 = .ok (.ifCond .eq 44, 3) := by decide +kernel
theorem dX3_step_377 : decode cX3_step 377 = .ok (.return_, 1) := by decide +kernel
theorem dX3_whichOf_0 : decode cX3_whichOf 0 = .ok (.aload_n 0, 1) := by decide +kernel
theorem dX3_whichOf_1 : decode cX3_whichOf 1 = .ok (.getfield 68, 3) := by decide +kernel
theorem dX3_whichOf_4 : decode cX3_whichOf 4 = .ok (.sipush 258, 3) := by decide +kernel
theorem dX3_whichOf_7 : decode cX3_whichOf 7 = .ok (.if_icmp .eq 5, 3) := by decide +kernel
theorem dX3_whichOf_10 : decode cX3_whichOf 10 = .ok (.iconst (-1), 1) := by decide +kernel
theorem dX3_whichOf_11 : decode cX3_whichOf 11 = .ok (.ireturn, 1) := by decide +kernel
theorem dX6_addBytes_0 : decode cX6_addBytes 0 = .ok (.bipush 24, 2) := by decide +kernel
theorem dX6_addBytes_2 : decode cX6_addBytes 2 = .ok (.istore_n 2, 1) := by decide +kernel
theorem dX6_addBytes_3 : decode cX6_addBytes 3 = .ok (.iload_n 2, 1) := by decide +kernel
theorem dX6_addBytes_4 : decode cX6_addBytes 4 = .ok (.ifCond .lt 42, 3) := by decide +kernel
theorem dX6_addBytes_7 : decode cX6_addBytes 7 = .ok (.aload_n 0, 1) := by decide +kernel
theorem dX6_addBytes_8 : decode cX6_addBytes 8 = .ok (.getfield 76, 3) := by decide +kernel
theorem dX6_addBytes_11 : decode cX6_addBytes 11 = .ok (.sipush 400, 3) := by decide +kernel
theorem dX6_addBytes_14 : decode cX6_addBytes 14 = .ok (.if_icmp .ge 32, 3) := by decide +kernel
theorem dX6_addBytes_17 : decode cX6_addBytes 17 = .ok (.aload_n 0, 1) := by decide +kernel
theorem dX6_addBytes_18 : decode cX6_addBytes 18 = .ok (.getfield 40, 3) := by decide +kernel
theorem dX6_addBytes_21 : decode cX6_addBytes 21 = .ok (.aload_n 0, 1) := by decide +kernel
theorem dX6_addBytes_22 : decode cX6_addBytes 22 = .ok (.getfield 76, 3) := by decide +kernel
theorem dX6_addBytes_25 : decode cX6_addBytes 25 = .ok (.iload_n 1, 1) := by decide +kernel
theorem dX6_addBytes_26 : decode cX6_addBytes 26 = .ok (.iload_n 2, 1) := by decide +kernel
theorem dX6_addBytes_27 : decode cX6_addBytes 27 = .ok (.iushr, 1) := by decide +kernel
theorem dX6_addBytes_28 : decode cX6_addBytes 28 = .ok (.i2b, 1) := by decide +kernel
theorem dX6_addBytes_29 : decode cX6_addBytes 29 = .ok (.bastore, 1) := by decide +kernel
theorem dX6_addBytes_30 : decode cX6_addBytes 30 = .ok (.aload_n 0, 1) := by decide +kernel
theorem dX6_addBytes_31 : decode cX6_addBytes 31 = .ok (.dup, 1) := by decide +kernel
theorem dX6_addBytes_32 : decode cX6_addBytes 32 = .ok (.getfield 76, 3) := by decide +kernel
theorem dX6_addBytes_35 : decode cX6_addBytes 35 = .ok (.iconst 1, 1) := by decide +kernel
theorem dX6_addBytes_36 : decode cX6_addBytes 36 = .ok (.iadd, 1) := by decide +kernel
theorem dX6_addBytes_37 : decode cX6_addBytes 37 = .ok (.putfield 76, 3) := by decide +kernel
theorem dX6_addBytes_40 : decode cX6_addBytes 40 = .ok (.iinc 2 (-8), 3) := by decide +kernel
theorem dX6_addBytes_43 : decode cX6_addBytes 43 = .ok (.goto (-40), 3) := by decide +kernel
theorem dX6_addBytes_46 : decode cX6_addBytes 46 = .ok (.return_, 1) := by decide +kernel
theorem dX6_addStar_0 : decode cX6_addStar 0 = .ok (.aload_n 0, 1) := by decide +kernel
theorem dX6_addStar_1 : decode cX6_addStar 1 = .ok (.getfield 44, 3) := by decide +kernel
theorem dX6_addStar_4 : decode cX6_addStar 4 = .ok (.bipush 12, 2) := by decide +kernel
theorem dX6_addStar_6 : decode cX6_addStar 6 = .ok (.if_icmp .lt 5, 3) := by decide +kernel
theorem dX6_addStar_11 : decode cX6_addStar 11 = .ok (.aload_n 0, 1) := by decide +kernel
theorem dX6_addStar_12 : decode cX6_addStar 12 = .ok (.aload_n 0, 1) := by decide +kernel
theorem dX6_addStar_13 : decode cX6_addStar 13 = .ok (.getfield 44, 3) := by decide +kernel
theorem dX6_addStar_16 : decode cX6_addStar 16 = .ok (.invokevirtual 68, 3) := by decide +kernel
theorem dX6_addStar_19 : decode cX6_addStar 19 = .ok (.astore 4, 2) := by decide +kernel
theorem dX6_addStar_21 : decode cX6_addStar 21 = .ok (.aload 4, 2) := by decide +kernel
theorem dX6_addStar_23 : decode cX6_addStar 23 = .ok (.iload_n 1, 1) := by decide +kernel
theorem dX6_addStar_24 : decode cX6_addStar 24 = .ok (.iload_n 2, 1) := by decide +kernel
theorem dX6_addStar_25 : decode cX6_addStar 25 = .ok (.iload_n 3, 1) := by decide +kernel
theorem dX6_addStar_26 : decode cX6_addStar 26 = .ok (.invokevirtual 71, 3) := by decide +kernel
theorem dX6_addStar_29 : decode cX6_addStar 29 = .ok (.aload_n 0, 1) := by decide +kernel
theorem dX6_addStar_30 : decode cX6_addStar 30 = .ok (.dup, 1) := by decide +kernel
theorem dX6_addStar_31 : decode cX6_addStar 31 = .ok (.getfield 44, 3) := by decide +kernel
theorem dX6_addStar_34 : decode cX6_addStar 34 = .ok (.iconst 1, 1) := by decide +kernel
theorem dX6_addStar_35 : decode cX6_addStar 35 = .ok (.iadd, 1) := by decide +kernel
theorem dX6_addStar_36 : decode cX6_addStar 36 = .ok (.putfield 44, 3) := by decide +kernel
theorem dX6_addStar_39 : decode cX6_addStar 39 = .ok (.aload_n 0, 1) := by decide +kernel
theorem dX6_addStar_40 : decode cX6_addStar 40 = .ok (.getfield 44, 3) := by decide +kernel
theorem dX6_addStar_43 : decode cX6_addStar 43 = .ok (.iconst 1, 1) := by decide +kernel
theorem dX6_addStar_44 : decode cX6_addStar 44 = .ok (.isub, 1) := by decide +kernel
theorem dX6_addStar_45 : decode cX6_addStar 45 = .ok (.ireturn, 1) := by decide +kernel
theorem dX6_numbers_0 : decode cX6_numbers 0 = .ok (.iconst 0, 1) := by decide +kernel
theorem dX6_numbers_1 : decode cX6_numbers 1 = .ok (.istore_n 1, 1) := by decide +kernel
theorem dX6_numbers_2 : decode cX6_numbers 2 = .ok (.iconst 0, 1) := by decide +kernel
theorem dX6_numbers_3 : decode cX6_numbers 3 = .ok (.istore_n 2, 1) := by decide +kernel
theorem dX6_numbers_4 : decode cX6_numbers 4 = .ok (.iload_n 2, 1) := by decide +kernel
theorem dX6_numbers_5 : decode cX6_numbers 5 = .ok (.aload_n 0, 1) := by decide +kernel
theorem dX6_numbers_6 : decode cX6_numbers 6 = .ok (.getfield 44, 3) := by decide +kernel
theorem dX6_numbers_9 : decode cX6_numbers 9 = .ok (.if_icmp .ge 30, 3) := by decide +kernel
theorem dX6_numbers_39 : decode cX6_numbers 39 = .ok (.iload_n 1, 1) := by decide +kernel
theorem dX6_numbers_40 : decode cX6_numbers 40 = .ok (.ireturn, 1) := by decide +kernel
theorem dX6_placeFor_0 : decode cX6_placeFor 0 = .ok (.aload_n 0, 1) := by decide +kernel
theorem dX6_placeFor_1 : decode cX6_placeFor 1 = .ok (.getfield 11, 3) := by decide +kernel
theorem dX6_placeFor_4 : decode cX6_placeFor 4 = .ok (.iload_n 1, 1) := by decide +kernel
theorem dX6_placeFor_5 : decode cX6_placeFor 5 = .ok (.aaload, 1) := by decide +kernel
theorem dX6_placeFor_6 : decode cX6_placeFor 6 = .ok (.astore_n 2, 1) := by decide +kernel
theorem dX6_placeFor_7 : decode cX6_placeFor 7 = .ok (.aload_n 2, 1) := by decide +kernel
theorem dX6_placeFor_8 : decode cX6_placeFor 8 = .ok (.ifnonnull 18, 3) := by decide +kernel
theorem dX6_placeFor_11 : decode cX6_placeFor 11 = .ok (.new 9, 3) := by decide +kernel
theorem dX6_placeFor_14 : decode cX6_placeFor 14 = .ok (.dup, 1) := by decide +kernel
theorem dX6_placeFor_15 : decode cX6_placeFor 15 = .ok (.invokespecial 75, 3) := by decide +kernel
theorem dX6_placeFor_18 : decode cX6_placeFor 18 = .ok (.astore_n 2, 1) := by decide +kernel
theorem dX6_placeFor_19 : decode cX6_placeFor 19 = .ok (.aload_n 0, 1) := by decide +kernel
theorem dX6_placeFor_20 : decode cX6_placeFor 20 = .ok (.getfield 11, 3) := by decide +kernel
theorem dX6_placeFor_23 : decode cX6_placeFor 23 = .ok (.iload_n 1, 1) := by decide +kernel
theorem dX6_placeFor_24 : decode cX6_placeFor 24 = .ok (.aload_n 2, 1) := by decide +kernel
theorem dX6_placeFor_25 : decode cX6_placeFor 25 = .ok (.aastore, 1) := by decide +kernel
theorem dX6_placeFor_26 : decode cX6_placeFor 26 = .ok (.aload_n 2, 1) := by decide +kernel
theorem dX6_placeFor_27 : decode cX6_placeFor 27 = .ok (.areturn, 1) := by decide +kernel
theorem dX6_starAt_0 : decode cX6_starAt 0 = .ok (.iload_n 1, 1) := by decide +kernel
theorem dX6_starAt_1 : decode cX6_starAt 1 = .ok (.ifCond .lt 26, 3) := by decide +kernel
theorem dX6_starAt_4 : decode cX6_starAt 4 = .ok (.iload_n 1, 1) := by decide +kernel
theorem dX6_starAt_5 : decode cX6_starAt 5 = .ok (.aload_n 0, 1) := by decide +kernel
theorem dX6_starAt_6 : decode cX6_starAt 6 = .ok (.getfield 44, 3) := by decide +kernel
theorem dX6_starAt_9 : decode cX6_starAt 9 = .ok (.if_icmp .ge 18, 3) := by decide +kernel
theorem dX6_starAt_27 : decode cX6_starAt 27 = .ok (.aconst_null, 1) := by decide +kernel
theorem dX6_starAt_28 : decode cX6_starAt 28 = .ok (.areturn, 1) := by decide +kernel
theorem dX6_worldAt_0 : decode cX6_worldAt 0 = .ok (.iload_n 1, 1) := by decide +kernel
theorem dX6_worldAt_1 : decode cX6_worldAt 1 = .ok (.ifCond .lt 26, 3) := by decide +kernel
theorem dX6_worldAt_4 : decode cX6_worldAt 4 = .ok (.iload_n 1, 1) := by decide +kernel
theorem dX6_worldAt_5 : decode cX6_worldAt 5 = .ok (.aload_n 0, 1) := by decide +kernel
theorem dX6_worldAt_6 : decode cX6_worldAt 6 = .ok (.getfield 47, 3) := by decide +kernel
theorem dX6_worldAt_9 : decode cX6_worldAt 9 = .ok (.if_icmp .ge 18, 3) := by decide +kernel
theorem dX6_worldAt_27 : decode cX6_worldAt 27 = .ok (.aconst_null, 1) := by decide +kernel
theorem dX6_worldAt_28 : decode cX6_worldAt 28 = .ok (.areturn, 1) := by decide +kernel
theorem dX7_begin_0 : decode cX7_begin 0 = .ok (.aload_n 0, 1) := by decide +kernel
theorem dX7_begin_1 : decode cX7_begin 1 = .ok (.iload_n 1, 1) := by decide +kernel
theorem dX7_begin_2 : decode cX7_begin 2 = .ok (.putfield 15, 3) := by decide +kernel
theorem dX7_begin_5 : decode cX7_begin 5 = .ok (.aload_n 0, 1) := by decide +kernel
theorem dX7_begin_6 : decode cX7_begin 6 = .ok (.iload_n 2, 1) := by decide +kernel
theorem dX7_begin_7 : decode cX7_begin 7 = .ok (.putfield 19, 3) := by decide +kernel
theorem dX7_begin_10 : decode cX7_begin 10 = .ok (.aload_n 0, 1) := by decide +kernel
theorem dX7_begin_11 : decode cX7_begin 11 = .ok (.iload_n 3, 1) := by decide +kernel
theorem dX7_begin_12 : decode cX7_begin 12 = .ok (.putfield 22, 3) := by decide +kernel
theorem dX7_begin_15 : decode cX7_begin 15 = .ok (.aload_n 0, 1) := by decide +kernel
theorem dX7_begin_16 : decode cX7_begin 16 = .ok (.getfield 9, 3) := by decide +kernel
theorem dX7_begin_19 : decode cX7_begin 19 = .ok (.ldc 25, 2) := by decide +kernel
theorem dX7_begin_21 : decode cX7_begin 21 = .ok (.invokestatic 26, 3) := by decide +kernel
theorem dX7_begin_24 : decode cX7_begin 24 = .ok (.return_, 1) := by decide +kernel
theorem dX7_init_0 : decode cX7_init 0 = .ok (.aload_n 0, 1) := by decide +kernel
theorem dX7_init_1 : decode cX7_init 1 = .ok (.invokespecial 3, 3) := by decide +kernel
theorem dX7_init_4 : decode cX7_init 4 = .ok (.aload_n 0, 1) := by decide +kernel
theorem dX7_init_5 : decode cX7_init 5 = .ok (.sipush 600, 3) := by decide +kernel
theorem dX7_init_8 : decode cX7_init 8 = .ok (.newarray .int, 2) := by decide +kernel
theorem dX7_init_10 : decode cX7_init 10 = .ok (.putfield 9, 3) := by decide +kernel
theorem dX7_init_13 : decode cX7_init 13 = .ok (.return_, 1) := by decide +kernel
theorem dX8_begin_0 : decode cX8_begin 0 = .ok (.aload_n 0, 1) := by decide +kernel
theorem dX8_begin_1 : decode cX8_begin 1 = .ok (.iconst 0, 1) := by decide +kernel
theorem dX8_begin_2 : decode cX8_begin 2 = .ok (.putfield 27, 3) := by decide +kernel
theorem dX8_begin_5 : decode cX8_begin 5 = .ok (.aload_n 0, 1) := by decide +kernel
theorem dX8_begin_6 : decode cX8_begin 6 = .ok (.iconst 2, 1) := by decide +kernel
theorem dX8_begin_7 : decode cX8_begin 7 = .ok (.putfield 31, 3) := by decide +kernel
theorem dX8_begin_10 : decode cX8_begin 10 = .ok (.aload_n 0, 1) := by decide +kernel
theorem dX8_begin_11 : decode cX8_begin 11 = .ok (.bipush 100, 2) := by decide +kernel
theorem dX8_begin_13 : decode cX8_begin 13 = .ok (.putfield 34, 3) := by decide +kernel
theorem dX8_begin_16 : decode cX8_begin 16 = .ok (.aload_n 0, 1) := by decide +kernel
theorem dX8_begin_17 : decode cX8_begin 17 = .ok (.iconst 1, 1) := by decide +kernel
theorem dX8_begin_18 : decode cX8_begin 18 = .ok (.putfield 37, 3) := by decide +kernel
theorem dX8_begin_21 : decode cX8_begin 21 = .ok (.aload_n 0, 1) := by decide +kernel
theorem dX8_begin_22 : decode cX8_begin 22 = .ok (.iconst 5, 1) := by decide +kernel
theorem dX8_begin_23 : decode cX8_begin 23 = .ok (.putfield 40, 3) := by decide +kernel
theorem dX8_begin_26 : decode cX8_begin 26 = .ok (.aload_n 0, 1) := by decide +kernel
theorem dX8_begin_27 : decode cX8_begin 27 = .ok (.iconst 1, 1) := by decide +kernel
theorem dX8_begin_28 : decode cX8_begin 28 = .ok (.putfield 43, 3) := by decide +kernel
theorem dX8_begin_31 : decode cX8_begin 31 = .ok (.aload_n 0, 1) := by decide +kernel
theorem dX8_begin_32 : decode cX8_begin 32 = .ok (.iconst 0, 1) := by decide +kernel
theorem dX8_begin_33 : decode cX8_begin 33 = .ok (.putfield 46, 3) := by decide +kernel
theorem dX8_begin_36 : decode cX8_begin 36 = .ok (.aload_n 0, 1) := by decide +kernel
theorem dX8_begin_37 : decode cX8_begin 37 = .ok (.iconst 0, 1) := by decide +kernel
theorem dX8_begin_38 : decode cX8_begin 38 = .ok (.putfield 49, 3) := by decide +kernel
theorem dX8_begin_41 : decode cX8_begin 41 = .ok (.aload_n 0, 1) := by decide +kernel
theorem dX8_begin_42 : decode cX8_begin 42 = .ok (.iconst 0, 1) := by decide +kernel
theorem dX8_begin_43 : decode cX8_begin 43 = .ok (.putfield 52, 3) := by decide +kernel
theorem dX8_begin_46 : decode cX8_begin 46 = .ok (.return_, 1) := by decide +kernel
