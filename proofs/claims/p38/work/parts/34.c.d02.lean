theorem dX5_readShifts_2 : decode cX5_readShifts 2 = .ok (.iload_n 3, 1) := by decide +kernel
theorem dX5_readShifts_3 : decode cX5_readShifts 3 = .ok (.aload_n 0, 1) := by decide +kernel
theorem dX5_readShifts_4 : decode cX5_readShifts 4 = .ok (.getfield 22, 3) := by decide +kernel
theorem dX5_readShifts_7 : decode cX5_readShifts 7 = .ok (.arraylength, 1) := by decide +kernel
theorem dX5_readShifts_8 : decode cX5_readShifts 8 = .ok (.if_icmp .ge 62, 3) := by decide +kernel
theorem dX5_readShifts_11 : decode cX5_readShifts 11 = .ok (.aload_n 2, 1) := by decide +kernel
theorem dX5_readShifts_12 : decode cX5_readShifts 12 = .ok (.getfield 65, 3) := by decide +kernel
theorem dX5_readShifts_15 : decode cX5_readShifts 15 = .ok (.iload_n 3, 1) := by decide +kernel
theorem dX5_readShifts_16 : decode cX5_readShifts 16 = .ok (.iconst 1, 1) := by decide +kernel
theorem dX5_readShifts_17 : decode cX5_readShifts 17 = .ok (.isub, 1) := by decide +kernel
theorem dX5_readShifts_18 : decode cX5_readShifts 18 = .ok (.aload_n 2, 1) := by decide +kernel
theorem dX5_readShifts_19 : decode cX5_readShifts 19 = .ok (.getfield 34, 3) := by decide +kernel
theorem dX5_readShifts_22 : decode cX5_readShifts 22 = .ok (.imul, 1) := by decide +kernel
theorem dX5_readShifts_23 : decode cX5_readShifts 23 = .ok (.iadd, 1) := by decide +kernel
theorem dX5_readShifts_24 : decode cX5_readShifts 24 = .ok (.istore 4, 2) := by decide +kernel
theorem dX5_readShifts_26 : decode cX5_readShifts 26 = .ok (.aload_n 1, 1) := by decide +kernel
theorem dX5_readShifts_27 : decode cX5_readShifts 27 = .ok (.iload 4, 2) := by decide +kernel
theorem dX5_readShifts_29 : decode cX5_readShifts 29 = .ok (.aload_n 2, 1) := by decide +kernel
theorem dX5_readShifts_30 : decode cX5_readShifts 30 = .ok (.getfield 53, 3) := by decide +kernel
theorem dX5_readShifts_33 : decode cX5_readShifts 33 = .ok (.invokevirtual 92, 3) := by decide +kernel
theorem dX5_readShifts_36 : decode cX5_readShifts 36 = .ok (.istore 5, 2) := by decide +kernel
theorem dX5_readShifts_38 : decode cX5_readShifts 38 = .ok (.aload_n 0, 1) := by decide +kernel
theorem dX5_readShifts_39 : decode cX5_readShifts 39 = .ok (.getfield 22, 3) := by decide +kernel
theorem dX5_readShifts_42 : decode cX5_readShifts 42 = .ok (.iload_n 3, 1) := by decide +kernel
theorem dX5_readShifts_43 : decode cX5_readShifts 43 = .ok (.iload 5, 2) := by decide +kernel
theorem dX5_readShifts_45 : decode cX5_readShifts 45 = .ok (.ifCond .eq 16, 3) := by decide +kernel
theorem dX5_readShifts_48 : decode cX5_readShifts 48 = .ok (.aload_n 1, 1) := by decide +kernel
theorem dX5_readShifts_49 : decode cX5_readShifts 49 = .ok (.iload 4, 2) := by decide +kernel
theorem dX5_readShifts_51 : decode cX5_readShifts 51 = .ok (.aload_n 2, 1) := by decide +kernel
theorem dX5_readShifts_52 : decode cX5_readShifts 52 = .ok (.getfield 53, 3) := by decide +kernel
theorem dX5_readShifts_55 : decode cX5_readShifts 55 = .ok (.invokevirtual 96, 3) := by decide +kernel
theorem dX5_readShifts_58 : decode cX5_readShifts 58 = .ok (.goto 5, 3) := by decide +kernel
theorem dX5_readShifts_61 : decode cX5_readShifts 61 = .ok (.bipush (-100), 2) := by decide +kernel
theorem dX5_readShifts_63 : decode cX5_readShifts 63 = .ok (.iastore, 1) := by decide +kernel
theorem dX5_readShifts_64 : decode cX5_readShifts 64 = .ok (.iinc 3 1, 3) := by decide +kernel
theorem dX5_readShifts_67 : decode cX5_readShifts 67 = .ok (.goto (-65), 3) := by decide +kernel
theorem dX5_readShifts_70 : decode cX5_readShifts 70 = .ok (.return_, 1) := by decide +kernel
theorem dX5_round_0 : decode cX5_round 0 = .ok (.iconst 1, 1) := by decide +kernel
theorem dX5_round_1 : decode cX5_round 1 = .ok (.istore_n 1, 1) := by decide +kernel
theorem dX5_round_2 : decode cX5_round 2 = .ok (.iload_n 1, 1) := by decide +kernel
theorem dX5_round_3 : decode cX5_round 3 = .ok (.bipush 20, 2) := by decide +kernel
theorem dX5_round_5 : decode cX5_round 5 = .ok (.if_icmp .gt 19, 3) := by decide +kernel
theorem dX5_round_8 : decode cX5_round 8 = .ok (.aload_n 0, 1) := by decide +kernel
theorem dX5_round_9 : decode cX5_round 9 = .ok (.iload_n 1, 1) := by decide +kernel
theorem dX5_round_10 : decode cX5_round 10 = .ok (.invokevirtual 105, 3) := by decide +kernel
theorem dX5_round_13 : decode cX5_round 13 = .ok (.ifCond .eq 5, 3) := by decide +kernel
theorem dX5_round_16 : decode cX5_round 16 = .ok (.iload_n 1, 1) := by decide +kernel
theorem dX5_round_17 : decode cX5_round 17 = .ok (.ireturn, 1) := by decide +kernel
theorem dX5_round_18 : decode cX5_round 18 = .ok (.iinc 1 1, 3) := by decide +kernel
theorem dX5_round_21 : decode cX5_round 21 = .ok (.goto (-19), 3) := by decide +kernel
theorem dX5_round_24 : decode cX5_round 24 = .ok (.iconst (-1), 1) := by decide +kernel
theorem dX5_round_25 : decode cX5_round 25 = .ok (.ireturn, 1) := by decide +kernel
theorem dX5_shifted_0 : decode cX5_shifted 0 = .ok (.iconst 0, 1) := by decide +kernel
theorem dX5_shifted_1 : decode cX5_shifted 1 = .ok (.istore_n 1, 1) := by decide +kernel
theorem dX5_shifted_2 : decode cX5_shifted 2 = .ok (.iconst 0, 1) := by decide +kernel
theorem dX5_shifted_3 : decode cX5_shifted 3 = .ok (.istore_n 2, 1) := by decide +kernel
theorem dX5_shifted_4 : decode cX5_shifted 4 = .ok (.iload_n 2, 1) := by decide +kernel
theorem dX5_shifted_5 : decode cX5_shifted 5 = .ok (.aload_n 0, 1) := by decide +kernel
theorem dX5_shifted_6 : decode cX5_shifted 6 = .ok (.getfield 22, 3) := by decide +kernel
theorem dX5_shifted_9 : decode cX5_shifted 9 = .ok (.arraylength, 1) := by decide +kernel
theorem dX5_shifted_10 : decode cX5_shifted 10 = .ok (.if_icmp .ge 37, 3) := by decide +kernel
theorem dX5_shifted_13 : decode cX5_shifted 13 = .ok (.iload_n 1, 1) := by decide +kernel
theorem dX5_shifted_14 : decode cX5_shifted 14 = .ok (.aload_n 0, 1) := by decide +kernel
theorem dX5_shifted_15 : decode cX5_shifted 15 = .ok (.getfield 22, 3) := by decide +kernel
theorem dX5_shifted_18 : decode cX5_shifted 18 = .ok (.iload_n 2, 1) := by decide +kernel
theorem dX5_shifted_19 : decode cX5_shifted 19 = .ok (.iaload, 1) := by decide +kernel
theorem dX5_shifted_20 : decode cX5_shifted 20 = .ok (.bipush (-100), 2) := by decide +kernel
theorem dX5_shifted_22 : decode cX5_shifted 22 = .ok (.if_icmp .eq 16, 3) := by decide +kernel
theorem dX5_shifted_25 : decode cX5_shifted 25 = .ok (.aload_n 0, 1) := by decide +kernel
theorem dX5_shifted_26 : decode cX5_shifted 26 = .ok (.getfield 22, 3) := by decide +kernel
theorem dX5_shifted_29 : decode cX5_shifted 29 = .ok (.iload_n 2, 1) := by decide +kernel
theorem dX5_shifted_30 : decode cX5_shifted 30 = .ok (.iaload, 1) := by decide +kernel
theorem dX5_shifted_31 : decode cX5_shifted 31 = .ok (.ifCond .eq 7, 3) := by decide +kernel
theorem dX5_shifted_34 : decode cX5_shifted 34 = .ok (.iconst 1, 1) := by decide +kernel
theorem dX5_shifted_35 : decode cX5_shifted 35 = .ok (.goto 4, 3) := by decide +kernel
theorem dX5_shifted_38 : decode cX5_shifted 38 = .ok (.iconst 0, 1) := by decide +kernel
theorem dX5_shifted_39 : decode cX5_shifted 39 = .ok (.iadd, 1) := by decide +kernel
theorem dX5_shifted_40 : decode cX5_shifted 40 = .ok (.istore_n 1, 1) := by decide +kernel
theorem dX5_shifted_41 : decode cX5_shifted 41 = .ok (.iinc 2 1, 3) := by decide +kernel
theorem dX5_shifted_44 : decode cX5_shifted 44 = .ok (.goto (-40), 3) := by decide +kernel
theorem dX5_shifted_47 : decode cX5_shifted 47 = .ok (.iload_n 1, 1) := by decide +kernel
theorem dX5_shifted_48 : decode cX5_shifted 48 = .ok (.ireturn, 1) := by decide +kernel
theorem dX8_addCode_0 : decode cX8_addCode 0 = .ok (.aload_n 0, 1) := by decide +kernel
theorem dX8_addCode_1 : decode cX8_addCode 1 = .ok (.getfield 52, 3) := by decide +kernel
theorem dX8_addCode_4 : decode cX8_addCode 4 = .ok (.sipush 400, 3) := by decide +kernel
theorem dX8_addCode_7 : decode cX8_addCode 7 = .ok (.if_icmp .ge 23, 3) := by decide +kernel
theorem dX8_addCode_10 : decode cX8_addCode 10 = .ok (.aload_n 0, 1) := by decide +kernel
theorem dX8_addCode_11 : decode cX8_addCode 11 = .ok (.getfield 24, 3) := by decide +kernel
theorem dX8_addCode_14 : decode cX8_addCode 14 = .ok (.aload_n 0, 1) := by decide +kernel
theorem dX8_addCode_15 : decode cX8_addCode 15 = .ok (.getfield 52, 3) := by decide +kernel
theorem dX8_addCode_18 : decode cX8_addCode 18 = .ok (.iload_n 1, 1) := by decide +kernel
theorem dX8_addCode_19 : decode cX8_addCode 19 = .ok (.iastore, 1) := by decide +kernel
theorem dX8_addCode_20 : decode cX8_addCode 20 = .ok (.aload_n 0, 1) := by decide +kernel
theorem dX8_addCode_21 : decode cX8_addCode 21 = .ok (.dup, 1) := by decide +kernel
theorem dX8_addCode_22 : decode cX8_addCode 22 = .ok (.getfield 52, 3) := by decide +kernel
theorem dX8_addCode_25 : decode cX8_addCode 25 = .ok (.iconst 1, 1) := by decide +kernel
theorem dX8_addCode_26 : decode cX8_addCode 26 = .ok (.iadd, 1) := by decide +kernel
theorem dX8_addCode_27 : decode cX8_addCode 27 = .ok (.putfield 52, 3) := by decide +kernel
theorem dX8_addCode_30 : decode cX8_addCode 30 = .ok (.return_, 1) := by decide +kernel
theorem dX8_begin_0 : decode cX8_begin 0 = .ok (.aload_n 0, 1) := by decide +kernel
theorem dX8_begin_1 : decode cX8_begin 1 = .ok (.iconst 0, 1) := by decide +kernel
theorem dX8_begin_2 : decode cX8_begin 2 = .ok (.putfield 27, 3) := by decide +kernel
theorem dX8_begin_5 : decode cX8_begin 5 = .ok (.aload_n 0, 1) := by decide +kernel
theorem dX8_begin_6 : decode cX8_begin 6 = .ok (.iconst 2, 1) := by decide +kernel
theorem dX8_begin_7 : decode cX8_begin 7 = .ok (.putfield 31, 3) := by decide +kernel
theorem dX8_begin_10 : decode cX8_begin 10 = .ok (.aload_n 0, 1) := by decide +kernel
theorem dX8_begin_11 : decode cX8_begin 11 = .ok (.bipush 100, 2) := by decide +kernel
theorem dX8_begin_13 : decode cX8_begin 13 = .ok (.putfield 34, 3) := by decide +kernel
theorem dX8_begin_16 : decode cX8_begin 16 = .ok (.aload_n 0, 1) := by decide +kernel
theorem dX8_begin_17 : decode cX8_begin 17 = .ok (.iconst 1, 1) := by decide +kernel
theorem dX8_begin_18 : decode cX8_begin 18 = .ok (.putfield 37, 3) := by decide +kernel
theorem dX8_begin_21 : decode cX8_begin 21 = .ok (.aload_n 0, 1) := by decide +kernel
theorem dX8_begin_22 : decode cX8_begin 22 = .ok (.iconst 5, 1) := by decide +kernel
theorem dX8_begin_23 : decode cX8_begin 23 = .ok (.putfield 40, 3) := by decide +kernel
theorem dX8_begin_26 : decode cX8_begin 26 = .ok (.aload_n 0, 1) := by decide +kernel
theorem dX8_begin_27 : decode cX8_begin 27 = .ok (.iconst 1, 1) := by decide +kernel
theorem dX8_begin_28 : decode cX8_begin 28 = .ok (.putfield 43, 3) := by decide +kernel
theorem dX8_begin_31 : decode cX8_begin 31 = .ok (.aload_n 0, 1) := by decide +kernel
theorem dX8_begin_32 : decode cX8_begin 32 = .ok (.iconst 0, 1) := by decide +kernel
theorem dX8_begin_33 : decode cX8_begin 33 = .ok (.putfield 46, 3) := by decide +kernel
theorem dX8_begin_36 : decode cX8_begin 36 = .ok (.aload_n 0, 1) := by decide +kernel
theorem dX8_begin_37 : decode cX8_begin 37 = .ok (.iconst 0, 1) := by decide +kernel
theorem dX8_begin_38 : decode cX8_begin 38 = .ok (.putfield 49, 3) := by decide +kernel
theorem dX8_begin_41 : decode cX8_begin 41 = .ok (.aload_n 0, 1) := by decide +kernel
theorem dX8_begin_42 : decode cX8_begin 42 = .ok (.iconst 0, 1) := by decide +kernel
theorem dX8_begin_43 : decode cX8_begin 43 = .ok (.putfield 52, 3) := by decide +kernel
theorem dX8_begin_46 : decode cX8_begin 46 = .ok (.return_, 1) := by decide +kernel
theorem dX8_closeClause_0 : decode cX8_closeClause 0 = .ok (.aload_n 0, 1) := by decide +kernel
theorem dX8_closeClause_1 : decode cX8_closeClause 1 = .ok (.getfield 49, 3) := by decide +kernel
theorem dX8_closeClause_4 : decode cX8_closeClause 4 = .ok (.bipush 12, 2) := by decide +kernel
theorem dX8_closeClause_6 : decode cX8_closeClause 6 = .ok (.if_icmp .ge 26, 3) := by decide +kernel
theorem dX8_closeClause_9 : decode cX8_closeClause 9 = .ok (.aload_n 0, 1) := by decide +kernel
theorem dX8_closeClause_10 : decode cX8_closeClause 10 = .ok (.getfield 21, 3) := by decide +kernel
theorem dX8_closeClause_13 : decode cX8_closeClause 13 = .ok (.aload_n 0, 1) := by decide +kernel
theorem dX8_closeClause_14 : decode cX8_closeClause 14 = .ok (.getfield 49, 3) := by decide +kernel
theorem dX8_closeClause_17 : decode cX8_closeClause 17 = .ok (.aload_n 0, 1) := by decide +kernel
theorem dX8_closeClause_18 : decode cX8_closeClause 18 = .ok (.getfield 52, 3) := by decide +kernel
theorem dX8_closeClause_21 : decode cX8_closeClause 21 = .ok (.iastore, 1) := by decide +kernel
theorem dX8_closeClause_22 : decode cX8_closeClause 22 = .ok (.aload_n 0, 1) := by decide +kernel
theorem dX8_closeClause_23 : decode cX8_closeClause 23 = .ok (.dup, 1) := by decide +kernel
theorem dX8_closeClause_24 : decode cX8_closeClause 24 = .ok (.getfield 49, 3) := by decide +kernel
theorem dX8_closeClause_27 : decode cX8_closeClause 27 = .ok (.iconst 1, 1) := by decide +kernel
theorem dX8_closeClause_28 : decode cX8_closeClause 28 = .ok (.iadd, 1) := by decide +kernel
theorem dX8_closeClause_29 : decode cX8_closeClause 29 = .ok (.putfield 49, 3) := by decide +kernel
theorem dX8_closeClause_32 : decode cX8_closeClause 32 = .ok (.return_, 1) := by decide +kernel
theorem dX8_endSum_0 : decode cX8_endSum 0 = .ok (.aload_n 0, 1) := by decide +kernel
theorem dX8_endSum_1 : decode cX8_endSum 1 = .ok (.getfield 49, 3) := by decide +kernel
theorem dX8_endSum_4 : decode cX8_endSum 4 = .ok (.bipush 12, 2) := by decide +kernel
theorem dX8_endSum_6 : decode cX8_endSum 6 = .ok (.if_icmp .ge 16, 3) := by decide +kernel
theorem dX8_endSum_9 : decode cX8_endSum 9 = .ok (.aload_n 0, 1) := by decide +kernel
theorem dX8_endSum_10 : decode cX8_endSum 10 = .ok (.getfield 18, 3) := by decide +kernel
theorem dX8_endSum_13 : decode cX8_endSum 13 = .ok (.aload_n 0, 1) := by decide +kernel
theorem dX8_endSum_14 : decode cX8_endSum 14 = .ok (.getfield 49, 3) := by decide +kernel
theorem dX8_endSum_17 : decode cX8_endSum 17 = .ok (.aload_n 0, 1) := by decide +kernel
theorem dX8_endSum_18 : decode cX8_endSum 18 = .ok (.getfield 52, 3) := by decide +kernel
theorem dX8_endSum_21 : decode cX8_endSum 21 = .ok (.iastore, 1) := by decide +kernel
theorem dX8_endSum_22 : decode cX8_endSum 22 = .ok (.return_, 1) := by decide +kernel
theorem dX8_openClause_0 : decode cX8_openClause 0 = .ok (.aload_n 0, 1) := by decide +kernel
theorem dX8_openClause_1 : decode cX8_openClause 1 = .ok (.getfield 49, 3) := by decide +kernel
theorem dX8_openClause_4 : decode cX8_openClause 4 = .ok (.bipush 12, 2) := by decide +kernel
theorem dX8_openClause_6 : decode cX8_openClause 6 = .ok (.if_icmp .ge 26, 3) := by decide +kernel
theorem dX8_openClause_9 : decode cX8_openClause 9 = .ok (.aload_n 0, 1) := by decide +kernel
theorem dX8_openClause_10 : decode cX8_openClause 10 = .ok (.getfield 9, 3) := by decide +kernel
theorem dX8_openClause_13 : decode cX8_openClause 13 = .ok (.aload_n 0, 1) := by decide +kernel
theorem dX8_openClause_14 : decode cX8_openClause 14 = .ok (.getfield 49, 3) := by decide +kernel
theorem dX8_openClause_17 : decode cX8_openClause 17 = .ok (.iload_n 1, 1) := by decide +kernel
theorem dX8_openClause_18 : decode cX8_openClause 18 = .ok (.iastore, 1) := by decide +kernel
theorem dX8_openClause_19 : decode cX8_openClause 19 = .ok (.aload_n 0, 1) := by decide +kernel
theorem dX8_openClause_20 : decode cX8_openClause 20 = .ok (.getfield 15, 3) := by decide +kernel
theorem dX8_openClause_23 : decode cX8_openClause 23 = .ok (.aload_n 0, 1) := by decide +kernel
theorem dX8_openClause_24 : decode cX8_openClause 24 = .ok (.getfield 49, 3) := by decide +kernel
theorem dX8_openClause_27 : decode cX8_openClause 27 = .ok (.aload_n 0, 1) := by decide +kernel
theorem dX8_openClause_28 : decode cX8_openClause 28 = .ok (.getfield 52, 3) := by decide +kernel
theorem dX8_openClause_31 : decode cX8_openClause 31 = .ok (.iastore, 1) := by decide +kernel
theorem dX8_openClause_32 : decode cX8_openClause 32 = .ok (.return_, 1) := by decide +kernel
