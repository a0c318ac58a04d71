theorem dX10_alias_0 : decode cX10_alias 0 = .ok (.aload_n 0, 1) := by decide +kernel
theorem dX10_alias_1 : decode cX10_alias 1 = .ok (.iload_n 1, 1) := by decide +kernel
theorem dX10_alias_2 : decode cX10_alias 2 = .ok (.invokevirtual 259, 3) := by decide +kernel
theorem dX10_alias_5 : decode cX10_alias 5 = .ok (.ifnull 20, 3) := by decide +kernel
theorem dX10_alias_25 : decode cX10_alias 25 = .ok (.ldc2_w 274, 3) := by decide +kernel
theorem dX10_alias_28 : decode cX10_alias 28 = .ok (.lreturn, 1) := by decide +kernel
theorem dX10_at_0 : decode cX10_at 0 = .ok (.aload_n 0, 1) := by decide +kernel
theorem dX10_at_1 : decode cX10_at 1 = .ok (.iload_n 1, 1) := by decide +kernel
theorem dX10_at_2 : decode cX10_at 2 = .ok (.invokevirtual 137, 3) := by decide +kernel
theorem dX10_at_5 : decode cX10_at 5 = .ok (.ifCond .eq 17, 3) := by decide +kernel
theorem dX10_at_22 : decode cX10_at 22 = .ok (.ldc 116, 2) := by decide +kernel
theorem dX10_at_24 : decode cX10_at 24 = .ok (.ireturn, 1) := by decide +kernel
theorem dX10_back_0 : decode cX10_back 0 = .ok (.iload_n 1, 1) := by decide +kernel
theorem dX10_back_1 : decode cX10_back 1 = .ok (.iconst 0, 1) := by decide +kernel
theorem dX10_back_2 : decode cX10_back 2 = .ok (.iconst 3, 1) := by decide +kernel
theorem dX10_back_3 : decode cX10_back 3 = .ok (.invokestatic 100, 3) := by decide +kernel
theorem dX10_back_6 : decode cX10_back 6 = .ok (.ifCond .eq 12, 3) := by decide +kernel
theorem dX10_back_9 : decode cX10_back 9 = .ok (.aload_n 0, 1) := by decide +kernel
theorem dX10_back_10 : decode cX10_back 10 = .ok (.getfield 16, 3) := by decide +kernel
theorem dX10_back_13 : decode cX10_back 13 = .ok (.iload_n 1, 1) := by decide +kernel
theorem dX10_back_14 : decode cX10_back 14 = .ok (.aaload, 1) := by decide +kernel
theorem dX10_back_15 : decode cX10_back 15 = .ok (.goto 4, 3) := by decide +kernel
theorem dX10_back_18 : decode cX10_back 18 = .ok (.aconst_null, 1) := by decide +kernel
theorem dX10_back_19 : decode cX10_back 19 = .ok (.astore_n 2, 1) := by decide +kernel
theorem dX10_back_20 : decode cX10_back 20 = .ok (.aload_n 2, 1) := by decide +kernel
theorem dX10_back_21 : decode cX10_back 21 = .ok (.ifnonnull 5, 3) := by decide +kernel
theorem dX10_back_24 : decode cX10_back 24 = .ok (.iconst (-1), 1) := by decide +kernel
theorem dX10_back_25 : decode cX10_back 25 = .ok (.ireturn, 1) := by decide +kernel
theorem dX10_bound_0 : decode cX10_bound 0 = .ok (.aload_n 0, 1) := by decide +kernel
theorem dX10_bound_1 : decode cX10_bound 1 = .ok (.iload_n 1, 1) := by decide +kernel
theorem dX10_bound_2 : decode cX10_bound 2 = .ok (.invokevirtual 259, 3) := by decide +kernel
theorem dX10_bound_5 : decode cX10_bound 5 = .ok (.astore_n 3, 1) := by decide +kernel
theorem dX10_bound_6 : decode cX10_bound 6 = .ok (.aload_n 3, 1) := by decide +kernel
theorem dX10_bound_7 : decode cX10_bound 7 = .ok (.ifnull 14, 3) := by decide +kernel
theorem dX10_bound_21 : decode cX10_bound 21 = .ok (.iconst (-1), 1) := by decide +kernel
theorem dX10_bound_22 : decode cX10_bound 22 = .ok (.ireturn, 1) := by decide +kernel
theorem dX10_candidate_0 : decode cX10_candidate 0 = .ok (.aload_n 0, 1) := by decide +kernel
theorem dX10_candidate_1 : decode cX10_candidate 1 = .ok (.iload_n 1, 1) := by decide +kernel
theorem dX10_candidate_2 : decode cX10_candidate 2 = .ok (.invokevirtual 137, 3) := by decide +kernel
theorem dX10_candidate_5 : decode cX10_candidate 5 = .ok (.ifCond .eq 28, 3) := by decide +kernel
theorem dX10_candidate_33 : decode cX10_candidate 33 = .ok (.iconst 0, 1) := by decide +kernel
theorem dX10_candidate_34 : decode cX10_candidate 34 = .ok (.istore 4, 2) := by decide +kernel
theorem dX10_candidate_36 : decode cX10_candidate 36 = .ok (.iload 4, 2) := by decide +kernel
theorem dX10_candidate_38 : decode cX10_candidate 38 = .ok (.ifCond .eq 15, 3) := by decide +kernel
theorem dX10_candidate_53 : decode cX10_candidate 53 = .ok (.iconst (-1), 1) := by decide +kernel
theorem dX10_candidate_54 : decode cX10_candidate 54 = .ok (.ireturn, 1) := by decide +kernel
theorem dX10_catches_0 : decode cX10_catches 0 = .ok (.aload_n 0, 1) := by decide +kernel
theorem dX10_catches_1 : decode cX10_catches 1 = .ok (.iload_n 1, 1) := by decide +kernel
theorem dX10_catches_2 : decode cX10_catches 2 = .ok (.invokevirtual 259, 3) := by decide +kernel
theorem dX10_catches_5 : decode cX10_catches 5 = .ok (.astore_n 3, 1) := by decide +kernel
theorem dX10_catches_6 : decode cX10_catches 6 = .ok (.aload_n 0, 1) := by decide +kernel
theorem dX10_catches_7 : decode cX10_catches 7 = .ok (.getfield 10, 3) := by decide +kernel
theorem dX10_catches_10 : decode cX10_catches 10 = .ok (.iload_n 2, 1) := by decide +kernel
theorem dX10_catches_11 : decode cX10_catches 11 = .ok (.invokevirtual 280, 3) := by decide +kernel
theorem dX10_catches_14 : decode cX10_catches 14 = .ok (.astore 4, 2) := by decide +kernel
theorem dX10_catches_16 : decode cX10_catches 16 = .ok (.aload_n 3, 1) := by decide +kernel
theorem dX10_catches_17 : decode cX10_catches 17 = .ok (.ifnull 16, 3) := by decide +kernel
theorem dX10_catches_33 : decode cX10_catches 33 = .ok (.iconst (-1), 1) := by decide +kernel
theorem dX10_catches_34 : decode cX10_catches 34 = .ok (.ireturn, 1) := by decide +kernel
theorem dX10_chance_0 : decode cX10_chance 0 = .ok (.aload_n 0, 1) := by decide +kernel
theorem dX10_chance_1 : decode cX10_chance 1 = .ok (.iload_n 1, 1) := by decide +kernel
theorem dX10_chance_2 : decode cX10_chance 2 = .ok (.invokevirtual 259, 3) := by decide +kernel
theorem dX10_chance_5 : decode cX10_chance 5 = .ok (.ifnull 21, 3) := by decide +kernel
theorem dX10_chance_26 : decode cX10_chance 26 = .ok (.iconst (-1), 1) := by decide +kernel
theorem dX10_chance_27 : decode cX10_chance 27 = .ok (.ireturn, 1) := by decide +kernel
theorem dX10_finest_0 : decode cX10_finest 0 = .ok (.iconst (-1), 1) := by decide +kernel
theorem dX10_finest_1 : decode cX10_finest 1 = .ok (.istore_n 1, 1) := by decide +kernel
theorem dX10_finest_2 : decode cX10_finest 2 = .ok (.iconst 0, 1) := by decide +kernel
theorem dX10_finest_3 : decode cX10_finest 3 = .ok (.istore_n 2, 1) := by decide +kernel
theorem dX10_finest_4 : decode cX10_finest 4 = .ok (.iconst 0, 1) := by decide +kernel
theorem dX10_finest_5 : decode cX10_finest 5 = .ok (.istore_n 3, 1) := by decide +kernel
theorem dX10_finest_6 : decode cX10_finest 6 = .ok (.iconst 0, 1) := by decide +kernel
theorem dX10_finest_7 : decode cX10_finest 7 = .ok (.istore 4, 2) := by decide +kernel
theorem dX10_finest_9 : decode cX10_finest 9 = .ok (.iload 4, 2) := by decide +kernel
theorem dX10_finest_11 : decode cX10_finest 11 = .ok (.aload_n 0, 1) := by decide +kernel
theorem dX10_finest_12 : decode cX10_finest 12 = .ok (.getfield 172, 3) := by decide +kernel
theorem dX10_finest_15 : decode cX10_finest 15 = .ok (.if_icmp .ge 86, 3) := by decide +kernel
theorem dX10_finest_101 : decode cX10_finest 101 = .ok (.iload_n 1, 1) := by decide +kernel
theorem dX10_finest_102 : decode cX10_finest 102 = .ok (.ireturn, 1) := by decide +kernel
theorem dX10_fold_0 : decode cX10_fold 0 = .ok (.iload_n 3, 1) := by decide +kernel
theorem dX10_fold_1 : decode cX10_fold 1 = .ok (.invokestatic 234, 3) := by decide +kernel
theorem dX10_fold_4 : decode cX10_fold 4 = .ok (.ifCond .eq 19, 3) := by decide +kernel
theorem dX10_fold_7 : decode cX10_fold 7 = .ok (.iload 4, 2) := by decide +kernel
theorem dX10_fold_9 : decode cX10_fold 9 = .ok (.iconst 0, 1) := by decide +kernel
theorem dX10_fold_10 : decode cX10_fold 10 = .ok (.iload_n 3, 1) := by decide +kernel
theorem dX10_fold_11 : decode cX10_fold 11 = .ok (.iconst 1, 1) := by decide +kernel
theorem dX10_fold_12 : decode cX10_fold 12 = .ok (.isub, 1) := by decide +kernel
theorem dX10_fold_13 : decode cX10_fold 13 = .ok (.invokestatic 100, 3) := by decide +kernel
theorem dX10_fold_16 : decode cX10_fold 16 = .ok (.ifCond .eq 7, 3) := by decide +kernel
theorem dX10_fold_19 : decode cX10_fold 19 = .ok (.iconst 1, 1) := by decide +kernel
theorem dX10_fold_20 : decode cX10_fold 20 = .ok (.goto 4, 3) := by decide +kernel
theorem dX10_fold_23 : decode cX10_fold 23 = .ok (.iconst 0, 1) := by decide +kernel
theorem dX10_fold_24 : decode cX10_fold 24 = .ok (.istore 6, 2) := by decide +kernel
theorem dX10_fold_26 : decode cX10_fold 26 = .ok (.aload_n 0, 1) := by decide +kernel
theorem dX10_fold_27 : decode cX10_fold 27 = .ok (.iload_n 1, 1) := by decide +kernel
theorem dX10_fold_28 : decode cX10_fold 28 = .ok (.invokevirtual 137, 3) := by decide +kernel
theorem dX10_fold_31 : decode cX10_fold 31 = .ok (.ifCond .eq 25, 3) := by decide +kernel
theorem dX10_fold_56 : decode cX10_fold 56 = .ok (.ldc2_w 408, 3) := by decide +kernel
theorem dX10_fold_59 : decode cX10_fold 59 = .ok (.lreturn, 1) := by decide +kernel
theorem dX10_found_0 : decode cX10_found 0 = .ok (.aload_n 0, 1) := by decide +kernel
theorem dX10_found_1 : decode cX10_found 1 = .ok (.iload_n 1, 1) := by decide +kernel
theorem dX10_found_2 : decode cX10_found 2 = .ok (.invokevirtual 259, 3) := by decide +kernel
theorem dX10_found_5 : decode cX10_found 5 = .ok (.astore 5, 2) := by decide +kernel
theorem dX10_found_7 : decode cX10_found 7 = .ok (.aload 5, 2) := by decide +kernel
theorem dX10_found_9 : decode cX10_found 9 = .ok (.ifnull 29, 3) := by decide +kernel
theorem dX10_found_38 : decode cX10_found 38 = .ok (.ldc2_w 262, 3) := by decide +kernel
theorem dX10_found_41 : decode cX10_found 41 = .ok (.lreturn, 1) := by decide +kernel
theorem dX10_isBeat_0 : decode cX10_isBeat 0 = .ok (.iload_n 0, 1) := by decide +kernel
theorem dX10_isBeat_1 : decode cX10_isBeat 1 = .ok (.iconst 2, 1) := by decide +kernel
theorem dX10_isBeat_2 : decode cX10_isBeat 2 = .ok (.sipush 200, 3) := by decide +kernel
theorem dX10_isBeat_5 : decode cX10_isBeat 5 = .ok (.invokestatic 100, 3) := by decide +kernel
theorem dX10_isBeat_8 : decode cX10_isBeat 8 = .ok (.ireturn, 1) := by decide +kernel
theorem dX10_isHour_0 : decode cX10_isHour 0 = .ok (.iload_n 0, 1) := by decide +kernel
theorem dX10_isHour_1 : decode cX10_isHour 1 = .ok (.iconst 0, 1) := by decide +kernel
theorem dX10_isHour_2 : decode cX10_isHour 2 = .ok (.sipush 599, 3) := by decide +kernel
theorem dX10_isHour_5 : decode cX10_isHour 5 = .ok (.invokestatic 100, 3) := by decide +kernel
theorem dX10_isHour_8 : decode cX10_isHour 8 = .ok (.ireturn, 1) := by decide +kernel
theorem dX10_isSize_0 : decode cX10_isSize 0 = .ok (.iload_n 0, 1) := by decide +kernel
theorem dX10_isSize_1 : decode cX10_isSize 1 = .ok (.iconst 1, 1) := by decide +kernel
theorem dX10_isSize_2 : decode cX10_isSize 2 = .ok (.sipush 999, 3) := by decide +kernel
theorem dX10_isSize_5 : decode cX10_isSize 5 = .ok (.invokestatic 100, 3) := by decide +kernel
theorem dX10_isSize_8 : decode cX10_isSize 8 = .ok (.ireturn, 1) := by decide +kernel
theorem dX10_isStar_0 : decode cX10_isStar 0 = .ok (.aload_n 0, 1) := by decide +kernel
theorem dX10_isStar_1 : decode cX10_isStar 1 = .ok (.getfield 10, 3) := by decide +kernel
theorem dX10_isStar_4 : decode cX10_isStar 4 = .ok (.iload_n 1, 1) := by decide +kernel
theorem dX10_isStar_5 : decode cX10_isStar 5 = .ok (.invokevirtual 108, 3) := by decide +kernel
theorem dX10_isStar_8 : decode cX10_isStar 8 = .ok (.ifnull 7, 3) := by decide +kernel
theorem dX10_isStar_15 : decode cX10_isStar 15 = .ok (.iconst 0, 1) := by decide +kernel
theorem dX10_isStar_16 : decode cX10_isStar 16 = .ok (.ireturn, 1) := by decide +kernel
theorem dX10_isWay_0 : decode cX10_isWay 0 = .ok (.iload_n 0, 1) := by decide +kernel
theorem dX10_isWay_1 : decode cX10_isWay 1 = .ok (.iconst 0, 1) := by decide +kernel
theorem dX10_isWay_2 : decode cX10_isWay 2 = .ok (.iconst 5, 1) := by decide +kernel
theorem dX10_isWay_3 : decode cX10_isWay 3 = .ok (.invokestatic 100, 3) := by decide +kernel
theorem dX10_isWay_6 : decode cX10_isWay 6 = .ok (.ireturn, 1) := by decide +kernel
theorem dX10_isWeighed_0 : decode cX10_isWeighed 0 = .ok (.aload_n 0, 1) := by decide +kernel
theorem dX10_isWeighed_1 : decode cX10_isWeighed 1 = .ok (.iload_n 1, 1) := by decide +kernel
theorem dX10_isWeighed_2 : decode cX10_isWeighed 2 = .ok (.invokevirtual 349, 3) := by decide +kernel
theorem dX10_isWeighed_5 : decode cX10_isWeighed 5 = .ok (.ifnull 19, 3) := by decide +kernel
theorem dX10_isWeighed_24 : decode cX10_isWeighed 24 = .ok (.iconst 0, 1) := by decide +kernel
theorem dX10_isWeighed_25 : decode cX10_isWeighed 25 = .ok (.ireturn, 1) := by decide +kernel
theorem dX10_isWithin_0 : decode cX10_isWithin 0 = .ok (.iload_n 0, 1) := by decide +kernel
theorem dX10_isWithin_1 : decode cX10_isWithin 1 = .ok (.iload_n 1, 1) := by decide +kernel
theorem dX10_isWithin_2 : decode cX10_isWithin 2 = .ok (.if_icmp .lt 12, 3) := by decide +kernel
theorem dX10_isWithin_5 : decode cX10_isWithin 5 = .ok (.iload_n 0, 1) := by decide +kernel
theorem dX10_isWithin_6 : decode cX10_isWithin 6 = .ok (.iload_n 2, 1) := by decide +kernel
theorem dX10_isWithin_7 : decode cX10_isWithin 7 = .ok (.if_icmp .gt 7, 3) := by decide +kernel
theorem dX10_isWithin_10 : decode cX10_isWithin 10 = .ok (.iconst 1, 1) := by decide +kernel
theorem dX10_isWithin_11 : decode cX10_isWithin 11 = .ok (.goto 4, 3) := by decide +kernel
theorem dX10_isWithin_14 : decode cX10_isWithin 14 = .ok (.iconst 0, 1) := by decide +kernel
theorem dX10_isWithin_15 : decode cX10_isWithin 15 = .ok (.ireturn, 1) := by decide +kernel
theorem dX10_lawAt_0 : decode cX10_lawAt 0 = .ok (.iload_n 1, 1) := by decide +kernel
theorem dX10_lawAt_1 : decode cX10_lawAt 1 = .ok (.iconst 0, 1) := by decide +kernel
theorem dX10_lawAt_2 : decode cX10_lawAt 2 = .ok (.aload_n 0, 1) := by decide +kernel
theorem dX10_lawAt_3 : decode cX10_lawAt 3 = .ok (.getfield 169, 3) := by decide +kernel
theorem dX10_lawAt_6 : decode cX10_lawAt 6 = .ok (.iconst 1, 1) := by decide +kernel
theorem dX10_lawAt_7 : decode cX10_lawAt 7 = .ok (.isub, 1) := by decide +kernel
theorem dX10_lawAt_8 : decode cX10_lawAt 8 = .ok (.invokestatic 100, 3) := by decide +kernel
theorem dX10_lawAt_11 : decode cX10_lawAt 11 = .ok (.ifCond .eq 18, 3) := by decide +kernel
theorem dX10_lawAt_29 : decode cX10_lawAt 29 = .ok (.aconst_null, 1) := by decide +kernel
theorem dX10_lawAt_30 : decode cX10_lawAt 30 = .ok (.areturn, 1) := by decide +kernel
theorem dX10_line_0 : decode cX10_line 0 = .ok (.iload_n 3, 1) := by decide +kernel
theorem dX10_line_1 : decode cX10_line 1 = .ok (.iconst 0, 1) := by decide +kernel
theorem dX10_line_2 : decode cX10_line 2 = .ok (.sipush 999, 3) := by decide +kernel
theorem dX10_line_5 : decode cX10_line 5 = .ok (.invokestatic 100, 3) := by decide +kernel
theorem dX10_line_8 : decode cX10_line 8 = .ok (.ifCond .eq 19, 3) := by decide +kernel
theorem dX10_line_11 : decode cX10_line 11 = .ok (.iload 4, 2) := by decide +kernel
theorem dX10_line_13 : decode cX10_line 13 = .ok (.iconst 0, 1) := by decide +kernel
theorem dX10_line_14 : decode cX10_line 14 = .ok (.sipush 999, 3) := by decide +kernel
theorem dX10_line_17 : decode cX10_line 17 = .ok (.invokestatic 100, 3) := by decide +kernel
theorem dX10_line_20 : decode cX10_line 20 = .ok (.ifCond .eq 7, 3) := by decide +kernel
theorem dX10_line_23 : decode cX10_line 23 = .ok (.iconst 1, 1) := by decide +kernel
theorem dX10_line_24 : decode cX10_line 24 = .ok (.goto 4, 3) := by decide +kernel
theorem dX10_line_27 : decode cX10_line 27 = .ok (.iconst 0, 1) := by decide +kernel
theorem dX10_line_28 : decode cX10_line 28 = .ok (.istore 6, 2) := by decide +kernel
theorem dX10_line_30 : decode cX10_line 30 = .ok (.aload_n 0, 1) := by decide +kernel
theorem dX10_line_31 : decode cX10_line 31 = .ok (.iload_n 1, 1) := by decide +kernel
theorem dX10_line_32 : decode cX10_line 32 = .ok (.invokevirtual 259, 3) := by decide +kernel
theorem dX10_line_35 : decode cX10_line 35 = .ok (.ifnull 29, 3) := by decide +kernel
theorem dX10_line_64 : decode cX10_line 64 = .ok (.iconst (-1), 1) := by decide +kernel
theorem dX10_line_65 : decode cX10_line 65 = .ok (.ireturn, 1) := by decide +kernel
theorem dX10_make_0 : decode cX10_make 0 = .ok (.aload_n 0, 1) := by decide +kernel
theorem dX10_make_1 : decode cX10_make 1 = .ok (.iload_n 1, 1) := by decide +kernel
theorem dX10_make_2 : decode cX10_make 2 = .ok (.invokevirtual 194, 3) := by decide +kernel
theorem dX10_make_5 : decode cX10_make 5 = .ok (.astore 6, 2) := by decide +kernel
theorem dX10_make_7 : decode cX10_make 7 = .ok (.aload_n 0, 1) := by decide +kernel
theorem dX10_make_8 : decode cX10_make 8 = .ok (.getfield 10, 3) := by decide +kernel
theorem dX10_make_11 : decode cX10_make 11 = .ok (.iload_n 2, 1) := by decide +kernel
theorem dX10_make_12 : decode cX10_make 12 = .ok (.invokevirtual 108, 3) := by decide +kernel
theorem dX10_make_15 : decode cX10_make 15 = .ok (.astore 7, 2) := by decide +kernel
theorem dX10_make_17 : decode cX10_make 17 = .ok (.aload 6, 2) := by decide +kernel
theorem dX10_make_19 : decode cX10_make 19 = .ok (.ifnull 35, 3) := by decide +kernel
theorem dX10_make_54 : decode cX10_make 54 = .ok (.iconst (-1), 1) := by decide +kernel
theorem dX10_make_55 : decode cX10_make 55 = .ok (.ireturn, 1) := by decide +kernel
theorem dX10_many_0 : decode cX10_many 0 = .ok (.aload_n 0, 1) := by decide +kernel
theorem dX10_many_1 : decode cX10_many 1 = .ok (.iload_n 1, 1) := by decide +kernel
theorem dX10_many_2 : decode cX10_many 2 = .ok (.invokevirtual 259, 3) := by decide +kernel
theorem dX10_many_5 : decode cX10_many 5 = .ok (.astore 6, 2) := by decide +kernel
theorem dX10_many_7 : decode cX10_many 7 = .ok (.iload_n 3, 1) := by decide +kernel
theorem dX10_many_8 : decode cX10_many 8 = .ok (.ifCond .lt 23, 3) := by decide +kernel
theorem dX10_many_11 : decode cX10_many 11 = .ok (.iload_n 3, 1) := by decide +kernel
theorem dX10_many_12 : decode cX10_many 12 = .ok (.iload 4, 2) := by decide +kernel
theorem dX10_many_14 : decode cX10_many 14 = .ok (.if_icmp .gt 17, 3) := by decide +kernel
theorem dX10_many_17 : decode cX10_many 17 = .ok (.iload 5, 2) := by decide +kernel
theorem dX10_many_19 : decode cX10_many 19 = .ok (.iconst 0, 1) := by decide +kernel
theorem dX10_many_20 : decode cX10_many 20 = .ok (.iconst 1, 1) := by decide +kernel
theorem dX10_many_21 : decode cX10_many 21 = .ok (.invokestatic 100, 3) := by decide +kernel
theorem dX10_many_24 : decode cX10_many 24 = .ok (.ifCond .eq 7, 3) := by decide +kernel
theorem dX10_many_27 : decode cX10_many 27 = .ok (.iconst 1, 1) := by decide +kernel
theorem dX10_many_28 : decode cX10_many 28 = .ok (.goto 4, 3) := by decide +kernel
theorem dX10_many_31 : decode cX10_many 31 = .ok (.iconst 0, 1) := by decide +kernel
theorem dX10_many_32 : decode cX10_many 32 = .ok (.istore 7, 2) := by decide +kernel
theorem dX10_many_34 : decode cX10_many 34 = .ok (.aload 6, 2) := by decide +kernel
theorem dX10_many_36 : decode cX10_many 36 = .ok (.ifnull 16, 3) := by decide +kernel
theorem dX10_many_52 : decode cX10_many 52 = .ok (.iconst (-1), 1) := by decide +kernel
theorem dX10_many_53 : decode cX10_many 53 = .ok (.ireturn, 1) := by decide +kernel
theorem dX10_next_0 : decode cX10_next 0 = .ok (.aload_n 0, 1) := by decide +kernel
theorem dX10_next_1 : decode cX10_next 1 = .ok (.iload_n 1, 1) := by decide +kernel
theorem dX10_next_2 : decode cX10_next 2 = .ok (.invokevirtual 259, 3) := by decide +kernel
theorem dX10_next_5 : decode cX10_next 5 = .ok (.ifnull 22, 3) := by decide +kernel
theorem dX10_next_27 : decode cX10_next 27 = .ok (.iconst (-1), 1) := by decide +kernel
theorem dX10_next_28 : decode cX10_next 28 = .ok (.ireturn, 1) := by decide +kernel
theorem dX10_odds_0 : decode cX10_odds 0 = .ok (.iload 4, 2) := by decide +kernel
theorem dX10_odds_2 : decode cX10_odds 2 = .ok (.iconst 0, 1) := by decide +kernel
theorem dX10_odds_3 : decode cX10_odds 3 = .ok (.iconst 4, 1) := by decide +kernel
theorem dX10_odds_4 : decode cX10_odds 4 = .ok (.invokestatic 100, 3) := by decide +kernel
theorem dX10_odds_7 : decode cX10_odds 7 = .ok (.ifCond .eq 17, 3) := by decide +kernel
theorem dX10_odds_10 : decode cX10_odds 10 = .ok (.iload 5, 2) := by decide +kernel
theorem dX10_odds_12 : decode cX10_odds 12 = .ok (.iconst 0, 1) := by decide +kernel
theorem dX10_odds_13 : decode cX10_odds 13 = .ok (.iconst 1, 1) := by decide +kernel
theorem dX10_odds_14 : decode cX10_odds 14 = .ok (.invokestatic 100, 3) := by decide +kernel
theorem dX10_odds_17 : decode cX10_odds 17 = .ok (.ifCond .eq 7, 3) := by decide +kernel
theorem dX10_odds_20 : decode cX10_odds 20 = .ok (.iconst 1, 1) := by decide +kernel
theorem dX10_odds_21 : decode cX10_odds 21 = .ok (.goto 4, 3) := by decide +kernel
theorem dX10_odds_24 : decode cX10_odds 24 = .ok (.iconst 0, 1) := by decide +kernel
theorem dX10_odds_25 : decode cX10_odds 25 = .ok (.istore 6, 2) := by decide +kernel
theorem dX10_odds_27 : decode cX10_odds 27 = .ok (.iload 6, 2) := by decide +kernel
theorem dX10_odds_29 : decode cX10_odds 29 = .ok (.ifCond .eq 13, 3) := by decide +kernel
theorem dX10_odds_32 : decode cX10_odds 32 = .ok (.aload_n 0, 1) := by decide +kernel
theorem dX10_odds_33 : decode cX10_odds 33 = .ok (.iload_n 1, 1) := by decide +kernel
theorem dX10_odds_34 : decode cX10_odds 34 = .ok (.iload_n 2, 1) := by decide +kernel
theorem dX10_odds_35 : decode cX10_odds 35 = .ok (.iload_n 3, 1) := by decide +kernel
theorem dX10_odds_36 : decode cX10_odds 36 = .ok (.invokevirtual 343, 3) := by decide +kernel
theorem dX10_odds_39 : decode cX10_odds 39 = .ok (.ifCond .ne 5, 3) := by decide +kernel
theorem dX10_odds_42 : decode cX10_odds 42 = .ok (.iconst (-1), 1) := by decide +kernel
theorem dX10_odds_43 : decode cX10_odds 43 = .ok (.ireturn, 1) := by decide +kernel
theorem dX10_other_0 : decode cX10_other 0 = .ok (.aload_n 0, 1) := by decide +kernel
theorem dX10_other_1 : decode cX10_other 1 = .ok (.iload_n 1, 1) := by decide +kernel
theorem dX10_other_2 : decode cX10_other 2 = .ok (.invokevirtual 259, 3) := by decide +kernel
theorem dX10_other_5 : decode cX10_other 5 = .ok (.ifnull 20, 3) := by decide +kernel
theorem dX10_other_25 : decode cX10_other 25 = .ok (.bipush (-3), 2) := by decide +kernel
theorem dX10_other_27 : decode cX10_other 27 = .ok (.ireturn, 1) := by decide +kernel
theorem dX10_radius_0 : decode cX10_radius 0 = .ok (.aload_n 0, 1) := by decide +kernel
theorem dX10_radius_1 : decode cX10_radius 1 = .ok (.iload_n 1, 1) := by decide +kernel
theorem dX10_radius_2 : decode cX10_radius 2 = .ok (.invokevirtual 259, 3) := by decide +kernel
theorem dX10_radius_5 : decode cX10_radius 5 = .ok (.ifnull 11, 3) := by decide +kernel
theorem dX10_radius_16 : decode cX10_radius 16 = .ok (.iconst (-1), 1) := by decide +kernel
theorem dX10_radius_17 : decode cX10_radius 17 = .ok (.ireturn, 1) := by decide +kernel
theorem dX10_resize_0 : decode cX10_resize 0 = .ok (.aload_n 0, 1) := by decide +kernel
theorem dX10_resize_1 : decode cX10_resize 1 = .ok (.getfield 10, 3) := by decide +kernel
theorem dX10_resize_4 : decode cX10_resize 4 = .ok (.iload_n 1, 1) := by decide +kernel
theorem dX10_resize_5 : decode cX10_resize 5 = .ok (.invokevirtual 108, 3) := by decide +kernel
theorem dX10_resize_8 : decode cX10_resize 8 = .ok (.astore_n 3, 1) := by decide +kernel
theorem dX10_resize_9 : decode cX10_resize 9 = .ok (.aload_n 3, 1) := by decide +kernel
theorem dX10_resize_10 : decode cX10_resize 10 = .ok (.ifnull 10, 3) := by decide +kernel
theorem dX10_resize_20 : decode cX10_resize 20 = .ok (.iconst (-1), 1) := by decide +kernel
theorem dX10_resize_21 : decode cX10_resize 21 = .ok (.ireturn, 1) := by decide +kernel
theorem dX10_room_0 : decode cX10_room 0 = .ok (.aload_n 0, 1) := by decide +kernel
theorem dX10_room_1 : decode cX10_room 1 = .ok (.iload_n 1, 1) := by decide +kernel
theorem dX10_room_2 : decode cX10_room 2 = .ok (.invokevirtual 259, 3) := by decide +kernel
theorem dX10_room_5 : decode cX10_room 5 = .ok (.astore_n 3, 1) := by decide +kernel
theorem dX10_room_6 : decode cX10_room 6 = .ok (.aload_n 0, 1) := by decide +kernel
theorem dX10_room_7 : decode cX10_room 7 = .ok (.getfield 10, 3) := by decide +kernel
theorem dX10_room_10 : decode cX10_room 10 = .ok (.iload_n 2, 1) := by decide +kernel
theorem dX10_room_11 : decode cX10_room 11 = .ok (.invokevirtual 280, 3) := by decide +kernel
theorem dX10_room_14 : decode cX10_room 14 = .ok (.astore 4, 2) := by decide +kernel
theorem dX10_room_16 : decode cX10_room 16 = .ok (.aload_n 3, 1) := by decide +kernel
theorem dX10_room_17 : decode cX10_room 17 = .ok (.ifnull 8, 3) := by decide +kernel
theorem dX10_room_25 : decode cX10_room 25 = .ok (.iconst (-1), 1) := by decide +kernel
theorem dX10_room_26 : decode cX10_room 26 = .ok (.ireturn, 1) := by decide +kernel
theorem dX10_row_0 : decode cX10_row 0 = .ok (.aload_n 0, 1) := by decide +kernel
theorem dX10_row_1 : decode cX10_row 1 = .ok (.getfield 10, 3) := by decide +kernel
theorem dX10_row_4 : decode cX10_row 4 = .ok (.iload_n 1, 1) := by decide +kernel
theorem dX10_row_5 : decode cX10_row 5 = .ok (.invokevirtual 108, 3) := by decide +kernel
theorem dX10_row_8 : decode cX10_row 8 = .ok (.astore 4, 2) := by decide +kernel
theorem dX10_row_10 : decode cX10_row 10 = .ok (.iload_n 3, 1) := by decide +kernel
theorem dX10_row_11 : decode cX10_row 11 = .ok (.ldc 112, 2) := by decide +kernel
theorem dX10_row_13 : decode cX10_row 13 = .ok (.if_icmp .eq 16, 3) := by decide +kernel
theorem dX10_row_16 : decode cX10_row 16 = .ok (.iload_n 3, 1) := by decide +kernel
theorem dX10_row_17 : decode cX10_row 17 = .ok (.sipush (-30000), 3) := by decide +kernel
theorem dX10_row_20 : decode cX10_row 20 = .ok (.sipush 30000, 3) := by decide +kernel
theorem dX10_row_23 : decode cX10_row 23 = .ok (.invokestatic 100, 3) := by decide +kernel
theorem dX10_row_26 : decode cX10_row 26 = .ok (.ifCond .eq 7, 3) := by decide +kernel
theorem dX10_row_29 : decode cX10_row 29 = .ok (.iconst 1, 1) := by decide +kernel
theorem dX10_row_30 : decode cX10_row 30 = .ok (.goto 4, 3) := by decide +kernel
theorem dX10_row_33 : decode cX10_row 33 = .ok (.iconst 0, 1) := by decide +kernel
theorem dX10_row_34 : decode cX10_row 34 = .ok (.istore 5, 2) := by decide +kernel
theorem dX10_row_36 : decode cX10_row 36 = .ok (.aload 4, 2) := by decide +kernel
theorem dX10_row_38 : decode cX10_row 38 = .ok (.ifnull 15, 3) := by decide +kernel
theorem dX10_row_53 : decode cX10_row 53 = .ok (.ldc 116, 2) := by decide +kernel
theorem dX10_row_55 : decode cX10_row 55 = .ok (.ireturn, 1) := by decide +kernel
theorem dX10_searchAt_0 : decode cX10_searchAt 0 = .ok (.iload_n 1, 1) := by decide +kernel
theorem dX10_searchAt_1 : decode cX10_searchAt 1 = .ok (.iconst 0, 1) := by decide +kernel
theorem dX10_searchAt_2 : decode cX10_searchAt 2 = .ok (.aload_n 0, 1) := by decide +kernel
theorem dX10_searchAt_3 : decode cX10_searchAt 3 = .ok (.getfield 172, 3) := by decide +kernel
theorem dX10_searchAt_6 : decode cX10_searchAt 6 = .ok (.iconst 1, 1) := by decide +kernel
theorem dX10_searchAt_7 : decode cX10_searchAt 7 = .ok (.isub, 1) := by decide +kernel
theorem dX10_searchAt_8 : decode cX10_searchAt 8 = .ok (.invokestatic 100, 3) := by decide +kernel
theorem dX10_searchAt_11 : decode cX10_searchAt 11 = .ok (.ifCond .eq 18, 3) := by decide +kernel
theorem dX10_searchAt_29 : decode cX10_searchAt 29 = .ok (.aconst_null, 1) := by decide +kernel
theorem dX10_searchAt_30 : decode cX10_searchAt 30 = .ok (.areturn, 1) := by decide +kernel
theorem dX10_second_0 : decode cX10_second 0 = .ok (.aload_n 0, 1) := by decide +kernel
theorem dX10_second_1 : decode cX10_second 1 = .ok (.iload_n 1, 1) := by decide +kernel
theorem dX10_second_2 : decode cX10_second 2 = .ok (.invokevirtual 259, 3) := by decide +kernel
theorem dX10_second_5 : decode cX10_second 5 = .ok (.astore 4, 2) := by decide +kernel
theorem dX10_second_7 : decode cX10_second 7 = .ok (.aload 4, 2) := by decide +kernel
theorem dX10_second_9 : decode cX10_second 9 = .ok (.ifnull 21, 3) := by decide +kernel
theorem dX10_second_30 : decode cX10_second 30 = .ok (.ldc2_w 262, 3) := by decide +kernel
theorem dX10_second_33 : decode cX10_second 33 = .ok (.lreturn, 1) := by decide +kernel
theorem dX10_share_0 : decode cX10_share 0 = .ok (.aload_n 0, 1) := by decide +kernel
theorem dX10_share_1 : decode cX10_share 1 = .ok (.iload_n 1, 1) := by decide +kernel
theorem dX10_share_2 : decode cX10_share 2 = .ok (.invokevirtual 259, 3) := by decide +kernel
theorem dX10_share_5 : decode cX10_share 5 = .ok (.astore_n 3, 1) := by decide +kernel
theorem dX10_share_6 : decode cX10_share 6 = .ok (.aload_n 3, 1) := by decide +kernel
theorem dX10_share_7 : decode cX10_share 7 = .ok (.ifnull 12, 3) := by decide +kernel
theorem dX10_share_19 : decode cX10_share 19 = .ok (.iconst (-1), 1) := by decide +kernel
theorem dX10_share_20 : decode cX10_share 20 = .ok (.ireturn, 1) := by decide +kernel
theorem dX10_shift_0 : decode cX10_shift 0 = .ok (.aload_n 0, 1) := by decide +kernel
theorem dX10_shift_1 : decode cX10_shift 1 = .ok (.iload_n 1, 1) := by decide +kernel
theorem dX10_shift_2 : decode cX10_shift 2 = .ok (.invokevirtual 259, 3) := by decide +kernel
theorem dX10_shift_5 : decode cX10_shift 5 = .ok (.ifnull 22, 3) := by decide +kernel
theorem dX10_shift_27 : decode cX10_shift 27 = .ok (.sipush (-200), 3) := by decide +kernel
theorem dX10_shift_30 : decode cX10_shift 30 = .ok (.ireturn, 1) := by decide +kernel
theorem dX10_sign_0 : decode cX10_sign 0 = .ok (.aload_n 0, 1) := by decide +kernel
theorem dX10_sign_1 : decode cX10_sign 1 = .ok (.iload_n 1, 1) := by decide +kernel
theorem dX10_sign_2 : decode cX10_sign 2 = .ok (.invokevirtual 259, 3) := by decide +kernel
theorem dX10_sign_5 : decode cX10_sign 5 = .ok (.ifnull 20, 3) := by decide +kernel
theorem dX10_sign_25 : decode cX10_sign 25 = .ok (.ldc 116, 2) := by decide +kernel
theorem dX10_sign_27 : decode cX10_sign 27 = .ok (.ireturn, 1) := by decide +kernel
theorem dX10_sorted_0 : decode cX10_sorted 0 = .ok (.aload_n 0, 1) := by decide +kernel
theorem dX10_sorted_1 : decode cX10_sorted 1 = .ok (.iload_n 1, 1) := by decide +kernel
theorem dX10_sorted_2 : decode cX10_sorted 2 = .ok (.iload_n 2, 1) := by decide +kernel
theorem dX10_sorted_3 : decode cX10_sorted 3 = .ok (.iload_n 3, 1) := by decide +kernel
theorem dX10_sorted_4 : decode cX10_sorted 4 = .ok (.invokevirtual 343, 3) := by decide +kernel
theorem dX10_sorted_7 : decode cX10_sorted 7 = .ok (.ifCond .ne 5, 3) := by decide +kernel
theorem dX10_sorted_10 : decode cX10_sorted 10 = .ok (.iconst (-1), 1) := by decide +kernel
theorem dX10_sorted_11 : decode cX10_sorted 11 = .ok (.ireturn, 1) := by decide +kernel
theorem dX10_sorterAt_0 : decode cX10_sorterAt 0 = .ok (.iload_n 1, 1) := by decide +kernel
theorem dX10_sorterAt_1 : decode cX10_sorterAt 1 = .ok (.iconst 0, 1) := by decide +kernel
theorem dX10_sorterAt_2 : decode cX10_sorterAt 2 = .ok (.aload_n 0, 1) := by decide +kernel
theorem dX10_sorterAt_3 : decode cX10_sorterAt 3 = .ok (.getfield 175, 3) := by decide +kernel
theorem dX10_sorterAt_6 : decode cX10_sorterAt 6 = .ok (.iconst 1, 1) := by decide +kernel
theorem dX10_sorterAt_7 : decode cX10_sorterAt 7 = .ok (.isub, 1) := by decide +kernel
theorem dX10_sorterAt_8 : decode cX10_sorterAt 8 = .ok (.invokestatic 100, 3) := by decide +kernel
theorem dX10_sorterAt_11 : decode cX10_sorterAt 11 = .ok (.ifCond .eq 18, 3) := by decide +kernel
theorem dX10_sorterAt_29 : decode cX10_sorterAt 29 = .ok (.aconst_null, 1) := by decide +kernel
theorem dX10_sorterAt_30 : decode cX10_sorterAt 30 = .ok (.areturn, 1) := by decide +kernel
theorem dX10_spread_0 : decode cX10_spread 0 = .ok (.aload_n 0, 1) := by decide +kernel
theorem dX10_spread_1 : decode cX10_spread 1 = .ok (.iload_n 1, 1) := by decide +kernel
theorem dX10_spread_2 : decode cX10_spread 2 = .ok (.invokevirtual 137, 3) := by decide +kernel
theorem dX10_spread_5 : decode cX10_spread 5 = .ok (.ifCond .ne 7, 3) := by decide +kernel
theorem dX10_spread_8 : decode cX10_spread 8 = .ok (.ldc2_w 274, 3) := by decide +kernel
theorem dX10_spread_11 : decode cX10_spread 11 = .ok (.lreturn, 1) := by decide +kernel
theorem dX10_tried_0 : decode cX10_tried 0 = .ok (.iload_n 3, 1) := by decide +kernel
theorem dX10_tried_1 : decode cX10_tried 1 = .ok (.invokestatic 234, 3) := by decide +kernel
theorem dX10_tried_4 : decode cX10_tried 4 = .ok (.ifCond .eq 36, 3) := by decide +kernel
theorem dX10_tried_7 : decode cX10_tried 7 = .ok (.iload 4, 2) := by decide +kernel
theorem dX10_tried_9 : decode cX10_tried 9 = .ok (.iconst 1, 1) := by decide +kernel
theorem dX10_tried_10 : decode cX10_tried 10 = .ok (.bipush 10, 2) := by decide +kernel
theorem dX10_tried_12 : decode cX10_tried 12 = .ok (.invokestatic 100, 3) := by decide +kernel
theorem dX10_tried_15 : decode cX10_tried 15 = .ok (.ifCond .eq 25, 3) := by decide +kernel
theorem dX10_tried_18 : decode cX10_tried 18 = .ok (.iload 4, 2) := by decide +kernel
theorem dX10_tried_20 : decode cX10_tried 20 = .ok (.iload_n 3, 1) := by decide +kernel
theorem dX10_tried_21 : decode cX10_tried 21 = .ok (.if_icmp .ge 19, 3) := by decide +kernel
theorem dX10_tried_24 : decode cX10_tried 24 = .ok (.iload 5, 2) := by decide +kernel
theorem dX10_tried_26 : decode cX10_tried 26 = .ok (.iconst 0, 1) := by decide +kernel
theorem dX10_tried_27 : decode cX10_tried 27 = .ok (.iload_n 3, 1) := by decide +kernel
theorem dX10_tried_28 : decode cX10_tried 28 = .ok (.iconst 1, 1) := by decide +kernel
theorem dX10_tried_29 : decode cX10_tried 29 = .ok (.isub, 1) := by decide +kernel
theorem dX10_tried_30 : decode cX10_tried 30 = .ok (.invokestatic 100, 3) := by decide +kernel
theorem dX10_tried_33 : decode cX10_tried 33 = .ok (.ifCond .eq 7, 3) := by decide +kernel
theorem dX10_tried_36 : decode cX10_tried 36 = .ok (.iconst 1, 1) := by decide +kernel
theorem dX10_tried_37 : decode cX10_tried 37 = .ok (.goto 4, 3) := by decide +kernel
theorem dX10_tried_40 : decode cX10_tried 40 = .ok (.iconst 0, 1) := by decide +kernel
theorem dX10_tried_41 : decode cX10_tried 41 = .ok (.istore 7, 2) := by decide +kernel
theorem dX10_tried_43 : decode cX10_tried 43 = .ok (.aload_n 0, 1) := by decide +kernel
theorem dX10_tried_44 : decode cX10_tried 44 = .ok (.iload_n 1, 1) := by decide +kernel
theorem dX10_tried_45 : decode cX10_tried 45 = .ok (.invokevirtual 137, 3) := by decide +kernel
theorem dX10_tried_48 : decode cX10_tried 48 = .ok (.ifCond .eq 25, 3) := by decide +kernel
theorem dX10_tried_73 : decode cX10_tried 73 = .ok (.ldc2_w 237, 3) := by decide +kernel
theorem dX10_tried_76 : decode cX10_tried 76 = .ok (.lreturn, 1) := by decide +kernel
theorem dX10_truly_0 : decode cX10_truly 0 = .ok (.aload_n 0, 1) := by decide +kernel
theorem dX10_truly_1 : decode cX10_truly 1 = .ok (.iload_n 1, 1) := by decide +kernel
theorem dX10_truly_2 : decode cX10_truly 2 = .ok (.invokevirtual 259, 3) := by decide +kernel
theorem dX10_truly_5 : decode cX10_truly 5 = .ok (.astore_n 3, 1) := by decide +kernel
theorem dX10_truly_6 : decode cX10_truly 6 = .ok (.aload_n 3, 1) := by decide +kernel
theorem dX10_truly_7 : decode cX10_truly 7 = .ok (.ifnull 11, 3) := by decide +kernel
theorem dX10_truly_18 : decode cX10_truly 18 = .ok (.ldc2_w 274, 3) := by decide +kernel
theorem dX10_truly_21 : decode cX10_truly 21 = .ok (.lreturn, 1) := by decide +kernel
theorem dX10_weight_0 : decode cX10_weight 0 = .ok (.iload 4, 2) := by decide +kernel
theorem dX10_weight_2 : decode cX10_weight 2 = .ok (.iconst 0, 1) := by decide +kernel
