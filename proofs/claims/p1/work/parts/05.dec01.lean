theorem dX10_weight_3 : decode cX10_weight 3 = .ok (.iconst 4, 1) := by decide +kernel
theorem dX10_weight_4 : decode cX10_weight 4 = .ok (.invokestatic 100, 3) := by decide +kernel
theorem dX10_weight_7 : decode cX10_weight 7 = .ok (.ifCond .eq 13, 3) := by decide +kernel
theorem dX10_weight_10 : decode cX10_weight 10 = .ok (.aload_n 0, 1) := by decide +kernel
theorem dX10_weight_11 : decode cX10_weight 11 = .ok (.iload_n 1, 1) := by decide +kernel
theorem dX10_weight_12 : decode cX10_weight 12 = .ok (.iload_n 2, 1) := by decide +kernel
theorem dX10_weight_13 : decode cX10_weight 13 = .ok (.iload_n 3, 1) := by decide +kernel
theorem dX10_weight_14 : decode cX10_weight 14 = .ok (.invokevirtual 343, 3) := by decide +kernel
theorem dX10_weight_17 : decode cX10_weight 17 = .ok (.ifCond .ne 5, 3) := by decide +kernel
theorem dX10_weight_20 : decode cX10_weight 20 = .ok (.iconst (-1), 1) := by decide +kernel
theorem dX10_weight_21 : decode cX10_weight 21 = .ok (.ireturn, 1) := by decide +kernel
theorem dX10_world_0 : decode cX10_world 0 = .ok (.iload_n 2, 1) := by decide +kernel
theorem dX10_world_1 : decode cX10_world 1 = .ok (.iconst 2, 1) := by decide +kernel
theorem dX10_world_2 : decode cX10_world 2 = .ok (.sipush 599, 3) := by decide +kernel
theorem dX10_world_5 : decode cX10_world 5 = .ok (.invokestatic 100, 3) := by decide +kernel
theorem dX10_world_8 : decode cX10_world 8 = .ok (.ifCond .eq 14, 3) := by decide +kernel
theorem dX10_world_11 : decode cX10_world 11 = .ok (.iload_n 3, 1) := by decide +kernel
theorem dX10_world_12 : decode cX10_world 12 = .ok (.invokestatic 113, 3) := by decide +kernel
theorem dX10_world_15 : decode cX10_world 15 = .ok (.ifCond .eq 7, 3) := by decide +kernel
theorem dX10_world_18 : decode cX10_world 18 = .ok (.iconst 1, 1) := by decide +kernel
theorem dX10_world_19 : decode cX10_world 19 = .ok (.goto 4, 3) := by decide +kernel
theorem dX10_world_22 : decode cX10_world 22 = .ok (.iconst 0, 1) := by decide +kernel
theorem dX10_world_23 : decode cX10_world 23 = .ok (.istore 7, 2) := by decide +kernel
theorem dX10_world_25 : decode cX10_world 25 = .ok (.iload 4, 2) := by decide +kernel
theorem dX10_world_27 : decode cX10_world 27 = .ok (.iconst 1, 1) := by decide +kernel
theorem dX10_world_28 : decode cX10_world 28 = .ok (.bipush 30, 2) := by decide +kernel
theorem dX10_world_30 : decode cX10_world 30 = .ok (.invokestatic 100, 3) := by decide +kernel
theorem dX10_world_33 : decode cX10_world 33 = .ok (.ifCond .eq 25, 3) := by decide +kernel
theorem dX10_world_36 : decode cX10_world 36 = .ok (.iload 4, 2) := by decide +kernel
theorem dX10_world_38 : decode cX10_world 38 = .ok (.iload_n 2, 1) := by decide +kernel
theorem dX10_world_39 : decode cX10_world 39 = .ok (.if_icmp .ge 19, 3) := by decide +kernel
theorem dX10_world_42 : decode cX10_world 42 = .ok (.iload 5, 2) := by decide +kernel
theorem dX10_world_44 : decode cX10_world 44 = .ok (.iconst 1, 1) := by decide +kernel
theorem dX10_world_45 : decode cX10_world 45 = .ok (.sipush 30000, 3) := by decide +kernel
theorem dX10_world_48 : decode cX10_world 48 = .ok (.invokestatic 100, 3) := by decide +kernel
theorem dX10_world_51 : decode cX10_world 51 = .ok (.ifCond .eq 7, 3) := by decide +kernel
theorem dX10_world_54 : decode cX10_world 54 = .ok (.iconst 1, 1) := by decide +kernel
theorem dX10_world_55 : decode cX10_world 55 = .ok (.goto 4, 3) := by decide +kernel
theorem dX10_world_58 : decode cX10_world 58 = .ok (.iconst 0, 1) := by decide +kernel
theorem dX10_world_59 : decode cX10_world 59 = .ok (.istore 8, 2) := by decide +kernel
theorem dX10_world_61 : decode cX10_world 61 = .ok (.aload_n 0, 1) := by decide +kernel
theorem dX10_world_62 : decode cX10_world 62 = .ok (.iload_n 1, 1) := by decide +kernel
theorem dX10_world_63 : decode cX10_world 63 = .ok (.invokevirtual 137, 3) := by decide +kernel
theorem dX10_world_66 : decode cX10_world 66 = .ok (.ifCond .eq 25, 3) := by decide +kernel
theorem dX10_world_91 : decode cX10_world 91 = .ok (.iconst (-1), 1) := by decide +kernel
theorem dX10_world_92 : decode cX10_world 92 = .ok (.ireturn, 1) := by decide +kernel
theorem dX11_alias_0 : decode cX11_alias 0 = .ok (.aload_n 0, 1) := by decide +kernel
theorem dX11_alias_1 : decode cX11_alias 1 = .ok (.iconst 1, 1) := by decide +kernel
theorem dX11_alias_2 : decode cX11_alias 2 = .ok (.iload_n 1, 1) := by decide +kernel
theorem dX11_alias_3 : decode cX11_alias 3 = .ok (.invokevirtual 366, 3) := by decide +kernel
theorem dX11_alias_6 : decode cX11_alias 6 = .ok (.ifCond .eq 23, 3) := by decide +kernel
theorem dX11_alias_29 : decode cX11_alias 29 = .ok (.ldc2_w 404, 3) := by decide +kernel
theorem dX11_alias_32 : decode cX11_alias 32 = .ok (.lreturn, 1) := by decide +kernel
theorem dX11_at_0 : decode cX11_at 0 = .ok (.aload_n 0, 1) := by decide +kernel
theorem dX11_at_1 : decode cX11_at 1 = .ok (.iload_n 1, 1) := by decide +kernel
theorem dX11_at_2 : decode cX11_at 2 = .ok (.invokevirtual 108, 3) := by decide +kernel
theorem dX11_at_5 : decode cX11_at 5 = .ok (.ifCond .eq 22, 3) := by decide +kernel
theorem dX11_at_27 : decode cX11_at 27 = .ok (.ldc 119, 2) := by decide +kernel
theorem dX11_at_29 : decode cX11_at 29 = .ok (.ireturn, 1) := by decide +kernel
theorem dX11_back_0 : decode cX11_back 0 = .ok (.iload_n 1, 1) := by decide +kernel
theorem dX11_back_1 : decode cX11_back 1 = .ok (.i2l, 1) := by decide +kernel
theorem dX11_back_2 : decode cX11_back 2 = .ok (.lconst 0, 1) := by decide +kernel
theorem dX11_back_3 : decode cX11_back 3 = .ok (.ldc2_w 573, 3) := by decide +kernel
theorem dX11_back_6 : decode cX11_back 6 = .ok (.invokestatic 99, 3) := by decide +kernel
theorem dX11_back_9 : decode cX11_back 9 = .ok (.ifCond .eq 12, 3) := by decide +kernel
theorem dX11_back_12 : decode cX11_back 12 = .ok (.aload_n 0, 1) := by decide +kernel
theorem dX11_back_13 : decode cX11_back 13 = .ok (.getfield 93, 3) := by decide +kernel
theorem dX11_back_16 : decode cX11_back 16 = .ok (.iload_n 1, 1) := by decide +kernel
theorem dX11_back_17 : decode cX11_back 17 = .ok (.baload, 1) := by decide +kernel
theorem dX11_back_18 : decode cX11_back 18 = .ok (.ifCond .ne 5, 3) := by decide +kernel
theorem dX11_back_21 : decode cX11_back 21 = .ok (.iconst (-1), 1) := by decide +kernel
theorem dX11_back_22 : decode cX11_back 22 = .ok (.ireturn, 1) := by decide +kernel
theorem dX11_bound_0 : decode cX11_bound 0 = .ok (.aload_n 0, 1) := by decide +kernel
theorem dX11_bound_1 : decode cX11_bound 1 = .ok (.iconst 1, 1) := by decide +kernel
theorem dX11_bound_2 : decode cX11_bound 2 = .ok (.iload_n 1, 1) := by decide +kernel
theorem dX11_bound_3 : decode cX11_bound 3 = .ok (.invokevirtual 366, 3) := by decide +kernel
theorem dX11_bound_6 : decode cX11_bound 6 = .ok (.ifCond .eq 15, 3) := by decide +kernel
theorem dX11_bound_21 : decode cX11_bound 21 = .ok (.iconst (-1), 1) := by decide +kernel
theorem dX11_bound_22 : decode cX11_bound 22 = .ok (.ireturn, 1) := by decide +kernel
theorem dX11_canWeigh_0 : decode cX11_canWeigh 0 = .ok (.aload_n 0, 1) := by decide +kernel
theorem dX11_canWeigh_1 : decode cX11_canWeigh 1 = .ok (.iconst 2, 1) := by decide +kernel
theorem dX11_canWeigh_2 : decode cX11_canWeigh 2 = .ok (.iload_n 1, 1) := by decide +kernel
theorem dX11_canWeigh_3 : decode cX11_canWeigh 3 = .ok (.invokevirtual 366, 3) := by decide +kernel
theorem dX11_canWeigh_6 : decode cX11_canWeigh 6 = .ok (.ifCond .eq 34, 3) := by decide +kernel
theorem dX11_canWeigh_40 : decode cX11_canWeigh 40 = .ok (.iconst 0, 1) := by decide +kernel
theorem dX11_canWeigh_41 : decode cX11_canWeigh 41 = .ok (.ireturn, 1) := by decide +kernel
theorem dX11_candidate_0 : decode cX11_candidate 0 = .ok (.aload_n 0, 1) := by decide +kernel
theorem dX11_candidate_1 : decode cX11_candidate 1 = .ok (.getfield 7, 3) := by decide +kernel
theorem dX11_candidate_4 : decode cX11_candidate 4 = .ok (.iconst 2, 1) := by decide +kernel
theorem dX11_candidate_5 : decode cX11_candidate 5 = .ok (.iaload, 1) := by decide +kernel
theorem dX11_candidate_6 : decode cX11_candidate 6 = .ok (.bipush 12, 2) := by decide +kernel
theorem dX11_candidate_8 : decode cX11_candidate 8 = .ok (.if_icmp .eq 35, 3) := by decide +kernel
theorem dX11_candidate_11 : decode cX11_candidate 11 = .ok (.aload_n 0, 1) := by decide +kernel
theorem dX11_candidate_12 : decode cX11_candidate 12 = .ok (.iload_n 1, 1) := by decide +kernel
theorem dX11_candidate_13 : decode cX11_candidate 13 = .ok (.invokevirtual 108, 3) := by decide +kernel
theorem dX11_candidate_16 : decode cX11_candidate 16 = .ok (.ifCond .eq 27, 3) := by decide +kernel
theorem dX11_candidate_43 : decode cX11_candidate 43 = .ok (.iconst (-1), 1) := by decide +kernel
theorem dX11_candidate_44 : decode cX11_candidate 44 = .ok (.ireturn, 1) := by decide +kernel
theorem dX11_catches_0 : decode cX11_catches 0 = .ok (.aload_n 0, 1) := by decide +kernel
theorem dX11_catches_1 : decode cX11_catches 1 = .ok (.iconst 1, 1) := by decide +kernel
theorem dX11_catches_2 : decode cX11_catches 2 = .ok (.iload_n 1, 1) := by decide +kernel
theorem dX11_catches_3 : decode cX11_catches 3 = .ok (.invokevirtual 366, 3) := by decide +kernel
theorem dX11_catches_6 : decode cX11_catches 6 = .ok (.ifCond .eq 11, 3) := by decide +kernel
theorem dX11_catches_17 : decode cX11_catches 17 = .ok (.iconst (-1), 1) := by decide +kernel
theorem dX11_catches_18 : decode cX11_catches 18 = .ok (.goto 17, 3) := by decide +kernel
theorem dX11_catches_35 : decode cX11_catches 35 = .ok (.ireturn, 1) := by decide +kernel
theorem dX11_chance_0 : decode cX11_chance 0 = .ok (.aload_n 0, 1) := by decide +kernel
theorem dX11_chance_1 : decode cX11_chance 1 = .ok (.iconst 1, 1) := by decide +kernel
theorem dX11_chance_2 : decode cX11_chance 2 = .ok (.iload_n 1, 1) := by decide +kernel
theorem dX11_chance_3 : decode cX11_chance 3 = .ok (.invokevirtual 366, 3) := by decide +kernel
theorem dX11_chance_6 : decode cX11_chance 6 = .ok (.ifCond .eq 27, 3) := by decide +kernel
theorem dX11_chance_33 : decode cX11_chance 33 = .ok (.iconst (-1), 1) := by decide +kernel
theorem dX11_chance_34 : decode cX11_chance 34 = .ok (.ireturn, 1) := by decide +kernel
theorem dX11_finest_0 : decode cX11_finest 0 = .ok (.iconst (-1), 1) := by decide +kernel
theorem dX11_finest_1 : decode cX11_finest 1 = .ok (.istore_n 1, 1) := by decide +kernel
theorem dX11_finest_2 : decode cX11_finest 2 = .ok (.iconst 0, 1) := by decide +kernel
theorem dX11_finest_3 : decode cX11_finest 3 = .ok (.istore_n 2, 1) := by decide +kernel
theorem dX11_finest_4 : decode cX11_finest 4 = .ok (.iconst 0, 1) := by decide +kernel
theorem dX11_finest_5 : decode cX11_finest 5 = .ok (.istore_n 3, 1) := by decide +kernel
theorem dX11_finest_6 : decode cX11_finest 6 = .ok (.iconst 0, 1) := by decide +kernel
theorem dX11_finest_7 : decode cX11_finest 7 = .ok (.istore 4, 2) := by decide +kernel
theorem dX11_finest_9 : decode cX11_finest 9 = .ok (.iload 4, 2) := by decide +kernel
theorem dX11_finest_11 : decode cX11_finest 11 = .ok (.aload_n 0, 1) := by decide +kernel
theorem dX11_finest_12 : decode cX11_finest 12 = .ok (.getfield 20, 3) := by decide +kernel
theorem dX11_finest_15 : decode cX11_finest 15 = .ok (.iconst 1, 1) := by decide +kernel
theorem dX11_finest_16 : decode cX11_finest 16 = .ok (.iaload, 1) := by decide +kernel
theorem dX11_finest_17 : decode cX11_finest 17 = .ok (.if_icmp .ge 105, 3) := by decide +kernel
theorem dX11_finest_122 : decode cX11_finest 122 = .ok (.iload_n 1, 1) := by decide +kernel
theorem dX11_finest_123 : decode cX11_finest 123 = .ok (.ireturn, 1) := by decide +kernel
theorem dX11_fold_0 : decode cX11_fold 0 = .ok (.aload_n 0, 1) := by decide +kernel
theorem dX11_fold_1 : decode cX11_fold 1 = .ok (.iload_n 1, 1) := by decide +kernel
theorem dX11_fold_2 : decode cX11_fold 2 = .ok (.invokevirtual 108, 3) := by decide +kernel
theorem dX11_fold_5 : decode cX11_fold 5 = .ok (.ifCond .eq 54, 3) := by decide +kernel
theorem dX11_fold_59 : decode cX11_fold 59 = .ok (.ldc2_w 567, 3) := by decide +kernel
theorem dX11_fold_62 : decode cX11_fold 62 = .ok (.lreturn, 1) := by decide +kernel
theorem dX11_found_0 : decode cX11_found 0 = .ok (.aload_n 0, 1) := by decide +kernel
theorem dX11_found_1 : decode cX11_found 1 = .ok (.iconst 1, 1) := by decide +kernel
theorem dX11_found_2 : decode cX11_found 2 = .ok (.iload_n 1, 1) := by decide +kernel
theorem dX11_found_3 : decode cX11_found 3 = .ok (.invokevirtual 366, 3) := by decide +kernel
theorem dX11_found_6 : decode cX11_found 6 = .ok (.ifCond .eq 36, 3) := by decide +kernel
theorem dX11_found_42 : decode cX11_found 42 = .ok (.ldc2_w 485, 3) := by decide +kernel
theorem dX11_found_45 : decode cX11_found 45 = .ok (.lreturn, 1) := by decide +kernel
theorem dX11_in_0 : decode cX11_in 0 = .ok (.lload_n 0, 1) := by decide +kernel
theorem dX11_in_1 : decode cX11_in 1 = .ok (.lload_n 2, 1) := by decide +kernel
theorem dX11_in_2 : decode cX11_in 2 = .ok (.lcmp, 1) := by decide +kernel
theorem dX11_in_3 : decode cX11_in 3 = .ok (.ifCond .lt 14, 3) := by decide +kernel
theorem dX11_in_6 : decode cX11_in 6 = .ok (.lload_n 0, 1) := by decide +kernel
theorem dX11_in_7 : decode cX11_in 7 = .ok (.lload 4, 2) := by decide +kernel
theorem dX11_in_9 : decode cX11_in 9 = .ok (.lcmp, 1) := by decide +kernel
theorem dX11_in_10 : decode cX11_in 10 = .ok (.ifCond .gt 7, 3) := by decide +kernel
theorem dX11_in_13 : decode cX11_in 13 = .ok (.iconst 1, 1) := by decide +kernel
theorem dX11_in_14 : decode cX11_in 14 = .ok (.goto 4, 3) := by decide +kernel
theorem dX11_in_17 : decode cX11_in 17 = .ok (.iconst 0, 1) := by decide +kernel
theorem dX11_in_18 : decode cX11_in 18 = .ok (.ireturn, 1) := by decide +kernel
theorem dX11_isHour_0 : decode cX11_isHour 0 = .ok (.iload_n 0, 1) := by decide +kernel
theorem dX11_isHour_1 : decode cX11_isHour 1 = .ok (.ifCond .lt 14, 3) := by decide +kernel
theorem dX11_isHour_4 : decode cX11_isHour 4 = .ok (.iload_n 0, 1) := by decide +kernel
theorem dX11_isHour_5 : decode cX11_isHour 5 = .ok (.sipush 600, 3) := by decide +kernel
theorem dX11_isHour_8 : decode cX11_isHour 8 = .ok (.if_icmp .ge 7, 3) := by decide +kernel
theorem dX11_isHour_11 : decode cX11_isHour 11 = .ok (.iconst 1, 1) := by decide +kernel
theorem dX11_isHour_12 : decode cX11_isHour 12 = .ok (.goto 4, 3) := by decide +kernel
theorem dX11_isHour_15 : decode cX11_isHour 15 = .ok (.iconst 0, 1) := by decide +kernel
theorem dX11_isHour_16 : decode cX11_isHour 16 = .ok (.ireturn, 1) := by decide +kernel
theorem dX11_isStar_0 : decode cX11_isStar 0 = .ok (.iload_n 1, 1) := by decide +kernel
theorem dX11_isStar_1 : decode cX11_isStar 1 = .ok (.ifCond .lt 17, 3) := by decide +kernel
theorem dX11_isStar_4 : decode cX11_isStar 4 = .ok (.iload_n 1, 1) := by decide +kernel
theorem dX11_isStar_5 : decode cX11_isStar 5 = .ok (.aload_n 0, 1) := by decide +kernel
theorem dX11_isStar_6 : decode cX11_isStar 6 = .ok (.getfield 7, 3) := by decide +kernel
theorem dX11_isStar_9 : decode cX11_isStar 9 = .ok (.iconst 0, 1) := by decide +kernel
theorem dX11_isStar_10 : decode cX11_isStar 10 = .ok (.iaload, 1) := by decide +kernel
theorem dX11_isStar_11 : decode cX11_isStar 11 = .ok (.if_icmp .ge 7, 3) := by decide +kernel
theorem dX11_isStar_18 : decode cX11_isStar 18 = .ok (.iconst 0, 1) := by decide +kernel
theorem dX11_isStar_19 : decode cX11_isStar 19 = .ok (.ireturn, 1) := by decide +kernel
theorem dX11_isText_0 : decode cX11_isText 0 = .ok (.iload_n 2, 1) := by decide +kernel
theorem dX11_isText_1 : decode cX11_isText 1 = .ok (.ifCond .lt 17, 3) := by decide +kernel
theorem dX11_isText_4 : decode cX11_isText 4 = .ok (.iload_n 2, 1) := by decide +kernel
theorem dX11_isText_5 : decode cX11_isText 5 = .ok (.aload_n 0, 1) := by decide +kernel
theorem dX11_isText_6 : decode cX11_isText 6 = .ok (.getfield 20, 3) := by decide +kernel
theorem dX11_isText_9 : decode cX11_isText 9 = .ok (.iload_n 1, 1) := by decide +kernel
theorem dX11_isText_10 : decode cX11_isText 10 = .ok (.iaload, 1) := by decide +kernel
theorem dX11_isText_11 : decode cX11_isText 11 = .ok (.if_icmp .ge 7, 3) := by decide +kernel
theorem dX11_isText_18 : decode cX11_isText 18 = .ok (.iconst 0, 1) := by decide +kernel
theorem dX11_isText_19 : decode cX11_isText 19 = .ok (.ireturn, 1) := by decide +kernel
theorem dX11_line_0 : decode cX11_line 0 = .ok (.aload_n 0, 1) := by decide +kernel
theorem dX11_line_1 : decode cX11_line 1 = .ok (.iconst 1, 1) := by decide +kernel
theorem dX11_line_2 : decode cX11_line 2 = .ok (.iload_n 1, 1) := by decide +kernel
theorem dX11_line_3 : decode cX11_line 3 = .ok (.invokevirtual 366, 3) := by decide +kernel
theorem dX11_line_6 : decode cX11_line 6 = .ok (.ifCond .eq 51, 3) := by decide +kernel
theorem dX11_line_57 : decode cX11_line 57 = .ok (.iconst (-1), 1) := by decide +kernel
theorem dX11_line_58 : decode cX11_line 58 = .ok (.ireturn, 1) := by decide +kernel
theorem dX11_make_0 : decode cX11_make 0 = .ok (.aload_n 0, 1) := by decide +kernel
theorem dX11_make_1 : decode cX11_make 1 = .ok (.iconst 0, 1) := by decide +kernel
theorem dX11_make_2 : decode cX11_make 2 = .ok (.iload_n 1, 1) := by decide +kernel
theorem dX11_make_3 : decode cX11_make 3 = .ok (.invokevirtual 366, 3) := by decide +kernel
theorem dX11_make_6 : decode cX11_make 6 = .ok (.ifCond .eq 38, 3) := by decide +kernel
theorem dX11_make_44 : decode cX11_make 44 = .ok (.iconst (-1), 1) := by decide +kernel
theorem dX11_make_45 : decode cX11_make 45 = .ok (.ireturn, 1) := by decide +kernel
theorem dX11_many_0 : decode cX11_many 0 = .ok (.aload_n 0, 1) := by decide +kernel
theorem dX11_many_1 : decode cX11_many 1 = .ok (.iconst 1, 1) := by decide +kernel
theorem dX11_many_2 : decode cX11_many 2 = .ok (.iload_n 1, 1) := by decide +kernel
theorem dX11_many_3 : decode cX11_many 3 = .ok (.invokevirtual 366, 3) := by decide +kernel
theorem dX11_many_6 : decode cX11_many 6 = .ok (.ifCond .eq 33, 3) := by decide +kernel
theorem dX11_many_39 : decode cX11_many 39 = .ok (.iconst (-1), 1) := by decide +kernel
theorem dX11_many_40 : decode cX11_many 40 = .ok (.ireturn, 1) := by decide +kernel
theorem dX11_next_0 : decode cX11_next 0 = .ok (.aload_n 0, 1) := by decide +kernel
theorem dX11_next_1 : decode cX11_next 1 = .ok (.iconst 1, 1) := by decide +kernel
theorem dX11_next_2 : decode cX11_next 2 = .ok (.iload_n 1, 1) := by decide +kernel
theorem dX11_next_3 : decode cX11_next 3 = .ok (.invokevirtual 366, 3) := by decide +kernel
theorem dX11_next_6 : decode cX11_next 6 = .ok (.ifCond .eq 23, 3) := by decide +kernel
theorem dX11_next_29 : decode cX11_next 29 = .ok (.iconst (-1), 1) := by decide +kernel
theorem dX11_next_30 : decode cX11_next 30 = .ok (.ireturn, 1) := by decide +kernel
theorem dX11_odds_0 : decode cX11_odds 0 = .ok (.iload 4, 2) := by decide +kernel
theorem dX11_odds_2 : decode cX11_odds 2 = .ok (.i2l, 1) := by decide +kernel
theorem dX11_odds_3 : decode cX11_odds 3 = .ok (.lconst 0, 1) := by decide +kernel
theorem dX11_odds_4 : decode cX11_odds 4 = .ok (.ldc2_w 422, 3) := by decide +kernel
theorem dX11_odds_7 : decode cX11_odds 7 = .ok (.invokestatic 99, 3) := by decide +kernel
theorem dX11_odds_10 : decode cX11_odds 10 = .ok (.ifCond .eq 24, 3) := by decide +kernel
theorem dX11_odds_13 : decode cX11_odds 13 = .ok (.iload 5, 2) := by decide +kernel
theorem dX11_odds_15 : decode cX11_odds 15 = .ok (.i2l, 1) := by decide +kernel
theorem dX11_odds_16 : decode cX11_odds 16 = .ok (.lconst 0, 1) := by decide +kernel
theorem dX11_odds_17 : decode cX11_odds 17 = .ok (.lconst 1, 1) := by decide +kernel
theorem dX11_odds_18 : decode cX11_odds 18 = .ok (.invokestatic 99, 3) := by decide +kernel
theorem dX11_odds_21 : decode cX11_odds 21 = .ok (.ifCond .eq 13, 3) := by decide +kernel
theorem dX11_odds_24 : decode cX11_odds 24 = .ok (.aload_n 0, 1) := by decide +kernel
theorem dX11_odds_25 : decode cX11_odds 25 = .ok (.iload_n 1, 1) := by decide +kernel
theorem dX11_odds_26 : decode cX11_odds 26 = .ok (.iload_n 2, 1) := by decide +kernel
theorem dX11_odds_27 : decode cX11_odds 27 = .ok (.iload_n 3, 1) := by decide +kernel
theorem dX11_odds_28 : decode cX11_odds 28 = .ok (.invokevirtual 546, 3) := by decide +kernel
theorem dX11_odds_31 : decode cX11_odds 31 = .ok (.ifCond .ne 5, 3) := by decide +kernel
theorem dX11_odds_34 : decode cX11_odds 34 = .ok (.iconst (-1), 1) := by decide +kernel
theorem dX11_odds_35 : decode cX11_odds 35 = .ok (.ireturn, 1) := by decide +kernel
theorem dX11_other_0 : decode cX11_other 0 = .ok (.aload_n 0, 1) := by decide +kernel
theorem dX11_other_1 : decode cX11_other 1 = .ok (.iconst 1, 1) := by decide +kernel
theorem dX11_other_2 : decode cX11_other 2 = .ok (.iload_n 1, 1) := by decide +kernel
theorem dX11_other_3 : decode cX11_other 3 = .ok (.invokevirtual 366, 3) := by decide +kernel
theorem dX11_other_6 : decode cX11_other 6 = .ok (.ifCond .eq 21, 3) := by decide +kernel
theorem dX11_other_27 : decode cX11_other 27 = .ok (.bipush (-3), 2) := by decide +kernel
theorem dX11_other_29 : decode cX11_other 29 = .ok (.ireturn, 1) := by decide +kernel
theorem dX11_radius_0 : decode cX11_radius 0 = .ok (.aload_n 0, 1) := by decide +kernel
theorem dX11_radius_1 : decode cX11_radius 1 = .ok (.iconst 1, 1) := by decide +kernel
theorem dX11_radius_2 : decode cX11_radius 2 = .ok (.iload_n 1, 1) := by decide +kernel
theorem dX11_radius_3 : decode cX11_radius 3 = .ok (.invokevirtual 366, 3) := by decide +kernel
theorem dX11_radius_6 : decode cX11_radius 6 = .ok (.ifCond .eq 11, 3) := by decide +kernel
theorem dX11_radius_17 : decode cX11_radius 17 = .ok (.iconst (-1), 1) := by decide +kernel
theorem dX11_radius_18 : decode cX11_radius 18 = .ok (.ireturn, 1) := by decide +kernel
theorem dX11_resize_0 : decode cX11_resize 0 = .ok (.aload_n 0, 1) := by decide +kernel
theorem dX11_resize_1 : decode cX11_resize 1 = .ok (.iload_n 1, 1) := by decide +kernel
theorem dX11_resize_2 : decode cX11_resize 2 = .ok (.invokevirtual 108, 3) := by decide +kernel
theorem dX11_resize_5 : decode cX11_resize 5 = .ok (.ifCond .eq 15, 3) := by decide +kernel
theorem dX11_resize_20 : decode cX11_resize 20 = .ok (.iconst (-1), 1) := by decide +kernel
theorem dX11_resize_21 : decode cX11_resize 21 = .ok (.ireturn, 1) := by decide +kernel
theorem dX11_room_0 : decode cX11_room 0 = .ok (.aload_n 0, 1) := by decide +kernel
theorem dX11_room_1 : decode cX11_room 1 = .ok (.iconst 1, 1) := by decide +kernel
theorem dX11_room_2 : decode cX11_room 2 = .ok (.iload_n 1, 1) := by decide +kernel
theorem dX11_room_3 : decode cX11_room 3 = .ok (.invokevirtual 366, 3) := by decide +kernel
theorem dX11_room_6 : decode cX11_room 6 = .ok (.ifCond .eq 51, 3) := by decide +kernel
theorem dX11_room_57 : decode cX11_room 57 = .ok (.iconst (-1), 1) := by decide +kernel
theorem dX11_room_58 : decode cX11_room 58 = .ok (.ireturn, 1) := by decide +kernel
theorem dX11_row_0 : decode cX11_row 0 = .ok (.aload_n 0, 1) := by decide +kernel
theorem dX11_row_1 : decode cX11_row 1 = .ok (.iload_n 1, 1) := by decide +kernel
theorem dX11_row_2 : decode cX11_row 2 = .ok (.invokevirtual 108, 3) := by decide +kernel
theorem dX11_row_5 : decode cX11_row 5 = .ok (.ifCond .eq 30, 3) := by decide +kernel
theorem dX11_row_35 : decode cX11_row 35 = .ok (.ldc 119, 2) := by decide +kernel
theorem dX11_row_37 : decode cX11_row 37 = .ok (.ireturn, 1) := by decide +kernel
theorem dX11_second_0 : decode cX11_second 0 = .ok (.aload_n 0, 1) := by decide +kernel
theorem dX11_second_1 : decode cX11_second 1 = .ok (.iconst 1, 1) := by decide +kernel
theorem dX11_second_2 : decode cX11_second 2 = .ok (.iload_n 1, 1) := by decide +kernel
theorem dX11_second_3 : decode cX11_second 3 = .ok (.invokevirtual 366, 3) := by decide +kernel
theorem dX11_second_6 : decode cX11_second 6 = .ok (.ifCond .eq 33, 3) := by decide +kernel
theorem dX11_second_39 : decode cX11_second 39 = .ok (.ldc2_w 485, 3) := by decide +kernel
theorem dX11_second_42 : decode cX11_second 42 = .ok (.lreturn, 1) := by decide +kernel
theorem dX11_share_0 : decode cX11_share 0 = .ok (.aload_n 0, 1) := by decide +kernel
theorem dX11_share_1 : decode cX11_share 1 = .ok (.iconst 1, 1) := by decide +kernel
theorem dX11_share_2 : decode cX11_share 2 = .ok (.iload_n 1, 1) := by decide +kernel
theorem dX11_share_3 : decode cX11_share 3 = .ok (.invokevirtual 366, 3) := by decide +kernel
theorem dX11_share_6 : decode cX11_share 6 = .ok (.ifCond .eq 13, 3) := by decide +kernel
theorem dX11_share_19 : decode cX11_share 19 = .ok (.iconst (-1), 1) := by decide +kernel
theorem dX11_share_20 : decode cX11_share 20 = .ok (.ireturn, 1) := by decide +kernel
theorem dX11_shift_0 : decode cX11_shift 0 = .ok (.aload_n 0, 1) := by decide +kernel
theorem dX11_shift_1 : decode cX11_shift 1 = .ok (.iconst 1, 1) := by decide +kernel
theorem dX11_shift_2 : decode cX11_shift 2 = .ok (.iload_n 1, 1) := by decide +kernel
theorem dX11_shift_3 : decode cX11_shift 3 = .ok (.invokevirtual 366, 3) := by decide +kernel
theorem dX11_shift_6 : decode cX11_shift 6 = .ok (.ifCond .eq 43, 3) := by decide +kernel
theorem dX11_shift_49 : decode cX11_shift 49 = .ok (.sipush (-200), 3) := by decide +kernel
theorem dX11_shift_52 : decode cX11_shift 52 = .ok (.ireturn, 1) := by decide +kernel
theorem dX11_sign_0 : decode cX11_sign 0 = .ok (.aload_n 0, 1) := by decide +kernel
theorem dX11_sign_1 : decode cX11_sign 1 = .ok (.iconst 1, 1) := by decide +kernel
theorem dX11_sign_2 : decode cX11_sign 2 = .ok (.iload_n 1, 1) := by decide +kernel
theorem dX11_sign_3 : decode cX11_sign 3 = .ok (.invokevirtual 366, 3) := by decide +kernel
theorem dX11_sign_6 : decode cX11_sign 6 = .ok (.ifCond .eq 33, 3) := by decide +kernel
theorem dX11_sign_39 : decode cX11_sign 39 = .ok (.ldc 119, 2) := by decide +kernel
theorem dX11_sign_41 : decode cX11_sign 41 = .ok (.ireturn, 1) := by decide +kernel
theorem dX11_sorted_0 : decode cX11_sorted 0 = .ok (.aload_n 0, 1) := by decide +kernel
theorem dX11_sorted_1 : decode cX11_sorted 1 = .ok (.iload_n 1, 1) := by decide +kernel
theorem dX11_sorted_2 : decode cX11_sorted 2 = .ok (.iload_n 2, 1) := by decide +kernel
theorem dX11_sorted_3 : decode cX11_sorted 3 = .ok (.iload_n 3, 1) := by decide +kernel
theorem dX11_sorted_4 : decode cX11_sorted 4 = .ok (.invokevirtual 546, 3) := by decide +kernel
theorem dX11_sorted_7 : decode cX11_sorted 7 = .ok (.ifCond .eq 10, 3) := by decide +kernel
theorem dX11_sorted_17 : decode cX11_sorted 17 = .ok (.iconst (-1), 1) := by decide +kernel
theorem dX11_sorted_18 : decode cX11_sorted 18 = .ok (.ireturn, 1) := by decide +kernel
theorem dX11_spread_0 : decode cX11_spread 0 = .ok (.aload_n 0, 1) := by decide +kernel
theorem dX11_spread_1 : decode cX11_spread 1 = .ok (.iload_n 1, 1) := by decide +kernel
theorem dX11_spread_2 : decode cX11_spread 2 = .ok (.invokevirtual 108, 3) := by decide +kernel
theorem dX11_spread_5 : decode cX11_spread 5 = .ok (.ifCond .ne 7, 3) := by decide +kernel
theorem dX11_spread_8 : decode cX11_spread 8 = .ok (.ldc2_w 404, 3) := by decide +kernel
theorem dX11_spread_11 : decode cX11_spread 11 = .ok (.lreturn, 1) := by decide +kernel
theorem dX11_tried_0 : decode cX11_tried 0 = .ok (.aload_n 0, 1) := by decide +kernel
theorem dX11_tried_1 : decode cX11_tried 1 = .ok (.iload_n 1, 1) := by decide +kernel
theorem dX11_tried_2 : decode cX11_tried 2 = .ok (.invokevirtual 108, 3) := by decide +kernel
theorem dX11_tried_5 : decode cX11_tried 5 = .ok (.ifCond .eq 75, 3) := by decide +kernel
theorem dX11_tried_80 : decode cX11_tried 80 = .ok (.ldc2_w 424, 3) := by decide +kernel
theorem dX11_tried_83 : decode cX11_tried 83 = .ok (.lreturn, 1) := by decide +kernel
theorem dX11_truly_0 : decode cX11_truly 0 = .ok (.aload_n 0, 1) := by decide +kernel
theorem dX11_truly_1 : decode cX11_truly 1 = .ok (.iconst 1, 1) := by decide +kernel
theorem dX11_truly_2 : decode cX11_truly 2 = .ok (.iload_n 1, 1) := by decide +kernel
theorem dX11_truly_3 : decode cX11_truly 3 = .ok (.invokevirtual 366, 3) := by decide +kernel
theorem dX11_truly_6 : decode cX11_truly 6 = .ok (.ifCond .eq 12, 3) := by decide +kernel
theorem dX11_truly_18 : decode cX11_truly 18 = .ok (.ldc2_w 404, 3) := by decide +kernel
theorem dX11_truly_21 : decode cX11_truly 21 = .ok (.lreturn, 1) := by decide +kernel
theorem dX11_weight_0 : decode cX11_weight 0 = .ok (.iload 4, 2) := by decide +kernel
theorem dX11_weight_2 : decode cX11_weight 2 = .ok (.i2l, 1) := by decide +kernel
theorem dX11_weight_3 : decode cX11_weight 3 = .ok (.lconst 0, 1) := by decide +kernel
theorem dX11_weight_4 : decode cX11_weight 4 = .ok (.ldc2_w 422, 3) := by decide +kernel
theorem dX11_weight_7 : decode cX11_weight 7 = .ok (.invokestatic 99, 3) := by decide +kernel
theorem dX11_weight_10 : decode cX11_weight 10 = .ok (.ifCond .eq 23, 3) := by decide +kernel
theorem dX11_weight_13 : decode cX11_weight 13 = .ok (.aload_n 0, 1) := by decide +kernel
theorem dX11_weight_14 : decode cX11_weight 14 = .ok (.iload_n 1, 1) := by decide +kernel
theorem dX11_weight_15 : decode cX11_weight 15 = .ok (.iload_n 2, 1) := by decide +kernel
theorem dX11_weight_16 : decode cX11_weight 16 = .ok (.iload_n 3, 1) := by decide +kernel
theorem dX11_weight_17 : decode cX11_weight 17 = .ok (.invokevirtual 546, 3) := by decide +kernel
theorem dX11_weight_20 : decode cX11_weight 20 = .ok (.ifCond .eq 13, 3) := by decide +kernel
theorem dX11_weight_33 : decode cX11_weight 33 = .ok (.iconst (-1), 1) := by decide +kernel
theorem dX11_weight_34 : decode cX11_weight 34 = .ok (.ireturn, 1) := by decide +kernel
theorem dX11_world_0 : decode cX11_world 0 = .ok (.aload_n 0, 1) := by decide +kernel
theorem dX11_world_1 : decode cX11_world 1 = .ok (.getfield 7, 3) := by decide +kernel
theorem dX11_world_4 : decode cX11_world 4 = .ok (.iconst 1, 1) := by decide +kernel
theorem dX11_world_5 : decode cX11_world 5 = .ok (.iaload, 1) := by decide +kernel
theorem dX11_world_6 : decode cX11_world 6 = .ok (.bipush 40, 2) := by decide +kernel
theorem dX11_world_8 : decode cX11_world 8 = .ok (.if_icmp .eq 69, 3) := by decide +kernel
theorem dX11_world_11 : decode cX11_world 11 = .ok (.aload_n 0, 1) := by decide +kernel
theorem dX11_world_12 : decode cX11_world 12 = .ok (.iload_n 1, 1) := by decide +kernel
theorem dX11_world_13 : decode cX11_world 13 = .ok (.invokevirtual 108, 3) := by decide +kernel
theorem dX11_world_16 : decode cX11_world 16 = .ok (.ifCond .eq 61, 3) := by decide +kernel
theorem dX11_world_77 : decode cX11_world 77 = .ok (.iconst (-1), 1) := by decide +kernel
theorem dX11_world_78 : decode cX11_world 78 = .ok (.ireturn, 1) := by decide +kernel
theorem dX6_numbers_0 : decode cX6_numbers 0 = .ok (.iconst 0, 1) := by decide +kernel
theorem dX6_numbers_1 : decode cX6_numbers 1 = .ok (.istore_n 1, 1) := by decide +kernel
theorem dX6_numbers_2 : decode cX6_numbers 2 = .ok (.iconst 0, 1) := by decide +kernel
theorem dX6_numbers_3 : decode cX6_numbers 3 = .ok (.istore_n 2, 1) := by decide +kernel
theorem dX6_numbers_4 : decode cX6_numbers 4 = .ok (.iload_n 2, 1) := by decide +kernel
theorem dX6_numbers_5 : decode cX6_numbers 5 = .ok (.aload_n 0, 1) := by decide +kernel
theorem dX6_numbers_6 : decode cX6_numbers 6 = .ok (.getfield 44, 3) := by decide +kernel
theorem dX6_numbers_9 : decode cX6_numbers 9 = .ok (.if_icmp .ge 30, 3) := by decide +kernel
theorem dX6_numbers_39 : decode cX6_numbers 39 = .ok (.iload_n 1, 1) := by decide +kernel
theorem dX6_numbers_40 : decode cX6_numbers 40 = .ok (.ireturn, 1) := by decide +kernel
theorem dX6_starAt_0 : decode cX6_starAt 0 = .ok (.iload_n 1, 1) := by decide +kernel
theorem dX6_starAt_1 : decode cX6_starAt 1 = .ok (.ifCond .lt 26, 3) := by decide +kernel
theorem dX6_starAt_4 : decode cX6_starAt 4 = .ok (.iload_n 1, 1) := by decide +kernel
theorem dX6_starAt_5 : decode cX6_starAt 5 = .ok (.aload_n 0, 1) := by decide +kernel
theorem dX6_starAt_6 : decode cX6_starAt 6 = .ok (.getfield 44, 3) := by decide +kernel
theorem dX6_starAt_9 : decode cX6_starAt 9 = .ok (.if_icmp .ge 18, 3) := by decide +kernel
theorem dX6_starAt_27 : decode cX6_starAt 27 = .ok (.aconst_null, 1) := by decide +kernel
theorem dX6_starAt_28 : decode cX6_starAt 28 = .ok (.areturn, 1) := by decide +kernel
theorem dX6_worldAt_0 : decode cX6_worldAt 0 = .ok (.iload_n 1, 1) := by decide +kernel
theorem dX6_worldAt_1 : decode cX6_worldAt 1 = .ok (.ifCond .lt 26, 3) := by decide +kernel
theorem dX6_worldAt_4 : decode cX6_worldAt 4 = .ok (.iload_n 1, 1) := by decide +kernel
theorem dX6_worldAt_5 : decode cX6_worldAt 5 = .ok (.aload_n 0, 1) := by decide +kernel
theorem dX6_worldAt_6 : decode cX6_worldAt 6 = .ok (.getfield 47, 3) := by decide +kernel
theorem dX6_worldAt_9 : decode cX6_worldAt 9 = .ok (.if_icmp .ge 18, 3) := by decide +kernel
theorem dX6_worldAt_27 : decode cX6_worldAt 27 = .ok (.aconst_null, 1) := by decide +kernel
theorem dX6_worldAt_28 : decode cX6_worldAt 28 = .ok (.areturn, 1) := by decide +kernel
