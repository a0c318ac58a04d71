theorem dX10_make_11 : decode cX10_make 11 = .ok (.iload_n 2, 1) := by decide +kernel
theorem dX10_make_12 : decode cX10_make 12 = .ok (.invokevirtual 108, 3) := by decide +kernel
theorem dX10_make_15 : decode cX10_make 15 = .ok (.astore 7, 2) := by decide +kernel
theorem dX10_make_17 : decode cX10_make 17 = .ok (.aload 6, 2) := by decide +kernel
theorem dX10_make_19 : decode cX10_make 19 = .ok (.ifnull 35, 3) := by decide +kernel
theorem dX10_make_54 : decode cX10_make 54 = .ok (.iconst (-1), 1) := by decide +kernel
theorem dX10_make_55 : decode cX10_make 55 = .ok (.ireturn, 1) := by decide +kernel
theorem dX10_many_0 : decode cX10_many 0 = .ok (.aload_n 0, 1) := by decide +kernel
theorem dX10_many_1 : decode cX10_many 1 = .ok (.iload_n 1, 1) := by decide +kernel
theorem dX10_many_2 : decode cX10_many 2 = .ok (.invokevirtual 259, 3) := by decide +kernel
theorem dX10_many_5 : decode cX10_many 5 = .ok (.astore 6, 2) := by decide +kernel
theorem dX10_many_7 : decode cX10_many 7 = .ok (.iload_n 3, 1) := by decide +kernel
theorem dX10_many_8 : decode cX10_many 8 = .ok (.ifCond .lt 23, 3) := by decide +kernel
theorem dX10_many_11 : decode cX10_many 11 = .ok (.iload_n 3, 1) := by decide +kernel
theorem dX10_many_12 : decode cX10_many 12 = .ok (.iload 4, 2) := by decide +kernel
theorem dX10_many_14 : decode cX10_many 14 = .ok (.if_icmp .gt 17, 3) := by decide +kernel
theorem dX10_many_17 : decode cX10_many 17 = .ok (.iload 5, 2) := by decide +kernel
theorem dX10_many_19 : decode cX10_many 19 = .ok (.iconst 0, 1) := by decide +kernel
theorem dX10_many_20 : decode cX10_many 20 = .ok (.iconst 1, 1) := by decide +kernel
theorem dX10_many_21 : decode cX10_many 21 = .ok (.invokestatic 100, 3) := by decide +kernel
theorem dX10_many_24 : decode cX10_many 24 = .ok (.ifCond .eq 7, 3) := by decide +kernel
theorem dX10_many_27 : decode cX10_many 27 = .ok (.iconst 1, 1) := by decide +kernel
theorem dX10_many_28 : decode cX10_many 28 = .ok (.goto 4, 3) := by decide +kernel
theorem dX10_many_31 : decode cX10_many 31 = .ok (.iconst 0, 1) := by decide +kernel
theorem dX10_many_32 : decode cX10_many 32 = .ok (.istore 7, 2) := by decide +kernel
theorem dX10_many_34 : decode cX10_many 34 = .ok (.aload 6, 2) := by decide +kernel
theorem dX10_many_36 : decode cX10_many 36 = .ok (.ifnull 16, 3) := by decide +kernel
theorem dX10_many_52 : decode cX10_many 52 = .ok (.iconst (-1), 1) := by decide +kernel
theorem dX10_many_53 : decode cX10_many 53 = .ok (.ireturn, 1) := by decide +kernel
theorem dX10_mask_0 : decode cX10_mask 0 = .ok (.iload_n 1, 1) := by decide +kernel
theorem dX10_mask_1 : decode cX10_mask 1 = .ok (.iconst 0, 1) := by decide +kernel
theorem dX10_mask_2 : decode cX10_mask 2 = .ok (.bipush 7, 2) := by decide +kernel
theorem dX10_mask_4 : decode cX10_mask 4 = .ok (.invokestatic 100, 3) := by decide +kernel
theorem dX10_mask_7 : decode cX10_mask 7 = .ok (.ifCond .eq 24, 3) := by decide +kernel
theorem dX10_mask_10 : decode cX10_mask 10 = .ok (.iload_n 2, 1) := by decide +kernel
theorem dX10_mask_11 : decode cX10_mask 11 = .ok (.iconst 0, 1) := by decide +kernel
theorem dX10_mask_12 : decode cX10_mask 12 = .ok (.bipush 12, 2) := by decide +kernel
theorem dX10_mask_14 : decode cX10_mask 14 = .ok (.invokestatic 100, 3) := by decide +kernel
theorem dX10_mask_17 : decode cX10_mask 17 = .ok (.ifCond .eq 14, 3) := by decide +kernel
theorem dX10_mask_20 : decode cX10_mask 20 = .ok (.iload_n 3, 1) := by decide +kernel
theorem dX10_mask_21 : decode cX10_mask 21 = .ok (.iconst 0, 1) := by decide +kernel
theorem dX10_mask_22 : decode cX10_mask 22 = .ok (.sipush 30000, 3) := by decide +kernel
theorem dX10_mask_25 : decode cX10_mask 25 = .ok (.invokestatic 100, 3) := by decide +kernel
theorem dX10_mask_28 : decode cX10_mask 28 = .ok (.ifCond .ne 5, 3) := by decide +kernel
theorem dX10_mask_31 : decode cX10_mask 31 = .ok (.iconst 0, 1) := by decide +kernel
theorem dX10_mask_32 : decode cX10_mask 32 = .ok (.ireturn, 1) := by decide +kernel
theorem dX10_mask_33 : decode cX10_mask 33 = .ok (.aload_n 0, 1) := by decide +kernel
theorem dX10_mask_34 : decode cX10_mask 34 = .ok (.getfield 10, 3) := by decide +kernel
theorem dX10_mask_37 : decode cX10_mask 37 = .ok (.getfield 128, 3) := by decide +kernel
theorem dX10_mask_40 : decode cX10_mask 40 = .ok (.iload_n 1, 1) := by decide +kernel
theorem dX10_mask_41 : decode cX10_mask 41 = .ok (.iload_n 2, 1) := by decide +kernel
theorem dX10_mask_42 : decode cX10_mask 42 = .ok (.iastore, 1) := by decide +kernel
theorem dX10_mask_43 : decode cX10_mask 43 = .ok (.aload_n 0, 1) := by decide +kernel
theorem dX10_mask_44 : decode cX10_mask 44 = .ok (.getfield 10, 3) := by decide +kernel
theorem dX10_mask_47 : decode cX10_mask 47 = .ok (.getfield 131, 3) := by decide +kernel
theorem dX10_mask_50 : decode cX10_mask 50 = .ok (.iload_n 1, 1) := by decide +kernel
theorem dX10_mask_51 : decode cX10_mask 51 = .ok (.iload_n 3, 1) := by decide +kernel
theorem dX10_mask_52 : decode cX10_mask 52 = .ok (.iastore, 1) := by decide +kernel
theorem dX10_mask_53 : decode cX10_mask 53 = .ok (.aload_n 0, 1) := by decide +kernel
theorem dX10_mask_54 : decode cX10_mask 54 = .ok (.dup, 1) := by decide +kernel
theorem dX10_mask_55 : decode cX10_mask 55 = .ok (.getfield 84, 3) := by decide +kernel
theorem dX10_mask_58 : decode cX10_mask 58 = .ok (.iconst 1, 1) := by decide +kernel
theorem dX10_mask_59 : decode cX10_mask 59 = .ok (.iadd, 1) := by decide +kernel
theorem dX10_mask_60 : decode cX10_mask 60 = .ok (.putfield 84, 3) := by decide +kernel
theorem dX10_mask_63 : decode cX10_mask 63 = .ok (.iconst 1, 1) := by decide +kernel
theorem dX10_mask_64 : decode cX10_mask 64 = .ok (.ireturn, 1) := by decide +kernel
theorem dX10_next_0 : decode cX10_next 0 = .ok (.aload_n 0, 1) := by decide +kernel
theorem dX10_next_1 : decode cX10_next 1 = .ok (.iload_n 1, 1) := by decide +kernel
theorem dX10_next_2 : decode cX10_next 2 = .ok (.invokevirtual 259, 3) := by decide +kernel
theorem dX10_next_5 : decode cX10_next 5 = .ok (.ifnull 22, 3) := by decide +kernel
theorem dX10_next_27 : decode cX10_next 27 = .ok (.iconst (-1), 1) := by decide +kernel
theorem dX10_next_28 : decode cX10_next 28 = .ok (.ireturn, 1) := by decide +kernel
theorem dX10_nights_0 : decode cX10_nights 0 = .ok (.iload_n 1, 1) := by decide +kernel
theorem dX10_nights_1 : decode cX10_nights 1 = .ok (.iconst 0, 1) := by decide +kernel
theorem dX10_nights_2 : decode cX10_nights 2 = .ok (.sipush 9999, 3) := by decide +kernel
theorem dX10_nights_5 : decode cX10_nights 5 = .ok (.invokestatic 100, 3) := by decide +kernel
theorem dX10_nights_8 : decode cX10_nights 8 = .ok (.ifCond .eq 12, 3) := by decide +kernel
theorem dX10_nights_11 : decode cX10_nights 11 = .ok (.iload_n 2, 1) := by decide +kernel
theorem dX10_nights_12 : decode cX10_nights 12 = .ok (.iconst 0, 1) := by decide +kernel
theorem dX10_nights_13 : decode cX10_nights 13 = .ok (.iconst 1, 1) := by decide +kernel
theorem dX10_nights_14 : decode cX10_nights 14 = .ok (.invokestatic 100, 3) := by decide +kernel
theorem dX10_nights_17 : decode cX10_nights 17 = .ok (.ifCond .ne 5, 3) := by decide +kernel
theorem dX10_nights_20 : decode cX10_nights 20 = .ok (.iconst (-1), 1) := by decide +kernel
theorem dX10_nights_21 : decode cX10_nights 21 = .ok (.ireturn, 1) := by decide +kernel
theorem dX10_nights_22 : decode cX10_nights 22 = .ok (.iconst 0, 1) := by decide +kernel
theorem dX10_nights_23 : decode cX10_nights 23 = .ok (.istore_n 3, 1) := by decide +kernel
theorem dX10_nights_24 : decode cX10_nights 24 = .ok (.iconst 0, 1) := by decide +kernel
theorem dX10_nights_25 : decode cX10_nights 25 = .ok (.istore 4, 2) := by decide +kernel
theorem dX10_nights_27 : decode cX10_nights 27 = .ok (.iconst 0, 1) := by decide +kernel
theorem dX10_nights_28 : decode cX10_nights 28 = .ok (.istore 5, 2) := by decide +kernel
theorem dX10_nights_30 : decode cX10_nights 30 = .ok (.iconst 0, 1) := by decide +kernel
theorem dX10_nights_31 : decode cX10_nights 31 = .ok (.istore 6, 2) := by decide +kernel
theorem dX10_nights_33 : decode cX10_nights 33 = .ok (.iconst 0, 1) := by decide +kernel
theorem dX10_nights_34 : decode cX10_nights 34 = .ok (.istore 7, 2) := by decide +kernel
theorem dX10_nights_36 : decode cX10_nights 36 = .ok (.iconst 1, 1) := by decide +kernel
theorem dX10_nights_37 : decode cX10_nights 37 = .ok (.istore 8, 2) := by decide +kernel
theorem dX10_nights_39 : decode cX10_nights 39 = .ok (.iload 8, 2) := by decide +kernel
theorem dX10_nights_41 : decode cX10_nights 41 = .ok (.iconst 1, 1) := by decide +kernel
theorem dX10_nights_42 : decode cX10_nights 42 = .ok (.aload_n 0, 1) := by decide +kernel
theorem dX10_nights_43 : decode cX10_nights 43 = .ok (.getfield 10, 3) := by decide +kernel
theorem dX10_nights_46 : decode cX10_nights 46 = .ok (.getfield 413, 3) := by decide +kernel
theorem dX10_nights_49 : decode cX10_nights 49 = .ok (.ishl, 1) := by decide +kernel
theorem dX10_nights_50 : decode cX10_nights 50 = .ok (.if_icmp .ge 101, 3) := by decide +kernel
theorem dX10_nights_151 : decode cX10_nights 151 = .ok (.iload_n 2, 1) := by decide +kernel
theorem dX10_nights_152 : decode cX10_nights 152 = .ok (.ifCond .ne 7, 3) := by decide +kernel
theorem dX10_nights_155 : decode cX10_nights 155 = .ok (.iload_n 3, 1) := by decide +kernel
theorem dX10_nights_156 : decode cX10_nights 156 = .ok (.goto 5, 3) := by decide +kernel
theorem dX10_nights_159 : decode cX10_nights 159 = .ok (.iload 4, 2) := by decide +kernel
theorem dX10_nights_161 : decode cX10_nights 161 = .ok (.ireturn, 1) := by decide +kernel
theorem dX10_odds_0 : decode cX10_odds 0 = .ok (.iload 4, 2) := by decide +kernel
theorem dX10_odds_2 : decode cX10_odds 2 = .ok (.iconst 0, 1) := by decide +kernel
theorem dX10_odds_3 : decode cX10_odds 3 = .ok (.iconst 4, 1) := by decide +kernel
theorem dX10_odds_4 : decode cX10_odds 4 = .ok (.invokestatic 100, 3) := by decide +kernel
theorem dX10_odds_7 : decode cX10_odds 7 = .ok (.ifCond .eq 17, 3) := by decide +kernel
theorem dX10_odds_10 : decode cX10_odds 10 = .ok (.iload 5, 2) := by decide +kernel
theorem dX10_odds_12 : decode cX10_odds 12 = .ok (.iconst 0, 1) := by decide +kernel
theorem dX10_odds_13 : decode cX10_odds 13 = .ok (.iconst 1, 1) := by decide +kernel
theorem dX10_odds_14 : decode cX10_odds 14 = .ok (.invokestatic 100, 3) := by decide +kernel
theorem dX10_odds_17 : decode cX10_odds 17 = .ok (.ifCond .eq 7, 3) := by decide +kernel
theorem dX10_odds_20 : decode cX10_odds 20 = .ok (.iconst 1, 1) := by decide +kernel
theorem dX10_odds_21 : decode cX10_odds 21 = .ok (.goto 4, 3) := by decide +kernel
theorem dX10_odds_24 : decode cX10_odds 24 = .ok (.iconst 0, 1) := by decide +kernel
theorem dX10_odds_25 : decode cX10_odds 25 = .ok (.istore 6, 2) := by decide +kernel
theorem dX10_odds_27 : decode cX10_odds 27 = .ok (.iload 6, 2) := by decide +kernel
theorem dX10_odds_29 : decode cX10_odds 29 = .ok (.ifCond .eq 13, 3) := by decide +kernel
theorem dX10_odds_32 : decode cX10_odds 32 = .ok (.aload_n 0, 1) := by decide +kernel
theorem dX10_odds_33 : decode cX10_odds 33 = .ok (.iload_n 1, 1) := by decide +kernel
theorem dX10_odds_34 : decode cX10_odds 34 = .ok (.iload_n 2, 1) := by decide +kernel
theorem dX10_odds_35 : decode cX10_odds 35 = .ok (.iload_n 3, 1) := by decide +kernel
theorem dX10_odds_36 : decode cX10_odds 36 = .ok (.invokevirtual 343, 3) := by decide +kernel
theorem dX10_odds_39 : decode cX10_odds 39 = .ok (.ifCond .ne 5, 3) := by decide +kernel
theorem dX10_odds_42 : decode cX10_odds 42 = .ok (.iconst (-1), 1) := by decide +kernel
theorem dX10_odds_43 : decode cX10_odds 43 = .ok (.ireturn, 1) := by decide +kernel
theorem dX10_order_0 : decode cX10_order 0 = .ok (.iload_n 1, 1) := by decide +kernel
theorem dX10_order_1 : decode cX10_order 1 = .ok (.iconst 0, 1) := by decide +kernel
theorem dX10_order_2 : decode cX10_order 2 = .ok (.bipush 23, 2) := by decide +kernel
theorem dX10_order_4 : decode cX10_order 4 = .ok (.invokestatic 100, 3) := by decide +kernel
theorem dX10_order_7 : decode cX10_order 7 = .ok (.ifCond .ne 5, 3) := by decide +kernel
theorem dX10_order_10 : decode cX10_order 10 = .ok (.iconst (-1), 1) := by decide +kernel
theorem dX10_order_11 : decode cX10_order 11 = .ok (.ireturn, 1) := by decide +kernel
theorem dX10_order_12 : decode cX10_order 12 = .ok (.aload_n 0, 1) := by decide +kernel
theorem dX10_order_13 : decode cX10_order 13 = .ok (.getfield 10, 3) := by decide +kernel
theorem dX10_order_16 : decode cX10_order 16 = .ok (.getfield 134, 3) := by decide +kernel
theorem dX10_order_19 : decode cX10_order 19 = .ok (.istore_n 2, 1) := by decide +kernel
theorem dX10_order_20 : decode cX10_order 20 = .ok (.aload_n 0, 1) := by decide +kernel
theorem dX10_order_21 : decode cX10_order 21 = .ok (.getfield 10, 3) := by decide +kernel
theorem dX10_order_24 : decode cX10_order 24 = .ok (.iload_n 1, 1) := by decide +kernel
theorem dX10_order_25 : decode cX10_order 25 = .ok (.putfield 134, 3) := by decide +kernel
theorem dX10_order_28 : decode cX10_order 28 = .ok (.aload_n 0, 1) := by decide +kernel
theorem dX10_order_29 : decode cX10_order 29 = .ok (.dup, 1) := by decide +kernel
theorem dX10_order_30 : decode cX10_order 30 = .ok (.getfield 84, 3) := by decide +kernel
theorem dX10_order_33 : decode cX10_order 33 = .ok (.iconst 1, 1) := by decide +kernel
theorem dX10_order_34 : decode cX10_order 34 = .ok (.iadd, 1) := by decide +kernel
theorem dX10_order_35 : decode cX10_order 35 = .ok (.putfield 84, 3) := by decide +kernel
theorem dX10_order_38 : decode cX10_order 38 = .ok (.iload_n 2, 1) := by decide +kernel
theorem dX10_order_39 : decode cX10_order 39 = .ok (.ireturn, 1) := by decide +kernel
theorem dX10_other_0 : decode cX10_other 0 = .ok (.aload_n 0, 1) := by decide +kernel
theorem dX10_other_1 : decode cX10_other 1 = .ok (.iload_n 1, 1) := by decide +kernel
theorem dX10_other_2 : decode cX10_other 2 = .ok (.invokevirtual 259, 3) := by decide +kernel
theorem dX10_other_5 : decode cX10_other 5 = .ok (.ifnull 20, 3) := by decide +kernel
theorem dX10_other_25 : decode cX10_other 25 = .ok (.bipush (-3), 2) := by decide +kernel
theorem dX10_other_27 : decode cX10_other 27 = .ok (.ireturn, 1) := by decide +kernel
theorem dX10_radius_0 : decode cX10_radius 0 = .ok (.aload_n 0, 1) := by decide +kernel
theorem dX10_radius_1 : decode cX10_radius 1 = .ok (.iload_n 1, 1) := by decide +kernel
theorem dX10_radius_2 : decode cX10_radius 2 = .ok (.invokevirtual 259, 3) := by decide +kernel
theorem dX10_radius_5 : decode cX10_radius 5 = .ok (.ifnull 11, 3) := by decide +kernel
theorem dX10_radius_16 : decode cX10_radius 16 = .ok (.iconst (-1), 1) := by decide +kernel
theorem dX10_radius_17 : decode cX10_radius 17 = .ok (.ireturn, 1) := by decide +kernel
theorem dX10_resize_0 : decode cX10_resize 0 = .ok (.aload_n 0, 1) := by decide +kernel
theorem dX10_resize_1 : decode cX10_resize 1 = .ok (.getfield 10, 3) := by decide +kernel
theorem dX10_resize_4 : decode cX10_resize 4 = .ok (.iload_n 1, 1) := by decide +kernel
theorem dX10_resize_5 : decode cX10_resize 5 = .ok (.invokevirtual 108, 3) := by decide +kernel
theorem dX10_resize_8 : decode cX10_resize 8 = .ok (.astore_n 3, 1) := by decide +kernel
theorem dX10_resize_9 : decode cX10_resize 9 = .ok (.aload_n 3, 1) := by decide +kernel
theorem dX10_resize_10 : decode cX10_resize 10 = .ok (.ifnull 10, 3) := by decide +kernel
theorem dX10_resize_20 : decode cX10_resize 20 = .ok (.iconst (-1), 1) := by decide +kernel
theorem dX10_resize_21 : decode cX10_resize 21 = .ok (.ireturn, 1) := by decide +kernel
theorem dX10_room_0 : decode cX10_room 0 = .ok (.aload_n 0, 1) := by decide +kernel
theorem dX10_room_1 : decode cX10_room 1 = .ok (.iload_n 1, 1) := by decide +kernel
theorem dX10_room_2 : decode cX10_room 2 = .ok (.invokevirtual 259, 3) := by decide +kernel
theorem dX10_room_5 : decode cX10_room 5 = .ok (.astore_n 3, 1) := by decide +kernel
theorem dX10_room_6 : decode cX10_room 6 = .ok (.aload_n 0, 1) := by decide +kernel
theorem dX10_room_7 : decode cX10_room 7 = .ok (.getfield 10, 3) := by decide +kernel
theorem dX10_room_10 : decode cX10_room 10 = .ok (.iload_n 2, 1) := by decide +kernel
theorem dX10_room_11 : decode cX10_room 11 = .ok (.invokevirtual 280, 3) := by decide +kernel
theorem dX10_room_14 : decode cX10_room 14 = .ok (.astore 4, 2) := by decide +kernel
theorem dX10_room_16 : decode cX10_room 16 = .ok (.aload_n 3, 1) := by decide +kernel
theorem dX10_room_17 : decode cX10_room 17 = .ok (.ifnull 8, 3) := by decide +kernel
theorem dX10_room_25 : decode cX10_room 25 = .ok (.iconst (-1), 1) := by decide +kernel
theorem dX10_room_26 : decode cX10_room 26 = .ok (.ireturn, 1) := by decide +kernel
theorem dX10_row_0 : decode cX10_row 0 = .ok (.aload_n 0, 1) := by decide +kernel
theorem dX10_row_1 : decode cX10_row 1 = .ok (.getfield 10, 3) := by decide +kernel
theorem dX10_row_4 : decode cX10_row 4 = .ok (.iload_n 1, 1) := by decide +kernel
theorem dX10_row_5 : decode cX10_row 5 = .ok (.invokevirtual 108, 3) := by decide +kernel
theorem dX10_row_8 : decode cX10_row 8 = .ok (.astore 4, 2) := by decide +kernel
theorem dX10_row_10 : decode cX10_row 10 = .ok (.iload_n 3, 1) := by decide +kernel
theorem dX10_row_11 : decode cX10_row 11 = .ok (.ldc 112, 2) := by decide +kernel
theorem dX10_row_13 : decode cX10_row 13 = .ok (.if_icmp .eq 16, 3) := by decide +kernel
theorem dX10_row_16 : decode cX10_row 16 = .ok (.iload_n 3, 1) := by decide +kernel
theorem dX10_row_17 : decode cX10_row 17 = .ok (.sipush (-30000), 3) := by decide +kernel
theorem dX10_row_20 : decode cX10_row 20 = .ok (.sipush 30000, 3) := by decide +kernel
theorem dX10_row_23 : decode cX10_row 23 = .ok (.invokestatic 100, 3) := by decide +kernel
theorem dX10_row_26 : decode cX10_row 26 = .ok (.ifCond .eq 7, 3) := by decide +kernel
theorem dX10_row_29 : decode cX10_row 29 = .ok (.iconst 1, 1) := by decide +kernel
theorem dX10_row_30 : decode cX10_row 30 = .ok (.goto 4, 3) := by decide +kernel
theorem dX10_row_33 : decode cX10_row 33 = .ok (.iconst 0, 1) := by decide +kernel
theorem dX10_row_34 : decode cX10_row 34 = .ok (.istore 5, 2) := by decide +kernel
theorem dX10_row_36 : decode cX10_row 36 = .ok (.aload 4, 2) := by decide +kernel
theorem dX10_row_38 : decode cX10_row 38 = .ok (.ifnull 15, 3) := by decide +kernel
theorem dX10_row_53 : decode cX10_row 53 = .ok (.ldc 116, 2) := by decide +kernel
theorem dX10_row_55 : decode cX10_row 55 = .ok (.ireturn, 1) := by decide +kernel
theorem dX10_searchAt_0 : decode cX10_searchAt 0 = .ok (.iload_n 1, 1) := by decide +kernel
theorem dX10_searchAt_1 : decode cX10_searchAt 1 = .ok (.iconst 0, 1) := by decide +kernel
theorem dX10_searchAt_2 : decode cX10_searchAt 2 = .ok (.aload_n 0, 1) := by decide +kernel
theorem dX10_searchAt_3 : decode cX10_searchAt 3 = .ok (.getfield 172, 3) := by decide +kernel
theorem dX10_searchAt_6 : decode cX10_searchAt 6 = .ok (.iconst 1, 1) := by decide +kernel
theorem dX10_searchAt_7 : decode cX10_searchAt 7 = .ok (.isub, 1) := by decide +kernel
theorem dX10_searchAt_8 : decode cX10_searchAt 8 = .ok (.invokestatic 100, 3) := by decide +kernel
theorem dX10_searchAt_11 : decode cX10_searchAt 11 = .ok (.ifCond .eq 18, 3) := by decide +kernel
theorem dX10_searchAt_29 : decode cX10_searchAt 29 = .ok (.aconst_null, 1) := by decide +kernel
theorem dX10_searchAt_30 : decode cX10_searchAt 30 = .ok (.areturn, 1) := by decide +kernel
theorem dX10_second_0 : decode cX10_second 0 = .ok (.aload_n 0, 1) := by decide +kernel
theorem dX10_second_1 : decode cX10_second 1 = .ok (.iload_n 1, 1) := by decide +kernel
theorem dX10_second_2 : decode cX10_second 2 = .ok (.invokevirtual 259, 3) := by decide +kernel
theorem dX10_second_5 : decode cX10_second 5 = .ok (.astore 4, 2) := by decide +kernel
theorem dX10_second_7 : decode cX10_second 7 = .ok (.aload 4, 2) := by decide +kernel
theorem dX10_second_9 : decode cX10_second 9 = .ok (.ifnull 21, 3) := by decide +kernel
theorem dX10_second_30 : decode cX10_second 30 = .ok (.ldc2_w 262, 3) := by decide +kernel
theorem dX10_second_33 : decode cX10_second 33 = .ok (.lreturn, 1) := by decide +kernel
theorem dX10_share_0 : decode cX10_share 0 = .ok (.aload_n 0, 1) := by decide +kernel
theorem dX10_share_1 : decode cX10_share 1 = .ok (.iload_n 1, 1) := by decide +kernel
theorem dX10_share_2 : decode cX10_share 2 = .ok (.invokevirtual 259, 3) := by decide +kernel
theorem dX10_share_5 : decode cX10_share 5 = .ok (.astore_n 3, 1) := by decide +kernel
theorem dX10_share_6 : decode cX10_share 6 = .ok (.aload_n 3, 1) := by decide +kernel
theorem dX10_share_7 : decode cX10_share 7 = .ok (.ifnull 12, 3) := by decide +kernel
theorem dX10_share_19 : decode cX10_share 19 = .ok (.iconst (-1), 1) := by decide +kernel
theorem dX10_share_20 : decode cX10_share 20 = .ok (.ireturn, 1) := by decide +kernel
theorem dX10_shift_0 : decode cX10_shift 0 = .ok (.aload_n 0, 1) := by decide +kernel
theorem dX10_shift_1 : decode cX10_shift 1 = .ok (.iload_n 1, 1) := by decide +kernel
theorem dX10_shift_2 : decode cX10_shift 2 = .ok (.invokevirtual 259, 3) := by decide +kernel
theorem dX10_shift_5 : decode cX10_shift 5 = .ok (.ifnull 22, 3) := by decide +kernel
theorem dX10_shift_27 : decode cX10_shift 27 = .ok (.sipush (-200), 3) := by decide +kernel
theorem dX10_shift_30 : decode cX10_shift 30 = .ok (.ireturn, 1) := by decide +kernel
theorem dX10_sign_0 : decode cX10_sign 0 = .ok (.aload_n 0, 1) := by decide +kernel
theorem dX10_sign_1 : decode cX10_sign 1 = .ok (.iload_n 1, 1) := by decide +kernel
theorem dX10_sign_2 : decode cX10_sign 2 = .ok (.invokevirtual 259, 3) := by decide +kernel
theorem dX10_sign_5 : decode cX10_sign 5 = .ok (.ifnull 20, 3) := by decide +kernel
theorem dX10_sign_25 : decode cX10_sign 25 = .ok (.ldc 116, 2) := by decide +kernel
theorem dX10_sign_27 : decode cX10_sign 27 = .ok (.ireturn, 1) := by decide +kernel
theorem dX10_sorted_0 : decode cX10_sorted 0 = .ok (.aload_n 0, 1) := by decide +kernel
theorem dX10_sorted_1 : decode cX10_sorted 1 = .ok (.iload_n 1, 1) := by decide +kernel
theorem dX10_sorted_2 : decode cX10_sorted 2 = .ok (.iload_n 2, 1) := by decide +kernel
theorem dX10_sorted_3 : decode cX10_sorted 3 = .ok (.iload_n 3, 1) := by decide +kernel
theorem dX10_sorted_4 : decode cX10_sorted 4 = .ok (.invokevirtual 343, 3) := by decide +kernel
theorem dX10_sorted_7 : decode cX10_sorted 7 = .ok (.ifCond .ne 5, 3) := by decide +kernel
theorem dX10_sorted_10 : decode cX10_sorted 10 = .ok (.iconst (-1), 1) := by decide +kernel
theorem dX10_sorted_11 : decode cX10_sorted 11 = .ok (.ireturn, 1) := by decide +kernel
theorem dX10_sorterAt_0 : decode cX10_sorterAt 0 = .ok (.iload_n 1, 1) := by decide +kernel
theorem dX10_sorterAt_1 : decode cX10_sorterAt 1 = .ok (.iconst 0, 1) := by decide +kernel
theorem dX10_sorterAt_2 : decode cX10_sorterAt 2 = .ok (.aload_n 0, 1) := by decide +kernel
theorem dX10_sorterAt_3 : decode cX10_sorterAt 3 = .ok (.getfield 175, 3) := by decide +kernel
theorem dX10_sorterAt_6 : decode cX10_sorterAt 6 = .ok (.iconst 1, 1) := by decide +kernel
theorem dX10_sorterAt_7 : decode cX10_sorterAt 7 = .ok (.isub, 1) := by decide +kernel
theorem dX10_sorterAt_8 : decode cX10_sorterAt 8 = .ok (.invokestatic 100, 3) := by decide +kernel
theorem dX10_sorterAt_11 : decode cX10_sorterAt 11 = .ok (.ifCond .eq 18, 3) := by decide +kernel
theorem dX10_sorterAt_29 : decode cX10_sorterAt 29 = .ok (.aconst_null, 1) := by decide +kernel
theorem dX10_sorterAt_30 : decode cX10_sorterAt 30 = .ok (.areturn, 1) := by decide +kernel
theorem dX10_spread_0 : decode cX10_spread 0 = .ok (.aload_n 0, 1) := by decide +kernel
theorem dX10_spread_1 : decode cX10_spread 1 = .ok (.iload_n 1, 1) := by decide +kernel
theorem dX10_spread_2 : decode cX10_spread 2 = .ok (.invokevirtual 137, 3) := by decide +kernel
theorem dX10_spread_5 : decode cX10_spread 5 = .ok (.ifCond .ne 7, 3) := by decide +kernel
theorem dX10_spread_8 : decode cX10_spread 8 = .ok (.ldc2_w 274, 3) := by decide +kernel
theorem dX10_spread_11 : decode cX10_spread 11 = .ok (.lreturn, 1) := by decide +kernel
theorem dX10_star_0 : decode cX10_star 0 = .ok (.iload_n 1, 1) := by decide +kernel
theorem dX10_star_1 : decode cX10_star 1 = .ok (.invokestatic 96, 3) := by decide +kernel
theorem dX10_star_4 : decode cX10_star 4 = .ok (.ifCond .eq 24, 3) := by decide +kernel
theorem dX10_star_7 : decode cX10_star 7 = .ok (.iload_n 2, 1) := by decide +kernel
theorem dX10_star_8 : decode cX10_star 8 = .ok (.iconst 0, 1) := by decide +kernel
theorem dX10_star_9 : decode cX10_star 9 = .ok (.bipush 7, 2) := by decide +kernel
theorem dX10_star_11 : decode cX10_star 11 = .ok (.invokestatic 100, 3) := by decide +kernel
theorem dX10_star_14 : decode cX10_star 14 = .ok (.ifCond .eq 14, 3) := by decide +kernel
theorem dX10_star_17 : decode cX10_star 17 = .ok (.iload_n 3, 1) := by decide +kernel
theorem dX10_star_18 : decode cX10_star 18 = .ok (.iconst 1, 1) := by decide +kernel
theorem dX10_star_19 : decode cX10_star 19 = .ok (.sipush 1000, 3) := by decide +kernel
theorem dX10_star_22 : decode cX10_star 22 = .ok (.invokestatic 100, 3) := by decide +kernel
theorem dX10_star_25 : decode cX10_star 25 = .ok (.ifCond .ne 5, 3) := by decide +kernel
theorem dX10_star_28 : decode cX10_star 28 = .ok (.iconst (-1), 1) := by decide +kernel
theorem dX10_star_29 : decode cX10_star 29 = .ok (.ireturn, 1) := by decide +kernel
theorem dX10_star_30 : decode cX10_star 30 = .ok (.aload_n 0, 1) := by decide +kernel
theorem dX10_star_31 : decode cX10_star 31 = .ok (.getfield 10, 3) := by decide +kernel
theorem dX10_star_34 : decode cX10_star 34 = .ok (.iload_n 1, 1) := by decide +kernel
theorem dX10_star_35 : decode cX10_star 35 = .ok (.iload_n 2, 1) := by decide +kernel
theorem dX10_star_36 : decode cX10_star 36 = .ok (.iload_n 3, 1) := by decide +kernel
theorem dX10_star_37 : decode cX10_star 37 = .ok (.invokevirtual 104, 3) := by decide +kernel
theorem dX10_star_40 : decode cX10_star 40 = .ok (.ireturn, 1) := by decide +kernel
theorem dX10_text_0 : decode cX10_text 0 = .ok (.iload_n 1, 1) := by decide +kernel
theorem dX10_text_1 : decode cX10_text 1 = .ok (.ifCond .ne 10, 3) := by decide +kernel
theorem dX10_text_4 : decode cX10_text 4 = .ok (.aload_n 0, 1) := by decide +kernel
theorem dX10_text_5 : decode cX10_text 5 = .ok (.getfield 169, 3) := by decide +kernel
theorem dX10_text_8 : decode cX10_text 8 = .ok (.goto 19, 3) := by decide +kernel
theorem dX10_text_11 : decode cX10_text 11 = .ok (.iload_n 1, 1) := by decide +kernel
theorem dX10_text_12 : decode cX10_text 12 = .ok (.iconst 1, 1) := by decide +kernel
theorem dX10_text_13 : decode cX10_text 13 = .ok (.if_icmp .ne 10, 3) := by decide +kernel
theorem dX10_text_16 : decode cX10_text 16 = .ok (.aload_n 0, 1) := by decide +kernel
theorem dX10_text_17 : decode cX10_text 17 = .ok (.getfield 172, 3) := by decide +kernel
theorem dX10_text_20 : decode cX10_text 20 = .ok (.goto 7, 3) := by decide +kernel
theorem dX10_text_23 : decode cX10_text 23 = .ok (.aload_n 0, 1) := by decide +kernel
theorem dX10_text_24 : decode cX10_text 24 = .ok (.getfield 175, 3) := by decide +kernel
theorem dX10_text_27 : decode cX10_text 27 = .ok (.istore_n 2, 1) := by decide +kernel
theorem dX10_text_28 : decode cX10_text 28 = .ok (.iload_n 1, 1) := by decide +kernel
theorem dX10_text_29 : decode cX10_text 29 = .ok (.iconst 0, 1) := by decide +kernel
theorem dX10_text_30 : decode cX10_text 30 = .ok (.iconst 2, 1) := by decide +kernel
theorem dX10_text_31 : decode cX10_text 31 = .ok (.invokestatic 100, 3) := by decide +kernel
theorem dX10_text_34 : decode cX10_text 34 = .ok (.ifCond .eq 9, 3) := by decide +kernel
theorem dX10_text_37 : decode cX10_text 37 = .ok (.iload_n 2, 1) := by decide +kernel
theorem dX10_text_38 : decode cX10_text 38 = .ok (.bipush 6, 2) := by decide +kernel
theorem dX10_text_40 : decode cX10_text 40 = .ok (.if_icmp .lt 5, 3) := by decide +kernel
theorem dX10_text_43 : decode cX10_text 43 = .ok (.iconst (-1), 1) := by decide +kernel
theorem dX10_text_44 : decode cX10_text 44 = .ok (.ireturn, 1) := by decide +kernel
theorem dX10_text_45 : decode cX10_text 45 = .ok (.aload_n 0, 1) := by decide +kernel
theorem dX10_text_46 : decode cX10_text 46 = .ok (.getfield 35, 3) := by decide +kernel
theorem dX10_text_49 : decode cX10_text 49 = .ok (.aload_n 0, 1) := by decide +kernel
theorem dX10_text_50 : decode cX10_text 50 = .ok (.getfield 10, 3) := by decide +kernel
theorem dX10_text_53 : decode cX10_text 53 = .ok (.getfield 178, 3) := by decide +kernel
theorem dX10_text_56 : decode cX10_text 56 = .ok (.aload_n 0, 1) := by decide +kernel
theorem dX10_text_57 : decode cX10_text 57 = .ok (.getfield 10, 3) := by decide +kernel
theorem dX10_text_60 : decode cX10_text 60 = .ok (.getfield 162, 3) := by decide +kernel
theorem dX10_text_63 : decode cX10_text 63 = .ok (.iload_n 1, 1) := by decide +kernel
theorem dX10_text_64 : decode cX10_text 64 = .ok (.invokevirtual 182, 3) := by decide +kernel
theorem dX10_text_67 : decode cX10_text 67 = .ok (.istore_n 3, 1) := by decide +kernel
theorem dX10_text_68 : decode cX10_text 68 = .ok (.aload_n 0, 1) := by decide +kernel
theorem dX10_text_69 : decode cX10_text 69 = .ok (.getfield 10, 3) := by decide +kernel
theorem dX10_text_72 : decode cX10_text 72 = .ok (.iconst 0, 1) := by decide +kernel
theorem dX10_text_73 : decode cX10_text 73 = .ok (.putfield 162, 3) := by decide +kernel
theorem dX10_text_76 : decode cX10_text 76 = .ok (.iload_n 3, 1) := by decide +kernel
theorem dX10_text_77 : decode cX10_text 77 = .ok (.ifCond .eq 8, 3) := by decide +kernel
theorem dX10_text_80 : decode cX10_text 80 = .ok (.bipush (-2), 2) := by decide +kernel
theorem dX10_text_82 : decode cX10_text 82 = .ok (.iload_n 3, 1) := by decide +kernel
theorem dX10_text_83 : decode cX10_text 83 = .ok (.isub, 1) := by decide +kernel
theorem dX10_text_84 : decode cX10_text 84 = .ok (.ireturn, 1) := by decide +kernel
theorem dX10_tried_0 : decode cX10_tried 0 = .ok (.iload_n 3, 1) := by decide +kernel
theorem dX10_tried_1 : decode cX10_tried 1 = .ok (.invokestatic 234, 3) := by decide +kernel
theorem dX10_tried_4 : decode cX10_tried 4 = .ok (.ifCond .eq 36, 3) := by decide +kernel
theorem dX10_tried_7 : decode cX10_tried 7 = .ok (.iload 4, 2) := by decide +kernel
theorem dX10_tried_9 : decode cX10_tried 9 = .ok (.iconst 1, 1) := by decide +kernel
theorem dX10_tried_10 : decode cX10_tried 10 = .ok (.bipush 10, 2) := by decide +kernel
theorem dX10_tried_12 : decode cX10_tried 12 = .ok (.invokestatic 100, 3) := by decide +kernel
theorem dX10_tried_15 : decode cX10_tried 15 = .ok (.ifCond .eq 25, 3) := by decide +kernel
theorem dX10_tried_18 : decode cX10_tried 18 = .ok (.iload 4, 2) := by decide +kernel
theorem dX10_tried_20 : decode cX10_tried 20 = .ok (.iload_n 3, 1) := by decide +kernel
theorem dX10_tried_21 : decode cX10_tried 21 = .ok (.if_icmp .ge 19, 3) := by decide +kernel
theorem dX10_tried_24 : decode cX10_tried 24 = .ok (.iload 5, 2) := by decide +kernel
theorem dX10_tried_26 : decode cX10_tried 26 = .ok (.iconst 0, 1) := by decide +kernel
theorem dX10_tried_27 : decode cX10_tried 27 = .ok (.iload_n 3, 1) := by decide +kernel
theorem dX10_tried_28 : decode cX10_tried 28 = .ok (.iconst 1, 1) := by decide +kernel
theorem dX10_tried_29 : decode cX10_tried 29 = .ok (.isub, 1) := by decide +kernel
theorem dX10_tried_30 : decode cX10_tried 30 = .ok (.invokestatic 100, 3) := by decide +kernel
theorem dX10_tried_33 : decode cX10_tried 33 = .ok (.ifCond .eq 7, 3) := by decide +kernel
theorem dX10_tried_36 : decode cX10_tried 36 = .ok (.iconst 1, 1) := by decide +kernel
theorem dX10_tried_37 : decode cX10_tried 37 = .ok (.goto 4, 3) := by decide +kernel
theorem dX10_tried_40 : decode cX10_tried 40 = .ok (.iconst 0, 1) := by decide +kernel
theorem dX10_tried_41 : decode cX10_tried 41 = .ok (.istore 7, 2) := by decide +kernel
theorem dX10_tried_43 : decode cX10_tried 43 = .ok (.aload_n 0, 1) := by decide +kernel
theorem dX10_tried_44 : decode cX10_tried 44 = .ok (.iload_n 1, 1) := by decide +kernel
theorem dX10_tried_45 : decode cX10_tried 45 = .ok (.invokevirtual 137, 3) := by decide +kernel
theorem dX10_tried_48 : decode cX10_tried 48 = .ok (.ifCond .eq 25, 3) := by decide +kernel
theorem dX10_tried_73 : decode cX10_tried 73 = .ok (.ldc2_w 237, 3) := by decide +kernel
theorem dX10_tried_76 : decode cX10_tried 76 = .ok (.lreturn, 1) := by decide +kernel
theorem dX10_truly_0 : decode cX10_truly 0 = .ok (.aload_n 0, 1) := by decide +kernel
theorem dX10_truly_1 : decode cX10_truly 1 = .ok (.iload_n 1, 1) := by decide +kernel
theorem dX10_truly_2 : decode cX10_truly 2 = .ok (.invokevirtual 259, 3) := by decide +kernel
theorem dX10_truly_5 : decode cX10_truly 5 = .ok (.astore_n 3, 1) := by decide +kernel
theorem dX10_truly_6 : decode cX10_truly 6 = .ok (.aload_n 3, 1) := by decide +kernel
theorem dX10_truly_7 : decode cX10_truly 7 = .ok (.ifnull 11, 3) := by decide +kernel
theorem dX10_truly_18 : decode cX10_truly 18 = .ok (.ldc2_w 274, 3) := by decide +kernel
theorem dX10_truly_21 : decode cX10_truly 21 = .ok (.lreturn, 1) := by decide +kernel
theorem dX10_weight_0 : decode cX10_weight 0 = .ok (.iload 4, 2) := by decide +kernel
theorem dX10_weight_2 : decode cX10_weight 2 = .ok (.iconst 0, 1) := by decide +kernel
theorem dX10_weight_3 : decode cX10_weight 3 = .ok (.iconst 4, 1) := by decide +kernel
theorem dX10_weight_4 : decode cX10_weight 4 = .ok (.invokestatic 100, 3) := by decide +kernel
theorem dX10_weight_7 : decode cX10_weight 7 = .ok (.ifCond .eq 13, 3) := by decide +kernel
theorem dX10_weight_10 : decode cX10_weight 10 = .ok (.aload_n 0, 1) := by decide +kernel
theorem dX10_weight_11 : decode cX10_weight 11 = .ok (.iload_n 1, 1) := by decide +kernel
theorem dX10_weight_12 : decode cX10_weight 12 = .ok (.iload_n 2, 1) := by decide +kernel
theorem dX10_weight_13 : decode cX10_weight 13 = .ok (.iload_n 3, 1) := by decide +kernel
theorem dX10_weight_14 : decode cX10_weight 14 = .ok (.invokevirtual 343, 3) := by decide +kernel
theorem dX10_weight_17 : decode cX10_weight 17 = .ok (.ifCond .ne 5, 3) := by decide +kernel
theorem dX10_weight_20 : decode cX10_weight 20 = .ok (.iconst (-1), 1) := by decide +kernel
theorem dX10_weight_21 : decode cX10_weight 21 = .ok (.ireturn, 1) := by decide +kernel
theorem dX10_wide_0 : decode cX10_wide 0 = .ok (.iload_n 1, 1) := by decide +kernel
theorem dX10_wide_1 : decode cX10_wide 1 = .ok (.iconst 0, 1) := by decide +kernel
theorem dX10_wide_2 : decode cX10_wide 2 = .ok (.bipush 50, 2) := by decide +kernel
theorem dX10_wide_4 : decode cX10_wide 4 = .ok (.invokestatic 100, 3) := by decide +kernel
theorem dX10_wide_7 : decode cX10_wide 7 = .ok (.ifCond .ne 5, 3) := by decide +kernel
theorem dX10_wide_10 : decode cX10_wide 10 = .ok (.iconst (-1), 1) := by decide +kernel
theorem dX10_wide_11 : decode cX10_wide 11 = .ok (.ireturn, 1) := by decide +kernel
theorem dX10_wide_12 : decode cX10_wide 12 = .ok (.aload_n 0, 1) := by decide +kernel
theorem dX10_wide_13 : decode cX10_wide 13 = .ok (.getfield 10, 3) := by decide +kernel
theorem dX10_wide_16 : decode cX10_wide 16 = .ok (.getfield 125, 3) := by decide +kernel
theorem dX10_wide_19 : decode cX10_wide 19 = .ok (.istore_n 2, 1) := by decide +kernel
