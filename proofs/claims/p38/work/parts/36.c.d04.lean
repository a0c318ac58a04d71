theorem dX10_sameAs_95 : decode cX10_sameAs 95 = .ok (.iinc 5 1, 3) := by decide +kernel
theorem dX10_sameAs_98 : decode cX10_sameAs 98 = .ok (.iinc 6 1, 3) := by decide +kernel
theorem dX10_sameAs_101 : decode cX10_sameAs 101 = .ok (.goto (-88), 3) := by decide +kernel
theorem dX10_sameAs_104 : decode cX10_sameAs 104 = .ok (.iload 5, 2) := by decide +kernel
theorem dX10_sameAs_106 : decode cX10_sameAs 106 = .ok (.ireturn, 1) := by decide +kernel
theorem dX10_searchAt_0 : decode cX10_searchAt 0 = .ok (.iload_n 1, 1) := by decide +kernel
theorem dX10_searchAt_1 : decode cX10_searchAt 1 = .ok (.iconst 0, 1) := by decide +kernel
theorem dX10_searchAt_2 : decode cX10_searchAt 2 = .ok (.aload_n 0, 1) := by decide +kernel
theorem dX10_searchAt_3 : decode cX10_searchAt 3 = .ok (.getfield 172, 3) := by decide +kernel
theorem dX10_searchAt_6 : decode cX10_searchAt 6 = .ok (.iconst 1, 1) := by decide +kernel
theorem dX10_searchAt_7 : decode cX10_searchAt 7 = .ok (.isub, 1) := by decide +kernel
theorem dX10_searchAt_8 : decode cX10_searchAt 8 = .ok (.invokestatic 100, 3) := by decide +kernel
theorem dX10_searchAt_11 : decode cX10_searchAt 11 = .ok (.ifCond .eq 18, 3) := by decide +kernel
theorem dX10_searchAt_14 : decode cX10_searchAt 14 = .ok (.iload_n 1, 1) := by decide +kernel
theorem dX10_searchAt_15 : decode cX10_searchAt 15 = .ok (.bipush 6, 2) := by decide +kernel
theorem dX10_searchAt_17 : decode cX10_searchAt 17 = .ok (.if_icmp .ge 12, 3) := by decide +kernel
theorem dX10_searchAt_20 : decode cX10_searchAt 20 = .ok (.aload_n 0, 1) := by decide +kernel
theorem dX10_searchAt_21 : decode cX10_searchAt 21 = .ok (.getfield 26, 3) := by decide +kernel
theorem dX10_searchAt_24 : decode cX10_searchAt 24 = .ok (.iload_n 1, 1) := by decide +kernel
theorem dX10_searchAt_25 : decode cX10_searchAt 25 = .ok (.aaload, 1) := by decide +kernel
theorem dX10_searchAt_26 : decode cX10_searchAt 26 = .ok (.goto 4, 3) := by decide +kernel
theorem dX10_searchAt_29 : decode cX10_searchAt 29 = .ok (.aconst_null, 1) := by decide +kernel
theorem dX10_searchAt_30 : decode cX10_searchAt 30 = .ok (.areturn, 1) := by decide +kernel
theorem dX10_second_0 : decode cX10_second 0 = .ok (.aload_n 0, 1) := by decide +kernel
theorem dX10_second_1 : decode cX10_second 1 = .ok (.iload_n 1, 1) := by decide +kernel
theorem dX10_second_2 : decode cX10_second 2 = .ok (.invokevirtual 259, 3) := by decide +kernel
theorem dX10_second_5 : decode cX10_second 5 = .ok (.astore 4, 2) := by decide +kernel
theorem dX10_second_7 : decode cX10_second 7 = .ok (.aload 4, 2) := by decide +kernel
theorem dX10_second_9 : decode cX10_second 9 = .ok (.ifnull 21, 3) := by decide +kernel
theorem dX10_second_12 : decode cX10_second 12 = .ok (.aload_n 0, 1) := by decide +kernel
theorem dX10_second_13 : decode cX10_second 13 = .ok (.iload_n 2, 1) := by decide +kernel
theorem dX10_second_14 : decode cX10_second 14 = .ok (.invokevirtual 137, 3) := by decide +kernel
theorem dX10_second_17 : decode cX10_second 17 = .ok (.ifCond .eq 13, 3) := by decide +kernel
theorem dX10_second_20 : decode cX10_second 20 = .ok (.iload_n 3, 1) := by decide +kernel
theorem dX10_second_21 : decode cX10_second 21 = .ok (.iconst 0, 1) := by decide +kernel
theorem dX10_second_22 : decode cX10_second 22 = .ok (.bipush 6, 2) := by decide +kernel
theorem dX10_second_24 : decode cX10_second 24 = .ok (.invokestatic 100, 3) := by decide +kernel
theorem dX10_second_27 : decode cX10_second 27 = .ok (.ifCond .ne 7, 3) := by decide +kernel
theorem dX10_second_30 : decode cX10_second 30 = .ok (.ldc2_w 262, 3) := by decide +kernel
theorem dX10_second_33 : decode cX10_second 33 = .ok (.lreturn, 1) := by decide +kernel
theorem dX10_second_34 : decode cX10_second 34 = .ok (.aload_n 0, 1) := by decide +kernel
theorem dX10_second_35 : decode cX10_second 35 = .ok (.iload_n 1, 1) := by decide +kernel
theorem dX10_second_36 : decode cX10_second 36 = .ok (.iload_n 2, 1) := by decide +kernel
theorem dX10_second_37 : decode cX10_second 37 = .ok (.iconst 0, 1) := by decide +kernel
theorem dX10_second_38 : decode cX10_second 38 = .ok (.invokevirtual 264, 3) := by decide +kernel
theorem dX10_second_41 : decode cX10_second 41 = .ok (.astore 5, 2) := by decide +kernel
theorem dX10_second_43 : decode cX10_second 43 = .ok (.aload 5, 2) := by decide +kernel
theorem dX10_second_45 : decode cX10_second 45 = .ok (.invokevirtual 315, 3) := by decide +kernel
theorem dX10_second_48 : decode cX10_second 48 = .ok (.ifCond .eq 7, 3) := by decide +kernel
theorem dX10_second_51 : decode cX10_second 51 = .ok (.ldc2_w 262, 3) := by decide +kernel
theorem dX10_second_54 : decode cX10_second 54 = .ok (.lreturn, 1) := by decide +kernel
theorem dX10_second_55 : decode cX10_second 55 = .ok (.aload_n 0, 1) := by decide +kernel
theorem dX10_second_56 : decode cX10_second 56 = .ok (.getfield 49, 3) := by decide +kernel
theorem dX10_second_59 : decode cX10_second 59 = .ok (.aload_n 0, 1) := by decide +kernel
theorem dX10_second_60 : decode cX10_second 60 = .ok (.getfield 10, 3) := by decide +kernel
theorem dX10_second_63 : decode cX10_second 63 = .ok (.iload_n 2, 1) := by decide +kernel
theorem dX10_second_64 : decode cX10_second 64 = .ok (.iconst 0, 1) := by decide +kernel
theorem dX10_second_65 : decode cX10_second 65 = .ok (.invokevirtual 143, 3) := by decide +kernel
theorem dX10_second_68 : decode cX10_second 68 = .ok (.aload_n 0, 1) := by decide +kernel
theorem dX10_second_69 : decode cX10_second 69 = .ok (.getfield 49, 3) := by decide +kernel
theorem dX10_second_72 : decode cX10_second 72 = .ok (.aload 5, 2) := by decide +kernel
theorem dX10_second_74 : decode cX10_second 74 = .ok (.getfield 336, 3) := by decide +kernel
theorem dX10_second_77 : decode cX10_second 77 = .ok (.aload 5, 2) := by decide +kernel
theorem dX10_second_79 : decode cX10_second 79 = .ok (.getfield 337, 3) := by decide +kernel
theorem dX10_second_82 : decode cX10_second 82 = .ok (.aload 5, 2) := by decide +kernel
theorem dX10_second_84 : decode cX10_second 84 = .ok (.getfield 333, 3) := by decide +kernel
theorem dX10_second_87 : decode cX10_second 87 = .ok (.invokevirtual 369, 3) := by decide +kernel
theorem dX10_second_90 : decode cX10_second 90 = .ok (.aload_n 0, 1) := by decide +kernel
theorem dX10_second_91 : decode cX10_second 91 = .ok (.getfield 56, 3) := by decide +kernel
theorem dX10_second_94 : decode cX10_second 94 = .ok (.aload_n 0, 1) := by decide +kernel
theorem dX10_second_95 : decode cX10_second 95 = .ok (.getfield 49, 3) := by decide +kernel
theorem dX10_second_98 : decode cX10_second 98 = .ok (.aload 4, 2) := by decide +kernel
theorem dX10_second_100 : decode cX10_second 100 = .ok (.aload_n 0, 1) := by decide +kernel
theorem dX10_second_101 : decode cX10_second 101 = .ok (.getfield 74, 3) := by decide +kernel
theorem dX10_second_104 : decode cX10_second 104 = .ok (.invokevirtual 372, 3) := by decide +kernel
theorem dX10_second_107 : decode cX10_second 107 = .ok (.aload_n 0, 1) := by decide +kernel
theorem dX10_second_108 : decode cX10_second 108 = .ok (.getfield 74, 3) := by decide +kernel
theorem dX10_second_111 : decode cX10_second 111 = .ok (.iload_n 3, 1) := by decide +kernel
theorem dX10_second_112 : decode cX10_second 112 = .ok (.aload 4, 2) := by decide +kernel
theorem dX10_second_114 : decode cX10_second 114 = .ok (.getfield 268, 3) := by decide +kernel
theorem dX10_second_117 : decode cX10_second 117 = .ok (.invokevirtual 271, 3) := by decide +kernel
theorem dX10_second_120 : decode cX10_second 120 = .ok (.lreturn, 1) := by decide +kernel
theorem dX10_share_0 : decode cX10_share 0 = .ok (.aload_n 0, 1) := by decide +kernel
theorem dX10_share_1 : decode cX10_share 1 = .ok (.iload_n 1, 1) := by decide +kernel
theorem dX10_share_2 : decode cX10_share 2 = .ok (.invokevirtual 259, 3) := by decide +kernel
theorem dX10_share_5 : decode cX10_share 5 = .ok (.astore_n 3, 1) := by decide +kernel
theorem dX10_share_6 : decode cX10_share 6 = .ok (.aload_n 3, 1) := by decide +kernel
theorem dX10_share_7 : decode cX10_share 7 = .ok (.ifnull 12, 3) := by decide +kernel
theorem dX10_share_10 : decode cX10_share 10 = .ok (.iload_n 2, 1) := by decide +kernel
theorem dX10_share_11 : decode cX10_share 11 = .ok (.iconst 0, 1) := by decide +kernel
theorem dX10_share_12 : decode cX10_share 12 = .ok (.iconst 1, 1) := by decide +kernel
theorem dX10_share_13 : decode cX10_share 13 = .ok (.invokestatic 100, 3) := by decide +kernel
theorem dX10_share_16 : decode cX10_share 16 = .ok (.ifCond .ne 5, 3) := by decide +kernel
theorem dX10_share_19 : decode cX10_share 19 = .ok (.iconst (-1), 1) := by decide +kernel
theorem dX10_share_20 : decode cX10_share 20 = .ok (.ireturn, 1) := by decide +kernel
theorem dX10_share_21 : decode cX10_share 21 = .ok (.aload_n 0, 1) := by decide +kernel
theorem dX10_share_22 : decode cX10_share 22 = .ok (.iload_n 1, 1) := by decide +kernel
theorem dX10_share_23 : decode cX10_share 23 = .ok (.aload_n 3, 1) := by decide +kernel
theorem dX10_share_24 : decode cX10_share 24 = .ok (.getfield 268, 3) := by decide +kernel
theorem dX10_share_27 : decode cX10_share 27 = .ok (.invokevirtual 299, 3) := by decide +kernel
theorem dX10_share_30 : decode cX10_share 30 = .ok (.aload_n 0, 1) := by decide +kernel
theorem dX10_share_31 : decode cX10_share 31 = .ok (.getfield 10, 3) := by decide +kernel
theorem dX10_share_34 : decode cX10_share 34 = .ok (.invokevirtual 303, 3) := by decide +kernel
theorem dX10_share_37 : decode cX10_share 37 = .ok (.iload_n 2, 1) := by decide +kernel
theorem dX10_share_38 : decode cX10_share 38 = .ok (.invokestatic 307, 3) := by decide +kernel
theorem dX10_share_41 : decode cX10_share 41 = .ok (.ireturn, 1) := by decide +kernel
theorem dX10_shift_0 : decode cX10_shift 0 = .ok (.aload_n 0, 1) := by decide +kernel
theorem dX10_shift_1 : decode cX10_shift 1 = .ok (.iload_n 1, 1) := by decide +kernel
theorem dX10_shift_2 : decode cX10_shift 2 = .ok (.invokevirtual 259, 3) := by decide +kernel
theorem dX10_shift_5 : decode cX10_shift 5 = .ok (.ifnull 22, 3) := by decide +kernel
theorem dX10_shift_8 : decode cX10_shift 8 = .ok (.aload_n 0, 1) := by decide +kernel
theorem dX10_shift_9 : decode cX10_shift 9 = .ok (.iload_n 2, 1) := by decide +kernel
theorem dX10_shift_10 : decode cX10_shift 10 = .ok (.invokevirtual 137, 3) := by decide +kernel
theorem dX10_shift_13 : decode cX10_shift 13 = .ok (.ifCond .eq 14, 3) := by decide +kernel
theorem dX10_shift_16 : decode cX10_shift 16 = .ok (.iload_n 3, 1) := by decide +kernel
theorem dX10_shift_17 : decode cX10_shift 17 = .ok (.iconst (-1), 1) := by decide +kernel
theorem dX10_shift_18 : decode cX10_shift 18 = .ok (.sipush 300, 3) := by decide +kernel
theorem dX10_shift_21 : decode cX10_shift 21 = .ok (.invokestatic 100, 3) := by decide +kernel
theorem dX10_shift_24 : decode cX10_shift 24 = .ok (.ifCond .ne 7, 3) := by decide +kernel
theorem dX10_shift_27 : decode cX10_shift 27 = .ok (.sipush (-200), 3) := by decide +kernel
theorem dX10_shift_30 : decode cX10_shift 30 = .ok (.ireturn, 1) := by decide +kernel
theorem dX10_shift_31 : decode cX10_shift 31 = .ok (.aload_n 0, 1) := by decide +kernel
theorem dX10_shift_32 : decode cX10_shift 32 = .ok (.iload_n 1, 1) := by decide +kernel
theorem dX10_shift_33 : decode cX10_shift 33 = .ok (.iload_n 2, 1) := by decide +kernel
theorem dX10_shift_34 : decode cX10_shift 34 = .ok (.iconst 0, 1) := by decide +kernel
theorem dX10_shift_35 : decode cX10_shift 35 = .ok (.invokevirtual 264, 3) := by decide +kernel
theorem dX10_shift_38 : decode cX10_shift 38 = .ok (.astore 4, 2) := by decide +kernel
theorem dX10_shift_40 : decode cX10_shift 40 = .ok (.aload 4, 2) := by decide +kernel
theorem dX10_shift_42 : decode cX10_shift 42 = .ok (.invokevirtual 315, 3) := by decide +kernel
theorem dX10_shift_45 : decode cX10_shift 45 = .ok (.ifCond .eq 7, 3) := by decide +kernel
theorem dX10_shift_48 : decode cX10_shift 48 = .ok (.sipush (-200), 3) := by decide +kernel
theorem dX10_shift_51 : decode cX10_shift 51 = .ok (.ireturn, 1) := by decide +kernel
theorem dX10_shift_52 : decode cX10_shift 52 = .ok (.aload_n 0, 1) := by decide +kernel
theorem dX10_shift_53 : decode cX10_shift 53 = .ok (.getfield 49, 3) := by decide +kernel
theorem dX10_shift_56 : decode cX10_shift 56 = .ok (.aload_n 0, 1) := by decide +kernel
theorem dX10_shift_57 : decode cX10_shift 57 = .ok (.getfield 10, 3) := by decide +kernel
theorem dX10_shift_60 : decode cX10_shift 60 = .ok (.iload_n 2, 1) := by decide +kernel
theorem dX10_shift_61 : decode cX10_shift 61 = .ok (.iconst 0, 1) := by decide +kernel
theorem dX10_shift_62 : decode cX10_shift 62 = .ok (.invokevirtual 143, 3) := by decide +kernel
theorem dX10_shift_65 : decode cX10_shift 65 = .ok (.aload_n 0, 1) := by decide +kernel
theorem dX10_shift_66 : decode cX10_shift 66 = .ok (.getfield 49, 3) := by decide +kernel
theorem dX10_shift_69 : decode cX10_shift 69 = .ok (.aload 4, 2) := by decide +kernel
theorem dX10_shift_71 : decode cX10_shift 71 = .ok (.getfield 333, 3) := by decide +kernel
theorem dX10_shift_74 : decode cX10_shift 74 = .ok (.iload_n 3, 1) := by decide +kernel
theorem dX10_shift_75 : decode cX10_shift 75 = .ok (.aload 4, 2) := by decide +kernel
theorem dX10_shift_77 : decode cX10_shift 77 = .ok (.getfield 336, 3) := by decide +kernel
theorem dX10_shift_80 : decode cX10_shift 80 = .ok (.imul, 1) := by decide +kernel
theorem dX10_shift_81 : decode cX10_shift 81 = .ok (.iadd, 1) := by decide +kernel
theorem dX10_shift_82 : decode cX10_shift 82 = .ok (.aload 4, 2) := by decide +kernel
theorem dX10_shift_84 : decode cX10_shift 84 = .ok (.getfield 337, 3) := by decide +kernel
theorem dX10_shift_87 : decode cX10_shift 87 = .ok (.invokevirtual 340, 3) := by decide +kernel
theorem dX10_shift_90 : decode cX10_shift 90 = .ok (.ireturn, 1) := by decide +kernel
theorem dX10_sign_0 : decode cX10_sign 0 = .ok (.aload_n 0, 1) := by decide +kernel
theorem dX10_sign_1 : decode cX10_sign 1 = .ok (.iload_n 1, 1) := by decide +kernel
theorem dX10_sign_2 : decode cX10_sign 2 = .ok (.invokevirtual 259, 3) := by decide +kernel
theorem dX10_sign_5 : decode cX10_sign 5 = .ok (.ifnull 20, 3) := by decide +kernel
theorem dX10_sign_8 : decode cX10_sign 8 = .ok (.aload_n 0, 1) := by decide +kernel
theorem dX10_sign_9 : decode cX10_sign 9 = .ok (.iload_n 2, 1) := by decide +kernel
theorem dX10_sign_10 : decode cX10_sign 10 = .ok (.invokevirtual 137, 3) := by decide +kernel
theorem dX10_sign_13 : decode cX10_sign 13 = .ok (.ifCond .eq 12, 3) := by decide +kernel
theorem dX10_sign_16 : decode cX10_sign 16 = .ok (.iload_n 3, 1) := by decide +kernel
theorem dX10_sign_17 : decode cX10_sign 17 = .ok (.iconst 0, 1) := by decide +kernel
theorem dX10_sign_18 : decode cX10_sign 18 = .ok (.iconst 5, 1) := by decide +kernel
theorem dX10_sign_19 : decode cX10_sign 19 = .ok (.invokestatic 100, 3) := by decide +kernel
theorem dX10_sign_22 : decode cX10_sign 22 = .ok (.ifCond .ne 6, 3) := by decide +kernel
theorem dX10_sign_25 : decode cX10_sign 25 = .ok (.ldc 116, 2) := by decide +kernel
theorem dX10_sign_27 : decode cX10_sign 27 = .ok (.ireturn, 1) := by decide +kernel
theorem dX10_sign_28 : decode cX10_sign 28 = .ok (.aload_n 0, 1) := by decide +kernel
theorem dX10_sign_29 : decode cX10_sign 29 = .ok (.iload_n 1, 1) := by decide +kernel
theorem dX10_sign_30 : decode cX10_sign 30 = .ok (.iload_n 2, 1) := by decide +kernel
theorem dX10_sign_31 : decode cX10_sign 31 = .ok (.iconst 0, 1) := by decide +kernel
theorem dX10_sign_32 : decode cX10_sign 32 = .ok (.invokevirtual 264, 3) := by decide +kernel
theorem dX10_sign_35 : decode cX10_sign 35 = .ok (.astore 4, 2) := by decide +kernel
theorem dX10_sign_37 : decode cX10_sign 37 = .ok (.aload 4, 2) := by decide +kernel
theorem dX10_sign_39 : decode cX10_sign 39 = .ok (.invokevirtual 315, 3) := by decide +kernel
theorem dX10_sign_42 : decode cX10_sign 42 = .ok (.ifCond .eq 6, 3) := by decide +kernel
theorem dX10_sign_45 : decode cX10_sign 45 = .ok (.ldc 116, 2) := by decide +kernel
theorem dX10_sign_47 : decode cX10_sign 47 = .ok (.ireturn, 1) := by decide +kernel
theorem dX10_sign_48 : decode cX10_sign 48 = .ok (.iload_n 3, 1) := by decide +kernel
theorem dX10_sign_49 : decode cX10_sign 49 = .ok (.iconst 4, 1) := by decide +kernel
theorem dX10_sign_50 : decode cX10_sign 50 = .ok (.if_icmp .ne 18, 3) := by decide +kernel
theorem dX10_sign_53 : decode cX10_sign 53 = .ok (.aload_n 0, 1) := by decide +kernel
theorem dX10_sign_54 : decode cX10_sign 54 = .ok (.iload_n 1, 1) := by decide +kernel
theorem dX10_sign_55 : decode cX10_sign 55 = .ok (.iconst 0, 1) := by decide +kernel
theorem dX10_sign_56 : decode cX10_sign 56 = .ok (.invokevirtual 319, 3) := by decide +kernel
theorem dX10_sign_59 : decode cX10_sign 59 = .ok (.aload_n 0, 1) := by decide +kernel
theorem dX10_sign_60 : decode cX10_sign 60 = .ok (.iload_n 1, 1) := by decide +kernel
theorem dX10_sign_61 : decode cX10_sign 61 = .ok (.iload_n 2, 1) := by decide +kernel
theorem dX10_sign_62 : decode cX10_sign 62 = .ok (.aload 4, 2) := by decide +kernel
theorem dX10_sign_64 : decode cX10_sign 64 = .ok (.invokevirtual 323, 3) := by decide +kernel
theorem dX10_sign_67 : decode cX10_sign 67 = .ok (.ireturn, 1) := by decide +kernel
theorem dX10_sign_68 : decode cX10_sign 68 = .ok (.aload_n 0, 1) := by decide +kernel
theorem dX10_sign_69 : decode cX10_sign 69 = .ok (.getfield 49, 3) := by decide +kernel
theorem dX10_sign_72 : decode cX10_sign 72 = .ok (.aload_n 0, 1) := by decide +kernel
theorem dX10_sign_73 : decode cX10_sign 73 = .ok (.getfield 10, 3) := by decide +kernel
theorem dX10_sign_76 : decode cX10_sign 76 = .ok (.iload_n 2, 1) := by decide +kernel
theorem dX10_sign_77 : decode cX10_sign 77 = .ok (.iconst 0, 1) := by decide +kernel
theorem dX10_sign_78 : decode cX10_sign 78 = .ok (.invokevirtual 143, 3) := by decide +kernel
theorem dX10_sign_81 : decode cX10_sign 81 = .ok (.aload_n 0, 1) := by decide +kernel
theorem dX10_sign_82 : decode cX10_sign 82 = .ok (.getfield 63, 3) := by decide +kernel
theorem dX10_sign_85 : decode cX10_sign 85 = .ok (.aload_n 0, 1) := by decide +kernel
theorem dX10_sign_86 : decode cX10_sign 86 = .ok (.getfield 49, 3) := by decide +kernel
theorem dX10_sign_89 : decode cX10_sign 89 = .ok (.aload 4, 2) := by decide +kernel
theorem dX10_sign_91 : decode cX10_sign 91 = .ok (.invokevirtual 327, 3) := by decide +kernel
theorem dX10_sign_94 : decode cX10_sign 94 = .ok (.aload_n 0, 1) := by decide +kernel
theorem dX10_sign_95 : decode cX10_sign 95 = .ok (.getfield 63, 3) := by decide +kernel
theorem dX10_sign_98 : decode cX10_sign 98 = .ok (.iload_n 3, 1) := by decide +kernel
theorem dX10_sign_99 : decode cX10_sign 99 = .ok (.invokevirtual 330, 3) := by decide +kernel
theorem dX10_sign_102 : decode cX10_sign 102 = .ok (.ireturn, 1) := by decide +kernel
theorem dX10_sorted_0 : decode cX10_sorted 0 = .ok (.aload_n 0, 1) := by decide +kernel
theorem dX10_sorted_1 : decode cX10_sorted 1 = .ok (.iload_n 1, 1) := by decide +kernel
theorem dX10_sorted_2 : decode cX10_sorted 2 = .ok (.iload_n 2, 1) := by decide +kernel
theorem dX10_sorted_3 : decode cX10_sorted 3 = .ok (.iload_n 3, 1) := by decide +kernel
theorem dX10_sorted_4 : decode cX10_sorted 4 = .ok (.invokevirtual 343, 3) := by decide +kernel
theorem dX10_sorted_7 : decode cX10_sorted 7 = .ok (.ifCond .ne 5, 3) := by decide +kernel
theorem dX10_sorted_10 : decode cX10_sorted 10 = .ok (.iconst (-1), 1) := by decide +kernel
theorem dX10_sorted_11 : decode cX10_sorted 11 = .ok (.ireturn, 1) := by decide +kernel
theorem dX10_sorted_12 : decode cX10_sorted 12 = .ok (.aload_n 0, 1) := by decide +kernel
theorem dX10_sorted_13 : decode cX10_sorted 13 = .ok (.invokevirtual 346, 3) := by decide +kernel
theorem dX10_sorted_16 : decode cX10_sorted 16 = .ok (.ireturn, 1) := by decide +kernel
theorem dX10_sorterAt_0 : decode cX10_sorterAt 0 = .ok (.iload_n 1, 1) := by decide +kernel
theorem dX10_sorterAt_1 : decode cX10_sorterAt 1 = .ok (.iconst 0, 1) := by decide +kernel
theorem dX10_sorterAt_2 : decode cX10_sorterAt 2 = .ok (.aload_n 0, 1) := by decide +kernel
theorem dX10_sorterAt_3 : decode cX10_sorterAt 3 = .ok (.getfield 175, 3) := by decide +kernel
theorem dX10_sorterAt_6 : decode cX10_sorterAt 6 = .ok (.iconst 1, 1) := by decide +kernel
theorem dX10_sorterAt_7 : decode cX10_sorterAt 7 = .ok (.isub, 1) := by decide +kernel
theorem dX10_sorterAt_8 : decode cX10_sorterAt 8 = .ok (.invokestatic 100, 3) := by decide +kernel
theorem dX10_sorterAt_11 : decode cX10_sorterAt 11 = .ok (.ifCond .eq 18, 3) := by decide +kernel
theorem dX10_sorterAt_14 : decode cX10_sorterAt 14 = .ok (.iload_n 1, 1) := by decide +kernel
theorem dX10_sorterAt_15 : decode cX10_sorterAt 15 = .ok (.bipush 6, 2) := by decide +kernel
theorem dX10_sorterAt_17 : decode cX10_sorterAt 17 = .ok (.if_icmp .ge 12, 3) := by decide +kernel
theorem dX10_sorterAt_20 : decode cX10_sorterAt 20 = .ok (.aload_n 0, 1) := by decide +kernel
theorem dX10_sorterAt_21 : decode cX10_sorterAt 21 = .ok (.getfield 29, 3) := by decide +kernel
theorem dX10_sorterAt_24 : decode cX10_sorterAt 24 = .ok (.iload_n 1, 1) := by decide +kernel
theorem dX10_sorterAt_25 : decode cX10_sorterAt 25 = .ok (.aaload, 1) := by decide +kernel
theorem dX10_sorterAt_26 : decode cX10_sorterAt 26 = .ok (.goto 4, 3) := by decide +kernel
theorem dX10_sorterAt_29 : decode cX10_sorterAt 29 = .ok (.aconst_null, 1) := by decide +kernel
theorem dX10_sorterAt_30 : decode cX10_sorterAt 30 = .ok (.areturn, 1) := by decide +kernel
theorem dX10_spread_0 : decode cX10_spread 0 = .ok (.aload_n 0, 1) := by decide +kernel
theorem dX10_spread_1 : decode cX10_spread 1 = .ok (.iload_n 1, 1) := by decide +kernel
theorem dX10_spread_2 : decode cX10_spread 2 = .ok (.invokevirtual 137, 3) := by decide +kernel
theorem dX10_spread_5 : decode cX10_spread 5 = .ok (.ifCond .ne 7, 3) := by decide +kernel
theorem dX10_spread_8 : decode cX10_spread 8 = .ok (.ldc2_w 274, 3) := by decide +kernel
theorem dX10_spread_11 : decode cX10_spread 11 = .ok (.lreturn, 1) := by decide +kernel
theorem dX10_spread_12 : decode cX10_spread 12 = .ok (.aload_n 0, 1) := by decide +kernel
theorem dX10_spread_13 : decode cX10_spread 13 = .ok (.getfield 49, 3) := by decide +kernel
theorem dX10_spread_16 : decode cX10_spread 16 = .ok (.aload_n 0, 1) := by decide +kernel
theorem dX10_spread_17 : decode cX10_spread 17 = .ok (.getfield 10, 3) := by decide +kernel
theorem dX10_spread_20 : decode cX10_spread 20 = .ok (.iload_n 1, 1) := by decide +kernel
theorem dX10_spread_21 : decode cX10_spread 21 = .ok (.iconst 0, 1) := by decide +kernel
theorem dX10_spread_22 : decode cX10_spread 22 = .ok (.invokevirtual 143, 3) := by decide +kernel
theorem dX10_spread_25 : decode cX10_spread 25 = .ok (.aload_n 0, 1) := by decide +kernel
theorem dX10_spread_26 : decode cX10_spread 26 = .ok (.getfield 49, 3) := by decide +kernel
theorem dX10_spread_29 : decode cX10_spread 29 = .ok (.getfield 246, 3) := by decide +kernel
theorem dX10_spread_32 : decode cX10_spread 32 = .ok (.ifCond .ne 9, 3) := by decide +kernel
theorem dX10_spread_35 : decode cX10_spread 35 = .ok (.ldc2_w 274, 3) := by decide +kernel
theorem dX10_spread_38 : decode cX10_spread 38 = .ok (.goto 10, 3) := by decide +kernel
theorem dX10_spread_41 : decode cX10_spread 41 = .ok (.aload_n 0, 1) := by decide +kernel
theorem dX10_spread_42 : decode cX10_spread 42 = .ok (.getfield 49, 3) := by decide +kernel
theorem dX10_spread_45 : decode cX10_spread 45 = .ok (.getfield 276, 3) := by decide +kernel
theorem dX10_spread_48 : decode cX10_spread 48 = .ok (.lreturn, 1) := by decide +kernel
theorem dX10_star_0 : decode cX10_star 0 = .ok (.iload_n 1, 1) := by decide +kernel
theorem dX10_star_1 : decode cX10_star 1 = .ok (.invokestatic 96, 3) := by decide +kernel
theorem dX10_star_4 : decode cX10_star 4 = .ok (.ifCond .eq 24, 3) := by decide +kernel
theorem dX10_star_7 : decode cX10_star 7 = .ok (.iload_n 2, 1) := by decide +kernel
theorem dX10_star_8 : decode cX10_star 8 = .ok (.iconst 0, 1) := by decide +kernel
theorem dX10_star_9 : decode cX10_star 9 = .ok (.bipush 7, 2) := by decide +kernel
theorem dX10_star_11 : decode cX10_star 11 = .ok (.invokestatic 100, 3) := by decide +kernel
theorem dX10_star_14 : decode cX10_star 14 = .ok (.ifCond .eq 14, 3) := by decide +kernel
theorem dX10_star_17 : decode cX10_star 17 = .ok (.iload_n 3, 1) := by decide +kernel
theorem dX10_star_18 : decode cX10_star 18 = .ok (.iconst 1, 1) := by decide +kernel
theorem dX10_star_19 : decode cX10_star 19 = .ok (.sipush 1000, 3) := by decide +kernel
theorem dX10_star_22 : decode cX10_star 22 = .ok (.invokestatic 100, 3) := by decide +kernel
theorem dX10_star_25 : decode cX10_star 25 = .ok (.ifCond .ne 5, 3) := by decide +kernel
theorem dX10_star_28 : decode cX10_star 28 = .ok (.iconst (-1), 1) := by decide +kernel
theorem dX10_star_29 : decode cX10_star 29 = .ok (.ireturn, 1) := by decide +kernel
theorem dX10_star_30 : decode cX10_star 30 = .ok (.aload_n 0, 1) := by decide +kernel
theorem dX10_star_31 : decode cX10_star 31 = .ok (.getfield 10, 3) := by decide +kernel
theorem dX10_star_34 : decode cX10_star 34 = .ok (.iload_n 1, 1) := by decide +kernel
theorem dX10_star_35 : decode cX10_star 35 = .ok (.iload_n 2, 1) := by decide +kernel
theorem dX10_star_36 : decode cX10_star 36 = .ok (.iload_n 3, 1) := by decide +kernel
theorem dX10_star_37 : decode cX10_star 37 = .ok (.invokevirtual 104, 3) := by decide +kernel
theorem dX10_star_40 : decode cX10_star 40 = .ok (.ireturn, 1) := by decide +kernel
theorem dX10_text_0 : decode cX10_text 0 = .ok (.iload_n 1, 1) := by decide +kernel
theorem dX10_text_1 : decode cX10_text 1 = .ok (.ifCond .ne 10, 3) := by decide +kernel
theorem dX10_text_4 : decode cX10_text 4 = .ok (.aload_n 0, 1) := by decide +kernel
theorem dX10_text_5 : decode cX10_text 5 = .ok (.getfield 169, 3) := by decide +kernel
theorem dX10_text_8 : decode cX10_text 8 = .ok (.goto 19, 3) := by decide +kernel
theorem dX10_text_11 : decode cX10_text 11 = .ok (.iload_n 1, 1) := by decide +kernel
theorem dX10_text_12 : decode cX10_text 12 = .ok (.iconst 1, 1) := by decide +kernel
theorem dX10_text_13 : decode cX10_text 13 = .ok (.if_icmp .ne 10, 3) := by decide +kernel
theorem dX10_text_16 : decode cX10_text 16 = .ok (.aload_n 0, 1) := by decide +kernel
theorem dX10_text_17 : decode cX10_text 17 = .ok (.getfield 172, 3) := by decide +kernel
theorem dX10_text_20 : decode cX10_text 20 = .ok (.goto 7, 3) := by decide +kernel
theorem dX10_text_23 : decode cX10_text 23 = .ok (.aload_n 0, 1) := by decide +kernel
theorem dX10_text_24 : decode cX10_text 24 = .ok (.getfield 175, 3) := by decide +kernel
theorem dX10_text_27 : decode cX10_text 27 = .ok (.istore_n 2, 1) := by decide +kernel
theorem dX10_text_28 : decode cX10_text 28 = .ok (.iload_n 1, 1) := by decide +kernel
theorem dX10_text_29 : decode cX10_text 29 = .ok (.iconst 0, 1) := by decide +kernel
theorem dX10_text_30 : decode cX10_text 30 = .ok (.iconst 2, 1) := by decide +kernel
theorem dX10_text_31 : decode cX10_text 31 = .ok (.invokestatic 100, 3) := by decide +kernel
theorem dX10_text_34 : decode cX10_text 34 = .ok (.ifCond .eq 9, 3) := by decide +kernel
theorem dX10_text_37 : decode cX10_text 37 = .ok (.iload_n 2, 1) := by decide +kernel
theorem dX10_text_38 : decode cX10_text 38 = .ok (.bipush 6, 2) := by decide +kernel
theorem dX10_text_40 : decode cX10_text 40 = .ok (.if_icmp .lt 5, 3) := by decide +kernel
theorem dX10_text_43 : decode cX10_text 43 = .ok (.iconst (-1), 1) := by decide +kernel
theorem dX10_text_44 : decode cX10_text 44 = .ok (.ireturn, 1) := by decide +kernel
theorem dX10_text_45 : decode cX10_text 45 = .ok (.aload_n 0, 1) := by decide +kernel
theorem dX10_text_46 : decode cX10_text 46 = .ok (.getfield 35, 3) := by decide +kernel
theorem dX10_text_49 : decode cX10_text 49 = .ok (.aload_n 0, 1) := by decide +kernel
theorem dX10_text_50 : decode cX10_text 50 = .ok (.getfield 10, 3) := by decide +kernel
theorem dX10_text_53 : decode cX10_text 53 = .ok (.getfield 178, 3) := by decide +kernel
theorem dX10_text_56 : decode cX10_text 56 = .ok (.aload_n 0, 1) := by decide +kernel
theorem dX10_text_57 : decode cX10_text 57 = .ok (.getfield 10, 3) := by decide +kernel
theorem dX10_text_60 : decode cX10_text 60 = .ok (.getfield 162, 3) := by decide +kernel
theorem dX10_text_63 : decode cX10_text 63 = .ok (.iload_n 1, 1) := by decide +kernel
theorem dX10_text_64 : decode cX10_text 64 = .ok (.invokevirtual 182, 3) := by decide +kernel
theorem dX10_text_67 : decode cX10_text 67 = .ok (.istore_n 3, 1) := by decide +kernel
theorem dX10_text_68 : decode cX10_text 68 = .ok (.aload_n 0, 1) := by decide +kernel
theorem dX10_text_69 : decode cX10_text 69 = .ok (.getfield 10, 3) := by decide +kernel
theorem dX10_text_72 : decode cX10_text 72 = .ok (.iconst 0, 1) := by decide +kernel
theorem dX10_text_73 : decode cX10_text 73 = .ok (.putfield 162, 3) := by decide +kernel
theorem dX10_text_76 : decode cX10_text 76 = .ok (.iload_n 3, 1) := by decide +kernel
theorem dX10_text_77 : decode cX10_text 77 = .ok (.ifCond .eq 8, 3) := by decide +kernel
theorem dX10_text_80 : decode cX10_text 80 = .ok (.bipush (-2), 2) := by decide +kernel
theorem dX10_text_82 : decode cX10_text 82 = .ok (.iload_n 3, 1) := by decide +kernel
theorem dX10_text_83 : decode cX10_text 83 = .ok (.isub, 1) := by decide +kernel
theorem dX10_text_84 : decode cX10_text 84 = .ok (.ireturn, 1) := by decide +kernel
theorem dX10_text_85 : decode cX10_text 85 = .ok (.aload_n 0, 1) := by decide +kernel
theorem dX10_text_86 : decode cX10_text 86 = .ok (.iload_n 1, 1) := by decide +kernel
theorem dX10_text_87 : decode cX10_text 87 = .ok (.iload_n 2, 1) := by decide +kernel
theorem dX10_text_88 : decode cX10_text 88 = .ok (.aload_n 0, 1) := by decide +kernel
theorem dX10_text_89 : decode cX10_text 89 = .ok (.getfield 35, 3) := by decide +kernel
theorem dX10_text_92 : decode cX10_text 92 = .ok (.invokevirtual 186, 3) := by decide +kernel
theorem dX10_text_95 : decode cX10_text 95 = .ok (.invokevirtual 190, 3) := by decide +kernel
theorem dX10_text_98 : decode cX10_text 98 = .ok (.iload_n 2, 1) := by decide +kernel
theorem dX10_text_99 : decode cX10_text 99 = .ok (.ireturn, 1) := by decide +kernel
theorem dX10_tried_0 : decode cX10_tried 0 = .ok (.iload_n 3, 1) := by decide +kernel
theorem dX10_tried_1 : decode cX10_tried 1 = .ok (.invokestatic 234, 3) := by decide +kernel
theorem dX10_tried_4 : decode cX10_tried 4 = .ok (.ifCond .eq 36, 3) := by decide +kernel
theorem dX10_tried_7 : decode cX10_tried 7 = .ok (.iload 4, 2) := by decide +kernel
theorem dX10_tried_9 : decode cX10_tried 9 = .ok (.iconst 1, 1) := by decide +kernel
theorem dX10_tried_10 : decode cX10_tried 10 = .ok (.bipush 10, 2) := by decide +kernel
theorem dX10_tried_12 : decode cX10_tried 12 = .ok (.invokestatic 100, 3) := by decide +kernel
theorem dX10_tried_15 : decode cX10_tried 15 = .ok (.ifCond .eq 25, 3) := by decide +kernel
theorem dX10_tried_18 : decode cX10_tried 18 = .ok (.iload 4, 2) := by decide +kernel
theorem dX10_tried_20 : decode cX10_tried 20 = .ok (.iload_n 3, 1) := by decide +kernel
theorem dX10_tried_21 : decode cX10_tried 21 = .ok (.if_icmp .ge 19, 3) := by decide +kernel
theorem dX10_tried_24 : decode cX10_tried 24 = .ok (.iload 5, 2) := by decide +kernel
theorem dX10_tried_26 : decode cX10_tried 26 = .ok (.iconst 0, 1) := by decide +kernel
theorem dX10_tried_27 : decode cX10_tried 27 = .ok (.iload_n 3, 1) := by decide +kernel
theorem dX10_tried_28 : decode cX10_tried 28 = .ok (.iconst 1, 1) := by decide +kernel
theorem dX10_tried_29 : decode cX10_tried 29 = .ok (.isub, 1) := by decide +kernel
theorem dX10_tried_30 : decode cX10_tried 30 = .ok (.invokestatic 100, 3) := by decide +kernel
theorem dX10_tried_33 : decode cX10_tried 33 = .ok (.ifCond .eq 7, 3) := by decide +kernel
theorem dX10_tried_36 : decode cX10_tried 36 = .ok (.iconst 1, 1) := by decide +kernel
theorem dX10_tried_37 : decode cX10_tried 37 = .ok (.goto 4, 3) := by decide +kernel
theorem dX10_tried_40 : decode cX10_tried 40 = .ok (.iconst 0, 1) := by decide +kernel
theorem dX10_tried_41 : decode cX10_tried 41 = .ok (.istore 7, 2) := by decide +kernel
theorem dX10_tried_43 : decode cX10_tried 43 = .ok (.aload_n 0, 1) := by decide +kernel
theorem dX10_tried_44 : decode cX10_tried 44 = .ok (.iload_n 1, 1) := by decide +kernel
theorem dX10_tried_45 : decode cX10_tried 45 = .ok (.invokevirtual 137, 3) := by decide +kernel
theorem dX10_tried_48 : decode cX10_tried 48 = .ok (.ifCond .eq 25, 3) := by decide +kernel
theorem dX10_tried_51 : decode cX10_tried 51 = .ok (.iload_n 2, 1) := by decide +kernel
theorem dX10_tried_52 : decode cX10_tried 52 = .ok (.invokestatic 140, 3) := by decide +kernel
theorem dX10_tried_55 : decode cX10_tried 55 = .ok (.ifCond .eq 18, 3) := by decide +kernel
theorem dX10_tried_58 : decode cX10_tried 58 = .ok (.iload 7, 2) := by decide +kernel
theorem dX10_tried_60 : decode cX10_tried 60 = .ok (.ifCond .eq 13, 3) := by decide +kernel
theorem dX10_tried_63 : decode cX10_tried 63 = .ok (.iload 6, 2) := by decide +kernel
theorem dX10_tried_65 : decode cX10_tried 65 = .ok (.iconst 0, 1) := by decide +kernel
theorem dX10_tried_66 : decode cX10_tried 66 = .ok (.iconst 4, 1) := by decide +kernel
theorem dX10_tried_67 : decode cX10_tried 67 = .ok (.invokestatic 100, 3) := by decide +kernel
theorem dX10_tried_70 : decode cX10_tried 70 = .ok (.ifCond .ne 7, 3) := by decide +kernel
theorem dX10_tried_73 : decode cX10_tried 73 = .ok (.ldc2_w 237, 3) := by decide +kernel
theorem dX10_tried_76 : decode cX10_tried 76 = .ok (.lreturn, 1) := by decide +kernel
theorem dX10_tried_77 : decode cX10_tried 77 = .ok (.aload_n 0, 1) := by decide +kernel
theorem dX10_tried_78 : decode cX10_tried 78 = .ok (.getfield 49, 3) := by decide +kernel
theorem dX10_tried_81 : decode cX10_tried 81 = .ok (.aload_n 0, 1) := by decide +kernel
theorem dX10_tried_82 : decode cX10_tried 82 = .ok (.getfield 10, 3) := by decide +kernel
theorem dX10_tried_85 : decode cX10_tried 85 = .ok (.iload_n 1, 1) := by decide +kernel
theorem dX10_tried_86 : decode cX10_tried 86 = .ok (.iload_n 2, 1) := by decide +kernel
theorem dX10_tried_87 : decode cX10_tried 87 = .ok (.invokevirtual 143, 3) := by decide +kernel
theorem dX10_tried_90 : decode cX10_tried 90 = .ok (.aload_n 0, 1) := by decide +kernel
theorem dX10_tried_91 : decode cX10_tried 91 = .ok (.getfield 49, 3) := by decide +kernel
theorem dX10_tried_94 : decode cX10_tried 94 = .ok (.iload_n 3, 1) := by decide +kernel
theorem dX10_tried_95 : decode cX10_tried 95 = .ok (.iload 4, 2) := by decide +kernel
theorem dX10_tried_97 : decode cX10_tried 97 = .ok (.iload 5, 2) := by decide +kernel
theorem dX10_tried_99 : decode cX10_tried 99 = .ok (.invokevirtual 239, 3) := by decide +kernel
theorem dX10_tried_102 : decode cX10_tried 102 = .ok (.iload 6, 2) := by decide +kernel
theorem dX10_tried_104 : decode cX10_tried 104 = .ok (.tableswitch 80 0 3 #[32, 41, 58, 66], 32) := by decide +kernel
theorem dX10_tried_136 : decode cX10_tried 136 = .ok (.aload_n 0, 1) := by decide +kernel
theorem dX10_tried_137 : decode cX10_tried 137 = .ok (.getfield 49, 3) := by decide +kernel
theorem dX10_tried_140 : decode cX10_tried 140 = .ok (.getfield 243, 3) := by decide +kernel
theorem dX10_tried_143 : decode cX10_tried 143 = .ok (.i2l, 1) := by decide +kernel
theorem dX10_tried_144 : decode cX10_tried 144 = .ok (.lreturn, 1) := by decide +kernel
theorem dX10_tried_145 : decode cX10_tried 145 = .ok (.aload_n 0, 1) := by decide +kernel
theorem dX10_tried_146 : decode cX10_tried 146 = .ok (.getfield 49, 3) := by decide +kernel
theorem dX10_tried_149 : decode cX10_tried 149 = .ok (.getfield 246, 3) := by decide +kernel
theorem dX10_tried_152 : decode cX10_tried 152 = .ok (.aload_n 0, 1) := by decide +kernel
theorem dX10_tried_153 : decode cX10_tried 153 = .ok (.getfield 49, 3) := by decide +kernel
theorem dX10_tried_156 : decode cX10_tried 156 = .ok (.getfield 243, 3) := by decide +kernel
theorem dX10_tried_159 : decode cX10_tried 159 = .ok (.isub, 1) := by decide +kernel
theorem dX10_tried_160 : decode cX10_tried 160 = .ok (.i2l, 1) := by decide +kernel
theorem dX10_tried_161 : decode cX10_tried 161 = .ok (.lreturn, 1) := by decide +kernel
theorem dX10_tried_162 : decode cX10_tried 162 = .ok (.aload_n 0, 1) := by decide +kernel
theorem dX10_tried_163 : decode cX10_tried 163 = .ok (.getfield 49, 3) := by decide +kernel
theorem dX10_tried_166 : decode cX10_tried 166 = .ok (.invokevirtual 249, 3) := by decide +kernel
theorem dX10_tried_169 : decode cX10_tried 169 = .ok (.lreturn, 1) := by decide +kernel
theorem dX10_tried_170 : decode cX10_tried 170 = .ok (.aload_n 0, 1) := by decide +kernel
theorem dX10_tried_171 : decode cX10_tried 171 = .ok (.getfield 49, 3) := by decide +kernel
theorem dX10_tried_174 : decode cX10_tried 174 = .ok (.iload_n 3, 1) := by decide +kernel
theorem dX10_tried_175 : decode cX10_tried 175 = .ok (.iload 4, 2) := by decide +kernel
theorem dX10_tried_177 : decode cX10_tried 177 = .ok (.iload 5, 2) := by decide +kernel
theorem dX10_tried_179 : decode cX10_tried 179 = .ok (.invokevirtual 253, 3) := by decide +kernel
theorem dX10_tried_182 : decode cX10_tried 182 = .ok (.i2l, 1) := by decide +kernel
theorem dX10_tried_183 : decode cX10_tried 183 = .ok (.lreturn, 1) := by decide +kernel
theorem dX10_tried_184 : decode cX10_tried 184 = .ok (.aload_n 0, 1) := by decide +kernel
theorem dX10_tried_185 : decode cX10_tried 185 = .ok (.getfield 49, 3) := by decide +kernel
theorem dX10_tried_188 : decode cX10_tried 188 = .ok (.invokevirtual 256, 3) := by decide +kernel
theorem dX10_tried_191 : decode cX10_tried 191 = .ok (.lreturn, 1) := by decide +kernel
theorem dX10_truly_0 : decode cX10_truly 0 = .ok (.aload_n 0, 1) := by decide +kernel
theorem dX10_truly_1 : decode cX10_truly 1 = .ok (.iload_n 1, 1) := by decide +kernel
theorem dX10_truly_2 : decode cX10_truly 2 = .ok (.invokevirtual 259, 3) := by decide +kernel
theorem dX10_truly_5 : decode cX10_truly 5 = .ok (.astore_n 3, 1) := by decide +kernel
theorem dX10_truly_6 : decode cX10_truly 6 = .ok (.aload_n 3, 1) := by decide +kernel
theorem dX10_truly_7 : decode cX10_truly 7 = .ok (.ifnull 11, 3) := by decide +kernel
theorem dX10_truly_10 : decode cX10_truly 10 = .ok (.aload_n 0, 1) := by decide +kernel
theorem dX10_truly_11 : decode cX10_truly 11 = .ok (.iload_n 2, 1) := by decide +kernel
theorem dX10_truly_12 : decode cX10_truly 12 = .ok (.invokevirtual 349, 3) := by decide +kernel
theorem dX10_truly_15 : decode cX10_truly 15 = .ok (.ifnonnull 7, 3) := by decide +kernel
theorem dX10_truly_18 : decode cX10_truly 18 = .ok (.ldc2_w 274, 3) := by decide +kernel
theorem dX10_truly_21 : decode cX10_truly 21 = .ok (.lreturn, 1) := by decide +kernel
theorem dX10_truly_22 : decode cX10_truly 22 = .ok (.aload_n 0, 1) := by decide +kernel
theorem dX10_truly_23 : decode cX10_truly 23 = .ok (.iload_n 1, 1) := by decide +kernel
theorem dX10_truly_24 : decode cX10_truly 24 = .ok (.aload_n 3, 1) := by decide +kernel
theorem dX10_truly_25 : decode cX10_truly 25 = .ok (.getfield 268, 3) := by decide +kernel
theorem dX10_truly_28 : decode cX10_truly 28 = .ok (.invokevirtual 299, 3) := by decide +kernel
theorem dX10_truly_31 : decode cX10_truly 31 = .ok (.i2l, 1) := by decide +kernel
theorem dX10_truly_32 : decode cX10_truly 32 = .ok (.lstore 4, 2) := by decide +kernel
theorem dX10_truly_34 : decode cX10_truly 34 = .ok (.aload_n 0, 1) := by decide +kernel
theorem dX10_truly_35 : decode cX10_truly 35 = .ok (.getfield 10, 3) := by decide +kernel
theorem dX10_truly_38 : decode cX10_truly 38 = .ok (.invokevirtual 303, 3) := by decide +kernel
theorem dX10_truly_41 : decode cX10_truly 41 = .ok (.i2l, 1) := by decide +kernel
theorem dX10_truly_42 : decode cX10_truly 42 = .ok (.lstore 6, 2) := by decide +kernel
theorem dX10_truly_44 : decode cX10_truly 44 = .ok (.lload 4, 2) := by decide +kernel
theorem dX10_truly_46 : decode cX10_truly 46 = .ok (.lconst 0, 1) := by decide +kernel
theorem dX10_truly_47 : decode cX10_truly 47 = .ok (.lcmp, 1) := by decide +kernel
theorem dX10_truly_48 : decode cX10_truly 48 = .ok (.ifCond .ne 7, 3) := by decide +kernel
theorem dX10_truly_51 : decode cX10_truly 51 = .ok (.ldc2_w 262, 3) := by decide +kernel
theorem dX10_truly_54 : decode cX10_truly 54 = .ok (.lreturn, 1) := by decide +kernel
