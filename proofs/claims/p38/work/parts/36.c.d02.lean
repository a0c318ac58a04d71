theorem dX10_isWeighed_5 : decode cX10_isWeighed 5 = .ok (.ifnull 19, 3) := by decide +kernel
theorem dX10_isWeighed_8 : decode cX10_isWeighed 8 = .ok (.aload_n 0, 1) := by decide +kernel
theorem dX10_isWeighed_9 : decode cX10_isWeighed 9 = .ok (.iload_n 2, 1) := by decide +kernel
theorem dX10_isWeighed_10 : decode cX10_isWeighed 10 = .ok (.invokevirtual 259, 3) := by decide +kernel
theorem dX10_isWeighed_13 : decode cX10_isWeighed 13 = .ok (.ifnull 11, 3) := by decide +kernel
theorem dX10_isWeighed_16 : decode cX10_isWeighed 16 = .ok (.aload_n 0, 1) := by decide +kernel
theorem dX10_isWeighed_17 : decode cX10_isWeighed 17 = .ok (.iload_n 3, 1) := by decide +kernel
theorem dX10_isWeighed_18 : decode cX10_isWeighed 18 = .ok (.invokevirtual 137, 3) := by decide +kernel
theorem dX10_isWeighed_21 : decode cX10_isWeighed 21 = .ok (.ifCond .ne 5, 3) := by decide +kernel
theorem dX10_isWeighed_24 : decode cX10_isWeighed 24 = .ok (.iconst 0, 1) := by decide +kernel
theorem dX10_isWeighed_25 : decode cX10_isWeighed 25 = .ok (.ireturn, 1) := by decide +kernel
theorem dX10_isWeighed_26 : decode cX10_isWeighed 26 = .ok (.aload_n 0, 1) := by decide +kernel
theorem dX10_isWeighed_27 : decode cX10_isWeighed 27 = .ok (.iload_n 2, 1) := by decide +kernel
theorem dX10_isWeighed_28 : decode cX10_isWeighed 28 = .ok (.iload_n 3, 1) := by decide +kernel
theorem dX10_isWeighed_29 : decode cX10_isWeighed 29 = .ok (.iconst 0, 1) := by decide +kernel
theorem dX10_isWeighed_30 : decode cX10_isWeighed 30 = .ok (.invokevirtual 264, 3) := by decide +kernel
theorem dX10_isWeighed_33 : decode cX10_isWeighed 33 = .ok (.invokevirtual 315, 3) := by decide +kernel
theorem dX10_isWeighed_36 : decode cX10_isWeighed 36 = .ok (.ifCond .eq 5, 3) := by decide +kernel
theorem dX10_isWeighed_39 : decode cX10_isWeighed 39 = .ok (.iconst 0, 1) := by decide +kernel
theorem dX10_isWeighed_40 : decode cX10_isWeighed 40 = .ok (.ireturn, 1) := by decide +kernel
theorem dX10_isWeighed_41 : decode cX10_isWeighed 41 = .ok (.aload_n 0, 1) := by decide +kernel
theorem dX10_isWeighed_42 : decode cX10_isWeighed 42 = .ok (.iload_n 2, 1) := by decide +kernel
theorem dX10_isWeighed_43 : decode cX10_isWeighed 43 = .ok (.iconst 0, 1) := by decide +kernel
theorem dX10_isWeighed_44 : decode cX10_isWeighed 44 = .ok (.invokevirtual 319, 3) := by decide +kernel
theorem dX10_isWeighed_47 : decode cX10_isWeighed 47 = .ok (.aload_n 0, 1) := by decide +kernel
theorem dX10_isWeighed_48 : decode cX10_isWeighed 48 = .ok (.iload_n 1, 1) := by decide +kernel
theorem dX10_isWeighed_49 : decode cX10_isWeighed 49 = .ok (.iload_n 2, 1) := by decide +kernel
theorem dX10_isWeighed_50 : decode cX10_isWeighed 50 = .ok (.iload_n 3, 1) := by decide +kernel
theorem dX10_isWeighed_51 : decode cX10_isWeighed 51 = .ok (.invokevirtual 464, 3) := by decide +kernel
theorem dX10_isWeighed_54 : decode cX10_isWeighed 54 = .ok (.iconst 1, 1) := by decide +kernel
theorem dX10_isWeighed_55 : decode cX10_isWeighed 55 = .ok (.ireturn, 1) := by decide +kernel
theorem dX10_keepText_0 : decode cX10_keepText 0 = .ok (.iload_n 2, 1) := by decide +kernel
theorem dX10_keepText_1 : decode cX10_keepText 1 = .ok (.iconst 0, 1) := by decide +kernel
theorem dX10_keepText_2 : decode cX10_keepText 2 = .ok (.iconst 5, 1) := by decide +kernel
theorem dX10_keepText_3 : decode cX10_keepText 3 = .ok (.invokestatic 100, 3) := by decide +kernel
theorem dX10_keepText_6 : decode cX10_keepText 6 = .ok (.ifCond .ne 4, 3) := by decide +kernel
theorem dX10_keepText_9 : decode cX10_keepText 9 = .ok (.return_, 1) := by decide +kernel
theorem dX10_keepText_10 : decode cX10_keepText 10 = .ok (.iload_n 1, 1) := by decide +kernel
theorem dX10_keepText_11 : decode cX10_keepText 11 = .ok (.ifCond .ne 23, 3) := by decide +kernel
theorem dX10_keepText_14 : decode cX10_keepText 14 = .ok (.aload_n 0, 1) := by decide +kernel
theorem dX10_keepText_15 : decode cX10_keepText 15 = .ok (.getfield 22, 3) := by decide +kernel
theorem dX10_keepText_18 : decode cX10_keepText 18 = .ok (.iload_n 2, 1) := by decide +kernel
theorem dX10_keepText_19 : decode cX10_keepText 19 = .ok (.aload_n 3, 1) := by decide +kernel
theorem dX10_keepText_20 : decode cX10_keepText 20 = .ok (.aastore, 1) := by decide +kernel
theorem dX10_keepText_21 : decode cX10_keepText 21 = .ok (.aload_n 0, 1) := by decide +kernel
theorem dX10_keepText_22 : decode cX10_keepText 22 = .ok (.dup, 1) := by decide +kernel
theorem dX10_keepText_23 : decode cX10_keepText 23 = .ok (.getfield 169, 3) := by decide +kernel
theorem dX10_keepText_26 : decode cX10_keepText 26 = .ok (.iconst 1, 1) := by decide +kernel
theorem dX10_keepText_27 : decode cX10_keepText 27 = .ok (.iadd, 1) := by decide +kernel
theorem dX10_keepText_28 : decode cX10_keepText 28 = .ok (.putfield 169, 3) := by decide +kernel
theorem dX10_keepText_31 : decode cX10_keepText 31 = .ok (.goto 45, 3) := by decide +kernel
theorem dX10_keepText_34 : decode cX10_keepText 34 = .ok (.iload_n 1, 1) := by decide +kernel
theorem dX10_keepText_35 : decode cX10_keepText 35 = .ok (.iconst 1, 1) := by decide +kernel
theorem dX10_keepText_36 : decode cX10_keepText 36 = .ok (.if_icmp .ne 23, 3) := by decide +kernel
theorem dX10_keepText_39 : decode cX10_keepText 39 = .ok (.aload_n 0, 1) := by decide +kernel
theorem dX10_keepText_40 : decode cX10_keepText 40 = .ok (.getfield 26, 3) := by decide +kernel
theorem dX10_keepText_43 : decode cX10_keepText 43 = .ok (.iload_n 2, 1) := by decide +kernel
theorem dX10_keepText_44 : decode cX10_keepText 44 = .ok (.aload_n 3, 1) := by decide +kernel
theorem dX10_keepText_45 : decode cX10_keepText 45 = .ok (.aastore, 1) := by decide +kernel
theorem dX10_keepText_46 : decode cX10_keepText 46 = .ok (.aload_n 0, 1) := by decide +kernel
theorem dX10_keepText_47 : decode cX10_keepText 47 = .ok (.dup, 1) := by decide +kernel
theorem dX10_keepText_48 : decode cX10_keepText 48 = .ok (.getfield 172, 3) := by decide +kernel
theorem dX10_keepText_51 : decode cX10_keepText 51 = .ok (.iconst 1, 1) := by decide +kernel
theorem dX10_keepText_52 : decode cX10_keepText 52 = .ok (.iadd, 1) := by decide +kernel
theorem dX10_keepText_53 : decode cX10_keepText 53 = .ok (.putfield 172, 3) := by decide +kernel
theorem dX10_keepText_56 : decode cX10_keepText 56 = .ok (.goto 20, 3) := by decide +kernel
theorem dX10_keepText_59 : decode cX10_keepText 59 = .ok (.aload_n 0, 1) := by decide +kernel
theorem dX10_keepText_60 : decode cX10_keepText 60 = .ok (.getfield 29, 3) := by decide +kernel
theorem dX10_keepText_63 : decode cX10_keepText 63 = .ok (.iload_n 2, 1) := by decide +kernel
theorem dX10_keepText_64 : decode cX10_keepText 64 = .ok (.aload_n 3, 1) := by decide +kernel
theorem dX10_keepText_65 : decode cX10_keepText 65 = .ok (.aastore, 1) := by decide +kernel
theorem dX10_keepText_66 : decode cX10_keepText 66 = .ok (.aload_n 0, 1) := by decide +kernel
theorem dX10_keepText_67 : decode cX10_keepText 67 = .ok (.dup, 1) := by decide +kernel
theorem dX10_keepText_68 : decode cX10_keepText 68 = .ok (.getfield 175, 3) := by decide +kernel
theorem dX10_keepText_71 : decode cX10_keepText 71 = .ok (.iconst 1, 1) := by decide +kernel
theorem dX10_keepText_72 : decode cX10_keepText 72 = .ok (.iadd, 1) := by decide +kernel
theorem dX10_keepText_73 : decode cX10_keepText 73 = .ok (.putfield 175, 3) := by decide +kernel
theorem dX10_keepText_76 : decode cX10_keepText 76 = .ok (.return_, 1) := by decide +kernel
theorem dX10_keptAt_0 : decode cX10_keptAt 0 = .ok (.aload_n 0, 1) := by decide +kernel
theorem dX10_keptAt_1 : decode cX10_keptAt 1 = .ok (.iload_n 1, 1) := by decide +kernel
theorem dX10_keptAt_2 : decode cX10_keptAt 2 = .ok (.aaload, 1) := by decide +kernel
theorem dX10_keptAt_3 : decode cX10_keptAt 3 = .ok (.astore_n 2, 1) := by decide +kernel
theorem dX10_keptAt_4 : decode cX10_keptAt 4 = .ok (.aload_n 2, 1) := by decide +kernel
theorem dX10_keptAt_5 : decode cX10_keptAt 5 = .ok (.ifnonnull 15, 3) := by decide +kernel
theorem dX10_keptAt_8 : decode cX10_keptAt 8 = .ok (.new 67, 3) := by decide +kernel
theorem dX10_keptAt_11 : decode cX10_keptAt 11 = .ok (.dup, 1) := by decide +kernel
theorem dX10_keptAt_12 : decode cX10_keptAt 12 = .ok (.invokespecial 69, 3) := by decide +kernel
theorem dX10_keptAt_15 : decode cX10_keptAt 15 = .ok (.astore_n 2, 1) := by decide +kernel
theorem dX10_keptAt_16 : decode cX10_keptAt 16 = .ok (.aload_n 0, 1) := by decide +kernel
theorem dX10_keptAt_17 : decode cX10_keptAt 17 = .ok (.iload_n 1, 1) := by decide +kernel
theorem dX10_keptAt_18 : decode cX10_keptAt 18 = .ok (.aload_n 2, 1) := by decide +kernel
theorem dX10_keptAt_19 : decode cX10_keptAt 19 = .ok (.aastore, 1) := by decide +kernel
theorem dX10_keptAt_20 : decode cX10_keptAt 20 = .ok (.aload_n 2, 1) := by decide +kernel
theorem dX10_keptAt_21 : decode cX10_keptAt 21 = .ok (.areturn, 1) := by decide +kernel
theorem dX10_knownOf_0 : decode cX10_knownOf 0 = .ok (.iload_n 1, 1) := by decide +kernel
theorem dX10_knownOf_1 : decode cX10_knownOf 1 = .ok (.iload_n 2, 1) := by decide +kernel
theorem dX10_knownOf_2 : decode cX10_knownOf 2 = .ok (.iload_n 3, 1) := by decide +kernel
theorem dX10_knownOf_3 : decode cX10_knownOf 3 = .ok (.invokestatic 442, 3) := by decide +kernel
theorem dX10_knownOf_6 : decode cX10_knownOf 6 = .ok (.istore 4, 2) := by decide +kernel
theorem dX10_knownOf_8 : decode cX10_knownOf 8 = .ok (.iload 4, 2) := by decide +kernel
theorem dX10_knownOf_10 : decode cX10_knownOf 10 = .ok (.iconst (-1), 1) := by decide +kernel
theorem dX10_knownOf_11 : decode cX10_knownOf 11 = .ok (.if_icmp .ne 7, 3) := by decide +kernel
theorem dX10_knownOf_14 : decode cX10_knownOf 14 = .ok (.aconst_null, 1) := by decide +kernel
theorem dX10_knownOf_15 : decode cX10_knownOf 15 = .ok (.goto 10, 3) := by decide +kernel
theorem dX10_knownOf_18 : decode cX10_knownOf 18 = .ok (.aload_n 0, 1) := by decide +kernel
theorem dX10_knownOf_19 : decode cX10_knownOf 19 = .ok (.getfield 77, 3) := by decide +kernel
theorem dX10_knownOf_22 : decode cX10_knownOf 22 = .ok (.iload 4, 2) := by decide +kernel
theorem dX10_knownOf_24 : decode cX10_knownOf 24 = .ok (.aaload, 1) := by decide +kernel
theorem dX10_knownOf_25 : decode cX10_knownOf 25 = .ok (.astore 5, 2) := by decide +kernel
theorem dX10_knownOf_27 : decode cX10_knownOf 27 = .ok (.aload 5, 2) := by decide +kernel
theorem dX10_knownOf_29 : decode cX10_knownOf 29 = .ok (.ifnonnull 10, 3) := by decide +kernel
theorem dX10_knownOf_32 : decode cX10_knownOf 32 = .ok (.aload_n 0, 1) := by decide +kernel
theorem dX10_knownOf_33 : decode cX10_knownOf 33 = .ok (.getfield 70, 3) := by decide +kernel
theorem dX10_knownOf_36 : decode cX10_knownOf 36 = .ok (.goto 5, 3) := by decide +kernel
theorem dX10_knownOf_39 : decode cX10_knownOf 39 = .ok (.aload 5, 2) := by decide +kernel
theorem dX10_knownOf_41 : decode cX10_knownOf 41 = .ok (.areturn, 1) := by decide +kernel
theorem dX10_lawAt_0 : decode cX10_lawAt 0 = .ok (.iload_n 1, 1) := by decide +kernel
theorem dX10_lawAt_1 : decode cX10_lawAt 1 = .ok (.iconst 0, 1) := by decide +kernel
theorem dX10_lawAt_2 : decode cX10_lawAt 2 = .ok (.aload_n 0, 1) := by decide +kernel
theorem dX10_lawAt_3 : decode cX10_lawAt 3 = .ok (.getfield 169, 3) := by decide +kernel
theorem dX10_lawAt_6 : decode cX10_lawAt 6 = .ok (.iconst 1, 1) := by decide +kernel
theorem dX10_lawAt_7 : decode cX10_lawAt 7 = .ok (.isub, 1) := by decide +kernel
theorem dX10_lawAt_8 : decode cX10_lawAt 8 = .ok (.invokestatic 100, 3) := by decide +kernel
theorem dX10_lawAt_11 : decode cX10_lawAt 11 = .ok (.ifCond .eq 18, 3) := by decide +kernel
theorem dX10_lawAt_14 : decode cX10_lawAt 14 = .ok (.iload_n 1, 1) := by decide +kernel
theorem dX10_lawAt_15 : decode cX10_lawAt 15 = .ok (.bipush 6, 2) := by decide +kernel
theorem dX10_lawAt_17 : decode cX10_lawAt 17 = .ok (.if_icmp .ge 12, 3) := by decide +kernel
theorem dX10_lawAt_20 : decode cX10_lawAt 20 = .ok (.aload_n 0, 1) := by decide +kernel
theorem dX10_lawAt_21 : decode cX10_lawAt 21 = .ok (.getfield 22, 3) := by decide +kernel
theorem dX10_lawAt_24 : decode cX10_lawAt 24 = .ok (.iload_n 1, 1) := by decide +kernel
theorem dX10_lawAt_25 : decode cX10_lawAt 25 = .ok (.aaload, 1) := by decide +kernel
theorem dX10_lawAt_26 : decode cX10_lawAt 26 = .ok (.goto 4, 3) := by decide +kernel
theorem dX10_lawAt_29 : decode cX10_lawAt 29 = .ok (.aconst_null, 1) := by decide +kernel
theorem dX10_lawAt_30 : decode cX10_lawAt 30 = .ok (.areturn, 1) := by decide +kernel
theorem dX10_line_0 : decode cX10_line 0 = .ok (.iload_n 3, 1) := by decide +kernel
theorem dX10_line_1 : decode cX10_line 1 = .ok (.iconst 0, 1) := by decide +kernel
theorem dX10_line_2 : decode cX10_line 2 = .ok (.sipush 999, 3) := by decide +kernel
theorem dX10_line_5 : decode cX10_line 5 = .ok (.invokestatic 100, 3) := by decide +kernel
theorem dX10_line_8 : decode cX10_line 8 = .ok (.ifCond .eq 19, 3) := by decide +kernel
theorem dX10_line_11 : decode cX10_line 11 = .ok (.iload 4, 2) := by decide +kernel
theorem dX10_line_13 : decode cX10_line 13 = .ok (.iconst 0, 1) := by decide +kernel
theorem dX10_line_14 : decode cX10_line 14 = .ok (.sipush 999, 3) := by decide +kernel
theorem dX10_line_17 : decode cX10_line 17 = .ok (.invokestatic 100, 3) := by decide +kernel
theorem dX10_line_20 : decode cX10_line 20 = .ok (.ifCond .eq 7, 3) := by decide +kernel
theorem dX10_line_23 : decode cX10_line 23 = .ok (.iconst 1, 1) := by decide +kernel
theorem dX10_line_24 : decode cX10_line 24 = .ok (.goto 4, 3) := by decide +kernel
theorem dX10_line_27 : decode cX10_line 27 = .ok (.iconst 0, 1) := by decide +kernel
theorem dX10_line_28 : decode cX10_line 28 = .ok (.istore 6, 2) := by decide +kernel
theorem dX10_line_30 : decode cX10_line 30 = .ok (.aload_n 0, 1) := by decide +kernel
theorem dX10_line_31 : decode cX10_line 31 = .ok (.iload_n 1, 1) := by decide +kernel
theorem dX10_line_32 : decode cX10_line 32 = .ok (.invokevirtual 259, 3) := by decide +kernel
theorem dX10_line_35 : decode cX10_line 35 = .ok (.ifnull 29, 3) := by decide +kernel
theorem dX10_line_38 : decode cX10_line 38 = .ok (.iload_n 2, 1) := by decide +kernel
theorem dX10_line_39 : decode cX10_line 39 = .ok (.iconst 1, 1) := by decide +kernel
theorem dX10_line_40 : decode cX10_line 40 = .ok (.ldc_w 314, 3) := by decide +kernel
theorem dX10_line_43 : decode cX10_line 43 = .ok (.invokestatic 100, 3) := by decide +kernel
theorem dX10_line_46 : decode cX10_line 46 = .ok (.ifCond .eq 18, 3) := by decide +kernel
theorem dX10_line_49 : decode cX10_line 49 = .ok (.iload 6, 2) := by decide +kernel
theorem dX10_line_51 : decode cX10_line 51 = .ok (.ifCond .eq 13, 3) := by decide +kernel
theorem dX10_line_54 : decode cX10_line 54 = .ok (.iload 5, 2) := by decide +kernel
theorem dX10_line_56 : decode cX10_line 56 = .ok (.iconst 0, 1) := by decide +kernel
theorem dX10_line_57 : decode cX10_line 57 = .ok (.iconst 1, 1) := by decide +kernel
theorem dX10_line_58 : decode cX10_line 58 = .ok (.invokestatic 100, 3) := by decide +kernel
theorem dX10_line_61 : decode cX10_line 61 = .ok (.ifCond .ne 5, 3) := by decide +kernel
theorem dX10_line_64 : decode cX10_line 64 = .ok (.iconst (-1), 1) := by decide +kernel
theorem dX10_line_65 : decode cX10_line 65 = .ok (.ireturn, 1) := by decide +kernel
theorem dX10_line_66 : decode cX10_line 66 = .ok (.aload_n 0, 1) := by decide +kernel
theorem dX10_line_67 : decode cX10_line 67 = .ok (.getfield 10, 3) := by decide +kernel
theorem dX10_line_70 : decode cX10_line 70 = .ok (.invokevirtual 303, 3) := by decide +kernel
theorem dX10_line_73 : decode cX10_line 73 = .ok (.istore 7, 2) := by decide +kernel
theorem dX10_line_75 : decode cX10_line 75 = .ok (.iconst 0, 1) := by decide +kernel
theorem dX10_line_76 : decode cX10_line 76 = .ok (.istore 8, 2) := by decide +kernel
theorem dX10_line_78 : decode cX10_line 78 = .ok (.iconst 0, 1) := by decide +kernel
theorem dX10_line_79 : decode cX10_line 79 = .ok (.istore 9, 2) := by decide +kernel
theorem dX10_line_81 : decode cX10_line 81 = .ok (.iconst 0, 1) := by decide +kernel
theorem dX10_line_82 : decode cX10_line 82 = .ok (.istore 10, 2) := by decide +kernel
theorem dX10_line_84 : decode cX10_line 84 = .ok (.iload 10, 2) := by decide +kernel
theorem dX10_line_86 : decode cX10_line 86 = .ok (.bipush 21, 2) := by decide +kernel
theorem dX10_line_88 : decode cX10_line 88 = .ok (.if_icmp .ge 65, 3) := by decide +kernel
theorem dX10_line_91 : decode cX10_line 91 = .ok (.iload 7, 2) := by decide +kernel
theorem dX10_line_93 : decode cX10_line 93 = .ok (.aload_n 0, 1) := by decide +kernel
theorem dX10_line_94 : decode cX10_line 94 = .ok (.iload_n 1, 1) := by decide +kernel
theorem dX10_line_95 : decode cX10_line 95 = .ok (.iload 10, 2) := by decide +kernel
theorem dX10_line_97 : decode cX10_line 97 = .ok (.iload_n 2, 1) := by decide +kernel
theorem dX10_line_98 : decode cX10_line 98 = .ok (.imul, 1) := by decide +kernel
theorem dX10_line_99 : decode cX10_line 99 = .ok (.invokevirtual 299, 3) := by decide +kernel
theorem dX10_line_102 : decode cX10_line 102 = .ok (.isub, 1) := by decide +kernel
theorem dX10_line_103 : decode cX10_line 103 = .ok (.istore 11, 2) := by decide +kernel
theorem dX10_line_105 : decode cX10_line 105 = .ok (.iload 11, 2) := by decide +kernel
theorem dX10_line_107 : decode cX10_line 107 = .ok (.iload_n 3, 1) := by decide +kernel
theorem dX10_line_108 : decode cX10_line 108 = .ok (.imul, 1) := by decide +kernel
theorem dX10_line_109 : decode cX10_line 109 = .ok (.aload_n 0, 1) := by decide +kernel
theorem dX10_line_110 : decode cX10_line 110 = .ok (.iload_n 1, 1) := by decide +kernel
theorem dX10_line_111 : decode cX10_line 111 = .ok (.iconst 1, 1) := by decide +kernel
theorem dX10_line_112 : decode cX10_line 112 = .ok (.iload 10, 2) := by decide +kernel
theorem dX10_line_114 : decode cX10_line 114 = .ok (.iload_n 2, 1) := by decide +kernel
theorem dX10_line_115 : decode cX10_line 115 = .ok (.imul, 1) := by decide +kernel
theorem dX10_line_116 : decode cX10_line 116 = .ok (.invokevirtual 311, 3) := by decide +kernel
theorem dX10_line_119 : decode cX10_line 119 = .ok (.iload 4, 2) := by decide +kernel
theorem dX10_line_121 : decode cX10_line 121 = .ok (.imul, 1) := by decide +kernel
theorem dX10_line_122 : decode cX10_line 122 = .ok (.iadd, 1) := by decide +kernel
theorem dX10_line_123 : decode cX10_line 123 = .ok (.istore 12, 2) := by decide +kernel
theorem dX10_line_125 : decode cX10_line 125 = .ok (.iload 10, 2) := by decide +kernel
theorem dX10_line_127 : decode cX10_line 127 = .ok (.ifCond .eq 10, 3) := by decide +kernel
theorem dX10_line_130 : decode cX10_line 130 = .ok (.iload 12, 2) := by decide +kernel
theorem dX10_line_132 : decode cX10_line 132 = .ok (.iload 9, 2) := by decide +kernel
theorem dX10_line_134 : decode cX10_line 134 = .ok (.if_icmp .ge 13, 3) := by decide +kernel
theorem dX10_line_137 : decode cX10_line 137 = .ok (.iload 10, 2) := by decide +kernel
theorem dX10_line_139 : decode cX10_line 139 = .ok (.iload_n 2, 1) := by decide +kernel
theorem dX10_line_140 : decode cX10_line 140 = .ok (.imul, 1) := by decide +kernel
theorem dX10_line_141 : decode cX10_line 141 = .ok (.istore 8, 2) := by decide +kernel
theorem dX10_line_143 : decode cX10_line 143 = .ok (.iload 12, 2) := by decide +kernel
theorem dX10_line_145 : decode cX10_line 145 = .ok (.istore 9, 2) := by decide +kernel
theorem dX10_line_147 : decode cX10_line 147 = .ok (.iinc 10 1, 3) := by decide +kernel
theorem dX10_line_150 : decode cX10_line 150 = .ok (.goto (-66), 3) := by decide +kernel
theorem dX10_line_153 : decode cX10_line 153 = .ok (.iload 5, 2) := by decide +kernel
theorem dX10_line_155 : decode cX10_line 155 = .ok (.ifCond .ne 8, 3) := by decide +kernel
theorem dX10_line_158 : decode cX10_line 158 = .ok (.iload 8, 2) := by decide +kernel
theorem dX10_line_160 : decode cX10_line 160 = .ok (.goto 5, 3) := by decide +kernel
theorem dX10_line_163 : decode cX10_line 163 = .ok (.iload 9, 2) := by decide +kernel
theorem dX10_line_165 : decode cX10_line 165 = .ok (.ireturn, 1) := by decide +kernel
theorem dX10_make_0 : decode cX10_make 0 = .ok (.aload_n 0, 1) := by decide +kernel
theorem dX10_make_1 : decode cX10_make 1 = .ok (.iload_n 1, 1) := by decide +kernel
theorem dX10_make_2 : decode cX10_make 2 = .ok (.invokevirtual 194, 3) := by decide +kernel
theorem dX10_make_5 : decode cX10_make 5 = .ok (.astore 6, 2) := by decide +kernel
theorem dX10_make_7 : decode cX10_make 7 = .ok (.aload_n 0, 1) := by decide +kernel
theorem dX10_make_8 : decode cX10_make 8 = .ok (.getfield 10, 3) := by decide +kernel
theorem dX10_make_11 : decode cX10_make 11 = .ok (.iload_n 2, 1) := by decide +kernel
theorem dX10_make_12 : decode cX10_make 12 = .ok (.invokevirtual 108, 3) := by decide +kernel
theorem dX10_make_15 : decode cX10_make 15 = .ok (.astore 7, 2) := by decide +kernel
theorem dX10_make_17 : decode cX10_make 17 = .ok (.aload 6, 2) := by decide +kernel
theorem dX10_make_19 : decode cX10_make 19 = .ok (.ifnull 35, 3) := by decide +kernel
theorem dX10_make_22 : decode cX10_make 22 = .ok (.aload 7, 2) := by decide +kernel
theorem dX10_make_24 : decode cX10_make 24 = .ok (.ifnull 30, 3) := by decide +kernel
theorem dX10_make_27 : decode cX10_make 27 = .ok (.iload_n 3, 1) := by decide +kernel
theorem dX10_make_28 : decode cX10_make 28 = .ok (.ifCond .lt 26, 3) := by decide +kernel
theorem dX10_make_31 : decode cX10_make 31 = .ok (.iload 4, 2) := by decide +kernel
theorem dX10_make_33 : decode cX10_make 33 = .ok (.invokestatic 113, 3) := by decide +kernel
theorem dX10_make_36 : decode cX10_make 36 = .ok (.ifCond .eq 18, 3) := by decide +kernel
theorem dX10_make_39 : decode cX10_make 39 = .ok (.iload 5, 2) := by decide +kernel
theorem dX10_make_41 : decode cX10_make 41 = .ok (.invokestatic 113, 3) := by decide +kernel
theorem dX10_make_44 : decode cX10_make 44 = .ok (.ifCond .eq 10, 3) := by decide +kernel
theorem dX10_make_47 : decode cX10_make 47 = .ok (.iload 4, 2) := by decide +kernel
theorem dX10_make_49 : decode cX10_make 49 = .ok (.iload 5, 2) := by decide +kernel
theorem dX10_make_51 : decode cX10_make 51 = .ok (.if_icmp .le 5, 3) := by decide +kernel
theorem dX10_make_54 : decode cX10_make 54 = .ok (.iconst (-1), 1) := by decide +kernel
theorem dX10_make_55 : decode cX10_make 55 = .ok (.ireturn, 1) := by decide +kernel
theorem dX10_make_56 : decode cX10_make 56 = .ok (.iload_n 3, 1) := by decide +kernel
theorem dX10_make_57 : decode cX10_make 57 = .ok (.i2l, 1) := by decide +kernel
theorem dX10_make_58 : decode cX10_make 58 = .ok (.lstore 8, 2) := by decide +kernel
theorem dX10_make_60 : decode cX10_make 60 = .ok (.aload_n 0, 1) := by decide +kernel
theorem dX10_make_61 : decode cX10_make 61 = .ok (.getfield 88, 3) := by decide +kernel
theorem dX10_make_64 : decode cX10_make 64 = .ok (.iconst 2, 1) := by decide +kernel
theorem dX10_make_65 : decode cX10_make 65 = .ok (.iload_n 2, 1) := by decide +kernel
theorem dX10_make_66 : decode cX10_make 66 = .ok (.i2l, 1) := by decide +kernel
theorem dX10_make_67 : decode cX10_make 67 = .ok (.lastore, 1) := by decide +kernel
theorem dX10_make_68 : decode cX10_make 68 = .ok (.aload_n 0, 1) := by decide +kernel
theorem dX10_make_69 : decode cX10_make 69 = .ok (.getfield 88, 3) := by decide +kernel
theorem dX10_make_72 : decode cX10_make 72 = .ok (.iconst 3, 1) := by decide +kernel
theorem dX10_make_73 : decode cX10_make 73 = .ok (.aload 7, 2) := by decide +kernel
theorem dX10_make_75 : decode cX10_make 75 = .ok (.getfield 198, 3) := by decide +kernel
theorem dX10_make_78 : decode cX10_make 78 = .ok (.i2l, 1) := by decide +kernel
theorem dX10_make_79 : decode cX10_make 79 = .ok (.lastore, 1) := by decide +kernel
theorem dX10_make_80 : decode cX10_make 80 = .ok (.aload_n 0, 1) := by decide +kernel
theorem dX10_make_81 : decode cX10_make 81 = .ok (.getfield 88, 3) := by decide +kernel
theorem dX10_make_84 : decode cX10_make 84 = .ok (.iconst 4, 1) := by decide +kernel
theorem dX10_make_85 : decode cX10_make 85 = .ok (.aload 7, 2) := by decide +kernel
theorem dX10_make_87 : decode cX10_make 87 = .ok (.getfield 122, 3) := by decide +kernel
theorem dX10_make_90 : decode cX10_make 90 = .ok (.i2l, 1) := by decide +kernel
theorem dX10_make_91 : decode cX10_make 91 = .ok (.lastore, 1) := by decide +kernel
theorem dX10_make_92 : decode cX10_make 92 = .ok (.iload 4, 2) := by decide +kernel
theorem dX10_make_94 : decode cX10_make 94 = .ok (.istore 10, 2) := by decide +kernel
theorem dX10_make_96 : decode cX10_make 96 = .ok (.iload 10, 2) := by decide +kernel
theorem dX10_make_98 : decode cX10_make 98 = .ok (.iload 5, 2) := by decide +kernel
theorem dX10_make_100 : decode cX10_make 100 = .ok (.if_icmp .gt 133, 3) := by decide +kernel
theorem dX10_make_103 : decode cX10_make 103 = .ok (.aload_n 0, 1) := by decide +kernel
theorem dX10_make_104 : decode cX10_make 104 = .ok (.getfield 88, 3) := by decide +kernel
theorem dX10_make_107 : decode cX10_make 107 = .ok (.iconst 0, 1) := by decide +kernel
theorem dX10_make_108 : decode cX10_make 108 = .ok (.iload 10, 2) := by decide +kernel
theorem dX10_make_110 : decode cX10_make 110 = .ok (.i2l, 1) := by decide +kernel
theorem dX10_make_111 : decode cX10_make 111 = .ok (.lastore, 1) := by decide +kernel
theorem dX10_make_112 : decode cX10_make 112 = .ok (.aload_n 0, 1) := by decide +kernel
theorem dX10_make_113 : decode cX10_make 113 = .ok (.getfield 88, 3) := by decide +kernel
theorem dX10_make_116 : decode cX10_make 116 = .ok (.iconst 1, 1) := by decide +kernel
theorem dX10_make_117 : decode cX10_make 117 = .ok (.iload 10, 2) := by decide +kernel
theorem dX10_make_119 : decode cX10_make 119 = .ok (.sipush 150, 3) := by decide +kernel
theorem dX10_make_122 : decode cX10_make 122 = .ok (.idiv, 1) := by decide +kernel
theorem dX10_make_123 : decode cX10_make 123 = .ok (.i2l, 1) := by decide +kernel
theorem dX10_make_124 : decode cX10_make 124 = .ok (.lastore, 1) := by decide +kernel
theorem dX10_make_125 : decode cX10_make 125 = .ok (.aload_n 0, 1) := by decide +kernel
theorem dX10_make_126 : decode cX10_make 126 = .ok (.getfield 42, 3) := by decide +kernel
theorem dX10_make_129 : decode cX10_make 129 = .ok (.aload 6, 2) := by decide +kernel
theorem dX10_make_131 : decode cX10_make 131 = .ok (.aload_n 0, 1) := by decide +kernel
theorem dX10_make_132 : decode cX10_make 132 = .ok (.getfield 88, 3) := by decide +kernel
theorem dX10_make_135 : decode cX10_make 135 = .ok (.invokevirtual 201, 3) := by decide +kernel
theorem dX10_make_138 : decode cX10_make 138 = .ok (.ldc2_w 205, 3) := by decide +kernel
theorem dX10_make_141 : decode cX10_make 141 = .ok (.ldc2_w 207, 3) := by decide +kernel
theorem dX10_make_144 : decode cX10_make 144 = .ok (.invokestatic 209, 3) := by decide +kernel
theorem dX10_make_147 : decode cX10_make 147 = .ok (.lstore 11, 2) := by decide +kernel
theorem dX10_make_149 : decode cX10_make 149 = .ok (.lload 8, 2) := by decide +kernel
theorem dX10_make_151 : decode cX10_make 151 = .ok (.ldc2_w 213, 3) := by decide +kernel
theorem dX10_make_154 : decode cX10_make 154 = .ok (.lmul, 1) := by decide +kernel
theorem dX10_make_155 : decode cX10_make 155 = .ok (.ldc2_w 215, 3) := by decide +kernel
theorem dX10_make_158 : decode cX10_make 158 = .ok (.ladd, 1) := by decide +kernel
theorem dX10_make_159 : decode cX10_make 159 = .ok (.ldc2_w 217, 3) := by decide +kernel
theorem dX10_make_162 : decode cX10_make 162 = .ok (.lrem, 1) := by decide +kernel
theorem dX10_make_163 : decode cX10_make 163 = .ok (.lstore 8, 2) := by decide +kernel
theorem dX10_make_165 : decode cX10_make 165 = .ok (.lload 8, 2) := by decide +kernel
theorem dX10_make_167 : decode cX10_make 167 = .ok (.ldc2_w 219, 3) := by decide +kernel
theorem dX10_make_170 : decode cX10_make 170 = .ok (.ldiv, 1) := by decide +kernel
theorem dX10_make_171 : decode cX10_make 171 = .ok (.ldc2_w 221, 3) := by decide +kernel
theorem dX10_make_174 : decode cX10_make 174 = .ok (.aload 6, 2) := by decide +kernel
theorem dX10_make_176 : decode cX10_make 176 = .ok (.getfield 223, 3) := by decide +kernel
theorem dX10_make_179 : decode cX10_make 179 = .ok (.i2l, 1) := by decide +kernel
theorem dX10_make_180 : decode cX10_make 180 = .ok (.lmul, 1) := by decide +kernel
theorem dX10_make_181 : decode cX10_make 181 = .ok (.lconst 1, 1) := by decide +kernel
theorem dX10_make_182 : decode cX10_make 182 = .ok (.ladd, 1) := by decide +kernel
theorem dX10_make_183 : decode cX10_make 183 = .ok (.lrem, 1) := by decide +kernel
theorem dX10_make_184 : decode cX10_make 184 = .ok (.aload 6, 2) := by decide +kernel
theorem dX10_make_186 : decode cX10_make 186 = .ok (.getfield 223, 3) := by decide +kernel
theorem dX10_make_189 : decode cX10_make 189 = .ok (.i2l, 1) := by decide +kernel
theorem dX10_make_190 : decode cX10_make 190 = .ok (.lsub, 1) := by decide +kernel
theorem dX10_make_191 : decode cX10_make 191 = .ok (.lstore 13, 2) := by decide +kernel
theorem dX10_make_193 : decode cX10_make 193 = .ok (.aload 7, 2) := by decide +kernel
theorem dX10_make_195 : decode cX10_make 195 = .ok (.getfield 117, 3) := by decide +kernel
theorem dX10_make_198 : decode cX10_make 198 = .ok (.iload 10, 2) := by decide +kernel
theorem dX10_make_200 : decode cX10_make 200 = .ok (.lload 11, 2) := by decide +kernel
theorem dX10_make_202 : decode cX10_make 202 = .ok (.aload_n 0, 1) := by decide +kernel
theorem dX10_make_203 : decode cX10_make 203 = .ok (.getfield 10, 3) := by decide +kernel
theorem dX10_make_206 : decode cX10_make 206 = .ok (.iload_n 2, 1) := by decide +kernel
theorem dX10_make_207 : decode cX10_make 207 = .ok (.iload 10, 2) := by decide +kernel
theorem dX10_make_209 : decode cX10_make 209 = .ok (.invokevirtual 226, 3) := by decide +kernel
theorem dX10_make_212 : decode cX10_make 212 = .ok (.lsub, 1) := by decide +kernel
theorem dX10_make_213 : decode cX10_make 213 = .ok (.lload 13, 2) := by decide +kernel
theorem dX10_make_215 : decode cX10_make 215 = .ok (.ladd, 1) := by decide +kernel
theorem dX10_make_216 : decode cX10_make 216 = .ok (.ldc2_w 230, 3) := by decide +kernel
theorem dX10_make_219 : decode cX10_make 219 = .ok (.ldc2_w 232, 3) := by decide +kernel
theorem dX10_make_222 : decode cX10_make 222 = .ok (.invokestatic 209, 3) := by decide +kernel
theorem dX10_make_225 : decode cX10_make 225 = .ok (.l2i, 1) := by decide +kernel
theorem dX10_make_226 : decode cX10_make 226 = .ok (.iastore, 1) := by decide +kernel
theorem dX10_make_227 : decode cX10_make 227 = .ok (.iinc 10 1, 3) := by decide +kernel
theorem dX10_make_230 : decode cX10_make 230 = .ok (.goto (-134), 3) := by decide +kernel
theorem dX10_make_233 : decode cX10_make 233 = .ok (.aload_n 0, 1) := by decide +kernel
theorem dX10_make_234 : decode cX10_make 234 = .ok (.dup, 1) := by decide +kernel
theorem dX10_make_235 : decode cX10_make 235 = .ok (.getfield 84, 3) := by decide +kernel
theorem dX10_make_238 : decode cX10_make 238 = .ok (.iconst 1, 1) := by decide +kernel
theorem dX10_make_239 : decode cX10_make 239 = .ok (.iadd, 1) := by decide +kernel
theorem dX10_make_240 : decode cX10_make 240 = .ok (.putfield 84, 3) := by decide +kernel
theorem dX10_make_243 : decode cX10_make 243 = .ok (.iload 5, 2) := by decide +kernel
theorem dX10_make_245 : decode cX10_make 245 = .ok (.iload 4, 2) := by decide +kernel
theorem dX10_make_247 : decode cX10_make 247 = .ok (.isub, 1) := by decide +kernel
theorem dX10_make_248 : decode cX10_make 248 = .ok (.iconst 1, 1) := by decide +kernel
theorem dX10_make_249 : decode cX10_make 249 = .ok (.iadd, 1) := by decide +kernel
theorem dX10_make_250 : decode cX10_make 250 = .ok (.ireturn, 1) := by decide +kernel
theorem dX10_many_0 : decode cX10_many 0 = .ok (.aload_n 0, 1) := by decide +kernel
theorem dX10_many_1 : decode cX10_many 1 = .ok (.iload_n 1, 1) := by decide +kernel
theorem dX10_many_2 : decode cX10_many 2 = .ok (.invokevirtual 259, 3) := by decide +kernel
theorem dX10_many_5 : decode cX10_many 5 = .ok (.astore 6, 2) := by decide +kernel
theorem dX10_many_7 : decode cX10_many 7 = .ok (.iload_n 3, 1) := by decide +kernel
theorem dX10_many_8 : decode cX10_many 8 = .ok (.ifCond .lt 23, 3) := by decide +kernel
theorem dX10_many_11 : decode cX10_many 11 = .ok (.iload_n 3, 1) := by decide +kernel
theorem dX10_many_12 : decode cX10_many 12 = .ok (.iload 4, 2) := by decide +kernel
theorem dX10_many_14 : decode cX10_many 14 = .ok (.if_icmp .gt 17, 3) := by decide +kernel
theorem dX10_many_17 : decode cX10_many 17 = .ok (.iload 5, 2) := by decide +kernel
theorem dX10_many_19 : decode cX10_many 19 = .ok (.iconst 0, 1) := by decide +kernel
theorem dX10_many_20 : decode cX10_many 20 = .ok (.iconst 1, 1) := by decide +kernel
theorem dX10_many_21 : decode cX10_many 21 = .ok (.invokestatic 100, 3) := by decide +kernel
theorem dX10_many_24 : decode cX10_many 24 = .ok (.ifCond .eq 7, 3) := by decide +kernel
theorem dX10_many_27 : decode cX10_many 27 = .ok (.iconst 1, 1) := by decide +kernel
theorem dX10_many_28 : decode cX10_many 28 = .ok (.goto 4, 3) := by decide +kernel
theorem dX10_many_31 : decode cX10_many 31 = .ok (.iconst 0, 1) := by decide +kernel
theorem dX10_many_32 : decode cX10_many 32 = .ok (.istore 7, 2) := by decide +kernel
theorem dX10_many_34 : decode cX10_many 34 = .ok (.aload 6, 2) := by decide +kernel
theorem dX10_many_36 : decode cX10_many 36 = .ok (.ifnull 16, 3) := by decide +kernel
theorem dX10_many_39 : decode cX10_many 39 = .ok (.aload_n 0, 1) := by decide +kernel
theorem dX10_many_40 : decode cX10_many 40 = .ok (.iload_n 2, 1) := by decide +kernel
theorem dX10_many_41 : decode cX10_many 41 = .ok (.invokevirtual 349, 3) := by decide +kernel
theorem dX10_many_44 : decode cX10_many 44 = .ok (.ifnull 8, 3) := by decide +kernel
theorem dX10_many_47 : decode cX10_many 47 = .ok (.iload 7, 2) := by decide +kernel
theorem dX10_many_49 : decode cX10_many 49 = .ok (.ifCond .ne 5, 3) := by decide +kernel
theorem dX10_many_52 : decode cX10_many 52 = .ok (.iconst (-1), 1) := by decide +kernel
theorem dX10_many_53 : decode cX10_many 53 = .ok (.ireturn, 1) := by decide +kernel
theorem dX10_many_54 : decode cX10_many 54 = .ok (.iload 5, 2) := by decide +kernel
theorem dX10_many_56 : decode cX10_many 56 = .ok (.ifCond .ne 7, 3) := by decide +kernel
theorem dX10_many_59 : decode cX10_many 59 = .ok (.iconst 0, 1) := by decide +kernel
theorem dX10_many_60 : decode cX10_many 60 = .ok (.goto 4, 3) := by decide +kernel
theorem dX10_many_63 : decode cX10_many 63 = .ok (.iconst 1, 1) := by decide +kernel
theorem dX10_many_64 : decode cX10_many 64 = .ok (.istore 8, 2) := by decide +kernel
theorem dX10_many_66 : decode cX10_many 66 = .ok (.aload_n 0, 1) := by decide +kernel
theorem dX10_many_67 : decode cX10_many 67 = .ok (.iload_n 1, 1) := by decide +kernel
theorem dX10_many_68 : decode cX10_many 68 = .ok (.iload 8, 2) := by decide +kernel
theorem dX10_many_70 : decode cX10_many 70 = .ok (.invokevirtual 319, 3) := by decide +kernel
theorem dX10_many_73 : decode cX10_many 73 = .ok (.iconst 0, 1) := by decide +kernel
theorem dX10_many_74 : decode cX10_many 74 = .ok (.istore 9, 2) := by decide +kernel
theorem dX10_many_76 : decode cX10_many 76 = .ok (.iconst 0, 1) := by decide +kernel
theorem dX10_many_77 : decode cX10_many 77 = .ok (.istore 10, 2) := by decide +kernel
theorem dX10_many_79 : decode cX10_many 79 = .ok (.iload 10, 2) := by decide +kernel
theorem dX10_many_81 : decode cX10_many 81 = .ok (.aload_n 0, 1) := by decide +kernel
theorem dX10_many_82 : decode cX10_many 82 = .ok (.getfield 10, 3) := by decide +kernel
theorem dX10_many_85 : decode cX10_many 85 = .ok (.getfield 352, 3) := by decide +kernel
theorem dX10_many_88 : decode cX10_many 88 = .ok (.if_icmp .ge 70, 3) := by decide +kernel
theorem dX10_many_91 : decode cX10_many 91 = .ok (.aload_n 0, 1) := by decide +kernel
theorem dX10_many_92 : decode cX10_many 92 = .ok (.iload_n 1, 1) := by decide +kernel
theorem dX10_many_93 : decode cX10_many 93 = .ok (.iload 10, 2) := by decide +kernel
theorem dX10_many_95 : decode cX10_many 95 = .ok (.iload 8, 2) := by decide +kernel
theorem dX10_many_97 : decode cX10_many 97 = .ok (.invokevirtual 389, 3) := by decide +kernel
theorem dX10_many_100 : decode cX10_many 100 = .ok (.astore 11, 2) := by decide +kernel
theorem dX10_many_102 : decode cX10_many 102 = .ok (.aload 11, 2) := by decide +kernel
theorem dX10_many_104 : decode cX10_many 104 = .ok (.aload 6, 2) := by decide +kernel
theorem dX10_many_106 : decode cX10_many 106 = .ok (.getfield 268, 3) := by decide +kernel
theorem dX10_many_109 : decode cX10_many 109 = .ok (.invokevirtual 392, 3) := by decide +kernel
theorem dX10_many_112 : decode cX10_many 112 = .ok (.ifCond .eq 40, 3) := by decide +kernel
theorem dX10_many_115 : decode cX10_many 115 = .ok (.aload_n 0, 1) := by decide +kernel
theorem dX10_many_116 : decode cX10_many 116 = .ok (.aload 11, 2) := by decide +kernel
theorem dX10_many_118 : decode cX10_many 118 = .ok (.iload 10, 2) := by decide +kernel
theorem dX10_many_120 : decode cX10_many 120 = .ok (.invokevirtual 385, 3) := by decide +kernel
theorem dX10_many_123 : decode cX10_many 123 = .ok (.iload_n 3, 1) := by decide +kernel
theorem dX10_many_124 : decode cX10_many 124 = .ok (.iload 4, 2) := by decide +kernel
theorem dX10_many_126 : decode cX10_many 126 = .ok (.invokestatic 100, 3) := by decide +kernel
theorem dX10_many_129 : decode cX10_many 129 = .ok (.ifCond .eq 23, 3) := by decide +kernel
theorem dX10_many_132 : decode cX10_many 132 = .ok (.iload 5, 2) := by decide +kernel
theorem dX10_many_134 : decode cX10_many 134 = .ok (.iconst 1, 1) := by decide +kernel
theorem dX10_many_135 : decode cX10_many 135 = .ok (.if_icmp .eq 14, 3) := by decide +kernel
theorem dX10_many_138 : decode cX10_many 138 = .ok (.aload_n 0, 1) := by decide +kernel
theorem dX10_many_139 : decode cX10_many 139 = .ok (.iload_n 1, 1) := by decide +kernel
theorem dX10_many_140 : decode cX10_many 140 = .ok (.iload_n 2, 1) := by decide +kernel
theorem dX10_many_141 : decode cX10_many 141 = .ok (.iload 10, 2) := by decide +kernel
theorem dX10_many_143 : decode cX10_many 143 = .ok (.invokevirtual 359, 3) := by decide +kernel
theorem dX10_many_146 : decode cX10_many 146 = .ok (.ifCond .eq 6, 3) := by decide +kernel
theorem dX10_many_149 : decode cX10_many 149 = .ok (.iinc 9 1, 3) := by decide +kernel
theorem dX10_many_152 : decode cX10_many 152 = .ok (.iinc 10 1, 3) := by decide +kernel
theorem dX10_many_155 : decode cX10_many 155 = .ok (.goto (-76), 3) := by decide +kernel
theorem dX10_many_158 : decode cX10_many 158 = .ok (.iload 9, 2) := by decide +kernel
theorem dX10_many_160 : decode cX10_many 160 = .ok (.ireturn, 1) := by decide +kernel
theorem dX10_mask_0 : decode cX10_mask 0 = .ok (.iload_n 1, 1) := by decide +kernel
theorem dX10_mask_1 : decode cX10_mask 1 = .ok (.iconst 0, 1) := by decide +kernel
theorem dX10_mask_2 : decode cX10_mask 2 = .ok (.bipush 7, 2) := by decide +kernel
theorem dX10_mask_4 : decode cX10_mask 4 = .ok (.invokestatic 100, 3) := by decide +kernel
theorem dX10_mask_7 : decode cX10_mask 7 = .ok (.ifCond .eq 24, 3) := by decide +kernel
theorem dX10_mask_10 : decode cX10_mask 10 = .ok (.iload_n 2, 1) := by decide +kernel
theorem dX10_mask_11 : decode cX10_mask 11 = .ok (.iconst 0, 1) := by decide +kernel
theorem dX10_mask_12 : decode cX10_mask 12 = .ok (.bipush 12, 2) := by decide +kernel
theorem dX10_mask_14 : decode cX10_mask 14 = .ok (.invokestatic 100, 3) := by decide +kernel
theorem dX10_mask_17 : decode cX10_mask 17 = .ok (.ifCond .eq 14, 3) := by decide +kernel
theorem dX10_mask_20 : decode cX10_mask 20 = .ok (.iload_n 3, 1) := by decide +kernel
theorem dX10_mask_21 : decode cX10_mask 21 = .ok (.iconst 0, 1) := by decide +kernel
theorem dX10_mask_22 : decode cX10_mask 22 = .ok (.sipush 30000, 3) := by decide +kernel
theorem dX10_mask_25 : decode cX10_mask 25 = .ok (.invokestatic 100, 3) := by decide +kernel
theorem dX10_mask_28 : decode cX10_mask 28 = .ok (.ifCond .ne 5, 3) := by decide +kernel
theorem dX10_mask_31 : decode cX10_mask 31 = .ok (.iconst 0, 1) := by decide +kernel
