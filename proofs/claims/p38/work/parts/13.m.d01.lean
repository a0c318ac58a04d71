theorem dX11_divisor_9 : decode cX11_divisor 9 = .ok (.iload_n 3, 1) := by decide +kernel
theorem dX11_divisor_10 : decode cX11_divisor 10 = .ok (.irem, 1) := by decide +kernel
theorem dX11_divisor_11 : decode cX11_divisor 11 = .ok (.istore 4, 2) := by decide +kernel
theorem dX11_divisor_13 : decode cX11_divisor 13 = .ok (.iload_n 3, 1) := by decide +kernel
theorem dX11_divisor_14 : decode cX11_divisor 14 = .ok (.istore_n 2, 1) := by decide +kernel
theorem dX11_divisor_15 : decode cX11_divisor 15 = .ok (.iload 4, 2) := by decide +kernel
theorem dX11_divisor_17 : decode cX11_divisor 17 = .ok (.istore_n 3, 1) := by decide +kernel
theorem dX11_divisor_18 : decode cX11_divisor 18 = .ok (.goto (-14), 3) := by decide +kernel
theorem dX11_divisor_21 : decode cX11_divisor 21 = .ok (.iload_n 2, 1) := by decide +kernel
theorem dX11_divisor_22 : decode cX11_divisor 22 = .ok (.ireturn, 1) := by decide +kernel
theorem dX11_finds_0 : decode cX11_finds 0 = .ok (.aload_n 0, 1) := by decide +kernel
theorem dX11_finds_1 : decode cX11_finds 1 = .ok (.iload_n 2, 1) := by decide +kernel
theorem dX11_finds_2 : decode cX11_finds 2 = .ok (.iload_n 3, 1) := by decide +kernel
theorem dX11_finds_3 : decode cX11_finds 3 = .ok (.invokevirtual 406, 3) := by decide +kernel
theorem dX11_finds_6 : decode cX11_finds 6 = .ok (.aload_n 0, 1) := by decide +kernel
theorem dX11_finds_7 : decode cX11_finds 7 = .ok (.iload_n 1, 1) := by decide +kernel
theorem dX11_finds_8 : decode cX11_finds 8 = .ok (.invokevirtual 480, 3) := by decide +kernel
theorem dX11_finds_11 : decode cX11_finds 11 = .ok (.ireturn, 1) := by decide +kernel
theorem dX11_findsPut_0 : decode cX11_findsPut 0 = .ok (.iconst 0, 1) := by decide +kernel
theorem dX11_findsPut_1 : decode cX11_findsPut 1 = .ok (.istore_n 3, 1) := by decide +kernel
theorem dX11_findsPut_2 : decode cX11_findsPut 2 = .ok (.iload_n 3, 1) := by decide +kernel
theorem dX11_findsPut_3 : decode cX11_findsPut 3 = .ok (.sipush 600, 3) := by decide +kernel
theorem dX11_findsPut_6 : decode cX11_findsPut 6 = .ok (.if_icmp .ge 77, 3) := by decide +kernel
theorem dX11_findsPut_9 : decode cX11_findsPut 9 = .ok (.aload_n 0, 1) := by decide +kernel
theorem dX11_findsPut_10 : decode cX11_findsPut 10 = .ok (.getfield 66, 3) := by decide +kernel
theorem dX11_findsPut_13 : decode cX11_findsPut 13 = .ok (.iload_n 3, 1) := by decide +kernel
theorem dX11_findsPut_14 : decode cX11_findsPut 14 = .ok (.aload_n 0, 1) := by decide +kernel
theorem dX11_findsPut_15 : decode cX11_findsPut 15 = .ok (.aload_n 0, 1) := by decide +kernel
theorem dX11_findsPut_16 : decode cX11_findsPut 16 = .ok (.iload_n 2, 1) := by decide +kernel
theorem dX11_findsPut_17 : decode cX11_findsPut 17 = .ok (.iconst 0, 1) := by decide +kernel
theorem dX11_findsPut_18 : decode cX11_findsPut 18 = .ok (.invokevirtual 166, 3) := by decide +kernel
theorem dX11_findsPut_21 : decode cX11_findsPut 21 = .ok (.iload_n 3, 1) := by decide +kernel
theorem dX11_findsPut_22 : decode cX11_findsPut 22 = .ok (.iconst 0, 1) := by decide +kernel
theorem dX11_findsPut_23 : decode cX11_findsPut 23 = .ok (.invokevirtual 157, 3) := by decide +kernel
theorem dX11_findsPut_26 : decode cX11_findsPut 26 = .ok (.iastore, 1) := by decide +kernel
theorem dX11_findsPut_27 : decode cX11_findsPut 27 = .ok (.aload_n 0, 1) := by decide +kernel
theorem dX11_findsPut_28 : decode cX11_findsPut 28 = .ok (.getfield 66, 3) := by decide +kernel
theorem dX11_findsPut_31 : decode cX11_findsPut 31 = .ok (.iload_n 3, 1) := by decide +kernel
theorem dX11_findsPut_32 : decode cX11_findsPut 32 = .ok (.iaload, 1) := by decide +kernel
theorem dX11_findsPut_33 : decode cX11_findsPut 33 = .ok (.ldc 107, 2) := by decide +kernel
theorem dX11_findsPut_35 : decode cX11_findsPut 35 = .ok (.if_icmp .eq 42, 3) := by decide +kernel
theorem dX11_findsPut_38 : decode cX11_findsPut 38 = .ok (.aload_n 0, 1) := by decide +kernel
theorem dX11_findsPut_39 : decode cX11_findsPut 39 = .ok (.iload_n 2, 1) := by decide +kernel
theorem dX11_findsPut_40 : decode cX11_findsPut 40 = .ok (.iload_n 3, 1) := by decide +kernel
theorem dX11_findsPut_41 : decode cX11_findsPut 41 = .ok (.invokevirtual 380, 3) := by decide +kernel
theorem dX11_findsPut_44 : decode cX11_findsPut 44 = .ok (.ifCond .eq 33, 3) := by decide +kernel
theorem dX11_findsPut_47 : decode cX11_findsPut 47 = .ok (.aload_n 0, 1) := by decide +kernel
theorem dX11_findsPut_48 : decode cX11_findsPut 48 = .ok (.getfield 66, 3) := by decide +kernel
theorem dX11_findsPut_51 : decode cX11_findsPut 51 = .ok (.iload_n 3, 1) := by decide +kernel
theorem dX11_findsPut_52 : decode cX11_findsPut 52 = .ok (.aload_n 0, 1) := by decide +kernel
theorem dX11_findsPut_53 : decode cX11_findsPut 53 = .ok (.getfield 66, 3) := by decide +kernel
theorem dX11_findsPut_56 : decode cX11_findsPut 56 = .ok (.iload_n 3, 1) := by decide +kernel
theorem dX11_findsPut_57 : decode cX11_findsPut 57 = .ok (.iaload, 1) := by decide +kernel
theorem dX11_findsPut_58 : decode cX11_findsPut 58 = .ok (.aload_n 0, 1) := by decide +kernel
theorem dX11_findsPut_59 : decode cX11_findsPut 59 = .ok (.iload_n 2, 1) := by decide +kernel
theorem dX11_findsPut_60 : decode cX11_findsPut 60 = .ok (.iconst 4, 1) := by decide +kernel
theorem dX11_findsPut_61 : decode cX11_findsPut 61 = .ok (.invokevirtual 166, 3) := by decide +kernel
theorem dX11_findsPut_64 : decode cX11_findsPut 64 = .ok (.isub, 1) := by decide +kernel
theorem dX11_findsPut_65 : decode cX11_findsPut 65 = .ok (.i2l, 1) := by decide +kernel
theorem dX11_findsPut_66 : decode cX11_findsPut 66 = .ok (.ldc2_w 115, 3) := by decide +kernel
theorem dX11_findsPut_69 : decode cX11_findsPut 69 = .ok (.ldc2_w 117, 3) := by decide +kernel
theorem dX11_findsPut_72 : decode cX11_findsPut 72 = .ok (.invokestatic 148, 3) := by decide +kernel
theorem dX11_findsPut_75 : decode cX11_findsPut 75 = .ok (.l2i, 1) := by decide +kernel
theorem dX11_findsPut_76 : decode cX11_findsPut 76 = .ok (.iastore, 1) := by decide +kernel
theorem dX11_findsPut_77 : decode cX11_findsPut 77 = .ok (.iinc 3 1, 3) := by decide +kernel
theorem dX11_findsPut_80 : decode cX11_findsPut 80 = .ok (.goto (-78), 3) := by decide +kernel
theorem dX11_findsPut_83 : decode cX11_findsPut 83 = .ok (.aload_n 0, 1) := by decide +kernel
theorem dX11_findsPut_84 : decode cX11_findsPut 84 = .ok (.invokevirtual 391, 3) := by decide +kernel
theorem dX11_findsPut_87 : decode cX11_findsPut 87 = .ok (.aload_n 0, 1) := by decide +kernel
theorem dX11_findsPut_88 : decode cX11_findsPut 88 = .ok (.iload_n 1, 1) := by decide +kernel
theorem dX11_findsPut_89 : decode cX11_findsPut 89 = .ok (.invokevirtual 480, 3) := by decide +kernel
theorem dX11_findsPut_92 : decode cX11_findsPut 92 = .ok (.ifCond .eq 20, 3) := by decide +kernel
theorem dX11_findsPut_95 : decode cX11_findsPut 95 = .ok (.aload_n 0, 1) := by decide +kernel
theorem dX11_findsPut_96 : decode cX11_findsPut 96 = .ok (.getfield 458, 3) := by decide +kernel
theorem dX11_findsPut_99 : decode cX11_findsPut 99 = .ok (.aload_n 0, 1) := by decide +kernel
theorem dX11_findsPut_100 : decode cX11_findsPut 100 = .ok (.iload_n 2, 1) := by decide +kernel
theorem dX11_findsPut_101 : decode cX11_findsPut 101 = .ok (.iconst 1, 1) := by decide +kernel
theorem dX11_findsPut_102 : decode cX11_findsPut 102 = .ok (.invokevirtual 166, 3) := by decide +kernel
theorem dX11_findsPut_105 : decode cX11_findsPut 105 = .ok (.if_icmp .ne 7, 3) := by decide +kernel
theorem dX11_findsPut_108 : decode cX11_findsPut 108 = .ok (.iconst 1, 1) := by decide +kernel
theorem dX11_findsPut_109 : decode cX11_findsPut 109 = .ok (.goto 4, 3) := by decide +kernel
theorem dX11_findsPut_112 : decode cX11_findsPut 112 = .ok (.iconst 0, 1) := by decide +kernel
theorem dX11_findsPut_113 : decode cX11_findsPut 113 = .ok (.ireturn, 1) := by decide +kernel
theorem dX11_finest_0 : decode cX11_finest 0 = .ok (.iconst (-1), 1) := by decide +kernel
theorem dX11_finest_1 : decode cX11_finest 1 = .ok (.istore_n 1, 1) := by decide +kernel
theorem dX11_finest_2 : decode cX11_finest 2 = .ok (.iconst 0, 1) := by decide +kernel
theorem dX11_finest_3 : decode cX11_finest 3 = .ok (.istore_n 2, 1) := by decide +kernel
theorem dX11_finest_4 : decode cX11_finest 4 = .ok (.iconst 0, 1) := by decide +kernel
theorem dX11_finest_5 : decode cX11_finest 5 = .ok (.istore_n 3, 1) := by decide +kernel
theorem dX11_finest_6 : decode cX11_finest 6 = .ok (.iconst 0, 1) := by decide +kernel
theorem dX11_finest_7 : decode cX11_finest 7 = .ok (.istore 4, 2) := by decide +kernel
theorem dX11_finest_9 : decode cX11_finest 9 = .ok (.iload 4, 2) := by decide +kernel
theorem dX11_finest_11 : decode cX11_finest 11 = .ok (.aload_n 0, 1) := by decide +kernel
theorem dX11_finest_12 : decode cX11_finest 12 = .ok (.getfield 20, 3) := by decide +kernel
theorem dX11_finest_15 : decode cX11_finest 15 = .ok (.iconst 1, 1) := by decide +kernel
theorem dX11_finest_16 : decode cX11_finest 16 = .ok (.iaload, 1) := by decide +kernel
theorem dX11_finest_17 : decode cX11_finest 17 = .ok (.if_icmp .ge 105, 3) := by decide +kernel
theorem dX11_finest_20 : decode cX11_finest 20 = .ok (.aload_n 0, 1) := by decide +kernel
theorem dX11_finest_21 : decode cX11_finest 21 = .ok (.iload 4, 2) := by decide +kernel
theorem dX11_finest_23 : decode cX11_finest 23 = .ok (.invokevirtual 509, 3) := by decide +kernel
theorem dX11_finest_26 : decode cX11_finest 26 = .ok (.istore 5, 2) := by decide +kernel
theorem dX11_finest_28 : decode cX11_finest 28 = .ok (.iconst 0, 1) := by decide +kernel
theorem dX11_finest_29 : decode cX11_finest 29 = .ok (.istore 6, 2) := by decide +kernel
theorem dX11_finest_31 : decode cX11_finest 31 = .ok (.iconst 0, 1) := by decide +kernel
theorem dX11_finest_32 : decode cX11_finest 32 = .ok (.istore 7, 2) := by decide +kernel
theorem dX11_finest_34 : decode cX11_finest 34 = .ok (.iload 7, 2) := by decide +kernel
theorem dX11_finest_36 : decode cX11_finest 36 = .ok (.aload_n 0, 1) := by decide +kernel
theorem dX11_finest_37 : decode cX11_finest 37 = .ok (.getfield 7, 3) := by decide +kernel
theorem dX11_finest_40 : decode cX11_finest 40 = .ok (.iconst 0, 1) := by decide +kernel
theorem dX11_finest_41 : decode cX11_finest 41 = .ok (.iaload, 1) := by decide +kernel
theorem dX11_finest_42 : decode cX11_finest 42 = .ok (.if_icmp .ge 40, 3) := by decide +kernel
theorem dX11_finest_45 : decode cX11_finest 45 = .ok (.iload 6, 2) := by decide +kernel
theorem dX11_finest_47 : decode cX11_finest 47 = .ok (.aload_n 0, 1) := by decide +kernel
theorem dX11_finest_48 : decode cX11_finest 48 = .ok (.iload 4, 2) := by decide +kernel
theorem dX11_finest_50 : decode cX11_finest 50 = .ok (.iload 7, 2) := by decide +kernel
theorem dX11_finest_52 : decode cX11_finest 52 = .ok (.iconst 1, 1) := by decide +kernel
theorem dX11_finest_53 : decode cX11_finest 53 = .ok (.invokevirtual 487, 3) := by decide +kernel
theorem dX11_finest_56 : decode cX11_finest 56 = .ok (.ifCond .eq 16, 3) := by decide +kernel
theorem dX11_finest_59 : decode cX11_finest 59 = .ok (.aload_n 0, 1) := by decide +kernel
theorem dX11_finest_60 : decode cX11_finest 60 = .ok (.iload 4, 2) := by decide +kernel
theorem dX11_finest_62 : decode cX11_finest 62 = .ok (.invokevirtual 494, 3) := by decide +kernel
theorem dX11_finest_65 : decode cX11_finest 65 = .ok (.ifCond .eq 7, 3) := by decide +kernel
theorem dX11_finest_68 : decode cX11_finest 68 = .ok (.iconst 1, 1) := by decide +kernel
theorem dX11_finest_69 : decode cX11_finest 69 = .ok (.goto 4, 3) := by decide +kernel
theorem dX11_finest_72 : decode cX11_finest 72 = .ok (.iconst 0, 1) := by decide +kernel
theorem dX11_finest_73 : decode cX11_finest 73 = .ok (.iadd, 1) := by decide +kernel
theorem dX11_finest_74 : decode cX11_finest 74 = .ok (.istore 6, 2) := by decide +kernel
theorem dX11_finest_76 : decode cX11_finest 76 = .ok (.iinc 7 1, 3) := by decide +kernel
theorem dX11_finest_79 : decode cX11_finest 79 = .ok (.goto (-45), 3) := by decide +kernel
theorem dX11_finest_82 : decode cX11_finest 82 = .ok (.iload_n 1, 1) := by decide +kernel
theorem dX11_finest_83 : decode cX11_finest 83 = .ok (.ifCond .lt 24, 3) := by decide +kernel
theorem dX11_finest_86 : decode cX11_finest 86 = .ok (.iload 5, 2) := by decide +kernel
theorem dX11_finest_88 : decode cX11_finest 88 = .ok (.iload_n 2, 1) := by decide +kernel
theorem dX11_finest_89 : decode cX11_finest 89 = .ok (.if_icmp .lt 27, 3) := by decide +kernel
theorem dX11_finest_92 : decode cX11_finest 92 = .ok (.iload 5, 2) := by decide +kernel
theorem dX11_finest_94 : decode cX11_finest 94 = .ok (.iload_n 2, 1) := by decide +kernel
theorem dX11_finest_95 : decode cX11_finest 95 = .ok (.if_icmp .ne 12, 3) := by decide +kernel
theorem dX11_finest_98 : decode cX11_finest 98 = .ok (.iload 6, 2) := by decide +kernel
theorem dX11_finest_100 : decode cX11_finest 100 = .ok (.iload_n 3, 1) := by decide +kernel
theorem dX11_finest_101 : decode cX11_finest 101 = .ok (.if_icmp .lt 6, 3) := by decide +kernel
theorem dX11_finest_104 : decode cX11_finest 104 = .ok (.goto 12, 3) := by decide +kernel
theorem dX11_finest_107 : decode cX11_finest 107 = .ok (.iload 4, 2) := by decide +kernel
theorem dX11_finest_109 : decode cX11_finest 109 = .ok (.istore_n 1, 1) := by decide +kernel
theorem dX11_finest_110 : decode cX11_finest 110 = .ok (.iload 5, 2) := by decide +kernel
theorem dX11_finest_112 : decode cX11_finest 112 = .ok (.istore_n 2, 1) := by decide +kernel
theorem dX11_finest_113 : decode cX11_finest 113 = .ok (.iload 6, 2) := by decide +kernel
theorem dX11_finest_115 : decode cX11_finest 115 = .ok (.istore_n 3, 1) := by decide +kernel
theorem dX11_finest_116 : decode cX11_finest 116 = .ok (.iinc 4 1, 3) := by decide +kernel
theorem dX11_finest_119 : decode cX11_finest 119 = .ok (.goto (-110), 3) := by decide +kernel
theorem dX11_finest_122 : decode cX11_finest 122 = .ok (.iload_n 1, 1) := by decide +kernel
theorem dX11_finest_123 : decode cX11_finest 123 = .ok (.ireturn, 1) := by decide +kernel
theorem dX11_fold_0 : decode cX11_fold 0 = .ok (.aload_n 0, 1) := by decide +kernel
theorem dX11_fold_1 : decode cX11_fold 1 = .ok (.iload_n 1, 1) := by decide +kernel
theorem dX11_fold_2 : decode cX11_fold 2 = .ok (.invokevirtual 108, 3) := by decide +kernel
theorem dX11_fold_5 : decode cX11_fold 5 = .ok (.ifCond .eq 54, 3) := by decide +kernel
theorem dX11_fold_8 : decode cX11_fold 8 = .ok (.iload_n 2, 1) := by decide +kernel
theorem dX11_fold_9 : decode cX11_fold 9 = .ok (.i2l, 1) := by decide +kernel
theorem dX11_fold_10 : decode cX11_fold 10 = .ok (.lconst 0, 1) := by decide +kernel
theorem dX11_fold_11 : decode cX11_fold 11 = .ok (.ldc2_w 152, 3) := by decide +kernel
theorem dX11_fold_14 : decode cX11_fold 14 = .ok (.invokestatic 99, 3) := by decide +kernel
theorem dX11_fold_17 : decode cX11_fold 17 = .ok (.ifCond .eq 42, 3) := by decide +kernel
theorem dX11_fold_20 : decode cX11_fold 20 = .ok (.iload_n 3, 1) := by decide +kernel
theorem dX11_fold_21 : decode cX11_fold 21 = .ok (.i2l, 1) := by decide +kernel
theorem dX11_fold_22 : decode cX11_fold 22 = .ok (.ldc2_w 160, 3) := by decide +kernel
theorem dX11_fold_25 : decode cX11_fold 25 = .ok (.ldc2_w 418, 3) := by decide +kernel
theorem dX11_fold_28 : decode cX11_fold 28 = .ok (.invokestatic 99, 3) := by decide +kernel
theorem dX11_fold_31 : decode cX11_fold 31 = .ok (.ifCond .eq 28, 3) := by decide +kernel
theorem dX11_fold_34 : decode cX11_fold 34 = .ok (.iload 4, 2) := by decide +kernel
theorem dX11_fold_36 : decode cX11_fold 36 = .ok (.i2l, 1) := by decide +kernel
theorem dX11_fold_37 : decode cX11_fold 37 = .ok (.lconst 0, 1) := by decide +kernel
theorem dX11_fold_38 : decode cX11_fold 38 = .ok (.iload_n 3, 1) := by decide +kernel
theorem dX11_fold_39 : decode cX11_fold 39 = .ok (.iconst 1, 1) := by decide +kernel
theorem dX11_fold_40 : decode cX11_fold 40 = .ok (.isub, 1) := by decide +kernel
theorem dX11_fold_41 : decode cX11_fold 41 = .ok (.i2l, 1) := by decide +kernel
theorem dX11_fold_42 : decode cX11_fold 42 = .ok (.invokestatic 99, 3) := by decide +kernel
theorem dX11_fold_45 : decode cX11_fold 45 = .ok (.ifCond .eq 14, 3) := by decide +kernel
theorem dX11_fold_48 : decode cX11_fold 48 = .ok (.iload 5, 2) := by decide +kernel
theorem dX11_fold_50 : decode cX11_fold 50 = .ok (.i2l, 1) := by decide +kernel
theorem dX11_fold_51 : decode cX11_fold 51 = .ok (.lconst 0, 1) := by decide +kernel
theorem dX11_fold_52 : decode cX11_fold 52 = .ok (.lconst 1, 1) := by decide +kernel
theorem dX11_fold_53 : decode cX11_fold 53 = .ok (.invokestatic 99, 3) := by decide +kernel
theorem dX11_fold_56 : decode cX11_fold 56 = .ok (.ifCond .ne 7, 3) := by decide +kernel
theorem dX11_fold_59 : decode cX11_fold 59 = .ok (.ldc2_w 567, 3) := by decide +kernel
theorem dX11_fold_62 : decode cX11_fold 62 = .ok (.lreturn, 1) := by decide +kernel
theorem dX11_fold_63 : decode cX11_fold 63 = .ok (.aload_n 0, 1) := by decide +kernel
theorem dX11_fold_64 : decode cX11_fold 64 = .ok (.iload_n 1, 1) := by decide +kernel
theorem dX11_fold_65 : decode cX11_fold 65 = .ok (.iload_n 2, 1) := by decide +kernel
theorem dX11_fold_66 : decode cX11_fold 66 = .ok (.invokevirtual 406, 3) := by decide +kernel
theorem dX11_fold_69 : decode cX11_fold 69 = .ok (.lconst 0, 1) := by decide +kernel
theorem dX11_fold_70 : decode cX11_fold 70 = .ok (.lstore 6, 2) := by decide +kernel
theorem dX11_fold_72 : decode cX11_fold 72 = .ok (.iconst 0, 1) := by decide +kernel
theorem dX11_fold_73 : decode cX11_fold 73 = .ok (.istore 8, 2) := by decide +kernel
theorem dX11_fold_75 : decode cX11_fold 75 = .ok (.iload 4, 2) := by decide +kernel
theorem dX11_fold_77 : decode cX11_fold 77 = .ok (.istore 9, 2) := by decide +kernel
theorem dX11_fold_79 : decode cX11_fold 79 = .ok (.iload 9, 2) := by decide +kernel
theorem dX11_fold_81 : decode cX11_fold 81 = .ok (.sipush 600, 3) := by decide +kernel
theorem dX11_fold_84 : decode cX11_fold 84 = .ok (.if_icmp .ge 43, 3) := by decide +kernel
theorem dX11_fold_87 : decode cX11_fold 87 = .ok (.aload_n 0, 1) := by decide +kernel
theorem dX11_fold_88 : decode cX11_fold 88 = .ok (.getfield 66, 3) := by decide +kernel
theorem dX11_fold_91 : decode cX11_fold 91 = .ok (.iload 9, 2) := by decide +kernel
theorem dX11_fold_93 : decode cX11_fold 93 = .ok (.iaload, 1) := by decide +kernel
theorem dX11_fold_94 : decode cX11_fold 94 = .ok (.ldc 107, 2) := by decide +kernel
theorem dX11_fold_96 : decode cX11_fold 96 = .ok (.if_icmp .ne 6, 3) := by decide +kernel
theorem dX11_fold_99 : decode cX11_fold 99 = .ok (.goto 19, 3) := by decide +kernel
theorem dX11_fold_102 : decode cX11_fold 102 = .ok (.iinc 8 1, 3) := by decide +kernel
theorem dX11_fold_105 : decode cX11_fold 105 = .ok (.lload 6, 2) := by decide +kernel
theorem dX11_fold_107 : decode cX11_fold 107 = .ok (.aload_n 0, 1) := by decide +kernel
theorem dX11_fold_108 : decode cX11_fold 108 = .ok (.getfield 66, 3) := by decide +kernel
theorem dX11_fold_111 : decode cX11_fold 111 = .ok (.iload 9, 2) := by decide +kernel
theorem dX11_fold_113 : decode cX11_fold 113 = .ok (.iaload, 1) := by decide +kernel
theorem dX11_fold_114 : decode cX11_fold 114 = .ok (.i2l, 1) := by decide +kernel
theorem dX11_fold_115 : decode cX11_fold 115 = .ok (.ladd, 1) := by decide +kernel
theorem dX11_fold_116 : decode cX11_fold 116 = .ok (.lstore 6, 2) := by decide +kernel
theorem dX11_fold_118 : decode cX11_fold 118 = .ok (.iload 9, 2) := by decide +kernel
theorem dX11_fold_120 : decode cX11_fold 120 = .ok (.iload_n 3, 1) := by decide +kernel
theorem dX11_fold_121 : decode cX11_fold 121 = .ok (.iadd, 1) := by decide +kernel
theorem dX11_fold_122 : decode cX11_fold 122 = .ok (.istore 9, 2) := by decide +kernel
theorem dX11_fold_124 : decode cX11_fold 124 = .ok (.goto (-45), 3) := by decide +kernel
theorem dX11_fold_127 : decode cX11_fold 127 = .ok (.iload 5, 2) := by decide +kernel
theorem dX11_fold_129 : decode cX11_fold 129 = .ok (.ifCond .ne 9, 3) := by decide +kernel
theorem dX11_fold_132 : decode cX11_fold 132 = .ok (.iload 8, 2) := by decide +kernel
theorem dX11_fold_134 : decode cX11_fold 134 = .ok (.i2l, 1) := by decide +kernel
theorem dX11_fold_135 : decode cX11_fold 135 = .ok (.goto 5, 3) := by decide +kernel
theorem dX11_fold_138 : decode cX11_fold 138 = .ok (.lload 6, 2) := by decide +kernel
theorem dX11_fold_140 : decode cX11_fold 140 = .ok (.lreturn, 1) := by decide +kernel
theorem dX11_found_0 : decode cX11_found 0 = .ok (.aload_n 0, 1) := by decide +kernel
theorem dX11_found_1 : decode cX11_found 1 = .ok (.iconst 1, 1) := by decide +kernel
theorem dX11_found_2 : decode cX11_found 2 = .ok (.iload_n 1, 1) := by decide +kernel
theorem dX11_found_3 : decode cX11_found 3 = .ok (.invokevirtual 366, 3) := by decide +kernel
theorem dX11_found_6 : decode cX11_found 6 = .ok (.ifCond .eq 36, 3) := by decide +kernel
theorem dX11_found_9 : decode cX11_found 9 = .ok (.aload_n 0, 1) := by decide +kernel
theorem dX11_found_10 : decode cX11_found 10 = .ok (.iload_n 2, 1) := by decide +kernel
theorem dX11_found_11 : decode cX11_found 11 = .ok (.invokevirtual 108, 3) := by decide +kernel
theorem dX11_found_14 : decode cX11_found 14 = .ok (.ifCond .eq 28, 3) := by decide +kernel
theorem dX11_found_17 : decode cX11_found 17 = .ok (.iload_n 3, 1) := by decide +kernel
theorem dX11_found_18 : decode cX11_found 18 = .ok (.i2l, 1) := by decide +kernel
theorem dX11_found_19 : decode cX11_found 19 = .ok (.lconst 0, 1) := by decide +kernel
theorem dX11_found_20 : decode cX11_found 20 = .ok (.ldc2_w 152, 3) := by decide +kernel
theorem dX11_found_23 : decode cX11_found 23 = .ok (.invokestatic 99, 3) := by decide +kernel
theorem dX11_found_26 : decode cX11_found 26 = .ok (.ifCond .eq 16, 3) := by decide +kernel
theorem dX11_found_29 : decode cX11_found 29 = .ok (.iload 4, 2) := by decide +kernel
theorem dX11_found_31 : decode cX11_found 31 = .ok (.i2l, 1) := by decide +kernel
theorem dX11_found_32 : decode cX11_found 32 = .ok (.lconst 0, 1) := by decide +kernel
theorem dX11_found_33 : decode cX11_found 33 = .ok (.ldc2_w 483, 3) := by decide +kernel
theorem dX11_found_36 : decode cX11_found 36 = .ok (.invokestatic 99, 3) := by decide +kernel
theorem dX11_found_39 : decode cX11_found 39 = .ok (.ifCond .ne 7, 3) := by decide +kernel
theorem dX11_found_42 : decode cX11_found 42 = .ok (.ldc2_w 485, 3) := by decide +kernel
theorem dX11_found_45 : decode cX11_found 45 = .ok (.lreturn, 1) := by decide +kernel
theorem dX11_found_46 : decode cX11_found 46 = .ok (.aload_n 0, 1) := by decide +kernel
theorem dX11_found_47 : decode cX11_found 47 = .ok (.iload_n 1, 1) := by decide +kernel
theorem dX11_found_48 : decode cX11_found 48 = .ok (.iload_n 2, 1) := by decide +kernel
theorem dX11_found_49 : decode cX11_found 49 = .ok (.iload_n 3, 1) := by decide +kernel
theorem dX11_found_50 : decode cX11_found 50 = .ok (.invokevirtual 487, 3) := by decide +kernel
theorem dX11_found_53 : decode cX11_found 53 = .ok (.ifCond .eq 13, 3) := by decide +kernel
theorem dX11_found_56 : decode cX11_found 56 = .ok (.aload_n 0, 1) := by decide +kernel
theorem dX11_found_57 : decode cX11_found 57 = .ok (.iload_n 1, 1) := by decide +kernel
theorem dX11_found_58 : decode cX11_found 58 = .ok (.iload 4, 2) := by decide +kernel
theorem dX11_found_60 : decode cX11_found 60 = .ok (.invokevirtual 491, 3) := by decide +kernel
theorem dX11_found_63 : decode cX11_found 63 = .ok (.goto 17, 3) := by decide +kernel
theorem dX11_found_66 : decode cX11_found 66 = .ok (.iload 4, 2) := by decide +kernel
theorem dX11_found_68 : decode cX11_found 68 = .ok (.bipush 6, 2) := by decide +kernel
theorem dX11_found_70 : decode cX11_found 70 = .ok (.if_icmp .ne 7, 3) := by decide +kernel
theorem dX11_found_73 : decode cX11_found 73 = .ok (.lconst 0, 1) := by decide +kernel
theorem dX11_found_74 : decode cX11_found 74 = .ok (.goto 6, 3) := by decide +kernel
theorem dX11_found_77 : decode cX11_found 77 = .ok (.ldc2_w 404, 3) := by decide +kernel
theorem dX11_found_80 : decode cX11_found 80 = .ok (.lreturn, 1) := by decide +kernel
theorem dX11_gathers_0 : decode cX11_gathers 0 = .ok (.aload_n 0, 1) := by decide +kernel
theorem dX11_gathers_1 : decode cX11_gathers 1 = .ok (.iconst 0, 1) := by decide +kernel
theorem dX11_gathers_2 : decode cX11_gathers 2 = .ok (.putfield 430, 3) := by decide +kernel
theorem dX11_gathers_5 : decode cX11_gathers 5 = .ok (.aload_n 0, 1) := by decide +kernel
theorem dX11_gathers_6 : decode cX11_gathers 6 = .ok (.lconst 0, 1) := by decide +kernel
theorem dX11_gathers_7 : decode cX11_gathers 7 = .ok (.putfield 438, 3) := by decide +kernel
theorem dX11_gathers_10 : decode cX11_gathers 10 = .ok (.iconst 0, 1) := by decide +kernel
theorem dX11_gathers_11 : decode cX11_gathers 11 = .ok (.istore_n 2, 1) := by decide +kernel
theorem dX11_gathers_12 : decode cX11_gathers 12 = .ok (.iload_n 2, 1) := by decide +kernel
theorem dX11_gathers_13 : decode cX11_gathers 13 = .ok (.sipush 600, 3) := by decide +kernel
theorem dX11_gathers_16 : decode cX11_gathers 16 = .ok (.if_icmp .ge 169, 3) := by decide +kernel
theorem dX11_gathers_19 : decode cX11_gathers 19 = .ok (.aload_n 0, 1) := by decide +kernel
theorem dX11_gathers_20 : decode cX11_gathers 20 = .ok (.iload_n 2, 1) := by decide +kernel
theorem dX11_gathers_21 : decode cX11_gathers 21 = .ok (.invokevirtual 409, 3) := by decide +kernel
theorem dX11_gathers_24 : decode cX11_gathers 24 = .ok (.ifCond .ne 6, 3) := by decide +kernel
theorem dX11_gathers_27 : decode cX11_gathers 27 = .ok (.goto 152, 3) := by decide +kernel
theorem dX11_gathers_30 : decode cX11_gathers 30 = .ok (.iload_n 2, 1) := by decide +kernel
theorem dX11_gathers_31 : decode cX11_gathers 31 = .ok (.aload_n 0, 1) := by decide +kernel
theorem dX11_gathers_32 : decode cX11_gathers 32 = .ok (.getfield 458, 3) := by decide +kernel
theorem dX11_gathers_35 : decode cX11_gathers 35 = .ok (.aload_n 0, 1) := by decide +kernel
theorem dX11_gathers_36 : decode cX11_gathers 36 = .ok (.getfield 464, 3) := by decide +kernel
theorem dX11_gathers_39 : decode cX11_gathers 39 = .ok (.invokestatic 448, 3) := by decide +kernel
theorem dX11_gathers_42 : decode cX11_gathers 42 = .ok (.istore_n 3, 1) := by decide +kernel
theorem dX11_gathers_43 : decode cX11_gathers 43 = .ok (.iload_n 3, 1) := by decide +kernel
theorem dX11_gathers_44 : decode cX11_gathers 44 = .ok (.aload_n 0, 1) := by decide +kernel
theorem dX11_gathers_45 : decode cX11_gathers 45 = .ok (.getfield 461, 3) := by decide +kernel
theorem dX11_gathers_48 : decode cX11_gathers 48 = .ok (.if_icmp .lt 6, 3) := by decide +kernel
theorem dX11_gathers_51 : decode cX11_gathers 51 = .ok (.goto 128, 3) := by decide +kernel
theorem dX11_gathers_54 : decode cX11_gathers 54 = .ok (.iload_n 3, 1) := by decide +kernel
theorem dX11_gathers_55 : decode cX11_gathers 55 = .ok (.aload_n 0, 1) := by decide +kernel
theorem dX11_gathers_56 : decode cX11_gathers 56 = .ok (.getfield 461, 3) := by decide +kernel
theorem dX11_gathers_59 : decode cX11_gathers 59 = .ok (.iconst 3, 1) := by decide +kernel
theorem dX11_gathers_60 : decode cX11_gathers 60 = .ok (.idiv, 1) := by decide +kernel
theorem dX11_gathers_61 : decode cX11_gathers 61 = .ok (.if_icmp .lt 24, 3) := by decide +kernel
theorem dX11_gathers_64 : decode cX11_gathers 64 = .ok (.iload_n 3, 1) := by decide +kernel
theorem dX11_gathers_65 : decode cX11_gathers 65 = .ok (.aload_n 0, 1) := by decide +kernel
theorem dX11_gathers_66 : decode cX11_gathers 66 = .ok (.getfield 461, 3) := by decide +kernel
theorem dX11_gathers_69 : decode cX11_gathers 69 = .ok (.iconst 1, 1) := by decide +kernel
theorem dX11_gathers_70 : decode cX11_gathers 70 = .ok (.isub, 1) := by decide +kernel
theorem dX11_gathers_71 : decode cX11_gathers 71 = .ok (.aload_n 0, 1) := by decide +kernel
theorem dX11_gathers_72 : decode cX11_gathers 72 = .ok (.getfield 461, 3) := by decide +kernel
theorem dX11_gathers_75 : decode cX11_gathers 75 = .ok (.iconst 3, 1) := by decide +kernel
theorem dX11_gathers_76 : decode cX11_gathers 76 = .ok (.idiv, 1) := by decide +kernel
theorem dX11_gathers_77 : decode cX11_gathers 77 = .ok (.isub, 1) := by decide +kernel
theorem dX11_gathers_78 : decode cX11_gathers 78 = .ok (.if_icmp .gt 7, 3) := by decide +kernel
theorem dX11_gathers_81 : decode cX11_gathers 81 = .ok (.iconst 1, 1) := by decide +kernel
theorem dX11_gathers_82 : decode cX11_gathers 82 = .ok (.goto 4, 3) := by decide +kernel
theorem dX11_gathers_85 : decode cX11_gathers 85 = .ok (.iconst 0, 1) := by decide +kernel
theorem dX11_gathers_86 : decode cX11_gathers 86 = .ok (.istore 4, 2) := by decide +kernel
theorem dX11_gathers_88 : decode cX11_gathers 88 = .ok (.iload_n 2, 1) := by decide +kernel
theorem dX11_gathers_89 : decode cX11_gathers 89 = .ok (.aload_n 0, 1) := by decide +kernel
theorem dX11_gathers_90 : decode cX11_gathers 90 = .ok (.getfield 458, 3) := by decide +kernel
theorem dX11_gathers_93 : decode cX11_gathers 93 = .ok (.aload_n 0, 1) := by decide +kernel
theorem dX11_gathers_94 : decode cX11_gathers 94 = .ok (.getfield 464, 3) := by decide +kernel
theorem dX11_gathers_97 : decode cX11_gathers 97 = .ok (.invokestatic 415, 3) := by decide +kernel
theorem dX11_gathers_100 : decode cX11_gathers 100 = .ok (.istore 5, 2) := by decide +kernel
theorem dX11_gathers_102 : decode cX11_gathers 102 = .ok (.iload_n 1, 1) := by decide +kernel
theorem dX11_gathers_103 : decode cX11_gathers 103 = .ok (.iconst 4, 1) := by decide +kernel
theorem dX11_gathers_104 : decode cX11_gathers 104 = .ok (.if_icmp .eq 34, 3) := by decide +kernel
theorem dX11_gathers_107 : decode cX11_gathers 107 = .ok (.iload_n 1, 1) := by decide +kernel
theorem dX11_gathers_108 : decode cX11_gathers 108 = .ok (.iconst 2, 1) := by decide +kernel
theorem dX11_gathers_109 : decode cX11_gathers 109 = .ok (.if_icmp .ge 14, 3) := by decide +kernel
theorem dX11_gathers_112 : decode cX11_gathers 112 = .ok (.iload 5, 2) := by decide +kernel
theorem dX11_gathers_114 : decode cX11_gathers 114 = .ok (.iconst 1, 1) := by decide +kernel
theorem dX11_gathers_115 : decode cX11_gathers 115 = .ok (.iand, 1) := by decide +kernel
theorem dX11_gathers_116 : decode cX11_gathers 116 = .ok (.iload_n 1, 1) := by decide +kernel
theorem dX11_gathers_117 : decode cX11_gathers 117 = .ok (.if_icmp .ne 25, 3) := by decide +kernel
theorem dX11_gathers_120 : decode cX11_gathers 120 = .ok (.goto 18, 3) := by decide +kernel
theorem dX11_gathers_123 : decode cX11_gathers 123 = .ok (.iload 4, 2) := by decide +kernel
theorem dX11_gathers_125 : decode cX11_gathers 125 = .ok (.iload_n 1, 1) := by decide +kernel
theorem dX11_gathers_126 : decode cX11_gathers 126 = .ok (.iconst 2, 1) := by decide +kernel
theorem dX11_gathers_127 : decode cX11_gathers 127 = .ok (.if_icmp .ne 7, 3) := by decide +kernel
theorem dX11_gathers_130 : decode cX11_gathers 130 = .ok (.iconst 1, 1) := by decide +kernel
theorem dX11_gathers_131 : decode cX11_gathers 131 = .ok (.goto 4, 3) := by decide +kernel
theorem dX11_gathers_134 : decode cX11_gathers 134 = .ok (.iconst 0, 1) := by decide +kernel
theorem dX11_gathers_135 : decode cX11_gathers 135 = .ok (.if_icmp .ne 7, 3) := by decide +kernel
theorem dX11_gathers_138 : decode cX11_gathers 138 = .ok (.iconst 1, 1) := by decide +kernel
theorem dX11_gathers_139 : decode cX11_gathers 139 = .ok (.goto 4, 3) := by decide +kernel
theorem dX11_gathers_142 : decode cX11_gathers 142 = .ok (.iconst 0, 1) := by decide +kernel
theorem dX11_gathers_143 : decode cX11_gathers 143 = .ok (.istore 6, 2) := by decide +kernel
theorem dX11_gathers_145 : decode cX11_gathers 145 = .ok (.iload 6, 2) := by decide +kernel
theorem dX11_gathers_147 : decode cX11_gathers 147 = .ok (.ifCond .ne 6, 3) := by decide +kernel
theorem dX11_gathers_150 : decode cX11_gathers 150 = .ok (.goto 29, 3) := by decide +kernel
theorem dX11_gathers_153 : decode cX11_gathers 153 = .ok (.aload_n 0, 1) := by decide +kernel
theorem dX11_gathers_154 : decode cX11_gathers 154 = .ok (.dup, 1) := by decide +kernel
theorem dX11_gathers_155 : decode cX11_gathers 155 = .ok (.getfield 430, 3) := by decide +kernel
theorem dX11_gathers_158 : decode cX11_gathers 158 = .ok (.iconst 1, 1) := by decide +kernel
theorem dX11_gathers_159 : decode cX11_gathers 159 = .ok (.iadd, 1) := by decide +kernel
theorem dX11_gathers_160 : decode cX11_gathers 160 = .ok (.putfield 430, 3) := by decide +kernel
theorem dX11_gathers_163 : decode cX11_gathers 163 = .ok (.aload_n 0, 1) := by decide +kernel
theorem dX11_gathers_164 : decode cX11_gathers 164 = .ok (.dup, 1) := by decide +kernel
theorem dX11_gathers_165 : decode cX11_gathers 165 = .ok (.getfield 438, 3) := by decide +kernel
theorem dX11_gathers_168 : decode cX11_gathers 168 = .ok (.aload_n 0, 1) := by decide +kernel
theorem dX11_gathers_169 : decode cX11_gathers 169 = .ok (.getfield 66, 3) := by decide +kernel
theorem dX11_gathers_172 : decode cX11_gathers 172 = .ok (.iload_n 2, 1) := by decide +kernel
theorem dX11_gathers_173 : decode cX11_gathers 173 = .ok (.iaload, 1) := by decide +kernel
theorem dX11_gathers_174 : decode cX11_gathers 174 = .ok (.i2l, 1) := by decide +kernel
theorem dX11_gathers_175 : decode cX11_gathers 175 = .ok (.ladd, 1) := by decide +kernel
theorem dX11_gathers_176 : decode cX11_gathers 176 = .ok (.putfield 438, 3) := by decide +kernel
theorem dX11_gathers_179 : decode cX11_gathers 179 = .ok (.iinc 2 1, 3) := by decide +kernel
theorem dX11_gathers_182 : decode cX11_gathers 182 = .ok (.goto (-170), 3) := by decide +kernel
theorem dX11_gathers_185 : decode cX11_gathers 185 = .ok (.return_, 1) := by decide +kernel
theorem dX11_heaviest_0 : decode cX11_heaviest 0 = .ok (.iconst 0, 1) := by decide +kernel
theorem dX11_heaviest_1 : decode cX11_heaviest 1 = .ok (.istore_n 1, 1) := by decide +kernel
theorem dX11_heaviest_2 : decode cX11_heaviest 2 = .ok (.iconst 1, 1) := by decide +kernel
theorem dX11_heaviest_3 : decode cX11_heaviest 3 = .ok (.istore_n 2, 1) := by decide +kernel
theorem dX11_heaviest_4 : decode cX11_heaviest 4 = .ok (.iload_n 2, 1) := by decide +kernel
theorem dX11_heaviest_5 : decode cX11_heaviest 5 = .ok (.iconst 5, 1) := by decide +kernel
theorem dX11_heaviest_6 : decode cX11_heaviest 6 = .ok (.if_icmp .ge 30, 3) := by decide +kernel
theorem dX11_heaviest_9 : decode cX11_heaviest 9 = .ok (.aload_n 0, 1) := by decide +kernel
theorem dX11_heaviest_10 : decode cX11_heaviest 10 = .ok (.getfield 87, 3) := by decide +kernel
theorem dX11_heaviest_13 : decode cX11_heaviest 13 = .ok (.iload_n 2, 1) := by decide +kernel
theorem dX11_heaviest_14 : decode cX11_heaviest 14 = .ok (.iaload, 1) := by decide +kernel
theorem dX11_heaviest_15 : decode cX11_heaviest 15 = .ok (.aload_n 0, 1) := by decide +kernel
theorem dX11_heaviest_16 : decode cX11_heaviest 16 = .ok (.getfield 87, 3) := by decide +kernel
theorem dX11_heaviest_19 : decode cX11_heaviest 19 = .ok (.iload_n 1, 1) := by decide +kernel
theorem dX11_heaviest_20 : decode cX11_heaviest 20 = .ok (.iaload, 1) := by decide +kernel
theorem dX11_heaviest_21 : decode cX11_heaviest 21 = .ok (.if_icmp .le 7, 3) := by decide +kernel
theorem dX11_heaviest_24 : decode cX11_heaviest 24 = .ok (.iload_n 2, 1) := by decide +kernel
theorem dX11_heaviest_25 : decode cX11_heaviest 25 = .ok (.goto 4, 3) := by decide +kernel
theorem dX11_heaviest_28 : decode cX11_heaviest 28 = .ok (.iload_n 1, 1) := by decide +kernel
theorem dX11_heaviest_29 : decode cX11_heaviest 29 = .ok (.istore_n 1, 1) := by decide +kernel
theorem dX11_heaviest_30 : decode cX11_heaviest 30 = .ok (.iinc 2 1, 3) := by decide +kernel
theorem dX11_heaviest_33 : decode cX11_heaviest 33 = .ok (.goto (-29), 3) := by decide +kernel
theorem dX11_heaviest_36 : decode cX11_heaviest 36 = .ok (.aload_n 0, 1) := by decide +kernel
theorem dX11_heaviest_37 : decode cX11_heaviest 37 = .ok (.getfield 87, 3) := by decide +kernel
theorem dX11_heaviest_40 : decode cX11_heaviest 40 = .ok (.iload_n 1, 1) := by decide +kernel
theorem dX11_heaviest_41 : decode cX11_heaviest 41 = .ok (.iaload, 1) := by decide +kernel
theorem dX11_heaviest_42 : decode cX11_heaviest 42 = .ok (.ifCond .ne 8, 3) := by decide +kernel
theorem dX11_heaviest_45 : decode cX11_heaviest 45 = .ok (.bipush (-2), 2) := by decide +kernel
theorem dX11_heaviest_47 : decode cX11_heaviest 47 = .ok (.goto 4, 3) := by decide +kernel
theorem dX11_heaviest_50 : decode cX11_heaviest 50 = .ok (.iload_n 1, 1) := by decide +kernel
theorem dX11_heaviest_51 : decode cX11_heaviest 51 = .ok (.ireturn, 1) := by decide +kernel
theorem dX11_isCaught_0 : decode cX11_isCaught 0 = .ok (.aload_n 0, 1) := by decide +kernel
theorem dX11_isCaught_1 : decode cX11_isCaught 1 = .ok (.iload_n 1, 1) := by decide +kernel
theorem dX11_isCaught_2 : decode cX11_isCaught 2 = .ok (.iload_n 2, 1) := by decide +kernel
theorem dX11_isCaught_3 : decode cX11_isCaught 3 = .ok (.invokevirtual 497, 3) := by decide +kernel
theorem dX11_isCaught_6 : decode cX11_isCaught 6 = .ok (.ifCond .eq 15, 3) := by decide +kernel
theorem dX11_isCaught_9 : decode cX11_isCaught 9 = .ok (.aload_n 0, 1) := by decide +kernel
theorem dX11_isCaught_10 : decode cX11_isCaught 10 = .ok (.iload_n 1, 1) := by decide +kernel
theorem dX11_isCaught_11 : decode cX11_isCaught 11 = .ok (.invokevirtual 494, 3) := by decide +kernel
theorem dX11_isCaught_14 : decode cX11_isCaught 14 = .ok (.ifCond .eq 7, 3) := by decide +kernel
theorem dX11_isCaught_17 : decode cX11_isCaught 17 = .ok (.iconst 1, 1) := by decide +kernel
theorem dX11_isCaught_18 : decode cX11_isCaught 18 = .ok (.goto 4, 3) := by decide +kernel
theorem dX11_isCaught_21 : decode cX11_isCaught 21 = .ok (.iconst 0, 1) := by decide +kernel
theorem dX11_isCaught_22 : decode cX11_isCaught 22 = .ok (.ireturn, 1) := by decide +kernel
theorem dX11_isDipThere_0 : decode cX11_isDipThere 0 = .ok (.aload_n 0, 1) := by decide +kernel
theorem dX11_isDipThere_1 : decode cX11_isDipThere 1 = .ok (.getfield 464, 3) := by decide +kernel
theorem dX11_isDipThere_4 : decode cX11_isDipThere 4 = .ok (.iload_n 1, 1) := by decide +kernel
theorem dX11_isDipThere_5 : decode cX11_isDipThere 5 = .ok (.aload_n 0, 1) := by decide +kernel
theorem dX11_isDipThere_6 : decode cX11_isDipThere 6 = .ok (.getfield 458, 3) := by decide +kernel
theorem dX11_isDipThere_9 : decode cX11_isDipThere 9 = .ok (.imul, 1) := by decide +kernel
theorem dX11_isDipThere_10 : decode cX11_isDipThere 10 = .ok (.iadd, 1) := by decide +kernel
theorem dX11_isDipThere_11 : decode cX11_isDipThere 11 = .ok (.sipush 600, 3) := by decide +kernel
theorem dX11_isDipThere_14 : decode cX11_isDipThere 14 = .ok (.if_icmp .ge 29, 3) := by decide +kernel
theorem dX11_isDipThere_17 : decode cX11_isDipThere 17 = .ok (.aload_n 0, 1) := by decide +kernel
theorem dX11_isDipThere_18 : decode cX11_isDipThere 18 = .ok (.aload_n 0, 1) := by decide +kernel
theorem dX11_isDipThere_19 : decode cX11_isDipThere 19 = .ok (.getfield 464, 3) := by decide +kernel
theorem dX11_isDipThere_22 : decode cX11_isDipThere 22 = .ok (.iload_n 1, 1) := by decide +kernel
theorem dX11_isDipThere_23 : decode cX11_isDipThere 23 = .ok (.aload_n 0, 1) := by decide +kernel
theorem dX11_isDipThere_24 : decode cX11_isDipThere 24 = .ok (.getfield 458, 3) := by decide +kernel
theorem dX11_isDipThere_27 : decode cX11_isDipThere 27 = .ok (.imul, 1) := by decide +kernel
theorem dX11_isDipThere_28 : decode cX11_isDipThere 28 = .ok (.iadd, 1) := by decide +kernel
theorem dX11_isDipThere_29 : decode cX11_isDipThere 29 = .ok (.aload_n 0, 1) := by decide +kernel
theorem dX11_isDipThere_30 : decode cX11_isDipThere 30 = .ok (.getfield 461, 3) := by decide +kernel
theorem dX11_isDipThere_33 : decode cX11_isDipThere 33 = .ok (.invokevirtual 412, 3) := by decide +kernel
theorem dX11_isDipThere_36 : decode cX11_isDipThere 36 = .ok (.ifCond .eq 7, 3) := by decide +kernel
theorem dX11_isDipThere_39 : decode cX11_isDipThere 39 = .ok (.iconst 1, 1) := by decide +kernel
theorem dX11_isDipThere_40 : decode cX11_isDipThere 40 = .ok (.goto 4, 3) := by decide +kernel
theorem dX11_isDipThere_43 : decode cX11_isDipThere 43 = .ok (.iconst 0, 1) := by decide +kernel
theorem dX11_isDipThere_44 : decode cX11_isDipThere 44 = .ok (.ireturn, 1) := by decide +kernel
theorem dX11_isPut_0 : decode cX11_isPut 0 = .ok (.iload_n 1, 1) := by decide +kernel
theorem dX11_isPut_1 : decode cX11_isPut 1 = .ok (.ifCond .lt 27, 3) := by decide +kernel
theorem dX11_isPut_4 : decode cX11_isPut 4 = .ok (.iload_n 1, 1) := by decide +kernel
theorem dX11_isPut_5 : decode cX11_isPut 5 = .ok (.aload_n 0, 1) := by decide +kernel
theorem dX11_isPut_6 : decode cX11_isPut 6 = .ok (.getfield 7, 3) := by decide +kernel
theorem dX11_isPut_9 : decode cX11_isPut 9 = .ok (.iconst 1, 1) := by decide +kernel
theorem dX11_isPut_10 : decode cX11_isPut 10 = .ok (.iaload, 1) := by decide +kernel
theorem dX11_isPut_11 : decode cX11_isPut 11 = .ok (.if_icmp .ge 17, 3) := by decide +kernel
theorem dX11_isPut_14 : decode cX11_isPut 14 = .ok (.aload_n 0, 1) := by decide +kernel
theorem dX11_isPut_15 : decode cX11_isPut 15 = .ok (.iload_n 1, 1) := by decide +kernel
theorem dX11_isPut_16 : decode cX11_isPut 16 = .ok (.iconst 5, 1) := by decide +kernel
theorem dX11_isPut_17 : decode cX11_isPut 17 = .ok (.invokevirtual 166, 3) := by decide +kernel
theorem dX11_isPut_20 : decode cX11_isPut 20 = .ok (.iconst 1, 1) := by decide +kernel
