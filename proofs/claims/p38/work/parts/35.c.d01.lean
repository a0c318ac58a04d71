theorem dX3_readSum_75 : decode cX3_readSum 75 = .ok (.iload_n 1, 1) := by decide +kernel
theorem dX3_readSum_76 : decode cX3_readSum 76 = .ok (.iconst (-1), 1) := by decide +kernel
theorem dX3_readSum_77 : decode cX3_readSum 77 = .ok (.if_icmp .eq 14, 3) := by decide +kernel
theorem dX3_readSum_80 : decode cX3_readSum 80 = .ok (.aload_n 0, 1) := by decide +kernel
theorem dX3_readSum_81 : decode cX3_readSum 81 = .ok (.getfield 24, 3) := by decide +kernel
theorem dX3_readSum_84 : decode cX3_readSum 84 = .ok (.ldc 164, 2) := by decide +kernel
theorem dX3_readSum_86 : decode cX3_readSum 86 = .ok (.iload_n 1, 1) := by decide +kernel
theorem dX3_readSum_87 : decode cX3_readSum 87 = .ok (.iadd, 1) := by decide +kernel
theorem dX3_readSum_88 : decode cX3_readSum 88 = .ok (.invokevirtual 154, 3) := by decide +kernel
theorem dX3_readSum_91 : decode cX3_readSum 91 = .ok (.iload 4, 2) := by decide +kernel
theorem dX3_readSum_93 : decode cX3_readSum 93 = .ok (.ifCond .eq 7, 3) := by decide +kernel
theorem dX3_readSum_96 : decode cX3_readSum 96 = .ok (.iload_n 1, 1) := by decide +kernel
theorem dX3_readSum_97 : decode cX3_readSum 97 = .ok (.goto 4, 3) := by decide +kernel
theorem dX3_readSum_100 : decode cX3_readSum 100 = .ok (.iload_n 3, 1) := by decide +kernel
theorem dX3_readSum_101 : decode cX3_readSum 101 = .ok (.istore_n 1, 1) := by decide +kernel
theorem dX3_readSum_102 : decode cX3_readSum 102 = .ok (.aload_n 0, 1) := by decide +kernel
theorem dX3_readSum_103 : decode cX3_readSum 103 = .ok (.invokevirtual 165, 3) := by decide +kernel
theorem dX3_readSum_106 : decode cX3_readSum 106 = .ok (.iload 4, 2) := by decide +kernel
theorem dX3_readSum_108 : decode cX3_readSum 108 = .ok (.ifCond .eq 14, 3) := by decide +kernel
theorem dX3_readSum_111 : decode cX3_readSum 111 = .ok (.aload_n 0, 1) := by decide +kernel
theorem dX3_readSum_112 : decode cX3_readSum 112 = .ok (.getfield 24, 3) := by decide +kernel
theorem dX3_readSum_115 : decode cX3_readSum 115 = .ok (.ldc 164, 2) := by decide +kernel
theorem dX3_readSum_117 : decode cX3_readSum 117 = .ok (.iload_n 3, 1) := by decide +kernel
theorem dX3_readSum_118 : decode cX3_readSum 118 = .ok (.iadd, 1) := by decide +kernel
theorem dX3_readSum_119 : decode cX3_readSum 119 = .ok (.invokevirtual 154, 3) := by decide +kernel
theorem dX3_readSum_122 : decode cX3_readSum 122 = .ok (.iinc 2 1, 3) := by decide +kernel
theorem dX3_readSum_125 : decode cX3_readSum 125 = .ok (.goto (-117), 3) := by decide +kernel
theorem dX3_readSum_128 : decode cX3_readSum 128 = .ok (.iload_n 1, 1) := by decide +kernel
theorem dX3_readSum_129 : decode cX3_readSum 129 = .ok (.iconst (-1), 1) := by decide +kernel
theorem dX3_readSum_130 : decode cX3_readSum 130 = .ok (.if_icmp .eq 14, 3) := by decide +kernel
theorem dX3_readSum_133 : decode cX3_readSum 133 = .ok (.aload_n 0, 1) := by decide +kernel
theorem dX3_readSum_134 : decode cX3_readSum 134 = .ok (.getfield 24, 3) := by decide +kernel
theorem dX3_readSum_137 : decode cX3_readSum 137 = .ok (.ldc 164, 2) := by decide +kernel
theorem dX3_readSum_139 : decode cX3_readSum 139 = .ok (.iload_n 1, 1) := by decide +kernel
theorem dX3_readSum_140 : decode cX3_readSum 140 = .ok (.iadd, 1) := by decide +kernel
theorem dX3_readSum_141 : decode cX3_readSum 141 = .ok (.invokevirtual 154, 3) := by decide +kernel
theorem dX3_readSum_144 : decode cX3_readSum 144 = .ok (.return_, 1) := by decide +kernel
theorem dX3_readTest_0 : decode cX3_readTest 0 = .ok (.iconst 0, 1) := by decide +kernel
theorem dX3_readTest_1 : decode cX3_readTest 1 = .ok (.istore_n 2, 1) := by decide +kernel
theorem dX3_readTest_2 : decode cX3_readTest 2 = .ok (.aload_n 0, 1) := by decide +kernel
theorem dX3_readTest_3 : decode cX3_readTest 3 = .ok (.iload_n 1, 1) := by decide +kernel
theorem dX3_readTest_4 : decode cX3_readTest 4 = .ok (.invokevirtual 148, 3) := by decide +kernel
theorem dX3_readTest_7 : decode cX3_readTest 7 = .ok (.iconst 0, 1) := by decide +kernel
theorem dX3_readTest_8 : decode cX3_readTest 8 = .ok (.istore_n 3, 1) := by decide +kernel
theorem dX3_readTest_9 : decode cX3_readTest 9 = .ok (.iload_n 3, 1) := by decide +kernel
theorem dX3_readTest_10 : decode cX3_readTest 10 = .ok (.sipush 400, 3) := by decide +kernel
theorem dX3_readTest_13 : decode cX3_readTest 13 = .ok (.if_icmp .ge 91, 3) := by decide +kernel
theorem dX3_readTest_16 : decode cX3_readTest 16 = .ok (.aload_n 0, 1) := by decide +kernel
theorem dX3_readTest_17 : decode cX3_readTest 17 = .ok (.getfield 41, 3) := by decide +kernel
theorem dX3_readTest_20 : decode cX3_readTest 20 = .ok (.ifCond .ne 84, 3) := by decide +kernel
theorem dX3_readTest_23 : decode cX3_readTest 23 = .ok (.aload_n 0, 1) := by decide +kernel
theorem dX3_readTest_24 : decode cX3_readTest 24 = .ok (.ldc 151, 2) := by decide +kernel
theorem dX3_readTest_26 : decode cX3_readTest 26 = .ok (.invokevirtual 99, 3) := by decide +kernel
theorem dX3_readTest_29 : decode cX3_readTest 29 = .ok (.istore 4, 2) := by decide +kernel
theorem dX3_readTest_31 : decode cX3_readTest 31 = .ok (.iload 4, 2) := by decide +kernel
theorem dX3_readTest_33 : decode cX3_readTest 33 = .ok (.iconst (-1), 1) := by decide +kernel
theorem dX3_readTest_34 : decode cX3_readTest 34 = .ok (.if_icmp .ne 6, 3) := by decide +kernel
theorem dX3_readTest_37 : decode cX3_readTest 37 = .ok (.goto 67, 3) := by decide +kernel
theorem dX3_readTest_40 : decode cX3_readTest 40 = .ok (.aload_n 0, 1) := by decide +kernel
theorem dX3_readTest_41 : decode cX3_readTest 41 = .ok (.invokevirtual 61, 3) := by decide +kernel
theorem dX3_readTest_44 : decode cX3_readTest 44 = .ok (.iload 4, 2) := by decide +kernel
theorem dX3_readTest_46 : decode cX3_readTest 46 = .ok (.iconst 1, 1) := by decide +kernel
theorem dX3_readTest_47 : decode cX3_readTest 47 = .ok (.if_icmp .ne 16, 3) := by decide +kernel
theorem dX3_readTest_50 : decode cX3_readTest 50 = .ok (.iload_n 2, 1) := by decide +kernel
theorem dX3_readTest_51 : decode cX3_readTest 51 = .ok (.ifCond .eq 12, 3) := by decide +kernel
theorem dX3_readTest_54 : decode cX3_readTest 54 = .ok (.aload_n 0, 1) := by decide +kernel
theorem dX3_readTest_55 : decode cX3_readTest 55 = .ok (.getfield 24, 3) := by decide +kernel
theorem dX3_readTest_58 : decode cX3_readTest 58 = .ok (.ldc 153, 2) := by decide +kernel
theorem dX3_readTest_60 : decode cX3_readTest 60 = .ok (.invokevirtual 154, 3) := by decide +kernel
theorem dX3_readTest_63 : decode cX3_readTest 63 = .ok (.iload_n 2, 1) := by decide +kernel
theorem dX3_readTest_64 : decode cX3_readTest 64 = .ok (.ifCond .ne 9, 3) := by decide +kernel
theorem dX3_readTest_67 : decode cX3_readTest 67 = .ok (.iload 4, 2) := by decide +kernel
theorem dX3_readTest_69 : decode cX3_readTest 69 = .ok (.iconst 1, 1) := by decide +kernel
theorem dX3_readTest_70 : decode cX3_readTest 70 = .ok (.if_icmp .ne 7, 3) := by decide +kernel
theorem dX3_readTest_73 : decode cX3_readTest 73 = .ok (.iconst 1, 1) := by decide +kernel
theorem dX3_readTest_74 : decode cX3_readTest 74 = .ok (.goto 4, 3) := by decide +kernel
theorem dX3_readTest_77 : decode cX3_readTest 77 = .ok (.iconst 0, 1) := by decide +kernel
theorem dX3_readTest_78 : decode cX3_readTest 78 = .ok (.istore_n 2, 1) := by decide +kernel
theorem dX3_readTest_79 : decode cX3_readTest 79 = .ok (.aload_n 0, 1) := by decide +kernel
theorem dX3_readTest_80 : decode cX3_readTest 80 = .ok (.iload_n 1, 1) := by decide +kernel
theorem dX3_readTest_81 : decode cX3_readTest 81 = .ok (.invokevirtual 148, 3) := by decide +kernel
theorem dX3_readTest_84 : decode cX3_readTest 84 = .ok (.iload 4, 2) := by decide +kernel
theorem dX3_readTest_86 : decode cX3_readTest 86 = .ok (.ifCond .ne 12, 3) := by decide +kernel
theorem dX3_readTest_89 : decode cX3_readTest 89 = .ok (.aload_n 0, 1) := by decide +kernel
theorem dX3_readTest_90 : decode cX3_readTest 90 = .ok (.getfield 24, 3) := by decide +kernel
theorem dX3_readTest_93 : decode cX3_readTest 93 = .ok (.ldc 157, 2) := by decide +kernel
theorem dX3_readTest_95 : decode cX3_readTest 95 = .ok (.invokevirtual 154, 3) := by decide +kernel
theorem dX3_readTest_98 : decode cX3_readTest 98 = .ok (.iinc 3 1, 3) := by decide +kernel
theorem dX3_readTest_101 : decode cX3_readTest 101 = .ok (.goto (-92), 3) := by decide +kernel
theorem dX3_readTest_104 : decode cX3_readTest 104 = .ok (.iload_n 2, 1) := by decide +kernel
theorem dX3_readTest_105 : decode cX3_readTest 105 = .ok (.ifCond .eq 12, 3) := by decide +kernel
theorem dX3_readTest_108 : decode cX3_readTest 108 = .ok (.aload_n 0, 1) := by decide +kernel
theorem dX3_readTest_109 : decode cX3_readTest 109 = .ok (.getfield 24, 3) := by decide +kernel
theorem dX3_readTest_112 : decode cX3_readTest 112 = .ok (.ldc 153, 2) := by decide +kernel
theorem dX3_readTest_114 : decode cX3_readTest 114 = .ok (.invokevirtual 154, 3) := by decide +kernel
theorem dX3_readTest_117 : decode cX3_readTest 117 = .ok (.return_, 1) := by decide +kernel
theorem dX3_readValue_0 : decode cX3_readValue 0 = .ok (.aload_n 0, 1) := by decide +kernel
theorem dX3_readValue_1 : decode cX3_readValue 1 = .ok (.aload_n 0, 1) := by decide +kernel
theorem dX3_readValue_2 : decode cX3_readValue 2 = .ok (.getfield 17, 3) := by decide +kernel
theorem dX3_readValue_5 : decode cX3_readValue 5 = .ok (.invokevirtual 99, 3) := by decide +kernel
theorem dX3_readValue_8 : decode cX3_readValue 8 = .ok (.istore_n 1, 1) := by decide +kernel
theorem dX3_readValue_9 : decode cX3_readValue 9 = .ok (.aload_n 0, 1) := by decide +kernel
theorem dX3_readValue_10 : decode cX3_readValue 10 = .ok (.getfield 68, 3) := by decide +kernel
theorem dX3_readValue_13 : decode cX3_readValue 13 = .ok (.sipush 257, 3) := by decide +kernel
theorem dX3_readValue_16 : decode cX3_readValue 16 = .ok (.if_icmp .eq 16, 3) := by decide +kernel
theorem dX3_readValue_19 : decode cX3_readValue 19 = .ok (.iload_n 1, 1) := by decide +kernel
theorem dX3_readValue_20 : decode cX3_readValue 20 = .ok (.iconst (-1), 1) := by decide +kernel
theorem dX3_readValue_21 : decode cX3_readValue 21 = .ok (.if_icmp .ne 11, 3) := by decide +kernel
theorem dX3_readValue_24 : decode cX3_readValue 24 = .ok (.aload_n 0, 1) := by decide +kernel
theorem dX3_readValue_25 : decode cX3_readValue 25 = .ok (.iconst 0, 1) := by decide +kernel
theorem dX3_readValue_26 : decode cX3_readValue 26 = .ok (.invokevirtual 78, 3) := by decide +kernel
theorem dX3_readValue_29 : decode cX3_readValue 29 = .ok (.goto 88, 3) := by decide +kernel
theorem dX3_readValue_32 : decode cX3_readValue 32 = .ok (.aload_n 0, 1) := by decide +kernel
theorem dX3_readValue_33 : decode cX3_readValue 33 = .ok (.getfield 68, 3) := by decide +kernel
theorem dX3_readValue_36 : decode cX3_readValue 36 = .ok (.sipush 257, 3) := by decide +kernel
theorem dX3_readValue_39 : decode cX3_readValue 39 = .ok (.if_icmp .ne 19, 3) := by decide +kernel
theorem dX3_readValue_42 : decode cX3_readValue 42 = .ok (.aload_n 0, 1) := by decide +kernel
theorem dX3_readValue_43 : decode cX3_readValue 43 = .ok (.getfield 81, 3) := by decide +kernel
theorem dX3_readValue_46 : decode cX3_readValue 46 = .ok (.iconst (-1), 1) := by decide +kernel
theorem dX3_readValue_47 : decode cX3_readValue 47 = .ok (.if_icmp .ne 11, 3) := by decide +kernel
theorem dX3_readValue_50 : decode cX3_readValue 50 = .ok (.aload_n 0, 1) := by decide +kernel
theorem dX3_readValue_51 : decode cX3_readValue 51 = .ok (.iconst 1, 1) := by decide +kernel
theorem dX3_readValue_52 : decode cX3_readValue 52 = .ok (.invokevirtual 78, 3) := by decide +kernel
theorem dX3_readValue_55 : decode cX3_readValue 55 = .ok (.goto 62, 3) := by decide +kernel
theorem dX3_readValue_58 : decode cX3_readValue 58 = .ok (.aload_n 0, 1) := by decide +kernel
theorem dX3_readValue_59 : decode cX3_readValue 59 = .ok (.getfield 44, 3) := by decide +kernel
theorem dX3_readValue_62 : decode cX3_readValue 62 = .ok (.bipush 60, 2) := by decide +kernel
theorem dX3_readValue_64 : decode cX3_readValue 64 = .ok (.if_icmp .lt 11, 3) := by decide +kernel
theorem dX3_readValue_67 : decode cX3_readValue 67 = .ok (.aload_n 0, 1) := by decide +kernel
theorem dX3_readValue_68 : decode cX3_readValue 68 = .ok (.iconst 3, 1) := by decide +kernel
theorem dX3_readValue_69 : decode cX3_readValue 69 = .ok (.invokevirtual 78, 3) := by decide +kernel
theorem dX3_readValue_72 : decode cX3_readValue 72 = .ok (.goto 45, 3) := by decide +kernel
theorem dX3_readValue_75 : decode cX3_readValue 75 = .ok (.aload_n 0, 1) := by decide +kernel
theorem dX3_readValue_76 : decode cX3_readValue 76 = .ok (.dup, 1) := by decide +kernel
theorem dX3_readValue_77 : decode cX3_readValue 77 = .ok (.getfield 44, 3) := by decide +kernel
theorem dX3_readValue_80 : decode cX3_readValue 80 = .ok (.iconst 1, 1) := by decide +kernel
theorem dX3_readValue_81 : decode cX3_readValue 81 = .ok (.iadd, 1) := by decide +kernel
theorem dX3_readValue_82 : decode cX3_readValue 82 = .ok (.putfield 44, 3) := by decide +kernel
theorem dX3_readValue_85 : decode cX3_readValue 85 = .ok (.aload_n 0, 1) := by decide +kernel
theorem dX3_readValue_86 : decode cX3_readValue 86 = .ok (.getfield 24, 3) := by decide +kernel
theorem dX3_readValue_89 : decode cX3_readValue 89 = .ok (.aload_n 0, 1) := by decide +kernel
theorem dX3_readValue_90 : decode cX3_readValue 90 = .ok (.getfield 68, 3) := by decide +kernel
theorem dX3_readValue_93 : decode cX3_readValue 93 = .ok (.sipush 257, 3) := by decide +kernel
theorem dX3_readValue_96 : decode cX3_readValue 96 = .ok (.if_icmp .ne 10, 3) := by decide +kernel
theorem dX3_readValue_99 : decode cX3_readValue 99 = .ok (.aload_n 0, 1) := by decide +kernel
theorem dX3_readValue_100 : decode cX3_readValue 100 = .ok (.getfield 81, 3) := by decide +kernel
theorem dX3_readValue_103 : decode cX3_readValue 103 = .ok (.goto 7, 3) := by decide +kernel
theorem dX3_readValue_106 : decode cX3_readValue 106 = .ok (.ldc 168, 2) := by decide +kernel
theorem dX3_readValue_108 : decode cX3_readValue 108 = .ok (.iload_n 1, 1) := by decide +kernel
theorem dX3_readValue_109 : decode cX3_readValue 109 = .ok (.iadd, 1) := by decide +kernel
theorem dX3_readValue_110 : decode cX3_readValue 110 = .ok (.invokevirtual 154, 3) := by decide +kernel
theorem dX3_readValue_113 : decode cX3_readValue 113 = .ok (.aload_n 0, 1) := by decide +kernel
theorem dX3_readValue_114 : decode cX3_readValue 114 = .ok (.invokevirtual 61, 3) := by decide +kernel
theorem dX3_readValue_117 : decode cX3_readValue 117 = .ok (.return_, 1) := by decide +kernel
theorem dX3_setFault_0 : decode cX3_setFault 0 = .ok (.aload_n 0, 1) := by decide +kernel
theorem dX3_setFault_1 : decode cX3_setFault 1 = .ok (.getfield 41, 3) := by decide +kernel
theorem dX3_setFault_4 : decode cX3_setFault 4 = .ok (.ifCond .ne 18, 3) := by decide +kernel
theorem dX3_setFault_7 : decode cX3_setFault 7 = .ok (.aload_n 0, 1) := by decide +kernel
theorem dX3_setFault_8 : decode cX3_setFault 8 = .ok (.iconst 1, 1) := by decide +kernel
theorem dX3_setFault_9 : decode cX3_setFault 9 = .ok (.bipush 8, 2) := by decide +kernel
theorem dX3_setFault_11 : decode cX3_setFault 11 = .ok (.aload_n 0, 1) := by decide +kernel
theorem dX3_setFault_12 : decode cX3_setFault 12 = .ok (.getfield 75, 3) := by decide +kernel
theorem dX3_setFault_15 : decode cX3_setFault 15 = .ok (.imul, 1) := by decide +kernel
theorem dX3_setFault_16 : decode cX3_setFault 16 = .ok (.iadd, 1) := by decide +kernel
theorem dX3_setFault_17 : decode cX3_setFault 17 = .ok (.iload_n 1, 1) := by decide +kernel
theorem dX3_setFault_18 : decode cX3_setFault 18 = .ok (.iadd, 1) := by decide +kernel
theorem dX3_setFault_19 : decode cX3_setFault 19 = .ok (.putfield 41, 3) := by decide +kernel
theorem dX3_setFault_22 : decode cX3_setFault 22 = .ok (.return_, 1) := by decide +kernel
theorem dX3_step_0 : decode cX3_step 0 = .ok (.aload_n 0, 1) := by decide +kernel
theorem dX3_step_1 : decode cX3_step 1 = .ok (.getfield 38, 3) := by decide +kernel
theorem dX3_step_4 : decode cX3_step 4 = .ok (.aload_n 0, 1) := by decide +kernel
theorem dX3_step_5 : decode cX3_step 5 = .ok (.getfield 34, 3) := by decide +kernel
theorem dX3_step_8 : decode cX3_step 8 = .ok (.if_icmp .ge 30, 3) := by decide +kernel
theorem dX3_step_11 : decode cX3_step 11 = .ok (.aload_n 0, 1) := by decide +kernel
theorem dX3_step_12 : decode cX3_step 12 = .ok (.getfield 9, 3) := by decide +kernel
theorem dX3_step_15 : decode cX3_step 15 = .ok (.aload_n 0, 1) := by decide +kernel
theorem dX3_step_16 : decode cX3_step 16 = .ok (.getfield 38, 3) := by decide +kernel
theorem dX3_step_19 : decode cX3_step 19 = .ok (.baload, 1) := by decide +kernel
theorem dX3_step_20 : decode cX3_step 20 = .ok (.bipush 32, 2) := by decide +kernel
theorem dX3_step_22 : decode cX3_step 22 = .ok (.if_icmp .ne 16, 3) := by decide +kernel
theorem dX3_step_25 : decode cX3_step 25 = .ok (.aload_n 0, 1) := by decide +kernel
theorem dX3_step_26 : decode cX3_step 26 = .ok (.dup, 1) := by decide +kernel
theorem dX3_step_27 : decode cX3_step 27 = .ok (.getfield 38, 3) := by decide +kernel
theorem dX3_step_30 : decode cX3_step 30 = .ok (.iconst 1, 1) := by decide +kernel
theorem dX3_step_31 : decode cX3_step 31 = .ok (.iadd, 1) := by decide +kernel
theorem dX3_step_32 : decode cX3_step 32 = .ok (.putfield 38, 3) := by decide +kernel
theorem dX3_step_35 : decode cX3_step 35 = .ok (.goto (-35), 3) := by decide +kernel
theorem dX3_step_38 : decode cX3_step 38 = .ok (.aload_n 0, 1) := by decide +kernel
theorem dX3_step_39 : decode cX3_step 39 = .ok (.aload_n 0, 1) := by decide +kernel
theorem dX3_step_40 : decode cX3_step 40 = .ok (.getfield 38, 3) := by decide +kernel
theorem dX3_step_43 : decode cX3_step 43 = .ok (.putfield 75, 3) := by decide +kernel
theorem dX3_step_46 : decode cX3_step 46 = .ok (.aload_n 0, 1) := by decide +kernel
theorem dX3_step_47 : decode cX3_step 47 = .ok (.getfield 38, 3) := by decide +kernel
theorem dX3_step_50 : decode cX3_step 50 = .ok (.aload_n 0, 1) := by decide +kernel
theorem dX3_step_51 : decode cX3_step 51 = .ok (.getfield 34, 3) := by decide +kernel
theorem dX3_step_54 : decode cX3_step 54 = .ok (.if_icmp .ge 19, 3) := by decide +kernel
theorem dX3_step_57 : decode cX3_step 57 = .ok (.aload_n 0, 1) := by decide +kernel
theorem dX3_step_58 : decode cX3_step 58 = .ok (.getfield 9, 3) := by decide +kernel
theorem dX3_step_61 : decode cX3_step 61 = .ok (.aload_n 0, 1) := by decide +kernel
theorem dX3_step_62 : decode cX3_step 62 = .ok (.getfield 38, 3) := by decide +kernel
theorem dX3_step_65 : decode cX3_step 65 = .ok (.baload, 1) := by decide +kernel
theorem dX3_step_66 : decode cX3_step 66 = .ok (.sipush 255, 3) := by decide +kernel
theorem dX3_step_69 : decode cX3_step 69 = .ok (.iand, 1) := by decide +kernel
theorem dX3_step_70 : decode cX3_step 70 = .ok (.goto 6, 3) := by decide +kernel
theorem dX3_step_73 : decode cX3_step 73 = .ok (.sipush 256, 3) := by decide +kernel
theorem dX3_step_76 : decode cX3_step 76 = .ok (.istore_n 1, 1) := by decide +kernel
theorem dX3_step_77 : decode cX3_step 77 = .ok (.iload_n 1, 1) := by decide +kernel
theorem dX3_step_78 : decode cX3_step 78 = .ok (.bipush 48, 2) := by decide +kernel
theorem dX3_step_80 : decode cX3_step 80 = .ok (.if_icmp .lt 124, 3) := by decide +kernel
theorem dX3_step_83 : decode cX3_step 83 = .ok (.iload_n 1, 1) := by decide +kernel
theorem dX3_step_84 : decode cX3_step 84 = .ok (.bipush 57, 2) := by decide +kernel
theorem dX3_step_86 : decode cX3_step 86 = .ok (.if_icmp .gt 118, 3) := by decide +kernel
theorem dX3_step_89 : decode cX3_step 89 = .ok (.aload_n 0, 1) := by decide +kernel
theorem dX3_step_90 : decode cX3_step 90 = .ok (.sipush 257, 3) := by decide +kernel
theorem dX3_step_93 : decode cX3_step 93 = .ok (.putfield 68, 3) := by decide +kernel
theorem dX3_step_96 : decode cX3_step 96 = .ok (.aload_n 0, 1) := by decide +kernel
theorem dX3_step_97 : decode cX3_step 97 = .ok (.iconst 0, 1) := by decide +kernel
theorem dX3_step_98 : decode cX3_step 98 = .ok (.putfield 81, 3) := by decide +kernel
theorem dX3_step_101 : decode cX3_step 101 = .ok (.aload_n 0, 1) := by decide +kernel
theorem dX3_step_102 : decode cX3_step 102 = .ok (.getfield 38, 3) := by decide +kernel
theorem dX3_step_105 : decode cX3_step 105 = .ok (.aload_n 0, 1) := by decide +kernel
theorem dX3_step_106 : decode cX3_step 106 = .ok (.getfield 34, 3) := by decide +kernel
theorem dX3_step_109 : decode cX3_step 109 = .ok (.if_icmp .ge 268, 3) := by decide +kernel
theorem dX3_step_112 : decode cX3_step 112 = .ok (.aload_n 0, 1) := by decide +kernel
theorem dX3_step_113 : decode cX3_step 113 = .ok (.getfield 9, 3) := by decide +kernel
theorem dX3_step_116 : decode cX3_step 116 = .ok (.aload_n 0, 1) := by decide +kernel
theorem dX3_step_117 : decode cX3_step 117 = .ok (.getfield 38, 3) := by decide +kernel
theorem dX3_step_120 : decode cX3_step 120 = .ok (.baload, 1) := by decide +kernel
theorem dX3_step_121 : decode cX3_step 121 = .ok (.bipush 48, 2) := by decide +kernel
theorem dX3_step_123 : decode cX3_step 123 = .ok (.if_icmp .lt 254, 3) := by decide +kernel
theorem dX3_step_126 : decode cX3_step 126 = .ok (.aload_n 0, 1) := by decide +kernel
theorem dX3_step_127 : decode cX3_step 127 = .ok (.getfield 9, 3) := by decide +kernel
theorem dX3_step_130 : decode cX3_step 130 = .ok (.aload_n 0, 1) := by decide +kernel
theorem dX3_step_131 : decode cX3_step 131 = .ok (.getfield 38, 3) := by decide +kernel
theorem dX3_step_134 : decode cX3_step 134 = .ok (.baload, 1) := by decide +kernel
theorem dX3_step_135 : decode cX3_step 135 = .ok (.bipush 57, 2) := by decide +kernel
theorem dX3_step_137 : decode cX3_step 137 = .ok (.if_icmp .gt 240, 3) := by decide +kernel
theorem dX3_step_140 : decode cX3_step 140 = .ok (.aload_n 0, 1) := by decide +kernel
theorem dX3_step_141 : decode cX3_step 141 = .ok (.getfield 38, 3) := by decide +kernel
theorem dX3_step_144 : decode cX3_step 144 = .ok (.aload_n 0, 1) := by decide +kernel
theorem dX3_step_145 : decode cX3_step 145 = .ok (.getfield 75, 3) := by decide +kernel
theorem dX3_step_148 : decode cX3_step 148 = .ok (.isub, 1) := by decide +kernel
theorem dX3_step_149 : decode cX3_step 149 = .ok (.iconst 5, 1) := by decide +kernel
theorem dX3_step_150 : decode cX3_step 150 = .ok (.if_icmp .ge 7, 3) := by decide +kernel
theorem dX3_step_153 : decode cX3_step 153 = .ok (.iconst 1, 1) := by decide +kernel
theorem dX3_step_154 : decode cX3_step 154 = .ok (.goto 4, 3) := by decide +kernel
theorem dX3_step_157 : decode cX3_step 157 = .ok (.iconst 0, 1) := by decide +kernel
theorem dX3_step_158 : decode cX3_step 158 = .ok (.istore_n 2, 1) := by decide +kernel
theorem dX3_step_159 : decode cX3_step 159 = .ok (.aload_n 0, 1) := by decide +kernel
theorem dX3_step_160 : decode cX3_step 160 = .ok (.iload_n 2, 1) := by decide +kernel
theorem dX3_step_161 : decode cX3_step 161 = .ok (.ifCond .eq 26, 3) := by decide +kernel
theorem dX3_step_164 : decode cX3_step 164 = .ok (.aload_n 0, 1) := by decide +kernel
theorem dX3_step_165 : decode cX3_step 165 = .ok (.getfield 81, 3) := by decide +kernel
theorem dX3_step_168 : decode cX3_step 168 = .ok (.bipush 10, 2) := by decide +kernel
theorem dX3_step_170 : decode cX3_step 170 = .ok (.imul, 1) := by decide +kernel
theorem dX3_step_171 : decode cX3_step 171 = .ok (.aload_n 0, 1) := by decide +kernel
theorem dX3_step_172 : decode cX3_step 172 = .ok (.getfield 9, 3) := by decide +kernel
theorem dX3_step_175 : decode cX3_step 175 = .ok (.aload_n 0, 1) := by decide +kernel
theorem dX3_step_176 : decode cX3_step 176 = .ok (.getfield 38, 3) := by decide +kernel
theorem dX3_step_179 : decode cX3_step 179 = .ok (.baload, 1) := by decide +kernel
theorem dX3_step_180 : decode cX3_step 180 = .ok (.iadd, 1) := by decide +kernel
theorem dX3_step_181 : decode cX3_step 181 = .ok (.bipush 48, 2) := by decide +kernel
theorem dX3_step_183 : decode cX3_step 183 = .ok (.isub, 1) := by decide +kernel
theorem dX3_step_184 : decode cX3_step 184 = .ok (.goto 4, 3) := by decide +kernel
theorem dX3_step_187 : decode cX3_step 187 = .ok (.iconst (-1), 1) := by decide +kernel
theorem dX3_step_188 : decode cX3_step 188 = .ok (.putfield 81, 3) := by decide +kernel
theorem dX3_step_191 : decode cX3_step 191 = .ok (.aload_n 0, 1) := by decide +kernel
theorem dX3_step_192 : decode cX3_step 192 = .ok (.dup, 1) := by decide +kernel
theorem dX3_step_193 : decode cX3_step 193 = .ok (.getfield 38, 3) := by decide +kernel
theorem dX3_step_196 : decode cX3_step 196 = .ok (.iconst 1, 1) := by decide +kernel
theorem dX3_step_197 : decode cX3_step 197 = .ok (.iadd, 1) := by decide +kernel
theorem dX3_step_198 : decode cX3_step 198 = .ok (.putfield 38, 3) := by decide +kernel
theorem dX3_step_201 : decode cX3_step 201 = .ok (.goto (-100), 3) := by decide +kernel
theorem dX3_step_204 : decode cX3_step 204 = .ok (.iload_n 1, 1) := by decide +kernel
theorem dX3_step_205 : decode cX3_step 205 = .ok (.bipush 97, 2) := by decide +kernel
theorem dX3_step_207 : decode cX3_step 207 = .ok (.if_icmp .lt 68, 3) := by decide +kernel
theorem dX3_step_210 : decode cX3_step 210 = .ok (.iload_n 1, 1) := by decide +kernel
theorem dX3_step_211 : decode cX3_step 211 = .ok (.bipush 122, 2) := by decide +kernel
theorem dX3_step_213 : decode cX3_step 213 = .ok (.if_icmp .gt 62, 3) := by decide +kernel
theorem dX3_step_216 : decode cX3_step 216 = .ok (.aload_n 0, 1) := by decide +kernel
theorem dX3_step_217 : decode cX3_step 217 = .ok (.sipush 258, 3) := by decide +kernel
theorem dX3_step_220 : decode cX3_step 220 = .ok (.putfield 68, 3) := by decide +kernel
theorem dX3_step_223 : decode cX3_step 223 = .ok (.aload_n 0, 1) := by decide +kernel
theorem dX3_step_224 : decode cX3_step 224 = .ok (.getfield 38, 3) := by decide +kernel
theorem dX3_step_227 : decode cX3_step 227 = .ok (.aload_n 0, 1) := by decide +kernel
theorem dX3_step_228 : decode cX3_step 228 = .ok (.getfield 34, 3) := by decide +kernel
theorem dX3_step_231 : decode cX3_step 231 = .ok (.if_icmp .ge 146, 3) := by decide +kernel
theorem dX3_step_234 : decode cX3_step 234 = .ok (.aload_n 0, 1) := by decide +kernel
theorem dX3_step_235 : decode cX3_step 235 = .ok (.getfield 9, 3) := by decide +kernel
theorem dX3_step_238 : decode cX3_step 238 = .ok (.aload_n 0, 1) := by decide +kernel
theorem dX3_step_239 : decode cX3_step 239 = .ok (.getfield 38, 3) := by decide +kernel
theorem dX3_step_242 : decode cX3_step 242 = .ok (.baload, 1) := by decide +kernel
theorem dX3_step_243 : decode cX3_step 243 = .ok (.bipush 97, 2) := by decide +kernel
theorem dX3_step_245 : decode cX3_step 245 = .ok (.if_icmp .lt 132, 3) := by decide +kernel
theorem dX3_step_248 : decode cX3_step 248 = .ok (.aload_n 0, 1) := by decide +kernel
theorem dX3_step_249 : decode cX3_step 249 = .ok (.getfield 9, 3) := by decide +kernel
theorem dX3_step_252 : decode cX3_step 252 = .ok (.aload_n 0, 1) := by decide +kernel
theorem dX3_step_253 : decode cX3_step 253 = .ok (.getfield 38, 3) := by decide +kernel
theorem dX3_step_256 : decode cX3_step 256 = .ok (.baload, 1) := by decide +kernel
theorem dX3_step_257 : decode cX3_step 257 = .ok (.bipush 122, 2) := by decide +kernel
theorem dX3_step_259 : decode cX3_step 259 = .ok (.if_icmp .gt 118, 3) := by decide +kernel
theorem dX3_step_262 : decode cX3_step 262 = .ok (.aload_n 0, 1) := by decide +kernel
theorem dX3_step_263 : decode cX3_step 263 = .ok (.dup, 1) := by decide +kernel
theorem dX3_step_264 : decode cX3_step 264 = .ok (.getfield 38, 3) := by decide +kernel
theorem dX3_step_267 : decode cX3_step 267 = .ok (.iconst 1, 1) := by decide +kernel
theorem dX3_step_268 : decode cX3_step 268 = .ok (.iadd, 1) := by decide +kernel
theorem dX3_step_269 : decode cX3_step 269 = .ok (.putfield 38, 3) := by decide +kernel
theorem dX3_step_272 : decode cX3_step 272 = .ok (.goto (-49), 3) := by decide +kernel
theorem dX3_step_275 : decode cX3_step 275 = .ok (.aload_n 0, 1) := by decide +kernel
theorem dX3_step_276 : decode cX3_step 276 = .ok (.iload_n 1, 1) := by decide +kernel
theorem dX3_step_277 : decode cX3_step 277 = .ok (.putfield 68, 3) := by decide +kernel
theorem dX3_step_280 : decode cX3_step 280 = .ok (.aload_n 0, 1) := by decide +kernel
theorem dX3_step_281 : decode cX3_step 281 = .ok (.dup, 1) := by decide +kernel
theorem dX3_step_282 : decode cX3_step 282 = .ok (.getfield 38, 3) := by decide +kernel
theorem dX3_step_285 : decode cX3_step 285 = .ok (.iload_n 1, 1) := by decide +kernel
theorem dX3_step_286 : decode cX3_step 286 = .ok (.sipush 256, 3) := by decide +kernel
theorem dX3_step_289 : decode cX3_step 289 = .ok (.if_icmp .ne 7, 3) := by decide +kernel
theorem dX3_step_292 : decode cX3_step 292 = .ok (.iconst 0, 1) := by decide +kernel
theorem dX3_step_293 : decode cX3_step 293 = .ok (.goto 4, 3) := by decide +kernel
theorem dX3_step_296 : decode cX3_step 296 = .ok (.iconst 1, 1) := by decide +kernel
theorem dX3_step_297 : decode cX3_step 297 = .ok (.iadd, 1) := by decide +kernel
theorem dX3_step_298 : decode cX3_step 298 = .ok (.putfield 38, 3) := by decide +kernel
theorem dX3_step_301 : decode cX3_step 301 = .ok (.aload_n 0, 1) := by decide +kernel
theorem dX3_step_302 : decode cX3_step 302 = .ok (.getfield 38, 3) := by decide +kernel
theorem dX3_step_305 : decode cX3_step 305 = .ok (.aload_n 0, 1) := by decide +kernel
theorem dX3_step_306 : decode cX3_step 306 = .ok (.getfield 34, 3) := by decide +kernel
theorem dX3_step_309 : decode cX3_step 309 = .ok (.if_icmp .ge 21, 3) := by decide +kernel
theorem dX3_step_312 : decode cX3_step 312 = .ok (.aload_n 0, 1) := by decide +kernel
theorem dX3_step_313 : decode cX3_step 313 = .ok (.getfield 9, 3) := by decide +kernel
theorem dX3_step_316 : decode cX3_step 316 = .ok (.aload_n 0, 1) := by decide +kernel
theorem dX3_step_317 : decode cX3_step 317 = .ok (.getfield 38, 3) := by decide +kernel
theorem dX3_step_320 : decode cX3_step 320 = .ok (.baload, 1) := by decide +kernel
theorem dX3_step_321 : decode cX3_step 321 = .ok (.bipush 61, 2) := by decide +kernel
theorem dX3_step_323 : decode cX3_step 323 = .ok (.if_icmp .ne 7, 3) := by decide +kernel
theorem dX3_step_326 : decode cX3_step 326 = .ok (.iconst 1, 1) := by decide +kernel
theorem dX3_step_327 : decode cX3_step 327 = .ok (.goto 4, 3) := by decide +kernel
theorem dX3_step_330 : decode cX3_step 330 = .ok (.iconst 0, 1) := by decide +kernel
theorem dX3_step_331 : decode cX3_step 331 = .ok (.istore_n 2, 1) := by decide +kernel
theorem dX3_step_332 : decode cX3_step 332 = .ok (.iload_n 2, 1) := by decide +kernel
theorem dX3_step_333 : decode cX3_step 333 = .ok (.ifCond .eq 44, 3) := by decide +kernel
theorem dX3_step_336 : decode cX3_step 336 = .ok (.iload_n 1, 1) := by decide +kernel
theorem dX3_step_337 : decode cX3_step 337 = .ok (.bipush 60, 2) := by decide +kernel
theorem dX3_step_339 : decode cX3_step 339 = .ok (.if_icmp .eq 9, 3) := by decide +kernel
theorem dX3_step_342 : decode cX3_step 342 = .ok (.iload_n 1, 1) := by decide +kernel
theorem dX3_step_343 : decode cX3_step 343 = .ok (.bipush 62, 2) := by decide +kernel
theorem dX3_step_345 : decode cX3_step 345 = .ok (.if_icmp .ne 32, 3) := by decide +kernel
theorem dX3_step_348 : decode cX3_step 348 = .ok (.aload_n 0, 1) := by decide +kernel
theorem dX3_step_349 : decode cX3_step 349 = .ok (.iload_n 1, 1) := by decide +kernel
theorem dX3_step_350 : decode cX3_step 350 = .ok (.bipush 60, 2) := by decide +kernel
theorem dX3_step_352 : decode cX3_step 352 = .ok (.if_icmp .ne 9, 3) := by decide +kernel
theorem dX3_step_355 : decode cX3_step 355 = .ok (.sipush 259, 3) := by decide +kernel
theorem dX3_step_358 : decode cX3_step 358 = .ok (.goto 6, 3) := by decide +kernel
theorem dX3_step_361 : decode cX3_step 361 = .ok (.sipush 260, 3) := by decide +kernel
theorem dX3_step_364 : decode cX3_step 364 = .ok (.putfield 68, 3) := by decide +kernel
theorem dX3_step_367 : decode cX3_step 367 = .ok (.aload_n 0, 1) := by decide +kernel
theorem dX3_step_368 : decode cX3_step 368 = .ok (.dup, 1) := by decide +kernel
theorem dX3_step_369 : decode cX3_step 369 = .ok (.getfield 38, 3) := by decide +kernel
theorem dX3_step_372 : decode cX3_step 372 = .ok (.iconst 1, 1) := by decide +kernel
theorem dX3_step_373 : decode cX3_step 373 = .ok (.iadd, 1) := by decide +kernel
theorem dX3_step_374 : decode cX3_step 374 = .ok (.putfield 38, 3) := by decide +kernel
theorem dX3_step_377 : decode cX3_step 377 = .ok (.return_, 1) := by decide +kernel
theorem dX3_whichOf_0 : decode cX3_whichOf 0 = .ok (.aload_n 0, 1) := by decide +kernel
theorem dX3_whichOf_1 : decode cX3_whichOf 1 = .ok (.getfield 68, 3) := by decide +kernel
theorem dX3_whichOf_4 : decode cX3_whichOf 4 = .ok (.sipush 258, 3) := by decide +kernel
theorem dX3_whichOf_7 : decode cX3_whichOf 7 = .ok (.if_icmp .eq 5, 3) := by decide +kernel
theorem dX3_whichOf_10 : decode cX3_whichOf 10 = .ok (.iconst (-1), 1) := by decide +kernel
theorem dX3_whichOf_11 : decode cX3_whichOf 11 = .ok (.ireturn, 1) := by decide +kernel
theorem dX3_whichOf_12 : decode cX3_whichOf 12 = .ok (.iconst 0, 1) := by decide +kernel
theorem dX3_whichOf_13 : decode cX3_whichOf 13 = .ok (.istore_n 2, 1) := by decide +kernel
theorem dX3_whichOf_14 : decode cX3_whichOf 14 = .ok (.aload_n 0, 1) := by decide +kernel
theorem dX3_whichOf_15 : decode cX3_whichOf 15 = .ok (.getfield 75, 3) := by decide +kernel
theorem dX3_whichOf_18 : decode cX3_whichOf 18 = .ok (.istore_n 3, 1) := by decide +kernel
theorem dX3_whichOf_19 : decode cX3_whichOf 19 = .ok (.iconst 0, 1) := by decide +kernel
theorem dX3_whichOf_20 : decode cX3_whichOf 20 = .ok (.istore 4, 2) := by decide +kernel
theorem dX3_whichOf_22 : decode cX3_whichOf 22 = .ok (.iload 4, 2) := by decide +kernel
theorem dX3_whichOf_24 : decode cX3_whichOf 24 = .ok (.aload_n 1, 1) := by decide +kernel
theorem dX3_whichOf_25 : decode cX3_whichOf 25 = .ok (.invokevirtual 84, 3) := by decide +kernel
theorem dX3_whichOf_28 : decode cX3_whichOf 28 = .ok (.if_icmp .gt 102, 3) := by decide +kernel
theorem dX3_whichOf_31 : decode cX3_whichOf 31 = .ok (.iload 4, 2) := by decide +kernel
theorem dX3_whichOf_33 : decode cX3_whichOf 33 = .ok (.aload_n 1, 1) := by decide +kernel
theorem dX3_whichOf_34 : decode cX3_whichOf 34 = .ok (.invokevirtual 84, 3) := by decide +kernel
theorem dX3_whichOf_37 : decode cX3_whichOf 37 = .ok (.if_icmp .ge 12, 3) := by decide +kernel
theorem dX3_whichOf_40 : decode cX3_whichOf 40 = .ok (.aload_n 1, 1) := by decide +kernel
theorem dX3_whichOf_41 : decode cX3_whichOf 41 = .ok (.iload 4, 2) := by decide +kernel
theorem dX3_whichOf_43 : decode cX3_whichOf 43 = .ok (.invokevirtual 89, 3) := by decide +kernel
theorem dX3_whichOf_46 : decode cX3_whichOf 46 = .ok (.goto 5, 3) := by decide +kernel
theorem dX3_whichOf_49 : decode cX3_whichOf 49 = .ok (.bipush 32, 2) := by decide +kernel
theorem dX3_whichOf_51 : decode cX3_whichOf 51 = .ok (.istore 5, 2) := by decide +kernel
theorem dX3_whichOf_53 : decode cX3_whichOf 53 = .ok (.iload 5, 2) := by decide +kernel
theorem dX3_whichOf_55 : decode cX3_whichOf 55 = .ok (.bipush 32, 2) := by decide +kernel
theorem dX3_whichOf_57 : decode cX3_whichOf 57 = .ok (.if_icmp .ne 24, 3) := by decide +kernel
theorem dX3_whichOf_60 : decode cX3_whichOf 60 = .ok (.iload_n 3, 1) := by decide +kernel
theorem dX3_whichOf_61 : decode cX3_whichOf 61 = .ok (.aload_n 0, 1) := by decide +kernel
theorem dX3_whichOf_62 : decode cX3_whichOf 62 = .ok (.getfield 38, 3) := by decide +kernel
theorem dX3_whichOf_65 : decode cX3_whichOf 65 = .ok (.if_icmp .ne 5, 3) := by decide +kernel
theorem dX3_whichOf_68 : decode cX3_whichOf 68 = .ok (.iload_n 2, 1) := by decide +kernel
theorem dX3_whichOf_69 : decode cX3_whichOf 69 = .ok (.ireturn, 1) := by decide +kernel
theorem dX3_whichOf_70 : decode cX3_whichOf 70 = .ok (.iinc 2 1, 3) := by decide +kernel
theorem dX3_whichOf_73 : decode cX3_whichOf 73 = .ok (.aload_n 0, 1) := by decide +kernel
theorem dX3_whichOf_74 : decode cX3_whichOf 74 = .ok (.getfield 75, 3) := by decide +kernel
theorem dX3_whichOf_77 : decode cX3_whichOf 77 = .ok (.istore_n 3, 1) := by decide +kernel
theorem dX3_whichOf_78 : decode cX3_whichOf 78 = .ok (.goto 46, 3) := by decide +kernel
theorem dX3_whichOf_81 : decode cX3_whichOf 81 = .ok (.iload_n 3, 1) := by decide +kernel
theorem dX3_whichOf_82 : decode cX3_whichOf 82 = .ok (.ifCond .lt 26, 3) := by decide +kernel
theorem dX3_whichOf_85 : decode cX3_whichOf 85 = .ok (.iload_n 3, 1) := by decide +kernel
theorem dX3_whichOf_86 : decode cX3_whichOf 86 = .ok (.aload_n 0, 1) := by decide +kernel
theorem dX3_whichOf_87 : decode cX3_whichOf 87 = .ok (.getfield 38, 3) := by decide +kernel
theorem dX3_whichOf_90 : decode cX3_whichOf 90 = .ok (.if_icmp .ge 18, 3) := by decide +kernel
theorem dX3_whichOf_93 : decode cX3_whichOf 93 = .ok (.aload_n 0, 1) := by decide +kernel
theorem dX3_whichOf_94 : decode cX3_whichOf 94 = .ok (.getfield 9, 3) := by decide +kernel
theorem dX3_whichOf_97 : decode cX3_whichOf 97 = .ok (.iload_n 3, 1) := by decide +kernel
theorem dX3_whichOf_98 : decode cX3_whichOf 98 = .ok (.baload, 1) := by decide +kernel
theorem dX3_whichOf_99 : decode cX3_whichOf 99 = .ok (.iload 5, 2) := by decide +kernel
theorem dX3_whichOf_101 : decode cX3_whichOf 101 = .ok (.if_icmp .ne 7, 3) := by decide +kernel
theorem dX3_whichOf_104 : decode cX3_whichOf 104 = .ok (.iconst 1, 1) := by decide +kernel
theorem dX3_whichOf_105 : decode cX3_whichOf 105 = .ok (.goto 4, 3) := by decide +kernel
theorem dX3_whichOf_108 : decode cX3_whichOf 108 = .ok (.iconst 0, 1) := by decide +kernel
theorem dX3_whichOf_109 : decode cX3_whichOf 109 = .ok (.istore 6, 2) := by decide +kernel
theorem dX3_whichOf_111 : decode cX3_whichOf 111 = .ok (.iload 6, 2) := by decide +kernel
theorem dX3_whichOf_113 : decode cX3_whichOf 113 = .ok (.ifCond .eq 9, 3) := by decide +kernel
theorem dX3_whichOf_116 : decode cX3_whichOf 116 = .ok (.iload_n 3, 1) := by decide +kernel
theorem dX3_whichOf_117 : decode cX3_whichOf 117 = .ok (.iconst 1, 1) := by decide +kernel
theorem dX3_whichOf_118 : decode cX3_whichOf 118 = .ok (.iadd, 1) := by decide +kernel
theorem dX3_whichOf_119 : decode cX3_whichOf 119 = .ok (.goto 4, 3) := by decide +kernel
theorem dX3_whichOf_122 : decode cX3_whichOf 122 = .ok (.iconst (-1), 1) := by decide +kernel
theorem dX3_whichOf_123 : decode cX3_whichOf 123 = .ok (.istore_n 3, 1) := by decide +kernel
theorem dX3_whichOf_124 : decode cX3_whichOf 124 = .ok (.iinc 4 1, 3) := by decide +kernel
theorem dX3_whichOf_127 : decode cX3_whichOf 127 = .ok (.goto (-105), 3) := by decide +kernel
theorem dX3_whichOf_130 : decode cX3_whichOf 130 = .ok (.iconst (-1), 1) := by decide +kernel
theorem dX3_whichOf_131 : decode cX3_whichOf 131 = .ok (.ireturn, 1) := by decide +kernel
