theorem dX11_isHolding_0 : decode cX11_isHolding 0 = .ok (.bipush 60, 2) := by decide +kernel
theorem dX11_isHolding_2 : decode cX11_isHolding 2 = .ok (.iload_n 1, 1) := by decide +kernel
theorem dX11_isHolding_3 : decode cX11_isHolding 3 = .ok (.imul, 1) := by decide +kernel
theorem dX11_isHolding_4 : decode cX11_isHolding 4 = .ok (.iconst 5, 1) := by decide +kernel
theorem dX11_isHolding_5 : decode cX11_isHolding 5 = .ok (.iload_n 2, 1) := by decide +kernel
theorem dX11_isHolding_6 : decode cX11_isHolding 6 = .ok (.imul, 1) := by decide +kernel
theorem dX11_isHolding_7 : decode cX11_isHolding 7 = .ok (.iadd, 1) := by decide +kernel
theorem dX11_isHolding_8 : decode cX11_isHolding 8 = .ok (.istore_n 3, 1) := by decide +kernel
theorem dX11_isHolding_9 : decode cX11_isHolding 9 = .ok (.aload_n 0, 1) := by decide +kernel
theorem dX11_isHolding_10 : decode cX11_isHolding 10 = .ok (.getfield 29, 3) := by decide +kernel
theorem dX11_isHolding_13 : decode cX11_isHolding 13 = .ok (.iload_n 3, 1) := by decide +kernel
theorem dX11_isHolding_14 : decode cX11_isHolding 14 = .ok (.iconst 3, 1) := by decide +kernel
theorem dX11_isHolding_15 : decode cX11_isHolding 15 = .ok (.iadd, 1) := by decide +kernel
theorem dX11_isHolding_16 : decode cX11_isHolding 16 = .ok (.iaload, 1) := by decide +kernel
theorem dX11_isHolding_17 : decode cX11_isHolding 17 = .ok (.ifCond .lt 29, 3) := by decide +kernel
theorem dX11_isHolding_20 : decode cX11_isHolding 20 = .ok (.aload_n 0, 1) := by decide +kernel
theorem dX11_isHolding_21 : decode cX11_isHolding 21 = .ok (.iload_n 1, 1) := by decide +kernel
theorem dX11_isHolding_22 : decode cX11_isHolding 22 = .ok (.aload_n 0, 1) := by decide +kernel
theorem dX11_isHolding_23 : decode cX11_isHolding 23 = .ok (.getfield 29, 3) := by decide +kernel
theorem dX11_isHolding_26 : decode cX11_isHolding 26 = .ok (.iload_n 3, 1) := by decide +kernel
theorem dX11_isHolding_27 : decode cX11_isHolding 27 = .ok (.iconst 3, 1) := by decide +kernel
theorem dX11_isHolding_28 : decode cX11_isHolding 28 = .ok (.iadd, 1) := by decide +kernel
theorem dX11_isHolding_29 : decode cX11_isHolding 29 = .ok (.iaload, 1) := by decide +kernel
theorem dX11_isHolding_30 : decode cX11_isHolding 30 = .ok (.aload_n 0, 1) := by decide +kernel
theorem dX11_isHolding_31 : decode cX11_isHolding 31 = .ok (.getfield 29, 3) := by decide +kernel
theorem dX11_isHolding_34 : decode cX11_isHolding 34 = .ok (.iload_n 3, 1) := by decide +kernel
theorem dX11_isHolding_35 : decode cX11_isHolding 35 = .ok (.iconst 4, 1) := by decide +kernel
theorem dX11_isHolding_36 : decode cX11_isHolding 36 = .ok (.iadd, 1) := by decide +kernel
theorem dX11_isHolding_37 : decode cX11_isHolding 37 = .ok (.iaload, 1) := by decide +kernel
theorem dX11_isHolding_38 : decode cX11_isHolding 38 = .ok (.invokevirtual 362, 3) := by decide +kernel
theorem dX11_isHolding_41 : decode cX11_isHolding 41 = .ok (.lconst 1, 1) := by decide +kernel
theorem dX11_isHolding_42 : decode cX11_isHolding 42 = .ok (.lcmp, 1) := by decide +kernel
theorem dX11_isHolding_43 : decode cX11_isHolding 43 = .ok (.ifCond .ne 7, 3) := by decide +kernel
theorem dX11_isHolding_46 : decode cX11_isHolding 46 = .ok (.iconst 1, 1) := by decide +kernel
theorem dX11_isHolding_47 : decode cX11_isHolding 47 = .ok (.goto 4, 3) := by decide +kernel
theorem dX11_isHolding_50 : decode cX11_isHolding 50 = .ok (.iconst 0, 1) := by decide +kernel
theorem dX11_isHolding_51 : decode cX11_isHolding 51 = .ok (.ireturn, 1) := by decide +kernel
theorem dX11_pop_0 : decode cX11_pop 0 = .ok (.aload_n 0, 1) := by decide +kernel
theorem dX11_pop_1 : decode cX11_pop 1 = .ok (.dup, 1) := by decide +kernel
theorem dX11_pop_2 : decode cX11_pop 2 = .ok (.getfield 347, 3) := by decide +kernel
theorem dX11_pop_5 : decode cX11_pop 5 = .ok (.iconst 1, 1) := by decide +kernel
theorem dX11_pop_6 : decode cX11_pop 6 = .ok (.isub, 1) := by decide +kernel
theorem dX11_pop_7 : decode cX11_pop 7 = .ok (.putfield 347, 3) := by decide +kernel
theorem dX11_pop_10 : decode cX11_pop 10 = .ok (.aload_n 0, 1) := by decide +kernel
theorem dX11_pop_11 : decode cX11_pop 11 = .ok (.getfield 59, 3) := by decide +kernel
theorem dX11_pop_14 : decode cX11_pop 14 = .ok (.aload_n 0, 1) := by decide +kernel
theorem dX11_pop_15 : decode cX11_pop 15 = .ok (.getfield 347, 3) := by decide +kernel
theorem dX11_pop_18 : decode cX11_pop 18 = .ok (.laload, 1) := by decide +kernel
theorem dX11_pop_19 : decode cX11_pop 19 = .ok (.lreturn, 1) := by decide +kernel
theorem dX11_push_0 : decode cX11_push 0 = .ok (.aload_n 0, 1) := by decide +kernel
theorem dX11_push_1 : decode cX11_push 1 = .ok (.getfield 59, 3) := by decide +kernel
theorem dX11_push_4 : decode cX11_push 4 = .ok (.aload_n 0, 1) := by decide +kernel
theorem dX11_push_5 : decode cX11_push 5 = .ok (.getfield 347, 3) := by decide +kernel
theorem dX11_push_8 : decode cX11_push 8 = .ok (.lload_n 1, 1) := by decide +kernel
theorem dX11_push_9 : decode cX11_push 9 = .ok (.lastore, 1) := by decide +kernel
theorem dX11_push_10 : decode cX11_push 10 = .ok (.aload_n 0, 1) := by decide +kernel
theorem dX11_push_11 : decode cX11_push 11 = .ok (.dup, 1) := by decide +kernel
theorem dX11_push_12 : decode cX11_push 12 = .ok (.getfield 347, 3) := by decide +kernel
theorem dX11_push_15 : decode cX11_push 15 = .ok (.iconst 1, 1) := by decide +kernel
theorem dX11_push_16 : decode cX11_push 16 = .ok (.iadd, 1) := by decide +kernel
theorem dX11_push_17 : decode cX11_push 17 = .ok (.putfield 347, 3) := by decide +kernel
theorem dX11_push_20 : decode cX11_push 20 = .ok (.return_, 1) := by decide +kernel
theorem dX11_reckons_0 : decode cX11_reckons 0 = .ok (.aload_n 0, 1) := by decide +kernel
theorem dX11_reckons_1 : decode cX11_reckons 1 = .ok (.iconst 0, 1) := by decide +kernel
theorem dX11_reckons_2 : decode cX11_reckons 2 = .ok (.putfield 347, 3) := by decide +kernel
theorem dX11_reckons_5 : decode cX11_reckons 5 = .ok (.iload_n 2, 1) := by decide +kernel
theorem dX11_reckons_6 : decode cX11_reckons 6 = .ok (.istore 4, 2) := by decide +kernel
theorem dX11_reckons_8 : decode cX11_reckons 8 = .ok (.iload 4, 2) := by decide +kernel
theorem dX11_reckons_10 : decode cX11_reckons 10 = .ok (.iload_n 3, 1) := by decide +kernel
theorem dX11_reckons_11 : decode cX11_reckons 11 = .ok (.if_icmp .ge 124, 3) := by decide +kernel
theorem dX11_reckons_14 : decode cX11_reckons 14 = .ok (.aload_n 0, 1) := by decide +kernel
theorem dX11_reckons_15 : decode cX11_reckons 15 = .ok (.getfield 23, 3) := by decide +kernel
theorem dX11_reckons_18 : decode cX11_reckons 18 = .ok (.sipush 400, 3) := by decide +kernel
theorem dX11_reckons_21 : decode cX11_reckons 21 = .ok (.iload_n 1, 1) := by decide +kernel
theorem dX11_reckons_22 : decode cX11_reckons 22 = .ok (.imul, 1) := by decide +kernel
theorem dX11_reckons_23 : decode cX11_reckons 23 = .ok (.iload 4, 2) := by decide +kernel
theorem dX11_reckons_25 : decode cX11_reckons 25 = .ok (.iadd, 1) := by decide +kernel
theorem dX11_reckons_26 : decode cX11_reckons 26 = .ok (.iaload, 1) := by decide +kernel
theorem dX11_reckons_27 : decode cX11_reckons 27 = .ok (.bipush 15, 2) := by decide +kernel
theorem dX11_reckons_29 : decode cX11_reckons 29 = .ok (.iand, 1) := by decide +kernel
theorem dX11_reckons_30 : decode cX11_reckons 30 = .ok (.istore 5, 2) := by decide +kernel
theorem dX11_reckons_32 : decode cX11_reckons 32 = .ok (.aload_n 0, 1) := by decide +kernel
theorem dX11_reckons_33 : decode cX11_reckons 33 = .ok (.getfield 23, 3) := by decide +kernel
theorem dX11_reckons_36 : decode cX11_reckons 36 = .ok (.sipush 400, 3) := by decide +kernel
theorem dX11_reckons_39 : decode cX11_reckons 39 = .ok (.iload_n 1, 1) := by decide +kernel
theorem dX11_reckons_40 : decode cX11_reckons 40 = .ok (.imul, 1) := by decide +kernel
theorem dX11_reckons_41 : decode cX11_reckons 41 = .ok (.iload 4, 2) := by decide +kernel
theorem dX11_reckons_43 : decode cX11_reckons 43 = .ok (.iadd, 1) := by decide +kernel
theorem dX11_reckons_44 : decode cX11_reckons 44 = .ok (.iaload, 1) := by decide +kernel
theorem dX11_reckons_45 : decode cX11_reckons 45 = .ok (.iconst 4, 1) := by decide +kernel
theorem dX11_reckons_46 : decode cX11_reckons 46 = .ok (.ishr, 1) := by decide +kernel
theorem dX11_reckons_47 : decode cX11_reckons 47 = .ok (.istore 6, 2) := by decide +kernel
theorem dX11_reckons_49 : decode cX11_reckons 49 = .ok (.iload 5, 2) := by decide +kernel
theorem dX11_reckons_51 : decode cX11_reckons 51 = .ok (.ifCond .ne 13, 3) := by decide +kernel
theorem dX11_reckons_54 : decode cX11_reckons 54 = .ok (.aload_n 0, 1) := by decide +kernel
theorem dX11_reckons_55 : decode cX11_reckons 55 = .ok (.iload 6, 2) := by decide +kernel
theorem dX11_reckons_57 : decode cX11_reckons 57 = .ok (.i2l, 1) := by decide +kernel
theorem dX11_reckons_58 : decode cX11_reckons 58 = .ok (.invokevirtual 350, 3) := by decide +kernel
theorem dX11_reckons_61 : decode cX11_reckons 61 = .ok (.goto 68, 3) := by decide +kernel
theorem dX11_reckons_64 : decode cX11_reckons 64 = .ok (.iload 5, 2) := by decide +kernel
theorem dX11_reckons_66 : decode cX11_reckons 66 = .ok (.iconst 1, 1) := by decide +kernel
theorem dX11_reckons_67 : decode cX11_reckons 67 = .ok (.if_icmp .ne 17, 3) := by decide +kernel
theorem dX11_reckons_70 : decode cX11_reckons 70 = .ok (.aload_n 0, 1) := by decide +kernel
theorem dX11_reckons_71 : decode cX11_reckons 71 = .ok (.aload_n 0, 1) := by decide +kernel
theorem dX11_reckons_72 : decode cX11_reckons 72 = .ok (.getfield 63, 3) := by decide +kernel
theorem dX11_reckons_75 : decode cX11_reckons 75 = .ok (.iload 6, 2) := by decide +kernel
theorem dX11_reckons_77 : decode cX11_reckons 77 = .ok (.laload, 1) := by decide +kernel
theorem dX11_reckons_78 : decode cX11_reckons 78 = .ok (.invokevirtual 350, 3) := by decide +kernel
theorem dX11_reckons_81 : decode cX11_reckons 81 = .ok (.goto 48, 3) := by decide +kernel
theorem dX11_reckons_84 : decode cX11_reckons 84 = .ok (.iload 5, 2) := by decide +kernel
theorem dX11_reckons_86 : decode cX11_reckons 86 = .ok (.bipush 11, 2) := by decide +kernel
theorem dX11_reckons_88 : decode cX11_reckons 88 = .ok (.if_icmp .ne 16, 3) := by decide +kernel
theorem dX11_reckons_91 : decode cX11_reckons 91 = .ok (.aload_n 0, 1) := by decide +kernel
theorem dX11_reckons_92 : decode cX11_reckons 92 = .ok (.lconst 1, 1) := by decide +kernel
theorem dX11_reckons_93 : decode cX11_reckons 93 = .ok (.aload_n 0, 1) := by decide +kernel
theorem dX11_reckons_94 : decode cX11_reckons 94 = .ok (.invokevirtual 354, 3) := by decide +kernel
theorem dX11_reckons_97 : decode cX11_reckons 97 = .ok (.lsub, 1) := by decide +kernel
theorem dX11_reckons_98 : decode cX11_reckons 98 = .ok (.invokevirtual 350, 3) := by decide +kernel
theorem dX11_reckons_101 : decode cX11_reckons 101 = .ok (.goto 28, 3) := by decide +kernel
theorem dX11_reckons_104 : decode cX11_reckons 104 = .ok (.aload_n 0, 1) := by decide +kernel
theorem dX11_reckons_105 : decode cX11_reckons 105 = .ok (.invokevirtual 354, 3) := by decide +kernel
theorem dX11_reckons_108 : decode cX11_reckons 108 = .ok (.lstore 7, 2) := by decide +kernel
theorem dX11_reckons_110 : decode cX11_reckons 110 = .ok (.aload_n 0, 1) := by decide +kernel
theorem dX11_reckons_111 : decode cX11_reckons 111 = .ok (.invokevirtual 354, 3) := by decide +kernel
theorem dX11_reckons_114 : decode cX11_reckons 114 = .ok (.lstore 9, 2) := by decide +kernel
theorem dX11_reckons_116 : decode cX11_reckons 116 = .ok (.aload_n 0, 1) := by decide +kernel
theorem dX11_reckons_117 : decode cX11_reckons 117 = .ok (.iload 5, 2) := by decide +kernel
theorem dX11_reckons_119 : decode cX11_reckons 119 = .ok (.lload 9, 2) := by decide +kernel
theorem dX11_reckons_121 : decode cX11_reckons 121 = .ok (.lload 7, 2) := by decide +kernel
theorem dX11_reckons_123 : decode cX11_reckons 123 = .ok (.invokestatic 358, 3) := by decide +kernel
theorem dX11_reckons_126 : decode cX11_reckons 126 = .ok (.invokevirtual 350, 3) := by decide +kernel
theorem dX11_reckons_129 : decode cX11_reckons 129 = .ok (.iinc 4 1, 3) := by decide +kernel
theorem dX11_reckons_132 : decode cX11_reckons 132 = .ok (.goto (-124), 3) := by decide +kernel
theorem dX11_reckons_135 : decode cX11_reckons 135 = .ok (.aload_n 0, 1) := by decide +kernel
theorem dX11_reckons_136 : decode cX11_reckons 136 = .ok (.invokevirtual 354, 3) := by decide +kernel
theorem dX11_reckons_139 : decode cX11_reckons 139 = .ok (.lreturn, 1) := by decide +kernel
theorem dX11_summed_0 : decode cX11_summed 0 = .ok (.bipush 60, 2) := by decide +kernel
theorem dX11_summed_2 : decode cX11_summed 2 = .ok (.iload_n 1, 1) := by decide +kernel
theorem dX11_summed_3 : decode cX11_summed 3 = .ok (.imul, 1) := by decide +kernel
theorem dX11_summed_4 : decode cX11_summed 4 = .ok (.iconst 5, 1) := by decide +kernel
theorem dX11_summed_5 : decode cX11_summed 5 = .ok (.iload_n 2, 1) := by decide +kernel
theorem dX11_summed_6 : decode cX11_summed 6 = .ok (.imul, 1) := by decide +kernel
theorem dX11_summed_7 : decode cX11_summed 7 = .ok (.iadd, 1) := by decide +kernel
theorem dX11_summed_8 : decode cX11_summed 8 = .ok (.istore_n 3, 1) := by decide +kernel
theorem dX11_summed_9 : decode cX11_summed 9 = .ok (.aload_n 0, 1) := by decide +kernel
theorem dX11_summed_10 : decode cX11_summed 10 = .ok (.iload_n 1, 1) := by decide +kernel
theorem dX11_summed_11 : decode cX11_summed 11 = .ok (.aload_n 0, 1) := by decide +kernel
theorem dX11_summed_12 : decode cX11_summed 12 = .ok (.getfield 29, 3) := by decide +kernel
theorem dX11_summed_15 : decode cX11_summed 15 = .ok (.iload_n 3, 1) := by decide +kernel
theorem dX11_summed_16 : decode cX11_summed 16 = .ok (.iconst 1, 1) := by decide +kernel
theorem dX11_summed_17 : decode cX11_summed 17 = .ok (.iadd, 1) := by decide +kernel
theorem dX11_summed_18 : decode cX11_summed 18 = .ok (.iaload, 1) := by decide +kernel
theorem dX11_summed_19 : decode cX11_summed 19 = .ok (.aload_n 0, 1) := by decide +kernel
theorem dX11_summed_20 : decode cX11_summed 20 = .ok (.getfield 29, 3) := by decide +kernel
theorem dX11_summed_23 : decode cX11_summed 23 = .ok (.iload_n 3, 1) := by decide +kernel
theorem dX11_summed_24 : decode cX11_summed 24 = .ok (.iconst 2, 1) := by decide +kernel
theorem dX11_summed_25 : decode cX11_summed 25 = .ok (.iadd, 1) := by decide +kernel
theorem dX11_summed_26 : decode cX11_summed 26 = .ok (.iaload, 1) := by decide +kernel
theorem dX11_summed_27 : decode cX11_summed 27 = .ok (.invokevirtual 362, 3) := by decide +kernel
theorem dX11_summed_30 : decode cX11_summed 30 = .ok (.lreturn, 1) := by decide +kernel
