theorem dX11_sets_0 : decode cX11_sets 0 = .ok (.aload_n 1, 1) := by decide +kernel
theorem dX11_sets_1 : decode cX11_sets 1 = .ok (.aload_n 0, 1) := by decide +kernel
theorem dX11_sets_2 : decode cX11_sets 2 = .ok (.getfield 206, 3) := by decide +kernel
theorem dX11_sets_5 : decode cX11_sets 5 = .ok (.iaload, 1) := by decide +kernel
theorem dX11_sets_6 : decode cX11_sets 6 = .ok (.ifCond .lt 11, 3) := by decide +kernel
theorem dX11_sets_9 : decode cX11_sets 9 = .ok (.aload_n 0, 1) := by decide +kernel
theorem dX11_sets_10 : decode cX11_sets 10 = .ok (.iconst 4, 1) := by decide +kernel
theorem dX11_sets_11 : decode cX11_sets 11 = .ok (.iload 4, 2) := by decide +kernel
theorem dX11_sets_13 : decode cX11_sets 13 = .ok (.invokevirtual 200, 3) := by decide +kernel
theorem dX11_sets_16 : decode cX11_sets 16 = .ok (.ireturn, 1) := by decide +kernel
theorem dX11_sets_17 : decode cX11_sets 17 = .ok (.aload_n 0, 1) := by decide +kernel
theorem dX11_sets_18 : decode cX11_sets 18 = .ok (.invokevirtual 194, 3) := by decide +kernel
theorem dX11_sets_21 : decode cX11_sets 21 = .ok (.aload_n 0, 1) := by decide +kernel
theorem dX11_sets_22 : decode cX11_sets 22 = .ok (.iload_n 2, 1) := by decide +kernel
theorem dX11_sets_23 : decode cX11_sets 23 = .ok (.iload_n 3, 1) := by decide +kernel
theorem dX11_sets_24 : decode cX11_sets 24 = .ok (.invokevirtual 255, 3) := by decide +kernel
theorem dX11_sets_27 : decode cX11_sets 27 = .ok (.ifCond .ne 5, 3) := by decide +kernel
theorem dX11_sets_30 : decode cX11_sets 30 = .ok (.iconst 0, 1) := by decide +kernel
theorem dX11_sets_31 : decode cX11_sets 31 = .ok (.ireturn, 1) := by decide +kernel
theorem dX11_sets_32 : decode cX11_sets 32 = .ok (.aload_n 1, 1) := by decide +kernel
theorem dX11_sets_33 : decode cX11_sets 33 = .ok (.aload_n 0, 1) := by decide +kernel
theorem dX11_sets_34 : decode cX11_sets 34 = .ok (.getfield 206, 3) := by decide +kernel
theorem dX11_sets_37 : decode cX11_sets 37 = .ok (.aload_n 0, 1) := by decide +kernel
theorem dX11_sets_38 : decode cX11_sets 38 = .ok (.getfield 203, 3) := by decide +kernel
theorem dX11_sets_41 : decode cX11_sets 41 = .ok (.iastore, 1) := by decide +kernel
theorem dX11_sets_42 : decode cX11_sets 42 = .ok (.iconst 1, 1) := by decide +kernel
theorem dX11_sets_43 : decode cX11_sets 43 = .ok (.ireturn, 1) := by decide +kernel
theorem dX11_spans_0 : decode cX11_spans 0 = .ok (.aload_n 0, 1) := by decide +kernel
theorem dX11_spans_1 : decode cX11_spans 1 = .ok (.aload_n 1, 1) := by decide +kernel
theorem dX11_spans_2 : decode cX11_spans 2 = .ok (.iload_n 3, 1) := by decide +kernel
theorem dX11_spans_3 : decode cX11_spans 3 = .ok (.iload 4, 2) := by decide +kernel
theorem dX11_spans_5 : decode cX11_spans 5 = .ok (.iload 5, 2) := by decide +kernel
theorem dX11_spans_7 : decode cX11_spans 7 = .ok (.invokevirtual 306, 3) := by decide +kernel
theorem dX11_spans_10 : decode cX11_spans 10 = .ok (.ifCond .ne 5, 3) := by decide +kernel
theorem dX11_spans_13 : decode cX11_spans 13 = .ok (.iconst 0, 1) := by decide +kernel
theorem dX11_spans_14 : decode cX11_spans 14 = .ok (.ireturn, 1) := by decide +kernel
theorem dX11_spans_15 : decode cX11_spans 15 = .ok (.aload_n 0, 1) := by decide +kernel
theorem dX11_spans_16 : decode cX11_spans 16 = .ok (.getfield 203, 3) := by decide +kernel
theorem dX11_spans_19 : decode cX11_spans 19 = .ok (.istore 6, 2) := by decide +kernel
theorem dX11_spans_21 : decode cX11_spans 21 = .ok (.aload_n 0, 1) := by decide +kernel
theorem dX11_spans_22 : decode cX11_spans 22 = .ok (.iload 6, 2) := by decide +kernel
theorem dX11_spans_24 : decode cX11_spans 24 = .ok (.iload 4, 2) := by decide +kernel
theorem dX11_spans_26 : decode cX11_spans 26 = .ok (.invokevirtual 255, 3) := by decide +kernel
theorem dX11_spans_29 : decode cX11_spans 29 = .ok (.ifCond .ne 5, 3) := by decide +kernel
theorem dX11_spans_32 : decode cX11_spans 32 = .ok (.iconst 0, 1) := by decide +kernel
theorem dX11_spans_33 : decode cX11_spans 33 = .ok (.ireturn, 1) := by decide +kernel
theorem dX11_spans_34 : decode cX11_spans 34 = .ok (.aload_n 2, 1) := by decide +kernel
theorem dX11_spans_35 : decode cX11_spans 35 = .ok (.aload_n 0, 1) := by decide +kernel
theorem dX11_spans_36 : decode cX11_spans 36 = .ok (.getfield 206, 3) := by decide +kernel
theorem dX11_spans_39 : decode cX11_spans 39 = .ok (.aload_n 0, 1) := by decide +kernel
theorem dX11_spans_40 : decode cX11_spans 40 = .ok (.getfield 203, 3) := by decide +kernel
theorem dX11_spans_43 : decode cX11_spans 43 = .ok (.iastore, 1) := by decide +kernel
theorem dX11_spans_44 : decode cX11_spans 44 = .ok (.iconst 1, 1) := by decide +kernel
theorem dX11_spans_45 : decode cX11_spans 45 = .ok (.ireturn, 1) := by decide +kernel
