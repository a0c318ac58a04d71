theorem dX11_sets_0 : decode cX11_sets 0 = .ok (.aload_n 1, 1) := by decide +kernel
theorem dX11_sets_1 : decode cX11_sets 1 = .ok (.aload_n 0, 1) := by decide +kernel
theorem dX11_sets_2 : decode cX11_sets 2 = .ok (.getfield 206, 3) := by decide +kernel
theorem dX11_sets_5 : decode cX11_sets 5 = .ok (.iaload, 1) := by decide +kernel
theorem dX11_sets_6 : decode cX11_sets 6 = .ok (.ifCond .lt 11, 3) := by decide +kernel
theorem dX11_sets_9 : decode cX11_sets 9 = .ok (.aload_n 0, 1) := by decide +kernel
theorem dX11_sets_10 : decode cX11_sets 10 = .ok (.iconst 4, 1) := by decide +kernel
theorem dX11_sets_11 : decode cX11_sets 11 = .ok (.iload 4, 2) := by decide +kernel
theorem dX11_sets_13 : decode cX11_sets 13 = .ok (.invokevirtual 200, 3) := by decide +kernel
theorem dX11_sets_16 : decode cX11_sets 16 = .ok (.ireturn, 1) := by decide +kernel
theorem dX11_sets_17 : decode cX11_sets 17 = .ok (.aload_n 0, 1) := by decide +kernel
theorem dX11_sets_18 : decode cX11_sets 18 = .ok (.invokevirtual 194, 3) := by decide +kernel
theorem dX11_sets_21 : decode cX11_sets 21 = .ok (.aload_n 0, 1) := by decide +kernel
theorem dX11_sets_22 : decode cX11_sets 22 = .ok (.iload_n 2, 1) := by decide +kernel
theorem dX11_sets_23 : decode cX11_sets 23 = .ok (.iload_n 3, 1) := by decide +kernel
theorem dX11_sets_24 : decode cX11_sets 24 = .ok (.invokevirtual 255, 3) := by decide +kernel
theorem dX11_sets_27 : decode cX11_sets 27 = .ok (.ifCond .ne 5, 3) := by decide +kernel
theorem dX11_sets_30 : decode cX11_sets 30 = .ok (.iconst 0, 1) := by decide +kernel
theorem dX11_sets_31 : decode cX11_sets 31 = .ok (.ireturn, 1) := by decide +kernel
theorem dX11_sets_32 : decode cX11_sets 32 = .ok (.aload_n 1, 1) := by decide +kernel
theorem dX11_sets_33 : decode cX11_sets 33 = .ok (.aload_n 0, 1) := by decide +kernel
theorem dX11_sets_34 : decode cX11_sets 34 = .ok (.getfield 206, 3) := by decide +kernel
theorem dX11_sets_37 : decode cX11_sets 37 = .ok (.aload_n 0, 1) := by decide +kernel
theorem dX11_sets_38 : decode cX11_sets 38 = .ok (.getfield 203, 3) := by decide +kernel
theorem dX11_sets_41 : decode cX11_sets 41 = .ok (.iastore, 1) := by decide +kernel
theorem dX11_sets_42 : decode cX11_sets 42 = .ok (.iconst 1, 1) := by decide +kernel
theorem dX11_sets_43 : decode cX11_sets 43 = .ok (.ireturn, 1) := by decide +kernel
