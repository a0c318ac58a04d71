theorem dX10_isBeat_0 : decode cX10_isBeat 0 = .ok (.iload_n 0, 1) := by decide +kernel
theorem dX10_isBeat_1 : decode cX10_isBeat 1 = .ok (.iconst 2, 1) := by decide +kernel
theorem dX10_isBeat_2 : decode cX10_isBeat 2 = .ok (.sipush 200, 3) := by decide +kernel
theorem dX10_isBeat_5 : decode cX10_isBeat 5 = .ok (.invokestatic 100, 3) := by decide +kernel
theorem dX10_isBeat_8 : decode cX10_isBeat 8 = .ok (.ireturn, 1) := by decide +kernel
theorem dX10_isHour_0 : decode cX10_isHour 0 = .ok (.iload_n 0, 1) := by decide +kernel
theorem dX10_isHour_1 : decode cX10_isHour 1 = .ok (.iconst 0, 1) := by decide +kernel
theorem dX10_isHour_2 : decode cX10_isHour 2 = .ok (.sipush 599, 3) := by decide +kernel
theorem dX10_isHour_5 : decode cX10_isHour 5 = .ok (.invokestatic 100, 3) := by decide +kernel
theorem dX10_isHour_8 : decode cX10_isHour 8 = .ok (.ireturn, 1) := by decide +kernel
theorem dX10_isSize_0 : decode cX10_isSize 0 = .ok (.iload_n 0, 1) := by decide +kernel
theorem dX10_isSize_1 : decode cX10_isSize 1 = .ok (.iconst 1, 1) := by decide +kernel
theorem dX10_isSize_2 : decode cX10_isSize 2 = .ok (.sipush 999, 3) := by decide +kernel
theorem dX10_isSize_5 : decode cX10_isSize 5 = .ok (.invokestatic 100, 3) := by decide +kernel
theorem dX10_isSize_8 : decode cX10_isSize 8 = .ok (.ireturn, 1) := by decide +kernel
theorem dX10_isWay_0 : decode cX10_isWay 0 = .ok (.iload_n 0, 1) := by decide +kernel
theorem dX10_isWay_1 : decode cX10_isWay 1 = .ok (.iconst 0, 1) := by decide +kernel
theorem dX10_isWay_2 : decode cX10_isWay 2 = .ok (.iconst 5, 1) := by decide +kernel
theorem dX10_isWay_3 : decode cX10_isWay 3 = .ok (.invokestatic 100, 3) := by decide +kernel
theorem dX10_isWay_6 : decode cX10_isWay 6 = .ok (.ireturn, 1) := by decide +kernel
theorem dX10_isWithin_0 : decode cX10_isWithin 0 = .ok (.iload_n 0, 1) := by decide +kernel
theorem dX10_isWithin_1 : decode cX10_isWithin 1 = .ok (.iload_n 1, 1) := by decide +kernel
theorem dX10_isWithin_2 : decode cX10_isWithin 2 = .ok (.if_icmp .lt 12, 3) := by decide +kernel
theorem dX10_isWithin_5 : decode cX10_isWithin 5 = .ok (.iload_n 0, 1) := by decide +kernel
theorem dX10_isWithin_6 : decode cX10_isWithin 6 = .ok (.iload_n 2, 1) := by decide +kernel
theorem dX10_isWithin_7 : decode cX10_isWithin 7 = .ok (.if_icmp .gt 7, 3) := by decide +kernel
theorem dX10_isWithin_10 : decode cX10_isWithin 10 = .ok (.iconst 1, 1) := by decide +kernel
theorem dX10_isWithin_11 : decode cX10_isWithin 11 = .ok (.goto 4, 3) := by decide +kernel
theorem dX10_isWithin_14 : decode cX10_isWithin 14 = .ok (.iconst 0, 1) := by decide +kernel
theorem dX10_isWithin_15 : decode cX10_isWithin 15 = .ok (.ireturn, 1) := by decide +kernel
