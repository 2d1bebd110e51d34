theorem dX8_isDay_0 : decode cX8_isDay 0 = .ok (.aload_n 0, 1) := by decide +kernel
theorem dX8_isDay_1 : decode cX8_isDay 1 = .ok (.invokevirtual 134, 3) := by decide +kernel
theorem dX8_isDay_4 : decode cX8_isDay 4 = .ok (.ifCond .eq 22, 3) := by decide +kernel
theorem dX8_isDay_26 : decode cX8_isDay 26 = .ok (.iconst 0, 1) := by decide +kernel
theorem dX8_isDay_27 : decode cX8_isDay 27 = .ok (.ireturn, 1) := by decide +kernel
theorem dX8_isPole_0 : decode cX8_isPole 0 = .ok (.iload_n 1, 1) := by decide +kernel
theorem dX8_isPole_1 : decode cX8_isPole 1 = .ok (.ifCond .lt 18, 3) := by decide +kernel
theorem dX8_isPole_4 : decode cX8_isPole 4 = .ok (.iload_n 1, 1) := by decide +kernel
theorem dX8_isPole_5 : decode cX8_isPole 5 = .ok (.aload_n 0, 1) := by decide +kernel
theorem dX8_isPole_6 : decode cX8_isPole 6 = .ok (.getfield 33, 3) := by decide +kernel
theorem dX8_isPole_9 : decode cX8_isPole 9 = .ok (.getfield 210, 3) := by decide +kernel
theorem dX8_isPole_12 : decode cX8_isPole 12 = .ok (.if_icmp .ge 7, 3) := by decide +kernel
theorem dX8_isPole_19 : decode cX8_isPole 19 = .ok (.iconst 0, 1) := by decide +kernel
theorem dX8_isPole_20 : decode cX8_isPole 20 = .ok (.ireturn, 1) := by decide +kernel
theorem dX8_isStation_0 : decode cX8_isStation 0 = .ok (.aload_n 0, 1) := by decide +kernel
theorem dX8_isStation_1 : decode cX8_isStation 1 = .ok (.iload_n 1, 1) := by decide +kernel
theorem dX8_isStation_2 : decode cX8_isStation 2 = .ok (.invokevirtual 121, 3) := by decide +kernel
theorem dX8_isStation_5 : decode cX8_isStation 5 = .ok (.ifCond .eq 20, 3) := by decide +kernel
theorem dX8_isStation_25 : decode cX8_isStation 25 = .ok (.iconst 0, 1) := by decide +kernel
theorem dX8_isStation_26 : decode cX8_isStation 26 = .ok (.ireturn, 1) := by decide +kernel
theorem dX8_isTold_0 : decode cX8_isTold 0 = .ok (.aload_n 0, 1) := by decide +kernel
theorem dX8_isTold_1 : decode cX8_isTold 1 = .ok (.getfield 33, 3) := by decide +kernel
theorem dX8_isTold_4 : decode cX8_isTold 4 = .ok (.getfield 118, 3) := by decide +kernel
theorem dX8_isTold_7 : decode cX8_isTold 7 = .ok (.ifCond .le 7, 3) := by decide +kernel
theorem dX8_isTold_14 : decode cX8_isTold 14 = .ok (.iconst 0, 1) := by decide +kernel
theorem dX8_isTold_15 : decode cX8_isTold 15 = .ok (.ireturn, 1) := by decide +kernel
theorem dX8_ohms_0 : decode cX8_ohms 0 = .ok (.aload_n 0, 1) := by decide +kernel
theorem dX8_ohms_1 : decode cX8_ohms 1 = .ok (.iload_n 1, 1) := by decide +kernel
theorem dX8_ohms_2 : decode cX8_ohms 2 = .ok (.invokevirtual 145, 3) := by decide +kernel
theorem dX8_ohms_5 : decode cX8_ohms 5 = .ok (.ifCond .eq 10, 3) := by decide +kernel
theorem dX8_ohms_15 : decode cX8_ohms 15 = .ok (.ldc2_w 162, 3) := by decide +kernel
theorem dX8_ohms_18 : decode cX8_ohms 18 = .ok (.lreturn, 1) := by decide +kernel
theorem dX8_sum_0 : decode cX8_sum 0 = .ok (.aload_n 0, 1) := by decide +kernel
theorem dX8_sum_1 : decode cX8_sum 1 = .ok (.invokevirtual 134, 3) := by decide +kernel
theorem dX8_sum_4 : decode cX8_sum 4 = .ok (.ifCond .ne 6, 3) := by decide +kernel
theorem dX8_sum_7 : decode cX8_sum 7 = .ok (.bipush (-2), 2) := by decide +kernel
theorem dX8_sum_9 : decode cX8_sum 9 = .ok (.ireturn, 1) := by decide +kernel

