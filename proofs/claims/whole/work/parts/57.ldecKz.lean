theorem dC_0 : decode method_2_code 0 = .ok (.iload_n 1, 1) := by decide +kernel
theorem dC_1 : decode method_2_code 1 = .ok (.aload_n 0, 1) := by decide +kernel
theorem dC_2 : decode method_2_code 2 = .ok (.arraylength, 1) := by decide +kernel
theorem dC_3 : decode method_2_code 3 = .ok (.if_icmp .ge 9, 3) := by decide +kernel
theorem dC_6 : decode method_2_code 6 = .ok (.aload_n 0, 1) := by decide +kernel
theorem dC_7 : decode method_2_code 7 = .ok (.iload_n 1, 1) := by decide +kernel
theorem dC_8 : decode method_2_code 8 = .ok (.iaload, 1) := by decide +kernel
theorem dC_9 : decode method_2_code 9 = .ok (.goto 4, 3) := by decide +kernel
theorem dC_12 : decode method_2_code 12 = .ok (.iconst 0, 1) := by decide +kernel
theorem dC_13 : decode method_2_code 13 = .ok (.ireturn, 1) := by decide +kernel
