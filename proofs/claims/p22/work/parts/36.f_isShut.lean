theorem dL_isShut_0 : decode cL_isShut 0 = .ok (.iload_n 0, 1) := by decide +kernel
theorem dL_isShut_1 : decode cL_isShut 1 = .ok (.ifCond .eq 8, 3) := by decide +kernel
theorem dL_isShut_4 : decode cL_isShut 4 = .ok (.iload_n 0, 1) := by decide +kernel
theorem dL_isShut_5 : decode cL_isShut 5 = .ok (.iconst 5, 1) := by decide +kernel
theorem dL_isShut_6 : decode cL_isShut 6 = .ok (.if_icmp .le 7, 3) := by decide +kernel
theorem dL_isShut_9 : decode cL_isShut 9 = .ok (.iconst 1, 1) := by decide +kernel
theorem dL_isShut_10 : decode cL_isShut 10 = .ok (.goto 4, 3) := by decide +kernel
theorem dL_isShut_13 : decode cL_isShut 13 = .ok (.iconst 0, 1) := by decide +kernel
theorem dL_isShut_14 : decode cL_isShut 14 = .ok (.ireturn, 1) := by decide +kernel
