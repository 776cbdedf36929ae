theorem dX10_min_0 : decode cX10_min 0 = .ok (.lload_n 0, 1) := by decide +kernel
theorem dX10_min_1 : decode cX10_min 1 = .ok (.lload_n 2, 1) := by decide +kernel
theorem dX10_min_2 : decode cX10_min 2 = .ok (.lcmp, 1) := by decide +kernel
theorem dX10_min_3 : decode cX10_min 3 = .ok (.ifCond .gt 7, 3) := by decide +kernel
theorem dX10_min_6 : decode cX10_min 6 = .ok (.lload_n 0, 1) := by decide +kernel
theorem dX10_min_7 : decode cX10_min 7 = .ok (.goto 4, 3) := by decide +kernel
theorem dX10_min_10 : decode cX10_min 10 = .ok (.lload_n 2, 1) := by decide +kernel
theorem dX10_min_11 : decode cX10_min 11 = .ok (.lreturn, 1) := by decide +kernel

theorem dX10_max_0 : decode cX10_max 0 = .ok (.iload_n 0, 1) := by decide +kernel
theorem dX10_max_1 : decode cX10_max 1 = .ok (.iload_n 1, 1) := by decide +kernel
theorem dX10_max_2 : decode cX10_max 2 = .ok (.if_icmp .lt 7, 3) := by decide +kernel
theorem dX10_max_5 : decode cX10_max 5 = .ok (.iload_n 0, 1) := by decide +kernel
theorem dX10_max_6 : decode cX10_max 6 = .ok (.goto 4, 3) := by decide +kernel
theorem dX10_max_9 : decode cX10_max 9 = .ok (.iload_n 1, 1) := by decide +kernel
theorem dX10_max_10 : decode cX10_max 10 = .ok (.ireturn, 1) := by decide +kernel

theorem dX10_abs_0 : decode cX10_abs 0 = .ok (.iload_n 0, 1) := by decide +kernel
theorem dX10_abs_1 : decode cX10_abs 1 = .ok (.ifCond .ge 8, 3) := by decide +kernel
theorem dX10_abs_4 : decode cX10_abs 4 = .ok (.iload_n 0, 1) := by decide +kernel
theorem dX10_abs_5 : decode cX10_abs 5 = .ok (.ineg, 1) := by decide +kernel
theorem dX10_abs_6 : decode cX10_abs 6 = .ok (.goto 4, 3) := by decide +kernel
theorem dX10_abs_9 : decode cX10_abs 9 = .ok (.iload_n 0, 1) := by decide +kernel
theorem dX10_abs_10 : decode cX10_abs 10 = .ok (.ireturn, 1) := by decide +kernel
