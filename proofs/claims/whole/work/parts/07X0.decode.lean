theorem de_X_max_0 : decode am_X_max.2.1 0 = .ok (.iload_n 0, 1) := by decide +kernel
theorem de_X_max_1 : decode am_X_max.2.1 1 = .ok (.iload_n 1, 1) := by decide +kernel
theorem de_X_max_2 : decode am_X_max.2.1 2 = .ok (.if_icmp .lt (7), 3) := by decide +kernel
theorem de_X_max_5 : decode am_X_max.2.1 5 = .ok (.iload_n 0, 1) := by decide +kernel
theorem de_X_max_6 : decode am_X_max.2.1 6 = .ok (.goto (4), 3) := by decide +kernel
theorem de_X_max_9 : decode am_X_max.2.1 9 = .ok (.iload_n 1, 1) := by decide +kernel
theorem de_X_max_10 : decode am_X_max.2.1 10 = .ok (.ireturn, 1) := by decide +kernel
theorem de_X_min_0 : decode am_X_min.2.1 0 = .ok (.iload_n 0, 1) := by decide +kernel
theorem de_X_min_1 : decode am_X_min.2.1 1 = .ok (.iload_n 1, 1) := by decide +kernel
theorem de_X_min_2 : decode am_X_min.2.1 2 = .ok (.if_icmp .gt (7), 3) := by decide +kernel
theorem de_X_min_5 : decode am_X_min.2.1 5 = .ok (.iload_n 0, 1) := by decide +kernel
theorem de_X_min_6 : decode am_X_min.2.1 6 = .ok (.goto (4), 3) := by decide +kernel
theorem de_X_min_9 : decode am_X_min.2.1 9 = .ok (.iload_n 1, 1) := by decide +kernel
theorem de_X_min_10 : decode am_X_min.2.1 10 = .ok (.ireturn, 1) := by decide +kernel
