theorem de_A_fillI_0 : decode am_A_fillI.2.1 0 = .ok (.iconst 0, 1) := by decide +kernel
theorem de_A_fillI_1 : decode am_A_fillI.2.1 1 = .ok (.istore_n 2, 1) := by decide +kernel
theorem de_A_fillI_2 : decode am_A_fillI.2.1 2 = .ok (.aload_n 0, 1) := by decide +kernel
theorem de_A_fillI_3 : decode am_A_fillI.2.1 3 = .ok (.arraylength, 1) := by decide +kernel
theorem de_A_fillI_4 : decode am_A_fillI.2.1 4 = .ok (.istore_n 3, 1) := by decide +kernel
theorem de_A_fillI_5 : decode am_A_fillI.2.1 5 = .ok (.iload_n 2, 1) := by decide +kernel
theorem de_A_fillI_6 : decode am_A_fillI.2.1 6 = .ok (.iload_n 3, 1) := by decide +kernel
theorem de_A_fillI_7 : decode am_A_fillI.2.1 7 = .ok (.if_icmp .ge (13), 3) := by decide +kernel
theorem de_A_fillI_10 : decode am_A_fillI.2.1 10 = .ok (.aload_n 0, 1) := by decide +kernel
theorem de_A_fillI_11 : decode am_A_fillI.2.1 11 = .ok (.iload_n 2, 1) := by decide +kernel
theorem de_A_fillI_12 : decode am_A_fillI.2.1 12 = .ok (.iload_n 1, 1) := by decide +kernel
theorem de_A_fillI_13 : decode am_A_fillI.2.1 13 = .ok (.iastore, 1) := by decide +kernel
theorem de_A_fillI_14 : decode am_A_fillI.2.1 14 = .ok (.iinc 2 (1), 3) := by decide +kernel
theorem de_A_fillI_17 : decode am_A_fillI.2.1 17 = .ok (.goto (-12), 3) := by decide +kernel
theorem de_A_fillI_20 : decode am_A_fillI.2.1 20 = .ok (.return_, 1) := by decide +kernel
theorem de_A_fillJ_0 : decode am_A_fillJ.2.1 0 = .ok (.iconst 0, 1) := by decide +kernel
theorem de_A_fillJ_1 : decode am_A_fillJ.2.1 1 = .ok (.istore_n 3, 1) := by decide +kernel
theorem de_A_fillJ_2 : decode am_A_fillJ.2.1 2 = .ok (.aload_n 0, 1) := by decide +kernel
theorem de_A_fillJ_3 : decode am_A_fillJ.2.1 3 = .ok (.arraylength, 1) := by decide +kernel
theorem de_A_fillJ_4 : decode am_A_fillJ.2.1 4 = .ok (.istore 4, 2) := by decide +kernel
theorem de_A_fillJ_6 : decode am_A_fillJ.2.1 6 = .ok (.iload_n 3, 1) := by decide +kernel
theorem de_A_fillJ_7 : decode am_A_fillJ.2.1 7 = .ok (.iload 4, 2) := by decide +kernel
theorem de_A_fillJ_9 : decode am_A_fillJ.2.1 9 = .ok (.if_icmp .ge (13), 3) := by decide +kernel
theorem de_A_fillJ_12 : decode am_A_fillJ.2.1 12 = .ok (.aload_n 0, 1) := by decide +kernel
theorem de_A_fillJ_13 : decode am_A_fillJ.2.1 13 = .ok (.iload_n 3, 1) := by decide +kernel
theorem de_A_fillJ_14 : decode am_A_fillJ.2.1 14 = .ok (.lload_n 1, 1) := by decide +kernel
theorem de_A_fillJ_15 : decode am_A_fillJ.2.1 15 = .ok (.lastore, 1) := by decide +kernel
theorem de_A_fillJ_16 : decode am_A_fillJ.2.1 16 = .ok (.iinc 3 (1), 3) := by decide +kernel
theorem de_A_fillJ_19 : decode am_A_fillJ.2.1 19 = .ok (.goto (-13), 3) := by decide +kernel
theorem de_A_fillJ_22 : decode am_A_fillJ.2.1 22 = .ok (.return_, 1) := by decide +kernel
