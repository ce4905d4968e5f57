theorem de_I_bitCount_0 : decode am_I_bitCount.2.1 0 = .ok (.iload_n 0, 1) := by decide +kernel
theorem de_I_bitCount_1 : decode am_I_bitCount.2.1 1 = .ok (.iload_n 0, 1) := by decide +kernel
theorem de_I_bitCount_2 : decode am_I_bitCount.2.1 2 = .ok (.iconst 1, 1) := by decide +kernel
theorem de_I_bitCount_3 : decode am_I_bitCount.2.1 3 = .ok (.iushr, 1) := by decide +kernel
theorem de_I_bitCount_4 : decode am_I_bitCount.2.1 4 = .ok (.ldc_w 265, 3) := by decide +kernel
theorem de_I_bitCount_7 : decode am_I_bitCount.2.1 7 = .ok (.iand, 1) := by decide +kernel
theorem de_I_bitCount_8 : decode am_I_bitCount.2.1 8 = .ok (.isub, 1) := by decide +kernel
theorem de_I_bitCount_9 : decode am_I_bitCount.2.1 9 = .ok (.istore_n 0, 1) := by decide +kernel
theorem de_I_bitCount_10 : decode am_I_bitCount.2.1 10 = .ok (.iload_n 0, 1) := by decide +kernel
theorem de_I_bitCount_11 : decode am_I_bitCount.2.1 11 = .ok (.ldc_w 266, 3) := by decide +kernel
theorem de_I_bitCount_14 : decode am_I_bitCount.2.1 14 = .ok (.iand, 1) := by decide +kernel
theorem de_I_bitCount_15 : decode am_I_bitCount.2.1 15 = .ok (.iload_n 0, 1) := by decide +kernel
theorem de_I_bitCount_16 : decode am_I_bitCount.2.1 16 = .ok (.iconst 2, 1) := by decide +kernel
theorem de_I_bitCount_17 : decode am_I_bitCount.2.1 17 = .ok (.iushr, 1) := by decide +kernel
theorem de_I_bitCount_18 : decode am_I_bitCount.2.1 18 = .ok (.ldc_w 266, 3) := by decide +kernel
theorem de_I_bitCount_21 : decode am_I_bitCount.2.1 21 = .ok (.iand, 1) := by decide +kernel
theorem de_I_bitCount_22 : decode am_I_bitCount.2.1 22 = .ok (.iadd, 1) := by decide +kernel
theorem de_I_bitCount_23 : decode am_I_bitCount.2.1 23 = .ok (.istore_n 0, 1) := by decide +kernel
theorem de_I_bitCount_24 : decode am_I_bitCount.2.1 24 = .ok (.iload_n 0, 1) := by decide +kernel
theorem de_I_bitCount_25 : decode am_I_bitCount.2.1 25 = .ok (.iload_n 0, 1) := by decide +kernel
theorem de_I_bitCount_26 : decode am_I_bitCount.2.1 26 = .ok (.iconst 4, 1) := by decide +kernel
theorem de_I_bitCount_27 : decode am_I_bitCount.2.1 27 = .ok (.iushr, 1) := by decide +kernel
theorem de_I_bitCount_28 : decode am_I_bitCount.2.1 28 = .ok (.iadd, 1) := by decide +kernel
theorem de_I_bitCount_29 : decode am_I_bitCount.2.1 29 = .ok (.ldc_w 267, 3) := by decide +kernel
theorem de_I_bitCount_32 : decode am_I_bitCount.2.1 32 = .ok (.iand, 1) := by decide +kernel
theorem de_I_bitCount_33 : decode am_I_bitCount.2.1 33 = .ok (.istore_n 0, 1) := by decide +kernel
theorem de_I_bitCount_34 : decode am_I_bitCount.2.1 34 = .ok (.iload_n 0, 1) := by decide +kernel
theorem de_I_bitCount_35 : decode am_I_bitCount.2.1 35 = .ok (.iload_n 0, 1) := by decide +kernel
theorem de_I_bitCount_36 : decode am_I_bitCount.2.1 36 = .ok (.bipush (8), 2) := by decide +kernel
theorem de_I_bitCount_38 : decode am_I_bitCount.2.1 38 = .ok (.iushr, 1) := by decide +kernel
theorem de_I_bitCount_39 : decode am_I_bitCount.2.1 39 = .ok (.iadd, 1) := by decide +kernel
theorem de_I_bitCount_40 : decode am_I_bitCount.2.1 40 = .ok (.istore_n 0, 1) := by decide +kernel
theorem de_I_bitCount_41 : decode am_I_bitCount.2.1 41 = .ok (.iload_n 0, 1) := by decide +kernel
theorem de_I_bitCount_42 : decode am_I_bitCount.2.1 42 = .ok (.iload_n 0, 1) := by decide +kernel
theorem de_I_bitCount_43 : decode am_I_bitCount.2.1 43 = .ok (.bipush (16), 2) := by decide +kernel
theorem de_I_bitCount_45 : decode am_I_bitCount.2.1 45 = .ok (.iushr, 1) := by decide +kernel
theorem de_I_bitCount_46 : decode am_I_bitCount.2.1 46 = .ok (.iadd, 1) := by decide +kernel
theorem de_I_bitCount_47 : decode am_I_bitCount.2.1 47 = .ok (.istore_n 0, 1) := by decide +kernel
theorem de_I_bitCount_48 : decode am_I_bitCount.2.1 48 = .ok (.iload_n 0, 1) := by decide +kernel
theorem de_I_bitCount_49 : decode am_I_bitCount.2.1 49 = .ok (.bipush (63), 2) := by decide +kernel
theorem de_I_bitCount_51 : decode am_I_bitCount.2.1 51 = .ok (.iand, 1) := by decide +kernel
theorem de_I_bitCount_52 : decode am_I_bitCount.2.1 52 = .ok (.ireturn, 1) := by decide +kernel
