theorem de_R_init_0 : decode am_R_init.2.1 0 = .ok (.aload_n 0, 1) := by decide +kernel
theorem de_R_init_1 : decode am_R_init.2.1 1 = .ok (.invokespecial 5, 3) := by decide +kernel
theorem de_R_init_4 : decode am_R_init.2.1 4 = .ok (.aload_n 0, 1) := by decide +kernel
theorem de_R_init_5 : decode am_R_init.2.1 5 = .ok (.iload_n 1, 1) := by decide +kernel
theorem de_R_init_6 : decode am_R_init.2.1 6 = .ok (.putfield 11, 3) := by decide +kernel
theorem de_R_init_9 : decode am_R_init.2.1 9 = .ok (.aload_n 0, 1) := by decide +kernel
theorem de_R_init_10 : decode am_R_init.2.1 10 = .ok (.iload_n 2, 1) := by decide +kernel
theorem de_R_init_11 : decode am_R_init.2.1 11 = .ok (.putfield 15, 3) := by decide +kernel
theorem de_R_init_14 : decode am_R_init.2.1 14 = .ok (.aload_n 0, 1) := by decide +kernel
theorem de_R_init_15 : decode am_R_init.2.1 15 = .ok (.iload_n 2, 1) := by decide +kernel
theorem de_R_init_16 : decode am_R_init.2.1 16 = .ok (.invokestatic 18, 3) := by decide +kernel
theorem de_R_init_19 : decode am_R_init.2.1 19 = .ok (.putfield 22, 3) := by decide +kernel
theorem de_R_init_22 : decode am_R_init.2.1 22 = .ok (.aload_n 0, 1) := by decide +kernel
theorem de_R_init_23 : decode am_R_init.2.1 23 = .ok (.iload_n 2, 1) := by decide +kernel
theorem de_R_init_24 : decode am_R_init.2.1 24 = .ok (.invokestatic 25, 3) := by decide +kernel
theorem de_R_init_27 : decode am_R_init.2.1 27 = .ok (.putfield 28, 3) := by decide +kernel
theorem de_R_init_30 : decode am_R_init.2.1 30 = .ok (.aload_n 0, 1) := by decide +kernel
theorem de_R_init_31 : decode am_R_init.2.1 31 = .ok (.aload_n 3, 1) := by decide +kernel
theorem de_R_init_32 : decode am_R_init.2.1 32 = .ok (.putfield 31, 3) := by decide +kernel
theorem de_R_init_35 : decode am_R_init.2.1 35 = .ok (.return_, 1) := by decide +kernel
theorem de_R_priceOf_0 : decode am_R_priceOf.2.1 0 = .ok (.iconst 2, 1) := by decide +kernel
theorem de_R_priceOf_1 : decode am_R_priceOf.2.1 1 = .ok (.iload_n 0, 1) := by decide +kernel
theorem de_R_priceOf_2 : decode am_R_priceOf.2.1 2 = .ok (.bipush (71), 2) := by decide +kernel
theorem de_R_priceOf_4 : decode am_R_priceOf.2.1 4 = .ok (.iand, 1) := by decide +kernel
theorem de_R_priceOf_5 : decode am_R_priceOf.2.1 5 = .ok (.invokestatic 35, 3) := by decide +kernel
theorem de_R_priceOf_8 : decode am_R_priceOf.2.1 8 = .ok (.imul, 1) := by decide +kernel
theorem de_R_priceOf_9 : decode am_R_priceOf.2.1 9 = .ok (.iconst 3, 1) := by decide +kernel
theorem de_R_priceOf_10 : decode am_R_priceOf.2.1 10 = .ok (.iload_n 0, 1) := by decide +kernel
theorem de_R_priceOf_11 : decode am_R_priceOf.2.1 11 = .ok (.bipush (56), 2) := by decide +kernel
theorem de_R_priceOf_13 : decode am_R_priceOf.2.1 13 = .ok (.iand, 1) := by decide +kernel
theorem de_R_priceOf_14 : decode am_R_priceOf.2.1 14 = .ok (.invokestatic 35, 3) := by decide +kernel
theorem de_R_priceOf_17 : decode am_R_priceOf.2.1 17 = .ok (.imul, 1) := by decide +kernel
theorem de_R_priceOf_18 : decode am_R_priceOf.2.1 18 = .ok (.iadd, 1) := by decide +kernel
theorem de_R_priceOf_19 : decode am_R_priceOf.2.1 19 = .ok (.iload_n 0, 1) := by decide +kernel
theorem de_R_priceOf_20 : decode am_R_priceOf.2.1 20 = .ok (.sipush (896), 3) := by decide +kernel
theorem de_R_priceOf_23 : decode am_R_priceOf.2.1 23 = .ok (.iand, 1) := by decide +kernel
theorem de_R_priceOf_24 : decode am_R_priceOf.2.1 24 = .ok (.invokestatic 35, 3) := by decide +kernel
theorem de_R_priceOf_27 : decode am_R_priceOf.2.1 27 = .ok (.iadd, 1) := by decide +kernel
theorem de_R_priceOf_28 : decode am_R_priceOf.2.1 28 = .ok (.istore_n 1, 1) := by decide +kernel
theorem de_R_priceOf_29 : decode am_R_priceOf.2.1 29 = .ok (.iload_n 0, 1) := by decide +kernel
theorem de_R_priceOf_30 : decode am_R_priceOf.2.1 30 = .ok (.bipush (10), 2) := by decide +kernel
theorem de_R_priceOf_32 : decode am_R_priceOf.2.1 32 = .ok (.ishr, 1) := by decide +kernel
theorem de_R_priceOf_33 : decode am_R_priceOf.2.1 33 = .ok (.ifCond .ne (7), 3) := by decide +kernel
theorem de_R_priceOf_36 : decode am_R_priceOf.2.1 36 = .ok (.iload_n 1, 1) := by decide +kernel
theorem de_R_priceOf_37 : decode am_R_priceOf.2.1 37 = .ok (.goto (6), 3) := by decide +kernel
theorem de_R_priceOf_40 : decode am_R_priceOf.2.1 40 = .ok (.iload_n 1, 1) := by decide +kernel
theorem de_R_priceOf_41 : decode am_R_priceOf.2.1 41 = .ok (.iconst 2, 1) := by decide +kernel
theorem de_R_priceOf_42 : decode am_R_priceOf.2.1 42 = .ok (.iadd, 1) := by decide +kernel
theorem de_R_priceOf_43 : decode am_R_priceOf.2.1 43 = .ok (.ireturn, 1) := by decide +kernel
theorem de_R_partCount_0 : decode am_R_partCount.2.1 0 = .ok (.iload_n 0, 1) := by decide +kernel
theorem de_R_partCount_1 : decode am_R_partCount.2.1 1 = .ok (.sipush (1023), 3) := by decide +kernel
theorem de_R_partCount_4 : decode am_R_partCount.2.1 4 = .ok (.iand, 1) := by decide +kernel
theorem de_R_partCount_5 : decode am_R_partCount.2.1 5 = .ok (.invokestatic 35, 3) := by decide +kernel
theorem de_R_partCount_8 : decode am_R_partCount.2.1 8 = .ok (.istore_n 1, 1) := by decide +kernel
theorem de_R_partCount_9 : decode am_R_partCount.2.1 9 = .ok (.iload_n 0, 1) := by decide +kernel
theorem de_R_partCount_10 : decode am_R_partCount.2.1 10 = .ok (.bipush (10), 2) := by decide +kernel
theorem de_R_partCount_12 : decode am_R_partCount.2.1 12 = .ok (.ishr, 1) := by decide +kernel
theorem de_R_partCount_13 : decode am_R_partCount.2.1 13 = .ok (.ifCond .ne (7), 3) := by decide +kernel
theorem de_R_partCount_16 : decode am_R_partCount.2.1 16 = .ok (.iload_n 1, 1) := by decide +kernel
theorem de_R_partCount_17 : decode am_R_partCount.2.1 17 = .ok (.goto (6), 3) := by decide +kernel
theorem de_R_partCount_20 : decode am_R_partCount.2.1 20 = .ok (.iload_n 1, 1) := by decide +kernel
theorem de_R_partCount_21 : decode am_R_partCount.2.1 21 = .ok (.iconst 1, 1) := by decide +kernel
theorem de_R_partCount_22 : decode am_R_partCount.2.1 22 = .ok (.iadd, 1) := by decide +kernel
theorem de_R_partCount_23 : decode am_R_partCount.2.1 23 = .ok (.ireturn, 1) := by decide +kernel
theorem de_R_kindOf_0 : decode am_R_kindOf.2.1 0 = .ok (.iload_n 0, 1) := by decide +kernel
theorem de_R_kindOf_1 : decode am_R_kindOf.2.1 1 = .ok (.invokestatic 40, 3) := by decide +kernel
theorem de_R_kindOf_4 : decode am_R_kindOf.2.1 4 = .ok (.iconst 1, 1) := by decide +kernel
theorem de_R_kindOf_5 : decode am_R_kindOf.2.1 5 = .ok (.if_icmp .eq (6), 3) := by decide +kernel
theorem de_R_kindOf_8 : decode am_R_kindOf.2.1 8 = .ok (.bipush (7), 2) := by decide +kernel
theorem de_R_kindOf_10 : decode am_R_kindOf.2.1 10 = .ok (.ireturn, 1) := by decide +kernel
theorem de_R_kindOf_11 : decode am_R_kindOf.2.1 11 = .ok (.iload_n 0, 1) := by decide +kernel
theorem de_R_kindOf_12 : decode am_R_kindOf.2.1 12 = .ok (.bipush (7), 2) := by decide +kernel
theorem de_R_kindOf_14 : decode am_R_kindOf.2.1 14 = .ok (.iand, 1) := by decide +kernel
theorem de_R_kindOf_15 : decode am_R_kindOf.2.1 15 = .ok (.ifCond .eq (5), 3) := by decide +kernel
theorem de_R_kindOf_18 : decode am_R_kindOf.2.1 18 = .ok (.iconst 1, 1) := by decide +kernel
theorem de_R_kindOf_19 : decode am_R_kindOf.2.1 19 = .ok (.ireturn, 1) := by decide +kernel
theorem de_R_kindOf_20 : decode am_R_kindOf.2.1 20 = .ok (.iload_n 0, 1) := by decide +kernel
theorem de_R_kindOf_21 : decode am_R_kindOf.2.1 21 = .ok (.bipush (56), 2) := by decide +kernel
theorem de_R_kindOf_23 : decode am_R_kindOf.2.1 23 = .ok (.iand, 1) := by decide +kernel
theorem de_R_kindOf_24 : decode am_R_kindOf.2.1 24 = .ok (.ifCond .eq (5), 3) := by decide +kernel
theorem de_R_kindOf_27 : decode am_R_kindOf.2.1 27 = .ok (.iconst 2, 1) := by decide +kernel
theorem de_R_kindOf_28 : decode am_R_kindOf.2.1 28 = .ok (.ireturn, 1) := by decide +kernel
theorem de_R_kindOf_29 : decode am_R_kindOf.2.1 29 = .ok (.iload_n 0, 1) := by decide +kernel
theorem de_R_kindOf_30 : decode am_R_kindOf.2.1 30 = .ok (.lookupswitch (40) #[(64, 34), (128, 36), (256, 38)], 34) := by decide +kernel
theorem de_R_kindOf_64 : decode am_R_kindOf.2.1 64 = .ok (.iconst 3, 1) := by decide +kernel
theorem de_R_kindOf_65 : decode am_R_kindOf.2.1 65 = .ok (.ireturn, 1) := by decide +kernel
theorem de_R_kindOf_66 : decode am_R_kindOf.2.1 66 = .ok (.iconst 4, 1) := by decide +kernel
theorem de_R_kindOf_67 : decode am_R_kindOf.2.1 67 = .ok (.ireturn, 1) := by decide +kernel
theorem de_R_kindOf_68 : decode am_R_kindOf.2.1 68 = .ok (.iconst 5, 1) := by decide +kernel
theorem de_R_kindOf_69 : decode am_R_kindOf.2.1 69 = .ok (.ireturn, 1) := by decide +kernel
theorem de_R_kindOf_70 : decode am_R_kindOf.2.1 70 = .ok (.bipush (6), 2) := by decide +kernel
theorem de_R_kindOf_72 : decode am_R_kindOf.2.1 72 = .ok (.ireturn, 1) := by decide +kernel
theorem de_R_isOf_0 : decode am_R_isOf.2.1 0 = .ok (.iload_n 1, 1) := by decide +kernel
theorem de_R_isOf_1 : decode am_R_isOf.2.1 1 = .ok (.ifCond .eq (24), 3) := by decide +kernel
theorem de_R_isOf_4 : decode am_R_isOf.2.1 4 = .ok (.iload_n 1, 1) := by decide +kernel
theorem de_R_isOf_5 : decode am_R_isOf.2.1 5 = .ok (.aload_n 0, 1) := by decide +kernel
theorem de_R_isOf_6 : decode am_R_isOf.2.1 6 = .ok (.getfield 22, 3) := by decide +kernel
theorem de_R_isOf_9 : decode am_R_isOf.2.1 9 = .ok (.if_icmp .eq (16), 3) := by decide +kernel
theorem de_R_isOf_12 : decode am_R_isOf.2.1 12 = .ok (.iload_n 1, 1) := by decide +kernel
theorem de_R_isOf_13 : decode am_R_isOf.2.1 13 = .ok (.iconst 1, 1) := by decide +kernel
theorem de_R_isOf_14 : decode am_R_isOf.2.1 14 = .ok (.if_icmp .ne (15), 3) := by decide +kernel
theorem de_R_isOf_17 : decode am_R_isOf.2.1 17 = .ok (.aload_n 0, 1) := by decide +kernel
theorem de_R_isOf_18 : decode am_R_isOf.2.1 18 = .ok (.getfield 22, 3) := by decide +kernel
theorem de_R_isOf_21 : decode am_R_isOf.2.1 21 = .ok (.iconst 2, 1) := by decide +kernel
theorem de_R_isOf_22 : decode am_R_isOf.2.1 22 = .ok (.if_icmp .ne (7), 3) := by decide +kernel
theorem de_R_isOf_25 : decode am_R_isOf.2.1 25 = .ok (.iconst 1, 1) := by decide +kernel
theorem de_R_isOf_26 : decode am_R_isOf.2.1 26 = .ok (.goto (4), 3) := by decide +kernel
theorem de_R_isOf_29 : decode am_R_isOf.2.1 29 = .ok (.iconst 0, 1) := by decide +kernel
theorem de_R_isOf_30 : decode am_R_isOf.2.1 30 = .ok (.ireturn, 1) := by decide +kernel
theorem de_R_tells_0 : decode am_R_tells.2.1 0 = .ok (.iload_n 1, 1) := by decide +kernel
theorem de_R_tells_1 : decode am_R_tells.2.1 1 = .ok (.tableswitch (80) 0 7 #[47, 52, 52, 80, 80, 80, 64, 72], 47) := by decide +kernel
theorem de_R_tells_48 : decode am_R_tells.2.1 48 = .ok (.aload_n 0, 1) := by decide +kernel
theorem de_R_tells_49 : decode am_R_tells.2.1 49 = .ok (.getfield 15, 3) := by decide +kernel
theorem de_R_tells_52 : decode am_R_tells.2.1 52 = .ok (.ireturn, 1) := by decide +kernel
theorem de_R_tells_53 : decode am_R_tells.2.1 53 = .ok (.aload_n 0, 1) := by decide +kernel
theorem de_R_tells_54 : decode am_R_tells.2.1 54 = .ok (.getfield 15, 3) := by decide +kernel
theorem de_R_tells_57 : decode am_R_tells.2.1 57 = .ok (.iconst 1, 1) := by decide +kernel
theorem de_R_tells_58 : decode am_R_tells.2.1 58 = .ok (.isub, 1) := by decide +kernel
theorem de_R_tells_59 : decode am_R_tells.2.1 59 = .ok (.invokestatic 35, 3) := by decide +kernel
theorem de_R_tells_62 : decode am_R_tells.2.1 62 = .ok (.iconst 3, 1) := by decide +kernel
theorem de_R_tells_63 : decode am_R_tells.2.1 63 = .ok (.irem, 1) := by decide +kernel
theorem de_R_tells_64 : decode am_R_tells.2.1 64 = .ok (.ireturn, 1) := by decide +kernel
theorem de_R_tells_65 : decode am_R_tells.2.1 65 = .ok (.aload_n 0, 1) := by decide +kernel
theorem de_R_tells_66 : decode am_R_tells.2.1 66 = .ok (.getfield 15, 3) := by decide +kernel
theorem de_R_tells_69 : decode am_R_tells.2.1 69 = .ok (.bipush (10), 2) := by decide +kernel
theorem de_R_tells_71 : decode am_R_tells.2.1 71 = .ok (.ishr, 1) := by decide +kernel
theorem de_R_tells_72 : decode am_R_tells.2.1 72 = .ok (.ireturn, 1) := by decide +kernel
theorem de_R_tells_73 : decode am_R_tells.2.1 73 = .ok (.aload_n 0, 1) := by decide +kernel
theorem de_R_tells_74 : decode am_R_tells.2.1 74 = .ok (.getfield 15, 3) := by decide +kernel
theorem de_R_tells_77 : decode am_R_tells.2.1 77 = .ok (.invokestatic 40, 3) := by decide +kernel
theorem de_R_tells_80 : decode am_R_tells.2.1 80 = .ok (.ireturn, 1) := by decide +kernel
theorem de_R_tells_81 : decode am_R_tells.2.1 81 = .ok (.aload_n 0, 1) := by decide +kernel
theorem de_R_tells_82 : decode am_R_tells.2.1 82 = .ok (.getfield 28, 3) := by decide +kernel
theorem de_R_tells_85 : decode am_R_tells.2.1 85 = .ok (.ireturn, 1) := by decide +kernel
theorem de_R_read_0 : decode am_R_read.2.1 0 = .ok (.iconst 0, 1) := by decide +kernel
theorem de_R_read_1 : decode am_R_read.2.1 1 = .ok (.istore_n 2, 1) := by decide +kernel
theorem de_R_read_2 : decode am_R_read.2.1 2 = .ok (.sipush (8191), 3) := by decide +kernel
theorem de_R_read_5 : decode am_R_read.2.1 5 = .ok (.istore_n 3, 1) := by decide +kernel
theorem de_R_read_6 : decode am_R_read.2.1 6 = .ok (.iconst 0, 1) := by decide +kernel
theorem de_R_read_7 : decode am_R_read.2.1 7 = .ok (.istore 4, 2) := by decide +kernel
theorem de_R_read_9 : decode am_R_read.2.1 9 = .ok (.iconst 0, 1) := by decide +kernel
theorem de_R_read_10 : decode am_R_read.2.1 10 = .ok (.istore 5, 2) := by decide +kernel
theorem de_R_read_12 : decode am_R_read.2.1 12 = .ok (.iconst 0, 1) := by decide +kernel
theorem de_R_read_13 : decode am_R_read.2.1 13 = .ok (.istore 6, 2) := by decide +kernel
theorem de_R_read_15 : decode am_R_read.2.1 15 = .ok (.iload 6, 2) := by decide +kernel
theorem de_R_read_17 : decode am_R_read.2.1 17 = .ok (.iload_n 1, 1) := by decide +kernel
theorem de_R_read_18 : decode am_R_read.2.1 18 = .ok (.if_icmp .ge (101), 3) := by decide +kernel
theorem de_R_read_21 : decode am_R_read.2.1 21 = .ok (.aload_n 0, 1) := by decide +kernel
theorem de_R_read_22 : decode am_R_read.2.1 22 = .ok (.iload 6, 2) := by decide +kernel
theorem de_R_read_24 : decode am_R_read.2.1 24 = .ok (.laload, 1) := by decide +kernel
theorem de_R_read_25 : decode am_R_read.2.1 25 = .ok (.l2i, 1) := by decide +kernel
theorem de_R_read_26 : decode am_R_read.2.1 26 = .ok (.istore 7, 2) := by decide +kernel
theorem de_R_read_28 : decode am_R_read.2.1 28 = .ok (.iload 5, 2) := by decide +kernel
theorem de_R_read_30 : decode am_R_read.2.1 30 = .ok (.ifCond .eq (28), 3) := by decide +kernel
theorem de_R_read_33 : decode am_R_read.2.1 33 = .ok (.iload 7, 2) := by decide +kernel
theorem de_R_read_35 : decode am_R_read.2.1 35 = .ok (.bipush (59), 2) := by decide +kernel
theorem de_R_read_37 : decode am_R_read.2.1 37 = .ok (.if_icmp .eq (8), 3) := by decide +kernel
theorem de_R_read_40 : decode am_R_read.2.1 40 = .ok (.iconst (-1), 1) := by decide +kernel
theorem de_R_read_41 : decode am_R_read.2.1 41 = .ok (.iload 6, 2) := by decide +kernel
theorem de_R_read_43 : decode am_R_read.2.1 43 = .ok (.isub, 1) := by decide +kernel
theorem de_R_read_44 : decode am_R_read.2.1 44 = .ok (.ireturn, 1) := by decide +kernel
theorem de_R_read_45 : decode am_R_read.2.1 45 = .ok (.sipush (8191), 3) := by decide +kernel
theorem de_R_read_48 : decode am_R_read.2.1 48 = .ok (.istore_n 3, 1) := by decide +kernel
theorem de_R_read_49 : decode am_R_read.2.1 49 = .ok (.iconst 0, 1) := by decide +kernel
theorem de_R_read_50 : decode am_R_read.2.1 50 = .ok (.istore 4, 2) := by decide +kernel
theorem de_R_read_52 : decode am_R_read.2.1 52 = .ok (.iconst 0, 1) := by decide +kernel
theorem de_R_read_53 : decode am_R_read.2.1 53 = .ok (.istore 5, 2) := by decide +kernel
theorem de_R_read_55 : decode am_R_read.2.1 55 = .ok (.goto (58), 3) := by decide +kernel
theorem de_R_read_58 : decode am_R_read.2.1 58 = .ok (.iload_n 3, 1) := by decide +kernel
theorem de_R_read_59 : decode am_R_read.2.1 59 = .ok (.iload 4, 2) := by decide +kernel
theorem de_R_read_61 : decode am_R_read.2.1 61 = .ok (.iload 7, 2) := by decide +kernel
theorem de_R_read_63 : decode am_R_read.2.1 63 = .ok (.invokestatic 43, 3) := by decide +kernel
theorem de_R_read_66 : decode am_R_read.2.1 66 = .ok (.istore_n 3, 1) := by decide +kernel
theorem de_R_read_67 : decode am_R_read.2.1 67 = .ok (.iinc 4 (1), 3) := by decide +kernel
theorem de_R_read_70 : decode am_R_read.2.1 70 = .ok (.iload_n 3, 1) := by decide +kernel
theorem de_R_read_71 : decode am_R_read.2.1 71 = .ok (.iload 4, 2) := by decide +kernel
theorem de_R_read_73 : decode am_R_read.2.1 73 = .ok (.invokestatic 47, 3) := by decide +kernel
theorem de_R_read_76 : decode am_R_read.2.1 76 = .ok (.istore 8, 2) := by decide +kernel
theorem de_R_read_78 : decode am_R_read.2.1 78 = .ok (.iload_n 3, 1) := by decide +kernel
theorem de_R_read_79 : decode am_R_read.2.1 79 = .ok (.ifCond .eq (12), 3) := by decide +kernel
theorem de_R_read_82 : decode am_R_read.2.1 82 = .ok (.iload_n 2, 1) := by decide +kernel
theorem de_R_read_83 : decode am_R_read.2.1 83 = .ok (.iload 8, 2) := by decide +kernel
theorem de_R_read_85 : decode am_R_read.2.1 85 = .ok (.invokestatic 51, 3) := by decide +kernel
theorem de_R_read_88 : decode am_R_read.2.1 88 = .ok (.ifCond .eq (8), 3) := by decide +kernel
theorem de_R_read_91 : decode am_R_read.2.1 91 = .ok (.iconst (-1), 1) := by decide +kernel
theorem de_R_read_92 : decode am_R_read.2.1 92 = .ok (.iload 6, 2) := by decide +kernel
theorem de_R_read_94 : decode am_R_read.2.1 94 = .ok (.isub, 1) := by decide +kernel
theorem de_R_read_95 : decode am_R_read.2.1 95 = .ok (.ireturn, 1) := by decide +kernel
theorem de_R_read_96 : decode am_R_read.2.1 96 = .ok (.iload_n 2, 1) := by decide +kernel
theorem de_R_read_97 : decode am_R_read.2.1 97 = .ok (.iload 8, 2) := by decide +kernel
theorem de_R_read_99 : decode am_R_read.2.1 99 = .ok (.ior, 1) := by decide +kernel
theorem de_R_read_100 : decode am_R_read.2.1 100 = .ok (.istore_n 2, 1) := by decide +kernel
theorem de_R_read_101 : decode am_R_read.2.1 101 = .ok (.iload 8, 2) := by decide +kernel
theorem de_R_read_103 : decode am_R_read.2.1 103 = .ok (.ifCond .eq (7), 3) := by decide +kernel
theorem de_R_read_106 : decode am_R_read.2.1 106 = .ok (.iconst 1, 1) := by decide +kernel
theorem de_R_read_107 : decode am_R_read.2.1 107 = .ok (.goto (4), 3) := by decide +kernel
theorem de_R_read_110 : decode am_R_read.2.1 110 = .ok (.iconst 0, 1) := by decide +kernel
theorem de_R_read_111 : decode am_R_read.2.1 111 = .ok (.istore 5, 2) := by decide +kernel
theorem de_R_read_113 : decode am_R_read.2.1 113 = .ok (.iinc 6 (1), 3) := by decide +kernel
theorem de_R_read_116 : decode am_R_read.2.1 116 = .ok (.goto (-101), 3) := by decide +kernel
theorem de_R_read_119 : decode am_R_read.2.1 119 = .ok (.iload 5, 2) := by decide +kernel
theorem de_R_read_121 : decode am_R_read.2.1 121 = .ok (.ifCond .eq (7), 3) := by decide +kernel
theorem de_R_read_124 : decode am_R_read.2.1 124 = .ok (.iload_n 2, 1) := by decide +kernel
theorem de_R_read_125 : decode am_R_read.2.1 125 = .ok (.goto (6), 3) := by decide +kernel
theorem de_R_read_128 : decode am_R_read.2.1 128 = .ok (.iconst (-1), 1) := by decide +kernel
theorem de_R_read_129 : decode am_R_read.2.1 129 = .ok (.iload_n 1, 1) := by decide +kernel
theorem de_R_read_130 : decode am_R_read.2.1 130 = .ok (.isub, 1) := by decide +kernel
theorem de_R_read_131 : decode am_R_read.2.1 131 = .ok (.ireturn, 1) := by decide +kernel
theorem de_R_goingOn_0 : decode am_R_goingOn.2.1 0 = .ok (.iconst 0, 1) := by decide +kernel
theorem de_R_goingOn_1 : decode am_R_goingOn.2.1 1 = .ok (.istore_n 3, 1) := by decide +kernel
theorem de_R_goingOn_2 : decode am_R_goingOn.2.1 2 = .ok (.iconst 0, 1) := by decide +kernel
theorem de_R_goingOn_3 : decode am_R_goingOn.2.1 3 = .ok (.istore 4, 2) := by decide +kernel
theorem de_R_goingOn_5 : decode am_R_goingOn.2.1 5 = .ok (.iload 4, 2) := by decide +kernel
theorem de_R_goingOn_7 : decode am_R_goingOn.2.1 7 = .ok (.bipush (13), 2) := by decide +kernel
theorem de_R_goingOn_9 : decode am_R_goingOn.2.1 9 = .ok (.if_icmp .ge (47), 3) := by decide +kernel
theorem de_R_goingOn_12 : decode am_R_goingOn.2.1 12 = .ok (.iload_n 1, 1) := by decide +kernel
theorem de_R_goingOn_13 : decode am_R_goingOn.2.1 13 = .ok (.bipush (8), 2) := by decide +kernel
theorem de_R_goingOn_15 : decode am_R_goingOn.2.1 15 = .ok (.if_icmp .ge (41), 3) := by decide +kernel
theorem de_R_goingOn_18 : decode am_R_goingOn.2.1 18 = .ok (.iload_n 0, 1) := by decide +kernel
theorem de_R_goingOn_19 : decode am_R_goingOn.2.1 19 = .ok (.iload 4, 2) := by decide +kernel
theorem de_R_goingOn_21 : decode am_R_goingOn.2.1 21 = .ok (.ishr, 1) := by decide +kernel
theorem de_R_goingOn_22 : decode am_R_goingOn.2.1 22 = .ok (.iconst 1, 1) := by decide +kernel
theorem de_R_goingOn_23 : decode am_R_goingOn.2.1 23 = .ok (.iand, 1) := by decide +kernel
theorem de_R_goingOn_24 : decode am_R_goingOn.2.1 24 = .ok (.ifCond .eq (26), 3) := by decide +kernel
theorem de_R_goingOn_27 : decode am_R_goingOn.2.1 27 = .ok (.ldc 55, 2) := by decide +kernel
theorem de_R_goingOn_29 : decode am_R_goingOn.2.1 29 = .ok (.bipush (8), 2) := by decide +kernel
theorem de_R_goingOn_31 : decode am_R_goingOn.2.1 31 = .ok (.iload 4, 2) := by decide +kernel
theorem de_R_goingOn_33 : decode am_R_goingOn.2.1 33 = .ok (.imul, 1) := by decide +kernel
theorem de_R_goingOn_34 : decode am_R_goingOn.2.1 34 = .ok (.iload_n 1, 1) := by decide +kernel
theorem de_R_goingOn_35 : decode am_R_goingOn.2.1 35 = .ok (.iadd, 1) := by decide +kernel
theorem de_R_goingOn_36 : decode am_R_goingOn.2.1 36 = .ok (.invokevirtual 57, 3) := by decide +kernel
theorem de_R_goingOn_39 : decode am_R_goingOn.2.1 39 = .ok (.iload_n 2, 1) := by decide +kernel
theorem de_R_goingOn_40 : decode am_R_goingOn.2.1 40 = .ok (.if_icmp .ne (10), 3) := by decide +kernel
theorem de_R_goingOn_43 : decode am_R_goingOn.2.1 43 = .ok (.iload_n 3, 1) := by decide +kernel
theorem de_R_goingOn_44 : decode am_R_goingOn.2.1 44 = .ok (.iconst 1, 1) := by decide +kernel
theorem de_R_goingOn_45 : decode am_R_goingOn.2.1 45 = .ok (.iload 4, 2) := by decide +kernel
theorem de_R_goingOn_47 : decode am_R_goingOn.2.1 47 = .ok (.ishl, 1) := by decide +kernel
theorem de_R_goingOn_48 : decode am_R_goingOn.2.1 48 = .ok (.ior, 1) := by decide +kernel
theorem de_R_goingOn_49 : decode am_R_goingOn.2.1 49 = .ok (.istore_n 3, 1) := by decide +kernel
theorem de_R_goingOn_50 : decode am_R_goingOn.2.1 50 = .ok (.iinc 4 (1), 3) := by decide +kernel
theorem de_R_goingOn_53 : decode am_R_goingOn.2.1 53 = .ok (.goto (-48), 3) := by decide +kernel
theorem de_R_goingOn_56 : decode am_R_goingOn.2.1 56 = .ok (.iload_n 3, 1) := by decide +kernel
theorem de_R_goingOn_57 : decode am_R_goingOn.2.1 57 = .ok (.ireturn, 1) := by decide +kernel
theorem de_R_wholeWord_0 : decode am_R_wholeWord.2.1 0 = .ok (.iconst 0, 1) := by decide +kernel
theorem de_R_wholeWord_1 : decode am_R_wholeWord.2.1 1 = .ok (.istore_n 2, 1) := by decide +kernel
theorem de_R_wholeWord_2 : decode am_R_wholeWord.2.1 2 = .ok (.iload_n 2, 1) := by decide +kernel
theorem de_R_wholeWord_3 : decode am_R_wholeWord.2.1 3 = .ok (.bipush (13), 2) := by decide +kernel
theorem de_R_wholeWord_5 : decode am_R_wholeWord.2.1 5 = .ok (.if_icmp .ge (69), 3) := by decide +kernel
theorem de_R_wholeWord_8 : decode am_R_wholeWord.2.1 8 = .ok (.iload_n 1, 1) := by decide +kernel
theorem de_R_wholeWord_9 : decode am_R_wholeWord.2.1 9 = .ok (.bipush (8), 2) := by decide +kernel
theorem de_R_wholeWord_11 : decode am_R_wholeWord.2.1 11 = .ok (.if_icmp .ge (19), 3) := by decide +kernel
theorem de_R_wholeWord_14 : decode am_R_wholeWord.2.1 14 = .ok (.ldc 55, 2) := by decide +kernel
theorem de_R_wholeWord_16 : decode am_R_wholeWord.2.1 16 = .ok (.bipush (8), 2) := by decide +kernel
theorem de_R_wholeWord_18 : decode am_R_wholeWord.2.1 18 = .ok (.iload_n 2, 1) := by decide +kernel
theorem de_R_wholeWord_19 : decode am_R_wholeWord.2.1 19 = .ok (.imul, 1) := by decide +kernel
theorem de_R_wholeWord_20 : decode am_R_wholeWord.2.1 20 = .ok (.iload_n 1, 1) := by decide +kernel
theorem de_R_wholeWord_21 : decode am_R_wholeWord.2.1 21 = .ok (.iadd, 1) := by decide +kernel
theorem de_R_wholeWord_22 : decode am_R_wholeWord.2.1 22 = .ok (.invokevirtual 57, 3) := by decide +kernel
theorem de_R_wholeWord_25 : decode am_R_wholeWord.2.1 25 = .ok (.bipush (46), 2) := by decide +kernel
theorem de_R_wholeWord_27 : decode am_R_wholeWord.2.1 27 = .ok (.if_icmp .ne (7), 3) := by decide +kernel
theorem de_R_wholeWord_30 : decode am_R_wholeWord.2.1 30 = .ok (.iconst 1, 1) := by decide +kernel
theorem de_R_wholeWord_31 : decode am_R_wholeWord.2.1 31 = .ok (.goto (4), 3) := by decide +kernel
theorem de_R_wholeWord_34 : decode am_R_wholeWord.2.1 34 = .ok (.iconst 0, 1) := by decide +kernel
theorem de_R_wholeWord_35 : decode am_R_wholeWord.2.1 35 = .ok (.istore_n 3, 1) := by decide +kernel
theorem de_R_wholeWord_36 : decode am_R_wholeWord.2.1 36 = .ok (.iload_n 0, 1) := by decide +kernel
theorem de_R_wholeWord_37 : decode am_R_wholeWord.2.1 37 = .ok (.iload_n 2, 1) := by decide +kernel
theorem de_R_wholeWord_38 : decode am_R_wholeWord.2.1 38 = .ok (.ishr, 1) := by decide +kernel
theorem de_R_wholeWord_39 : decode am_R_wholeWord.2.1 39 = .ok (.iconst 1, 1) := by decide +kernel
theorem de_R_wholeWord_40 : decode am_R_wholeWord.2.1 40 = .ok (.iand, 1) := by decide +kernel
theorem de_R_wholeWord_41 : decode am_R_wholeWord.2.1 41 = .ok (.ifCond .eq (27), 3) := by decide +kernel
theorem de_R_wholeWord_44 : decode am_R_wholeWord.2.1 44 = .ok (.iload_n 3, 1) := by decide +kernel
theorem de_R_wholeWord_45 : decode am_R_wholeWord.2.1 45 = .ok (.ifCond .eq (23), 3) := by decide +kernel
theorem de_R_wholeWord_48 : decode am_R_wholeWord.2.1 48 = .ok (.iload_n 2, 1) := by decide +kernel
theorem de_R_wholeWord_49 : decode am_R_wholeWord.2.1 49 = .ok (.bipush (9), 2) := by decide +kernel
theorem de_R_wholeWord_51 : decode am_R_wholeWord.2.1 51 = .ok (.if_icmp .gt (9), 3) := by decide +kernel
theorem de_R_wholeWord_54 : decode am_R_wholeWord.2.1 54 = .ok (.iconst 1, 1) := by decide +kernel
theorem de_R_wholeWord_55 : decode am_R_wholeWord.2.1 55 = .ok (.iload_n 2, 1) := by decide +kernel
theorem de_R_wholeWord_56 : decode am_R_wholeWord.2.1 56 = .ok (.ishl, 1) := by decide +kernel
theorem de_R_wholeWord_57 : decode am_R_wholeWord.2.1 57 = .ok (.goto (10), 3) := by decide +kernel
theorem de_R_wholeWord_60 : decode am_R_wholeWord.2.1 60 = .ok (.iload_n 2, 1) := by decide +kernel
theorem de_R_wholeWord_61 : decode am_R_wholeWord.2.1 61 = .ok (.bipush (9), 2) := by decide +kernel
theorem de_R_wholeWord_63 : decode am_R_wholeWord.2.1 63 = .ok (.isub, 1) := by decide +kernel
theorem de_R_wholeWord_64 : decode am_R_wholeWord.2.1 64 = .ok (.bipush (10), 2) := by decide +kernel
theorem de_R_wholeWord_66 : decode am_R_wholeWord.2.1 66 = .ok (.ishl, 1) := by decide +kernel
theorem de_R_wholeWord_67 : decode am_R_wholeWord.2.1 67 = .ok (.ireturn, 1) := by decide +kernel
theorem de_R_wholeWord_68 : decode am_R_wholeWord.2.1 68 = .ok (.iinc 2 (1), 3) := by decide +kernel
theorem de_R_wholeWord_71 : decode am_R_wholeWord.2.1 71 = .ok (.goto (-69), 3) := by decide +kernel
theorem de_R_wholeWord_74 : decode am_R_wholeWord.2.1 74 = .ok (.iconst 0, 1) := by decide +kernel
theorem de_R_wholeWord_75 : decode am_R_wholeWord.2.1 75 = .ok (.ireturn, 1) := by decide +kernel
theorem de_R_isThere_0 : decode am_R_isThere.2.1 0 = .ok (.iload_n 0, 1) := by decide +kernel
theorem de_R_isThere_1 : decode am_R_isThere.2.1 1 = .ok (.iload_n 1, 1) := by decide +kernel
theorem de_R_isThere_2 : decode am_R_isThere.2.1 2 = .ok (.iand, 1) := by decide +kernel
theorem de_R_isThere_3 : decode am_R_isThere.2.1 3 = .ok (.ifCond .ne (17), 3) := by decide +kernel
theorem de_R_isThere_6 : decode am_R_isThere.2.1 6 = .ok (.iload_n 0, 1) := by decide +kernel
theorem de_R_isThere_7 : decode am_R_isThere.2.1 7 = .ok (.bipush (10), 2) := by decide +kernel
theorem de_R_isThere_9 : decode am_R_isThere.2.1 9 = .ok (.ishr, 1) := by decide +kernel
theorem de_R_isThere_10 : decode am_R_isThere.2.1 10 = .ok (.ifCond .eq (14), 3) := by decide +kernel
theorem de_R_isThere_13 : decode am_R_isThere.2.1 13 = .ok (.iload_n 1, 1) := by decide +kernel
theorem de_R_isThere_14 : decode am_R_isThere.2.1 14 = .ok (.bipush (10), 2) := by decide +kernel
theorem de_R_isThere_16 : decode am_R_isThere.2.1 16 = .ok (.ishr, 1) := by decide +kernel
theorem de_R_isThere_17 : decode am_R_isThere.2.1 17 = .ok (.ifCond .eq (7), 3) := by decide +kernel
theorem de_R_isThere_20 : decode am_R_isThere.2.1 20 = .ok (.iconst 1, 1) := by decide +kernel
theorem de_R_isThere_21 : decode am_R_isThere.2.1 21 = .ok (.goto (4), 3) := by decide +kernel
theorem de_R_isThere_24 : decode am_R_isThere.2.1 24 = .ok (.iconst 0, 1) := by decide +kernel
theorem de_R_isThere_25 : decode am_R_isThere.2.1 25 = .ok (.ireturn, 1) := by decide +kernel
theorem de_R_begins_0 : decode am_R_begins.2.1 0 = .ok (.iconst 1, 1) := by decide +kernel
theorem de_R_begins_1 : decode am_R_begins.2.1 1 = .ok (.aload_n 0, 1) := by decide +kernel
theorem de_R_begins_2 : decode am_R_begins.2.1 2 = .ok (.getfield 31, 3) := by decide +kernel
theorem de_R_begins_5 : decode am_R_begins.2.1 5 = .ok (.iconst 0, 1) := by decide +kernel
theorem de_R_begins_6 : decode am_R_begins.2.1 6 = .ok (.iaload, 1) := by decide +kernel
theorem de_R_begins_7 : decode am_R_begins.2.1 7 = .ok (.iadd, 1) := by decide +kernel
theorem de_R_begins_8 : decode am_R_begins.2.1 8 = .ok (.istore_n 2, 1) := by decide +kernel
theorem de_R_begins_9 : decode am_R_begins.2.1 9 = .ok (.iload_n 2, 1) := by decide +kernel
theorem de_R_begins_10 : decode am_R_begins.2.1 10 = .ok (.aload_n 0, 1) := by decide +kernel
theorem de_R_begins_11 : decode am_R_begins.2.1 11 = .ok (.getfield 31, 3) := by decide +kernel
theorem de_R_begins_14 : decode am_R_begins.2.1 14 = .ok (.arraylength, 1) := by decide +kernel
theorem de_R_begins_15 : decode am_R_begins.2.1 15 = .ok (.if_icmp .ge (10), 3) := by decide +kernel
theorem de_R_begins_18 : decode am_R_begins.2.1 18 = .ok (.aload_n 0, 1) := by decide +kernel
theorem de_R_begins_19 : decode am_R_begins.2.1 19 = .ok (.getfield 31, 3) := by decide +kernel
theorem de_R_begins_22 : decode am_R_begins.2.1 22 = .ok (.iload_n 2, 1) := by decide +kernel
theorem de_R_begins_23 : decode am_R_begins.2.1 23 = .ok (.iload_n 1, 1) := by decide +kernel
theorem de_R_begins_24 : decode am_R_begins.2.1 24 = .ok (.iastore, 1) := by decide +kernel
theorem de_R_begins_25 : decode am_R_begins.2.1 25 = .ok (.aload_n 0, 1) := by decide +kernel
theorem de_R_begins_26 : decode am_R_begins.2.1 26 = .ok (.getfield 31, 3) := by decide +kernel
theorem de_R_begins_29 : decode am_R_begins.2.1 29 = .ok (.iconst 0, 1) := by decide +kernel
theorem de_R_begins_30 : decode am_R_begins.2.1 30 = .ok (.dup2, 1) := by decide +kernel
theorem de_R_begins_31 : decode am_R_begins.2.1 31 = .ok (.iaload, 1) := by decide +kernel
theorem de_R_begins_32 : decode am_R_begins.2.1 32 = .ok (.iconst 1, 1) := by decide +kernel
theorem de_R_begins_33 : decode am_R_begins.2.1 33 = .ok (.iadd, 1) := by decide +kernel
theorem de_R_begins_34 : decode am_R_begins.2.1 34 = .ok (.iastore, 1) := by decide +kernel
theorem de_R_begins_35 : decode am_R_begins.2.1 35 = .ok (.return_, 1) := by decide +kernel
theorem de_R_goes_0 : decode am_R_goes.2.1 0 = .ok (.aload_n 0, 1) := by decide +kernel
theorem de_R_goes_1 : decode am_R_goes.2.1 1 = .ok (.getfield 22, 3) := by decide +kernel
theorem de_R_goes_4 : decode am_R_goes.2.1 4 = .ok (.lookupswitch (87) #[(1, 36), (2, 50), (7, 72)], 36) := by decide +kernel
theorem de_R_goes_40 : decode am_R_goes.2.1 40 = .ok (.aload_n 0, 1) := by decide +kernel
theorem de_R_goes_41 : decode am_R_goes.2.1 41 = .ok (.bipush (20), 2) := by decide +kernel
theorem de_R_goes_43 : decode am_R_goes.2.1 43 = .ok (.invokevirtual 63, 3) := by decide +kernel
theorem de_R_goes_46 : decode am_R_goes.2.1 46 = .ok (.aload_n 0, 1) := by decide +kernel
theorem de_R_goes_47 : decode am_R_goes.2.1 47 = .ok (.iload_n 1, 1) := by decide +kernel
theorem de_R_goes_48 : decode am_R_goes.2.1 48 = .ok (.invokevirtual 67, 3) := by decide +kernel
theorem de_R_goes_51 : decode am_R_goes.2.1 51 = .ok (.iconst 3, 1) := by decide +kernel
theorem de_R_goes_52 : decode am_R_goes.2.1 52 = .ok (.imul, 1) := by decide +kernel
theorem de_R_goes_53 : decode am_R_goes.2.1 53 = .ok (.ireturn, 1) := by decide +kernel
theorem de_R_goes_54 : decode am_R_goes.2.1 54 = .ok (.aload_n 0, 1) := by decide +kernel
theorem de_R_goes_55 : decode am_R_goes.2.1 55 = .ok (.bipush (30), 2) := by decide +kernel
theorem de_R_goes_57 : decode am_R_goes.2.1 57 = .ok (.invokevirtual 63, 3) := by decide +kernel
theorem de_R_goes_60 : decode am_R_goes.2.1 60 = .ok (.aload_n 0, 1) := by decide +kernel
theorem de_R_goes_61 : decode am_R_goes.2.1 61 = .ok (.bipush (20), 2) := by decide +kernel
theorem de_R_goes_63 : decode am_R_goes.2.1 63 = .ok (.invokevirtual 63, 3) := by decide +kernel
theorem de_R_goes_66 : decode am_R_goes.2.1 66 = .ok (.aload_n 0, 1) := by decide +kernel
theorem de_R_goes_67 : decode am_R_goes.2.1 67 = .ok (.iload_n 1, 1) := by decide +kernel
theorem de_R_goes_68 : decode am_R_goes.2.1 68 = .ok (.iconst 1, 1) := by decide +kernel
theorem de_R_goes_69 : decode am_R_goes.2.1 69 = .ok (.iadd, 1) := by decide +kernel
theorem de_R_goes_70 : decode am_R_goes.2.1 70 = .ok (.invokevirtual 67, 3) := by decide +kernel
theorem de_R_goes_73 : decode am_R_goes.2.1 73 = .ok (.iconst 3, 1) := by decide +kernel
theorem de_R_goes_74 : decode am_R_goes.2.1 74 = .ok (.imul, 1) := by decide +kernel
theorem de_R_goes_75 : decode am_R_goes.2.1 75 = .ok (.ireturn, 1) := by decide +kernel
theorem de_R_goes_76 : decode am_R_goes.2.1 76 = .ok (.aload_n 0, 1) := by decide +kernel
theorem de_R_goes_77 : decode am_R_goes.2.1 77 = .ok (.bipush (80), 2) := by decide +kernel
theorem de_R_goes_79 : decode am_R_goes.2.1 79 = .ok (.invokevirtual 63, 3) := by decide +kernel
theorem de_R_goes_82 : decode am_R_goes.2.1 82 = .ok (.aload_n 0, 1) := by decide +kernel
theorem de_R_goes_83 : decode am_R_goes.2.1 83 = .ok (.iload_n 1, 1) := by decide +kernel
theorem de_R_goes_84 : decode am_R_goes.2.1 84 = .ok (.invokevirtual 67, 3) := by decide +kernel
theorem de_R_goes_87 : decode am_R_goes.2.1 87 = .ok (.bipush (7), 2) := by decide +kernel
theorem de_R_goes_89 : decode am_R_goes.2.1 89 = .ok (.isub, 1) := by decide +kernel
theorem de_R_goes_90 : decode am_R_goes.2.1 90 = .ok (.ireturn, 1) := by decide +kernel
theorem de_R_goes_91 : decode am_R_goes.2.1 91 = .ok (.aload_n 0, 1) := by decide +kernel
theorem de_R_goes_92 : decode am_R_goes.2.1 92 = .ok (.iload_n 1, 1) := by decide +kernel
theorem de_R_goes_93 : decode am_R_goes.2.1 93 = .ok (.invokevirtual 67, 3) := by decide +kernel
theorem de_R_goes_96 : decode am_R_goes.2.1 96 = .ok (.ireturn, 1) := by decide +kernel
theorem de_R_lets_0 : decode am_R_lets.2.1 0 = .ok (.aload_n 0, 1) := by decide +kernel
theorem de_R_lets_1 : decode am_R_lets.2.1 1 = .ok (.getfield 22, 3) := by decide +kernel
theorem de_R_lets_4 : decode am_R_lets.2.1 4 = .ok (.tableswitch (77) 2 5 #[32, 49, 77, 62], 32) := by decide +kernel
theorem de_R_lets_36 : decode am_R_lets.2.1 36 = .ok (.aload_n 0, 1) := by decide +kernel
theorem de_R_lets_37 : decode am_R_lets.2.1 37 = .ok (.bipush (31), 2) := by decide +kernel
theorem de_R_lets_39 : decode am_R_lets.2.1 39 = .ok (.invokevirtual 63, 3) := by decide +kernel
theorem de_R_lets_42 : decode am_R_lets.2.1 42 = .ok (.aload_n 0, 1) := by decide +kernel
theorem de_R_lets_43 : decode am_R_lets.2.1 43 = .ok (.iload_n 1, 1) := by decide +kernel
theorem de_R_lets_44 : decode am_R_lets.2.1 44 = .ok (.invokevirtual 70, 3) := by decide +kernel
theorem de_R_lets_47 : decode am_R_lets.2.1 47 = .ok (.aload_n 0, 1) := by decide +kernel
theorem de_R_lets_48 : decode am_R_lets.2.1 48 = .ok (.getfield 28, 3) := by decide +kernel
theorem de_R_lets_51 : decode am_R_lets.2.1 51 = .ok (.isub, 1) := by decide +kernel
theorem de_R_lets_52 : decode am_R_lets.2.1 52 = .ok (.ireturn, 1) := by decide +kernel
theorem de_R_lets_53 : decode am_R_lets.2.1 53 = .ok (.aload_n 0, 1) := by decide +kernel
theorem de_R_lets_54 : decode am_R_lets.2.1 54 = .ok (.bipush (40), 2) := by decide +kernel
theorem de_R_lets_56 : decode am_R_lets.2.1 56 = .ok (.invokevirtual 63, 3) := by decide +kernel
theorem de_R_lets_59 : decode am_R_lets.2.1 59 = .ok (.aload_n 0, 1) := by decide +kernel
theorem de_R_lets_60 : decode am_R_lets.2.1 60 = .ok (.iload_n 1, 1) := by decide +kernel
theorem de_R_lets_61 : decode am_R_lets.2.1 61 = .ok (.invokevirtual 70, 3) := by decide +kernel
theorem de_R_lets_64 : decode am_R_lets.2.1 64 = .ok (.ineg, 1) := by decide +kernel
theorem de_R_lets_65 : decode am_R_lets.2.1 65 = .ok (.ireturn, 1) := by decide +kernel
theorem de_R_lets_66 : decode am_R_lets.2.1 66 = .ok (.aload_n 0, 1) := by decide +kernel
theorem de_R_lets_67 : decode am_R_lets.2.1 67 = .ok (.bipush (60), 2) := by decide +kernel
theorem de_R_lets_69 : decode am_R_lets.2.1 69 = .ok (.invokevirtual 63, 3) := by decide +kernel
theorem de_R_lets_72 : decode am_R_lets.2.1 72 = .ok (.aload_n 0, 1) := by decide +kernel
theorem de_R_lets_73 : decode am_R_lets.2.1 73 = .ok (.iload_n 1, 1) := by decide +kernel
theorem de_R_lets_74 : decode am_R_lets.2.1 74 = .ok (.invokevirtual 70, 3) := by decide +kernel
theorem de_R_lets_77 : decode am_R_lets.2.1 77 = .ok (.bipush (9), 2) := by decide +kernel
theorem de_R_lets_79 : decode am_R_lets.2.1 79 = .ok (.ixor, 1) := by decide +kernel
theorem de_R_lets_80 : decode am_R_lets.2.1 80 = .ok (.ireturn, 1) := by decide +kernel
theorem de_R_lets_81 : decode am_R_lets.2.1 81 = .ok (.aload_n 0, 1) := by decide +kernel
theorem de_R_lets_82 : decode am_R_lets.2.1 82 = .ok (.iload_n 1, 1) := by decide +kernel
theorem de_R_lets_83 : decode am_R_lets.2.1 83 = .ok (.invokevirtual 70, 3) := by decide +kernel
theorem de_R_lets_86 : decode am_R_lets.2.1 86 = .ok (.ireturn, 1) := by decide +kernel
theorem de_R_ends_0 : decode am_R_ends.2.1 0 = .ok (.aload_n 0, 1) := by decide +kernel
theorem de_R_ends_1 : decode am_R_ends.2.1 1 = .ok (.getfield 22, 3) := by decide +kernel
theorem de_R_ends_4 : decode am_R_ends.2.1 4 = .ok (.tableswitch (80) 4 7 #[32, 80, 49, 63], 32) := by decide +kernel
theorem de_R_ends_36 : decode am_R_ends.2.1 36 = .ok (.aload_n 0, 1) := by decide +kernel
theorem de_R_ends_37 : decode am_R_ends.2.1 37 = .ok (.bipush (50), 2) := by decide +kernel
theorem de_R_ends_39 : decode am_R_ends.2.1 39 = .ok (.invokevirtual 63, 3) := by decide +kernel
theorem de_R_ends_42 : decode am_R_ends.2.1 42 = .ok (.aload_n 0, 1) := by decide +kernel
theorem de_R_ends_43 : decode am_R_ends.2.1 43 = .ok (.iload_n 1, 1) := by decide +kernel
theorem de_R_ends_44 : decode am_R_ends.2.1 44 = .ok (.invokevirtual 73, 3) := by decide +kernel
theorem de_R_ends_47 : decode am_R_ends.2.1 47 = .ok (.aload_n 0, 1) := by decide +kernel
theorem de_R_ends_48 : decode am_R_ends.2.1 48 = .ok (.getfield 11, 3) := by decide +kernel
theorem de_R_ends_51 : decode am_R_ends.2.1 51 = .ok (.iadd, 1) := by decide +kernel
theorem de_R_ends_52 : decode am_R_ends.2.1 52 = .ok (.ireturn, 1) := by decide +kernel
theorem de_R_ends_53 : decode am_R_ends.2.1 53 = .ok (.aload_n 0, 1) := by decide +kernel
theorem de_R_ends_54 : decode am_R_ends.2.1 54 = .ok (.bipush (70), 2) := by decide +kernel
theorem de_R_ends_56 : decode am_R_ends.2.1 56 = .ok (.invokevirtual 63, 3) := by decide +kernel
theorem de_R_ends_59 : decode am_R_ends.2.1 59 = .ok (.aload_n 0, 1) := by decide +kernel
theorem de_R_ends_60 : decode am_R_ends.2.1 60 = .ok (.iload_n 1, 1) := by decide +kernel
theorem de_R_ends_61 : decode am_R_ends.2.1 61 = .ok (.invokevirtual 73, 3) := by decide +kernel
theorem de_R_ends_64 : decode am_R_ends.2.1 64 = .ok (.iconst 2, 1) := by decide +kernel
theorem de_R_ends_65 : decode am_R_ends.2.1 65 = .ok (.imul, 1) := by decide +kernel
theorem de_R_ends_66 : decode am_R_ends.2.1 66 = .ok (.ireturn, 1) := by decide +kernel
theorem de_R_ends_67 : decode am_R_ends.2.1 67 = .ok (.aload_n 0, 1) := by decide +kernel
theorem de_R_ends_68 : decode am_R_ends.2.1 68 = .ok (.bipush (81), 2) := by decide +kernel
theorem de_R_ends_70 : decode am_R_ends.2.1 70 = .ok (.invokevirtual 63, 3) := by decide +kernel
theorem de_R_ends_73 : decode am_R_ends.2.1 73 = .ok (.aload_n 0, 1) := by decide +kernel
theorem de_R_ends_74 : decode am_R_ends.2.1 74 = .ok (.iload_n 1, 1) := by decide +kernel
theorem de_R_ends_75 : decode am_R_ends.2.1 75 = .ok (.aload_n 0, 1) := by decide +kernel
theorem de_R_ends_76 : decode am_R_ends.2.1 76 = .ok (.getfield 28, 3) := by decide +kernel
theorem de_R_ends_79 : decode am_R_ends.2.1 79 = .ok (.iadd, 1) := by decide +kernel
theorem de_R_ends_80 : decode am_R_ends.2.1 80 = .ok (.invokevirtual 73, 3) := by decide +kernel
theorem de_R_ends_83 : decode am_R_ends.2.1 83 = .ok (.ireturn, 1) := by decide +kernel
theorem de_R_ends_84 : decode am_R_ends.2.1 84 = .ok (.aload_n 0, 1) := by decide +kernel
theorem de_R_ends_85 : decode am_R_ends.2.1 85 = .ok (.iload_n 1, 1) := by decide +kernel
theorem de_R_ends_86 : decode am_R_ends.2.1 86 = .ok (.invokevirtual 73, 3) := by decide +kernel
theorem de_R_ends_89 : decode am_R_ends.2.1 89 = .ok (.ireturn, 1) := by decide +kernel
theorem de_R_anyGoes_0 : decode am_R_anyGoes.2.1 0 = .ok (.aload_n 0, 1) := by decide +kernel
theorem de_R_anyGoes_1 : decode am_R_anyGoes.2.1 1 = .ok (.bipush (10), 2) := by decide +kernel
theorem de_R_anyGoes_3 : decode am_R_anyGoes.2.1 3 = .ok (.invokevirtual 63, 3) := by decide +kernel
theorem de_R_anyGoes_6 : decode am_R_anyGoes.2.1 6 = .ok (.iload_n 1, 1) := by decide +kernel
theorem de_R_anyGoes_7 : decode am_R_anyGoes.2.1 7 = .ok (.aload_n 0, 1) := by decide +kernel
theorem de_R_anyGoes_8 : decode am_R_anyGoes.2.1 8 = .ok (.getfield 11, 3) := by decide +kernel
theorem de_R_anyGoes_11 : decode am_R_anyGoes.2.1 11 = .ok (.iadd, 1) := by decide +kernel
theorem de_R_anyGoes_12 : decode am_R_anyGoes.2.1 12 = .ok (.ireturn, 1) := by decide +kernel
theorem de_R_anyLets_0 : decode am_R_anyLets.2.1 0 = .ok (.aload_n 0, 1) := by decide +kernel
theorem de_R_anyLets_1 : decode am_R_anyLets.2.1 1 = .ok (.bipush (11), 2) := by decide +kernel
theorem de_R_anyLets_3 : decode am_R_anyLets.2.1 3 = .ok (.invokevirtual 63, 3) := by decide +kernel
theorem de_R_anyLets_6 : decode am_R_anyLets.2.1 6 = .ok (.aload_n 0, 1) := by decide +kernel
theorem de_R_anyLets_7 : decode am_R_anyLets.2.1 7 = .ok (.iload_n 1, 1) := by decide +kernel
theorem de_R_anyLets_8 : decode am_R_anyLets.2.1 8 = .ok (.invokevirtual 76, 3) := by decide +kernel
theorem de_R_anyLets_11 : decode am_R_anyLets.2.1 11 = .ok (.iconst 2, 1) := by decide +kernel
theorem de_R_anyLets_12 : decode am_R_anyLets.2.1 12 = .ok (.imul, 1) := by decide +kernel
theorem de_R_anyLets_13 : decode am_R_anyLets.2.1 13 = .ok (.ireturn, 1) := by decide +kernel
theorem de_R_anyEnds_0 : decode am_R_anyEnds.2.1 0 = .ok (.aload_n 0, 1) := by decide +kernel
theorem de_R_anyEnds_1 : decode am_R_anyEnds.2.1 1 = .ok (.bipush (12), 2) := by decide +kernel
theorem de_R_anyEnds_3 : decode am_R_anyEnds.2.1 3 = .ok (.invokevirtual 63, 3) := by decide +kernel
theorem de_R_anyEnds_6 : decode am_R_anyEnds.2.1 6 = .ok (.aload_n 0, 1) := by decide +kernel
theorem de_R_anyEnds_7 : decode am_R_anyEnds.2.1 7 = .ok (.iload_n 1, 1) := by decide +kernel
theorem de_R_anyEnds_8 : decode am_R_anyEnds.2.1 8 = .ok (.invokevirtual 79, 3) := by decide +kernel
theorem de_R_anyEnds_11 : decode am_R_anyEnds.2.1 11 = .ok (.aload_n 0, 1) := by decide +kernel
theorem de_R_anyEnds_12 : decode am_R_anyEnds.2.1 12 = .ok (.iload_n 1, 1) := by decide +kernel
theorem de_R_anyEnds_13 : decode am_R_anyEnds.2.1 13 = .ok (.aload_n 0, 1) := by decide +kernel
theorem de_R_anyEnds_14 : decode am_R_anyEnds.2.1 14 = .ok (.getfield 28, 3) := by decide +kernel
theorem de_R_anyEnds_17 : decode am_R_anyEnds.2.1 17 = .ok (.isub, 1) := by decide +kernel
theorem de_R_anyEnds_18 : decode am_R_anyEnds.2.1 18 = .ok (.invokevirtual 76, 3) := by decide +kernel
theorem de_R_anyEnds_21 : decode am_R_anyEnds.2.1 21 = .ok (.ixor, 1) := by decide +kernel
theorem de_R_anyEnds_22 : decode am_R_anyEnds.2.1 22 = .ok (.ireturn, 1) := by decide +kernel
