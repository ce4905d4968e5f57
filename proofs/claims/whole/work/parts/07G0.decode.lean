theorem de_G_init_0 : decode am_G_init.2.1 0 = .ok (.aload_n 0, 1) := by decide +kernel
theorem de_G_init_1 : decode am_G_init.2.1 1 = .ok (.invokespecial 3, 3) := by decide +kernel
theorem de_G_init_4 : decode am_G_init.2.1 4 = .ok (.aload_n 0, 1) := by decide +kernel
theorem de_G_init_5 : decode am_G_init.2.1 5 = .ok (.new 9, 3) := by decide +kernel
theorem de_G_init_8 : decode am_G_init.2.1 8 = .ok (.dup, 1) := by decide +kernel
theorem de_G_init_9 : decode am_G_init.2.1 9 = .ok (.invokespecial 11, 3) := by decide +kernel
theorem de_G_init_12 : decode am_G_init.2.1 12 = .ok (.putfield 12, 3) := by decide +kernel
theorem de_G_init_15 : decode am_G_init.2.1 15 = .ok (.aload_n 0, 1) := by decide +kernel
theorem de_G_init_16 : decode am_G_init.2.1 16 = .ok (.bipush (6), 2) := by decide +kernel
theorem de_G_init_18 : decode am_G_init.2.1 18 = .ok (.newarray .int, 2) := by decide +kernel
theorem de_G_init_20 : decode am_G_init.2.1 20 = .ok (.putfield 18, 3) := by decide +kernel
theorem de_G_init_23 : decode am_G_init.2.1 23 = .ok (.aload_n 0, 1) := by decide +kernel
theorem de_G_init_24 : decode am_G_init.2.1 24 = .ok (.bipush (6), 2) := by decide +kernel
theorem de_G_init_26 : decode am_G_init.2.1 26 = .ok (.newarray .int, 2) := by decide +kernel
theorem de_G_init_28 : decode am_G_init.2.1 28 = .ok (.putfield 22, 3) := by decide +kernel
theorem de_G_init_31 : decode am_G_init.2.1 31 = .ok (.aload_n 0, 1) := by decide +kernel
theorem de_G_init_32 : decode am_G_init.2.1 32 = .ok (.bipush (6), 2) := by decide +kernel
theorem de_G_init_34 : decode am_G_init.2.1 34 = .ok (.newarray .int, 2) := by decide +kernel
theorem de_G_init_36 : decode am_G_init.2.1 36 = .ok (.putfield 25, 3) := by decide +kernel
theorem de_G_init_39 : decode am_G_init.2.1 39 = .ok (.aload_n 0, 1) := by decide +kernel
theorem de_G_init_40 : decode am_G_init.2.1 40 = .ok (.bipush (120), 2) := by decide +kernel
theorem de_G_init_42 : decode am_G_init.2.1 42 = .ok (.newarray .int, 2) := by decide +kernel
theorem de_G_init_44 : decode am_G_init.2.1 44 = .ok (.putfield 28, 3) := by decide +kernel
theorem de_G_init_47 : decode am_G_init.2.1 47 = .ok (.aload_n 0, 1) := by decide +kernel
theorem de_G_init_48 : decode am_G_init.2.1 48 = .ok (.iconst 0, 1) := by decide +kernel
theorem de_G_init_49 : decode am_G_init.2.1 49 = .ok (.putfield 31, 3) := by decide +kernel
theorem de_G_init_52 : decode am_G_init.2.1 52 = .ok (.return_, 1) := by decide +kernel
theorem de_G_has_0 : decode am_G_has.2.1 0 = .ok (.iload_n 1, 1) := by decide +kernel
theorem de_G_has_1 : decode am_G_has.2.1 1 = .ok (.ifCond .lt (15), 3) := by decide +kernel
theorem de_G_has_4 : decode am_G_has.2.1 4 = .ok (.iload_n 1, 1) := by decide +kernel
theorem de_G_has_5 : decode am_G_has.2.1 5 = .ok (.aload_n 0, 1) := by decide +kernel
theorem de_G_has_6 : decode am_G_has.2.1 6 = .ok (.getfield 31, 3) := by decide +kernel
theorem de_G_has_9 : decode am_G_has.2.1 9 = .ok (.if_icmp .ge (7), 3) := by decide +kernel
theorem de_G_has_12 : decode am_G_has.2.1 12 = .ok (.iconst 1, 1) := by decide +kernel
theorem de_G_has_13 : decode am_G_has.2.1 13 = .ok (.goto (4), 3) := by decide +kernel
theorem de_G_has_16 : decode am_G_has.2.1 16 = .ok (.iconst 0, 1) := by decide +kernel
theorem de_G_has_17 : decode am_G_has.2.1 17 = .ok (.ireturn, 1) := by decide +kernel
theorem de_G_add_0 : decode am_G_add.2.1 0 = .ok (.aload_n 0, 1) := by decide +kernel
theorem de_G_add_1 : decode am_G_add.2.1 1 = .ok (.getfield 18, 3) := by decide +kernel
theorem de_G_add_4 : decode am_G_add.2.1 4 = .ok (.aload_n 0, 1) := by decide +kernel
theorem de_G_add_5 : decode am_G_add.2.1 5 = .ok (.getfield 31, 3) := by decide +kernel
theorem de_G_add_8 : decode am_G_add.2.1 8 = .ok (.iload_n 1, 1) := by decide +kernel
theorem de_G_add_9 : decode am_G_add.2.1 9 = .ok (.iastore, 1) := by decide +kernel
theorem de_G_add_10 : decode am_G_add.2.1 10 = .ok (.aload_n 0, 1) := by decide +kernel
theorem de_G_add_11 : decode am_G_add.2.1 11 = .ok (.getfield 22, 3) := by decide +kernel
theorem de_G_add_14 : decode am_G_add.2.1 14 = .ok (.aload_n 0, 1) := by decide +kernel
theorem de_G_add_15 : decode am_G_add.2.1 15 = .ok (.getfield 31, 3) := by decide +kernel
theorem de_G_add_18 : decode am_G_add.2.1 18 = .ok (.iload_n 3, 1) := by decide +kernel
theorem de_G_add_19 : decode am_G_add.2.1 19 = .ok (.iastore, 1) := by decide +kernel
theorem de_G_add_20 : decode am_G_add.2.1 20 = .ok (.aload_n 0, 1) := by decide +kernel
theorem de_G_add_21 : decode am_G_add.2.1 21 = .ok (.getfield 25, 3) := by decide +kernel
theorem de_G_add_24 : decode am_G_add.2.1 24 = .ok (.aload_n 0, 1) := by decide +kernel
theorem de_G_add_25 : decode am_G_add.2.1 25 = .ok (.getfield 31, 3) := by decide +kernel
theorem de_G_add_28 : decode am_G_add.2.1 28 = .ok (.iload 4, 2) := by decide +kernel
theorem de_G_add_30 : decode am_G_add.2.1 30 = .ok (.iastore, 1) := by decide +kernel
theorem de_G_add_31 : decode am_G_add.2.1 31 = .ok (.iconst 0, 1) := by decide +kernel
theorem de_G_add_32 : decode am_G_add.2.1 32 = .ok (.istore 5, 2) := by decide +kernel
theorem de_G_add_34 : decode am_G_add.2.1 34 = .ok (.iload 5, 2) := by decide +kernel
theorem de_G_add_36 : decode am_G_add.2.1 36 = .ok (.iload_n 3, 1) := by decide +kernel
theorem de_G_add_37 : decode am_G_add.2.1 37 = .ok (.if_icmp .ge (29), 3) := by decide +kernel
theorem de_G_add_40 : decode am_G_add.2.1 40 = .ok (.aload_n 0, 1) := by decide +kernel
theorem de_G_add_41 : decode am_G_add.2.1 41 = .ok (.getfield 28, 3) := by decide +kernel
theorem de_G_add_44 : decode am_G_add.2.1 44 = .ok (.aload_n 0, 1) := by decide +kernel
theorem de_G_add_45 : decode am_G_add.2.1 45 = .ok (.getfield 31, 3) := by decide +kernel
theorem de_G_add_48 : decode am_G_add.2.1 48 = .ok (.bipush (20), 2) := by decide +kernel
theorem de_G_add_50 : decode am_G_add.2.1 50 = .ok (.imul, 1) := by decide +kernel
theorem de_G_add_51 : decode am_G_add.2.1 51 = .ok (.iload 5, 2) := by decide +kernel
theorem de_G_add_53 : decode am_G_add.2.1 53 = .ok (.iadd, 1) := by decide +kernel
theorem de_G_add_54 : decode am_G_add.2.1 54 = .ok (.aload_n 2, 1) := by decide +kernel
theorem de_G_add_55 : decode am_G_add.2.1 55 = .ok (.iload 5, 2) := by decide +kernel
theorem de_G_add_57 : decode am_G_add.2.1 57 = .ok (.laload, 1) := by decide +kernel
theorem de_G_add_58 : decode am_G_add.2.1 58 = .ok (.l2i, 1) := by decide +kernel
theorem de_G_add_59 : decode am_G_add.2.1 59 = .ok (.iastore, 1) := by decide +kernel
theorem de_G_add_60 : decode am_G_add.2.1 60 = .ok (.iinc 5 (1), 3) := by decide +kernel
theorem de_G_add_63 : decode am_G_add.2.1 63 = .ok (.goto (-29), 3) := by decide +kernel
theorem de_G_add_66 : decode am_G_add.2.1 66 = .ok (.aload_n 0, 1) := by decide +kernel
theorem de_G_add_67 : decode am_G_add.2.1 67 = .ok (.dup, 1) := by decide +kernel
theorem de_G_add_68 : decode am_G_add.2.1 68 = .ok (.getfield 31, 3) := by decide +kernel
theorem de_G_add_71 : decode am_G_add.2.1 71 = .ok (.iconst 1, 1) := by decide +kernel
theorem de_G_add_72 : decode am_G_add.2.1 72 = .ok (.iadd, 1) := by decide +kernel
theorem de_G_add_73 : decode am_G_add.2.1 73 = .ok (.putfield 31, 3) := by decide +kernel
theorem de_G_add_76 : decode am_G_add.2.1 76 = .ok (.aload_n 0, 1) := by decide +kernel
theorem de_G_add_77 : decode am_G_add.2.1 77 = .ok (.getfield 31, 3) := by decide +kernel
theorem de_G_add_80 : decode am_G_add.2.1 80 = .ok (.iconst 1, 1) := by decide +kernel
theorem de_G_add_81 : decode am_G_add.2.1 81 = .ok (.isub, 1) := by decide +kernel
theorem de_G_add_82 : decode am_G_add.2.1 82 = .ok (.ireturn, 1) := by decide +kernel
theorem de_G_moveAt_0 : decode am_G_moveAt.2.1 0 = .ok (.aload_n 0, 1) := by decide +kernel
theorem de_G_moveAt_1 : decode am_G_moveAt.2.1 1 = .ok (.getfield 28, 3) := by decide +kernel
theorem de_G_moveAt_4 : decode am_G_moveAt.2.1 4 = .ok (.iload_n 1, 1) := by decide +kernel
theorem de_G_moveAt_5 : decode am_G_moveAt.2.1 5 = .ok (.bipush (20), 2) := by decide +kernel
theorem de_G_moveAt_7 : decode am_G_moveAt.2.1 7 = .ok (.imul, 1) := by decide +kernel
theorem de_G_moveAt_8 : decode am_G_moveAt.2.1 8 = .ok (.iload_n 2, 1) := by decide +kernel
theorem de_G_moveAt_9 : decode am_G_moveAt.2.1 9 = .ok (.iadd, 1) := by decide +kernel
theorem de_G_moveAt_10 : decode am_G_moveAt.2.1 10 = .ok (.iaload, 1) := by decide +kernel
theorem de_G_moveAt_11 : decode am_G_moveAt.2.1 11 = .ok (.ireturn, 1) := by decide +kernel
theorem de_G_moveCount_0 : decode am_G_moveCount.2.1 0 = .ok (.iconst 0, 1) := by decide +kernel
theorem de_G_moveCount_1 : decode am_G_moveCount.2.1 1 = .ok (.istore_n 1, 1) := by decide +kernel
theorem de_G_moveCount_2 : decode am_G_moveCount.2.1 2 = .ok (.iconst 0, 1) := by decide +kernel
theorem de_G_moveCount_3 : decode am_G_moveCount.2.1 3 = .ok (.istore_n 2, 1) := by decide +kernel
theorem de_G_moveCount_4 : decode am_G_moveCount.2.1 4 = .ok (.iload_n 2, 1) := by decide +kernel
theorem de_G_moveCount_5 : decode am_G_moveCount.2.1 5 = .ok (.aload_n 0, 1) := by decide +kernel
theorem de_G_moveCount_6 : decode am_G_moveCount.2.1 6 = .ok (.getfield 31, 3) := by decide +kernel
theorem de_G_moveCount_9 : decode am_G_moveCount.2.1 9 = .ok (.if_icmp .ge (18), 3) := by decide +kernel
theorem de_G_moveCount_12 : decode am_G_moveCount.2.1 12 = .ok (.iload_n 1, 1) := by decide +kernel
theorem de_G_moveCount_13 : decode am_G_moveCount.2.1 13 = .ok (.aload_n 0, 1) := by decide +kernel
theorem de_G_moveCount_14 : decode am_G_moveCount.2.1 14 = .ok (.getfield 22, 3) := by decide +kernel
theorem de_G_moveCount_17 : decode am_G_moveCount.2.1 17 = .ok (.iload_n 2, 1) := by decide +kernel
theorem de_G_moveCount_18 : decode am_G_moveCount.2.1 18 = .ok (.iaload, 1) := by decide +kernel
theorem de_G_moveCount_19 : decode am_G_moveCount.2.1 19 = .ok (.iadd, 1) := by decide +kernel
theorem de_G_moveCount_20 : decode am_G_moveCount.2.1 20 = .ok (.istore_n 1, 1) := by decide +kernel
theorem de_G_moveCount_21 : decode am_G_moveCount.2.1 21 = .ok (.iinc 2 (1), 3) := by decide +kernel
theorem de_G_moveCount_24 : decode am_G_moveCount.2.1 24 = .ok (.goto (-20), 3) := by decide +kernel
theorem de_G_moveCount_27 : decode am_G_moveCount.2.1 27 = .ok (.iload_n 1, 1) := by decide +kernel
theorem de_G_moveCount_28 : decode am_G_moveCount.2.1 28 = .ok (.ireturn, 1) := by decide +kernel
theorem de_G_stateAhead_0 : decode am_G_stateAhead.2.1 0 = .ok (.aload_n 0, 1) := by decide +kernel
theorem de_G_stateAhead_1 : decode am_G_stateAhead.2.1 1 = .ok (.getfield 18, 3) := by decide +kernel
theorem de_G_stateAhead_4 : decode am_G_stateAhead.2.1 4 = .ok (.iload_n 1, 1) := by decide +kernel
theorem de_G_stateAhead_5 : decode am_G_stateAhead.2.1 5 = .ok (.iaload, 1) := by decide +kernel
theorem de_G_stateAhead_6 : decode am_G_stateAhead.2.1 6 = .ok (.istore 4, 2) := by decide +kernel
theorem de_G_stateAhead_8 : decode am_G_stateAhead.2.1 8 = .ok (.iconst 0, 1) := by decide +kernel
theorem de_G_stateAhead_9 : decode am_G_stateAhead.2.1 9 = .ok (.istore 5, 2) := by decide +kernel
theorem de_G_stateAhead_11 : decode am_G_stateAhead.2.1 11 = .ok (.iload 5, 2) := by decide +kernel
theorem de_G_stateAhead_13 : decode am_G_stateAhead.2.1 13 = .ok (.iload_n 2, 1) := by decide +kernel
theorem de_G_stateAhead_14 : decode am_G_stateAhead.2.1 14 = .ok (.if_icmp .ge (37), 3) := by decide +kernel
theorem de_G_stateAhead_17 : decode am_G_stateAhead.2.1 17 = .ok (.aload_n 0, 1) := by decide +kernel
theorem de_G_stateAhead_18 : decode am_G_stateAhead.2.1 18 = .ok (.getfield 12, 3) := by decide +kernel
theorem de_G_stateAhead_21 : decode am_G_stateAhead.2.1 21 = .ok (.iload 4, 2) := by decide +kernel
theorem de_G_stateAhead_23 : decode am_G_stateAhead.2.1 23 = .ok (.aload_n 0, 1) := by decide +kernel
theorem de_G_stateAhead_24 : decode am_G_stateAhead.2.1 24 = .ok (.getfield 12, 3) := by decide +kernel
theorem de_G_stateAhead_27 : decode am_G_stateAhead.2.1 27 = .ok (.iload 4, 2) := by decide +kernel
theorem de_G_stateAhead_29 : decode am_G_stateAhead.2.1 29 = .ok (.iload_n 3, 1) := by decide +kernel
theorem de_G_stateAhead_30 : decode am_G_stateAhead.2.1 30 = .ok (.invokevirtual 35, 3) := by decide +kernel
theorem de_G_stateAhead_33 : decode am_G_stateAhead.2.1 33 = .ok (.aload_n 0, 1) := by decide +kernel
theorem de_G_stateAhead_34 : decode am_G_stateAhead.2.1 34 = .ok (.iload_n 1, 1) := by decide +kernel
theorem de_G_stateAhead_35 : decode am_G_stateAhead.2.1 35 = .ok (.iload 5, 2) := by decide +kernel
theorem de_G_stateAhead_37 : decode am_G_stateAhead.2.1 37 = .ok (.invokevirtual 39, 3) := by decide +kernel
theorem de_G_stateAhead_40 : decode am_G_stateAhead.2.1 40 = .ok (.invokevirtual 42, 3) := by decide +kernel
theorem de_G_stateAhead_43 : decode am_G_stateAhead.2.1 43 = .ok (.istore 4, 2) := by decide +kernel
theorem de_G_stateAhead_45 : decode am_G_stateAhead.2.1 45 = .ok (.iinc 5 (1), 3) := by decide +kernel
theorem de_G_stateAhead_48 : decode am_G_stateAhead.2.1 48 = .ok (.goto (-37), 3) := by decide +kernel
theorem de_G_stateAhead_51 : decode am_G_stateAhead.2.1 51 = .ok (.iload 4, 2) := by decide +kernel
theorem de_G_stateAhead_53 : decode am_G_stateAhead.2.1 53 = .ok (.ireturn, 1) := by decide +kernel
theorem de_G_failsAt_0 : decode am_G_failsAt.2.1 0 = .ok (.aload_n 0, 1) := by decide +kernel
theorem de_G_failsAt_1 : decode am_G_failsAt.2.1 1 = .ok (.getfield 18, 3) := by decide +kernel
theorem de_G_failsAt_4 : decode am_G_failsAt.2.1 4 = .ok (.iload_n 1, 1) := by decide +kernel
theorem de_G_failsAt_5 : decode am_G_failsAt.2.1 5 = .ok (.iaload, 1) := by decide +kernel
theorem de_G_failsAt_6 : decode am_G_failsAt.2.1 6 = .ok (.istore_n 3, 1) := by decide +kernel
theorem de_G_failsAt_7 : decode am_G_failsAt.2.1 7 = .ok (.iconst 0, 1) := by decide +kernel
theorem de_G_failsAt_8 : decode am_G_failsAt.2.1 8 = .ok (.istore 4, 2) := by decide +kernel
theorem de_G_failsAt_10 : decode am_G_failsAt.2.1 10 = .ok (.iload 4, 2) := by decide +kernel
theorem de_G_failsAt_12 : decode am_G_failsAt.2.1 12 = .ok (.aload_n 0, 1) := by decide +kernel
theorem de_G_failsAt_13 : decode am_G_failsAt.2.1 13 = .ok (.getfield 22, 3) := by decide +kernel
theorem de_G_failsAt_16 : decode am_G_failsAt.2.1 16 = .ok (.iload_n 1, 1) := by decide +kernel
theorem de_G_failsAt_17 : decode am_G_failsAt.2.1 17 = .ok (.iaload, 1) := by decide +kernel
theorem de_G_failsAt_18 : decode am_G_failsAt.2.1 18 = .ok (.if_icmp .ge (61), 3) := by decide +kernel
theorem de_G_failsAt_21 : decode am_G_failsAt.2.1 21 = .ok (.aload_n 0, 1) := by decide +kernel
theorem de_G_failsAt_22 : decode am_G_failsAt.2.1 22 = .ok (.getfield 12, 3) := by decide +kernel
theorem de_G_failsAt_25 : decode am_G_failsAt.2.1 25 = .ok (.iload_n 3, 1) := by decide +kernel
theorem de_G_failsAt_26 : decode am_G_failsAt.2.1 26 = .ok (.iload_n 2, 1) := by decide +kernel
theorem de_G_failsAt_27 : decode am_G_failsAt.2.1 27 = .ok (.invokevirtual 35, 3) := by decide +kernel
theorem de_G_failsAt_30 : decode am_G_failsAt.2.1 30 = .ok (.istore 5, 2) := by decide +kernel
theorem de_G_failsAt_32 : decode am_G_failsAt.2.1 32 = .ok (.aload_n 0, 1) := by decide +kernel
theorem de_G_failsAt_33 : decode am_G_failsAt.2.1 33 = .ok (.getfield 12, 3) := by decide +kernel
theorem de_G_failsAt_36 : decode am_G_failsAt.2.1 36 = .ok (.iload_n 3, 1) := by decide +kernel
theorem de_G_failsAt_37 : decode am_G_failsAt.2.1 37 = .ok (.iload 5, 2) := by decide +kernel
theorem de_G_failsAt_39 : decode am_G_failsAt.2.1 39 = .ok (.aload_n 0, 1) := by decide +kernel
theorem de_G_failsAt_40 : decode am_G_failsAt.2.1 40 = .ok (.iload_n 1, 1) := by decide +kernel
theorem de_G_failsAt_41 : decode am_G_failsAt.2.1 41 = .ok (.iload 4, 2) := by decide +kernel
theorem de_G_failsAt_43 : decode am_G_failsAt.2.1 43 = .ok (.invokevirtual 39, 3) := by decide +kernel
theorem de_G_failsAt_46 : decode am_G_failsAt.2.1 46 = .ok (.invokevirtual 46, 3) := by decide +kernel
theorem de_G_failsAt_49 : decode am_G_failsAt.2.1 49 = .ok (.ifCond .ne (6), 3) := by decide +kernel
theorem de_G_failsAt_52 : decode am_G_failsAt.2.1 52 = .ok (.iload 4, 2) := by decide +kernel
theorem de_G_failsAt_54 : decode am_G_failsAt.2.1 54 = .ok (.ireturn, 1) := by decide +kernel
theorem de_G_failsAt_55 : decode am_G_failsAt.2.1 55 = .ok (.aload_n 0, 1) := by decide +kernel
theorem de_G_failsAt_56 : decode am_G_failsAt.2.1 56 = .ok (.getfield 12, 3) := by decide +kernel
theorem de_G_failsAt_59 : decode am_G_failsAt.2.1 59 = .ok (.iload_n 3, 1) := by decide +kernel
theorem de_G_failsAt_60 : decode am_G_failsAt.2.1 60 = .ok (.iload 5, 2) := by decide +kernel
theorem de_G_failsAt_62 : decode am_G_failsAt.2.1 62 = .ok (.aload_n 0, 1) := by decide +kernel
theorem de_G_failsAt_63 : decode am_G_failsAt.2.1 63 = .ok (.iload_n 1, 1) := by decide +kernel
theorem de_G_failsAt_64 : decode am_G_failsAt.2.1 64 = .ok (.iload 4, 2) := by decide +kernel
theorem de_G_failsAt_66 : decode am_G_failsAt.2.1 66 = .ok (.invokevirtual 39, 3) := by decide +kernel
theorem de_G_failsAt_69 : decode am_G_failsAt.2.1 69 = .ok (.invokevirtual 42, 3) := by decide +kernel
theorem de_G_failsAt_72 : decode am_G_failsAt.2.1 72 = .ok (.istore_n 3, 1) := by decide +kernel
theorem de_G_failsAt_73 : decode am_G_failsAt.2.1 73 = .ok (.iinc 4 (1), 3) := by decide +kernel
theorem de_G_failsAt_76 : decode am_G_failsAt.2.1 76 = .ok (.goto (-66), 3) := by decide +kernel
theorem de_G_failsAt_79 : decode am_G_failsAt.2.1 79 = .ok (.aload_n 0, 1) := by decide +kernel
theorem de_G_failsAt_80 : decode am_G_failsAt.2.1 80 = .ok (.getfield 12, 3) := by decide +kernel
theorem de_G_failsAt_83 : decode am_G_failsAt.2.1 83 = .ok (.iload_n 3, 1) := by decide +kernel
theorem de_G_failsAt_84 : decode am_G_failsAt.2.1 84 = .ok (.iload_n 2, 1) := by decide +kernel
theorem de_G_failsAt_85 : decode am_G_failsAt.2.1 85 = .ok (.invokevirtual 50, 3) := by decide +kernel
theorem de_G_failsAt_88 : decode am_G_failsAt.2.1 88 = .ok (.aload_n 0, 1) := by decide +kernel
theorem de_G_failsAt_89 : decode am_G_failsAt.2.1 89 = .ok (.getfield 25, 3) := by decide +kernel
theorem de_G_failsAt_92 : decode am_G_failsAt.2.1 92 = .ok (.iload_n 1, 1) := by decide +kernel
theorem de_G_failsAt_93 : decode am_G_failsAt.2.1 93 = .ok (.iaload, 1) := by decide +kernel
theorem de_G_failsAt_94 : decode am_G_failsAt.2.1 94 = .ok (.if_icmp .ne (7), 3) := by decide +kernel
theorem de_G_failsAt_97 : decode am_G_failsAt.2.1 97 = .ok (.iconst (-1), 1) := by decide +kernel
theorem de_G_failsAt_98 : decode am_G_failsAt.2.1 98 = .ok (.goto (9), 3) := by decide +kernel
theorem de_G_failsAt_101 : decode am_G_failsAt.2.1 101 = .ok (.aload_n 0, 1) := by decide +kernel
theorem de_G_failsAt_102 : decode am_G_failsAt.2.1 102 = .ok (.getfield 22, 3) := by decide +kernel
theorem de_G_failsAt_105 : decode am_G_failsAt.2.1 105 = .ok (.iload_n 1, 1) := by decide +kernel
theorem de_G_failsAt_106 : decode am_G_failsAt.2.1 106 = .ok (.iaload, 1) := by decide +kernel
theorem de_G_failsAt_107 : decode am_G_failsAt.2.1 107 = .ok (.ireturn, 1) := by decide +kernel
theorem de_G_width_0 : decode am_G_width.2.1 0 = .ok (.iconst 0, 1) := by decide +kernel
theorem de_G_width_1 : decode am_G_width.2.1 1 = .ok (.istore_n 2, 1) := by decide +kernel
theorem de_G_width_2 : decode am_G_width.2.1 2 = .ok (.iconst 0, 1) := by decide +kernel
theorem de_G_width_3 : decode am_G_width.2.1 3 = .ok (.istore_n 3, 1) := by decide +kernel
theorem de_G_width_4 : decode am_G_width.2.1 4 = .ok (.iload_n 3, 1) := by decide +kernel
theorem de_G_width_5 : decode am_G_width.2.1 5 = .ok (.aload_n 0, 1) := by decide +kernel
theorem de_G_width_6 : decode am_G_width.2.1 6 = .ok (.getfield 31, 3) := by decide +kernel
theorem de_G_width_9 : decode am_G_width.2.1 9 = .ok (.if_icmp .ge (83), 3) := by decide +kernel
theorem de_G_width_12 : decode am_G_width.2.1 12 = .ok (.aload_n 0, 1) := by decide +kernel
theorem de_G_width_13 : decode am_G_width.2.1 13 = .ok (.getfield 18, 3) := by decide +kernel
theorem de_G_width_16 : decode am_G_width.2.1 16 = .ok (.iload_n 3, 1) := by decide +kernel
theorem de_G_width_17 : decode am_G_width.2.1 17 = .ok (.iaload, 1) := by decide +kernel
theorem de_G_width_18 : decode am_G_width.2.1 18 = .ok (.istore 4, 2) := by decide +kernel
theorem de_G_width_20 : decode am_G_width.2.1 20 = .ok (.iconst 0, 1) := by decide +kernel
theorem de_G_width_21 : decode am_G_width.2.1 21 = .ok (.istore 5, 2) := by decide +kernel
theorem de_G_width_23 : decode am_G_width.2.1 23 = .ok (.iload 5, 2) := by decide +kernel
theorem de_G_width_25 : decode am_G_width.2.1 25 = .ok (.aload_n 0, 1) := by decide +kernel
theorem de_G_width_26 : decode am_G_width.2.1 26 = .ok (.getfield 22, 3) := by decide +kernel
theorem de_G_width_29 : decode am_G_width.2.1 29 = .ok (.iload_n 3, 1) := by decide +kernel
theorem de_G_width_30 : decode am_G_width.2.1 30 = .ok (.iaload, 1) := by decide +kernel
theorem de_G_width_31 : decode am_G_width.2.1 31 = .ok (.if_icmp .ge (55), 3) := by decide +kernel
theorem de_G_width_34 : decode am_G_width.2.1 34 = .ok (.aload_n 0, 1) := by decide +kernel
theorem de_G_width_35 : decode am_G_width.2.1 35 = .ok (.getfield 12, 3) := by decide +kernel
theorem de_G_width_38 : decode am_G_width.2.1 38 = .ok (.iload 4, 2) := by decide +kernel
theorem de_G_width_40 : decode am_G_width.2.1 40 = .ok (.iload_n 1, 1) := by decide +kernel
theorem de_G_width_41 : decode am_G_width.2.1 41 = .ok (.invokevirtual 35, 3) := by decide +kernel
theorem de_G_width_44 : decode am_G_width.2.1 44 = .ok (.istore 6, 2) := by decide +kernel
theorem de_G_width_46 : decode am_G_width.2.1 46 = .ok (.iload_n 2, 1) := by decide +kernel
theorem de_G_width_47 : decode am_G_width.2.1 47 = .ok (.aload_n 0, 1) := by decide +kernel
theorem de_G_width_48 : decode am_G_width.2.1 48 = .ok (.getfield 12, 3) := by decide +kernel
theorem de_G_width_51 : decode am_G_width.2.1 51 = .ok (.iload 4, 2) := by decide +kernel
theorem de_G_width_53 : decode am_G_width.2.1 53 = .ok (.iload 6, 2) := by decide +kernel
theorem de_G_width_55 : decode am_G_width.2.1 55 = .ok (.invokevirtual 53, 3) := by decide +kernel
theorem de_G_width_58 : decode am_G_width.2.1 58 = .ok (.iadd, 1) := by decide +kernel
theorem de_G_width_59 : decode am_G_width.2.1 59 = .ok (.istore_n 2, 1) := by decide +kernel
theorem de_G_width_60 : decode am_G_width.2.1 60 = .ok (.aload_n 0, 1) := by decide +kernel
theorem de_G_width_61 : decode am_G_width.2.1 61 = .ok (.getfield 12, 3) := by decide +kernel
theorem de_G_width_64 : decode am_G_width.2.1 64 = .ok (.iload 4, 2) := by decide +kernel
theorem de_G_width_66 : decode am_G_width.2.1 66 = .ok (.iload 6, 2) := by decide +kernel
theorem de_G_width_68 : decode am_G_width.2.1 68 = .ok (.aload_n 0, 1) := by decide +kernel
theorem de_G_width_69 : decode am_G_width.2.1 69 = .ok (.iload_n 3, 1) := by decide +kernel
theorem de_G_width_70 : decode am_G_width.2.1 70 = .ok (.iload 5, 2) := by decide +kernel
theorem de_G_width_72 : decode am_G_width.2.1 72 = .ok (.invokevirtual 39, 3) := by decide +kernel
theorem de_G_width_75 : decode am_G_width.2.1 75 = .ok (.invokevirtual 42, 3) := by decide +kernel
theorem de_G_width_78 : decode am_G_width.2.1 78 = .ok (.istore 4, 2) := by decide +kernel
theorem de_G_width_80 : decode am_G_width.2.1 80 = .ok (.iinc 5 (1), 3) := by decide +kernel
theorem de_G_width_83 : decode am_G_width.2.1 83 = .ok (.goto (-60), 3) := by decide +kernel
theorem de_G_width_86 : decode am_G_width.2.1 86 = .ok (.iinc 3 (1), 3) := by decide +kernel
theorem de_G_width_89 : decode am_G_width.2.1 89 = .ok (.goto (-85), 3) := by decide +kernel
theorem de_G_width_92 : decode am_G_width.2.1 92 = .ok (.iload_n 2, 1) := by decide +kernel
theorem de_G_width_93 : decode am_G_width.2.1 93 = .ok (.ireturn, 1) := by decide +kernel
theorem de_G_parting_0 : decode am_G_parting.2.1 0 = .ok (.iconst 0, 1) := by decide +kernel
theorem de_G_parting_1 : decode am_G_parting.2.1 1 = .ok (.istore_n 3, 1) := by decide +kernel
theorem de_G_parting_2 : decode am_G_parting.2.1 2 = .ok (.iload_n 3, 1) := by decide +kernel
theorem de_G_parting_3 : decode am_G_parting.2.1 3 = .ok (.aload_n 0, 1) := by decide +kernel
theorem de_G_parting_4 : decode am_G_parting.2.1 4 = .ok (.getfield 31, 3) := by decide +kernel
theorem de_G_parting_7 : decode am_G_parting.2.1 7 = .ok (.if_icmp .ge (101), 3) := by decide +kernel
theorem de_G_parting_10 : decode am_G_parting.2.1 10 = .ok (.aload_n 0, 1) := by decide +kernel
theorem de_G_parting_11 : decode am_G_parting.2.1 11 = .ok (.getfield 18, 3) := by decide +kernel
theorem de_G_parting_14 : decode am_G_parting.2.1 14 = .ok (.iload_n 3, 1) := by decide +kernel
theorem de_G_parting_15 : decode am_G_parting.2.1 15 = .ok (.iaload, 1) := by decide +kernel
theorem de_G_parting_16 : decode am_G_parting.2.1 16 = .ok (.istore 4, 2) := by decide +kernel
theorem de_G_parting_18 : decode am_G_parting.2.1 18 = .ok (.iconst 0, 1) := by decide +kernel
theorem de_G_parting_19 : decode am_G_parting.2.1 19 = .ok (.istore 5, 2) := by decide +kernel
theorem de_G_parting_21 : decode am_G_parting.2.1 21 = .ok (.iload 5, 2) := by decide +kernel
theorem de_G_parting_23 : decode am_G_parting.2.1 23 = .ok (.aload_n 0, 1) := by decide +kernel
theorem de_G_parting_24 : decode am_G_parting.2.1 24 = .ok (.getfield 22, 3) := by decide +kernel
theorem de_G_parting_27 : decode am_G_parting.2.1 27 = .ok (.iload_n 3, 1) := by decide +kernel
theorem de_G_parting_28 : decode am_G_parting.2.1 28 = .ok (.iaload, 1) := by decide +kernel
theorem de_G_parting_29 : decode am_G_parting.2.1 29 = .ok (.if_icmp .ge (73), 3) := by decide +kernel
theorem de_G_parting_32 : decode am_G_parting.2.1 32 = .ok (.aload_n 0, 1) := by decide +kernel
theorem de_G_parting_33 : decode am_G_parting.2.1 33 = .ok (.getfield 12, 3) := by decide +kernel
theorem de_G_parting_36 : decode am_G_parting.2.1 36 = .ok (.iload 4, 2) := by decide +kernel
theorem de_G_parting_38 : decode am_G_parting.2.1 38 = .ok (.iload_n 1, 1) := by decide +kernel
theorem de_G_parting_39 : decode am_G_parting.2.1 39 = .ok (.invokevirtual 35, 3) := by decide +kernel
theorem de_G_parting_42 : decode am_G_parting.2.1 42 = .ok (.istore 6, 2) := by decide +kernel
theorem de_G_parting_44 : decode am_G_parting.2.1 44 = .ok (.aload_n 0, 1) := by decide +kernel
theorem de_G_parting_45 : decode am_G_parting.2.1 45 = .ok (.getfield 12, 3) := by decide +kernel
theorem de_G_parting_48 : decode am_G_parting.2.1 48 = .ok (.iload 4, 2) := by decide +kernel
theorem de_G_parting_50 : decode am_G_parting.2.1 50 = .ok (.iload 6, 2) := by decide +kernel
theorem de_G_parting_52 : decode am_G_parting.2.1 52 = .ok (.aload_n 0, 1) := by decide +kernel
theorem de_G_parting_53 : decode am_G_parting.2.1 53 = .ok (.getfield 12, 3) := by decide +kernel
theorem de_G_parting_56 : decode am_G_parting.2.1 56 = .ok (.iload 4, 2) := by decide +kernel
theorem de_G_parting_58 : decode am_G_parting.2.1 58 = .ok (.iload_n 2, 1) := by decide +kernel
theorem de_G_parting_59 : decode am_G_parting.2.1 59 = .ok (.invokevirtual 35, 3) := by decide +kernel
theorem de_G_parting_62 : decode am_G_parting.2.1 62 = .ok (.invokevirtual 56, 3) := by decide +kernel
theorem de_G_parting_65 : decode am_G_parting.2.1 65 = .ok (.ifCond .ne (11), 3) := by decide +kernel
theorem de_G_parting_68 : decode am_G_parting.2.1 68 = .ok (.bipush (100), 2) := by decide +kernel
theorem de_G_parting_70 : decode am_G_parting.2.1 70 = .ok (.iload_n 3, 1) := by decide +kernel
theorem de_G_parting_71 : decode am_G_parting.2.1 71 = .ok (.imul, 1) := by decide +kernel
theorem de_G_parting_72 : decode am_G_parting.2.1 72 = .ok (.iload 5, 2) := by decide +kernel
theorem de_G_parting_74 : decode am_G_parting.2.1 74 = .ok (.iadd, 1) := by decide +kernel
theorem de_G_parting_75 : decode am_G_parting.2.1 75 = .ok (.ireturn, 1) := by decide +kernel
theorem de_G_parting_76 : decode am_G_parting.2.1 76 = .ok (.aload_n 0, 1) := by decide +kernel
theorem de_G_parting_77 : decode am_G_parting.2.1 77 = .ok (.getfield 12, 3) := by decide +kernel
theorem de_G_parting_80 : decode am_G_parting.2.1 80 = .ok (.iload 4, 2) := by decide +kernel
theorem de_G_parting_82 : decode am_G_parting.2.1 82 = .ok (.iload 6, 2) := by decide +kernel
theorem de_G_parting_84 : decode am_G_parting.2.1 84 = .ok (.aload_n 0, 1) := by decide +kernel
theorem de_G_parting_85 : decode am_G_parting.2.1 85 = .ok (.iload_n 3, 1) := by decide +kernel
theorem de_G_parting_86 : decode am_G_parting.2.1 86 = .ok (.iload 5, 2) := by decide +kernel
theorem de_G_parting_88 : decode am_G_parting.2.1 88 = .ok (.invokevirtual 39, 3) := by decide +kernel
theorem de_G_parting_91 : decode am_G_parting.2.1 91 = .ok (.invokevirtual 42, 3) := by decide +kernel
theorem de_G_parting_94 : decode am_G_parting.2.1 94 = .ok (.istore 4, 2) := by decide +kernel
theorem de_G_parting_96 : decode am_G_parting.2.1 96 = .ok (.iinc 5 (1), 3) := by decide +kernel
theorem de_G_parting_99 : decode am_G_parting.2.1 99 = .ok (.goto (-78), 3) := by decide +kernel
theorem de_G_parting_102 : decode am_G_parting.2.1 102 = .ok (.iinc 3 (1), 3) := by decide +kernel
theorem de_G_parting_105 : decode am_G_parting.2.1 105 = .ok (.goto (-103), 3) := by decide +kernel
theorem de_G_parting_108 : decode am_G_parting.2.1 108 = .ok (.iconst (-1), 1) := by decide +kernel
theorem de_G_parting_109 : decode am_G_parting.2.1 109 = .ok (.ireturn, 1) := by decide +kernel
theorem de_G_faulty_0 : decode am_G_faulty.2.1 0 = .ok (.iconst 0, 1) := by decide +kernel
theorem de_G_faulty_1 : decode am_G_faulty.2.1 1 = .ok (.istore_n 3, 1) := by decide +kernel
theorem de_G_faulty_2 : decode am_G_faulty.2.1 2 = .ok (.iconst 0, 1) := by decide +kernel
theorem de_G_faulty_3 : decode am_G_faulty.2.1 3 = .ok (.istore 4, 2) := by decide +kernel
theorem de_G_faulty_5 : decode am_G_faulty.2.1 5 = .ok (.iload 4, 2) := by decide +kernel
theorem de_G_faulty_7 : decode am_G_faulty.2.1 7 = .ok (.aload_n 0, 1) := by decide +kernel
theorem de_G_faulty_8 : decode am_G_faulty.2.1 8 = .ok (.getfield 31, 3) := by decide +kernel
theorem de_G_faulty_11 : decode am_G_faulty.2.1 11 = .ok (.if_icmp .ge (132), 3) := by decide +kernel
theorem de_G_faulty_14 : decode am_G_faulty.2.1 14 = .ok (.aload_n 0, 1) := by decide +kernel
theorem de_G_faulty_15 : decode am_G_faulty.2.1 15 = .ok (.getfield 18, 3) := by decide +kernel
theorem de_G_faulty_18 : decode am_G_faulty.2.1 18 = .ok (.iload 4, 2) := by decide +kernel
theorem de_G_faulty_20 : decode am_G_faulty.2.1 20 = .ok (.iaload, 1) := by decide +kernel
theorem de_G_faulty_21 : decode am_G_faulty.2.1 21 = .ok (.istore 5, 2) := by decide +kernel
theorem de_G_faulty_23 : decode am_G_faulty.2.1 23 = .ok (.iconst 0, 1) := by decide +kernel
theorem de_G_faulty_24 : decode am_G_faulty.2.1 24 = .ok (.istore 6, 2) := by decide +kernel
theorem de_G_faulty_26 : decode am_G_faulty.2.1 26 = .ok (.iload 6, 2) := by decide +kernel
theorem de_G_faulty_28 : decode am_G_faulty.2.1 28 = .ok (.aload_n 0, 1) := by decide +kernel
theorem de_G_faulty_29 : decode am_G_faulty.2.1 29 = .ok (.getfield 22, 3) := by decide +kernel
theorem de_G_faulty_32 : decode am_G_faulty.2.1 32 = .ok (.iload 4, 2) := by decide +kernel
theorem de_G_faulty_34 : decode am_G_faulty.2.1 34 = .ok (.iaload, 1) := by decide +kernel
theorem de_G_faulty_35 : decode am_G_faulty.2.1 35 = .ok (.if_icmp .ge (72), 3) := by decide +kernel
theorem de_G_faulty_38 : decode am_G_faulty.2.1 38 = .ok (.iload_n 3, 1) := by decide +kernel
theorem de_G_faulty_39 : decode am_G_faulty.2.1 39 = .ok (.iload_n 2, 1) := by decide +kernel
theorem de_G_faulty_40 : decode am_G_faulty.2.1 40 = .ok (.if_icmp .ge (67), 3) := by decide +kernel
theorem de_G_faulty_43 : decode am_G_faulty.2.1 43 = .ok (.aload_n 0, 1) := by decide +kernel
theorem de_G_faulty_44 : decode am_G_faulty.2.1 44 = .ok (.getfield 12, 3) := by decide +kernel
theorem de_G_faulty_47 : decode am_G_faulty.2.1 47 = .ok (.iload 5, 2) := by decide +kernel
theorem de_G_faulty_49 : decode am_G_faulty.2.1 49 = .ok (.iload_n 1, 1) := by decide +kernel
theorem de_G_faulty_50 : decode am_G_faulty.2.1 50 = .ok (.invokevirtual 35, 3) := by decide +kernel
theorem de_G_faulty_53 : decode am_G_faulty.2.1 53 = .ok (.istore 7, 2) := by decide +kernel
theorem de_G_faulty_55 : decode am_G_faulty.2.1 55 = .ok (.aload_n 0, 1) := by decide +kernel
theorem de_G_faulty_56 : decode am_G_faulty.2.1 56 = .ok (.getfield 12, 3) := by decide +kernel
theorem de_G_faulty_59 : decode am_G_faulty.2.1 59 = .ok (.iload 5, 2) := by decide +kernel
theorem de_G_faulty_61 : decode am_G_faulty.2.1 61 = .ok (.iload 7, 2) := by decide +kernel
theorem de_G_faulty_63 : decode am_G_faulty.2.1 63 = .ok (.aload_n 0, 1) := by decide +kernel
theorem de_G_faulty_64 : decode am_G_faulty.2.1 64 = .ok (.iload 4, 2) := by decide +kernel
theorem de_G_faulty_66 : decode am_G_faulty.2.1 66 = .ok (.iload 6, 2) := by decide +kernel
theorem de_G_faulty_68 : decode am_G_faulty.2.1 68 = .ok (.invokevirtual 39, 3) := by decide +kernel
theorem de_G_faulty_71 : decode am_G_faulty.2.1 71 = .ok (.invokevirtual 46, 3) := by decide +kernel
theorem de_G_faulty_74 : decode am_G_faulty.2.1 74 = .ok (.ifCond .ne (6), 3) := by decide +kernel
theorem de_G_faulty_77 : decode am_G_faulty.2.1 77 = .ok (.iinc 3 (1), 3) := by decide +kernel
theorem de_G_faulty_80 : decode am_G_faulty.2.1 80 = .ok (.aload_n 0, 1) := by decide +kernel
theorem de_G_faulty_81 : decode am_G_faulty.2.1 81 = .ok (.getfield 12, 3) := by decide +kernel
theorem de_G_faulty_84 : decode am_G_faulty.2.1 84 = .ok (.iload 5, 2) := by decide +kernel
theorem de_G_faulty_86 : decode am_G_faulty.2.1 86 = .ok (.iload 7, 2) := by decide +kernel
theorem de_G_faulty_88 : decode am_G_faulty.2.1 88 = .ok (.aload_n 0, 1) := by decide +kernel
theorem de_G_faulty_89 : decode am_G_faulty.2.1 89 = .ok (.iload 4, 2) := by decide +kernel
theorem de_G_faulty_91 : decode am_G_faulty.2.1 91 = .ok (.iload 6, 2) := by decide +kernel
theorem de_G_faulty_93 : decode am_G_faulty.2.1 93 = .ok (.invokevirtual 39, 3) := by decide +kernel
theorem de_G_faulty_96 : decode am_G_faulty.2.1 96 = .ok (.invokevirtual 42, 3) := by decide +kernel
theorem de_G_faulty_99 : decode am_G_faulty.2.1 99 = .ok (.istore 5, 2) := by decide +kernel
theorem de_G_faulty_101 : decode am_G_faulty.2.1 101 = .ok (.iinc 6 (1), 3) := by decide +kernel
theorem de_G_faulty_104 : decode am_G_faulty.2.1 104 = .ok (.goto (-78), 3) := by decide +kernel
theorem de_G_faulty_107 : decode am_G_faulty.2.1 107 = .ok (.aload_n 0, 1) := by decide +kernel
theorem de_G_faulty_108 : decode am_G_faulty.2.1 108 = .ok (.getfield 12, 3) := by decide +kernel
theorem de_G_faulty_111 : decode am_G_faulty.2.1 111 = .ok (.iload 5, 2) := by decide +kernel
theorem de_G_faulty_113 : decode am_G_faulty.2.1 113 = .ok (.iload_n 1, 1) := by decide +kernel
theorem de_G_faulty_114 : decode am_G_faulty.2.1 114 = .ok (.invokevirtual 50, 3) := by decide +kernel
theorem de_G_faulty_117 : decode am_G_faulty.2.1 117 = .ok (.aload_n 0, 1) := by decide +kernel
theorem de_G_faulty_118 : decode am_G_faulty.2.1 118 = .ok (.getfield 25, 3) := by decide +kernel
theorem de_G_faulty_121 : decode am_G_faulty.2.1 121 = .ok (.iload 4, 2) := by decide +kernel
theorem de_G_faulty_123 : decode am_G_faulty.2.1 123 = .ok (.iaload, 1) := by decide +kernel
theorem de_G_faulty_124 : decode am_G_faulty.2.1 124 = .ok (.if_icmp .eq (6), 3) := by decide +kernel
theorem de_G_faulty_127 : decode am_G_faulty.2.1 127 = .ok (.iinc 3 (1), 3) := by decide +kernel
theorem de_G_faulty_130 : decode am_G_faulty.2.1 130 = .ok (.iload_n 3, 1) := by decide +kernel
theorem de_G_faulty_131 : decode am_G_faulty.2.1 131 = .ok (.iload_n 2, 1) := by decide +kernel
theorem de_G_faulty_132 : decode am_G_faulty.2.1 132 = .ok (.if_icmp .lt (5), 3) := by decide +kernel
theorem de_G_faulty_135 : decode am_G_faulty.2.1 135 = .ok (.iload_n 2, 1) := by decide +kernel
theorem de_G_faulty_136 : decode am_G_faulty.2.1 136 = .ok (.ireturn, 1) := by decide +kernel
theorem de_G_faulty_137 : decode am_G_faulty.2.1 137 = .ok (.iinc 4 (1), 3) := by decide +kernel
theorem de_G_faulty_140 : decode am_G_faulty.2.1 140 = .ok (.goto (-135), 3) := by decide +kernel
theorem de_G_faulty_143 : decode am_G_faulty.2.1 143 = .ok (.iload_n 3, 1) := by decide +kernel
theorem de_G_faulty_144 : decode am_G_faulty.2.1 144 = .ok (.ireturn, 1) := by decide +kernel
theorem de_G_endsFitting_0 : decode am_G_endsFitting.2.1 0 = .ok (.aload_n 0, 1) := by decide +kernel
theorem de_G_endsFitting_1 : decode am_G_endsFitting.2.1 1 = .ok (.getfield 18, 3) := by decide +kernel
theorem de_G_endsFitting_4 : decode am_G_endsFitting.2.1 4 = .ok (.iload_n 1, 1) := by decide +kernel
theorem de_G_endsFitting_5 : decode am_G_endsFitting.2.1 5 = .ok (.iaload, 1) := by decide +kernel
theorem de_G_endsFitting_6 : decode am_G_endsFitting.2.1 6 = .ok (.istore_n 3, 1) := by decide +kernel
theorem de_G_endsFitting_7 : decode am_G_endsFitting.2.1 7 = .ok (.bipush (12), 2) := by decide +kernel
theorem de_G_endsFitting_9 : decode am_G_endsFitting.2.1 9 = .ok (.istore 4, 2) := by decide +kernel
theorem de_G_endsFitting_11 : decode am_G_endsFitting.2.1 11 = .ok (.iconst 0, 1) := by decide +kernel
theorem de_G_endsFitting_12 : decode am_G_endsFitting.2.1 12 = .ok (.istore 5, 2) := by decide +kernel
theorem de_G_endsFitting_14 : decode am_G_endsFitting.2.1 14 = .ok (.iload 5, 2) := by decide +kernel
theorem de_G_endsFitting_16 : decode am_G_endsFitting.2.1 16 = .ok (.aload_n 0, 1) := by decide +kernel
theorem de_G_endsFitting_17 : decode am_G_endsFitting.2.1 17 = .ok (.getfield 22, 3) := by decide +kernel
theorem de_G_endsFitting_20 : decode am_G_endsFitting.2.1 20 = .ok (.iload_n 1, 1) := by decide +kernel
theorem de_G_endsFitting_21 : decode am_G_endsFitting.2.1 21 = .ok (.iaload, 1) := by decide +kernel
theorem de_G_endsFitting_22 : decode am_G_endsFitting.2.1 22 = .ok (.if_icmp .ge (74), 3) := by decide +kernel
theorem de_G_endsFitting_25 : decode am_G_endsFitting.2.1 25 = .ok (.aload_n 0, 1) := by decide +kernel
theorem de_G_endsFitting_26 : decode am_G_endsFitting.2.1 26 = .ok (.getfield 12, 3) := by decide +kernel
theorem de_G_endsFitting_29 : decode am_G_endsFitting.2.1 29 = .ok (.iload_n 3, 1) := by decide +kernel
theorem de_G_endsFitting_30 : decode am_G_endsFitting.2.1 30 = .ok (.iload_n 2, 1) := by decide +kernel
theorem de_G_endsFitting_31 : decode am_G_endsFitting.2.1 31 = .ok (.invokevirtual 35, 3) := by decide +kernel
theorem de_G_endsFitting_34 : decode am_G_endsFitting.2.1 34 = .ok (.istore 6, 2) := by decide +kernel
theorem de_G_endsFitting_36 : decode am_G_endsFitting.2.1 36 = .ok (.aload_n 0, 1) := by decide +kernel
theorem de_G_endsFitting_37 : decode am_G_endsFitting.2.1 37 = .ok (.getfield 12, 3) := by decide +kernel
theorem de_G_endsFitting_40 : decode am_G_endsFitting.2.1 40 = .ok (.iload_n 3, 1) := by decide +kernel
theorem de_G_endsFitting_41 : decode am_G_endsFitting.2.1 41 = .ok (.iload 6, 2) := by decide +kernel
theorem de_G_endsFitting_43 : decode am_G_endsFitting.2.1 43 = .ok (.aload_n 0, 1) := by decide +kernel
theorem de_G_endsFitting_44 : decode am_G_endsFitting.2.1 44 = .ok (.iload_n 1, 1) := by decide +kernel
theorem de_G_endsFitting_45 : decode am_G_endsFitting.2.1 45 = .ok (.iload 5, 2) := by decide +kernel
theorem de_G_endsFitting_47 : decode am_G_endsFitting.2.1 47 = .ok (.invokevirtual 39, 3) := by decide +kernel
theorem de_G_endsFitting_50 : decode am_G_endsFitting.2.1 50 = .ok (.invokevirtual 46, 3) := by decide +kernel
theorem de_G_endsFitting_53 : decode am_G_endsFitting.2.1 53 = .ok (.ifCond .ne (5), 3) := by decide +kernel
theorem de_G_endsFitting_56 : decode am_G_endsFitting.2.1 56 = .ok (.iconst 0, 1) := by decide +kernel
theorem de_G_endsFitting_57 : decode am_G_endsFitting.2.1 57 = .ok (.ireturn, 1) := by decide +kernel
theorem de_G_endsFitting_58 : decode am_G_endsFitting.2.1 58 = .ok (.iload 4, 2) := by decide +kernel
theorem de_G_endsFitting_60 : decode am_G_endsFitting.2.1 60 = .ok (.iload_n 3, 1) := by decide +kernel
theorem de_G_endsFitting_61 : decode am_G_endsFitting.2.1 61 = .ok (.invokestatic 59, 3) := by decide +kernel
theorem de_G_endsFitting_64 : decode am_G_endsFitting.2.1 64 = .ok (.invokestatic 63, 3) := by decide +kernel
theorem de_G_endsFitting_67 : decode am_G_endsFitting.2.1 67 = .ok (.invokestatic 68, 3) := by decide +kernel
theorem de_G_endsFitting_70 : decode am_G_endsFitting.2.1 70 = .ok (.istore 4, 2) := by decide +kernel
theorem de_G_endsFitting_72 : decode am_G_endsFitting.2.1 72 = .ok (.aload_n 0, 1) := by decide +kernel
theorem de_G_endsFitting_73 : decode am_G_endsFitting.2.1 73 = .ok (.getfield 12, 3) := by decide +kernel
theorem de_G_endsFitting_76 : decode am_G_endsFitting.2.1 76 = .ok (.iload_n 3, 1) := by decide +kernel
theorem de_G_endsFitting_77 : decode am_G_endsFitting.2.1 77 = .ok (.iload 6, 2) := by decide +kernel
theorem de_G_endsFitting_79 : decode am_G_endsFitting.2.1 79 = .ok (.aload_n 0, 1) := by decide +kernel
theorem de_G_endsFitting_80 : decode am_G_endsFitting.2.1 80 = .ok (.iload_n 1, 1) := by decide +kernel
theorem de_G_endsFitting_81 : decode am_G_endsFitting.2.1 81 = .ok (.iload 5, 2) := by decide +kernel
theorem de_G_endsFitting_83 : decode am_G_endsFitting.2.1 83 = .ok (.invokevirtual 39, 3) := by decide +kernel
theorem de_G_endsFitting_86 : decode am_G_endsFitting.2.1 86 = .ok (.invokevirtual 42, 3) := by decide +kernel
theorem de_G_endsFitting_89 : decode am_G_endsFitting.2.1 89 = .ok (.istore_n 3, 1) := by decide +kernel
theorem de_G_endsFitting_90 : decode am_G_endsFitting.2.1 90 = .ok (.iinc 5 (1), 3) := by decide +kernel
theorem de_G_endsFitting_93 : decode am_G_endsFitting.2.1 93 = .ok (.goto (-79), 3) := by decide +kernel
theorem de_G_endsFitting_96 : decode am_G_endsFitting.2.1 96 = .ok (.iload_n 3, 1) := by decide +kernel
theorem de_G_endsFitting_97 : decode am_G_endsFitting.2.1 97 = .ok (.invokestatic 59, 3) := by decide +kernel
theorem de_G_endsFitting_100 : decode am_G_endsFitting.2.1 100 = .ok (.invokestatic 63, 3) := by decide +kernel
theorem de_G_endsFitting_103 : decode am_G_endsFitting.2.1 103 = .ok (.istore 5, 2) := by decide +kernel
theorem de_G_endsFitting_105 : decode am_G_endsFitting.2.1 105 = .ok (.aload_n 0, 1) := by decide +kernel
theorem de_G_endsFitting_106 : decode am_G_endsFitting.2.1 106 = .ok (.getfield 12, 3) := by decide +kernel
theorem de_G_endsFitting_109 : decode am_G_endsFitting.2.1 109 = .ok (.iload_n 3, 1) := by decide +kernel
theorem de_G_endsFitting_110 : decode am_G_endsFitting.2.1 110 = .ok (.aload_n 0, 1) := by decide +kernel
theorem de_G_endsFitting_111 : decode am_G_endsFitting.2.1 111 = .ok (.getfield 12, 3) := by decide +kernel
theorem de_G_endsFitting_114 : decode am_G_endsFitting.2.1 114 = .ok (.iload_n 3, 1) := by decide +kernel
theorem de_G_endsFitting_115 : decode am_G_endsFitting.2.1 115 = .ok (.iload_n 2, 1) := by decide +kernel
theorem de_G_endsFitting_116 : decode am_G_endsFitting.2.1 116 = .ok (.invokevirtual 35, 3) := by decide +kernel
theorem de_G_endsFitting_119 : decode am_G_endsFitting.2.1 119 = .ok (.invokevirtual 73, 3) := by decide +kernel
theorem de_G_endsFitting_122 : decode am_G_endsFitting.2.1 122 = .ok (.ifCond .ne (7), 3) := by decide +kernel
theorem de_G_endsFitting_125 : decode am_G_endsFitting.2.1 125 = .ok (.iconst 1, 1) := by decide +kernel
theorem de_G_endsFitting_126 : decode am_G_endsFitting.2.1 126 = .ok (.goto (4), 3) := by decide +kernel
theorem de_G_endsFitting_129 : decode am_G_endsFitting.2.1 129 = .ok (.iconst 0, 1) := by decide +kernel
theorem de_G_endsFitting_130 : decode am_G_endsFitting.2.1 130 = .ok (.istore 6, 2) := by decide +kernel
theorem de_G_endsFitting_132 : decode am_G_endsFitting.2.1 132 = .ok (.iconst 0, 1) := by decide +kernel
theorem de_G_endsFitting_133 : decode am_G_endsFitting.2.1 133 = .ok (.istore 7, 2) := by decide +kernel
theorem de_G_endsFitting_135 : decode am_G_endsFitting.2.1 135 = .ok (.iconst 0, 1) := by decide +kernel
theorem de_G_endsFitting_136 : decode am_G_endsFitting.2.1 136 = .ok (.istore 8, 2) := by decide +kernel
theorem de_G_endsFitting_138 : decode am_G_endsFitting.2.1 138 = .ok (.iload 8, 2) := by decide +kernel
theorem de_G_endsFitting_140 : decode am_G_endsFitting.2.1 140 = .ok (.bipush (8), 2) := by decide +kernel
theorem de_G_endsFitting_142 : decode am_G_endsFitting.2.1 142 = .ok (.if_icmp .ge (83), 3) := by decide +kernel
theorem de_G_endsFitting_145 : decode am_G_endsFitting.2.1 145 = .ok (.iload 5, 2) := by decide +kernel
theorem de_G_endsFitting_147 : decode am_G_endsFitting.2.1 147 = .ok (.iload 8, 2) := by decide +kernel
theorem de_G_endsFitting_149 : decode am_G_endsFitting.2.1 149 = .ok (.iconst 1, 1) := by decide +kernel
theorem de_G_endsFitting_150 : decode am_G_endsFitting.2.1 150 = .ok (.ishr, 1) := by decide +kernel
theorem de_G_endsFitting_151 : decode am_G_endsFitting.2.1 151 = .ok (.if_icmp .lt (15), 3) := by decide +kernel
theorem de_G_endsFitting_154 : decode am_G_endsFitting.2.1 154 = .ok (.iload 8, 2) := by decide +kernel
theorem de_G_endsFitting_156 : decode am_G_endsFitting.2.1 156 = .ok (.iconst 1, 1) := by decide +kernel
theorem de_G_endsFitting_157 : decode am_G_endsFitting.2.1 157 = .ok (.iand, 1) := by decide +kernel
theorem de_G_endsFitting_158 : decode am_G_endsFitting.2.1 158 = .ok (.ifCond .eq (12), 3) := by decide +kernel
theorem de_G_endsFitting_161 : decode am_G_endsFitting.2.1 161 = .ok (.iload 6, 2) := by decide +kernel
theorem de_G_endsFitting_163 : decode am_G_endsFitting.2.1 163 = .ok (.ifCond .eq (7), 3) := by decide +kernel
theorem de_G_endsFitting_166 : decode am_G_endsFitting.2.1 166 = .ok (.iconst 1, 1) := by decide +kernel
theorem de_G_endsFitting_167 : decode am_G_endsFitting.2.1 167 = .ok (.goto (4), 3) := by decide +kernel
theorem de_G_endsFitting_170 : decode am_G_endsFitting.2.1 170 = .ok (.iconst 0, 1) := by decide +kernel
theorem de_G_endsFitting_171 : decode am_G_endsFitting.2.1 171 = .ok (.istore 9, 2) := by decide +kernel
theorem de_G_endsFitting_173 : decode am_G_endsFitting.2.1 173 = .ok (.iload 9, 2) := by decide +kernel
theorem de_G_endsFitting_175 : decode am_G_endsFitting.2.1 175 = .ok (.ifCond .eq (12), 3) := by decide +kernel
theorem de_G_endsFitting_178 : decode am_G_endsFitting.2.1 178 = .ok (.iconst 1, 1) := by decide +kernel
theorem de_G_endsFitting_179 : decode am_G_endsFitting.2.1 179 = .ok (.iload_n 3, 1) := by decide +kernel
theorem de_G_endsFitting_180 : decode am_G_endsFitting.2.1 180 = .ok (.invokestatic 77, 3) := by decide +kernel
theorem de_G_endsFitting_183 : decode am_G_endsFitting.2.1 183 = .ok (.isub, 1) := by decide +kernel
theorem de_G_endsFitting_184 : decode am_G_endsFitting.2.1 184 = .ok (.goto (4), 3) := by decide +kernel
theorem de_G_endsFitting_187 : decode am_G_endsFitting.2.1 187 = .ok (.iconst (-1), 1) := by decide +kernel
theorem de_G_endsFitting_188 : decode am_G_endsFitting.2.1 188 = .ok (.istore 10, 2) := by decide +kernel
theorem de_G_endsFitting_190 : decode am_G_endsFitting.2.1 190 = .ok (.iload 8, 2) := by decide +kernel
theorem de_G_endsFitting_192 : decode am_G_endsFitting.2.1 192 = .ok (.iconst 1, 1) := by decide +kernel
theorem de_G_endsFitting_193 : decode am_G_endsFitting.2.1 193 = .ok (.ishr, 1) := by decide +kernel
theorem de_G_endsFitting_194 : decode am_G_endsFitting.2.1 194 = .ok (.iload 4, 2) := by decide +kernel
theorem de_G_endsFitting_196 : decode am_G_endsFitting.2.1 196 = .ok (.if_icmp .gt (23), 3) := by decide +kernel
theorem de_G_endsFitting_199 : decode am_G_endsFitting.2.1 199 = .ok (.iload 10, 2) := by decide +kernel
theorem de_G_endsFitting_201 : decode am_G_endsFitting.2.1 201 = .ok (.aload_n 0, 1) := by decide +kernel
theorem de_G_endsFitting_202 : decode am_G_endsFitting.2.1 202 = .ok (.getfield 25, 3) := by decide +kernel
theorem de_G_endsFitting_205 : decode am_G_endsFitting.2.1 205 = .ok (.iload_n 1, 1) := by decide +kernel
theorem de_G_endsFitting_206 : decode am_G_endsFitting.2.1 206 = .ok (.iaload, 1) := by decide +kernel
theorem de_G_endsFitting_207 : decode am_G_endsFitting.2.1 207 = .ok (.if_icmp .ne (12), 3) := by decide +kernel
theorem de_G_endsFitting_210 : decode am_G_endsFitting.2.1 210 = .ok (.iload 7, 2) := by decide +kernel
theorem de_G_endsFitting_212 : decode am_G_endsFitting.2.1 212 = .ok (.iconst 1, 1) := by decide +kernel
theorem de_G_endsFitting_213 : decode am_G_endsFitting.2.1 213 = .ok (.iload 8, 2) := by decide +kernel
theorem de_G_endsFitting_215 : decode am_G_endsFitting.2.1 215 = .ok (.ishl, 1) := by decide +kernel
theorem de_G_endsFitting_216 : decode am_G_endsFitting.2.1 216 = .ok (.ior, 1) := by decide +kernel
theorem de_G_endsFitting_217 : decode am_G_endsFitting.2.1 217 = .ok (.istore 7, 2) := by decide +kernel
theorem de_G_endsFitting_219 : decode am_G_endsFitting.2.1 219 = .ok (.iinc 8 (1), 3) := by decide +kernel
theorem de_G_endsFitting_222 : decode am_G_endsFitting.2.1 222 = .ok (.goto (-84), 3) := by decide +kernel
theorem de_G_endsFitting_225 : decode am_G_endsFitting.2.1 225 = .ok (.iload 7, 2) := by decide +kernel
theorem de_G_endsFitting_227 : decode am_G_endsFitting.2.1 227 = .ok (.ireturn, 1) := by decide +kernel
