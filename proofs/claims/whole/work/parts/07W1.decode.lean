theorem de_W_sure_46 : decode am_W_sure.2.1 46 = .ok (.iload_n 2, 1) := by decide +kernel
theorem de_W_sure_47 : decode am_W_sure.2.1 47 = .ok (.iload_n 1, 1) := by decide +kernel
theorem de_W_sure_48 : decode am_W_sure.2.1 48 = .ok (.invokevirtual 285, 3) := by decide +kernel
theorem de_W_sure_51 : decode am_W_sure.2.1 51 = .ok (.istore_n 3, 1) := by decide +kernel
theorem de_W_sure_52 : decode am_W_sure.2.1 52 = .ok (.iload_n 3, 1) := by decide +kernel
theorem de_W_sure_53 : decode am_W_sure.2.1 53 = .ok (.ifCond .ne (5), 3) := by decide +kernel
theorem de_W_sure_56 : decode am_W_sure.2.1 56 = .ok (.iconst 0, 1) := by decide +kernel
theorem de_W_sure_57 : decode am_W_sure.2.1 57 = .ok (.ireturn, 1) := by decide +kernel
theorem de_W_sure_58 : decode am_W_sure.2.1 58 = .ok (.iload_n 3, 1) := by decide +kernel
theorem de_W_sure_59 : decode am_W_sure.2.1 59 = .ok (.aload_n 0, 1) := by decide +kernel
theorem de_W_sure_60 : decode am_W_sure.2.1 60 = .ok (.getfield 40, 3) := by decide +kernel
theorem de_W_sure_63 : decode am_W_sure.2.1 63 = .ok (.iload_n 2, 1) := by decide +kernel
theorem de_W_sure_64 : decode am_W_sure.2.1 64 = .ok (.invokevirtual 278, 3) := by decide +kernel
theorem de_W_sure_67 : decode am_W_sure.2.1 67 = .ok (.if_icmp .ne (7), 3) := by decide +kernel
theorem de_W_sure_70 : decode am_W_sure.2.1 70 = .ok (.iconst 1, 1) := by decide +kernel
theorem de_W_sure_71 : decode am_W_sure.2.1 71 = .ok (.goto (4), 3) := by decide +kernel
theorem de_W_sure_74 : decode am_W_sure.2.1 74 = .ok (.iconst 2, 1) := by decide +kernel
theorem de_W_sure_75 : decode am_W_sure.2.1 75 = .ok (.ireturn, 1) := by decide +kernel
theorem de_W_ask_0 : decode am_W_ask.2.1 0 = .ok (.iload_n 1, 1) := by decide +kernel
theorem de_W_ask_1 : decode am_W_ask.2.1 1 = .ok (.invokestatic 275, 3) := by decide +kernel
theorem de_W_ask_4 : decode am_W_ask.2.1 4 = .ok (.ifCond .eq (18), 3) := by decide +kernel
theorem de_W_ask_7 : decode am_W_ask.2.1 7 = .ok (.aload_n 0, 1) := by decide +kernel
theorem de_W_ask_8 : decode am_W_ask.2.1 8 = .ok (.invokevirtual 267, 3) := by decide +kernel
theorem de_W_ask_11 : decode am_W_ask.2.1 11 = .ok (.aload_n 0, 1) := by decide +kernel
theorem de_W_ask_12 : decode am_W_ask.2.1 12 = .ok (.getfield 56, 3) := by decide +kernel
theorem de_W_ask_15 : decode am_W_ask.2.1 15 = .ok (.iload_n 1, 1) := by decide +kernel
theorem de_W_ask_16 : decode am_W_ask.2.1 16 = .ok (.invokevirtual 288, 3) := by decide +kernel
theorem de_W_ask_19 : decode am_W_ask.2.1 19 = .ok (.goto (11), 3) := by decide +kernel
theorem de_W_ask_22 : decode am_W_ask.2.1 22 = .ok (.aload_n 0, 1) := by decide +kernel
theorem de_W_ask_23 : decode am_W_ask.2.1 23 = .ok (.bipush (-6), 2) := by decide +kernel
theorem de_W_ask_25 : decode am_W_ask.2.1 25 = .ok (.bipush (-16), 2) := by decide +kernel
theorem de_W_ask_27 : decode am_W_ask.2.1 27 = .ok (.invokevirtual 199, 3) := by decide +kernel
theorem de_W_ask_30 : decode am_W_ask.2.1 30 = .ok (.ireturn, 1) := by decide +kernel
theorem de_W_left_0 : decode am_W_left.2.1 0 = .ok (.iload_n 1, 1) := by decide +kernel
theorem de_W_left_1 : decode am_W_left.2.1 1 = .ok (.invokestatic 275, 3) := by decide +kernel
theorem de_W_left_4 : decode am_W_left.2.1 4 = .ok (.ifCond .eq (18), 3) := by decide +kernel
theorem de_W_left_7 : decode am_W_left.2.1 7 = .ok (.aload_n 0, 1) := by decide +kernel
theorem de_W_left_8 : decode am_W_left.2.1 8 = .ok (.invokevirtual 267, 3) := by decide +kernel
theorem de_W_left_11 : decode am_W_left.2.1 11 = .ok (.aload_n 0, 1) := by decide +kernel
theorem de_W_left_12 : decode am_W_left.2.1 12 = .ok (.getfield 56, 3) := by decide +kernel
theorem de_W_left_15 : decode am_W_left.2.1 15 = .ok (.iload_n 1, 1) := by decide +kernel
theorem de_W_left_16 : decode am_W_left.2.1 16 = .ok (.invokevirtual 291, 3) := by decide +kernel
theorem de_W_left_19 : decode am_W_left.2.1 19 = .ok (.goto (9), 3) := by decide +kernel
theorem de_W_left_22 : decode am_W_left.2.1 22 = .ok (.aload_n 0, 1) := by decide +kernel
theorem de_W_left_23 : decode am_W_left.2.1 23 = .ok (.bipush (-6), 2) := by decide +kernel
theorem de_W_left_25 : decode am_W_left.2.1 25 = .ok (.invokevirtual 88, 3) := by decide +kernel
theorem de_W_left_28 : decode am_W_left.2.1 28 = .ok (.ireturn, 1) := by decide +kernel
theorem de_W_cheat_0 : decode am_W_cheat.2.1 0 = .ok (.iload_n 1, 1) := by decide +kernel
theorem de_W_cheat_1 : decode am_W_cheat.2.1 1 = .ok (.iconst 1, 1) := by decide +kernel
theorem de_W_cheat_2 : decode am_W_cheat.2.1 2 = .ok (.if_icmp .lt (18), 3) := by decide +kernel
theorem de_W_cheat_5 : decode am_W_cheat.2.1 5 = .ok (.iload_n 1, 1) := by decide +kernel
theorem de_W_cheat_6 : decode am_W_cheat.2.1 6 = .ok (.bipush (25), 2) := by decide +kernel
theorem de_W_cheat_8 : decode am_W_cheat.2.1 8 = .ok (.if_icmp .gt (12), 3) := by decide +kernel
theorem de_W_cheat_11 : decode am_W_cheat.2.1 11 = .ok (.iload_n 2, 1) := by decide +kernel
theorem de_W_cheat_12 : decode am_W_cheat.2.1 12 = .ok (.ifCond .lt (8), 3) := by decide +kernel
theorem de_W_cheat_15 : decode am_W_cheat.2.1 15 = .ok (.iload_n 2, 1) := by decide +kernel
theorem de_W_cheat_16 : decode am_W_cheat.2.1 16 = .ok (.iconst 1, 1) := by decide +kernel
theorem de_W_cheat_17 : decode am_W_cheat.2.1 17 = .ok (.if_icmp .le (10), 3) := by decide +kernel
theorem de_W_cheat_20 : decode am_W_cheat.2.1 20 = .ok (.aload_n 0, 1) := by decide +kernel
theorem de_W_cheat_21 : decode am_W_cheat.2.1 21 = .ok (.bipush (-6), 2) := by decide +kernel
theorem de_W_cheat_23 : decode am_W_cheat.2.1 23 = .ok (.invokevirtual 88, 3) := by decide +kernel
theorem de_W_cheat_26 : decode am_W_cheat.2.1 26 = .ok (.ireturn, 1) := by decide +kernel
theorem de_W_cheat_27 : decode am_W_cheat.2.1 27 = .ok (.aload_n 0, 1) := by decide +kernel
theorem de_W_cheat_28 : decode am_W_cheat.2.1 28 = .ok (.getfield 40, 3) := by decide +kernel
theorem de_W_cheat_31 : decode am_W_cheat.2.1 31 = .ok (.iload_n 1, 1) := by decide +kernel
theorem de_W_cheat_32 : decode am_W_cheat.2.1 32 = .ok (.invokevirtual 294, 3) := by decide +kernel
theorem de_W_cheat_35 : decode am_W_cheat.2.1 35 = .ok (.istore_n 3, 1) := by decide +kernel
theorem de_W_cheat_36 : decode am_W_cheat.2.1 36 = .ok (.iload_n 2, 1) := by decide +kernel
theorem de_W_cheat_37 : decode am_W_cheat.2.1 37 = .ok (.ifCond .ne (17), 3) := by decide +kernel
theorem de_W_cheat_40 : decode am_W_cheat.2.1 40 = .ok (.aload_n 0, 1) := by decide +kernel
theorem de_W_cheat_41 : decode am_W_cheat.2.1 41 = .ok (.getfield 48, 3) := by decide +kernel
theorem de_W_cheat_44 : decode am_W_cheat.2.1 44 = .ok (.iload_n 3, 1) := by decide +kernel
theorem de_W_cheat_45 : decode am_W_cheat.2.1 45 = .ok (.ldc_w 299, 3) := by decide +kernel
theorem de_W_cheat_48 : decode am_W_cheat.2.1 48 = .ok (.invokevirtual 300, 3) := by decide +kernel
theorem de_W_cheat_51 : decode am_W_cheat.2.1 51 = .ok (.goto (4), 3) := by decide +kernel
theorem de_W_cheat_54 : decode am_W_cheat.2.1 54 = .ok (.iload_n 3, 1) := by decide +kernel
theorem de_W_cheat_55 : decode am_W_cheat.2.1 55 = .ok (.ireturn, 1) := by decide +kernel
theorem de_W_known_0 : decode am_W_known.2.1 0 = .ok (.aload_n 0, 1) := by decide +kernel
theorem de_W_known_1 : decode am_W_known.2.1 1 = .ok (.getfield 40, 3) := by decide +kernel
theorem de_W_known_4 : decode am_W_known.2.1 4 = .ok (.invokevirtual 303, 3) := by decide +kernel
theorem de_W_known_7 : decode am_W_known.2.1 7 = .ok (.aload_n 0, 1) := by decide +kernel
theorem de_W_known_8 : decode am_W_known.2.1 8 = .ok (.getfield 40, 3) := by decide +kernel
theorem de_W_known_11 : decode am_W_known.2.1 11 = .ok (.areturn, 1) := by decide +kernel
theorem de_W_same_0 : decode am_W_same.2.1 0 = .ok (.iload_n 1, 1) := by decide +kernel
theorem de_W_same_1 : decode am_W_same.2.1 1 = .ok (.invokestatic 168, 3) := by decide +kernel
theorem de_W_same_4 : decode am_W_same.2.1 4 = .ok (.ifCond .eq (10), 3) := by decide +kernel
theorem de_W_same_7 : decode am_W_same.2.1 7 = .ok (.iload_n 2, 1) := by decide +kernel
theorem de_W_same_8 : decode am_W_same.2.1 8 = .ok (.invokestatic 168, 3) := by decide +kernel
theorem de_W_same_11 : decode am_W_same.2.1 11 = .ok (.ifCond .ne (11), 3) := by decide +kernel
theorem de_W_same_14 : decode am_W_same.2.1 14 = .ok (.aload_n 0, 1) := by decide +kernel
theorem de_W_same_15 : decode am_W_same.2.1 15 = .ok (.iconst (-1), 1) := by decide +kernel
theorem de_W_same_16 : decode am_W_same.2.1 16 = .ok (.bipush (-11), 2) := by decide +kernel
theorem de_W_same_18 : decode am_W_same.2.1 18 = .ok (.invokevirtual 199, 3) := by decide +kernel
theorem de_W_same_21 : decode am_W_same.2.1 21 = .ok (.ireturn, 1) := by decide +kernel
theorem de_W_same_22 : decode am_W_same.2.1 22 = .ok (.iconst 0, 1) := by decide +kernel
theorem de_W_same_23 : decode am_W_same.2.1 23 = .ok (.istore_n 3, 1) := by decide +kernel
theorem de_W_same_24 : decode am_W_same.2.1 24 = .ok (.iload_n 3, 1) := by decide +kernel
theorem de_W_same_25 : decode am_W_same.2.1 25 = .ok (.getstatic 306, 3) := by decide +kernel
theorem de_W_same_28 : decode am_W_same.2.1 28 = .ok (.arraylength, 1) := by decide +kernel
theorem de_W_same_29 : decode am_W_same.2.1 29 = .ok (.iconst 3, 1) := by decide +kernel
theorem de_W_same_30 : decode am_W_same.2.1 30 = .ok (.idiv, 1) := by decide +kernel
theorem de_W_same_31 : decode am_W_same.2.1 31 = .ok (.if_icmp .ge (20), 3) := by decide +kernel
theorem de_W_same_34 : decode am_W_same.2.1 34 = .ok (.iload_n 1, 1) := by decide +kernel
theorem de_W_same_35 : decode am_W_same.2.1 35 = .ok (.iload_n 3, 1) := by decide +kernel
theorem de_W_same_36 : decode am_W_same.2.1 36 = .ok (.invokestatic 309, 3) := by decide +kernel
theorem de_W_same_39 : decode am_W_same.2.1 39 = .ok (.iload_n 2, 1) := by decide +kernel
theorem de_W_same_40 : decode am_W_same.2.1 40 = .ok (.if_icmp .ne (5), 3) := by decide +kernel
theorem de_W_same_43 : decode am_W_same.2.1 43 = .ok (.iload_n 3, 1) := by decide +kernel
theorem de_W_same_44 : decode am_W_same.2.1 44 = .ok (.ireturn, 1) := by decide +kernel
theorem de_W_same_45 : decode am_W_same.2.1 45 = .ok (.iinc 3 (1), 3) := by decide +kernel
theorem de_W_same_48 : decode am_W_same.2.1 48 = .ok (.goto (-24), 3) := by decide +kernel
theorem de_W_same_51 : decode am_W_same.2.1 51 = .ok (.iconst (-1), 1) := by decide +kernel
theorem de_W_same_52 : decode am_W_same.2.1 52 = .ok (.ireturn, 1) := by decide +kernel
theorem de_W_isX_0 : decode am_W_isX.2.1 0 = .ok (.iload_n 0, 1) := by decide +kernel
theorem de_W_isX_1 : decode am_W_isX.2.1 1 = .ok (.ifCond .lt (13), 3) := by decide +kernel
theorem de_W_isX_4 : decode am_W_isX.2.1 4 = .ok (.iload_n 0, 1) := by decide +kernel
theorem de_W_isX_5 : decode am_W_isX.2.1 5 = .ok (.bipush (9), 2) := by decide +kernel
theorem de_W_isX_7 : decode am_W_isX.2.1 7 = .ok (.if_icmp .gt (7), 3) := by decide +kernel
theorem de_W_isX_10 : decode am_W_isX.2.1 10 = .ok (.iconst 1, 1) := by decide +kernel
theorem de_W_isX_11 : decode am_W_isX.2.1 11 = .ok (.goto (4), 3) := by decide +kernel
theorem de_W_isX_14 : decode am_W_isX.2.1 14 = .ok (.iconst 0, 1) := by decide +kernel
theorem de_W_isX_15 : decode am_W_isX.2.1 15 = .ok (.ireturn, 1) := by decide +kernel
theorem de_W_renamed_0 : decode am_W_renamed.2.1 0 = .ok (.iload_n 0, 1) := by decide +kernel
theorem de_W_renamed_1 : decode am_W_renamed.2.1 1 = .ok (.bipush (-64), 2) := by decide +kernel
theorem de_W_renamed_3 : decode am_W_renamed.2.1 3 = .ok (.iand, 1) := by decide +kernel
theorem de_W_renamed_4 : decode am_W_renamed.2.1 4 = .ok (.istore_n 2, 1) := by decide +kernel
theorem de_W_renamed_5 : decode am_W_renamed.2.1 5 = .ok (.iconst 0, 1) := by decide +kernel
theorem de_W_renamed_6 : decode am_W_renamed.2.1 6 = .ok (.istore_n 3, 1) := by decide +kernel
theorem de_W_renamed_7 : decode am_W_renamed.2.1 7 = .ok (.iload_n 3, 1) := by decide +kernel
theorem de_W_renamed_8 : decode am_W_renamed.2.1 8 = .ok (.iconst 3, 1) := by decide +kernel
theorem de_W_renamed_9 : decode am_W_renamed.2.1 9 = .ok (.if_icmp .ge (32), 3) := by decide +kernel
theorem de_W_renamed_12 : decode am_W_renamed.2.1 12 = .ok (.iload_n 0, 1) := by decide +kernel
theorem de_W_renamed_13 : decode am_W_renamed.2.1 13 = .ok (.iload_n 3, 1) := by decide +kernel
theorem de_W_renamed_14 : decode am_W_renamed.2.1 14 = .ok (.ishr, 1) := by decide +kernel
theorem de_W_renamed_15 : decode am_W_renamed.2.1 15 = .ok (.bipush (9), 2) := by decide +kernel
theorem de_W_renamed_17 : decode am_W_renamed.2.1 17 = .ok (.iand, 1) := by decide +kernel
theorem de_W_renamed_18 : decode am_W_renamed.2.1 18 = .ok (.istore 4, 2) := by decide +kernel
theorem de_W_renamed_20 : decode am_W_renamed.2.1 20 = .ok (.iload_n 2, 1) := by decide +kernel
theorem de_W_renamed_21 : decode am_W_renamed.2.1 21 = .ok (.iload 4, 2) := by decide +kernel
theorem de_W_renamed_23 : decode am_W_renamed.2.1 23 = .ok (.getstatic 306, 3) := by decide +kernel
theorem de_W_renamed_26 : decode am_W_renamed.2.1 26 = .ok (.iload_n 1, 1) := by decide +kernel
theorem de_W_renamed_27 : decode am_W_renamed.2.1 27 = .ok (.iconst 3, 1) := by decide +kernel
theorem de_W_renamed_28 : decode am_W_renamed.2.1 28 = .ok (.imul, 1) := by decide +kernel
theorem de_W_renamed_29 : decode am_W_renamed.2.1 29 = .ok (.iload_n 3, 1) := by decide +kernel
theorem de_W_renamed_30 : decode am_W_renamed.2.1 30 = .ok (.iadd, 1) := by decide +kernel
theorem de_W_renamed_31 : decode am_W_renamed.2.1 31 = .ok (.iaload, 1) := by decide +kernel
theorem de_W_renamed_32 : decode am_W_renamed.2.1 32 = .ok (.ishl, 1) := by decide +kernel
theorem de_W_renamed_33 : decode am_W_renamed.2.1 33 = .ok (.ior, 1) := by decide +kernel
theorem de_W_renamed_34 : decode am_W_renamed.2.1 34 = .ok (.istore_n 2, 1) := by decide +kernel
theorem de_W_renamed_35 : decode am_W_renamed.2.1 35 = .ok (.iinc 3 (1), 3) := by decide +kernel
theorem de_W_renamed_38 : decode am_W_renamed.2.1 38 = .ok (.goto (-31), 3) := by decide +kernel
theorem de_W_renamed_41 : decode am_W_renamed.2.1 41 = .ok (.iload_n 2, 1) := by decide +kernel
theorem de_W_renamed_42 : decode am_W_renamed.2.1 42 = .ok (.ireturn, 1) := by decide +kernel
theorem de_W_act_0 : decode am_W_act.2.1 0 = .ok (.aload_n 0, 1) := by decide +kernel
theorem de_W_act_1 : decode am_W_act.2.1 1 = .ok (.getfield 34, 3) := by decide +kernel
theorem de_W_act_4 : decode am_W_act.2.1 4 = .ok (.iconst 0, 1) := by decide +kernel
theorem de_W_act_5 : decode am_W_act.2.1 5 = .ok (.iconst 0, 1) := by decide +kernel
theorem de_W_act_6 : decode am_W_act.2.1 6 = .ok (.iastore, 1) := by decide +kernel
theorem de_W_act_7 : decode am_W_act.2.1 7 = .ok (.aload_n 0, 1) := by decide +kernel
theorem de_W_act_8 : decode am_W_act.2.1 8 = .ok (.iload_n 1, 1) := by decide +kernel
theorem de_W_act_9 : decode am_W_act.2.1 9 = .ok (.invokevirtual 115, 3) := by decide +kernel
theorem de_W_act_12 : decode am_W_act.2.1 12 = .ok (.astore 4, 2) := by decide +kernel
theorem de_W_act_14 : decode am_W_act.2.1 14 = .ok (.aload 4, 2) := by decide +kernel
theorem de_W_act_16 : decode am_W_act.2.1 16 = .ok (.ifnull (12), 3) := by decide +kernel
theorem de_W_act_19 : decode am_W_act.2.1 19 = .ok (.iload_n 2, 1) := by decide +kernel
theorem de_W_act_20 : decode am_W_act.2.1 20 = .ok (.ifCond .lt (8), 3) := by decide +kernel
theorem de_W_act_23 : decode am_W_act.2.1 23 = .ok (.iload_n 2, 1) := by decide +kernel
theorem de_W_act_24 : decode am_W_act.2.1 24 = .ok (.iconst 2, 1) := by decide +kernel
theorem de_W_act_25 : decode am_W_act.2.1 25 = .ok (.if_icmp .le (5), 3) := by decide +kernel
theorem de_W_act_28 : decode am_W_act.2.1 28 = .ok (.iconst 0, 1) := by decide +kernel
theorem de_W_act_29 : decode am_W_act.2.1 29 = .ok (.ireturn, 1) := by decide +kernel
theorem de_W_act_30 : decode am_W_act.2.1 30 = .ok (.iload_n 2, 1) := by decide +kernel
theorem de_W_act_31 : decode am_W_act.2.1 31 = .ok (.ifCond .ne (10), 3) := by decide +kernel
theorem de_W_act_34 : decode am_W_act.2.1 34 = .ok (.aload 4, 2) := by decide +kernel
theorem de_W_act_36 : decode am_W_act.2.1 36 = .ok (.iload_n 3, 1) := by decide +kernel
theorem de_W_act_37 : decode am_W_act.2.1 37 = .ok (.invokevirtual 312, 3) := by decide +kernel
theorem de_W_act_40 : decode am_W_act.2.1 40 = .ok (.ireturn, 1) := by decide +kernel
theorem de_W_act_41 : decode am_W_act.2.1 41 = .ok (.iload_n 2, 1) := by decide +kernel
theorem de_W_act_42 : decode am_W_act.2.1 42 = .ok (.iconst 1, 1) := by decide +kernel
theorem de_W_act_43 : decode am_W_act.2.1 43 = .ok (.if_icmp .ne (12), 3) := by decide +kernel
theorem de_W_act_46 : decode am_W_act.2.1 46 = .ok (.aload 4, 2) := by decide +kernel
theorem de_W_act_48 : decode am_W_act.2.1 48 = .ok (.iload_n 3, 1) := by decide +kernel
theorem de_W_act_49 : decode am_W_act.2.1 49 = .ok (.invokevirtual 315, 3) := by decide +kernel
theorem de_W_act_52 : decode am_W_act.2.1 52 = .ok (.goto (9), 3) := by decide +kernel
theorem de_W_act_55 : decode am_W_act.2.1 55 = .ok (.aload 4, 2) := by decide +kernel
theorem de_W_act_57 : decode am_W_act.2.1 57 = .ok (.iload_n 3, 1) := by decide +kernel
theorem de_W_act_58 : decode am_W_act.2.1 58 = .ok (.invokevirtual 318, 3) := by decide +kernel
theorem de_W_act_61 : decode am_W_act.2.1 61 = .ok (.ireturn, 1) := by decide +kernel
theorem de_W_trace_0 : decode am_W_trace.2.1 0 = .ok (.iload_n 1, 1) := by decide +kernel
theorem de_W_trace_1 : decode am_W_trace.2.1 1 = .ok (.ifCond .lt (19), 3) := by decide +kernel
theorem de_W_trace_4 : decode am_W_trace.2.1 4 = .ok (.iload_n 1, 1) := by decide +kernel
theorem de_W_trace_5 : decode am_W_trace.2.1 5 = .ok (.aload_n 0, 1) := by decide +kernel
theorem de_W_trace_6 : decode am_W_trace.2.1 6 = .ok (.getfield 34, 3) := by decide +kernel
theorem de_W_trace_9 : decode am_W_trace.2.1 9 = .ok (.iconst 0, 1) := by decide +kernel
theorem de_W_trace_10 : decode am_W_trace.2.1 10 = .ok (.iaload, 1) := by decide +kernel
theorem de_W_trace_11 : decode am_W_trace.2.1 11 = .ok (.if_icmp .ge (9), 3) := by decide +kernel
theorem de_W_trace_14 : decode am_W_trace.2.1 14 = .ok (.iload_n 1, 1) := by decide +kernel
theorem de_W_trace_15 : decode am_W_trace.2.1 15 = .ok (.bipush (20), 2) := by decide +kernel
theorem de_W_trace_17 : decode am_W_trace.2.1 17 = .ok (.if_icmp .lt (5), 3) := by decide +kernel
theorem de_W_trace_20 : decode am_W_trace.2.1 20 = .ok (.iconst (-1), 1) := by decide +kernel
theorem de_W_trace_21 : decode am_W_trace.2.1 21 = .ok (.ireturn, 1) := by decide +kernel
theorem de_W_trace_22 : decode am_W_trace.2.1 22 = .ok (.aload_n 0, 1) := by decide +kernel
theorem de_W_trace_23 : decode am_W_trace.2.1 23 = .ok (.getfield 34, 3) := by decide +kernel
theorem de_W_trace_26 : decode am_W_trace.2.1 26 = .ok (.iconst 1, 1) := by decide +kernel
theorem de_W_trace_27 : decode am_W_trace.2.1 27 = .ok (.iload_n 1, 1) := by decide +kernel
theorem de_W_trace_28 : decode am_W_trace.2.1 28 = .ok (.iadd, 1) := by decide +kernel
theorem de_W_trace_29 : decode am_W_trace.2.1 29 = .ok (.iaload, 1) := by decide +kernel
theorem de_W_trace_30 : decode am_W_trace.2.1 30 = .ok (.ireturn, 1) := by decide +kernel
theorem de_W_image_0 : decode am_W_image.2.1 0 = .ok (.aload_n 0, 1) := by decide +kernel
theorem de_W_image_1 : decode am_W_image.2.1 1 = .ok (.iconst 1, 1) := by decide +kernel
theorem de_W_image_2 : decode am_W_image.2.1 2 = .ok (.putfield 62, 3) := by decide +kernel
theorem de_W_image_5 : decode am_W_image.2.1 5 = .ok (.aload_n 0, 1) := by decide +kernel
theorem de_W_image_6 : decode am_W_image.2.1 6 = .ok (.getfield 55, 3) := by decide +kernel
theorem de_W_image_9 : decode am_W_image.2.1 9 = .ok (.getfield 321, 3) := by decide +kernel
theorem de_W_image_12 : decode am_W_image.2.1 12 = .ok (.iconst 0, 1) := by decide +kernel
theorem de_W_image_13 : decode am_W_image.2.1 13 = .ok (.aload_n 0, 1) := by decide +kernel
theorem de_W_image_14 : decode am_W_image.2.1 14 = .ok (.getfield 66, 3) := by decide +kernel
theorem de_W_image_17 : decode am_W_image.2.1 17 = .ok (.iconst 0, 1) := by decide +kernel
theorem de_W_image_18 : decode am_W_image.2.1 18 = .ok (.aload_n 0, 1) := by decide +kernel
theorem de_W_image_19 : decode am_W_image.2.1 19 = .ok (.getfield 66, 3) := by decide +kernel
theorem de_W_image_22 : decode am_W_image.2.1 22 = .ok (.arraylength, 1) := by decide +kernel
theorem de_W_image_23 : decode am_W_image.2.1 23 = .ok (.invokestatic 106, 3) := by decide +kernel
theorem de_W_image_26 : decode am_W_image.2.1 26 = .ok (.aload_n 0, 1) := by decide +kernel
theorem de_W_image_27 : decode am_W_image.2.1 27 = .ok (.aload_n 0, 1) := by decide +kernel
theorem de_W_image_28 : decode am_W_image.2.1 28 = .ok (.getfield 56, 3) := by decide +kernel
theorem de_W_image_31 : decode am_W_image.2.1 31 = .ok (.putfield 69, 3) := by decide +kernel
theorem de_W_image_34 : decode am_W_image.2.1 34 = .ok (.aload_n 0, 1) := by decide +kernel
theorem de_W_image_35 : decode am_W_image.2.1 35 = .ok (.aload_n 0, 1) := by decide +kernel
theorem de_W_image_36 : decode am_W_image.2.1 36 = .ok (.getfield 27, 3) := by decide +kernel
theorem de_W_image_39 : decode am_W_image.2.1 39 = .ok (.putfield 72, 3) := by decide +kernel
theorem de_W_image_42 : decode am_W_image.2.1 42 = .ok (.aload_n 0, 1) := by decide +kernel
theorem de_W_image_43 : decode am_W_image.2.1 43 = .ok (.aload_n 0, 1) := by decide +kernel
theorem de_W_image_44 : decode am_W_image.2.1 44 = .ok (.getfield 48, 3) := by decide +kernel
theorem de_W_image_47 : decode am_W_image.2.1 47 = .ok (.getfield 227, 3) := by decide +kernel
theorem de_W_image_50 : decode am_W_image.2.1 50 = .ok (.putfield 75, 3) := by decide +kernel
theorem de_W_image_53 : decode am_W_image.2.1 53 = .ok (.aload_n 0, 1) := by decide +kernel
theorem de_W_image_54 : decode am_W_image.2.1 54 = .ok (.getfield 75, 3) := by decide +kernel
theorem de_W_image_57 : decode am_W_image.2.1 57 = .ok (.ireturn, 1) := by decide +kernel
theorem de_W_restore_0 : decode am_W_restore.2.1 0 = .ok (.aload_n 0, 1) := by decide +kernel
theorem de_W_restore_1 : decode am_W_restore.2.1 1 = .ok (.getfield 62, 3) := by decide +kernel
theorem de_W_restore_4 : decode am_W_restore.2.1 4 = .ok (.ifCond .ne (10), 3) := by decide +kernel
theorem de_W_restore_7 : decode am_W_restore.2.1 7 = .ok (.aload_n 0, 1) := by decide +kernel
theorem de_W_restore_8 : decode am_W_restore.2.1 8 = .ok (.bipush (-6), 2) := by decide +kernel
theorem de_W_restore_10 : decode am_W_restore.2.1 10 = .ok (.invokevirtual 88, 3) := by decide +kernel
theorem de_W_restore_13 : decode am_W_restore.2.1 13 = .ok (.ireturn, 1) := by decide +kernel
theorem de_W_restore_14 : decode am_W_restore.2.1 14 = .ok (.aload_n 0, 1) := by decide +kernel
theorem de_W_restore_15 : decode am_W_restore.2.1 15 = .ok (.getfield 66, 3) := by decide +kernel
theorem de_W_restore_18 : decode am_W_restore.2.1 18 = .ok (.iconst 0, 1) := by decide +kernel
theorem de_W_restore_19 : decode am_W_restore.2.1 19 = .ok (.aload_n 0, 1) := by decide +kernel
theorem de_W_restore_20 : decode am_W_restore.2.1 20 = .ok (.getfield 55, 3) := by decide +kernel
theorem de_W_restore_23 : decode am_W_restore.2.1 23 = .ok (.getfield 321, 3) := by decide +kernel
theorem de_W_restore_26 : decode am_W_restore.2.1 26 = .ok (.iconst 0, 1) := by decide +kernel
theorem de_W_restore_27 : decode am_W_restore.2.1 27 = .ok (.aload_n 0, 1) := by decide +kernel
theorem de_W_restore_28 : decode am_W_restore.2.1 28 = .ok (.getfield 66, 3) := by decide +kernel
theorem de_W_restore_31 : decode am_W_restore.2.1 31 = .ok (.arraylength, 1) := by decide +kernel
theorem de_W_restore_32 : decode am_W_restore.2.1 32 = .ok (.invokestatic 106, 3) := by decide +kernel
theorem de_W_restore_35 : decode am_W_restore.2.1 35 = .ok (.aload_n 0, 1) := by decide +kernel
theorem de_W_restore_36 : decode am_W_restore.2.1 36 = .ok (.aload_n 0, 1) := by decide +kernel
theorem de_W_restore_37 : decode am_W_restore.2.1 37 = .ok (.getfield 69, 3) := by decide +kernel
theorem de_W_restore_40 : decode am_W_restore.2.1 40 = .ok (.putfield 56, 3) := by decide +kernel
theorem de_W_restore_43 : decode am_W_restore.2.1 43 = .ok (.aload_n 0, 1) := by decide +kernel
theorem de_W_restore_44 : decode am_W_restore.2.1 44 = .ok (.aload_n 0, 1) := by decide +kernel
theorem de_W_restore_45 : decode am_W_restore.2.1 45 = .ok (.getfield 72, 3) := by decide +kernel
theorem de_W_restore_48 : decode am_W_restore.2.1 48 = .ok (.putfield 27, 3) := by decide +kernel
theorem de_W_restore_51 : decode am_W_restore.2.1 51 = .ok (.aload_n 0, 1) := by decide +kernel
theorem de_W_restore_52 : decode am_W_restore.2.1 52 = .ok (.getfield 48, 3) := by decide +kernel
theorem de_W_restore_55 : decode am_W_restore.2.1 55 = .ok (.aload_n 0, 1) := by decide +kernel
theorem de_W_restore_56 : decode am_W_restore.2.1 56 = .ok (.getfield 75, 3) := by decide +kernel
theorem de_W_restore_59 : decode am_W_restore.2.1 59 = .ok (.putfield 227, 3) := by decide +kernel
theorem de_W_restore_62 : decode am_W_restore.2.1 62 = .ok (.aload_n 0, 1) := by decide +kernel
theorem de_W_restore_63 : decode am_W_restore.2.1 63 = .ok (.getfield 40, 3) := by decide +kernel
theorem de_W_restore_66 : decode am_W_restore.2.1 66 = .ok (.invokevirtual 146, 3) := by decide +kernel
theorem de_W_restore_69 : decode am_W_restore.2.1 69 = .ok (.iconst 0, 1) := by decide +kernel
theorem de_W_restore_70 : decode am_W_restore.2.1 70 = .ok (.istore_n 1, 1) := by decide +kernel
theorem de_W_restore_71 : decode am_W_restore.2.1 71 = .ok (.iload_n 1, 1) := by decide +kernel
theorem de_W_restore_72 : decode am_W_restore.2.1 72 = .ok (.bipush (8), 2) := by decide +kernel
theorem de_W_restore_74 : decode am_W_restore.2.1 74 = .ok (.if_icmp .ge (40), 3) := by decide +kernel
theorem de_W_restore_77 : decode am_W_restore.2.1 77 = .ok (.aload_n 0, 1) := by decide +kernel
theorem de_W_restore_78 : decode am_W_restore.2.1 78 = .ok (.getfield 9, 3) := by decide +kernel
theorem de_W_restore_81 : decode am_W_restore.2.1 81 = .ok (.iload_n 1, 1) := by decide +kernel
theorem de_W_restore_82 : decode am_W_restore.2.1 82 = .ok (.iaload, 1) := by decide +kernel
theorem de_W_restore_83 : decode am_W_restore.2.1 83 = .ok (.bipush (100), 2) := by decide +kernel
theorem de_W_restore_85 : decode am_W_restore.2.1 85 = .ok (.if_icmp .ge (23), 3) := by decide +kernel
theorem de_W_restore_88 : decode am_W_restore.2.1 88 = .ok (.aload_n 0, 1) := by decide +kernel
theorem de_W_restore_89 : decode am_W_restore.2.1 89 = .ok (.aload_n 0, 1) := by decide +kernel
theorem de_W_restore_90 : decode am_W_restore.2.1 90 = .ok (.getfield 9, 3) := by decide +kernel
theorem de_W_restore_93 : decode am_W_restore.2.1 93 = .ok (.iload_n 1, 1) := by decide +kernel
theorem de_W_restore_94 : decode am_W_restore.2.1 94 = .ok (.iaload, 1) := by decide +kernel
theorem de_W_restore_95 : decode am_W_restore.2.1 95 = .ok (.invokevirtual 112, 3) := by decide +kernel
theorem de_W_restore_98 : decode am_W_restore.2.1 98 = .ok (.ifCond .ne (10), 3) := by decide +kernel
theorem de_W_restore_101 : decode am_W_restore.2.1 101 = .ok (.aload_n 0, 1) := by decide +kernel
theorem de_W_restore_102 : decode am_W_restore.2.1 102 = .ok (.getfield 9, 3) := by decide +kernel
theorem de_W_restore_105 : decode am_W_restore.2.1 105 = .ok (.iload_n 1, 1) := by decide +kernel
theorem de_W_restore_106 : decode am_W_restore.2.1 106 = .ok (.iconst (-1), 1) := by decide +kernel
theorem de_W_restore_107 : decode am_W_restore.2.1 107 = .ok (.iastore, 1) := by decide +kernel
theorem de_W_restore_108 : decode am_W_restore.2.1 108 = .ok (.iinc 1 (1), 3) := by decide +kernel
theorem de_W_restore_111 : decode am_W_restore.2.1 111 = .ok (.goto (-40), 3) := by decide +kernel
theorem de_W_restore_114 : decode am_W_restore.2.1 114 = .ok (.aload_n 0, 1) := by decide +kernel
theorem de_W_restore_115 : decode am_W_restore.2.1 115 = .ok (.getfield 75, 3) := by decide +kernel
theorem de_W_restore_118 : decode am_W_restore.2.1 118 = .ok (.ireturn, 1) := by decide +kernel
theorem de_W_status_0 : decode am_W_status.2.1 0 = .ok (.iload_n 1, 1) := by decide +kernel
theorem de_W_status_1 : decode am_W_status.2.1 1 = .ok (.tableswitch (95) 0 6 #[43, 48, 56, 64, 72, 80, 88], 43) := by decide +kernel
theorem de_W_status_44 : decode am_W_status.2.1 44 = .ok (.aload_n 0, 1) := by decide +kernel
theorem de_W_status_45 : decode am_W_status.2.1 45 = .ok (.getfield 27, 3) := by decide +kernel
theorem de_W_status_48 : decode am_W_status.2.1 48 = .ok (.ireturn, 1) := by decide +kernel
theorem de_W_status_49 : decode am_W_status.2.1 49 = .ok (.aload_n 0, 1) := by decide +kernel
theorem de_W_status_50 : decode am_W_status.2.1 50 = .ok (.getfield 48, 3) := by decide +kernel
theorem de_W_status_53 : decode am_W_status.2.1 53 = .ok (.getfield 227, 3) := by decide +kernel
theorem de_W_status_56 : decode am_W_status.2.1 56 = .ok (.ireturn, 1) := by decide +kernel
theorem de_W_status_57 : decode am_W_status.2.1 57 = .ok (.aload_n 0, 1) := by decide +kernel
theorem de_W_status_58 : decode am_W_status.2.1 58 = .ok (.getfield 48, 3) := by decide +kernel
theorem de_W_status_61 : decode am_W_status.2.1 61 = .ok (.invokevirtual 324, 3) := by decide +kernel
theorem de_W_status_64 : decode am_W_status.2.1 64 = .ok (.ireturn, 1) := by decide +kernel
theorem de_W_status_65 : decode am_W_status.2.1 65 = .ok (.aload_n 0, 1) := by decide +kernel
theorem de_W_status_66 : decode am_W_status.2.1 66 = .ok (.getfield 55, 3) := by decide +kernel
theorem de_W_status_69 : decode am_W_status.2.1 69 = .ok (.invokevirtual 327, 3) := by decide +kernel
theorem de_W_status_72 : decode am_W_status.2.1 72 = .ok (.ireturn, 1) := by decide +kernel
theorem de_W_status_73 : decode am_W_status.2.1 73 = .ok (.aload_n 0, 1) := by decide +kernel
theorem de_W_status_74 : decode am_W_status.2.1 74 = .ok (.getfield 56, 3) := by decide +kernel
theorem de_W_status_77 : decode am_W_status.2.1 77 = .ok (.invokestatic 211, 3) := by decide +kernel
theorem de_W_status_80 : decode am_W_status.2.1 80 = .ok (.ireturn, 1) := by decide +kernel
theorem de_W_status_81 : decode am_W_status.2.1 81 = .ok (.aload_n 0, 1) := by decide +kernel
theorem de_W_status_82 : decode am_W_status.2.1 82 = .ok (.getfield 56, 3) := by decide +kernel
theorem de_W_status_85 : decode am_W_status.2.1 85 = .ok (.invokestatic 181, 3) := by decide +kernel
theorem de_W_status_88 : decode am_W_status.2.1 88 = .ok (.ireturn, 1) := by decide +kernel
theorem de_W_status_89 : decode am_W_status.2.1 89 = .ok (.aload_n 0, 1) := by decide +kernel
theorem de_W_status_90 : decode am_W_status.2.1 90 = .ok (.getfield 34, 3) := by decide +kernel
theorem de_W_status_93 : decode am_W_status.2.1 93 = .ok (.iconst 0, 1) := by decide +kernel
theorem de_W_status_94 : decode am_W_status.2.1 94 = .ok (.iaload, 1) := by decide +kernel
theorem de_W_status_95 : decode am_W_status.2.1 95 = .ok (.ireturn, 1) := by decide +kernel
theorem de_W_status_96 : decode am_W_status.2.1 96 = .ok (.iload_n 1, 1) := by decide +kernel
theorem de_W_status_97 : decode am_W_status.2.1 97 = .ok (.bipush (11), 2) := by decide +kernel
theorem de_W_status_99 : decode am_W_status.2.1 99 = .ok (.if_icmp .lt (27), 3) := by decide +kernel
theorem de_W_status_102 : decode am_W_status.2.1 102 = .ok (.iload_n 1, 1) := by decide +kernel
theorem de_W_status_103 : decode am_W_status.2.1 103 = .ok (.bipush (10), 2) := by decide +kernel
theorem de_W_status_105 : decode am_W_status.2.1 105 = .ok (.aload_n 0, 1) := by decide +kernel
theorem de_W_status_106 : decode am_W_status.2.1 106 = .ok (.getfield 59, 3) := by decide +kernel
theorem de_W_status_109 : decode am_W_status.2.1 109 = .ok (.arraylength, 1) := by decide +kernel
theorem de_W_status_110 : decode am_W_status.2.1 110 = .ok (.iadd, 1) := by decide +kernel
theorem de_W_status_111 : decode am_W_status.2.1 111 = .ok (.if_icmp .ge (15), 3) := by decide +kernel
theorem de_W_status_114 : decode am_W_status.2.1 114 = .ok (.aload_n 0, 1) := by decide +kernel
theorem de_W_status_115 : decode am_W_status.2.1 115 = .ok (.getfield 59, 3) := by decide +kernel
theorem de_W_status_118 : decode am_W_status.2.1 118 = .ok (.iload_n 1, 1) := by decide +kernel
theorem de_W_status_119 : decode am_W_status.2.1 119 = .ok (.bipush (10), 2) := by decide +kernel
theorem de_W_status_121 : decode am_W_status.2.1 121 = .ok (.isub, 1) := by decide +kernel
theorem de_W_status_122 : decode am_W_status.2.1 122 = .ok (.iaload, 1) := by decide +kernel
theorem de_W_status_123 : decode am_W_status.2.1 123 = .ok (.goto (4), 3) := by decide +kernel
theorem de_W_status_126 : decode am_W_status.2.1 126 = .ok (.iconst (-1), 1) := by decide +kernel
theorem de_W_status_127 : decode am_W_status.2.1 127 = .ok (.ireturn, 1) := by decide +kernel
theorem de_W_refuse_0 : decode am_W_refuse.2.1 0 = .ok (.aload_n 0, 1) := by decide +kernel
theorem de_W_refuse_1 : decode am_W_refuse.2.1 1 = .ok (.iload_n 1, 1) := by decide +kernel
theorem de_W_refuse_2 : decode am_W_refuse.2.1 2 = .ok (.iload_n 1, 1) := by decide +kernel
theorem de_W_refuse_3 : decode am_W_refuse.2.1 3 = .ok (.invokevirtual 199, 3) := by decide +kernel
theorem de_W_refuse_6 : decode am_W_refuse.2.1 6 = .ok (.ireturn, 1) := by decide +kernel
theorem de_W_refuseTold_0 : decode am_W_refuseTold.2.1 0 = .ok (.aload_n 0, 1) := by decide +kernel
theorem de_W_refuseTold_1 : decode am_W_refuseTold.2.1 1 = .ok (.getfield 59, 3) := by decide +kernel
theorem de_W_refuseTold_4 : decode am_W_refuseTold.2.1 4 = .ok (.iload_n 1, 1) := by decide +kernel
theorem de_W_refuseTold_5 : decode am_W_refuseTold.2.1 5 = .ok (.ineg, 1) := by decide +kernel
theorem de_W_refuseTold_6 : decode am_W_refuseTold.2.1 6 = .ok (.dup2, 1) := by decide +kernel
theorem de_W_refuseTold_7 : decode am_W_refuseTold.2.1 7 = .ok (.iaload, 1) := by decide +kernel
theorem de_W_refuseTold_8 : decode am_W_refuseTold.2.1 8 = .ok (.iconst 1, 1) := by decide +kernel
theorem de_W_refuseTold_9 : decode am_W_refuseTold.2.1 9 = .ok (.iadd, 1) := by decide +kernel
theorem de_W_refuseTold_10 : decode am_W_refuseTold.2.1 10 = .ok (.iastore, 1) := by decide +kernel
theorem de_W_refuseTold_11 : decode am_W_refuseTold.2.1 11 = .ok (.iload_n 2, 1) := by decide +kernel
theorem de_W_refuseTold_12 : decode am_W_refuseTold.2.1 12 = .ok (.ireturn, 1) := by decide +kernel
