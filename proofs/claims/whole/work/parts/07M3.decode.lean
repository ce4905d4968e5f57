theorem de_M_faults_121 : decode am_M_faults.2.1 121 = .ok (.iastore, 1) := by decide +kernel
theorem de_M_faults_122 : decode am_M_faults.2.1 122 = .ok (.iinc 1 (1), 3) := by decide +kernel
theorem de_M_faults_125 : decode am_M_faults.2.1 125 = .ok (.goto (-114), 3) := by decide +kernel
theorem de_M_faults_128 : decode am_M_faults.2.1 128 = .ok (.aload_n 0, 1) := by decide +kernel
theorem de_M_faults_129 : decode am_M_faults.2.1 129 = .ok (.iconst 1, 1) := by decide +kernel
theorem de_M_faults_130 : decode am_M_faults.2.1 130 = .ok (.putfield 258, 3) := by decide +kernel
theorem de_M_faults_133 : decode am_M_faults.2.1 133 = .ok (.return_, 1) := by decide +kernel
theorem de_M_cheat_0 : decode am_M_cheat.2.1 0 = .ok (.iload_n 1, 1) := by decide +kernel
theorem de_M_cheat_1 : decode am_M_cheat.2.1 1 = .ok (.iconst 1, 1) := by decide +kernel
theorem de_M_cheat_2 : decode am_M_cheat.2.1 2 = .ok (.if_icmp .lt (18), 3) := by decide +kernel
theorem de_M_cheat_5 : decode am_M_cheat.2.1 5 = .ok (.iload_n 1, 1) := by decide +kernel
theorem de_M_cheat_6 : decode am_M_cheat.2.1 6 = .ok (.bipush (25), 2) := by decide +kernel
theorem de_M_cheat_8 : decode am_M_cheat.2.1 8 = .ok (.if_icmp .gt (12), 3) := by decide +kernel
theorem de_M_cheat_11 : decode am_M_cheat.2.1 11 = .ok (.iload_n 2, 1) := by decide +kernel
theorem de_M_cheat_12 : decode am_M_cheat.2.1 12 = .ok (.ifCond .lt (8), 3) := by decide +kernel
theorem de_M_cheat_15 : decode am_M_cheat.2.1 15 = .ok (.iload_n 2, 1) := by decide +kernel
theorem de_M_cheat_16 : decode am_M_cheat.2.1 16 = .ok (.iconst 1, 1) := by decide +kernel
theorem de_M_cheat_17 : decode am_M_cheat.2.1 17 = .ok (.if_icmp .le (10), 3) := by decide +kernel
theorem de_M_cheat_20 : decode am_M_cheat.2.1 20 = .ok (.aload_n 0, 1) := by decide +kernel
theorem de_M_cheat_21 : decode am_M_cheat.2.1 21 = .ok (.bipush (-6), 2) := by decide +kernel
theorem de_M_cheat_23 : decode am_M_cheat.2.1 23 = .ok (.invokevirtual 94, 3) := by decide +kernel
theorem de_M_cheat_26 : decode am_M_cheat.2.1 26 = .ok (.ireturn, 1) := by decide +kernel
theorem de_M_cheat_27 : decode am_M_cheat.2.1 27 = .ok (.aload_n 0, 1) := by decide +kernel
theorem de_M_cheat_28 : decode am_M_cheat.2.1 28 = .ok (.invokevirtual 264, 3) := by decide +kernel
theorem de_M_cheat_31 : decode am_M_cheat.2.1 31 = .ok (.pop, 1) := by decide +kernel
theorem de_M_cheat_32 : decode am_M_cheat.2.1 32 = .ok (.aload_n 0, 1) := by decide +kernel
theorem de_M_cheat_33 : decode am_M_cheat.2.1 33 = .ok (.invokevirtual 281, 3) := by decide +kernel
theorem de_M_cheat_36 : decode am_M_cheat.2.1 36 = .ok (.iconst (-1), 1) := by decide +kernel
theorem de_M_cheat_37 : decode am_M_cheat.2.1 37 = .ok (.istore_n 3, 1) := by decide +kernel
theorem de_M_cheat_38 : decode am_M_cheat.2.1 38 = .ok (.iconst 1, 1) := by decide +kernel
theorem de_M_cheat_39 : decode am_M_cheat.2.1 39 = .ok (.istore 4, 2) := by decide +kernel
theorem de_M_cheat_41 : decode am_M_cheat.2.1 41 = .ok (.iload 4, 2) := by decide +kernel
theorem de_M_cheat_43 : decode am_M_cheat.2.1 43 = .ok (.sipush (4096), 3) := by decide +kernel
theorem de_M_cheat_46 : decode am_M_cheat.2.1 46 = .ok (.if_icmp .ge (43), 3) := by decide +kernel
theorem de_M_cheat_49 : decode am_M_cheat.2.1 49 = .ok (.aload_n 0, 1) := by decide +kernel
theorem de_M_cheat_50 : decode am_M_cheat.2.1 50 = .ok (.iload 4, 2) := by decide +kernel
theorem de_M_cheat_52 : decode am_M_cheat.2.1 52 = .ok (.invokevirtual 116, 3) := by decide +kernel
theorem de_M_cheat_55 : decode am_M_cheat.2.1 55 = .ok (.iload_n 1, 1) := by decide +kernel
theorem de_M_cheat_56 : decode am_M_cheat.2.1 56 = .ok (.if_icmp .gt (27), 3) := by decide +kernel
theorem de_M_cheat_59 : decode am_M_cheat.2.1 59 = .ok (.iload_n 3, 1) := by decide +kernel
theorem de_M_cheat_60 : decode am_M_cheat.2.1 60 = .ok (.iconst (-1), 1) := by decide +kernel
theorem de_M_cheat_61 : decode am_M_cheat.2.1 61 = .ok (.if_icmp .eq (19), 3) := by decide +kernel
theorem de_M_cheat_64 : decode am_M_cheat.2.1 64 = .ok (.aload_n 0, 1) := by decide +kernel
theorem de_M_cheat_65 : decode am_M_cheat.2.1 65 = .ok (.getfield 60, 3) := by decide +kernel
theorem de_M_cheat_68 : decode am_M_cheat.2.1 68 = .ok (.iload 4, 2) := by decide +kernel
theorem de_M_cheat_70 : decode am_M_cheat.2.1 70 = .ok (.iaload, 1) := by decide +kernel
theorem de_M_cheat_71 : decode am_M_cheat.2.1 71 = .ok (.aload_n 0, 1) := by decide +kernel
theorem de_M_cheat_72 : decode am_M_cheat.2.1 72 = .ok (.getfield 60, 3) := by decide +kernel
theorem de_M_cheat_75 : decode am_M_cheat.2.1 75 = .ok (.iload_n 3, 1) := by decide +kernel
theorem de_M_cheat_76 : decode am_M_cheat.2.1 76 = .ok (.iaload, 1) := by decide +kernel
theorem de_M_cheat_77 : decode am_M_cheat.2.1 77 = .ok (.if_icmp .ge (6), 3) := by decide +kernel
theorem de_M_cheat_80 : decode am_M_cheat.2.1 80 = .ok (.iload 4, 2) := by decide +kernel
theorem de_M_cheat_82 : decode am_M_cheat.2.1 82 = .ok (.istore_n 3, 1) := by decide +kernel
theorem de_M_cheat_83 : decode am_M_cheat.2.1 83 = .ok (.iinc 4 (1), 3) := by decide +kernel
theorem de_M_cheat_86 : decode am_M_cheat.2.1 86 = .ok (.goto (-45), 3) := by decide +kernel
theorem de_M_cheat_89 : decode am_M_cheat.2.1 89 = .ok (.iload_n 2, 1) := by decide +kernel
theorem de_M_cheat_90 : decode am_M_cheat.2.1 90 = .ok (.ifCond .ne (12), 3) := by decide +kernel
theorem de_M_cheat_93 : decode am_M_cheat.2.1 93 = .ok (.aload_n 0, 1) := by decide +kernel
theorem de_M_cheat_94 : decode am_M_cheat.2.1 94 = .ok (.getfield 60, 3) := by decide +kernel
theorem de_M_cheat_97 : decode am_M_cheat.2.1 97 = .ok (.iload_n 3, 1) := by decide +kernel
theorem de_M_cheat_98 : decode am_M_cheat.2.1 98 = .ok (.iaload, 1) := by decide +kernel
theorem de_M_cheat_99 : decode am_M_cheat.2.1 99 = .ok (.goto (4), 3) := by decide +kernel
theorem de_M_cheat_102 : decode am_M_cheat.2.1 102 = .ok (.iload_n 3, 1) := by decide +kernel
theorem de_M_cheat_103 : decode am_M_cheat.2.1 103 = .ok (.ireturn, 1) := by decide +kernel
theorem de_M_same_0 : decode am_M_same.2.1 0 = .ok (.aload_n 0, 1) := by decide +kernel
theorem de_M_same_1 : decode am_M_same.2.1 1 = .ok (.iload_n 1, 1) := by decide +kernel
theorem de_M_same_2 : decode am_M_same.2.1 2 = .ok (.invokevirtual 168, 3) := by decide +kernel
theorem de_M_same_5 : decode am_M_same.2.1 5 = .ok (.ifCond .eq (11), 3) := by decide +kernel
theorem de_M_same_8 : decode am_M_same.2.1 8 = .ok (.aload_n 0, 1) := by decide +kernel
theorem de_M_same_9 : decode am_M_same.2.1 9 = .ok (.iload_n 2, 1) := by decide +kernel
theorem de_M_same_10 : decode am_M_same.2.1 10 = .ok (.invokevirtual 168, 3) := by decide +kernel
theorem de_M_same_13 : decode am_M_same.2.1 13 = .ok (.ifCond .ne (9), 3) := by decide +kernel
theorem de_M_same_16 : decode am_M_same.2.1 16 = .ok (.aload_n 0, 1) := by decide +kernel
theorem de_M_same_17 : decode am_M_same.2.1 17 = .ok (.iconst (-1), 1) := by decide +kernel
theorem de_M_same_18 : decode am_M_same.2.1 18 = .ok (.invokevirtual 222, 3) := by decide +kernel
theorem de_M_same_21 : decode am_M_same.2.1 21 = .ok (.ireturn, 1) := by decide +kernel
theorem de_M_same_22 : decode am_M_same.2.1 22 = .ok (.iconst 0, 1) := by decide +kernel
theorem de_M_same_23 : decode am_M_same.2.1 23 = .ok (.istore_n 3, 1) := by decide +kernel
theorem de_M_same_24 : decode am_M_same.2.1 24 = .ok (.iload_n 3, 1) := by decide +kernel
theorem de_M_same_25 : decode am_M_same.2.1 25 = .ok (.bipush (6), 2) := by decide +kernel
theorem de_M_same_27 : decode am_M_same.2.1 27 = .ok (.if_icmp .ge (79), 3) := by decide +kernel
theorem de_M_same_30 : decode am_M_same.2.1 30 = .ok (.iload_n 1, 1) := by decide +kernel
theorem de_M_same_31 : decode am_M_same.2.1 31 = .ok (.bipush (-64), 2) := by decide +kernel
theorem de_M_same_33 : decode am_M_same.2.1 33 = .ok (.iand, 1) := by decide +kernel
theorem de_M_same_34 : decode am_M_same.2.1 34 = .ok (.istore 4, 2) := by decide +kernel
theorem de_M_same_36 : decode am_M_same.2.1 36 = .ok (.iconst 0, 1) := by decide +kernel
theorem de_M_same_37 : decode am_M_same.2.1 37 = .ok (.istore 5, 2) := by decide +kernel
theorem de_M_same_39 : decode am_M_same.2.1 39 = .ok (.iload 5, 2) := by decide +kernel
theorem de_M_same_41 : decode am_M_same.2.1 41 = .ok (.iconst 3, 1) := by decide +kernel
theorem de_M_same_42 : decode am_M_same.2.1 42 = .ok (.if_icmp .ge (50), 3) := by decide +kernel
theorem de_M_same_45 : decode am_M_same.2.1 45 = .ok (.aload_n 0, 1) := by decide +kernel
theorem de_M_same_46 : decode am_M_same.2.1 46 = .ok (.getfield 72, 3) := by decide +kernel
theorem de_M_same_49 : decode am_M_same.2.1 49 = .ok (.iconst 3, 1) := by decide +kernel
theorem de_M_same_50 : decode am_M_same.2.1 50 = .ok (.iload_n 3, 1) := by decide +kernel
theorem de_M_same_51 : decode am_M_same.2.1 51 = .ok (.imul, 1) := by decide +kernel
theorem de_M_same_52 : decode am_M_same.2.1 52 = .ok (.iload 5, 2) := by decide +kernel
theorem de_M_same_54 : decode am_M_same.2.1 54 = .ok (.iadd, 1) := by decide +kernel
theorem de_M_same_55 : decode am_M_same.2.1 55 = .ok (.iaload, 1) := by decide +kernel
theorem de_M_same_56 : decode am_M_same.2.1 56 = .ok (.istore 6, 2) := by decide +kernel
theorem de_M_same_58 : decode am_M_same.2.1 58 = .ok (.iload 4, 2) := by decide +kernel
theorem de_M_same_60 : decode am_M_same.2.1 60 = .ok (.iload_n 1, 1) := by decide +kernel
theorem de_M_same_61 : decode am_M_same.2.1 61 = .ok (.iload 5, 2) := by decide +kernel
theorem de_M_same_63 : decode am_M_same.2.1 63 = .ok (.ishr, 1) := by decide +kernel
theorem de_M_same_64 : decode am_M_same.2.1 64 = .ok (.iconst 1, 1) := by decide +kernel
theorem de_M_same_65 : decode am_M_same.2.1 65 = .ok (.iand, 1) := by decide +kernel
theorem de_M_same_66 : decode am_M_same.2.1 66 = .ok (.iload 6, 2) := by decide +kernel
theorem de_M_same_68 : decode am_M_same.2.1 68 = .ok (.ishl, 1) := by decide +kernel
theorem de_M_same_69 : decode am_M_same.2.1 69 = .ok (.iload_n 1, 1) := by decide +kernel
theorem de_M_same_70 : decode am_M_same.2.1 70 = .ok (.iconst 3, 1) := by decide +kernel
theorem de_M_same_71 : decode am_M_same.2.1 71 = .ok (.iload 5, 2) := by decide +kernel
theorem de_M_same_73 : decode am_M_same.2.1 73 = .ok (.iadd, 1) := by decide +kernel
theorem de_M_same_74 : decode am_M_same.2.1 74 = .ok (.ishr, 1) := by decide +kernel
theorem de_M_same_75 : decode am_M_same.2.1 75 = .ok (.iconst 1, 1) := by decide +kernel
theorem de_M_same_76 : decode am_M_same.2.1 76 = .ok (.iand, 1) := by decide +kernel
theorem de_M_same_77 : decode am_M_same.2.1 77 = .ok (.iconst 3, 1) := by decide +kernel
theorem de_M_same_78 : decode am_M_same.2.1 78 = .ok (.iload 6, 2) := by decide +kernel
theorem de_M_same_80 : decode am_M_same.2.1 80 = .ok (.iadd, 1) := by decide +kernel
theorem de_M_same_81 : decode am_M_same.2.1 81 = .ok (.ishl, 1) := by decide +kernel
theorem de_M_same_82 : decode am_M_same.2.1 82 = .ok (.ior, 1) := by decide +kernel
theorem de_M_same_83 : decode am_M_same.2.1 83 = .ok (.ior, 1) := by decide +kernel
theorem de_M_same_84 : decode am_M_same.2.1 84 = .ok (.istore 4, 2) := by decide +kernel
theorem de_M_same_86 : decode am_M_same.2.1 86 = .ok (.iinc 5 (1), 3) := by decide +kernel
theorem de_M_same_89 : decode am_M_same.2.1 89 = .ok (.goto (-50), 3) := by decide +kernel
theorem de_M_same_92 : decode am_M_same.2.1 92 = .ok (.iload 4, 2) := by decide +kernel
theorem de_M_same_94 : decode am_M_same.2.1 94 = .ok (.iload_n 2, 1) := by decide +kernel
theorem de_M_same_95 : decode am_M_same.2.1 95 = .ok (.if_icmp .ne (5), 3) := by decide +kernel
theorem de_M_same_98 : decode am_M_same.2.1 98 = .ok (.iload_n 3, 1) := by decide +kernel
theorem de_M_same_99 : decode am_M_same.2.1 99 = .ok (.ireturn, 1) := by decide +kernel
theorem de_M_same_100 : decode am_M_same.2.1 100 = .ok (.iinc 3 (1), 3) := by decide +kernel
theorem de_M_same_103 : decode am_M_same.2.1 103 = .ok (.goto (-79), 3) := by decide +kernel
theorem de_M_same_106 : decode am_M_same.2.1 106 = .ok (.iconst (-1), 1) := by decide +kernel
theorem de_M_same_107 : decode am_M_same.2.1 107 = .ok (.ireturn, 1) := by decide +kernel
theorem de_M_valueOf_0 : decode am_M_valueOf.2.1 0 = .ok (.aload_n 0, 1) := by decide +kernel
theorem de_M_valueOf_1 : decode am_M_valueOf.2.1 1 = .ok (.iload_n 1, 1) := by decide +kernel
theorem de_M_valueOf_2 : decode am_M_valueOf.2.1 2 = .ok (.iload_n 3, 1) := by decide +kernel
theorem de_M_valueOf_3 : decode am_M_valueOf.2.1 3 = .ok (.iload 4, 2) := by decide +kernel
theorem de_M_valueOf_5 : decode am_M_valueOf.2.1 5 = .ok (.invokevirtual 225, 3) := by decide +kernel
theorem de_M_valueOf_8 : decode am_M_valueOf.2.1 8 = .ok (.ifCond .eq (5), 3) := by decide +kernel
theorem de_M_valueOf_11 : decode am_M_valueOf.2.1 11 = .ok (.iconst (-1), 1) := by decide +kernel
theorem de_M_valueOf_12 : decode am_M_valueOf.2.1 12 = .ok (.ireturn, 1) := by decide +kernel
theorem de_M_valueOf_13 : decode am_M_valueOf.2.1 13 = .ok (.iload_n 2, 1) := by decide +kernel
theorem de_M_valueOf_14 : decode am_M_valueOf.2.1 14 = .ok (.ifCond .ne (5), 3) := by decide +kernel
theorem de_M_valueOf_17 : decode am_M_valueOf.2.1 17 = .ok (.iconst 0, 1) := by decide +kernel
theorem de_M_valueOf_18 : decode am_M_valueOf.2.1 18 = .ok (.ireturn, 1) := by decide +kernel
theorem de_M_valueOf_19 : decode am_M_valueOf.2.1 19 = .ok (.aload_n 0, 1) := by decide +kernel
theorem de_M_valueOf_20 : decode am_M_valueOf.2.1 20 = .ok (.iload_n 1, 1) := by decide +kernel
theorem de_M_valueOf_21 : decode am_M_valueOf.2.1 21 = .ok (.iload_n 3, 1) := by decide +kernel
theorem de_M_valueOf_22 : decode am_M_valueOf.2.1 22 = .ok (.iload 4, 2) := by decide +kernel
theorem de_M_valueOf_24 : decode am_M_valueOf.2.1 24 = .ok (.sipush (150), 3) := by decide +kernel
theorem de_M_valueOf_27 : decode am_M_valueOf.2.1 27 = .ok (.iload_n 2, 1) := by decide +kernel
theorem de_M_valueOf_28 : decode am_M_valueOf.2.1 28 = .ok (.iconst 1, 1) := by decide +kernel
theorem de_M_valueOf_29 : decode am_M_valueOf.2.1 29 = .ok (.isub, 1) := by decide +kernel
theorem de_M_valueOf_30 : decode am_M_valueOf.2.1 30 = .ok (.imul, 1) := by decide +kernel
theorem de_M_valueOf_31 : decode am_M_valueOf.2.1 31 = .ok (.invokevirtual 219, 3) := by decide +kernel
theorem de_M_valueOf_34 : decode am_M_valueOf.2.1 34 = .ok (.istore 5, 2) := by decide +kernel
theorem de_M_valueOf_36 : decode am_M_valueOf.2.1 36 = .ok (.bipush (-2), 2) := by decide +kernel
theorem de_M_valueOf_38 : decode am_M_valueOf.2.1 38 = .ok (.istore 6, 2) := by decide +kernel
theorem de_M_valueOf_40 : decode am_M_valueOf.2.1 40 = .ok (.iconst 0, 1) := by decide +kernel
theorem de_M_valueOf_41 : decode am_M_valueOf.2.1 41 = .ok (.istore 7, 2) := by decide +kernel
theorem de_M_valueOf_43 : decode am_M_valueOf.2.1 43 = .ok (.iload 7, 2) := by decide +kernel
theorem de_M_valueOf_45 : decode am_M_valueOf.2.1 45 = .ok (.iload 5, 2) := by decide +kernel
theorem de_M_valueOf_47 : decode am_M_valueOf.2.1 47 = .ok (.if_icmp .ge (73), 3) := by decide +kernel
theorem de_M_valueOf_50 : decode am_M_valueOf.2.1 50 = .ok (.iload 6, 2) := by decide +kernel
theorem de_M_valueOf_52 : decode am_M_valueOf.2.1 52 = .ok (.iconst 1, 1) := by decide +kernel
theorem de_M_valueOf_53 : decode am_M_valueOf.2.1 53 = .ok (.if_icmp .ge (67), 3) := by decide +kernel
theorem de_M_valueOf_56 : decode am_M_valueOf.2.1 56 = .ok (.aload_n 0, 1) := by decide +kernel
theorem de_M_valueOf_57 : decode am_M_valueOf.2.1 57 = .ok (.iload_n 1, 1) := by decide +kernel
theorem de_M_valueOf_58 : decode am_M_valueOf.2.1 58 = .ok (.aload_n 0, 1) := by decide +kernel
theorem de_M_valueOf_59 : decode am_M_valueOf.2.1 59 = .ok (.getfield 54, 3) := by decide +kernel
theorem de_M_valueOf_62 : decode am_M_valueOf.2.1 62 = .ok (.sipush (150), 3) := by decide +kernel
theorem de_M_valueOf_65 : decode am_M_valueOf.2.1 65 = .ok (.iload_n 2, 1) := by decide +kernel
theorem de_M_valueOf_66 : decode am_M_valueOf.2.1 66 = .ok (.iconst 1, 1) := by decide +kernel
theorem de_M_valueOf_67 : decode am_M_valueOf.2.1 67 = .ok (.isub, 1) := by decide +kernel
theorem de_M_valueOf_68 : decode am_M_valueOf.2.1 68 = .ok (.imul, 1) := by decide +kernel
theorem de_M_valueOf_69 : decode am_M_valueOf.2.1 69 = .ok (.iload 7, 2) := by decide +kernel
theorem de_M_valueOf_71 : decode am_M_valueOf.2.1 71 = .ok (.iadd, 1) := by decide +kernel
theorem de_M_valueOf_72 : decode am_M_valueOf.2.1 72 = .ok (.iaload, 1) := by decide +kernel
theorem de_M_valueOf_73 : decode am_M_valueOf.2.1 73 = .ok (.iload_n 3, 1) := by decide +kernel
theorem de_M_valueOf_74 : decode am_M_valueOf.2.1 74 = .ok (.iload 4, 2) := by decide +kernel
theorem de_M_valueOf_76 : decode am_M_valueOf.2.1 76 = .ok (.invokevirtual 228, 3) := by decide +kernel
theorem de_M_valueOf_79 : decode am_M_valueOf.2.1 79 = .ok (.aload_n 0, 1) := by decide +kernel
theorem de_M_valueOf_80 : decode am_M_valueOf.2.1 80 = .ok (.iload_n 1, 1) := by decide +kernel
theorem de_M_valueOf_81 : decode am_M_valueOf.2.1 81 = .ok (.iload_n 2, 1) := by decide +kernel
theorem de_M_valueOf_82 : decode am_M_valueOf.2.1 82 = .ok (.iconst 1, 1) := by decide +kernel
theorem de_M_valueOf_83 : decode am_M_valueOf.2.1 83 = .ok (.isub, 1) := by decide +kernel
theorem de_M_valueOf_84 : decode am_M_valueOf.2.1 84 = .ok (.aload_n 0, 1) := by decide +kernel
theorem de_M_valueOf_85 : decode am_M_valueOf.2.1 85 = .ok (.getfield 207, 3) := by decide +kernel
theorem de_M_valueOf_88 : decode am_M_valueOf.2.1 88 = .ok (.aload_n 0, 1) := by decide +kernel
theorem de_M_valueOf_89 : decode am_M_valueOf.2.1 89 = .ok (.getfield 210, 3) := by decide +kernel
theorem de_M_valueOf_92 : decode am_M_valueOf.2.1 92 = .ok (.invokevirtual 284, 3) := by decide +kernel
theorem de_M_valueOf_95 : decode am_M_valueOf.2.1 95 = .ok (.ineg, 1) := by decide +kernel
theorem de_M_valueOf_96 : decode am_M_valueOf.2.1 96 = .ok (.istore 8, 2) := by decide +kernel
theorem de_M_valueOf_98 : decode am_M_valueOf.2.1 98 = .ok (.iload 8, 2) := by decide +kernel
theorem de_M_valueOf_100 : decode am_M_valueOf.2.1 100 = .ok (.iload 6, 2) := by decide +kernel
theorem de_M_valueOf_102 : decode am_M_valueOf.2.1 102 = .ok (.if_icmp .le (8), 3) := by decide +kernel
theorem de_M_valueOf_105 : decode am_M_valueOf.2.1 105 = .ok (.iload 8, 2) := by decide +kernel
theorem de_M_valueOf_107 : decode am_M_valueOf.2.1 107 = .ok (.goto (5), 3) := by decide +kernel
theorem de_M_valueOf_110 : decode am_M_valueOf.2.1 110 = .ok (.iload 6, 2) := by decide +kernel
theorem de_M_valueOf_112 : decode am_M_valueOf.2.1 112 = .ok (.istore 6, 2) := by decide +kernel
theorem de_M_valueOf_114 : decode am_M_valueOf.2.1 114 = .ok (.iinc 7 (1), 3) := by decide +kernel
theorem de_M_valueOf_117 : decode am_M_valueOf.2.1 117 = .ok (.goto (-74), 3) := by decide +kernel
theorem de_M_valueOf_120 : decode am_M_valueOf.2.1 120 = .ok (.iload 5, 2) := by decide +kernel
theorem de_M_valueOf_122 : decode am_M_valueOf.2.1 122 = .ok (.ifCond .ne (7), 3) := by decide +kernel
theorem de_M_valueOf_125 : decode am_M_valueOf.2.1 125 = .ok (.iconst 0, 1) := by decide +kernel
theorem de_M_valueOf_126 : decode am_M_valueOf.2.1 126 = .ok (.goto (5), 3) := by decide +kernel
theorem de_M_valueOf_129 : decode am_M_valueOf.2.1 129 = .ok (.iload 6, 2) := by decide +kernel
theorem de_M_valueOf_131 : decode am_M_valueOf.2.1 131 = .ok (.ireturn, 1) := by decide +kernel
theorem de_M_value_0 : decode am_M_value.2.1 0 = .ok (.aload_n 0, 1) := by decide +kernel
theorem de_M_value_1 : decode am_M_value.2.1 1 = .ok (.iload_n 1, 1) := by decide +kernel
theorem de_M_value_2 : decode am_M_value.2.1 2 = .ok (.invokevirtual 168, 3) := by decide +kernel
theorem de_M_value_5 : decode am_M_value.2.1 5 = .ok (.ifCond .ne (9), 3) := by decide +kernel
theorem de_M_value_8 : decode am_M_value.2.1 8 = .ok (.aload_n 0, 1) := by decide +kernel
theorem de_M_value_9 : decode am_M_value.2.1 9 = .ok (.iconst (-1), 1) := by decide +kernel
theorem de_M_value_10 : decode am_M_value.2.1 10 = .ok (.invokevirtual 222, 3) := by decide +kernel
theorem de_M_value_13 : decode am_M_value.2.1 13 = .ok (.ireturn, 1) := by decide +kernel
theorem de_M_value_14 : decode am_M_value.2.1 14 = .ok (.iload_n 2, 1) := by decide +kernel
theorem de_M_value_15 : decode am_M_value.2.1 15 = .ok (.ifCond .lt (8), 3) := by decide +kernel
theorem de_M_value_18 : decode am_M_value.2.1 18 = .ok (.iload_n 2, 1) := by decide +kernel
theorem de_M_value_19 : decode am_M_value.2.1 19 = .ok (.iconst 3, 1) := by decide +kernel
theorem de_M_value_20 : decode am_M_value.2.1 20 = .ok (.if_icmp .le (10), 3) := by decide +kernel
theorem de_M_value_23 : decode am_M_value.2.1 23 = .ok (.aload_n 0, 1) := by decide +kernel
theorem de_M_value_24 : decode am_M_value.2.1 24 = .ok (.bipush (-6), 2) := by decide +kernel
theorem de_M_value_26 : decode am_M_value.2.1 26 = .ok (.invokevirtual 222, 3) := by decide +kernel
theorem de_M_value_29 : decode am_M_value.2.1 29 = .ok (.ireturn, 1) := by decide +kernel
theorem de_M_value_30 : decode am_M_value.2.1 30 = .ok (.aload_n 0, 1) := by decide +kernel
theorem de_M_value_31 : decode am_M_value.2.1 31 = .ok (.iload_n 1, 1) := by decide +kernel
theorem de_M_value_32 : decode am_M_value.2.1 32 = .ok (.iload_n 2, 1) := by decide +kernel
theorem de_M_value_33 : decode am_M_value.2.1 33 = .ok (.aload_n 0, 1) := by decide +kernel
theorem de_M_value_34 : decode am_M_value.2.1 34 = .ok (.invokevirtual 213, 3) := by decide +kernel
theorem de_M_value_37 : decode am_M_value.2.1 37 = .ok (.aload_n 0, 1) := by decide +kernel
theorem de_M_value_38 : decode am_M_value.2.1 38 = .ok (.invokevirtual 216, 3) := by decide +kernel
theorem de_M_value_41 : decode am_M_value.2.1 41 = .ok (.invokevirtual 284, 3) := by decide +kernel
theorem de_M_value_44 : decode am_M_value.2.1 44 = .ok (.ireturn, 1) := by decide +kernel
theorem de_M_best_0 : decode am_M_best.2.1 0 = .ok (.aload_n 0, 1) := by decide +kernel
theorem de_M_best_1 : decode am_M_best.2.1 1 = .ok (.iload_n 1, 1) := by decide +kernel
theorem de_M_best_2 : decode am_M_best.2.1 2 = .ok (.invokevirtual 168, 3) := by decide +kernel
theorem de_M_best_5 : decode am_M_best.2.1 5 = .ok (.ifCond .ne (9), 3) := by decide +kernel
theorem de_M_best_8 : decode am_M_best.2.1 8 = .ok (.aload_n 0, 1) := by decide +kernel
theorem de_M_best_9 : decode am_M_best.2.1 9 = .ok (.iconst (-1), 1) := by decide +kernel
theorem de_M_best_10 : decode am_M_best.2.1 10 = .ok (.invokevirtual 222, 3) := by decide +kernel
theorem de_M_best_13 : decode am_M_best.2.1 13 = .ok (.ireturn, 1) := by decide +kernel
theorem de_M_best_14 : decode am_M_best.2.1 14 = .ok (.iload_n 2, 1) := by decide +kernel
theorem de_M_best_15 : decode am_M_best.2.1 15 = .ok (.iconst 1, 1) := by decide +kernel
theorem de_M_best_16 : decode am_M_best.2.1 16 = .ok (.if_icmp .lt (8), 3) := by decide +kernel
theorem de_M_best_19 : decode am_M_best.2.1 19 = .ok (.iload_n 2, 1) := by decide +kernel
theorem de_M_best_20 : decode am_M_best.2.1 20 = .ok (.iconst 3, 1) := by decide +kernel
theorem de_M_best_21 : decode am_M_best.2.1 21 = .ok (.if_icmp .le (10), 3) := by decide +kernel
theorem de_M_best_24 : decode am_M_best.2.1 24 = .ok (.aload_n 0, 1) := by decide +kernel
theorem de_M_best_25 : decode am_M_best.2.1 25 = .ok (.bipush (-6), 2) := by decide +kernel
theorem de_M_best_27 : decode am_M_best.2.1 27 = .ok (.invokevirtual 222, 3) := by decide +kernel
theorem de_M_best_30 : decode am_M_best.2.1 30 = .ok (.ireturn, 1) := by decide +kernel
theorem de_M_best_31 : decode am_M_best.2.1 31 = .ok (.aload_n 0, 1) := by decide +kernel
theorem de_M_best_32 : decode am_M_best.2.1 32 = .ok (.invokevirtual 213, 3) := by decide +kernel
theorem de_M_best_35 : decode am_M_best.2.1 35 = .ok (.istore_n 3, 1) := by decide +kernel
theorem de_M_best_36 : decode am_M_best.2.1 36 = .ok (.aload_n 0, 1) := by decide +kernel
theorem de_M_best_37 : decode am_M_best.2.1 37 = .ok (.invokevirtual 216, 3) := by decide +kernel
theorem de_M_best_40 : decode am_M_best.2.1 40 = .ok (.istore 4, 2) := by decide +kernel
theorem de_M_best_42 : decode am_M_best.2.1 42 = .ok (.aload_n 0, 1) := by decide +kernel
theorem de_M_best_43 : decode am_M_best.2.1 43 = .ok (.iload_n 1, 1) := by decide +kernel
theorem de_M_best_44 : decode am_M_best.2.1 44 = .ok (.iload_n 3, 1) := by decide +kernel
theorem de_M_best_45 : decode am_M_best.2.1 45 = .ok (.iload 4, 2) := by decide +kernel
theorem de_M_best_47 : decode am_M_best.2.1 47 = .ok (.invokevirtual 225, 3) := by decide +kernel
theorem de_M_best_50 : decode am_M_best.2.1 50 = .ok (.ifCond .eq (5), 3) := by decide +kernel
theorem de_M_best_53 : decode am_M_best.2.1 53 = .ok (.iconst (-1), 1) := by decide +kernel
theorem de_M_best_54 : decode am_M_best.2.1 54 = .ok (.ireturn, 1) := by decide +kernel
theorem de_M_best_55 : decode am_M_best.2.1 55 = .ok (.aload_n 0, 1) := by decide +kernel
theorem de_M_best_56 : decode am_M_best.2.1 56 = .ok (.iload_n 1, 1) := by decide +kernel
theorem de_M_best_57 : decode am_M_best.2.1 57 = .ok (.iload_n 2, 1) := by decide +kernel
theorem de_M_best_58 : decode am_M_best.2.1 58 = .ok (.iload_n 3, 1) := by decide +kernel
theorem de_M_best_59 : decode am_M_best.2.1 59 = .ok (.iload 4, 2) := by decide +kernel
theorem de_M_best_61 : decode am_M_best.2.1 61 = .ok (.invokevirtual 284, 3) := by decide +kernel
theorem de_M_best_64 : decode am_M_best.2.1 64 = .ok (.istore 5, 2) := by decide +kernel
theorem de_M_best_66 : decode am_M_best.2.1 66 = .ok (.aload_n 0, 1) := by decide +kernel
theorem de_M_best_67 : decode am_M_best.2.1 67 = .ok (.iload_n 1, 1) := by decide +kernel
theorem de_M_best_68 : decode am_M_best.2.1 68 = .ok (.iload_n 3, 1) := by decide +kernel
theorem de_M_best_69 : decode am_M_best.2.1 69 = .ok (.iload 4, 2) := by decide +kernel
theorem de_M_best_71 : decode am_M_best.2.1 71 = .ok (.sipush (450), 3) := by decide +kernel
theorem de_M_best_74 : decode am_M_best.2.1 74 = .ok (.invokevirtual 219, 3) := by decide +kernel
theorem de_M_best_77 : decode am_M_best.2.1 77 = .ok (.istore 6, 2) := by decide +kernel
theorem de_M_best_79 : decode am_M_best.2.1 79 = .ok (.iconst 0, 1) := by decide +kernel
theorem de_M_best_80 : decode am_M_best.2.1 80 = .ok (.istore 7, 2) := by decide +kernel
theorem de_M_best_82 : decode am_M_best.2.1 82 = .ok (.iload 7, 2) := by decide +kernel
theorem de_M_best_84 : decode am_M_best.2.1 84 = .ok (.iload 6, 2) := by decide +kernel
theorem de_M_best_86 : decode am_M_best.2.1 86 = .ok (.if_icmp .ge (62), 3) := by decide +kernel
theorem de_M_best_89 : decode am_M_best.2.1 89 = .ok (.aload_n 0, 1) := by decide +kernel
theorem de_M_best_90 : decode am_M_best.2.1 90 = .ok (.iload_n 1, 1) := by decide +kernel
theorem de_M_best_91 : decode am_M_best.2.1 91 = .ok (.aload_n 0, 1) := by decide +kernel
theorem de_M_best_92 : decode am_M_best.2.1 92 = .ok (.getfield 54, 3) := by decide +kernel
theorem de_M_best_95 : decode am_M_best.2.1 95 = .ok (.sipush (450), 3) := by decide +kernel
theorem de_M_best_98 : decode am_M_best.2.1 98 = .ok (.iload 7, 2) := by decide +kernel
theorem de_M_best_100 : decode am_M_best.2.1 100 = .ok (.iadd, 1) := by decide +kernel
theorem de_M_best_101 : decode am_M_best.2.1 101 = .ok (.iaload, 1) := by decide +kernel
theorem de_M_best_102 : decode am_M_best.2.1 102 = .ok (.iload_n 3, 1) := by decide +kernel
theorem de_M_best_103 : decode am_M_best.2.1 103 = .ok (.iload 4, 2) := by decide +kernel
theorem de_M_best_105 : decode am_M_best.2.1 105 = .ok (.invokevirtual 228, 3) := by decide +kernel
theorem de_M_best_108 : decode am_M_best.2.1 108 = .ok (.aload_n 0, 1) := by decide +kernel
theorem de_M_best_109 : decode am_M_best.2.1 109 = .ok (.iload_n 1, 1) := by decide +kernel
theorem de_M_best_110 : decode am_M_best.2.1 110 = .ok (.iload_n 2, 1) := by decide +kernel
theorem de_M_best_111 : decode am_M_best.2.1 111 = .ok (.iconst 1, 1) := by decide +kernel
theorem de_M_best_112 : decode am_M_best.2.1 112 = .ok (.isub, 1) := by decide +kernel
theorem de_M_best_113 : decode am_M_best.2.1 113 = .ok (.aload_n 0, 1) := by decide +kernel
theorem de_M_best_114 : decode am_M_best.2.1 114 = .ok (.getfield 207, 3) := by decide +kernel
theorem de_M_best_117 : decode am_M_best.2.1 117 = .ok (.aload_n 0, 1) := by decide +kernel
theorem de_M_best_118 : decode am_M_best.2.1 118 = .ok (.getfield 210, 3) := by decide +kernel
theorem de_M_best_121 : decode am_M_best.2.1 121 = .ok (.invokevirtual 284, 3) := by decide +kernel
theorem de_M_best_124 : decode am_M_best.2.1 124 = .ok (.ineg, 1) := by decide +kernel
theorem de_M_best_125 : decode am_M_best.2.1 125 = .ok (.iload 5, 2) := by decide +kernel
theorem de_M_best_127 : decode am_M_best.2.1 127 = .ok (.if_icmp .ne (15), 3) := by decide +kernel
theorem de_M_best_130 : decode am_M_best.2.1 130 = .ok (.aload_n 0, 1) := by decide +kernel
theorem de_M_best_131 : decode am_M_best.2.1 131 = .ok (.getfield 54, 3) := by decide +kernel
theorem de_M_best_134 : decode am_M_best.2.1 134 = .ok (.sipush (450), 3) := by decide +kernel
theorem de_M_best_137 : decode am_M_best.2.1 137 = .ok (.iload 7, 2) := by decide +kernel
theorem de_M_best_139 : decode am_M_best.2.1 139 = .ok (.iadd, 1) := by decide +kernel
theorem de_M_best_140 : decode am_M_best.2.1 140 = .ok (.iaload, 1) := by decide +kernel
theorem de_M_best_141 : decode am_M_best.2.1 141 = .ok (.ireturn, 1) := by decide +kernel
theorem de_M_best_142 : decode am_M_best.2.1 142 = .ok (.iinc 7 (1), 3) := by decide +kernel
theorem de_M_best_145 : decode am_M_best.2.1 145 = .ok (.goto (-63), 3) := by decide +kernel
theorem de_M_best_148 : decode am_M_best.2.1 148 = .ok (.iconst (-1), 1) := by decide +kernel
theorem de_M_best_149 : decode am_M_best.2.1 149 = .ok (.ireturn, 1) := by decide +kernel
theorem de_M_body_0 : decode am_M_body.2.1 0 = .ok (.aload_n 0, 1) := by decide +kernel
theorem de_M_body_1 : decode am_M_body.2.1 1 = .ok (.getfield 287, 3) := by decide +kernel
theorem de_M_body_4 : decode am_M_body.2.1 4 = .ok (.bipush (20), 2) := by decide +kernel
theorem de_M_body_6 : decode am_M_body.2.1 6 = .ok (.if_icmp .ge (13), 3) := by decide +kernel
theorem de_M_body_9 : decode am_M_body.2.1 9 = .ok (.aload_n 0, 1) := by decide +kernel
theorem de_M_body_10 : decode am_M_body.2.1 10 = .ok (.getfield 75, 3) := by decide +kernel
theorem de_M_body_13 : decode am_M_body.2.1 13 = .ok (.aload_n 0, 1) := by decide +kernel
theorem de_M_body_14 : decode am_M_body.2.1 14 = .ok (.getfield 287, 3) := by decide +kernel
theorem de_M_body_17 : decode am_M_body.2.1 17 = .ok (.iload_n 1, 1) := by decide +kernel
theorem de_M_body_18 : decode am_M_body.2.1 18 = .ok (.iastore, 1) := by decide +kernel
theorem de_M_body_19 : decode am_M_body.2.1 19 = .ok (.aload_n 0, 1) := by decide +kernel
theorem de_M_body_20 : decode am_M_body.2.1 20 = .ok (.dup, 1) := by decide +kernel
theorem de_M_body_21 : decode am_M_body.2.1 21 = .ok (.getfield 287, 3) := by decide +kernel
theorem de_M_body_24 : decode am_M_body.2.1 24 = .ok (.iconst 1, 1) := by decide +kernel
theorem de_M_body_25 : decode am_M_body.2.1 25 = .ok (.iadd, 1) := by decide +kernel
theorem de_M_body_26 : decode am_M_body.2.1 26 = .ok (.putfield 287, 3) := by decide +kernel
theorem de_M_body_29 : decode am_M_body.2.1 29 = .ok (.return_, 1) := by decide +kernel
theorem de_M_going_0 : decode am_M_going.2.1 0 = .ok (.aload_n 0, 1) := by decide +kernel
theorem de_M_going_1 : decode am_M_going.2.1 1 = .ok (.aload_n 0, 1) := by decide +kernel
theorem de_M_going_2 : decode am_M_going.2.1 2 = .ok (.getfield 20, 3) := by decide +kernel
theorem de_M_going_5 : decode am_M_going.2.1 5 = .ok (.iload_n 1, 1) := by decide +kernel
theorem de_M_going_6 : decode am_M_going.2.1 6 = .ok (.iaload, 1) := by decide +kernel
theorem de_M_going_7 : decode am_M_going.2.1 7 = .ok (.invokevirtual 110, 3) := by decide +kernel
theorem de_M_going_10 : decode am_M_going.2.1 10 = .ok (.istore_n 3, 1) := by decide +kernel
theorem de_M_going_11 : decode am_M_going.2.1 11 = .ok (.iload_n 2, 1) := by decide +kernel
theorem de_M_going_12 : decode am_M_going.2.1 12 = .ok (.istore 4, 2) := by decide +kernel
theorem de_M_going_14 : decode am_M_going.2.1 14 = .ok (.iload_n 3, 1) := by decide +kernel
theorem de_M_going_15 : decode am_M_going.2.1 15 = .ok (.bipush (7), 2) := by decide +kernel
theorem de_M_going_17 : decode am_M_going.2.1 17 = .ok (.if_icmp .ne (9), 3) := by decide +kernel
theorem de_M_going_20 : decode am_M_going.2.1 20 = .ok (.aload_n 0, 1) := by decide +kernel
theorem de_M_going_21 : decode am_M_going.2.1 21 = .ok (.bipush (80), 2) := by decide +kernel
theorem de_M_going_23 : decode am_M_going.2.1 23 = .ok (.invokevirtual 290, 3) := by decide +kernel
theorem de_M_going_26 : decode am_M_going.2.1 26 = .ok (.iload_n 3, 1) := by decide +kernel
theorem de_M_going_27 : decode am_M_going.2.1 27 = .ok (.iconst 2, 1) := by decide +kernel
theorem de_M_going_28 : decode am_M_going.2.1 28 = .ok (.if_icmp .ne (14), 3) := by decide +kernel
theorem de_M_going_31 : decode am_M_going.2.1 31 = .ok (.aload_n 0, 1) := by decide +kernel
theorem de_M_going_32 : decode am_M_going.2.1 32 = .ok (.bipush (30), 2) := by decide +kernel
theorem de_M_going_34 : decode am_M_going.2.1 34 = .ok (.invokevirtual 290, 3) := by decide +kernel
theorem de_M_going_37 : decode am_M_going.2.1 37 = .ok (.iload_n 2, 1) := by decide +kernel
theorem de_M_going_38 : decode am_M_going.2.1 38 = .ok (.iconst 1, 1) := by decide +kernel
theorem de_M_going_39 : decode am_M_going.2.1 39 = .ok (.iadd, 1) := by decide +kernel
theorem de_M_going_40 : decode am_M_going.2.1 40 = .ok (.istore 4, 2) := by decide +kernel
theorem de_M_going_42 : decode am_M_going.2.1 42 = .ok (.iload_n 3, 1) := by decide +kernel
theorem de_M_going_43 : decode am_M_going.2.1 43 = .ok (.iconst 1, 1) := by decide +kernel
theorem de_M_going_44 : decode am_M_going.2.1 44 = .ok (.if_icmp .eq (8), 3) := by decide +kernel
theorem de_M_going_47 : decode am_M_going.2.1 47 = .ok (.iload_n 3, 1) := by decide +kernel
theorem de_M_going_48 : decode am_M_going.2.1 48 = .ok (.iconst 2, 1) := by decide +kernel
theorem de_M_going_49 : decode am_M_going.2.1 49 = .ok (.if_icmp .ne (9), 3) := by decide +kernel
theorem de_M_going_52 : decode am_M_going.2.1 52 = .ok (.aload_n 0, 1) := by decide +kernel
theorem de_M_going_53 : decode am_M_going.2.1 53 = .ok (.bipush (20), 2) := by decide +kernel
theorem de_M_going_55 : decode am_M_going.2.1 55 = .ok (.invokevirtual 290, 3) := by decide +kernel
theorem de_M_going_58 : decode am_M_going.2.1 58 = .ok (.aload_n 0, 1) := by decide +kernel
theorem de_M_going_59 : decode am_M_going.2.1 59 = .ok (.bipush (10), 2) := by decide +kernel
theorem de_M_going_61 : decode am_M_going.2.1 61 = .ok (.invokevirtual 290, 3) := by decide +kernel
theorem de_M_going_64 : decode am_M_going.2.1 64 = .ok (.iload 4, 2) := by decide +kernel
theorem de_M_going_66 : decode am_M_going.2.1 66 = .ok (.iload_n 1, 1) := by decide +kernel
theorem de_M_going_67 : decode am_M_going.2.1 67 = .ok (.iadd, 1) := by decide +kernel
theorem de_M_going_68 : decode am_M_going.2.1 68 = .ok (.istore 5, 2) := by decide +kernel
theorem de_M_going_70 : decode am_M_going.2.1 70 = .ok (.iload_n 3, 1) := by decide +kernel
theorem de_M_going_71 : decode am_M_going.2.1 71 = .ok (.iconst 1, 1) := by decide +kernel
theorem de_M_going_72 : decode am_M_going.2.1 72 = .ok (.if_icmp .eq (8), 3) := by decide +kernel
theorem de_M_going_75 : decode am_M_going.2.1 75 = .ok (.iload_n 3, 1) := by decide +kernel
theorem de_M_going_76 : decode am_M_going.2.1 76 = .ok (.iconst 2, 1) := by decide +kernel
theorem de_M_going_77 : decode am_M_going.2.1 77 = .ok (.if_icmp .ne (9), 3) := by decide +kernel
theorem de_M_going_80 : decode am_M_going.2.1 80 = .ok (.iload 5, 2) := by decide +kernel
theorem de_M_going_82 : decode am_M_going.2.1 82 = .ok (.iconst 3, 1) := by decide +kernel
theorem de_M_going_83 : decode am_M_going.2.1 83 = .ok (.imul, 1) := by decide +kernel
theorem de_M_going_84 : decode am_M_going.2.1 84 = .ok (.istore 5, 2) := by decide +kernel
theorem de_M_going_86 : decode am_M_going.2.1 86 = .ok (.iload_n 3, 1) := by decide +kernel
theorem de_M_going_87 : decode am_M_going.2.1 87 = .ok (.bipush (7), 2) := by decide +kernel
theorem de_M_going_89 : decode am_M_going.2.1 89 = .ok (.if_icmp .ne (11), 3) := by decide +kernel
theorem de_M_going_92 : decode am_M_going.2.1 92 = .ok (.iload 5, 2) := by decide +kernel
theorem de_M_going_94 : decode am_M_going.2.1 94 = .ok (.bipush (7), 2) := by decide +kernel
theorem de_M_going_96 : decode am_M_going.2.1 96 = .ok (.isub, 1) := by decide +kernel
theorem de_M_going_97 : decode am_M_going.2.1 97 = .ok (.goto (5), 3) := by decide +kernel
theorem de_M_going_100 : decode am_M_going.2.1 100 = .ok (.iload 5, 2) := by decide +kernel
theorem de_M_going_102 : decode am_M_going.2.1 102 = .ok (.ireturn, 1) := by decide +kernel
theorem de_M_letting_0 : decode am_M_letting.2.1 0 = .ok (.aload_n 0, 1) := by decide +kernel
theorem de_M_letting_1 : decode am_M_letting.2.1 1 = .ok (.aload_n 0, 1) := by decide +kernel
theorem de_M_letting_2 : decode am_M_letting.2.1 2 = .ok (.getfield 20, 3) := by decide +kernel
theorem de_M_letting_5 : decode am_M_letting.2.1 5 = .ok (.iload_n 1, 1) := by decide +kernel
theorem de_M_letting_6 : decode am_M_letting.2.1 6 = .ok (.iaload, 1) := by decide +kernel
theorem de_M_letting_7 : decode am_M_letting.2.1 7 = .ok (.invokevirtual 110, 3) := by decide +kernel
theorem de_M_letting_10 : decode am_M_letting.2.1 10 = .ok (.istore_n 3, 1) := by decide +kernel
theorem de_M_letting_11 : decode am_M_letting.2.1 11 = .ok (.iload_n 3, 1) := by decide +kernel
theorem de_M_letting_12 : decode am_M_letting.2.1 12 = .ok (.iconst 2, 1) := by decide +kernel
theorem de_M_letting_13 : decode am_M_letting.2.1 13 = .ok (.if_icmp .ne (9), 3) := by decide +kernel
theorem de_M_letting_16 : decode am_M_letting.2.1 16 = .ok (.aload_n 0, 1) := by decide +kernel
theorem de_M_letting_17 : decode am_M_letting.2.1 17 = .ok (.bipush (31), 2) := by decide +kernel
theorem de_M_letting_19 : decode am_M_letting.2.1 19 = .ok (.invokevirtual 290, 3) := by decide +kernel
theorem de_M_letting_22 : decode am_M_letting.2.1 22 = .ok (.iload_n 3, 1) := by decide +kernel
theorem de_M_letting_23 : decode am_M_letting.2.1 23 = .ok (.iconst 3, 1) := by decide +kernel
theorem de_M_letting_24 : decode am_M_letting.2.1 24 = .ok (.if_icmp .ne (9), 3) := by decide +kernel
theorem de_M_letting_27 : decode am_M_letting.2.1 27 = .ok (.aload_n 0, 1) := by decide +kernel
theorem de_M_letting_28 : decode am_M_letting.2.1 28 = .ok (.bipush (40), 2) := by decide +kernel
theorem de_M_letting_30 : decode am_M_letting.2.1 30 = .ok (.invokevirtual 290, 3) := by decide +kernel
theorem de_M_letting_33 : decode am_M_letting.2.1 33 = .ok (.iload_n 3, 1) := by decide +kernel
theorem de_M_letting_34 : decode am_M_letting.2.1 34 = .ok (.iconst 5, 1) := by decide +kernel
theorem de_M_letting_35 : decode am_M_letting.2.1 35 = .ok (.if_icmp .ne (9), 3) := by decide +kernel
theorem de_M_letting_38 : decode am_M_letting.2.1 38 = .ok (.aload_n 0, 1) := by decide +kernel
theorem de_M_letting_39 : decode am_M_letting.2.1 39 = .ok (.bipush (60), 2) := by decide +kernel
theorem de_M_letting_41 : decode am_M_letting.2.1 41 = .ok (.invokevirtual 290, 3) := by decide +kernel
theorem de_M_letting_44 : decode am_M_letting.2.1 44 = .ok (.aload_n 0, 1) := by decide +kernel
theorem de_M_letting_45 : decode am_M_letting.2.1 45 = .ok (.bipush (11), 2) := by decide +kernel
theorem de_M_letting_47 : decode am_M_letting.2.1 47 = .ok (.invokevirtual 290, 3) := by decide +kernel
theorem de_M_letting_50 : decode am_M_letting.2.1 50 = .ok (.aload_n 0, 1) := by decide +kernel
theorem de_M_letting_51 : decode am_M_letting.2.1 51 = .ok (.iload_n 1, 1) := by decide +kernel
theorem de_M_letting_52 : decode am_M_letting.2.1 52 = .ok (.iload_n 2, 1) := by decide +kernel
theorem de_M_letting_53 : decode am_M_letting.2.1 53 = .ok (.invokevirtual 293, 3) := by decide +kernel
theorem de_M_letting_56 : decode am_M_letting.2.1 56 = .ok (.iconst 2, 1) := by decide +kernel
theorem de_M_letting_57 : decode am_M_letting.2.1 57 = .ok (.imul, 1) := by decide +kernel
theorem de_M_letting_58 : decode am_M_letting.2.1 58 = .ok (.istore 4, 2) := by decide +kernel
theorem de_M_letting_60 : decode am_M_letting.2.1 60 = .ok (.iload_n 3, 1) := by decide +kernel
theorem de_M_letting_61 : decode am_M_letting.2.1 61 = .ok (.iconst 2, 1) := by decide +kernel
theorem de_M_letting_62 : decode am_M_letting.2.1 62 = .ok (.if_icmp .ne (19), 3) := by decide +kernel
theorem de_M_letting_65 : decode am_M_letting.2.1 65 = .ok (.iload 4, 2) := by decide +kernel
theorem de_M_letting_67 : decode am_M_letting.2.1 67 = .ok (.aload_n 0, 1) := by decide +kernel
theorem de_M_letting_68 : decode am_M_letting.2.1 68 = .ok (.aload_n 0, 1) := by decide +kernel
theorem de_M_letting_69 : decode am_M_letting.2.1 69 = .ok (.getfield 20, 3) := by decide +kernel
theorem de_M_letting_72 : decode am_M_letting.2.1 72 = .ok (.iload_n 1, 1) := by decide +kernel
theorem de_M_letting_73 : decode am_M_letting.2.1 73 = .ok (.iaload, 1) := by decide +kernel
theorem de_M_letting_74 : decode am_M_letting.2.1 74 = .ok (.invokevirtual 116, 3) := by decide +kernel
theorem de_M_letting_77 : decode am_M_letting.2.1 77 = .ok (.isub, 1) := by decide +kernel
theorem de_M_letting_78 : decode am_M_letting.2.1 78 = .ok (.goto (29), 3) := by decide +kernel
theorem de_M_letting_81 : decode am_M_letting.2.1 81 = .ok (.iload_n 3, 1) := by decide +kernel
theorem de_M_letting_82 : decode am_M_letting.2.1 82 = .ok (.iconst 3, 1) := by decide +kernel
theorem de_M_letting_83 : decode am_M_letting.2.1 83 = .ok (.if_icmp .ne (9), 3) := by decide +kernel
theorem de_M_letting_86 : decode am_M_letting.2.1 86 = .ok (.iload 4, 2) := by decide +kernel
theorem de_M_letting_88 : decode am_M_letting.2.1 88 = .ok (.ineg, 1) := by decide +kernel
theorem de_M_letting_89 : decode am_M_letting.2.1 89 = .ok (.goto (18), 3) := by decide +kernel
theorem de_M_letting_92 : decode am_M_letting.2.1 92 = .ok (.iload_n 3, 1) := by decide +kernel
theorem de_M_letting_93 : decode am_M_letting.2.1 93 = .ok (.iconst 5, 1) := by decide +kernel
theorem de_M_letting_94 : decode am_M_letting.2.1 94 = .ok (.if_icmp .ne (11), 3) := by decide +kernel
theorem de_M_letting_97 : decode am_M_letting.2.1 97 = .ok (.iload 4, 2) := by decide +kernel
theorem de_M_letting_99 : decode am_M_letting.2.1 99 = .ok (.bipush (9), 2) := by decide +kernel
theorem de_M_letting_101 : decode am_M_letting.2.1 101 = .ok (.ixor, 1) := by decide +kernel
theorem de_M_letting_102 : decode am_M_letting.2.1 102 = .ok (.goto (5), 3) := by decide +kernel
theorem de_M_letting_105 : decode am_M_letting.2.1 105 = .ok (.iload 4, 2) := by decide +kernel
theorem de_M_letting_107 : decode am_M_letting.2.1 107 = .ok (.ireturn, 1) := by decide +kernel
theorem de_M_ending_0 : decode am_M_ending.2.1 0 = .ok (.aload_n 0, 1) := by decide +kernel
theorem de_M_ending_1 : decode am_M_ending.2.1 1 = .ok (.aload_n 0, 1) := by decide +kernel
theorem de_M_ending_2 : decode am_M_ending.2.1 2 = .ok (.getfield 20, 3) := by decide +kernel
theorem de_M_ending_5 : decode am_M_ending.2.1 5 = .ok (.iload_n 1, 1) := by decide +kernel
theorem de_M_ending_6 : decode am_M_ending.2.1 6 = .ok (.iaload, 1) := by decide +kernel
theorem de_M_ending_7 : decode am_M_ending.2.1 7 = .ok (.invokevirtual 110, 3) := by decide +kernel
theorem de_M_ending_10 : decode am_M_ending.2.1 10 = .ok (.istore_n 3, 1) := by decide +kernel
theorem de_M_ending_11 : decode am_M_ending.2.1 11 = .ok (.aload_n 0, 1) := by decide +kernel
theorem de_M_ending_12 : decode am_M_ending.2.1 12 = .ok (.aload_n 0, 1) := by decide +kernel
theorem de_M_ending_13 : decode am_M_ending.2.1 13 = .ok (.getfield 20, 3) := by decide +kernel
theorem de_M_ending_16 : decode am_M_ending.2.1 16 = .ok (.iload_n 1, 1) := by decide +kernel
theorem de_M_ending_17 : decode am_M_ending.2.1 17 = .ok (.iaload, 1) := by decide +kernel
theorem de_M_ending_18 : decode am_M_ending.2.1 18 = .ok (.invokevirtual 116, 3) := by decide +kernel
theorem de_M_ending_21 : decode am_M_ending.2.1 21 = .ok (.istore 4, 2) := by decide +kernel
theorem de_M_ending_23 : decode am_M_ending.2.1 23 = .ok (.iload_n 2, 1) := by decide +kernel
theorem de_M_ending_24 : decode am_M_ending.2.1 24 = .ok (.istore 5, 2) := by decide +kernel
theorem de_M_ending_26 : decode am_M_ending.2.1 26 = .ok (.iload_n 3, 1) := by decide +kernel
theorem de_M_ending_27 : decode am_M_ending.2.1 27 = .ok (.iconst 4, 1) := by decide +kernel
theorem de_M_ending_28 : decode am_M_ending.2.1 28 = .ok (.if_icmp .ne (9), 3) := by decide +kernel
theorem de_M_ending_31 : decode am_M_ending.2.1 31 = .ok (.aload_n 0, 1) := by decide +kernel
theorem de_M_ending_32 : decode am_M_ending.2.1 32 = .ok (.bipush (50), 2) := by decide +kernel
theorem de_M_ending_34 : decode am_M_ending.2.1 34 = .ok (.invokevirtual 290, 3) := by decide +kernel
theorem de_M_ending_37 : decode am_M_ending.2.1 37 = .ok (.iload_n 3, 1) := by decide +kernel
theorem de_M_ending_38 : decode am_M_ending.2.1 38 = .ok (.bipush (6), 2) := by decide +kernel
theorem de_M_ending_40 : decode am_M_ending.2.1 40 = .ok (.if_icmp .ne (9), 3) := by decide +kernel
theorem de_M_ending_43 : decode am_M_ending.2.1 43 = .ok (.aload_n 0, 1) := by decide +kernel
theorem de_M_ending_44 : decode am_M_ending.2.1 44 = .ok (.bipush (70), 2) := by decide +kernel
theorem de_M_ending_46 : decode am_M_ending.2.1 46 = .ok (.invokevirtual 290, 3) := by decide +kernel
theorem de_M_ending_49 : decode am_M_ending.2.1 49 = .ok (.iload_n 3, 1) := by decide +kernel
theorem de_M_ending_50 : decode am_M_ending.2.1 50 = .ok (.bipush (7), 2) := by decide +kernel
theorem de_M_ending_52 : decode am_M_ending.2.1 52 = .ok (.if_icmp .ne (15), 3) := by decide +kernel
theorem de_M_ending_55 : decode am_M_ending.2.1 55 = .ok (.aload_n 0, 1) := by decide +kernel
theorem de_M_ending_56 : decode am_M_ending.2.1 56 = .ok (.bipush (81), 2) := by decide +kernel
theorem de_M_ending_58 : decode am_M_ending.2.1 58 = .ok (.invokevirtual 290, 3) := by decide +kernel
theorem de_M_ending_61 : decode am_M_ending.2.1 61 = .ok (.iload_n 2, 1) := by decide +kernel
theorem de_M_ending_62 : decode am_M_ending.2.1 62 = .ok (.iload 4, 2) := by decide +kernel
theorem de_M_ending_64 : decode am_M_ending.2.1 64 = .ok (.iadd, 1) := by decide +kernel
theorem de_M_ending_65 : decode am_M_ending.2.1 65 = .ok (.istore 5, 2) := by decide +kernel
theorem de_M_ending_67 : decode am_M_ending.2.1 67 = .ok (.aload_n 0, 1) := by decide +kernel
theorem de_M_ending_68 : decode am_M_ending.2.1 68 = .ok (.bipush (12), 2) := by decide +kernel
theorem de_M_ending_70 : decode am_M_ending.2.1 70 = .ok (.invokevirtual 290, 3) := by decide +kernel
theorem de_M_ending_73 : decode am_M_ending.2.1 73 = .ok (.aload_n 0, 1) := by decide +kernel
theorem de_M_ending_74 : decode am_M_ending.2.1 74 = .ok (.iload_n 1, 1) := by decide +kernel
theorem de_M_ending_75 : decode am_M_ending.2.1 75 = .ok (.iload 5, 2) := by decide +kernel
theorem de_M_ending_77 : decode am_M_ending.2.1 77 = .ok (.invokevirtual 296, 3) := by decide +kernel
theorem de_M_ending_80 : decode am_M_ending.2.1 80 = .ok (.istore 6, 2) := by decide +kernel
theorem de_M_ending_82 : decode am_M_ending.2.1 82 = .ok (.iload 6, 2) := by decide +kernel
theorem de_M_ending_84 : decode am_M_ending.2.1 84 = .ok (.aload_n 0, 1) := by decide +kernel
theorem de_M_ending_85 : decode am_M_ending.2.1 85 = .ok (.iload_n 1, 1) := by decide +kernel
theorem de_M_ending_86 : decode am_M_ending.2.1 86 = .ok (.iload 5, 2) := by decide +kernel
theorem de_M_ending_88 : decode am_M_ending.2.1 88 = .ok (.iload 4, 2) := by decide +kernel
theorem de_M_ending_90 : decode am_M_ending.2.1 90 = .ok (.isub, 1) := by decide +kernel
theorem de_M_ending_91 : decode am_M_ending.2.1 91 = .ok (.invokevirtual 293, 3) := by decide +kernel
theorem de_M_ending_94 : decode am_M_ending.2.1 94 = .ok (.ixor, 1) := by decide +kernel
theorem de_M_ending_95 : decode am_M_ending.2.1 95 = .ok (.istore 6, 2) := by decide +kernel
theorem de_M_ending_97 : decode am_M_ending.2.1 97 = .ok (.iload_n 3, 1) := by decide +kernel
theorem de_M_ending_98 : decode am_M_ending.2.1 98 = .ok (.iconst 4, 1) := by decide +kernel
theorem de_M_ending_99 : decode am_M_ending.2.1 99 = .ok (.if_icmp .ne (10), 3) := by decide +kernel
theorem de_M_ending_102 : decode am_M_ending.2.1 102 = .ok (.iload 6, 2) := by decide +kernel
theorem de_M_ending_104 : decode am_M_ending.2.1 104 = .ok (.iload_n 1, 1) := by decide +kernel
theorem de_M_ending_105 : decode am_M_ending.2.1 105 = .ok (.iadd, 1) := by decide +kernel
theorem de_M_ending_106 : decode am_M_ending.2.1 106 = .ok (.goto (18), 3) := by decide +kernel
theorem de_M_ending_109 : decode am_M_ending.2.1 109 = .ok (.iload_n 3, 1) := by decide +kernel
theorem de_M_ending_110 : decode am_M_ending.2.1 110 = .ok (.bipush (6), 2) := by decide +kernel
theorem de_M_ending_112 : decode am_M_ending.2.1 112 = .ok (.if_icmp .ne (10), 3) := by decide +kernel
theorem de_M_ending_115 : decode am_M_ending.2.1 115 = .ok (.iload 6, 2) := by decide +kernel
theorem de_M_ending_117 : decode am_M_ending.2.1 117 = .ok (.iconst 2, 1) := by decide +kernel
theorem de_M_ending_118 : decode am_M_ending.2.1 118 = .ok (.imul, 1) := by decide +kernel
theorem de_M_ending_119 : decode am_M_ending.2.1 119 = .ok (.goto (5), 3) := by decide +kernel
theorem de_M_ending_122 : decode am_M_ending.2.1 122 = .ok (.iload 6, 2) := by decide +kernel
theorem de_M_ending_124 : decode am_M_ending.2.1 124 = .ok (.ireturn, 1) := by decide +kernel
theorem de_M_act_0 : decode am_M_act.2.1 0 = .ok (.aload_n 0, 1) := by decide +kernel
theorem de_M_act_1 : decode am_M_act.2.1 1 = .ok (.iconst 0, 1) := by decide +kernel
theorem de_M_act_2 : decode am_M_act.2.1 2 = .ok (.putfield 287, 3) := by decide +kernel
theorem de_M_act_5 : decode am_M_act.2.1 5 = .ok (.aload_n 0, 1) := by decide +kernel
theorem de_M_act_6 : decode am_M_act.2.1 6 = .ok (.iload_n 1, 1) := by decide +kernel
theorem de_M_act_7 : decode am_M_act.2.1 7 = .ok (.invokevirtual 98, 3) := by decide +kernel
theorem de_M_act_10 : decode am_M_act.2.1 10 = .ok (.ifCond .eq (12), 3) := by decide +kernel
theorem de_M_act_13 : decode am_M_act.2.1 13 = .ok (.iload_n 2, 1) := by decide +kernel
theorem de_M_act_14 : decode am_M_act.2.1 14 = .ok (.ifCond .lt (8), 3) := by decide +kernel
theorem de_M_act_17 : decode am_M_act.2.1 17 = .ok (.iload_n 2, 1) := by decide +kernel
theorem de_M_act_18 : decode am_M_act.2.1 18 = .ok (.iconst 2, 1) := by decide +kernel
theorem de_M_act_19 : decode am_M_act.2.1 19 = .ok (.if_icmp .le (5), 3) := by decide +kernel
theorem de_M_act_22 : decode am_M_act.2.1 22 = .ok (.iconst 0, 1) := by decide +kernel
theorem de_M_act_23 : decode am_M_act.2.1 23 = .ok (.ireturn, 1) := by decide +kernel
theorem de_M_act_24 : decode am_M_act.2.1 24 = .ok (.iload_n 2, 1) := by decide +kernel
theorem de_M_act_25 : decode am_M_act.2.1 25 = .ok (.ifCond .ne (12), 3) := by decide +kernel
theorem de_M_act_28 : decode am_M_act.2.1 28 = .ok (.aload_n 0, 1) := by decide +kernel
theorem de_M_act_29 : decode am_M_act.2.1 29 = .ok (.iload_n 1, 1) := by decide +kernel
theorem de_M_act_30 : decode am_M_act.2.1 30 = .ok (.iload_n 3, 1) := by decide +kernel
theorem de_M_act_31 : decode am_M_act.2.1 31 = .ok (.invokevirtual 293, 3) := by decide +kernel
theorem de_M_act_34 : decode am_M_act.2.1 34 = .ok (.goto (23), 3) := by decide +kernel
theorem de_M_act_37 : decode am_M_act.2.1 37 = .ok (.iload_n 2, 1) := by decide +kernel
theorem de_M_act_38 : decode am_M_act.2.1 38 = .ok (.iconst 1, 1) := by decide +kernel
theorem de_M_act_39 : decode am_M_act.2.1 39 = .ok (.if_icmp .ne (12), 3) := by decide +kernel
theorem de_M_act_42 : decode am_M_act.2.1 42 = .ok (.aload_n 0, 1) := by decide +kernel
theorem de_M_act_43 : decode am_M_act.2.1 43 = .ok (.iload_n 1, 1) := by decide +kernel
theorem de_M_act_44 : decode am_M_act.2.1 44 = .ok (.iload_n 3, 1) := by decide +kernel
theorem de_M_act_45 : decode am_M_act.2.1 45 = .ok (.invokevirtual 296, 3) := by decide +kernel
theorem de_M_act_48 : decode am_M_act.2.1 48 = .ok (.goto (9), 3) := by decide +kernel
theorem de_M_act_51 : decode am_M_act.2.1 51 = .ok (.aload_n 0, 1) := by decide +kernel
theorem de_M_act_52 : decode am_M_act.2.1 52 = .ok (.iload_n 1, 1) := by decide +kernel
theorem de_M_act_53 : decode am_M_act.2.1 53 = .ok (.iload_n 3, 1) := by decide +kernel
theorem de_M_act_54 : decode am_M_act.2.1 54 = .ok (.invokevirtual 299, 3) := by decide +kernel
theorem de_M_act_57 : decode am_M_act.2.1 57 = .ok (.ireturn, 1) := by decide +kernel
theorem de_M_trace_0 : decode am_M_trace.2.1 0 = .ok (.iload_n 1, 1) := by decide +kernel
theorem de_M_trace_1 : decode am_M_trace.2.1 1 = .ok (.ifCond .lt (26), 3) := by decide +kernel
theorem de_M_trace_4 : decode am_M_trace.2.1 4 = .ok (.iload_n 1, 1) := by decide +kernel
theorem de_M_trace_5 : decode am_M_trace.2.1 5 = .ok (.bipush (20), 2) := by decide +kernel
theorem de_M_trace_7 : decode am_M_trace.2.1 7 = .ok (.if_icmp .ge (20), 3) := by decide +kernel
theorem de_M_trace_10 : decode am_M_trace.2.1 10 = .ok (.iload_n 1, 1) := by decide +kernel
theorem de_M_trace_11 : decode am_M_trace.2.1 11 = .ok (.aload_n 0, 1) := by decide +kernel
theorem de_M_trace_12 : decode am_M_trace.2.1 12 = .ok (.getfield 287, 3) := by decide +kernel
theorem de_M_trace_15 : decode am_M_trace.2.1 15 = .ok (.if_icmp .ge (12), 3) := by decide +kernel
theorem de_M_trace_18 : decode am_M_trace.2.1 18 = .ok (.aload_n 0, 1) := by decide +kernel
theorem de_M_trace_19 : decode am_M_trace.2.1 19 = .ok (.getfield 75, 3) := by decide +kernel
theorem de_M_trace_22 : decode am_M_trace.2.1 22 = .ok (.iload_n 1, 1) := by decide +kernel
theorem de_M_trace_23 : decode am_M_trace.2.1 23 = .ok (.iaload, 1) := by decide +kernel
theorem de_M_trace_24 : decode am_M_trace.2.1 24 = .ok (.goto (4), 3) := by decide +kernel
theorem de_M_trace_27 : decode am_M_trace.2.1 27 = .ok (.iconst (-1), 1) := by decide +kernel
theorem de_M_trace_28 : decode am_M_trace.2.1 28 = .ok (.ireturn, 1) := by decide +kernel
theorem de_M_keeps_0 : decode am_M_keeps.2.1 0 = .ok (.iconst 0, 1) := by decide +kernel
theorem de_M_keeps_1 : decode am_M_keeps.2.1 1 = .ok (.istore 5, 2) := by decide +kernel
theorem de_M_keeps_3 : decode am_M_keeps.2.1 3 = .ok (.iload 5, 2) := by decide +kernel
theorem de_M_keeps_5 : decode am_M_keeps.2.1 5 = .ok (.iload_n 2, 1) := by decide +kernel
theorem de_M_keeps_6 : decode am_M_keeps.2.1 6 = .ok (.if_icmp .ge (43), 3) := by decide +kernel
theorem de_M_keeps_9 : decode am_M_keeps.2.1 9 = .ok (.iload 4, 2) := by decide +kernel
theorem de_M_keeps_11 : decode am_M_keeps.2.1 11 = .ok (.ifCond .eq (19), 3) := by decide +kernel
theorem de_M_keeps_14 : decode am_M_keeps.2.1 14 = .ok (.aload_n 1, 1) := by decide +kernel
theorem de_M_keeps_15 : decode am_M_keeps.2.1 15 = .ok (.iload 5, 2) := by decide +kernel
theorem de_M_keeps_17 : decode am_M_keeps.2.1 17 = .ok (.aload_n 0, 1) := by decide +kernel
theorem de_M_keeps_18 : decode am_M_keeps.2.1 18 = .ok (.getfield 81, 3) := by decide +kernel
theorem de_M_keeps_21 : decode am_M_keeps.2.1 21 = .ok (.iload_n 3, 1) := by decide +kernel
theorem de_M_keeps_22 : decode am_M_keeps.2.1 22 = .ok (.iload 5, 2) := by decide +kernel
theorem de_M_keeps_24 : decode am_M_keeps.2.1 24 = .ok (.iadd, 1) := by decide +kernel
theorem de_M_keeps_25 : decode am_M_keeps.2.1 25 = .ok (.iaload, 1) := by decide +kernel
theorem de_M_keeps_26 : decode am_M_keeps.2.1 26 = .ok (.iastore, 1) := by decide +kernel
theorem de_M_keeps_27 : decode am_M_keeps.2.1 27 = .ok (.goto (16), 3) := by decide +kernel
theorem de_M_keeps_30 : decode am_M_keeps.2.1 30 = .ok (.aload_n 0, 1) := by decide +kernel
theorem de_M_keeps_31 : decode am_M_keeps.2.1 31 = .ok (.getfield 81, 3) := by decide +kernel
theorem de_M_keeps_34 : decode am_M_keeps.2.1 34 = .ok (.iload_n 3, 1) := by decide +kernel
theorem de_M_keeps_35 : decode am_M_keeps.2.1 35 = .ok (.iload 5, 2) := by decide +kernel
theorem de_M_keeps_37 : decode am_M_keeps.2.1 37 = .ok (.iadd, 1) := by decide +kernel
theorem de_M_keeps_38 : decode am_M_keeps.2.1 38 = .ok (.aload_n 1, 1) := by decide +kernel
theorem de_M_keeps_39 : decode am_M_keeps.2.1 39 = .ok (.iload 5, 2) := by decide +kernel
theorem de_M_keeps_41 : decode am_M_keeps.2.1 41 = .ok (.iaload, 1) := by decide +kernel
theorem de_M_keeps_42 : decode am_M_keeps.2.1 42 = .ok (.iastore, 1) := by decide +kernel
theorem de_M_keeps_43 : decode am_M_keeps.2.1 43 = .ok (.iinc 5 (1), 3) := by decide +kernel
theorem de_M_keeps_46 : decode am_M_keeps.2.1 46 = .ok (.goto (-43), 3) := by decide +kernel
theorem de_M_keeps_49 : decode am_M_keeps.2.1 49 = .ok (.iload_n 3, 1) := by decide +kernel
theorem de_M_keeps_50 : decode am_M_keeps.2.1 50 = .ok (.iload_n 2, 1) := by decide +kernel
theorem de_M_keeps_51 : decode am_M_keeps.2.1 51 = .ok (.iadd, 1) := by decide +kernel
theorem de_M_keeps_52 : decode am_M_keeps.2.1 52 = .ok (.ireturn, 1) := by decide +kernel
theorem de_M_all_0 : decode am_M_all.2.1 0 = .ok (.aload_n 0, 1) := by decide +kernel
theorem de_M_all_1 : decode am_M_all.2.1 1 = .ok (.aload_n 0, 1) := by decide +kernel
theorem de_M_all_2 : decode am_M_all.2.1 2 = .ok (.getfield 17, 3) := by decide +kernel
theorem de_M_all_5 : decode am_M_all.2.1 5 = .ok (.bipush (36), 2) := by decide +kernel
theorem de_M_all_7 : decode am_M_all.2.1 7 = .ok (.iconst 0, 1) := by decide +kernel
theorem de_M_all_8 : decode am_M_all.2.1 8 = .ok (.iload_n 1, 1) := by decide +kernel
theorem de_M_all_9 : decode am_M_all.2.1 9 = .ok (.invokevirtual 302, 3) := by decide +kernel
theorem de_M_all_12 : decode am_M_all.2.1 12 = .ok (.istore_n 2, 1) := by decide +kernel
theorem de_M_all_13 : decode am_M_all.2.1 13 = .ok (.aload_n 0, 1) := by decide +kernel
theorem de_M_all_14 : decode am_M_all.2.1 14 = .ok (.aload_n 0, 1) := by decide +kernel
theorem de_M_all_15 : decode am_M_all.2.1 15 = .ok (.getfield 20, 3) := by decide +kernel
theorem de_M_all_18 : decode am_M_all.2.1 18 = .ok (.bipush (8), 2) := by decide +kernel
theorem de_M_all_20 : decode am_M_all.2.1 20 = .ok (.iload_n 2, 1) := by decide +kernel
theorem de_M_all_21 : decode am_M_all.2.1 21 = .ok (.iload_n 1, 1) := by decide +kernel
theorem de_M_all_22 : decode am_M_all.2.1 22 = .ok (.invokevirtual 302, 3) := by decide +kernel
theorem de_M_all_25 : decode am_M_all.2.1 25 = .ok (.istore_n 2, 1) := by decide +kernel
theorem de_M_all_26 : decode am_M_all.2.1 26 = .ok (.aload_n 0, 1) := by decide +kernel
theorem de_M_all_27 : decode am_M_all.2.1 27 = .ok (.aload_n 0, 1) := by decide +kernel
theorem de_M_all_28 : decode am_M_all.2.1 28 = .ok (.getfield 23, 3) := by decide +kernel
theorem de_M_all_31 : decode am_M_all.2.1 31 = .ok (.bipush (72), 2) := by decide +kernel
theorem de_M_all_33 : decode am_M_all.2.1 33 = .ok (.iload_n 2, 1) := by decide +kernel
theorem de_M_all_34 : decode am_M_all.2.1 34 = .ok (.iload_n 1, 1) := by decide +kernel
theorem de_M_all_35 : decode am_M_all.2.1 35 = .ok (.invokevirtual 302, 3) := by decide +kernel
theorem de_M_all_38 : decode am_M_all.2.1 38 = .ok (.istore_n 2, 1) := by decide +kernel
theorem de_M_all_39 : decode am_M_all.2.1 39 = .ok (.aload_n 0, 1) := by decide +kernel
theorem de_M_all_40 : decode am_M_all.2.1 40 = .ok (.aload_n 0, 1) := by decide +kernel
theorem de_M_all_41 : decode am_M_all.2.1 41 = .ok (.getfield 26, 3) := by decide +kernel
theorem de_M_all_44 : decode am_M_all.2.1 44 = .ok (.bipush (120), 2) := by decide +kernel
theorem de_M_all_46 : decode am_M_all.2.1 46 = .ok (.iload_n 2, 1) := by decide +kernel
theorem de_M_all_47 : decode am_M_all.2.1 47 = .ok (.iload_n 1, 1) := by decide +kernel
theorem de_M_all_48 : decode am_M_all.2.1 48 = .ok (.invokevirtual 302, 3) := by decide +kernel
theorem de_M_all_51 : decode am_M_all.2.1 51 = .ok (.istore_n 2, 1) := by decide +kernel
theorem de_M_all_52 : decode am_M_all.2.1 52 = .ok (.aload_n 0, 1) := by decide +kernel
theorem de_M_all_53 : decode am_M_all.2.1 53 = .ok (.aload_n 0, 1) := by decide +kernel
theorem de_M_all_54 : decode am_M_all.2.1 54 = .ok (.getfield 29, 3) := by decide +kernel
theorem de_M_all_57 : decode am_M_all.2.1 57 = .ok (.bipush (6), 2) := by decide +kernel
theorem de_M_all_59 : decode am_M_all.2.1 59 = .ok (.iload_n 2, 1) := by decide +kernel
theorem de_M_all_60 : decode am_M_all.2.1 60 = .ok (.iload_n 1, 1) := by decide +kernel
theorem de_M_all_61 : decode am_M_all.2.1 61 = .ok (.invokevirtual 302, 3) := by decide +kernel
theorem de_M_all_64 : decode am_M_all.2.1 64 = .ok (.istore_n 2, 1) := by decide +kernel
theorem de_M_all_65 : decode am_M_all.2.1 65 = .ok (.aload_n 0, 1) := by decide +kernel
theorem de_M_all_66 : decode am_M_all.2.1 66 = .ok (.aload_n 0, 1) := by decide +kernel
theorem de_M_all_67 : decode am_M_all.2.1 67 = .ok (.getfield 32, 3) := by decide +kernel
theorem de_M_all_70 : decode am_M_all.2.1 70 = .ok (.bipush (6), 2) := by decide +kernel
theorem de_M_all_72 : decode am_M_all.2.1 72 = .ok (.iload_n 2, 1) := by decide +kernel
theorem de_M_all_73 : decode am_M_all.2.1 73 = .ok (.iload_n 1, 1) := by decide +kernel
theorem de_M_all_74 : decode am_M_all.2.1 74 = .ok (.invokevirtual 302, 3) := by decide +kernel
theorem de_M_all_77 : decode am_M_all.2.1 77 = .ok (.pop, 1) := by decide +kernel
theorem de_M_all_78 : decode am_M_all.2.1 78 = .ok (.return_, 1) := by decide +kernel
theorem de_M_image_0 : decode am_M_image.2.1 0 = .ok (.aload_n 0, 1) := by decide +kernel
theorem de_M_image_1 : decode am_M_image.2.1 1 = .ok (.aload_n 0, 1) := by decide +kernel
theorem de_M_image_2 : decode am_M_image.2.1 2 = .ok (.getfield 84, 3) := by decide +kernel
theorem de_M_image_5 : decode am_M_image.2.1 5 = .ok (.putfield 78, 3) := by decide +kernel
theorem de_M_image_8 : decode am_M_image.2.1 8 = .ok (.aload_n 0, 1) := by decide +kernel
theorem de_M_image_9 : decode am_M_image.2.1 9 = .ok (.aload_n 0, 1) := by decide +kernel
theorem de_M_image_10 : decode am_M_image.2.1 10 = .ok (.getfield 87, 3) := by decide +kernel
theorem de_M_image_13 : decode am_M_image.2.1 13 = .ok (.putfield 306, 3) := by decide +kernel
theorem de_M_image_16 : decode am_M_image.2.1 16 = .ok (.aload_n 0, 1) := by decide +kernel
theorem de_M_image_17 : decode am_M_image.2.1 17 = .ok (.aload_n 0, 1) := by decide +kernel
theorem de_M_image_18 : decode am_M_image.2.1 18 = .ok (.getfield 171, 3) := by decide +kernel
theorem de_M_image_21 : decode am_M_image.2.1 21 = .ok (.putfield 309, 3) := by decide +kernel
theorem de_M_image_24 : decode am_M_image.2.1 24 = .ok (.aload_n 0, 1) := by decide +kernel
theorem de_M_image_25 : decode am_M_image.2.1 25 = .ok (.aload_n 0, 1) := by decide +kernel
theorem de_M_image_26 : decode am_M_image.2.1 26 = .ok (.getfield 174, 3) := by decide +kernel
theorem de_M_image_29 : decode am_M_image.2.1 29 = .ok (.putfield 312, 3) := by decide +kernel
theorem de_M_image_32 : decode am_M_image.2.1 32 = .ok (.aload_n 0, 1) := by decide +kernel
theorem de_M_image_33 : decode am_M_image.2.1 33 = .ok (.aload_n 0, 1) := by decide +kernel
theorem de_M_image_34 : decode am_M_image.2.1 34 = .ok (.getfield 177, 3) := by decide +kernel
theorem de_M_image_37 : decode am_M_image.2.1 37 = .ok (.putfield 315, 3) := by decide +kernel
theorem de_M_image_40 : decode am_M_image.2.1 40 = .ok (.aload_n 0, 1) := by decide +kernel
theorem de_M_image_41 : decode am_M_image.2.1 41 = .ok (.iconst 0, 1) := by decide +kernel
theorem de_M_image_42 : decode am_M_image.2.1 42 = .ok (.invokevirtual 318, 3) := by decide +kernel
theorem de_M_image_45 : decode am_M_image.2.1 45 = .ok (.aload_n 0, 1) := by decide +kernel
theorem de_M_image_46 : decode am_M_image.2.1 46 = .ok (.getfield 84, 3) := by decide +kernel
theorem de_M_image_49 : decode am_M_image.2.1 49 = .ok (.ireturn, 1) := by decide +kernel
theorem de_M_restore_0 : decode am_M_restore.2.1 0 = .ok (.aload_n 0, 1) := by decide +kernel
theorem de_M_restore_1 : decode am_M_restore.2.1 1 = .ok (.getfield 78, 3) := by decide +kernel
theorem de_M_restore_4 : decode am_M_restore.2.1 4 = .ok (.iconst (-1), 1) := by decide +kernel
theorem de_M_restore_5 : decode am_M_restore.2.1 5 = .ok (.if_icmp .ne (10), 3) := by decide +kernel
theorem de_M_restore_8 : decode am_M_restore.2.1 8 = .ok (.aload_n 0, 1) := by decide +kernel
theorem de_M_restore_9 : decode am_M_restore.2.1 9 = .ok (.bipush (-6), 2) := by decide +kernel
theorem de_M_restore_11 : decode am_M_restore.2.1 11 = .ok (.invokevirtual 94, 3) := by decide +kernel
theorem de_M_restore_14 : decode am_M_restore.2.1 14 = .ok (.ireturn, 1) := by decide +kernel
theorem de_M_restore_15 : decode am_M_restore.2.1 15 = .ok (.aload_n 0, 1) := by decide +kernel
theorem de_M_restore_16 : decode am_M_restore.2.1 16 = .ok (.aload_n 0, 1) := by decide +kernel
theorem de_M_restore_17 : decode am_M_restore.2.1 17 = .ok (.getfield 78, 3) := by decide +kernel
theorem de_M_restore_20 : decode am_M_restore.2.1 20 = .ok (.putfield 84, 3) := by decide +kernel
theorem de_M_restore_23 : decode am_M_restore.2.1 23 = .ok (.aload_n 0, 1) := by decide +kernel
theorem de_M_restore_24 : decode am_M_restore.2.1 24 = .ok (.aload_n 0, 1) := by decide +kernel
theorem de_M_restore_25 : decode am_M_restore.2.1 25 = .ok (.getfield 306, 3) := by decide +kernel
theorem de_M_restore_28 : decode am_M_restore.2.1 28 = .ok (.putfield 87, 3) := by decide +kernel
theorem de_M_restore_31 : decode am_M_restore.2.1 31 = .ok (.aload_n 0, 1) := by decide +kernel
theorem de_M_restore_32 : decode am_M_restore.2.1 32 = .ok (.aload_n 0, 1) := by decide +kernel
theorem de_M_restore_33 : decode am_M_restore.2.1 33 = .ok (.getfield 309, 3) := by decide +kernel
theorem de_M_restore_36 : decode am_M_restore.2.1 36 = .ok (.putfield 171, 3) := by decide +kernel
theorem de_M_restore_39 : decode am_M_restore.2.1 39 = .ok (.aload_n 0, 1) := by decide +kernel
theorem de_M_restore_40 : decode am_M_restore.2.1 40 = .ok (.aload_n 0, 1) := by decide +kernel
theorem de_M_restore_41 : decode am_M_restore.2.1 41 = .ok (.getfield 312, 3) := by decide +kernel
theorem de_M_restore_44 : decode am_M_restore.2.1 44 = .ok (.putfield 174, 3) := by decide +kernel
theorem de_M_restore_47 : decode am_M_restore.2.1 47 = .ok (.aload_n 0, 1) := by decide +kernel
theorem de_M_restore_48 : decode am_M_restore.2.1 48 = .ok (.aload_n 0, 1) := by decide +kernel
theorem de_M_restore_49 : decode am_M_restore.2.1 49 = .ok (.getfield 315, 3) := by decide +kernel
theorem de_M_restore_52 : decode am_M_restore.2.1 52 = .ok (.putfield 177, 3) := by decide +kernel
theorem de_M_restore_55 : decode am_M_restore.2.1 55 = .ok (.aload_n 0, 1) := by decide +kernel
theorem de_M_restore_56 : decode am_M_restore.2.1 56 = .ok (.iconst 1, 1) := by decide +kernel
theorem de_M_restore_57 : decode am_M_restore.2.1 57 = .ok (.invokevirtual 318, 3) := by decide +kernel
theorem de_M_restore_60 : decode am_M_restore.2.1 60 = .ok (.aload_n 0, 1) := by decide +kernel
theorem de_M_restore_61 : decode am_M_restore.2.1 61 = .ok (.invokevirtual 122, 3) := by decide +kernel
theorem de_M_restore_64 : decode am_M_restore.2.1 64 = .ok (.iconst 0, 1) := by decide +kernel
theorem de_M_restore_65 : decode am_M_restore.2.1 65 = .ok (.istore_n 1, 1) := by decide +kernel
theorem de_M_restore_66 : decode am_M_restore.2.1 66 = .ok (.iload_n 1, 1) := by decide +kernel
theorem de_M_restore_67 : decode am_M_restore.2.1 67 = .ok (.bipush (8), 2) := by decide +kernel
theorem de_M_restore_69 : decode am_M_restore.2.1 69 = .ok (.if_icmp .ge (39), 3) := by decide +kernel
theorem de_M_restore_72 : decode am_M_restore.2.1 72 = .ok (.aload_n 0, 1) := by decide +kernel
theorem de_M_restore_73 : decode am_M_restore.2.1 73 = .ok (.getfield 35, 3) := by decide +kernel
theorem de_M_restore_76 : decode am_M_restore.2.1 76 = .ok (.iload_n 1, 1) := by decide +kernel
theorem de_M_restore_77 : decode am_M_restore.2.1 77 = .ok (.iaload, 1) := by decide +kernel
theorem de_M_restore_78 : decode am_M_restore.2.1 78 = .ok (.iconst 2, 1) := by decide +kernel
theorem de_M_restore_79 : decode am_M_restore.2.1 79 = .ok (.if_icmp .ne (23), 3) := by decide +kernel
theorem de_M_restore_82 : decode am_M_restore.2.1 82 = .ok (.aload_n 0, 1) := by decide +kernel
theorem de_M_restore_83 : decode am_M_restore.2.1 83 = .ok (.getfield 44, 3) := by decide +kernel
theorem de_M_restore_86 : decode am_M_restore.2.1 86 = .ok (.iload_n 1, 1) := by decide +kernel
theorem de_M_restore_87 : decode am_M_restore.2.1 87 = .ok (.iaload, 1) := by decide +kernel
theorem de_M_restore_88 : decode am_M_restore.2.1 88 = .ok (.aload_n 0, 1) := by decide +kernel
theorem de_M_restore_89 : decode am_M_restore.2.1 89 = .ok (.getfield 87, 3) := by decide +kernel
theorem de_M_restore_92 : decode am_M_restore.2.1 92 = .ok (.if_icmp .lt (10), 3) := by decide +kernel
theorem de_M_restore_95 : decode am_M_restore.2.1 95 = .ok (.aload_n 0, 1) := by decide +kernel
theorem de_M_restore_96 : decode am_M_restore.2.1 96 = .ok (.getfield 35, 3) := by decide +kernel
theorem de_M_restore_99 : decode am_M_restore.2.1 99 = .ok (.iload_n 1, 1) := by decide +kernel
theorem de_M_restore_100 : decode am_M_restore.2.1 100 = .ok (.iconst 0, 1) := by decide +kernel
theorem de_M_restore_101 : decode am_M_restore.2.1 101 = .ok (.iastore, 1) := by decide +kernel
theorem de_M_restore_102 : decode am_M_restore.2.1 102 = .ok (.iinc 1 (1), 3) := by decide +kernel
theorem de_M_restore_105 : decode am_M_restore.2.1 105 = .ok (.goto (-39), 3) := by decide +kernel
theorem de_M_restore_108 : decode am_M_restore.2.1 108 = .ok (.aload_n 0, 1) := by decide +kernel
theorem de_M_restore_109 : decode am_M_restore.2.1 109 = .ok (.getfield 84, 3) := by decide +kernel
theorem de_M_restore_112 : decode am_M_restore.2.1 112 = .ok (.ireturn, 1) := by decide +kernel
theorem de_M_status_0 : decode am_M_status.2.1 0 = .ok (.iload_n 1, 1) := by decide +kernel
theorem de_M_status_1 : decode am_M_status.2.1 1 = .ok (.bipush (11), 2) := by decide +kernel
theorem de_M_status_3 : decode am_M_status.2.1 3 = .ok (.if_icmp .lt (19), 3) := by decide +kernel
theorem de_M_status_6 : decode am_M_status.2.1 6 = .ok (.iload_n 1, 1) := by decide +kernel
theorem de_M_status_7 : decode am_M_status.2.1 7 = .ok (.bipush (17), 2) := by decide +kernel
theorem de_M_status_9 : decode am_M_status.2.1 9 = .ok (.if_icmp .gt (13), 3) := by decide +kernel
theorem de_M_status_12 : decode am_M_status.2.1 12 = .ok (.aload_n 0, 1) := by decide +kernel
theorem de_M_status_13 : decode am_M_status.2.1 13 = .ok (.getfield 13, 3) := by decide +kernel
theorem de_M_status_16 : decode am_M_status.2.1 16 = .ok (.iload_n 1, 1) := by decide +kernel
theorem de_M_status_17 : decode am_M_status.2.1 17 = .ok (.bipush (10), 2) := by decide +kernel
theorem de_M_status_19 : decode am_M_status.2.1 19 = .ok (.isub, 1) := by decide +kernel
theorem de_M_status_20 : decode am_M_status.2.1 20 = .ok (.iaload, 1) := by decide +kernel
theorem de_M_status_21 : decode am_M_status.2.1 21 = .ok (.ireturn, 1) := by decide +kernel
theorem de_M_status_22 : decode am_M_status.2.1 22 = .ok (.iconst 0, 1) := by decide +kernel
theorem de_M_status_23 : decode am_M_status.2.1 23 = .ok (.istore_n 2, 1) := by decide +kernel
theorem de_M_status_24 : decode am_M_status.2.1 24 = .ok (.iload_n 1, 1) := by decide +kernel
theorem de_M_status_25 : decode am_M_status.2.1 25 = .ok (.tableswitch (135) 0 6 #[43, 48, 53, 80, 111, 125, 130], 43) := by decide +kernel
theorem de_M_status_68 : decode am_M_status.2.1 68 = .ok (.aload_n 0, 1) := by decide +kernel
theorem de_M_status_69 : decode am_M_status.2.1 69 = .ok (.getfield 87, 3) := by decide +kernel
theorem de_M_status_72 : decode am_M_status.2.1 72 = .ok (.ireturn, 1) := by decide +kernel
theorem de_M_status_73 : decode am_M_status.2.1 73 = .ok (.aload_n 0, 1) := by decide +kernel
theorem de_M_status_74 : decode am_M_status.2.1 74 = .ok (.getfield 84, 3) := by decide +kernel
theorem de_M_status_77 : decode am_M_status.2.1 77 = .ok (.ireturn, 1) := by decide +kernel
theorem de_M_status_78 : decode am_M_status.2.1 78 = .ok (.iconst 0, 1) := by decide +kernel
theorem de_M_status_79 : decode am_M_status.2.1 79 = .ok (.istore_n 3, 1) := by decide +kernel
theorem de_M_status_80 : decode am_M_status.2.1 80 = .ok (.iload_n 3, 1) := by decide +kernel
theorem de_M_status_81 : decode am_M_status.2.1 81 = .ok (.aload_n 0, 1) := by decide +kernel
theorem de_M_status_82 : decode am_M_status.2.1 82 = .ok (.getfield 84, 3) := by decide +kernel
theorem de_M_status_85 : decode am_M_status.2.1 85 = .ok (.if_icmp .ge (18), 3) := by decide +kernel
theorem de_M_status_88 : decode am_M_status.2.1 88 = .ok (.iload_n 2, 1) := by decide +kernel
theorem de_M_status_89 : decode am_M_status.2.1 89 = .ok (.aload_n 0, 1) := by decide +kernel
theorem de_M_status_90 : decode am_M_status.2.1 90 = .ok (.getfield 29, 3) := by decide +kernel
theorem de_M_status_93 : decode am_M_status.2.1 93 = .ok (.iload_n 3, 1) := by decide +kernel
theorem de_M_status_94 : decode am_M_status.2.1 94 = .ok (.iaload, 1) := by decide +kernel
theorem de_M_status_95 : decode am_M_status.2.1 95 = .ok (.iadd, 1) := by decide +kernel
theorem de_M_status_96 : decode am_M_status.2.1 96 = .ok (.istore_n 2, 1) := by decide +kernel
theorem de_M_status_97 : decode am_M_status.2.1 97 = .ok (.iinc 3 (1), 3) := by decide +kernel
theorem de_M_status_100 : decode am_M_status.2.1 100 = .ok (.goto (-20), 3) := by decide +kernel
theorem de_M_status_103 : decode am_M_status.2.1 103 = .ok (.iload_n 2, 1) := by decide +kernel
theorem de_M_status_104 : decode am_M_status.2.1 104 = .ok (.ireturn, 1) := by decide +kernel
theorem de_M_status_105 : decode am_M_status.2.1 105 = .ok (.iconst 0, 1) := by decide +kernel
theorem de_M_status_106 : decode am_M_status.2.1 106 = .ok (.istore_n 3, 1) := by decide +kernel
theorem de_M_status_107 : decode am_M_status.2.1 107 = .ok (.iload_n 3, 1) := by decide +kernel
theorem de_M_status_108 : decode am_M_status.2.1 108 = .ok (.bipush (36), 2) := by decide +kernel
theorem de_M_status_110 : decode am_M_status.2.1 110 = .ok (.if_icmp .ge (22), 3) := by decide +kernel
theorem de_M_status_113 : decode am_M_status.2.1 113 = .ok (.iload_n 2, 1) := by decide +kernel
theorem de_M_status_114 : decode am_M_status.2.1 114 = .ok (.aload_n 0, 1) := by decide +kernel
theorem de_M_status_115 : decode am_M_status.2.1 115 = .ok (.aload_n 0, 1) := by decide +kernel
theorem de_M_status_116 : decode am_M_status.2.1 116 = .ok (.getfield 17, 3) := by decide +kernel
theorem de_M_status_119 : decode am_M_status.2.1 119 = .ok (.iload_n 3, 1) := by decide +kernel
theorem de_M_status_120 : decode am_M_status.2.1 120 = .ok (.iaload, 1) := by decide +kernel
theorem de_M_status_121 : decode am_M_status.2.1 121 = .ok (.invokevirtual 101, 3) := by decide +kernel
theorem de_M_status_124 : decode am_M_status.2.1 124 = .ok (.iadd, 1) := by decide +kernel
theorem de_M_status_125 : decode am_M_status.2.1 125 = .ok (.istore_n 2, 1) := by decide +kernel
theorem de_M_status_126 : decode am_M_status.2.1 126 = .ok (.iinc 3 (1), 3) := by decide +kernel
theorem de_M_status_129 : decode am_M_status.2.1 129 = .ok (.goto (-22), 3) := by decide +kernel
theorem de_M_status_132 : decode am_M_status.2.1 132 = .ok (.iload_n 2, 1) := by decide +kernel
theorem de_M_status_133 : decode am_M_status.2.1 133 = .ok (.iconst 2, 1) := by decide +kernel
theorem de_M_status_134 : decode am_M_status.2.1 134 = .ok (.idiv, 1) := by decide +kernel
theorem de_M_status_135 : decode am_M_status.2.1 135 = .ok (.ireturn, 1) := by decide +kernel
theorem de_M_status_136 : decode am_M_status.2.1 136 = .ok (.aload_n 0, 1) := by decide +kernel
theorem de_M_status_137 : decode am_M_status.2.1 137 = .ok (.aload_n 0, 1) := by decide +kernel
theorem de_M_status_138 : decode am_M_status.2.1 138 = .ok (.getfield 171, 3) := by decide +kernel
theorem de_M_status_141 : decode am_M_status.2.1 141 = .ok (.aload_n 0, 1) := by decide +kernel
theorem de_M_status_142 : decode am_M_status.2.1 142 = .ok (.getfield 174, 3) := by decide +kernel
theorem de_M_status_145 : decode am_M_status.2.1 145 = .ok (.ior, 1) := by decide +kernel
theorem de_M_status_146 : decode am_M_status.2.1 146 = .ok (.invokevirtual 101, 3) := by decide +kernel
theorem de_M_status_149 : decode am_M_status.2.1 149 = .ok (.ireturn, 1) := by decide +kernel
theorem de_M_status_150 : decode am_M_status.2.1 150 = .ok (.aload_n 0, 1) := by decide +kernel
theorem de_M_status_151 : decode am_M_status.2.1 151 = .ok (.getfield 177, 3) := by decide +kernel
theorem de_M_status_154 : decode am_M_status.2.1 154 = .ok (.ireturn, 1) := by decide +kernel
theorem de_M_status_155 : decode am_M_status.2.1 155 = .ok (.aload_n 0, 1) := by decide +kernel
theorem de_M_status_156 : decode am_M_status.2.1 156 = .ok (.getfield 287, 3) := by decide +kernel
theorem de_M_status_159 : decode am_M_status.2.1 159 = .ok (.ireturn, 1) := by decide +kernel
theorem de_M_status_160 : decode am_M_status.2.1 160 = .ok (.iconst (-1), 1) := by decide +kernel
theorem de_M_status_161 : decode am_M_status.2.1 161 = .ok (.ireturn, 1) := by decide +kernel
