theorem de_W_init_0 : decode am_W_init.2.1 0 = .ok (.aload_n 0, 1) := by decide +kernel
theorem de_W_init_1 : decode am_W_init.2.1 1 = .ok (.invokespecial 1, 3) := by decide +kernel
theorem de_W_init_4 : decode am_W_init.2.1 4 = .ok (.aload_n 0, 1) := by decide +kernel
theorem de_W_init_5 : decode am_W_init.2.1 5 = .ok (.bipush (8), 2) := by decide +kernel
theorem de_W_init_7 : decode am_W_init.2.1 7 = .ok (.newarray .int, 2) := by decide +kernel
theorem de_W_init_9 : decode am_W_init.2.1 9 = .ok (.putfield 9, 3) := by decide +kernel
theorem de_W_init_12 : decode am_W_init.2.1 12 = .ok (.aload_n 0, 1) := by decide +kernel
theorem de_W_init_13 : decode am_W_init.2.1 13 = .ok (.bipush (8), 2) := by decide +kernel
theorem de_W_init_15 : decode am_W_init.2.1 15 = .ok (.newarray .int, 2) := by decide +kernel
theorem de_W_init_17 : decode am_W_init.2.1 17 = .ok (.putfield 13, 3) := by decide +kernel
theorem de_W_init_20 : decode am_W_init.2.1 20 = .ok (.aload_n 0, 1) := by decide +kernel
theorem de_W_init_21 : decode am_W_init.2.1 21 = .ok (.bipush (8), 2) := by decide +kernel
theorem de_W_init_23 : decode am_W_init.2.1 23 = .ok (.bipush (60), 2) := by decide +kernel
theorem de_W_init_25 : decode am_W_init.2.1 25 = .ok (.multianewarray 16 2, 4) := by decide +kernel
theorem de_W_init_29 : decode am_W_init.2.1 29 = .ok (.putfield 18, 3) := by decide +kernel
theorem de_W_init_32 : decode am_W_init.2.1 32 = .ok (.aload_n 0, 1) := by decide +kernel
theorem de_W_init_33 : decode am_W_init.2.1 33 = .ok (.bipush (8), 2) := by decide +kernel
theorem de_W_init_35 : decode am_W_init.2.1 35 = .ok (.anewarray 21, 3) := by decide +kernel
theorem de_W_init_38 : decode am_W_init.2.1 38 = .ok (.putfield 23, 3) := by decide +kernel
theorem de_W_init_41 : decode am_W_init.2.1 41 = .ok (.aload_n 0, 1) := by decide +kernel
theorem de_W_init_42 : decode am_W_init.2.1 42 = .ok (.iconst 0, 1) := by decide +kernel
theorem de_W_init_43 : decode am_W_init.2.1 43 = .ok (.putfield 27, 3) := by decide +kernel
theorem de_W_init_46 : decode am_W_init.2.1 46 = .ok (.aload_n 0, 1) := by decide +kernel
theorem de_W_init_47 : decode am_W_init.2.1 47 = .ok (.iconst (-1), 1) := by decide +kernel
theorem de_W_init_48 : decode am_W_init.2.1 48 = .ok (.putfield 31, 3) := by decide +kernel
theorem de_W_init_51 : decode am_W_init.2.1 51 = .ok (.aload_n 0, 1) := by decide +kernel
theorem de_W_init_52 : decode am_W_init.2.1 52 = .ok (.bipush (21), 2) := by decide +kernel
theorem de_W_init_54 : decode am_W_init.2.1 54 = .ok (.newarray .int, 2) := by decide +kernel
theorem de_W_init_56 : decode am_W_init.2.1 56 = .ok (.putfield 34, 3) := by decide +kernel
theorem de_W_init_59 : decode am_W_init.2.1 59 = .ok (.aload_n 0, 1) := by decide +kernel
theorem de_W_init_60 : decode am_W_init.2.1 60 = .ok (.new 37, 3) := by decide +kernel
theorem de_W_init_63 : decode am_W_init.2.1 63 = .ok (.dup, 1) := by decide +kernel
theorem de_W_init_64 : decode am_W_init.2.1 64 = .ok (.invokespecial 39, 3) := by decide +kernel
theorem de_W_init_67 : decode am_W_init.2.1 67 = .ok (.putfield 40, 3) := by decide +kernel
theorem de_W_init_70 : decode am_W_init.2.1 70 = .ok (.aload_n 0, 1) := by decide +kernel
theorem de_W_init_71 : decode am_W_init.2.1 71 = .ok (.aload_n 0, 1) := by decide +kernel
theorem de_W_init_72 : decode am_W_init.2.1 72 = .ok (.getfield 40, 3) := by decide +kernel
theorem de_W_init_75 : decode am_W_init.2.1 75 = .ok (.getfield 44, 3) := by decide +kernel
theorem de_W_init_78 : decode am_W_init.2.1 78 = .ok (.putfield 48, 3) := by decide +kernel
theorem de_W_init_81 : decode am_W_init.2.1 81 = .ok (.aload_n 0, 1) := by decide +kernel
theorem de_W_init_82 : decode am_W_init.2.1 82 = .ok (.aload_n 0, 1) := by decide +kernel
theorem de_W_init_83 : decode am_W_init.2.1 83 = .ok (.getfield 48, 3) := by decide +kernel
theorem de_W_init_86 : decode am_W_init.2.1 86 = .ok (.getfield 49, 3) := by decide +kernel
theorem de_W_init_89 : decode am_W_init.2.1 89 = .ok (.putfield 55, 3) := by decide +kernel
theorem de_W_init_92 : decode am_W_init.2.1 92 = .ok (.aload_n 0, 1) := by decide +kernel
theorem de_W_init_93 : decode am_W_init.2.1 93 = .ok (.iconst 0, 1) := by decide +kernel
theorem de_W_init_94 : decode am_W_init.2.1 94 = .ok (.putfield 56, 3) := by decide +kernel
theorem de_W_init_97 : decode am_W_init.2.1 97 = .ok (.aload_n 0, 1) := by decide +kernel
theorem de_W_init_98 : decode am_W_init.2.1 98 = .ok (.bipush (8), 2) := by decide +kernel
theorem de_W_init_100 : decode am_W_init.2.1 100 = .ok (.newarray .int, 2) := by decide +kernel
theorem de_W_init_102 : decode am_W_init.2.1 102 = .ok (.putfield 59, 3) := by decide +kernel
theorem de_W_init_105 : decode am_W_init.2.1 105 = .ok (.aload_n 0, 1) := by decide +kernel
theorem de_W_init_106 : decode am_W_init.2.1 106 = .ok (.iconst 0, 1) := by decide +kernel
theorem de_W_init_107 : decode am_W_init.2.1 107 = .ok (.putfield 62, 3) := by decide +kernel
theorem de_W_init_110 : decode am_W_init.2.1 110 = .ok (.aload_n 0, 1) := by decide +kernel
theorem de_W_init_111 : decode am_W_init.2.1 111 = .ok (.bipush (36), 2) := by decide +kernel
theorem de_W_init_113 : decode am_W_init.2.1 113 = .ok (.newarray .int, 2) := by decide +kernel
theorem de_W_init_115 : decode am_W_init.2.1 115 = .ok (.putfield 66, 3) := by decide +kernel
theorem de_W_init_118 : decode am_W_init.2.1 118 = .ok (.aload_n 0, 1) := by decide +kernel
theorem de_W_init_119 : decode am_W_init.2.1 119 = .ok (.iconst 0, 1) := by decide +kernel
theorem de_W_init_120 : decode am_W_init.2.1 120 = .ok (.putfield 69, 3) := by decide +kernel
theorem de_W_init_123 : decode am_W_init.2.1 123 = .ok (.aload_n 0, 1) := by decide +kernel
theorem de_W_init_124 : decode am_W_init.2.1 124 = .ok (.iconst 0, 1) := by decide +kernel
theorem de_W_init_125 : decode am_W_init.2.1 125 = .ok (.putfield 72, 3) := by decide +kernel
theorem de_W_init_128 : decode am_W_init.2.1 128 = .ok (.aload_n 0, 1) := by decide +kernel
theorem de_W_init_129 : decode am_W_init.2.1 129 = .ok (.iconst 0, 1) := by decide +kernel
theorem de_W_init_130 : decode am_W_init.2.1 130 = .ok (.putfield 75, 3) := by decide +kernel
theorem de_W_init_133 : decode am_W_init.2.1 133 = .ok (.aload_n 0, 1) := by decide +kernel
theorem de_W_init_134 : decode am_W_init.2.1 134 = .ok (.getfield 9, 3) := by decide +kernel
theorem de_W_init_137 : decode am_W_init.2.1 137 = .ok (.iconst (-1), 1) := by decide +kernel
theorem de_W_init_138 : decode am_W_init.2.1 138 = .ok (.invokestatic 78, 3) := by decide +kernel
theorem de_W_init_141 : decode am_W_init.2.1 141 = .ok (.return_, 1) := by decide +kernel
theorem de_W_row_0 : decode am_W_row.2.1 0 = .ok (.iload_n 1, 1) := by decide +kernel
theorem de_W_row_1 : decode am_W_row.2.1 1 = .ok (.invokestatic 84, 3) := by decide +kernel
theorem de_W_row_4 : decode am_W_row.2.1 4 = .ok (.ifCond .ne (9), 3) := by decide +kernel
theorem de_W_row_7 : decode am_W_row.2.1 7 = .ok (.aload_n 0, 1) := by decide +kernel
theorem de_W_row_8 : decode am_W_row.2.1 8 = .ok (.iconst (-1), 1) := by decide +kernel
theorem de_W_row_9 : decode am_W_row.2.1 9 = .ok (.invokevirtual 88, 3) := by decide +kernel
theorem de_W_row_12 : decode am_W_row.2.1 12 = .ok (.ireturn, 1) := by decide +kernel
theorem de_W_row_13 : decode am_W_row.2.1 13 = .ok (.iload_n 3, 1) := by decide +kernel
theorem de_W_row_14 : decode am_W_row.2.1 14 = .ok (.ifCond .ge (10), 3) := by decide +kernel
theorem de_W_row_17 : decode am_W_row.2.1 17 = .ok (.aload_n 0, 1) := by decide +kernel
theorem de_W_row_18 : decode am_W_row.2.1 18 = .ok (.bipush (-4), 2) := by decide +kernel
theorem de_W_row_20 : decode am_W_row.2.1 20 = .ok (.invokevirtual 88, 3) := by decide +kernel
theorem de_W_row_23 : decode am_W_row.2.1 23 = .ok (.ireturn, 1) := by decide +kernel
theorem de_W_row_24 : decode am_W_row.2.1 24 = .ok (.iload_n 2, 1) := by decide +kernel
theorem de_W_row_25 : decode am_W_row.2.1 25 = .ok (.ifCond .lt (8), 3) := by decide +kernel
theorem de_W_row_28 : decode am_W_row.2.1 28 = .ok (.iload_n 2, 1) := by decide +kernel
theorem de_W_row_29 : decode am_W_row.2.1 29 = .ok (.iconst 4, 1) := by decide +kernel
theorem de_W_row_30 : decode am_W_row.2.1 30 = .ok (.if_icmp .lt (10), 3) := by decide +kernel
theorem de_W_row_33 : decode am_W_row.2.1 33 = .ok (.aload_n 0, 1) := by decide +kernel
theorem de_W_row_34 : decode am_W_row.2.1 34 = .ok (.bipush (-6), 2) := by decide +kernel
theorem de_W_row_36 : decode am_W_row.2.1 36 = .ok (.invokevirtual 88, 3) := by decide +kernel
theorem de_W_row_39 : decode am_W_row.2.1 39 = .ok (.ireturn, 1) := by decide +kernel
theorem de_W_row_40 : decode am_W_row.2.1 40 = .ok (.iload_n 3, 1) := by decide +kernel
theorem de_W_row_41 : decode am_W_row.2.1 41 = .ok (.bipush (60), 2) := by decide +kernel
theorem de_W_row_43 : decode am_W_row.2.1 43 = .ok (.if_icmp .le (10), 3) := by decide +kernel
theorem de_W_row_46 : decode am_W_row.2.1 46 = .ok (.aload_n 0, 1) := by decide +kernel
theorem de_W_row_47 : decode am_W_row.2.1 47 = .ok (.bipush (-7), 2) := by decide +kernel
theorem de_W_row_49 : decode am_W_row.2.1 49 = .ok (.invokevirtual 88, 3) := by decide +kernel
theorem de_W_row_52 : decode am_W_row.2.1 52 = .ok (.ireturn, 1) := by decide +kernel
theorem de_W_row_53 : decode am_W_row.2.1 53 = .ok (.aload_n 0, 1) := by decide +kernel
theorem de_W_row_54 : decode am_W_row.2.1 54 = .ok (.getfield 9, 3) := by decide +kernel
theorem de_W_row_57 : decode am_W_row.2.1 57 = .ok (.iload_n 1, 1) := by decide +kernel
theorem de_W_row_58 : decode am_W_row.2.1 58 = .ok (.bipush (100), 2) := by decide +kernel
theorem de_W_row_60 : decode am_W_row.2.1 60 = .ok (.iload_n 2, 1) := by decide +kernel
theorem de_W_row_61 : decode am_W_row.2.1 61 = .ok (.iadd, 1) := by decide +kernel
theorem de_W_row_62 : decode am_W_row.2.1 62 = .ok (.iastore, 1) := by decide +kernel
theorem de_W_row_63 : decode am_W_row.2.1 63 = .ok (.aload_n 0, 1) := by decide +kernel
theorem de_W_row_64 : decode am_W_row.2.1 64 = .ok (.getfield 13, 3) := by decide +kernel
theorem de_W_row_67 : decode am_W_row.2.1 67 = .ok (.iload_n 1, 1) := by decide +kernel
theorem de_W_row_68 : decode am_W_row.2.1 68 = .ok (.iload_n 3, 1) := by decide +kernel
theorem de_W_row_69 : decode am_W_row.2.1 69 = .ok (.iastore, 1) := by decide +kernel
theorem de_W_row_70 : decode am_W_row.2.1 70 = .ok (.aload_n 0, 1) := by decide +kernel
theorem de_W_row_71 : decode am_W_row.2.1 71 = .ok (.getfield 18, 3) := by decide +kernel
theorem de_W_row_74 : decode am_W_row.2.1 74 = .ok (.iload_n 1, 1) := by decide +kernel
theorem de_W_row_75 : decode am_W_row.2.1 75 = .ok (.aaload, 1) := by decide +kernel
theorem de_W_row_76 : decode am_W_row.2.1 76 = .ok (.lconst 0, 1) := by decide +kernel
theorem de_W_row_77 : decode am_W_row.2.1 77 = .ok (.invokestatic 92, 3) := by decide +kernel
theorem de_W_row_80 : decode am_W_row.2.1 80 = .ok (.iconst 1, 1) := by decide +kernel
theorem de_W_row_81 : decode am_W_row.2.1 81 = .ok (.ireturn, 1) := by decide +kernel
theorem de_W_set_0 : decode am_W_set.2.1 0 = .ok (.aload_n 0, 1) := by decide +kernel
theorem de_W_set_1 : decode am_W_set.2.1 1 = .ok (.iload_n 1, 1) := by decide +kernel
theorem de_W_set_2 : decode am_W_set.2.1 2 = .ok (.invokevirtual 95, 3) := by decide +kernel
theorem de_W_set_5 : decode am_W_set.2.1 5 = .ok (.istore 5, 2) := by decide +kernel
theorem de_W_set_7 : decode am_W_set.2.1 7 = .ok (.iload 5, 2) := by decide +kernel
theorem de_W_set_9 : decode am_W_set.2.1 9 = .ok (.ifCond .eq (10), 3) := by decide +kernel
theorem de_W_set_12 : decode am_W_set.2.1 12 = .ok (.aload_n 0, 1) := by decide +kernel
theorem de_W_set_13 : decode am_W_set.2.1 13 = .ok (.iload 5, 2) := by decide +kernel
theorem de_W_set_15 : decode am_W_set.2.1 15 = .ok (.invokevirtual 88, 3) := by decide +kernel
theorem de_W_set_18 : decode am_W_set.2.1 18 = .ok (.ireturn, 1) := by decide +kernel
theorem de_W_set_19 : decode am_W_set.2.1 19 = .ok (.iload_n 2, 1) := by decide +kernel
theorem de_W_set_20 : decode am_W_set.2.1 20 = .ok (.ifCond .lt (13), 3) := by decide +kernel
theorem de_W_set_23 : decode am_W_set.2.1 23 = .ok (.iload_n 2, 1) := by decide +kernel
theorem de_W_set_24 : decode am_W_set.2.1 24 = .ok (.aload_n 0, 1) := by decide +kernel
theorem de_W_set_25 : decode am_W_set.2.1 25 = .ok (.getfield 13, 3) := by decide +kernel
theorem de_W_set_28 : decode am_W_set.2.1 28 = .ok (.iload_n 1, 1) := by decide +kernel
theorem de_W_set_29 : decode am_W_set.2.1 29 = .ok (.iaload, 1) := by decide +kernel
theorem de_W_set_30 : decode am_W_set.2.1 30 = .ok (.if_icmp .lt (10), 3) := by decide +kernel
theorem de_W_set_33 : decode am_W_set.2.1 33 = .ok (.aload_n 0, 1) := by decide +kernel
theorem de_W_set_34 : decode am_W_set.2.1 34 = .ok (.bipush (-5), 2) := by decide +kernel
theorem de_W_set_36 : decode am_W_set.2.1 36 = .ok (.invokevirtual 88, 3) := by decide +kernel
theorem de_W_set_39 : decode am_W_set.2.1 39 = .ok (.ireturn, 1) := by decide +kernel
theorem de_W_set_40 : decode am_W_set.2.1 40 = .ok (.aload_n 0, 1) := by decide +kernel
theorem de_W_set_41 : decode am_W_set.2.1 41 = .ok (.getfield 18, 3) := by decide +kernel
theorem de_W_set_44 : decode am_W_set.2.1 44 = .ok (.iload_n 1, 1) := by decide +kernel
theorem de_W_set_45 : decode am_W_set.2.1 45 = .ok (.aaload, 1) := by decide +kernel
theorem de_W_set_46 : decode am_W_set.2.1 46 = .ok (.iload_n 2, 1) := by decide +kernel
theorem de_W_set_47 : decode am_W_set.2.1 47 = .ok (.aload_n 0, 1) := by decide +kernel
theorem de_W_set_48 : decode am_W_set.2.1 48 = .ok (.getfield 9, 3) := by decide +kernel
theorem de_W_set_51 : decode am_W_set.2.1 51 = .ok (.iload_n 1, 1) := by decide +kernel
theorem de_W_set_52 : decode am_W_set.2.1 52 = .ok (.iaload, 1) := by decide +kernel
theorem de_W_set_53 : decode am_W_set.2.1 53 = .ok (.bipush (100), 2) := by decide +kernel
theorem de_W_set_55 : decode am_W_set.2.1 55 = .ok (.isub, 1) := by decide +kernel
theorem de_W_set_56 : decode am_W_set.2.1 56 = .ok (.lload_n 3, 1) := by decide +kernel
theorem de_W_set_57 : decode am_W_set.2.1 57 = .ok (.invokestatic 98, 3) := by decide +kernel
theorem de_W_set_60 : decode am_W_set.2.1 60 = .ok (.lastore, 1) := by decide +kernel
theorem de_W_set_61 : decode am_W_set.2.1 61 = .ok (.iconst 1, 1) := by decide +kernel
theorem de_W_set_62 : decode am_W_set.2.1 62 = .ok (.ireturn, 1) := by decide +kernel
theorem de_W_copy_0 : decode am_W_copy.2.1 0 = .ok (.aload_n 0, 1) := by decide +kernel
theorem de_W_copy_1 : decode am_W_copy.2.1 1 = .ok (.iload_n 1, 1) := by decide +kernel
theorem de_W_copy_2 : decode am_W_copy.2.1 2 = .ok (.iload_n 2, 1) := by decide +kernel
theorem de_W_copy_3 : decode am_W_copy.2.1 3 = .ok (.invokevirtual 102, 3) := by decide +kernel
theorem de_W_copy_6 : decode am_W_copy.2.1 6 = .ok (.istore 6, 2) := by decide +kernel
theorem de_W_copy_8 : decode am_W_copy.2.1 8 = .ok (.iload 6, 2) := by decide +kernel
theorem de_W_copy_10 : decode am_W_copy.2.1 10 = .ok (.ifCond .ne (22), 3) := by decide +kernel
theorem de_W_copy_13 : decode am_W_copy.2.1 13 = .ok (.aload_n 0, 1) := by decide +kernel
theorem de_W_copy_14 : decode am_W_copy.2.1 14 = .ok (.getfield 9, 3) := by decide +kernel
theorem de_W_copy_17 : decode am_W_copy.2.1 17 = .ok (.iload_n 1, 1) := by decide +kernel
theorem de_W_copy_18 : decode am_W_copy.2.1 18 = .ok (.iaload, 1) := by decide +kernel
theorem de_W_copy_19 : decode am_W_copy.2.1 19 = .ok (.aload_n 0, 1) := by decide +kernel
theorem de_W_copy_20 : decode am_W_copy.2.1 20 = .ok (.getfield 9, 3) := by decide +kernel
theorem de_W_copy_23 : decode am_W_copy.2.1 23 = .ok (.iload_n 2, 1) := by decide +kernel
theorem de_W_copy_24 : decode am_W_copy.2.1 24 = .ok (.iaload, 1) := by decide +kernel
theorem de_W_copy_25 : decode am_W_copy.2.1 25 = .ok (.if_icmp .eq (7), 3) := by decide +kernel
theorem de_W_copy_28 : decode am_W_copy.2.1 28 = .ok (.bipush (-2), 2) := by decide +kernel
theorem de_W_copy_30 : decode am_W_copy.2.1 30 = .ok (.istore 6, 2) := by decide +kernel
theorem de_W_copy_32 : decode am_W_copy.2.1 32 = .ok (.iload 6, 2) := by decide +kernel
theorem de_W_copy_34 : decode am_W_copy.2.1 34 = .ok (.ifCond .eq (10), 3) := by decide +kernel
theorem de_W_copy_37 : decode am_W_copy.2.1 37 = .ok (.aload_n 0, 1) := by decide +kernel
theorem de_W_copy_38 : decode am_W_copy.2.1 38 = .ok (.iload 6, 2) := by decide +kernel
theorem de_W_copy_40 : decode am_W_copy.2.1 40 = .ok (.invokevirtual 88, 3) := by decide +kernel
theorem de_W_copy_43 : decode am_W_copy.2.1 43 = .ok (.ireturn, 1) := by decide +kernel
theorem de_W_copy_44 : decode am_W_copy.2.1 44 = .ok (.iload 5, 2) := by decide +kernel
theorem de_W_copy_46 : decode am_W_copy.2.1 46 = .ok (.ifCond .ge (10), 3) := by decide +kernel
theorem de_W_copy_49 : decode am_W_copy.2.1 49 = .ok (.aload_n 0, 1) := by decide +kernel
theorem de_W_copy_50 : decode am_W_copy.2.1 50 = .ok (.bipush (-4), 2) := by decide +kernel
theorem de_W_copy_52 : decode am_W_copy.2.1 52 = .ok (.invokevirtual 88, 3) := by decide +kernel
theorem de_W_copy_55 : decode am_W_copy.2.1 55 = .ok (.ireturn, 1) := by decide +kernel
theorem de_W_copy_56 : decode am_W_copy.2.1 56 = .ok (.iload_n 3, 1) := by decide +kernel
theorem de_W_copy_57 : decode am_W_copy.2.1 57 = .ok (.ifCond .lt (35), 3) := by decide +kernel
theorem de_W_copy_60 : decode am_W_copy.2.1 60 = .ok (.iload 4, 2) := by decide +kernel
theorem de_W_copy_62 : decode am_W_copy.2.1 62 = .ok (.ifCond .lt (30), 3) := by decide +kernel
theorem de_W_copy_65 : decode am_W_copy.2.1 65 = .ok (.iload_n 3, 1) := by decide +kernel
theorem de_W_copy_66 : decode am_W_copy.2.1 66 = .ok (.aload_n 0, 1) := by decide +kernel
theorem de_W_copy_67 : decode am_W_copy.2.1 67 = .ok (.getfield 13, 3) := by decide +kernel
theorem de_W_copy_70 : decode am_W_copy.2.1 70 = .ok (.iload_n 1, 1) := by decide +kernel
theorem de_W_copy_71 : decode am_W_copy.2.1 71 = .ok (.iaload, 1) := by decide +kernel
theorem de_W_copy_72 : decode am_W_copy.2.1 72 = .ok (.iload 5, 2) := by decide +kernel
theorem de_W_copy_74 : decode am_W_copy.2.1 74 = .ok (.isub, 1) := by decide +kernel
theorem de_W_copy_75 : decode am_W_copy.2.1 75 = .ok (.if_icmp .gt (17), 3) := by decide +kernel
theorem de_W_copy_78 : decode am_W_copy.2.1 78 = .ok (.iload 4, 2) := by decide +kernel
theorem de_W_copy_80 : decode am_W_copy.2.1 80 = .ok (.aload_n 0, 1) := by decide +kernel
theorem de_W_copy_81 : decode am_W_copy.2.1 81 = .ok (.getfield 13, 3) := by decide +kernel
theorem de_W_copy_84 : decode am_W_copy.2.1 84 = .ok (.iload_n 2, 1) := by decide +kernel
theorem de_W_copy_85 : decode am_W_copy.2.1 85 = .ok (.iaload, 1) := by decide +kernel
theorem de_W_copy_86 : decode am_W_copy.2.1 86 = .ok (.iload 5, 2) := by decide +kernel
theorem de_W_copy_88 : decode am_W_copy.2.1 88 = .ok (.isub, 1) := by decide +kernel
theorem de_W_copy_89 : decode am_W_copy.2.1 89 = .ok (.if_icmp .le (10), 3) := by decide +kernel
theorem de_W_copy_92 : decode am_W_copy.2.1 92 = .ok (.aload_n 0, 1) := by decide +kernel
theorem de_W_copy_93 : decode am_W_copy.2.1 93 = .ok (.bipush (-5), 2) := by decide +kernel
theorem de_W_copy_95 : decode am_W_copy.2.1 95 = .ok (.invokevirtual 88, 3) := by decide +kernel
theorem de_W_copy_98 : decode am_W_copy.2.1 98 = .ok (.ireturn, 1) := by decide +kernel
theorem de_W_copy_99 : decode am_W_copy.2.1 99 = .ok (.aload_n 0, 1) := by decide +kernel
theorem de_W_copy_100 : decode am_W_copy.2.1 100 = .ok (.getfield 18, 3) := by decide +kernel
theorem de_W_copy_103 : decode am_W_copy.2.1 103 = .ok (.iload_n 1, 1) := by decide +kernel
theorem de_W_copy_104 : decode am_W_copy.2.1 104 = .ok (.aaload, 1) := by decide +kernel
theorem de_W_copy_105 : decode am_W_copy.2.1 105 = .ok (.iload_n 3, 1) := by decide +kernel
theorem de_W_copy_106 : decode am_W_copy.2.1 106 = .ok (.aload_n 0, 1) := by decide +kernel
theorem de_W_copy_107 : decode am_W_copy.2.1 107 = .ok (.getfield 18, 3) := by decide +kernel
theorem de_W_copy_110 : decode am_W_copy.2.1 110 = .ok (.iload_n 2, 1) := by decide +kernel
theorem de_W_copy_111 : decode am_W_copy.2.1 111 = .ok (.aaload, 1) := by decide +kernel
theorem de_W_copy_112 : decode am_W_copy.2.1 112 = .ok (.iload 4, 2) := by decide +kernel
theorem de_W_copy_114 : decode am_W_copy.2.1 114 = .ok (.iload 5, 2) := by decide +kernel
theorem de_W_copy_116 : decode am_W_copy.2.1 116 = .ok (.invokestatic 106, 3) := by decide +kernel
theorem de_W_copy_119 : decode am_W_copy.2.1 119 = .ok (.iconst 1, 1) := by decide +kernel
theorem de_W_copy_120 : decode am_W_copy.2.1 120 = .ok (.ireturn, 1) := by decide +kernel
theorem de_W_element_0 : decode am_W_element.2.1 0 = .ok (.aload_n 0, 1) := by decide +kernel
theorem de_W_element_1 : decode am_W_element.2.1 1 = .ok (.iload_n 1, 1) := by decide +kernel
theorem de_W_element_2 : decode am_W_element.2.1 2 = .ok (.invokevirtual 95, 3) := by decide +kernel
theorem de_W_element_5 : decode am_W_element.2.1 5 = .ok (.ifCond .ne (17), 3) := by decide +kernel
theorem de_W_element_8 : decode am_W_element.2.1 8 = .ok (.iload_n 2, 1) := by decide +kernel
theorem de_W_element_9 : decode am_W_element.2.1 9 = .ok (.ifCond .lt (13), 3) := by decide +kernel
theorem de_W_element_12 : decode am_W_element.2.1 12 = .ok (.iload_n 2, 1) := by decide +kernel
theorem de_W_element_13 : decode am_W_element.2.1 13 = .ok (.aload_n 0, 1) := by decide +kernel
theorem de_W_element_14 : decode am_W_element.2.1 14 = .ok (.getfield 13, 3) := by decide +kernel
theorem de_W_element_17 : decode am_W_element.2.1 17 = .ok (.iload_n 1, 1) := by decide +kernel
theorem de_W_element_18 : decode am_W_element.2.1 18 = .ok (.iaload, 1) := by decide +kernel
theorem de_W_element_19 : decode am_W_element.2.1 19 = .ok (.if_icmp .lt (5), 3) := by decide +kernel
theorem de_W_element_22 : decode am_W_element.2.1 22 = .ok (.lconst 0, 1) := by decide +kernel
theorem de_W_element_23 : decode am_W_element.2.1 23 = .ok (.lreturn, 1) := by decide +kernel
theorem de_W_element_24 : decode am_W_element.2.1 24 = .ok (.aload_n 0, 1) := by decide +kernel
theorem de_W_element_25 : decode am_W_element.2.1 25 = .ok (.getfield 18, 3) := by decide +kernel
theorem de_W_element_28 : decode am_W_element.2.1 28 = .ok (.iload_n 1, 1) := by decide +kernel
theorem de_W_element_29 : decode am_W_element.2.1 29 = .ok (.aaload, 1) := by decide +kernel
theorem de_W_element_30 : decode am_W_element.2.1 30 = .ok (.iload_n 2, 1) := by decide +kernel
theorem de_W_element_31 : decode am_W_element.2.1 31 = .ok (.laload, 1) := by decide +kernel
theorem de_W_element_32 : decode am_W_element.2.1 32 = .ok (.lreturn, 1) := by decide +kernel
theorem de_W_show_0 : decode am_W_show.2.1 0 = .ok (.iload_n 1, 1) := by decide +kernel
theorem de_W_show_1 : decode am_W_show.2.1 1 = .ok (.invokestatic 84, 3) := by decide +kernel
theorem de_W_show_4 : decode am_W_show.2.1 4 = .ok (.ifCond .eq (16), 3) := by decide +kernel
theorem de_W_show_7 : decode am_W_show.2.1 7 = .ok (.iload_n 2, 1) := by decide +kernel
theorem de_W_show_8 : decode am_W_show.2.1 8 = .ok (.iconst (-1), 1) := by decide +kernel
theorem de_W_show_9 : decode am_W_show.2.1 9 = .ok (.if_icmp .eq (17), 3) := by decide +kernel
theorem de_W_show_12 : decode am_W_show.2.1 12 = .ok (.aload_n 0, 1) := by decide +kernel
theorem de_W_show_13 : decode am_W_show.2.1 13 = .ok (.iload_n 2, 1) := by decide +kernel
theorem de_W_show_14 : decode am_W_show.2.1 14 = .ok (.invokevirtual 112, 3) := by decide +kernel
theorem de_W_show_17 : decode am_W_show.2.1 17 = .ok (.ifCond .ne (9), 3) := by decide +kernel
theorem de_W_show_20 : decode am_W_show.2.1 20 = .ok (.aload_n 0, 1) := by decide +kernel
theorem de_W_show_21 : decode am_W_show.2.1 21 = .ok (.iconst (-1), 1) := by decide +kernel
theorem de_W_show_22 : decode am_W_show.2.1 22 = .ok (.invokevirtual 88, 3) := by decide +kernel
theorem de_W_show_25 : decode am_W_show.2.1 25 = .ok (.ireturn, 1) := by decide +kernel
theorem de_W_show_26 : decode am_W_show.2.1 26 = .ok (.aload_n 0, 1) := by decide +kernel
theorem de_W_show_27 : decode am_W_show.2.1 27 = .ok (.getfield 9, 3) := by decide +kernel
theorem de_W_show_30 : decode am_W_show.2.1 30 = .ok (.iload_n 1, 1) := by decide +kernel
theorem de_W_show_31 : decode am_W_show.2.1 31 = .ok (.iload_n 2, 1) := by decide +kernel
theorem de_W_show_32 : decode am_W_show.2.1 32 = .ok (.iastore, 1) := by decide +kernel
theorem de_W_show_33 : decode am_W_show.2.1 33 = .ok (.iload_n 2, 1) := by decide +kernel
theorem de_W_show_34 : decode am_W_show.2.1 34 = .ok (.iconst (-1), 1) := by decide +kernel
theorem de_W_show_35 : decode am_W_show.2.1 35 = .ok (.if_icmp .ne (7), 3) := by decide +kernel
theorem de_W_show_38 : decode am_W_show.2.1 38 = .ok (.iconst 0, 1) := by decide +kernel
theorem de_W_show_39 : decode am_W_show.2.1 39 = .ok (.goto (4), 3) := by decide +kernel
theorem de_W_show_42 : decode am_W_show.2.1 42 = .ok (.iconst 1, 1) := by decide +kernel
theorem de_W_show_43 : decode am_W_show.2.1 43 = .ok (.ireturn, 1) := by decide +kernel
theorem de_W_holds_0 : decode am_W_holds.2.1 0 = .ok (.iload_n 1, 1) := by decide +kernel
theorem de_W_holds_1 : decode am_W_holds.2.1 1 = .ok (.invokestatic 84, 3) := by decide +kernel
theorem de_W_holds_4 : decode am_W_holds.2.1 4 = .ok (.ifCond .eq (12), 3) := by decide +kernel
theorem de_W_holds_7 : decode am_W_holds.2.1 7 = .ok (.aload_n 0, 1) := by decide +kernel
theorem de_W_holds_8 : decode am_W_holds.2.1 8 = .ok (.getfield 9, 3) := by decide +kernel
theorem de_W_holds_11 : decode am_W_holds.2.1 11 = .ok (.iload_n 1, 1) := by decide +kernel
theorem de_W_holds_12 : decode am_W_holds.2.1 12 = .ok (.iaload, 1) := by decide +kernel
theorem de_W_holds_13 : decode am_W_holds.2.1 13 = .ok (.goto (4), 3) := by decide +kernel
theorem de_W_holds_16 : decode am_W_holds.2.1 16 = .ok (.iconst (-1), 1) := by decide +kernel
theorem de_W_holds_17 : decode am_W_holds.2.1 17 = .ok (.ireturn, 1) := by decide +kernel
theorem de_W_says_0 : decode am_W_says.2.1 0 = .ok (.iload_n 1, 1) := by decide +kernel
theorem de_W_says_1 : decode am_W_says.2.1 1 = .ok (.invokestatic 84, 3) := by decide +kernel
theorem de_W_says_4 : decode am_W_says.2.1 4 = .ok (.ifCond .eq (13), 3) := by decide +kernel
theorem de_W_says_7 : decode am_W_says.2.1 7 = .ok (.iload_n 2, 1) := by decide +kernel
theorem de_W_says_8 : decode am_W_says.2.1 8 = .ok (.ifCond .lt (9), 3) := by decide +kernel
theorem de_W_says_11 : decode am_W_says.2.1 11 = .ok (.iload_n 2, 1) := by decide +kernel
theorem de_W_says_12 : decode am_W_says.2.1 12 = .ok (.bipush (7), 2) := by decide +kernel
theorem de_W_says_14 : decode am_W_says.2.1 14 = .ok (.if_icmp .le (9), 3) := by decide +kernel
theorem de_W_says_17 : decode am_W_says.2.1 17 = .ok (.aload_n 0, 1) := by decide +kernel
theorem de_W_says_18 : decode am_W_says.2.1 18 = .ok (.iconst (-1), 1) := by decide +kernel
theorem de_W_says_19 : decode am_W_says.2.1 19 = .ok (.invokevirtual 88, 3) := by decide +kernel
theorem de_W_says_22 : decode am_W_says.2.1 22 = .ok (.ireturn, 1) := by decide +kernel
theorem de_W_says_23 : decode am_W_says.2.1 23 = .ok (.aload_n 0, 1) := by decide +kernel
theorem de_W_says_24 : decode am_W_says.2.1 24 = .ok (.getfield 9, 3) := by decide +kernel
theorem de_W_says_27 : decode am_W_says.2.1 27 = .ok (.iload_n 1, 1) := by decide +kernel
theorem de_W_says_28 : decode am_W_says.2.1 28 = .ok (.iaload, 1) := by decide +kernel
theorem de_W_says_29 : decode am_W_says.2.1 29 = .ok (.iconst (-1), 1) := by decide +kernel
theorem de_W_says_30 : decode am_W_says.2.1 30 = .ok (.if_icmp .ne (10), 3) := by decide +kernel
theorem de_W_says_33 : decode am_W_says.2.1 33 = .ok (.aload_n 0, 1) := by decide +kernel
theorem de_W_says_34 : decode am_W_says.2.1 34 = .ok (.bipush (-3), 2) := by decide +kernel
theorem de_W_says_36 : decode am_W_says.2.1 36 = .ok (.invokevirtual 88, 3) := by decide +kernel
theorem de_W_says_39 : decode am_W_says.2.1 39 = .ok (.ireturn, 1) := by decide +kernel
theorem de_W_says_40 : decode am_W_says.2.1 40 = .ok (.aload_n 0, 1) := by decide +kernel
theorem de_W_says_41 : decode am_W_says.2.1 41 = .ok (.aload_n 0, 1) := by decide +kernel
theorem de_W_says_42 : decode am_W_says.2.1 42 = .ok (.getfield 9, 3) := by decide +kernel
theorem de_W_says_45 : decode am_W_says.2.1 45 = .ok (.iload_n 1, 1) := by decide +kernel
theorem de_W_says_46 : decode am_W_says.2.1 46 = .ok (.iaload, 1) := by decide +kernel
theorem de_W_says_47 : decode am_W_says.2.1 47 = .ok (.invokevirtual 115, 3) := by decide +kernel
theorem de_W_says_50 : decode am_W_says.2.1 50 = .ok (.astore_n 3, 1) := by decide +kernel
theorem de_W_says_51 : decode am_W_says.2.1 51 = .ok (.aload_n 3, 1) := by decide +kernel
theorem de_W_says_52 : decode am_W_says.2.1 52 = .ok (.ifnull (11), 3) := by decide +kernel
theorem de_W_says_55 : decode am_W_says.2.1 55 = .ok (.aload_n 3, 1) := by decide +kernel
theorem de_W_says_56 : decode am_W_says.2.1 56 = .ok (.iload_n 2, 1) := by decide +kernel
theorem de_W_says_57 : decode am_W_says.2.1 57 = .ok (.invokevirtual 119, 3) := by decide +kernel
theorem de_W_says_60 : decode am_W_says.2.1 60 = .ok (.ifCond .ne (10), 3) := by decide +kernel
theorem de_W_says_63 : decode am_W_says.2.1 63 = .ok (.aload_n 0, 1) := by decide +kernel
theorem de_W_says_64 : decode am_W_says.2.1 64 = .ok (.bipush (-2), 2) := by decide +kernel
theorem de_W_says_66 : decode am_W_says.2.1 66 = .ok (.invokevirtual 88, 3) := by decide +kernel
theorem de_W_says_69 : decode am_W_says.2.1 69 = .ok (.ireturn, 1) := by decide +kernel
theorem de_W_says_70 : decode am_W_says.2.1 70 = .ok (.aload_n 3, 1) := by decide +kernel
theorem de_W_says_71 : decode am_W_says.2.1 71 = .ok (.iload_n 2, 1) := by decide +kernel
theorem de_W_says_72 : decode am_W_says.2.1 72 = .ok (.invokevirtual 122, 3) := by decide +kernel
theorem de_W_says_75 : decode am_W_says.2.1 75 = .ok (.ireturn, 1) := by decide +kernel
theorem de_W_isShelf_0 : decode am_W_isShelf.2.1 0 = .ok (.iload_n 0, 1) := by decide +kernel
theorem de_W_isShelf_1 : decode am_W_isShelf.2.1 1 = .ok (.ifCond .lt (13), 3) := by decide +kernel
theorem de_W_isShelf_4 : decode am_W_isShelf.2.1 4 = .ok (.iload_n 0, 1) := by decide +kernel
theorem de_W_isShelf_5 : decode am_W_isShelf.2.1 5 = .ok (.bipush (8), 2) := by decide +kernel
theorem de_W_isShelf_7 : decode am_W_isShelf.2.1 7 = .ok (.if_icmp .ge (7), 3) := by decide +kernel
theorem de_W_isShelf_10 : decode am_W_isShelf.2.1 10 = .ok (.iconst 1, 1) := by decide +kernel
theorem de_W_isShelf_11 : decode am_W_isShelf.2.1 11 = .ok (.goto (4), 3) := by decide +kernel
theorem de_W_isShelf_14 : decode am_W_isShelf.2.1 14 = .ok (.iconst 0, 1) := by decide +kernel
theorem de_W_isShelf_15 : decode am_W_isShelf.2.1 15 = .ok (.ireturn, 1) := by decide +kernel
theorem de_W_rowRefusal_0 : decode am_W_rowRefusal.2.1 0 = .ok (.iload_n 1, 1) := by decide +kernel
theorem de_W_rowRefusal_1 : decode am_W_rowRefusal.2.1 1 = .ok (.invokestatic 84, 3) := by decide +kernel
theorem de_W_rowRefusal_4 : decode am_W_rowRefusal.2.1 4 = .ok (.ifCond .ne (5), 3) := by decide +kernel
theorem de_W_rowRefusal_7 : decode am_W_rowRefusal.2.1 7 = .ok (.iconst (-1), 1) := by decide +kernel
theorem de_W_rowRefusal_8 : decode am_W_rowRefusal.2.1 8 = .ok (.ireturn, 1) := by decide +kernel
theorem de_W_rowRefusal_9 : decode am_W_rowRefusal.2.1 9 = .ok (.aload_n 0, 1) := by decide +kernel
theorem de_W_rowRefusal_10 : decode am_W_rowRefusal.2.1 10 = .ok (.getfield 9, 3) := by decide +kernel
theorem de_W_rowRefusal_13 : decode am_W_rowRefusal.2.1 13 = .ok (.iload_n 1, 1) := by decide +kernel
theorem de_W_rowRefusal_14 : decode am_W_rowRefusal.2.1 14 = .ok (.iaload, 1) := by decide +kernel
theorem de_W_rowRefusal_15 : decode am_W_rowRefusal.2.1 15 = .ok (.iconst (-1), 1) := by decide +kernel
theorem de_W_rowRefusal_16 : decode am_W_rowRefusal.2.1 16 = .ok (.if_icmp .ne (6), 3) := by decide +kernel
theorem de_W_rowRefusal_19 : decode am_W_rowRefusal.2.1 19 = .ok (.bipush (-3), 2) := by decide +kernel
theorem de_W_rowRefusal_21 : decode am_W_rowRefusal.2.1 21 = .ok (.ireturn, 1) := by decide +kernel
theorem de_W_rowRefusal_22 : decode am_W_rowRefusal.2.1 22 = .ok (.aload_n 0, 1) := by decide +kernel
theorem de_W_rowRefusal_23 : decode am_W_rowRefusal.2.1 23 = .ok (.getfield 9, 3) := by decide +kernel
theorem de_W_rowRefusal_26 : decode am_W_rowRefusal.2.1 26 = .ok (.iload_n 1, 1) := by decide +kernel
theorem de_W_rowRefusal_27 : decode am_W_rowRefusal.2.1 27 = .ok (.iaload, 1) := by decide +kernel
theorem de_W_rowRefusal_28 : decode am_W_rowRefusal.2.1 28 = .ok (.bipush (100), 2) := by decide +kernel
theorem de_W_rowRefusal_30 : decode am_W_rowRefusal.2.1 30 = .ok (.if_icmp .ge (8), 3) := by decide +kernel
theorem de_W_rowRefusal_33 : decode am_W_rowRefusal.2.1 33 = .ok (.bipush (-2), 2) := by decide +kernel
theorem de_W_rowRefusal_35 : decode am_W_rowRefusal.2.1 35 = .ok (.goto (4), 3) := by decide +kernel
theorem de_W_rowRefusal_38 : decode am_W_rowRefusal.2.1 38 = .ok (.iconst 0, 1) := by decide +kernel
theorem de_W_rowRefusal_39 : decode am_W_rowRefusal.2.1 39 = .ok (.ireturn, 1) := by decide +kernel
theorem de_W_twoRowsRefusal_0 : decode am_W_twoRowsRefusal.2.1 0 = .ok (.aload_n 0, 1) := by decide +kernel
theorem de_W_twoRowsRefusal_1 : decode am_W_twoRowsRefusal.2.1 1 = .ok (.iload_n 1, 1) := by decide +kernel
theorem de_W_twoRowsRefusal_2 : decode am_W_twoRowsRefusal.2.1 2 = .ok (.invokevirtual 95, 3) := by decide +kernel
theorem de_W_twoRowsRefusal_5 : decode am_W_twoRowsRefusal.2.1 5 = .ok (.istore_n 3, 1) := by decide +kernel
theorem de_W_twoRowsRefusal_6 : decode am_W_twoRowsRefusal.2.1 6 = .ok (.aload_n 0, 1) := by decide +kernel
theorem de_W_twoRowsRefusal_7 : decode am_W_twoRowsRefusal.2.1 7 = .ok (.iload_n 2, 1) := by decide +kernel
theorem de_W_twoRowsRefusal_8 : decode am_W_twoRowsRefusal.2.1 8 = .ok (.invokevirtual 95, 3) := by decide +kernel
theorem de_W_twoRowsRefusal_11 : decode am_W_twoRowsRefusal.2.1 11 = .ok (.istore 4, 2) := by decide +kernel
theorem de_W_twoRowsRefusal_13 : decode am_W_twoRowsRefusal.2.1 13 = .ok (.iload_n 3, 1) := by decide +kernel
theorem de_W_twoRowsRefusal_14 : decode am_W_twoRowsRefusal.2.1 14 = .ok (.ifCond .eq (8), 3) := by decide +kernel
theorem de_W_twoRowsRefusal_17 : decode am_W_twoRowsRefusal.2.1 17 = .ok (.iload 4, 2) := by decide +kernel
theorem de_W_twoRowsRefusal_19 : decode am_W_twoRowsRefusal.2.1 19 = .ok (.ifCond .ne (8), 3) := by decide +kernel
theorem de_W_twoRowsRefusal_22 : decode am_W_twoRowsRefusal.2.1 22 = .ok (.iload_n 3, 1) := by decide +kernel
theorem de_W_twoRowsRefusal_23 : decode am_W_twoRowsRefusal.2.1 23 = .ok (.iload 4, 2) := by decide +kernel
theorem de_W_twoRowsRefusal_25 : decode am_W_twoRowsRefusal.2.1 25 = .ok (.iadd, 1) := by decide +kernel
theorem de_W_twoRowsRefusal_26 : decode am_W_twoRowsRefusal.2.1 26 = .ok (.ireturn, 1) := by decide +kernel
theorem de_W_twoRowsRefusal_27 : decode am_W_twoRowsRefusal.2.1 27 = .ok (.iload_n 3, 1) := by decide +kernel
theorem de_W_twoRowsRefusal_28 : decode am_W_twoRowsRefusal.2.1 28 = .ok (.iload 4, 2) := by decide +kernel
theorem de_W_twoRowsRefusal_30 : decode am_W_twoRowsRefusal.2.1 30 = .ok (.invokestatic 125, 3) := by decide +kernel
theorem de_W_twoRowsRefusal_33 : decode am_W_twoRowsRefusal.2.1 33 = .ok (.ireturn, 1) := by decide +kernel
theorem de_W_lowestBits_0 : decode am_W_lowestBits.2.1 0 = .ok (.iload_n 0, 1) := by decide +kernel
theorem de_W_lowestBits_1 : decode am_W_lowestBits.2.1 1 = .ok (.tableswitch (41) 0 2 #[27, 32, 37], 27) := by decide +kernel
theorem de_W_lowestBits_28 : decode am_W_lowestBits.2.1 28 = .ok (.lload_n 1, 1) := by decide +kernel
theorem de_W_lowestBits_29 : decode am_W_lowestBits.2.1 29 = .ok (.l2i, 1) := by decide +kernel
theorem de_W_lowestBits_30 : decode am_W_lowestBits.2.1 30 = .ok (.i2b, 1) := by decide +kernel
theorem de_W_lowestBits_31 : decode am_W_lowestBits.2.1 31 = .ok (.i2l, 1) := by decide +kernel
theorem de_W_lowestBits_32 : decode am_W_lowestBits.2.1 32 = .ok (.lreturn, 1) := by decide +kernel
theorem de_W_lowestBits_33 : decode am_W_lowestBits.2.1 33 = .ok (.lload_n 1, 1) := by decide +kernel
theorem de_W_lowestBits_34 : decode am_W_lowestBits.2.1 34 = .ok (.l2i, 1) := by decide +kernel
theorem de_W_lowestBits_35 : decode am_W_lowestBits.2.1 35 = .ok (.i2s, 1) := by decide +kernel
theorem de_W_lowestBits_36 : decode am_W_lowestBits.2.1 36 = .ok (.i2l, 1) := by decide +kernel
theorem de_W_lowestBits_37 : decode am_W_lowestBits.2.1 37 = .ok (.lreturn, 1) := by decide +kernel
theorem de_W_lowestBits_38 : decode am_W_lowestBits.2.1 38 = .ok (.lload_n 1, 1) := by decide +kernel
theorem de_W_lowestBits_39 : decode am_W_lowestBits.2.1 39 = .ok (.l2i, 1) := by decide +kernel
theorem de_W_lowestBits_40 : decode am_W_lowestBits.2.1 40 = .ok (.i2l, 1) := by decide +kernel
theorem de_W_lowestBits_41 : decode am_W_lowestBits.2.1 41 = .ok (.lreturn, 1) := by decide +kernel
theorem de_W_lowestBits_42 : decode am_W_lowestBits.2.1 42 = .ok (.lload_n 1, 1) := by decide +kernel
theorem de_W_lowestBits_43 : decode am_W_lowestBits.2.1 43 = .ok (.lreturn, 1) := by decide +kernel
theorem de_W_asInt_0 : decode am_W_asInt.2.1 0 = .ok (.aload_n 0, 1) := by decide +kernel
theorem de_W_asInt_1 : decode am_W_asInt.2.1 1 = .ok (.getfield 18, 3) := by decide +kernel
theorem de_W_asInt_4 : decode am_W_asInt.2.1 4 = .ok (.iload_n 1, 1) := by decide +kernel
theorem de_W_asInt_5 : decode am_W_asInt.2.1 5 = .ok (.aaload, 1) := by decide +kernel
theorem de_W_asInt_6 : decode am_W_asInt.2.1 6 = .ok (.iload_n 2, 1) := by decide +kernel
theorem de_W_asInt_7 : decode am_W_asInt.2.1 7 = .ok (.laload, 1) := by decide +kernel
theorem de_W_asInt_8 : decode am_W_asInt.2.1 8 = .ok (.l2i, 1) := by decide +kernel
theorem de_W_asInt_9 : decode am_W_asInt.2.1 9 = .ok (.ireturn, 1) := by decide +kernel
theorem de_W_tie_0 : decode am_W_tie.2.1 0 = .ok (.iload_n 1, 1) := by decide +kernel
theorem de_W_tie_1 : decode am_W_tie.2.1 1 = .ok (.invokestatic 130, 3) := by decide +kernel
theorem de_W_tie_4 : decode am_W_tie.2.1 4 = .ok (.ifCond .eq (17), 3) := by decide +kernel
theorem de_W_tie_7 : decode am_W_tie.2.1 7 = .ok (.iload_n 2, 1) := by decide +kernel
theorem de_W_tie_8 : decode am_W_tie.2.1 8 = .ok (.invokestatic 130, 3) := by decide +kernel
theorem de_W_tie_11 : decode am_W_tie.2.1 11 = .ok (.ifCond .eq (10), 3) := by decide +kernel
theorem de_W_tie_14 : decode am_W_tie.2.1 14 = .ok (.iload_n 3, 1) := by decide +kernel
theorem de_W_tie_15 : decode am_W_tie.2.1 15 = .ok (.invokestatic 133, 3) := by decide +kernel
theorem de_W_tie_18 : decode am_W_tie.2.1 18 = .ok (.ifCond .ne (9), 3) := by decide +kernel
theorem de_W_tie_21 : decode am_W_tie.2.1 21 = .ok (.aload_n 0, 1) := by decide +kernel
theorem de_W_tie_22 : decode am_W_tie.2.1 22 = .ok (.iconst (-1), 1) := by decide +kernel
theorem de_W_tie_23 : decode am_W_tie.2.1 23 = .ok (.invokevirtual 88, 3) := by decide +kernel
theorem de_W_tie_26 : decode am_W_tie.2.1 26 = .ok (.ireturn, 1) := by decide +kernel
theorem de_W_tie_27 : decode am_W_tie.2.1 27 = .ok (.iload_n 1, 1) := by decide +kernel
theorem de_W_tie_28 : decode am_W_tie.2.1 28 = .ok (.iload_n 2, 1) := by decide +kernel
theorem de_W_tie_29 : decode am_W_tie.2.1 29 = .ok (.if_icmp .ne (10), 3) := by decide +kernel
theorem de_W_tie_32 : decode am_W_tie.2.1 32 = .ok (.aload_n 0, 1) := by decide +kernel
theorem de_W_tie_33 : decode am_W_tie.2.1 33 = .ok (.bipush (-6), 2) := by decide +kernel
theorem de_W_tie_35 : decode am_W_tie.2.1 35 = .ok (.invokevirtual 88, 3) := by decide +kernel
theorem de_W_tie_38 : decode am_W_tie.2.1 38 = .ok (.ireturn, 1) := by decide +kernel
theorem de_W_tie_39 : decode am_W_tie.2.1 39 = .ok (.aload_n 0, 1) := by decide +kernel
theorem de_W_tie_40 : decode am_W_tie.2.1 40 = .ok (.getfield 55, 3) := by decide +kernel
theorem de_W_tie_43 : decode am_W_tie.2.1 43 = .ok (.iload_n 1, 1) := by decide +kernel
theorem de_W_tie_44 : decode am_W_tie.2.1 44 = .ok (.iload_n 2, 1) := by decide +kernel
theorem de_W_tie_45 : decode am_W_tie.2.1 45 = .ok (.iload_n 3, 1) := by decide +kernel
theorem de_W_tie_46 : decode am_W_tie.2.1 46 = .ok (.invokevirtual 136, 3) := by decide +kernel
theorem de_W_tie_49 : decode am_W_tie.2.1 49 = .ok (.iload 4, 2) := by decide +kernel
theorem de_W_tie_51 : decode am_W_tie.2.1 51 = .ok (.if_icmp .ne (5), 3) := by decide +kernel
theorem de_W_tie_54 : decode am_W_tie.2.1 54 = .ok (.iconst 0, 1) := by decide +kernel
theorem de_W_tie_55 : decode am_W_tie.2.1 55 = .ok (.ireturn, 1) := by decide +kernel
theorem de_W_tie_56 : decode am_W_tie.2.1 56 = .ok (.aload_n 0, 1) := by decide +kernel
theorem de_W_tie_57 : decode am_W_tie.2.1 57 = .ok (.getfield 55, 3) := by decide +kernel
theorem de_W_tie_60 : decode am_W_tie.2.1 60 = .ok (.iload_n 1, 1) := by decide +kernel
theorem de_W_tie_61 : decode am_W_tie.2.1 61 = .ok (.iload_n 2, 1) := by decide +kernel
theorem de_W_tie_62 : decode am_W_tie.2.1 62 = .ok (.iload_n 3, 1) := by decide +kernel
theorem de_W_tie_63 : decode am_W_tie.2.1 63 = .ok (.invokevirtual 142, 3) := by decide +kernel
theorem de_W_tie_66 : decode am_W_tie.2.1 66 = .ok (.aload_n 0, 1) := by decide +kernel
theorem de_W_tie_67 : decode am_W_tie.2.1 67 = .ok (.getfield 40, 3) := by decide +kernel
theorem de_W_tie_70 : decode am_W_tie.2.1 70 = .ok (.invokevirtual 146, 3) := by decide +kernel
theorem de_W_tie_73 : decode am_W_tie.2.1 73 = .ok (.iconst 1, 1) := by decide +kernel
theorem de_W_tie_74 : decode am_W_tie.2.1 74 = .ok (.ireturn, 1) := by decide +kernel
theorem de_W_tied_0 : decode am_W_tied.2.1 0 = .ok (.iload_n 1, 1) := by decide +kernel
theorem de_W_tied_1 : decode am_W_tied.2.1 1 = .ok (.invokestatic 130, 3) := by decide +kernel
theorem de_W_tied_4 : decode am_W_tied.2.1 4 = .ok (.ifCond .eq (10), 3) := by decide +kernel
theorem de_W_tied_7 : decode am_W_tied.2.1 7 = .ok (.iload_n 2, 1) := by decide +kernel
theorem de_W_tied_8 : decode am_W_tied.2.1 8 = .ok (.invokestatic 133, 3) := by decide +kernel
theorem de_W_tied_11 : decode am_W_tied.2.1 11 = .ok (.ifCond .ne (9), 3) := by decide +kernel
theorem de_W_tied_14 : decode am_W_tied.2.1 14 = .ok (.aload_n 0, 1) := by decide +kernel
theorem de_W_tied_15 : decode am_W_tied.2.1 15 = .ok (.iconst (-1), 1) := by decide +kernel
theorem de_W_tied_16 : decode am_W_tied.2.1 16 = .ok (.invokevirtual 88, 3) := by decide +kernel
theorem de_W_tied_19 : decode am_W_tied.2.1 19 = .ok (.ireturn, 1) := by decide +kernel
theorem de_W_tied_20 : decode am_W_tied.2.1 20 = .ok (.aload_n 0, 1) := by decide +kernel
theorem de_W_tied_21 : decode am_W_tied.2.1 21 = .ok (.getfield 55, 3) := by decide +kernel
theorem de_W_tied_24 : decode am_W_tied.2.1 24 = .ok (.iload_n 1, 1) := by decide +kernel
theorem de_W_tied_25 : decode am_W_tied.2.1 25 = .ok (.iload_n 2, 1) := by decide +kernel
theorem de_W_tied_26 : decode am_W_tied.2.1 26 = .ok (.invokevirtual 149, 3) := by decide +kernel
theorem de_W_tied_29 : decode am_W_tied.2.1 29 = .ok (.ireturn, 1) := by decide +kernel
theorem de_W_rule_0 : decode am_W_rule.2.1 0 = .ok (.aload_n 0, 1) := by decide +kernel
theorem de_W_rule_1 : decode am_W_rule.2.1 1 = .ok (.iload_n 1, 1) := by decide +kernel
theorem de_W_rule_2 : decode am_W_rule.2.1 2 = .ok (.invokevirtual 95, 3) := by decide +kernel
theorem de_W_rule_5 : decode am_W_rule.2.1 5 = .ok (.istore_n 2, 1) := by decide +kernel
theorem de_W_rule_6 : decode am_W_rule.2.1 6 = .ok (.iload_n 2, 1) := by decide +kernel
theorem de_W_rule_7 : decode am_W_rule.2.1 7 = .ok (.ifCond .eq (9), 3) := by decide +kernel
theorem de_W_rule_10 : decode am_W_rule.2.1 10 = .ok (.aload_n 0, 1) := by decide +kernel
theorem de_W_rule_11 : decode am_W_rule.2.1 11 = .ok (.iload_n 2, 1) := by decide +kernel
theorem de_W_rule_12 : decode am_W_rule.2.1 12 = .ok (.invokevirtual 88, 3) := by decide +kernel
theorem de_W_rule_15 : decode am_W_rule.2.1 15 = .ok (.ireturn, 1) := by decide +kernel
theorem de_W_rule_16 : decode am_W_rule.2.1 16 = .ok (.aload_n 0, 1) := by decide +kernel
theorem de_W_rule_17 : decode am_W_rule.2.1 17 = .ok (.getfield 18, 3) := by decide +kernel
theorem de_W_rule_20 : decode am_W_rule.2.1 20 = .ok (.iload_n 1, 1) := by decide +kernel
theorem de_W_rule_21 : decode am_W_rule.2.1 21 = .ok (.aaload, 1) := by decide +kernel
theorem de_W_rule_22 : decode am_W_rule.2.1 22 = .ok (.aload_n 0, 1) := by decide +kernel
theorem de_W_rule_23 : decode am_W_rule.2.1 23 = .ok (.getfield 13, 3) := by decide +kernel
theorem de_W_rule_26 : decode am_W_rule.2.1 26 = .ok (.iload_n 1, 1) := by decide +kernel
theorem de_W_rule_27 : decode am_W_rule.2.1 27 = .ok (.iaload, 1) := by decide +kernel
theorem de_W_rule_28 : decode am_W_rule.2.1 28 = .ok (.invokestatic 152, 3) := by decide +kernel
theorem de_W_rule_31 : decode am_W_rule.2.1 31 = .ok (.istore_n 3, 1) := by decide +kernel
theorem de_W_rule_32 : decode am_W_rule.2.1 32 = .ok (.aload_n 0, 1) := by decide +kernel
theorem de_W_rule_33 : decode am_W_rule.2.1 33 = .ok (.iload_n 3, 1) := by decide +kernel
theorem de_W_rule_34 : decode am_W_rule.2.1 34 = .ok (.ifCond .ge (9), 3) := by decide +kernel
theorem de_W_rule_37 : decode am_W_rule.2.1 37 = .ok (.iconst (-1), 1) := by decide +kernel
theorem de_W_rule_38 : decode am_W_rule.2.1 38 = .ok (.iload_n 3, 1) := by decide +kernel
theorem de_W_rule_39 : decode am_W_rule.2.1 39 = .ok (.isub, 1) := by decide +kernel
theorem de_W_rule_40 : decode am_W_rule.2.1 40 = .ok (.goto (4), 3) := by decide +kernel
theorem de_W_rule_43 : decode am_W_rule.2.1 43 = .ok (.iconst (-1), 1) := by decide +kernel
theorem de_W_rule_44 : decode am_W_rule.2.1 44 = .ok (.putfield 31, 3) := by decide +kernel
theorem de_W_rule_47 : decode am_W_rule.2.1 47 = .ok (.iload_n 3, 1) := by decide +kernel
theorem de_W_rule_48 : decode am_W_rule.2.1 48 = .ok (.ifCond .ge (10), 3) := by decide +kernel
theorem de_W_rule_51 : decode am_W_rule.2.1 51 = .ok (.aload_n 0, 1) := by decide +kernel
theorem de_W_rule_52 : decode am_W_rule.2.1 52 = .ok (.bipush (-6), 2) := by decide +kernel
theorem de_W_rule_54 : decode am_W_rule.2.1 54 = .ok (.invokevirtual 88, 3) := by decide +kernel
theorem de_W_rule_57 : decode am_W_rule.2.1 57 = .ok (.ireturn, 1) := by decide +kernel
theorem de_W_rule_58 : decode am_W_rule.2.1 58 = .ok (.aload_n 0, 1) := by decide +kernel
theorem de_W_rule_59 : decode am_W_rule.2.1 59 = .ok (.getfield 27, 3) := by decide +kernel
theorem de_W_rule_62 : decode am_W_rule.2.1 62 = .ok (.bipush (8), 2) := by decide +kernel
theorem de_W_rule_64 : decode am_W_rule.2.1 64 = .ok (.if_icmp .lt (10), 3) := by decide +kernel
theorem de_W_rule_67 : decode am_W_rule.2.1 67 = .ok (.aload_n 0, 1) := by decide +kernel
theorem de_W_rule_68 : decode am_W_rule.2.1 68 = .ok (.bipush (-7), 2) := by decide +kernel
theorem de_W_rule_70 : decode am_W_rule.2.1 70 = .ok (.invokevirtual 88, 3) := by decide +kernel
theorem de_W_rule_73 : decode am_W_rule.2.1 73 = .ok (.ireturn, 1) := by decide +kernel
theorem de_W_rule_74 : decode am_W_rule.2.1 74 = .ok (.aload_n 0, 1) := by decide +kernel
theorem de_W_rule_75 : decode am_W_rule.2.1 75 = .ok (.getfield 23, 3) := by decide +kernel
theorem de_W_rule_78 : decode am_W_rule.2.1 78 = .ok (.aload_n 0, 1) := by decide +kernel
theorem de_W_rule_79 : decode am_W_rule.2.1 79 = .ok (.getfield 27, 3) := by decide +kernel
theorem de_W_rule_82 : decode am_W_rule.2.1 82 = .ok (.new 21, 3) := by decide +kernel
theorem de_W_rule_85 : decode am_W_rule.2.1 85 = .ok (.dup, 1) := by decide +kernel
theorem de_W_rule_86 : decode am_W_rule.2.1 86 = .ok (.aload_n 0, 1) := by decide +kernel
theorem de_W_rule_87 : decode am_W_rule.2.1 87 = .ok (.getfield 27, 3) := by decide +kernel
theorem de_W_rule_90 : decode am_W_rule.2.1 90 = .ok (.iload_n 3, 1) := by decide +kernel
theorem de_W_rule_91 : decode am_W_rule.2.1 91 = .ok (.aload_n 0, 1) := by decide +kernel
theorem de_W_rule_92 : decode am_W_rule.2.1 92 = .ok (.getfield 34, 3) := by decide +kernel
theorem de_W_rule_95 : decode am_W_rule.2.1 95 = .ok (.invokespecial 156, 3) := by decide +kernel
theorem de_W_rule_98 : decode am_W_rule.2.1 98 = .ok (.aastore, 1) := by decide +kernel
theorem de_W_rule_99 : decode am_W_rule.2.1 99 = .ok (.aload_n 0, 1) := by decide +kernel
theorem de_W_rule_100 : decode am_W_rule.2.1 100 = .ok (.dup, 1) := by decide +kernel
theorem de_W_rule_101 : decode am_W_rule.2.1 101 = .ok (.getfield 27, 3) := by decide +kernel
theorem de_W_rule_104 : decode am_W_rule.2.1 104 = .ok (.iconst 1, 1) := by decide +kernel
theorem de_W_rule_105 : decode am_W_rule.2.1 105 = .ok (.iadd, 1) := by decide +kernel
theorem de_W_rule_106 : decode am_W_rule.2.1 106 = .ok (.putfield 27, 3) := by decide +kernel
theorem de_W_rule_109 : decode am_W_rule.2.1 109 = .ok (.aload_n 0, 1) := by decide +kernel
theorem de_W_rule_110 : decode am_W_rule.2.1 110 = .ok (.getfield 27, 3) := by decide +kernel
theorem de_W_rule_113 : decode am_W_rule.2.1 113 = .ok (.iconst 1, 1) := by decide +kernel
theorem de_W_rule_114 : decode am_W_rule.2.1 114 = .ok (.isub, 1) := by decide +kernel
theorem de_W_rule_115 : decode am_W_rule.2.1 115 = .ok (.ireturn, 1) := by decide +kernel
theorem de_W_fault_0 : decode am_W_fault.2.1 0 = .ok (.aload_n 0, 1) := by decide +kernel
theorem de_W_fault_1 : decode am_W_fault.2.1 1 = .ok (.getfield 31, 3) := by decide +kernel
theorem de_W_fault_4 : decode am_W_fault.2.1 4 = .ok (.ireturn, 1) := by decide +kernel
theorem de_W_ruleOf_0 : decode am_W_ruleOf.2.1 0 = .ok (.aload_n 0, 1) := by decide +kernel
theorem de_W_ruleOf_1 : decode am_W_ruleOf.2.1 1 = .ok (.iload_n 1, 1) := by decide +kernel
theorem de_W_ruleOf_2 : decode am_W_ruleOf.2.1 2 = .ok (.invokevirtual 115, 3) := by decide +kernel
theorem de_W_ruleOf_5 : decode am_W_ruleOf.2.1 5 = .ok (.astore_n 3, 1) := by decide +kernel
theorem de_W_ruleOf_6 : decode am_W_ruleOf.2.1 6 = .ok (.aload_n 3, 1) := by decide +kernel
theorem de_W_ruleOf_7 : decode am_W_ruleOf.2.1 7 = .ok (.ifnull (12), 3) := by decide +kernel
theorem de_W_ruleOf_10 : decode am_W_ruleOf.2.1 10 = .ok (.iload_n 2, 1) := by decide +kernel
theorem de_W_ruleOf_11 : decode am_W_ruleOf.2.1 11 = .ok (.ifCond .lt (8), 3) := by decide +kernel
theorem de_W_ruleOf_14 : decode am_W_ruleOf.2.1 14 = .ok (.iload_n 2, 1) := by decide +kernel
theorem de_W_ruleOf_15 : decode am_W_ruleOf.2.1 15 = .ok (.iconst 2, 1) := by decide +kernel
theorem de_W_ruleOf_16 : decode am_W_ruleOf.2.1 16 = .ok (.if_icmp .le (10), 3) := by decide +kernel
theorem de_W_ruleOf_19 : decode am_W_ruleOf.2.1 19 = .ok (.aload_n 0, 1) := by decide +kernel
theorem de_W_ruleOf_20 : decode am_W_ruleOf.2.1 20 = .ok (.bipush (-5), 2) := by decide +kernel
theorem de_W_ruleOf_22 : decode am_W_ruleOf.2.1 22 = .ok (.invokevirtual 88, 3) := by decide +kernel
theorem de_W_ruleOf_25 : decode am_W_ruleOf.2.1 25 = .ok (.ireturn, 1) := by decide +kernel
theorem de_W_ruleOf_26 : decode am_W_ruleOf.2.1 26 = .ok (.iload_n 2, 1) := by decide +kernel
theorem de_W_ruleOf_27 : decode am_W_ruleOf.2.1 27 = .ok (.ifCond .ne (8), 3) := by decide +kernel
theorem de_W_ruleOf_30 : decode am_W_ruleOf.2.1 30 = .ok (.aload_n 3, 1) := by decide +kernel
theorem de_W_ruleOf_31 : decode am_W_ruleOf.2.1 31 = .ok (.getfield 159, 3) := by decide +kernel
theorem de_W_ruleOf_34 : decode am_W_ruleOf.2.1 34 = .ok (.ireturn, 1) := by decide +kernel
theorem de_W_ruleOf_35 : decode am_W_ruleOf.2.1 35 = .ok (.iload_n 2, 1) := by decide +kernel
theorem de_W_ruleOf_36 : decode am_W_ruleOf.2.1 36 = .ok (.iconst 1, 1) := by decide +kernel
theorem de_W_ruleOf_37 : decode am_W_ruleOf.2.1 37 = .ok (.if_icmp .ne (10), 3) := by decide +kernel
theorem de_W_ruleOf_40 : decode am_W_ruleOf.2.1 40 = .ok (.aload_n 3, 1) := by decide +kernel
theorem de_W_ruleOf_41 : decode am_W_ruleOf.2.1 41 = .ok (.getfield 162, 3) := by decide +kernel
theorem de_W_ruleOf_44 : decode am_W_ruleOf.2.1 44 = .ok (.goto (7), 3) := by decide +kernel
theorem de_W_ruleOf_47 : decode am_W_ruleOf.2.1 47 = .ok (.aload_n 3, 1) := by decide +kernel
theorem de_W_ruleOf_48 : decode am_W_ruleOf.2.1 48 = .ok (.getfield 165, 3) := by decide +kernel
theorem de_W_ruleOf_51 : decode am_W_ruleOf.2.1 51 = .ok (.ireturn, 1) := by decide +kernel
theorem de_W_price_0 : decode am_W_price.2.1 0 = .ok (.iload_n 1, 1) := by decide +kernel
theorem de_W_price_1 : decode am_W_price.2.1 1 = .ok (.invokestatic 168, 3) := by decide +kernel
theorem de_W_price_4 : decode am_W_price.2.1 4 = .ok (.ifCond .eq (10), 3) := by decide +kernel
theorem de_W_price_7 : decode am_W_price.2.1 7 = .ok (.iload_n 1, 1) := by decide +kernel
theorem de_W_price_8 : decode am_W_price.2.1 8 = .ok (.invokestatic 171, 3) := by decide +kernel
theorem de_W_price_11 : decode am_W_price.2.1 11 = .ok (.goto (8), 3) := by decide +kernel
theorem de_W_price_14 : decode am_W_price.2.1 14 = .ok (.aload_n 0, 1) := by decide +kernel
theorem de_W_price_15 : decode am_W_price.2.1 15 = .ok (.iconst (-1), 1) := by decide +kernel
theorem de_W_price_16 : decode am_W_price.2.1 16 = .ok (.invokevirtual 88, 3) := by decide +kernel
theorem de_W_price_19 : decode am_W_price.2.1 19 = .ok (.ireturn, 1) := by decide +kernel
theorem de_W_isPoint_0 : decode am_W_isPoint.2.1 0 = .ok (.iload_n 0, 1) := by decide +kernel
theorem de_W_isPoint_1 : decode am_W_isPoint.2.1 1 = .ok (.ifCond .lt (13), 3) := by decide +kernel
theorem de_W_isPoint_4 : decode am_W_isPoint.2.1 4 = .ok (.iload_n 0, 1) := by decide +kernel
theorem de_W_isPoint_5 : decode am_W_isPoint.2.1 5 = .ok (.bipush (12), 2) := by decide +kernel
theorem de_W_isPoint_7 : decode am_W_isPoint.2.1 7 = .ok (.if_icmp .ge (7), 3) := by decide +kernel
theorem de_W_isPoint_10 : decode am_W_isPoint.2.1 10 = .ok (.iconst 1, 1) := by decide +kernel
theorem de_W_isPoint_11 : decode am_W_isPoint.2.1 11 = .ok (.goto (4), 3) := by decide +kernel
theorem de_W_isPoint_14 : decode am_W_isPoint.2.1 14 = .ok (.iconst 0, 1) := by decide +kernel
theorem de_W_isPoint_15 : decode am_W_isPoint.2.1 15 = .ok (.ireturn, 1) := by decide +kernel
theorem de_W_isTieKind_0 : decode am_W_isTieKind.2.1 0 = .ok (.iload_n 0, 1) := by decide +kernel
theorem de_W_isTieKind_1 : decode am_W_isTieKind.2.1 1 = .ok (.ifCond .lt (12), 3) := by decide +kernel
theorem de_W_isTieKind_4 : decode am_W_isTieKind.2.1 4 = .ok (.iload_n 0, 1) := by decide +kernel
theorem de_W_isTieKind_5 : decode am_W_isTieKind.2.1 5 = .ok (.iconst 3, 1) := by decide +kernel
theorem de_W_isTieKind_6 : decode am_W_isTieKind.2.1 6 = .ok (.if_icmp .ge (7), 3) := by decide +kernel
theorem de_W_isTieKind_9 : decode am_W_isTieKind.2.1 9 = .ok (.iconst 1, 1) := by decide +kernel
theorem de_W_isTieKind_10 : decode am_W_isTieKind.2.1 10 = .ok (.goto (4), 3) := by decide +kernel
theorem de_W_isTieKind_13 : decode am_W_isTieKind.2.1 13 = .ok (.iconst 0, 1) := by decide +kernel
theorem de_W_isTieKind_14 : decode am_W_isTieKind.2.1 14 = .ok (.ireturn, 1) := by decide +kernel
theorem de_W_isCode_0 : decode am_W_isCode.2.1 0 = .ok (.iload_n 0, 1) := by decide +kernel
theorem de_W_isCode_1 : decode am_W_isCode.2.1 1 = .ok (.iconst 1, 1) := by decide +kernel
theorem de_W_isCode_2 : decode am_W_isCode.2.1 2 = .ok (.if_icmp .lt (14), 3) := by decide +kernel
theorem de_W_isCode_5 : decode am_W_isCode.2.1 5 = .ok (.iload_n 0, 1) := by decide +kernel
theorem de_W_isCode_6 : decode am_W_isCode.2.1 6 = .ok (.sipush (4096), 3) := by decide +kernel
theorem de_W_isCode_9 : decode am_W_isCode.2.1 9 = .ok (.if_icmp .ge (7), 3) := by decide +kernel
theorem de_W_isCode_12 : decode am_W_isCode.2.1 12 = .ok (.iconst 1, 1) := by decide +kernel
theorem de_W_isCode_13 : decode am_W_isCode.2.1 13 = .ok (.goto (4), 3) := by decide +kernel
theorem de_W_isCode_16 : decode am_W_isCode.2.1 16 = .ok (.iconst 0, 1) := by decide +kernel
theorem de_W_isCode_17 : decode am_W_isCode.2.1 17 = .ok (.ireturn, 1) := by decide +kernel
theorem de_W_isRule_0 : decode am_W_isRule.2.1 0 = .ok (.iload_n 1, 1) := by decide +kernel
theorem de_W_isRule_1 : decode am_W_isRule.2.1 1 = .ok (.ifCond .lt (15), 3) := by decide +kernel
theorem de_W_isRule_4 : decode am_W_isRule.2.1 4 = .ok (.iload_n 1, 1) := by decide +kernel
theorem de_W_isRule_5 : decode am_W_isRule.2.1 5 = .ok (.aload_n 0, 1) := by decide +kernel
theorem de_W_isRule_6 : decode am_W_isRule.2.1 6 = .ok (.getfield 27, 3) := by decide +kernel
theorem de_W_isRule_9 : decode am_W_isRule.2.1 9 = .ok (.if_icmp .ge (7), 3) := by decide +kernel
theorem de_W_isRule_12 : decode am_W_isRule.2.1 12 = .ok (.iconst 1, 1) := by decide +kernel
theorem de_W_isRule_13 : decode am_W_isRule.2.1 13 = .ok (.goto (4), 3) := by decide +kernel
theorem de_W_isRule_16 : decode am_W_isRule.2.1 16 = .ok (.iconst 0, 1) := by decide +kernel
theorem de_W_isRule_17 : decode am_W_isRule.2.1 17 = .ok (.ireturn, 1) := by decide +kernel
theorem de_W_ruleAt_0 : decode am_W_ruleAt.2.1 0 = .ok (.aload_n 0, 1) := by decide +kernel
theorem de_W_ruleAt_1 : decode am_W_ruleAt.2.1 1 = .ok (.iload_n 1, 1) := by decide +kernel
theorem de_W_ruleAt_2 : decode am_W_ruleAt.2.1 2 = .ok (.invokevirtual 112, 3) := by decide +kernel
theorem de_W_ruleAt_5 : decode am_W_ruleAt.2.1 5 = .ok (.ifCond .eq (12), 3) := by decide +kernel
theorem de_W_ruleAt_8 : decode am_W_ruleAt.2.1 8 = .ok (.aload_n 0, 1) := by decide +kernel
theorem de_W_ruleAt_9 : decode am_W_ruleAt.2.1 9 = .ok (.getfield 23, 3) := by decide +kernel
theorem de_W_ruleAt_12 : decode am_W_ruleAt.2.1 12 = .ok (.iload_n 1, 1) := by decide +kernel
theorem de_W_ruleAt_13 : decode am_W_ruleAt.2.1 13 = .ok (.aaload, 1) := by decide +kernel
theorem de_W_ruleAt_14 : decode am_W_ruleAt.2.1 14 = .ok (.goto (4), 3) := by decide +kernel
theorem de_W_ruleAt_17 : decode am_W_ruleAt.2.1 17 = .ok (.aconst_null, 1) := by decide +kernel
theorem de_W_ruleAt_18 : decode am_W_ruleAt.2.1 18 = .ok (.areturn, 1) := by decide +kernel
theorem de_W_point_0 : decode am_W_point.2.1 0 = .ok (.iload_n 1, 1) := by decide +kernel
theorem de_W_point_1 : decode am_W_point.2.1 1 = .ok (.invokestatic 130, 3) := by decide +kernel
theorem de_W_point_4 : decode am_W_point.2.1 4 = .ok (.ifCond .ne (9), 3) := by decide +kernel
theorem de_W_point_7 : decode am_W_point.2.1 7 = .ok (.aload_n 0, 1) := by decide +kernel
theorem de_W_point_8 : decode am_W_point.2.1 8 = .ok (.iconst (-1), 1) := by decide +kernel
theorem de_W_point_9 : decode am_W_point.2.1 9 = .ok (.invokevirtual 88, 3) := by decide +kernel
theorem de_W_point_12 : decode am_W_point.2.1 12 = .ok (.ireturn, 1) := by decide +kernel
theorem de_W_point_13 : decode am_W_point.2.1 13 = .ok (.iload_n 2, 1) := by decide +kernel
theorem de_W_point_14 : decode am_W_point.2.1 14 = .ok (.ifCond .lt (8), 3) := by decide +kernel
theorem de_W_point_17 : decode am_W_point.2.1 17 = .ok (.iload_n 2, 1) := by decide +kernel
theorem de_W_point_18 : decode am_W_point.2.1 18 = .ok (.iconst 2, 1) := by decide +kernel
theorem de_W_point_19 : decode am_W_point.2.1 19 = .ok (.if_icmp .le (10), 3) := by decide +kernel
theorem de_W_point_22 : decode am_W_point.2.1 22 = .ok (.aload_n 0, 1) := by decide +kernel
theorem de_W_point_23 : decode am_W_point.2.1 23 = .ok (.bipush (-6), 2) := by decide +kernel
theorem de_W_point_25 : decode am_W_point.2.1 25 = .ok (.invokevirtual 88, 3) := by decide +kernel
theorem de_W_point_28 : decode am_W_point.2.1 28 = .ok (.ireturn, 1) := by decide +kernel
theorem de_W_point_29 : decode am_W_point.2.1 29 = .ok (.aload_n 0, 1) := by decide +kernel
theorem de_W_point_30 : decode am_W_point.2.1 30 = .ok (.getfield 56, 3) := by decide +kernel
theorem de_W_point_33 : decode am_W_point.2.1 33 = .ok (.iload_n 1, 1) := by decide +kernel
theorem de_W_point_34 : decode am_W_point.2.1 34 = .ok (.invokestatic 174, 3) := by decide +kernel
theorem de_W_point_37 : decode am_W_point.2.1 37 = .ok (.istore_n 3, 1) := by decide +kernel
theorem de_W_point_38 : decode am_W_point.2.1 38 = .ok (.aload_n 0, 1) := by decide +kernel
theorem de_W_point_39 : decode am_W_point.2.1 39 = .ok (.aload_n 0, 1) := by decide +kernel
theorem de_W_point_40 : decode am_W_point.2.1 40 = .ok (.getfield 56, 3) := by decide +kernel
theorem de_W_point_43 : decode am_W_point.2.1 43 = .ok (.iload_n 1, 1) := by decide +kernel
theorem de_W_point_44 : decode am_W_point.2.1 44 = .ok (.iload_n 2, 1) := by decide +kernel
theorem de_W_point_45 : decode am_W_point.2.1 45 = .ok (.invokestatic 177, 3) := by decide +kernel
theorem de_W_point_48 : decode am_W_point.2.1 48 = .ok (.putfield 56, 3) := by decide +kernel
theorem de_W_point_51 : decode am_W_point.2.1 51 = .ok (.iload_n 3, 1) := by decide +kernel
theorem de_W_point_52 : decode am_W_point.2.1 52 = .ok (.ireturn, 1) := by decide +kernel
theorem de_W_turn_0 : decode am_W_turn.2.1 0 = .ok (.iload_n 1, 1) := by decide +kernel
theorem de_W_turn_1 : decode am_W_turn.2.1 1 = .ok (.ifCond .lt (8), 3) := by decide +kernel
theorem de_W_turn_4 : decode am_W_turn.2.1 4 = .ok (.iload_n 1, 1) := by decide +kernel
theorem de_W_turn_5 : decode am_W_turn.2.1 5 = .ok (.iconst 1, 1) := by decide +kernel
theorem de_W_turn_6 : decode am_W_turn.2.1 6 = .ok (.if_icmp .le (10), 3) := by decide +kernel
theorem de_W_turn_9 : decode am_W_turn.2.1 9 = .ok (.aload_n 0, 1) := by decide +kernel
theorem de_W_turn_10 : decode am_W_turn.2.1 10 = .ok (.bipush (-6), 2) := by decide +kernel
theorem de_W_turn_12 : decode am_W_turn.2.1 12 = .ok (.invokevirtual 88, 3) := by decide +kernel
theorem de_W_turn_15 : decode am_W_turn.2.1 15 = .ok (.ireturn, 1) := by decide +kernel
theorem de_W_turn_16 : decode am_W_turn.2.1 16 = .ok (.aload_n 0, 1) := by decide +kernel
theorem de_W_turn_17 : decode am_W_turn.2.1 17 = .ok (.getfield 56, 3) := by decide +kernel
theorem de_W_turn_20 : decode am_W_turn.2.1 20 = .ok (.invokestatic 181, 3) := by decide +kernel
theorem de_W_turn_23 : decode am_W_turn.2.1 23 = .ok (.istore_n 2, 1) := by decide +kernel
theorem de_W_turn_24 : decode am_W_turn.2.1 24 = .ok (.iload_n 2, 1) := by decide +kernel
theorem de_W_turn_25 : decode am_W_turn.2.1 25 = .ok (.iload_n 1, 1) := by decide +kernel
theorem de_W_turn_26 : decode am_W_turn.2.1 26 = .ok (.if_icmp .eq (14), 3) := by decide +kernel
theorem de_W_turn_29 : decode am_W_turn.2.1 29 = .ok (.aload_n 0, 1) := by decide +kernel
theorem de_W_turn_30 : decode am_W_turn.2.1 30 = .ok (.aload_n 0, 1) := by decide +kernel
theorem de_W_turn_31 : decode am_W_turn.2.1 31 = .ok (.getfield 56, 3) := by decide +kernel
theorem de_W_turn_34 : decode am_W_turn.2.1 34 = .ok (.invokestatic 184, 3) := by decide +kernel
theorem de_W_turn_37 : decode am_W_turn.2.1 37 = .ok (.putfield 56, 3) := by decide +kernel
theorem de_W_turn_40 : decode am_W_turn.2.1 40 = .ok (.iload_n 2, 1) := by decide +kernel
theorem de_W_turn_41 : decode am_W_turn.2.1 41 = .ok (.ireturn, 1) := by decide +kernel
theorem de_W_moves_0 : decode am_W_moves.2.1 0 = .ok (.iload_n 1, 1) := by decide +kernel
theorem de_W_moves_1 : decode am_W_moves.2.1 1 = .ok (.invokestatic 168, 3) := by decide +kernel
theorem de_W_moves_4 : decode am_W_moves.2.1 4 = .ok (.ifCond .ne (9), 3) := by decide +kernel
theorem de_W_moves_7 : decode am_W_moves.2.1 7 = .ok (.aload_n 0, 1) := by decide +kernel
theorem de_W_moves_8 : decode am_W_moves.2.1 8 = .ok (.iconst (-1), 1) := by decide +kernel
theorem de_W_moves_9 : decode am_W_moves.2.1 9 = .ok (.invokevirtual 88, 3) := by decide +kernel
theorem de_W_moves_12 : decode am_W_moves.2.1 12 = .ok (.ireturn, 1) := by decide +kernel
theorem de_W_moves_13 : decode am_W_moves.2.1 13 = .ok (.aload_n 0, 1) := by decide +kernel
theorem de_W_moves_14 : decode am_W_moves.2.1 14 = .ok (.getfield 55, 3) := by decide +kernel
theorem de_W_moves_17 : decode am_W_moves.2.1 17 = .ok (.aload_n 0, 1) := by decide +kernel
theorem de_W_moves_18 : decode am_W_moves.2.1 18 = .ok (.getfield 56, 3) := by decide +kernel
theorem de_W_moves_21 : decode am_W_moves.2.1 21 = .ok (.aload_n 0, 1) := by decide +kernel
theorem de_W_moves_22 : decode am_W_moves.2.1 22 = .ok (.getfield 55, 3) := by decide +kernel
theorem de_W_moves_25 : decode am_W_moves.2.1 25 = .ok (.aload_n 0, 1) := by decide +kernel
theorem de_W_moves_26 : decode am_W_moves.2.1 26 = .ok (.getfield 56, 3) := by decide +kernel
theorem de_W_moves_29 : decode am_W_moves.2.1 29 = .ok (.iload_n 1, 1) := by decide +kernel
theorem de_W_moves_30 : decode am_W_moves.2.1 30 = .ok (.invokevirtual 187, 3) := by decide +kernel
theorem de_W_moves_33 : decode am_W_moves.2.1 33 = .ok (.invokevirtual 190, 3) := by decide +kernel
theorem de_W_moves_36 : decode am_W_moves.2.1 36 = .ok (.ireturn, 1) := by decide +kernel
theorem de_W_move_0 : decode am_W_move.2.1 0 = .ok (.iload_n 1, 1) := by decide +kernel
theorem de_W_move_1 : decode am_W_move.2.1 1 = .ok (.invokestatic 168, 3) := by decide +kernel
theorem de_W_move_4 : decode am_W_move.2.1 4 = .ok (.ifCond .ne (10), 3) := by decide +kernel
theorem de_W_move_7 : decode am_W_move.2.1 7 = .ok (.aload_n 0, 1) := by decide +kernel
theorem de_W_move_8 : decode am_W_move.2.1 8 = .ok (.bipush (-5), 2) := by decide +kernel
theorem de_W_move_10 : decode am_W_move.2.1 10 = .ok (.invokevirtual 88, 3) := by decide +kernel
theorem de_W_move_13 : decode am_W_move.2.1 13 = .ok (.ireturn, 1) := by decide +kernel
theorem de_W_move_14 : decode am_W_move.2.1 14 = .ok (.aload_n 0, 1) := by decide +kernel
theorem de_W_move_15 : decode am_W_move.2.1 15 = .ok (.getfield 55, 3) := by decide +kernel
theorem de_W_move_18 : decode am_W_move.2.1 18 = .ok (.aload_n 0, 1) := by decide +kernel
theorem de_W_move_19 : decode am_W_move.2.1 19 = .ok (.getfield 56, 3) := by decide +kernel
theorem de_W_move_22 : decode am_W_move.2.1 22 = .ok (.aload_n 0, 1) := by decide +kernel
theorem de_W_move_23 : decode am_W_move.2.1 23 = .ok (.getfield 55, 3) := by decide +kernel
theorem de_W_move_26 : decode am_W_move.2.1 26 = .ok (.aload_n 0, 1) := by decide +kernel
theorem de_W_move_27 : decode am_W_move.2.1 27 = .ok (.getfield 56, 3) := by decide +kernel
theorem de_W_move_30 : decode am_W_move.2.1 30 = .ok (.iload_n 1, 1) := by decide +kernel
theorem de_W_move_31 : decode am_W_move.2.1 31 = .ok (.invokevirtual 187, 3) := by decide +kernel
theorem de_W_move_34 : decode am_W_move.2.1 34 = .ok (.iload_n 2, 1) := by decide +kernel
theorem de_W_move_35 : decode am_W_move.2.1 35 = .ok (.invokevirtual 193, 3) := by decide +kernel
theorem de_W_move_38 : decode am_W_move.2.1 38 = .ok (.istore_n 3, 1) := by decide +kernel
theorem de_W_move_39 : decode am_W_move.2.1 39 = .ok (.iload_n 3, 1) := by decide +kernel
theorem de_W_move_40 : decode am_W_move.2.1 40 = .ok (.iconst (-1), 1) := by decide +kernel
theorem de_W_move_41 : decode am_W_move.2.1 41 = .ok (.if_icmp .ne (12), 3) := by decide +kernel
theorem de_W_move_44 : decode am_W_move.2.1 44 = .ok (.aload_n 0, 1) := by decide +kernel
theorem de_W_move_45 : decode am_W_move.2.1 45 = .ok (.bipush (-5), 2) := by decide +kernel
theorem de_W_move_47 : decode am_W_move.2.1 47 = .ok (.invokevirtual 88, 3) := by decide +kernel
theorem de_W_move_50 : decode am_W_move.2.1 50 = .ok (.goto (4), 3) := by decide +kernel
theorem de_W_move_53 : decode am_W_move.2.1 53 = .ok (.iload_n 3, 1) := by decide +kernel
theorem de_W_move_54 : decode am_W_move.2.1 54 = .ok (.ireturn, 1) := by decide +kernel
theorem de_W_over_0 : decode am_W_over.2.1 0 = .ok (.iload_n 1, 1) := by decide +kernel
theorem de_W_over_1 : decode am_W_over.2.1 1 = .ok (.invokestatic 168, 3) := by decide +kernel
theorem de_W_over_4 : decode am_W_over.2.1 4 = .ok (.ifCond .eq (18), 3) := by decide +kernel
theorem de_W_over_7 : decode am_W_over.2.1 7 = .ok (.aload_n 0, 1) := by decide +kernel
theorem de_W_over_8 : decode am_W_over.2.1 8 = .ok (.getfield 55, 3) := by decide +kernel
theorem de_W_over_11 : decode am_W_over.2.1 11 = .ok (.aload_n 0, 1) := by decide +kernel
theorem de_W_over_12 : decode am_W_over.2.1 12 = .ok (.getfield 56, 3) := by decide +kernel
theorem de_W_over_15 : decode am_W_over.2.1 15 = .ok (.iload_n 1, 1) := by decide +kernel
theorem de_W_over_16 : decode am_W_over.2.1 16 = .ok (.invokevirtual 196, 3) := by decide +kernel
theorem de_W_over_19 : decode am_W_over.2.1 19 = .ok (.goto (10), 3) := by decide +kernel
theorem de_W_over_22 : decode am_W_over.2.1 22 = .ok (.aload_n 0, 1) := by decide +kernel
theorem de_W_over_23 : decode am_W_over.2.1 23 = .ok (.iconst (-1), 1) := by decide +kernel
theorem de_W_over_24 : decode am_W_over.2.1 24 = .ok (.bipush (-11), 2) := by decide +kernel
theorem de_W_over_26 : decode am_W_over.2.1 26 = .ok (.invokevirtual 199, 3) := by decide +kernel
theorem de_W_over_29 : decode am_W_over.2.1 29 = .ok (.ireturn, 1) := by decide +kernel
theorem de_W_play_0 : decode am_W_play.2.1 0 = .ok (.iload_n 1, 1) := by decide +kernel
theorem de_W_play_1 : decode am_W_play.2.1 1 = .ok (.invokestatic 168, 3) := by decide +kernel
theorem de_W_play_4 : decode am_W_play.2.1 4 = .ok (.ifCond .ne (9), 3) := by decide +kernel
theorem de_W_play_7 : decode am_W_play.2.1 7 = .ok (.aload_n 0, 1) := by decide +kernel
theorem de_W_play_8 : decode am_W_play.2.1 8 = .ok (.iconst (-1), 1) := by decide +kernel
theorem de_W_play_9 : decode am_W_play.2.1 9 = .ok (.invokevirtual 88, 3) := by decide +kernel
theorem de_W_play_12 : decode am_W_play.2.1 12 = .ok (.ireturn, 1) := by decide +kernel
theorem de_W_play_13 : decode am_W_play.2.1 13 = .ok (.aload_n 0, 1) := by decide +kernel
theorem de_W_play_14 : decode am_W_play.2.1 14 = .ok (.getfield 55, 3) := by decide +kernel
theorem de_W_play_17 : decode am_W_play.2.1 17 = .ok (.aload_n 0, 1) := by decide +kernel
theorem de_W_play_18 : decode am_W_play.2.1 18 = .ok (.getfield 56, 3) := by decide +kernel
theorem de_W_play_21 : decode am_W_play.2.1 21 = .ok (.iload_n 1, 1) := by decide +kernel
theorem de_W_play_22 : decode am_W_play.2.1 22 = .ok (.invokevirtual 187, 3) := by decide +kernel
theorem de_W_play_25 : decode am_W_play.2.1 25 = .ok (.istore_n 3, 1) := by decide +kernel
theorem de_W_play_26 : decode am_W_play.2.1 26 = .ok (.iload_n 2, 1) := by decide +kernel
theorem de_W_play_27 : decode am_W_play.2.1 27 = .ok (.invokestatic 202, 3) := by decide +kernel
theorem de_W_play_30 : decode am_W_play.2.1 30 = .ok (.ifCond .eq (19), 3) := by decide +kernel
theorem de_W_play_33 : decode am_W_play.2.1 33 = .ok (.aload_n 0, 1) := by decide +kernel
theorem de_W_play_34 : decode am_W_play.2.1 34 = .ok (.getfield 55, 3) := by decide +kernel
theorem de_W_play_37 : decode am_W_play.2.1 37 = .ok (.aload_n 0, 1) := by decide +kernel
theorem de_W_play_38 : decode am_W_play.2.1 38 = .ok (.getfield 56, 3) := by decide +kernel
theorem de_W_play_41 : decode am_W_play.2.1 41 = .ok (.iload_n 3, 1) := by decide +kernel
theorem de_W_play_42 : decode am_W_play.2.1 42 = .ok (.iload_n 2, 1) := by decide +kernel
theorem de_W_play_43 : decode am_W_play.2.1 43 = .ok (.invokevirtual 205, 3) := by decide +kernel
theorem de_W_play_46 : decode am_W_play.2.1 46 = .ok (.ifCond .ne (10), 3) := by decide +kernel
theorem de_W_play_49 : decode am_W_play.2.1 49 = .ok (.aload_n 0, 1) := by decide +kernel
theorem de_W_play_50 : decode am_W_play.2.1 50 = .ok (.bipush (-6), 2) := by decide +kernel
theorem de_W_play_52 : decode am_W_play.2.1 52 = .ok (.invokevirtual 88, 3) := by decide +kernel
theorem de_W_play_55 : decode am_W_play.2.1 55 = .ok (.ireturn, 1) := by decide +kernel
theorem de_W_play_56 : decode am_W_play.2.1 56 = .ok (.aload_n 0, 1) := by decide +kernel
theorem de_W_play_57 : decode am_W_play.2.1 57 = .ok (.aload_n 0, 1) := by decide +kernel
theorem de_W_play_58 : decode am_W_play.2.1 58 = .ok (.getfield 55, 3) := by decide +kernel
theorem de_W_play_61 : decode am_W_play.2.1 61 = .ok (.aload_n 0, 1) := by decide +kernel
theorem de_W_play_62 : decode am_W_play.2.1 62 = .ok (.getfield 56, 3) := by decide +kernel
theorem de_W_play_65 : decode am_W_play.2.1 65 = .ok (.iload_n 3, 1) := by decide +kernel
theorem de_W_play_66 : decode am_W_play.2.1 66 = .ok (.iload_n 2, 1) := by decide +kernel
theorem de_W_play_67 : decode am_W_play.2.1 67 = .ok (.invokevirtual 208, 3) := by decide +kernel
theorem de_W_play_70 : decode am_W_play.2.1 70 = .ok (.putfield 56, 3) := by decide +kernel
theorem de_W_play_73 : decode am_W_play.2.1 73 = .ok (.aload_n 0, 1) := by decide +kernel
theorem de_W_play_74 : decode am_W_play.2.1 74 = .ok (.getfield 56, 3) := by decide +kernel
theorem de_W_play_77 : decode am_W_play.2.1 77 = .ok (.invokestatic 211, 3) := by decide +kernel
theorem de_W_play_80 : decode am_W_play.2.1 80 = .ok (.ireturn, 1) := by decide +kernel
theorem de_W_value_0 : decode am_W_value.2.1 0 = .ok (.iload_n 1, 1) := by decide +kernel
theorem de_W_value_1 : decode am_W_value.2.1 1 = .ok (.invokestatic 168, 3) := by decide +kernel
theorem de_W_value_4 : decode am_W_value.2.1 4 = .ok (.ifCond .ne (11), 3) := by decide +kernel
theorem de_W_value_7 : decode am_W_value.2.1 7 = .ok (.aload_n 0, 1) := by decide +kernel
theorem de_W_value_8 : decode am_W_value.2.1 8 = .ok (.iconst (-1), 1) := by decide +kernel
theorem de_W_value_9 : decode am_W_value.2.1 9 = .ok (.bipush (-11), 2) := by decide +kernel
theorem de_W_value_11 : decode am_W_value.2.1 11 = .ok (.invokevirtual 199, 3) := by decide +kernel
theorem de_W_value_14 : decode am_W_value.2.1 14 = .ok (.ireturn, 1) := by decide +kernel
theorem de_W_value_15 : decode am_W_value.2.1 15 = .ok (.iload_n 2, 1) := by decide +kernel
theorem de_W_value_16 : decode am_W_value.2.1 16 = .ok (.ifCond .lt (8), 3) := by decide +kernel
theorem de_W_value_19 : decode am_W_value.2.1 19 = .ok (.iload_n 2, 1) := by decide +kernel
theorem de_W_value_20 : decode am_W_value.2.1 20 = .ok (.iconst 3, 1) := by decide +kernel
theorem de_W_value_21 : decode am_W_value.2.1 21 = .ok (.if_icmp .le (12), 3) := by decide +kernel
theorem de_W_value_24 : decode am_W_value.2.1 24 = .ok (.aload_n 0, 1) := by decide +kernel
theorem de_W_value_25 : decode am_W_value.2.1 25 = .ok (.bipush (-6), 2) := by decide +kernel
theorem de_W_value_27 : decode am_W_value.2.1 27 = .ok (.bipush (-16), 2) := by decide +kernel
theorem de_W_value_29 : decode am_W_value.2.1 29 = .ok (.invokevirtual 199, 3) := by decide +kernel
theorem de_W_value_32 : decode am_W_value.2.1 32 = .ok (.ireturn, 1) := by decide +kernel
theorem de_W_value_33 : decode am_W_value.2.1 33 = .ok (.aload_n 0, 1) := by decide +kernel
theorem de_W_value_34 : decode am_W_value.2.1 34 = .ok (.getfield 55, 3) := by decide +kernel
theorem de_W_value_37 : decode am_W_value.2.1 37 = .ok (.aload_n 0, 1) := by decide +kernel
theorem de_W_value_38 : decode am_W_value.2.1 38 = .ok (.getfield 56, 3) := by decide +kernel
theorem de_W_value_41 : decode am_W_value.2.1 41 = .ok (.iload_n 1, 1) := by decide +kernel
theorem de_W_value_42 : decode am_W_value.2.1 42 = .ok (.iload_n 2, 1) := by decide +kernel
theorem de_W_value_43 : decode am_W_value.2.1 43 = .ok (.invokevirtual 214, 3) := by decide +kernel
theorem de_W_value_46 : decode am_W_value.2.1 46 = .ok (.ireturn, 1) := by decide +kernel
theorem de_W_best_0 : decode am_W_best.2.1 0 = .ok (.iload_n 1, 1) := by decide +kernel
theorem de_W_best_1 : decode am_W_best.2.1 1 = .ok (.invokestatic 168, 3) := by decide +kernel
theorem de_W_best_4 : decode am_W_best.2.1 4 = .ok (.ifCond .ne (11), 3) := by decide +kernel
theorem de_W_best_7 : decode am_W_best.2.1 7 = .ok (.aload_n 0, 1) := by decide +kernel
theorem de_W_best_8 : decode am_W_best.2.1 8 = .ok (.iconst (-1), 1) := by decide +kernel
theorem de_W_best_9 : decode am_W_best.2.1 9 = .ok (.bipush (-11), 2) := by decide +kernel
theorem de_W_best_11 : decode am_W_best.2.1 11 = .ok (.invokevirtual 199, 3) := by decide +kernel
theorem de_W_best_14 : decode am_W_best.2.1 14 = .ok (.ireturn, 1) := by decide +kernel
theorem de_W_best_15 : decode am_W_best.2.1 15 = .ok (.iload_n 2, 1) := by decide +kernel
theorem de_W_best_16 : decode am_W_best.2.1 16 = .ok (.iconst 1, 1) := by decide +kernel
theorem de_W_best_17 : decode am_W_best.2.1 17 = .ok (.if_icmp .lt (8), 3) := by decide +kernel
theorem de_W_best_20 : decode am_W_best.2.1 20 = .ok (.iload_n 2, 1) := by decide +kernel
theorem de_W_best_21 : decode am_W_best.2.1 21 = .ok (.iconst 3, 1) := by decide +kernel
theorem de_W_best_22 : decode am_W_best.2.1 22 = .ok (.if_icmp .le (12), 3) := by decide +kernel
theorem de_W_best_25 : decode am_W_best.2.1 25 = .ok (.aload_n 0, 1) := by decide +kernel
theorem de_W_best_26 : decode am_W_best.2.1 26 = .ok (.bipush (-6), 2) := by decide +kernel
theorem de_W_best_28 : decode am_W_best.2.1 28 = .ok (.bipush (-16), 2) := by decide +kernel
theorem de_W_best_30 : decode am_W_best.2.1 30 = .ok (.invokevirtual 199, 3) := by decide +kernel
theorem de_W_best_33 : decode am_W_best.2.1 33 = .ok (.ireturn, 1) := by decide +kernel
theorem de_W_best_34 : decode am_W_best.2.1 34 = .ok (.aload_n 0, 1) := by decide +kernel
theorem de_W_best_35 : decode am_W_best.2.1 35 = .ok (.getfield 55, 3) := by decide +kernel
theorem de_W_best_38 : decode am_W_best.2.1 38 = .ok (.aload_n 0, 1) := by decide +kernel
theorem de_W_best_39 : decode am_W_best.2.1 39 = .ok (.getfield 56, 3) := by decide +kernel
theorem de_W_best_42 : decode am_W_best.2.1 42 = .ok (.iload_n 1, 1) := by decide +kernel
theorem de_W_best_43 : decode am_W_best.2.1 43 = .ok (.iload_n 2, 1) := by decide +kernel
theorem de_W_best_44 : decode am_W_best.2.1 44 = .ok (.invokevirtual 217, 3) := by decide +kernel
theorem de_W_best_47 : decode am_W_best.2.1 47 = .ok (.ireturn, 1) := by decide +kernel
theorem de_W_game_0 : decode am_W_game.2.1 0 = .ok (.aload_n 0, 1) := by decide +kernel
theorem de_W_game_1 : decode am_W_game.2.1 1 = .ok (.iload_n 1, 1) := by decide +kernel
theorem de_W_game_2 : decode am_W_game.2.1 2 = .ok (.iload_n 2, 1) := by decide +kernel
theorem de_W_game_3 : decode am_W_game.2.1 3 = .ok (.invokevirtual 102, 3) := by decide +kernel
theorem de_W_game_6 : decode am_W_game.2.1 6 = .ok (.istore 5, 2) := by decide +kernel
theorem de_W_game_8 : decode am_W_game.2.1 8 = .ok (.iload 5, 2) := by decide +kernel
theorem de_W_game_10 : decode am_W_game.2.1 10 = .ok (.ifCond .eq (10), 3) := by decide +kernel
theorem de_W_game_13 : decode am_W_game.2.1 13 = .ok (.aload_n 0, 1) := by decide +kernel
theorem de_W_game_14 : decode am_W_game.2.1 14 = .ok (.iload 5, 2) := by decide +kernel
theorem de_W_game_16 : decode am_W_game.2.1 16 = .ok (.invokevirtual 88, 3) := by decide +kernel
theorem de_W_game_19 : decode am_W_game.2.1 19 = .ok (.ireturn, 1) := by decide +kernel
theorem de_W_game_20 : decode am_W_game.2.1 20 = .ok (.iload_n 3, 1) := by decide +kernel
theorem de_W_game_21 : decode am_W_game.2.1 21 = .ok (.ifCond .ge (10), 3) := by decide +kernel
theorem de_W_game_24 : decode am_W_game.2.1 24 = .ok (.aload_n 0, 1) := by decide +kernel
theorem de_W_game_25 : decode am_W_game.2.1 25 = .ok (.bipush (-4), 2) := by decide +kernel
theorem de_W_game_27 : decode am_W_game.2.1 27 = .ok (.invokevirtual 88, 3) := by decide +kernel
theorem de_W_game_30 : decode am_W_game.2.1 30 = .ok (.ireturn, 1) := by decide +kernel
theorem de_W_game_31 : decode am_W_game.2.1 31 = .ok (.aload_n 0, 1) := by decide +kernel
theorem de_W_game_32 : decode am_W_game.2.1 32 = .ok (.getfield 13, 3) := by decide +kernel
theorem de_W_game_35 : decode am_W_game.2.1 35 = .ok (.iload_n 1, 1) := by decide +kernel
theorem de_W_game_36 : decode am_W_game.2.1 36 = .ok (.iaload, 1) := by decide +kernel
theorem de_W_game_37 : decode am_W_game.2.1 37 = .ok (.bipush (12), 2) := by decide +kernel
theorem de_W_game_39 : decode am_W_game.2.1 39 = .ok (.if_icmp .lt (13), 3) := by decide +kernel
theorem de_W_game_42 : decode am_W_game.2.1 42 = .ok (.aload_n 0, 1) := by decide +kernel
theorem de_W_game_43 : decode am_W_game.2.1 43 = .ok (.getfield 13, 3) := by decide +kernel
theorem de_W_game_46 : decode am_W_game.2.1 46 = .ok (.iload_n 2, 1) := by decide +kernel
theorem de_W_game_47 : decode am_W_game.2.1 47 = .ok (.iaload, 1) := by decide +kernel
theorem de_W_game_48 : decode am_W_game.2.1 48 = .ok (.iload_n 3, 1) := by decide +kernel
theorem de_W_game_49 : decode am_W_game.2.1 49 = .ok (.if_icmp .ge (10), 3) := by decide +kernel
theorem de_W_game_52 : decode am_W_game.2.1 52 = .ok (.aload_n 0, 1) := by decide +kernel
theorem de_W_game_53 : decode am_W_game.2.1 53 = .ok (.bipush (-5), 2) := by decide +kernel
theorem de_W_game_55 : decode am_W_game.2.1 55 = .ok (.invokevirtual 88, 3) := by decide +kernel
theorem de_W_game_58 : decode am_W_game.2.1 58 = .ok (.ireturn, 1) := by decide +kernel
theorem de_W_game_59 : decode am_W_game.2.1 59 = .ok (.iload_n 3, 1) := by decide +kernel
theorem de_W_game_60 : decode am_W_game.2.1 60 = .ok (.bipush (20), 2) := by decide +kernel
theorem de_W_game_62 : decode am_W_game.2.1 62 = .ok (.if_icmp .gt (32), 3) := by decide +kernel
theorem de_W_game_65 : decode am_W_game.2.1 65 = .ok (.iload 4, 2) := by decide +kernel
theorem de_W_game_67 : decode am_W_game.2.1 67 = .ok (.iconst (-1), 1) := by decide +kernel
theorem de_W_game_68 : decode am_W_game.2.1 68 = .ok (.if_icmp .lt (26), 3) := by decide +kernel
theorem de_W_game_71 : decode am_W_game.2.1 71 = .ok (.iload 4, 2) := by decide +kernel
theorem de_W_game_73 : decode am_W_game.2.1 73 = .ok (.iconst 1, 1) := by decide +kernel
theorem de_W_game_74 : decode am_W_game.2.1 74 = .ok (.if_icmp .gt (20), 3) := by decide +kernel
theorem de_W_game_77 : decode am_W_game.2.1 77 = .ok (.aload_n 0, 1) := by decide +kernel
theorem de_W_game_78 : decode am_W_game.2.1 78 = .ok (.iload_n 1, 1) := by decide +kernel
theorem de_W_game_79 : decode am_W_game.2.1 79 = .ok (.invokevirtual 220, 3) := by decide +kernel
theorem de_W_game_82 : decode am_W_game.2.1 82 = .ok (.ifCond .eq (12), 3) := by decide +kernel
theorem de_W_game_85 : decode am_W_game.2.1 85 = .ok (.aload_n 0, 1) := by decide +kernel
theorem de_W_game_86 : decode am_W_game.2.1 86 = .ok (.iload_n 2, 1) := by decide +kernel
theorem de_W_game_87 : decode am_W_game.2.1 87 = .ok (.iload_n 3, 1) := by decide +kernel
theorem de_W_game_88 : decode am_W_game.2.1 88 = .ok (.invokevirtual 223, 3) := by decide +kernel
theorem de_W_game_91 : decode am_W_game.2.1 91 = .ok (.ifCond .ne (10), 3) := by decide +kernel
theorem de_W_game_94 : decode am_W_game.2.1 94 = .ok (.aload_n 0, 1) := by decide +kernel
theorem de_W_game_95 : decode am_W_game.2.1 95 = .ok (.bipush (-6), 2) := by decide +kernel
theorem de_W_game_97 : decode am_W_game.2.1 97 = .ok (.invokevirtual 88, 3) := by decide +kernel
theorem de_W_game_100 : decode am_W_game.2.1 100 = .ok (.ireturn, 1) := by decide +kernel
theorem de_W_game_101 : decode am_W_game.2.1 101 = .ok (.aload_n 0, 1) := by decide +kernel
theorem de_W_game_102 : decode am_W_game.2.1 102 = .ok (.getfield 48, 3) := by decide +kernel
theorem de_W_game_105 : decode am_W_game.2.1 105 = .ok (.getfield 227, 3) := by decide +kernel
theorem de_W_game_108 : decode am_W_game.2.1 108 = .ok (.bipush (6), 2) := by decide +kernel
theorem de_W_game_110 : decode am_W_game.2.1 110 = .ok (.if_icmp .lt (10), 3) := by decide +kernel
theorem de_W_game_113 : decode am_W_game.2.1 113 = .ok (.aload_n 0, 1) := by decide +kernel
theorem de_W_game_114 : decode am_W_game.2.1 114 = .ok (.bipush (-7), 2) := by decide +kernel
theorem de_W_game_116 : decode am_W_game.2.1 116 = .ok (.invokevirtual 88, 3) := by decide +kernel
theorem de_W_game_119 : decode am_W_game.2.1 119 = .ok (.ireturn, 1) := by decide +kernel
theorem de_W_game_120 : decode am_W_game.2.1 120 = .ok (.aload_n 0, 1) := by decide +kernel
theorem de_W_game_121 : decode am_W_game.2.1 121 = .ok (.getfield 40, 3) := by decide +kernel
theorem de_W_game_124 : decode am_W_game.2.1 124 = .ok (.invokevirtual 146, 3) := by decide +kernel
theorem de_W_game_127 : decode am_W_game.2.1 127 = .ok (.aload_n 0, 1) := by decide +kernel
theorem de_W_game_128 : decode am_W_game.2.1 128 = .ok (.getfield 48, 3) := by decide +kernel
theorem de_W_game_131 : decode am_W_game.2.1 131 = .ok (.aload_n 0, 1) := by decide +kernel
theorem de_W_game_132 : decode am_W_game.2.1 132 = .ok (.iload_n 1, 1) := by decide +kernel
theorem de_W_game_133 : decode am_W_game.2.1 133 = .ok (.invokevirtual 230, 3) := by decide +kernel
theorem de_W_game_136 : decode am_W_game.2.1 136 = .ok (.aload_n 0, 1) := by decide +kernel
theorem de_W_game_137 : decode am_W_game.2.1 137 = .ok (.getfield 18, 3) := by decide +kernel
theorem de_W_game_140 : decode am_W_game.2.1 140 = .ok (.iload_n 2, 1) := by decide +kernel
theorem de_W_game_141 : decode am_W_game.2.1 141 = .ok (.aaload, 1) := by decide +kernel
theorem de_W_game_142 : decode am_W_game.2.1 142 = .ok (.iload_n 3, 1) := by decide +kernel
theorem de_W_game_143 : decode am_W_game.2.1 143 = .ok (.iload 4, 2) := by decide +kernel
theorem de_W_game_145 : decode am_W_game.2.1 145 = .ok (.invokevirtual 233, 3) := by decide +kernel
theorem de_W_game_148 : decode am_W_game.2.1 148 = .ok (.ireturn, 1) := by decide +kernel
theorem de_W_gameOf_0 : decode am_W_gameOf.2.1 0 = .ok (.aload_n 0, 1) := by decide +kernel
theorem de_W_gameOf_1 : decode am_W_gameOf.2.1 1 = .ok (.getfield 48, 3) := by decide +kernel
theorem de_W_gameOf_4 : decode am_W_gameOf.2.1 4 = .ok (.iload_n 1, 1) := by decide +kernel
theorem de_W_gameOf_5 : decode am_W_gameOf.2.1 5 = .ok (.invokevirtual 237, 3) := by decide +kernel
theorem de_W_gameOf_8 : decode am_W_gameOf.2.1 8 = .ok (.ifCond .eq (99), 3) := by decide +kernel
theorem de_W_gameOf_11 : decode am_W_gameOf.2.1 11 = .ok (.iload_n 2, 1) := by decide +kernel
theorem de_W_gameOf_12 : decode am_W_gameOf.2.1 12 = .ok (.ifCond .ne (13), 3) := by decide +kernel
theorem de_W_gameOf_15 : decode am_W_gameOf.2.1 15 = .ok (.aload_n 0, 1) := by decide +kernel
theorem de_W_gameOf_16 : decode am_W_gameOf.2.1 16 = .ok (.getfield 48, 3) := by decide +kernel
theorem de_W_gameOf_19 : decode am_W_gameOf.2.1 19 = .ok (.getfield 240, 3) := by decide +kernel
theorem de_W_gameOf_22 : decode am_W_gameOf.2.1 22 = .ok (.iload_n 1, 1) := by decide +kernel
theorem de_W_gameOf_23 : decode am_W_gameOf.2.1 23 = .ok (.iaload, 1) := by decide +kernel
theorem de_W_gameOf_24 : decode am_W_gameOf.2.1 24 = .ok (.ireturn, 1) := by decide +kernel
theorem de_W_gameOf_25 : decode am_W_gameOf.2.1 25 = .ok (.iload_n 2, 1) := by decide +kernel
theorem de_W_gameOf_26 : decode am_W_gameOf.2.1 26 = .ok (.iconst 1, 1) := by decide +kernel
theorem de_W_gameOf_27 : decode am_W_gameOf.2.1 27 = .ok (.if_icmp .ne (13), 3) := by decide +kernel
theorem de_W_gameOf_30 : decode am_W_gameOf.2.1 30 = .ok (.aload_n 0, 1) := by decide +kernel
theorem de_W_gameOf_31 : decode am_W_gameOf.2.1 31 = .ok (.getfield 48, 3) := by decide +kernel
theorem de_W_gameOf_34 : decode am_W_gameOf.2.1 34 = .ok (.getfield 243, 3) := by decide +kernel
theorem de_W_gameOf_37 : decode am_W_gameOf.2.1 37 = .ok (.iload_n 1, 1) := by decide +kernel
theorem de_W_gameOf_38 : decode am_W_gameOf.2.1 38 = .ok (.iaload, 1) := by decide +kernel
theorem de_W_gameOf_39 : decode am_W_gameOf.2.1 39 = .ok (.ireturn, 1) := by decide +kernel
theorem de_W_gameOf_40 : decode am_W_gameOf.2.1 40 = .ok (.iload_n 2, 1) := by decide +kernel
theorem de_W_gameOf_41 : decode am_W_gameOf.2.1 41 = .ok (.bipush (100), 2) := by decide +kernel
theorem de_W_gameOf_43 : decode am_W_gameOf.2.1 43 = .ok (.if_icmp .lt (32), 3) := by decide +kernel
theorem de_W_gameOf_46 : decode am_W_gameOf.2.1 46 = .ok (.iload_n 2, 1) := by decide +kernel
theorem de_W_gameOf_47 : decode am_W_gameOf.2.1 47 = .ok (.bipush (100), 2) := by decide +kernel
theorem de_W_gameOf_49 : decode am_W_gameOf.2.1 49 = .ok (.aload_n 0, 1) := by decide +kernel
theorem de_W_gameOf_50 : decode am_W_gameOf.2.1 50 = .ok (.getfield 48, 3) := by decide +kernel
theorem de_W_gameOf_53 : decode am_W_gameOf.2.1 53 = .ok (.getfield 240, 3) := by decide +kernel
theorem de_W_gameOf_56 : decode am_W_gameOf.2.1 56 = .ok (.iload_n 1, 1) := by decide +kernel
theorem de_W_gameOf_57 : decode am_W_gameOf.2.1 57 = .ok (.iaload, 1) := by decide +kernel
theorem de_W_gameOf_58 : decode am_W_gameOf.2.1 58 = .ok (.iadd, 1) := by decide +kernel
theorem de_W_gameOf_59 : decode am_W_gameOf.2.1 59 = .ok (.if_icmp .ge (16), 3) := by decide +kernel
theorem de_W_gameOf_62 : decode am_W_gameOf.2.1 62 = .ok (.aload_n 0, 1) := by decide +kernel
theorem de_W_gameOf_63 : decode am_W_gameOf.2.1 63 = .ok (.getfield 48, 3) := by decide +kernel
theorem de_W_gameOf_66 : decode am_W_gameOf.2.1 66 = .ok (.iload_n 1, 1) := by decide +kernel
theorem de_W_gameOf_67 : decode am_W_gameOf.2.1 67 = .ok (.iload_n 2, 1) := by decide +kernel
theorem de_W_gameOf_68 : decode am_W_gameOf.2.1 68 = .ok (.bipush (100), 2) := by decide +kernel
theorem de_W_gameOf_70 : decode am_W_gameOf.2.1 70 = .ok (.isub, 1) := by decide +kernel
theorem de_W_gameOf_71 : decode am_W_gameOf.2.1 71 = .ok (.invokevirtual 246, 3) := by decide +kernel
theorem de_W_gameOf_74 : decode am_W_gameOf.2.1 74 = .ok (.ireturn, 1) := by decide +kernel
theorem de_W_gameOf_75 : decode am_W_gameOf.2.1 75 = .ok (.iload_n 2, 1) := by decide +kernel
theorem de_W_gameOf_76 : decode am_W_gameOf.2.1 76 = .ok (.sipush (200), 3) := by decide +kernel
theorem de_W_gameOf_79 : decode am_W_gameOf.2.1 79 = .ok (.if_icmp .lt (28), 3) := by decide +kernel
theorem de_W_gameOf_82 : decode am_W_gameOf.2.1 82 = .ok (.iload_n 2, 1) := by decide +kernel
theorem de_W_gameOf_83 : decode am_W_gameOf.2.1 83 = .ok (.sipush (212), 3) := by decide +kernel
theorem de_W_gameOf_86 : decode am_W_gameOf.2.1 86 = .ok (.if_icmp .ge (21), 3) := by decide +kernel
theorem de_W_gameOf_89 : decode am_W_gameOf.2.1 89 = .ok (.aload_n 0, 1) := by decide +kernel
theorem de_W_gameOf_90 : decode am_W_gameOf.2.1 90 = .ok (.getfield 48, 3) := by decide +kernel
theorem de_W_gameOf_93 : decode am_W_gameOf.2.1 93 = .ok (.getfield 249, 3) := by decide +kernel
theorem de_W_gameOf_96 : decode am_W_gameOf.2.1 96 = .ok (.iload_n 1, 1) := by decide +kernel
theorem de_W_gameOf_97 : decode am_W_gameOf.2.1 97 = .ok (.iaload, 1) := by decide +kernel
theorem de_W_gameOf_98 : decode am_W_gameOf.2.1 98 = .ok (.iload_n 2, 1) := by decide +kernel
theorem de_W_gameOf_99 : decode am_W_gameOf.2.1 99 = .ok (.sipush (200), 3) := by decide +kernel
theorem de_W_gameOf_102 : decode am_W_gameOf.2.1 102 = .ok (.isub, 1) := by decide +kernel
theorem de_W_gameOf_103 : decode am_W_gameOf.2.1 103 = .ok (.invokestatic 174, 3) := by decide +kernel
theorem de_W_gameOf_106 : decode am_W_gameOf.2.1 106 = .ok (.ireturn, 1) := by decide +kernel
theorem de_W_gameOf_107 : decode am_W_gameOf.2.1 107 = .ok (.aload_n 0, 1) := by decide +kernel
theorem de_W_gameOf_108 : decode am_W_gameOf.2.1 108 = .ok (.bipush (-5), 2) := by decide +kernel
theorem de_W_gameOf_110 : decode am_W_gameOf.2.1 110 = .ok (.invokevirtual 88, 3) := by decide +kernel
theorem de_W_gameOf_113 : decode am_W_gameOf.2.1 113 = .ok (.ireturn, 1) := by decide +kernel
theorem de_W_load_0 : decode am_W_load.2.1 0 = .ok (.aload_n 0, 1) := by decide +kernel
theorem de_W_load_1 : decode am_W_load.2.1 1 = .ok (.getfield 48, 3) := by decide +kernel
theorem de_W_load_4 : decode am_W_load.2.1 4 = .ok (.iload_n 1, 1) := by decide +kernel
theorem de_W_load_5 : decode am_W_load.2.1 5 = .ok (.invokevirtual 237, 3) := by decide +kernel
theorem de_W_load_8 : decode am_W_load.2.1 8 = .ok (.ifCond .eq (10), 3) := by decide +kernel
theorem de_W_load_11 : decode am_W_load.2.1 11 = .ok (.iload_n 3, 1) := by decide +kernel
theorem de_W_load_12 : decode am_W_load.2.1 12 = .ok (.invokestatic 168, 3) := by decide +kernel
theorem de_W_load_15 : decode am_W_load.2.1 15 = .ok (.ifCond .ne (9), 3) := by decide +kernel
theorem de_W_load_18 : decode am_W_load.2.1 18 = .ok (.aload_n 0, 1) := by decide +kernel
theorem de_W_load_19 : decode am_W_load.2.1 19 = .ok (.iconst (-1), 1) := by decide +kernel
theorem de_W_load_20 : decode am_W_load.2.1 20 = .ok (.invokevirtual 88, 3) := by decide +kernel
theorem de_W_load_23 : decode am_W_load.2.1 23 = .ok (.ireturn, 1) := by decide +kernel
theorem de_W_load_24 : decode am_W_load.2.1 24 = .ok (.iload_n 2, 1) := by decide +kernel
theorem de_W_load_25 : decode am_W_load.2.1 25 = .ok (.ifCond .lt (16), 3) := by decide +kernel
theorem de_W_load_28 : decode am_W_load.2.1 28 = .ok (.iload_n 2, 1) := by decide +kernel
theorem de_W_load_29 : decode am_W_load.2.1 29 = .ok (.aload_n 0, 1) := by decide +kernel
theorem de_W_load_30 : decode am_W_load.2.1 30 = .ok (.getfield 48, 3) := by decide +kernel
theorem de_W_load_33 : decode am_W_load.2.1 33 = .ok (.getfield 240, 3) := by decide +kernel
theorem de_W_load_36 : decode am_W_load.2.1 36 = .ok (.iload_n 1, 1) := by decide +kernel
theorem de_W_load_37 : decode am_W_load.2.1 37 = .ok (.iaload, 1) := by decide +kernel
theorem de_W_load_38 : decode am_W_load.2.1 38 = .ok (.if_icmp .le (10), 3) := by decide +kernel
theorem de_W_load_41 : decode am_W_load.2.1 41 = .ok (.aload_n 0, 1) := by decide +kernel
theorem de_W_load_42 : decode am_W_load.2.1 42 = .ok (.bipush (-6), 2) := by decide +kernel
theorem de_W_load_44 : decode am_W_load.2.1 44 = .ok (.invokevirtual 88, 3) := by decide +kernel
theorem de_W_load_47 : decode am_W_load.2.1 47 = .ok (.ireturn, 1) := by decide +kernel
theorem de_W_load_48 : decode am_W_load.2.1 48 = .ok (.aload_n 0, 1) := by decide +kernel
theorem de_W_load_49 : decode am_W_load.2.1 49 = .ok (.aload_n 0, 1) := by decide +kernel
theorem de_W_load_50 : decode am_W_load.2.1 50 = .ok (.getfield 48, 3) := by decide +kernel
theorem de_W_load_53 : decode am_W_load.2.1 53 = .ok (.iload_n 1, 1) := by decide +kernel
theorem de_W_load_54 : decode am_W_load.2.1 54 = .ok (.iload_n 2, 1) := by decide +kernel
theorem de_W_load_55 : decode am_W_load.2.1 55 = .ok (.iload_n 3, 1) := by decide +kernel
theorem de_W_load_56 : decode am_W_load.2.1 56 = .ok (.invokevirtual 252, 3) := by decide +kernel
theorem de_W_load_59 : decode am_W_load.2.1 59 = .ok (.putfield 56, 3) := by decide +kernel
theorem de_W_load_62 : decode am_W_load.2.1 62 = .ok (.aload_n 0, 1) := by decide +kernel
theorem de_W_load_63 : decode am_W_load.2.1 63 = .ok (.getfield 56, 3) := by decide +kernel
theorem de_W_load_66 : decode am_W_load.2.1 66 = .ok (.invokestatic 181, 3) := by decide +kernel
theorem de_W_load_69 : decode am_W_load.2.1 69 = .ok (.ireturn, 1) := by decide +kernel
theorem de_W_judge_0 : decode am_W_judge.2.1 0 = .ok (.aload_n 0, 1) := by decide +kernel
theorem de_W_judge_1 : decode am_W_judge.2.1 1 = .ok (.getfield 48, 3) := by decide +kernel
theorem de_W_judge_4 : decode am_W_judge.2.1 4 = .ok (.iload_n 1, 1) := by decide +kernel
theorem de_W_judge_5 : decode am_W_judge.2.1 5 = .ok (.invokevirtual 237, 3) := by decide +kernel
theorem de_W_judge_8 : decode am_W_judge.2.1 8 = .ok (.ifCond .eq (10), 3) := by decide +kernel
theorem de_W_judge_11 : decode am_W_judge.2.1 11 = .ok (.iload_n 2, 1) := by decide +kernel
theorem de_W_judge_12 : decode am_W_judge.2.1 12 = .ok (.invokestatic 168, 3) := by decide +kernel
theorem de_W_judge_15 : decode am_W_judge.2.1 15 = .ok (.ifCond .ne (11), 3) := by decide +kernel
theorem de_W_judge_18 : decode am_W_judge.2.1 18 = .ok (.aload_n 0, 1) := by decide +kernel
theorem de_W_judge_19 : decode am_W_judge.2.1 19 = .ok (.iconst (-1), 1) := by decide +kernel
theorem de_W_judge_20 : decode am_W_judge.2.1 20 = .ok (.bipush (-11), 2) := by decide +kernel
theorem de_W_judge_22 : decode am_W_judge.2.1 22 = .ok (.invokevirtual 199, 3) := by decide +kernel
theorem de_W_judge_25 : decode am_W_judge.2.1 25 = .ok (.ireturn, 1) := by decide +kernel
theorem de_W_judge_26 : decode am_W_judge.2.1 26 = .ok (.aload_n 0, 1) := by decide +kernel
theorem de_W_judge_27 : decode am_W_judge.2.1 27 = .ok (.getfield 48, 3) := by decide +kernel
theorem de_W_judge_30 : decode am_W_judge.2.1 30 = .ok (.iload_n 1, 1) := by decide +kernel
theorem de_W_judge_31 : decode am_W_judge.2.1 31 = .ok (.iload_n 2, 1) := by decide +kernel
theorem de_W_judge_32 : decode am_W_judge.2.1 32 = .ok (.invokevirtual 255, 3) := by decide +kernel
theorem de_W_judge_35 : decode am_W_judge.2.1 35 = .ok (.ireturn, 1) := by decide +kernel
theorem de_W_wide_0 : decode am_W_wide.2.1 0 = .ok (.iload_n 1, 1) := by decide +kernel
theorem de_W_wide_1 : decode am_W_wide.2.1 1 = .ok (.invokestatic 168, 3) := by decide +kernel
theorem de_W_wide_4 : decode am_W_wide.2.1 4 = .ok (.ifCond .eq (14), 3) := by decide +kernel
theorem de_W_wide_7 : decode am_W_wide.2.1 7 = .ok (.aload_n 0, 1) := by decide +kernel
theorem de_W_wide_8 : decode am_W_wide.2.1 8 = .ok (.getfield 48, 3) := by decide +kernel
theorem de_W_wide_11 : decode am_W_wide.2.1 11 = .ok (.iload_n 1, 1) := by decide +kernel
theorem de_W_wide_12 : decode am_W_wide.2.1 12 = .ok (.invokevirtual 258, 3) := by decide +kernel
theorem de_W_wide_15 : decode am_W_wide.2.1 15 = .ok (.goto (8), 3) := by decide +kernel
theorem de_W_wide_18 : decode am_W_wide.2.1 18 = .ok (.aload_n 0, 1) := by decide +kernel
theorem de_W_wide_19 : decode am_W_wide.2.1 19 = .ok (.iconst (-1), 1) := by decide +kernel
theorem de_W_wide_20 : decode am_W_wide.2.1 20 = .ok (.invokevirtual 88, 3) := by decide +kernel
theorem de_W_wide_23 : decode am_W_wide.2.1 23 = .ok (.ireturn, 1) := by decide +kernel
theorem de_W_part_0 : decode am_W_part.2.1 0 = .ok (.iload_n 1, 1) := by decide +kernel
theorem de_W_part_1 : decode am_W_part.2.1 1 = .ok (.invokestatic 168, 3) := by decide +kernel
theorem de_W_part_4 : decode am_W_part.2.1 4 = .ok (.ifCond .eq (10), 3) := by decide +kernel
theorem de_W_part_7 : decode am_W_part.2.1 7 = .ok (.iload_n 2, 1) := by decide +kernel
theorem de_W_part_8 : decode am_W_part.2.1 8 = .ok (.invokestatic 168, 3) := by decide +kernel
theorem de_W_part_11 : decode am_W_part.2.1 11 = .ok (.ifCond .ne (11), 3) := by decide +kernel
theorem de_W_part_14 : decode am_W_part.2.1 14 = .ok (.aload_n 0, 1) := by decide +kernel
theorem de_W_part_15 : decode am_W_part.2.1 15 = .ok (.iconst (-1), 1) := by decide +kernel
theorem de_W_part_16 : decode am_W_part.2.1 16 = .ok (.bipush (-11), 2) := by decide +kernel
theorem de_W_part_18 : decode am_W_part.2.1 18 = .ok (.invokevirtual 199, 3) := by decide +kernel
theorem de_W_part_21 : decode am_W_part.2.1 21 = .ok (.ireturn, 1) := by decide +kernel
theorem de_W_part_22 : decode am_W_part.2.1 22 = .ok (.aload_n 0, 1) := by decide +kernel
theorem de_W_part_23 : decode am_W_part.2.1 23 = .ok (.getfield 48, 3) := by decide +kernel
theorem de_W_part_26 : decode am_W_part.2.1 26 = .ok (.iload_n 1, 1) := by decide +kernel
theorem de_W_part_27 : decode am_W_part.2.1 27 = .ok (.iload_n 2, 1) := by decide +kernel
theorem de_W_part_28 : decode am_W_part.2.1 28 = .ok (.invokevirtual 261, 3) := by decide +kernel
theorem de_W_part_31 : decode am_W_part.2.1 31 = .ok (.ireturn, 1) := by decide +kernel
theorem de_W_isStart_0 : decode am_W_isStart.2.1 0 = .ok (.iconst 0, 1) := by decide +kernel
theorem de_W_isStart_1 : decode am_W_isStart.2.1 1 = .ok (.istore_n 2, 1) := by decide +kernel
theorem de_W_isStart_2 : decode am_W_isStart.2.1 2 = .ok (.iload_n 2, 1) := by decide +kernel
theorem de_W_isStart_3 : decode am_W_isStart.2.1 3 = .ok (.bipush (12), 2) := by decide +kernel
theorem de_W_isStart_5 : decode am_W_isStart.2.1 5 = .ok (.if_icmp .ge (27), 3) := by decide +kernel
theorem de_W_isStart_8 : decode am_W_isStart.2.1 8 = .ok (.aload_n 0, 1) := by decide +kernel
theorem de_W_isStart_9 : decode am_W_isStart.2.1 9 = .ok (.iload_n 1, 1) := by decide +kernel
theorem de_W_isStart_10 : decode am_W_isStart.2.1 10 = .ok (.iload_n 2, 1) := by decide +kernel
theorem de_W_isStart_11 : decode am_W_isStart.2.1 11 = .ok (.invokevirtual 264, 3) := by decide +kernel
theorem de_W_isStart_14 : decode am_W_isStart.2.1 14 = .ok (.istore_n 3, 1) := by decide +kernel
theorem de_W_isStart_15 : decode am_W_isStart.2.1 15 = .ok (.iload_n 3, 1) := by decide +kernel
theorem de_W_isStart_16 : decode am_W_isStart.2.1 16 = .ok (.ifCond .lt (8), 3) := by decide +kernel
theorem de_W_isStart_19 : decode am_W_isStart.2.1 19 = .ok (.iload_n 3, 1) := by decide +kernel
theorem de_W_isStart_20 : decode am_W_isStart.2.1 20 = .ok (.iconst 2, 1) := by decide +kernel
theorem de_W_isStart_21 : decode am_W_isStart.2.1 21 = .ok (.if_icmp .le (5), 3) := by decide +kernel
theorem de_W_isStart_24 : decode am_W_isStart.2.1 24 = .ok (.iconst 0, 1) := by decide +kernel
theorem de_W_isStart_25 : decode am_W_isStart.2.1 25 = .ok (.ireturn, 1) := by decide +kernel
theorem de_W_isStart_26 : decode am_W_isStart.2.1 26 = .ok (.iinc 2 (1), 3) := by decide +kernel
theorem de_W_isStart_29 : decode am_W_isStart.2.1 29 = .ok (.goto (-27), 3) := by decide +kernel
theorem de_W_isStart_32 : decode am_W_isStart.2.1 32 = .ok (.iconst 1, 1) := by decide +kernel
theorem de_W_isStart_33 : decode am_W_isStart.2.1 33 = .ok (.ireturn, 1) := by decide +kernel
theorem de_W_areMoves_0 : decode am_W_areMoves.2.1 0 = .ok (.iconst 0, 1) := by decide +kernel
theorem de_W_areMoves_1 : decode am_W_areMoves.2.1 1 = .ok (.istore_n 3, 1) := by decide +kernel
theorem de_W_areMoves_2 : decode am_W_areMoves.2.1 2 = .ok (.iload_n 3, 1) := by decide +kernel
theorem de_W_areMoves_3 : decode am_W_areMoves.2.1 3 = .ok (.iload_n 2, 1) := by decide +kernel
theorem de_W_areMoves_4 : decode am_W_areMoves.2.1 4 = .ok (.if_icmp .ge (23), 3) := by decide +kernel
theorem de_W_areMoves_7 : decode am_W_areMoves.2.1 7 = .ok (.aload_n 0, 1) := by decide +kernel
theorem de_W_areMoves_8 : decode am_W_areMoves.2.1 8 = .ok (.iload_n 1, 1) := by decide +kernel
theorem de_W_areMoves_9 : decode am_W_areMoves.2.1 9 = .ok (.iload_n 3, 1) := by decide +kernel
theorem de_W_areMoves_10 : decode am_W_areMoves.2.1 10 = .ok (.invokevirtual 264, 3) := by decide +kernel
theorem de_W_areMoves_13 : decode am_W_areMoves.2.1 13 = .ok (.invokestatic 202, 3) := by decide +kernel
theorem de_W_areMoves_16 : decode am_W_areMoves.2.1 16 = .ok (.ifCond .ne (5), 3) := by decide +kernel
theorem de_W_areMoves_19 : decode am_W_areMoves.2.1 19 = .ok (.iconst 0, 1) := by decide +kernel
theorem de_W_areMoves_20 : decode am_W_areMoves.2.1 20 = .ok (.ireturn, 1) := by decide +kernel
theorem de_W_areMoves_21 : decode am_W_areMoves.2.1 21 = .ok (.iinc 3 (1), 3) := by decide +kernel
theorem de_W_areMoves_24 : decode am_W_areMoves.2.1 24 = .ok (.goto (-22), 3) := by decide +kernel
theorem de_W_areMoves_27 : decode am_W_areMoves.2.1 27 = .ok (.iconst 1, 1) := by decide +kernel
theorem de_W_areMoves_28 : decode am_W_areMoves.2.1 28 = .ok (.ireturn, 1) := by decide +kernel
theorem de_W_startIn_0 : decode am_W_startIn.2.1 0 = .ok (.iconst 0, 1) := by decide +kernel
theorem de_W_startIn_1 : decode am_W_startIn.2.1 1 = .ok (.istore_n 2, 1) := by decide +kernel
theorem de_W_startIn_2 : decode am_W_startIn.2.1 2 = .ok (.iconst 0, 1) := by decide +kernel
theorem de_W_startIn_3 : decode am_W_startIn.2.1 3 = .ok (.istore_n 3, 1) := by decide +kernel
theorem de_W_startIn_4 : decode am_W_startIn.2.1 4 = .ok (.iload_n 3, 1) := by decide +kernel
theorem de_W_startIn_5 : decode am_W_startIn.2.1 5 = .ok (.bipush (12), 2) := by decide +kernel
theorem de_W_startIn_7 : decode am_W_startIn.2.1 7 = .ok (.if_icmp .ge (21), 3) := by decide +kernel
theorem de_W_startIn_10 : decode am_W_startIn.2.1 10 = .ok (.iload_n 2, 1) := by decide +kernel
theorem de_W_startIn_11 : decode am_W_startIn.2.1 11 = .ok (.iload_n 3, 1) := by decide +kernel
theorem de_W_startIn_12 : decode am_W_startIn.2.1 12 = .ok (.aload_n 0, 1) := by decide +kernel
theorem de_W_startIn_13 : decode am_W_startIn.2.1 13 = .ok (.iload_n 1, 1) := by decide +kernel
theorem de_W_startIn_14 : decode am_W_startIn.2.1 14 = .ok (.iload_n 3, 1) := by decide +kernel
theorem de_W_startIn_15 : decode am_W_startIn.2.1 15 = .ok (.invokevirtual 264, 3) := by decide +kernel
theorem de_W_startIn_18 : decode am_W_startIn.2.1 18 = .ok (.invokestatic 177, 3) := by decide +kernel
theorem de_W_startIn_21 : decode am_W_startIn.2.1 21 = .ok (.istore_n 2, 1) := by decide +kernel
theorem de_W_startIn_22 : decode am_W_startIn.2.1 22 = .ok (.iinc 3 (1), 3) := by decide +kernel
theorem de_W_startIn_25 : decode am_W_startIn.2.1 25 = .ok (.goto (-21), 3) := by decide +kernel
theorem de_W_startIn_28 : decode am_W_startIn.2.1 28 = .ok (.iload_n 2, 1) := by decide +kernel
theorem de_W_startIn_29 : decode am_W_startIn.2.1 29 = .ok (.ireturn, 1) := by decide +kernel
theorem de_W_find_0 : decode am_W_find.2.1 0 = .ok (.aload_n 0, 1) := by decide +kernel
theorem de_W_find_1 : decode am_W_find.2.1 1 = .ok (.invokevirtual 267, 3) := by decide +kernel
theorem de_W_find_4 : decode am_W_find.2.1 4 = .ok (.getfield 271, 3) := by decide +kernel
theorem de_W_find_7 : decode am_W_find.2.1 7 = .ok (.ifCond .ne (12), 3) := by decide +kernel
theorem de_W_find_10 : decode am_W_find.2.1 10 = .ok (.aload_n 0, 1) := by decide +kernel
theorem de_W_find_11 : decode am_W_find.2.1 11 = .ok (.bipush (-5), 2) := by decide +kernel
theorem de_W_find_13 : decode am_W_find.2.1 13 = .ok (.invokevirtual 88, 3) := by decide +kernel
theorem de_W_find_16 : decode am_W_find.2.1 16 = .ok (.goto (12), 3) := by decide +kernel
theorem de_W_find_19 : decode am_W_find.2.1 19 = .ok (.aload_n 0, 1) := by decide +kernel
theorem de_W_find_20 : decode am_W_find.2.1 20 = .ok (.getfield 40, 3) := by decide +kernel
theorem de_W_find_23 : decode am_W_find.2.1 23 = .ok (.getfield 272, 3) := by decide +kernel
theorem de_W_find_26 : decode am_W_find.2.1 26 = .ok (.iconst 0, 1) := by decide +kernel
theorem de_W_find_27 : decode am_W_find.2.1 27 = .ok (.iaload, 1) := by decide +kernel
theorem de_W_find_28 : decode am_W_find.2.1 28 = .ok (.ireturn, 1) := by decide +kernel
theorem de_W_fits_0 : decode am_W_fits.2.1 0 = .ok (.aload_n 0, 1) := by decide +kernel
theorem de_W_fits_1 : decode am_W_fits.2.1 1 = .ok (.invokevirtual 267, 3) := by decide +kernel
theorem de_W_fits_4 : decode am_W_fits.2.1 4 = .ok (.getfield 271, 3) := by decide +kernel
theorem de_W_fits_7 : decode am_W_fits.2.1 7 = .ok (.ireturn, 1) := by decide +kernel
theorem de_W_rivals_0 : decode am_W_rivals.2.1 0 = .ok (.iload_n 1, 1) := by decide +kernel
theorem de_W_rivals_1 : decode am_W_rivals.2.1 1 = .ok (.invokestatic 275, 3) := by decide +kernel
theorem de_W_rivals_4 : decode am_W_rivals.2.1 4 = .ok (.ifCond .eq (14), 3) := by decide +kernel
theorem de_W_rivals_7 : decode am_W_rivals.2.1 7 = .ok (.aload_n 0, 1) := by decide +kernel
theorem de_W_rivals_8 : decode am_W_rivals.2.1 8 = .ok (.invokevirtual 267, 3) := by decide +kernel
theorem de_W_rivals_11 : decode am_W_rivals.2.1 11 = .ok (.iload_n 1, 1) := by decide +kernel
theorem de_W_rivals_12 : decode am_W_rivals.2.1 12 = .ok (.invokevirtual 278, 3) := by decide +kernel
theorem de_W_rivals_15 : decode am_W_rivals.2.1 15 = .ok (.goto (9), 3) := by decide +kernel
theorem de_W_rivals_18 : decode am_W_rivals.2.1 18 = .ok (.aload_n 0, 1) := by decide +kernel
theorem de_W_rivals_19 : decode am_W_rivals.2.1 19 = .ok (.bipush (-6), 2) := by decide +kernel
theorem de_W_rivals_21 : decode am_W_rivals.2.1 21 = .ok (.invokevirtual 88, 3) := by decide +kernel
theorem de_W_rivals_24 : decode am_W_rivals.2.1 24 = .ok (.ireturn, 1) := by decide +kernel
theorem de_W_rival_0 : decode am_W_rival.2.1 0 = .ok (.iload_n 1, 1) := by decide +kernel
theorem de_W_rival_1 : decode am_W_rival.2.1 1 = .ok (.invokestatic 275, 3) := by decide +kernel
theorem de_W_rival_4 : decode am_W_rival.2.1 4 = .ok (.ifCond .eq (19), 3) := by decide +kernel
theorem de_W_rival_7 : decode am_W_rival.2.1 7 = .ok (.iload_n 2, 1) := by decide +kernel
theorem de_W_rival_8 : decode am_W_rival.2.1 8 = .ok (.ifCond .lt (15), 3) := by decide +kernel
theorem de_W_rival_11 : decode am_W_rival.2.1 11 = .ok (.iload_n 2, 1) := by decide +kernel
theorem de_W_rival_12 : decode am_W_rival.2.1 12 = .ok (.aload_n 0, 1) := by decide +kernel
theorem de_W_rival_13 : decode am_W_rival.2.1 13 = .ok (.invokevirtual 267, 3) := by decide +kernel
theorem de_W_rival_16 : decode am_W_rival.2.1 16 = .ok (.iload_n 1, 1) := by decide +kernel
theorem de_W_rival_17 : decode am_W_rival.2.1 17 = .ok (.invokevirtual 278, 3) := by decide +kernel
theorem de_W_rival_20 : decode am_W_rival.2.1 20 = .ok (.if_icmp .lt (10), 3) := by decide +kernel
theorem de_W_rival_23 : decode am_W_rival.2.1 23 = .ok (.aload_n 0, 1) := by decide +kernel
theorem de_W_rival_24 : decode am_W_rival.2.1 24 = .ok (.bipush (-5), 2) := by decide +kernel
theorem de_W_rival_26 : decode am_W_rival.2.1 26 = .ok (.invokevirtual 88, 3) := by decide +kernel
theorem de_W_rival_29 : decode am_W_rival.2.1 29 = .ok (.ireturn, 1) := by decide +kernel
theorem de_W_rival_30 : decode am_W_rival.2.1 30 = .ok (.aload_n 0, 1) := by decide +kernel
theorem de_W_rival_31 : decode am_W_rival.2.1 31 = .ok (.getfield 40, 3) := by decide +kernel
theorem de_W_rival_34 : decode am_W_rival.2.1 34 = .ok (.getfield 272, 3) := by decide +kernel
theorem de_W_rival_37 : decode am_W_rival.2.1 37 = .ok (.iload_n 2, 1) := by decide +kernel
theorem de_W_rival_38 : decode am_W_rival.2.1 38 = .ok (.iaload, 1) := by decide +kernel
theorem de_W_rival_39 : decode am_W_rival.2.1 39 = .ok (.ireturn, 1) := by decide +kernel
theorem de_W_tight_0 : decode am_W_tight.2.1 0 = .ok (.aload_n 0, 1) := by decide +kernel
theorem de_W_tight_1 : decode am_W_tight.2.1 1 = .ok (.invokevirtual 267, 3) := by decide +kernel
theorem de_W_tight_4 : decode am_W_tight.2.1 4 = .ok (.getfield 271, 3) := by decide +kernel
theorem de_W_tight_7 : decode am_W_tight.2.1 7 = .ok (.ifCond .ne (12), 3) := by decide +kernel
theorem de_W_tight_10 : decode am_W_tight.2.1 10 = .ok (.aload_n 0, 1) := by decide +kernel
theorem de_W_tight_11 : decode am_W_tight.2.1 11 = .ok (.bipush (-5), 2) := by decide +kernel
theorem de_W_tight_13 : decode am_W_tight.2.1 13 = .ok (.invokevirtual 88, 3) := by decide +kernel
theorem de_W_tight_16 : decode am_W_tight.2.1 16 = .ok (.goto (10), 3) := by decide +kernel
theorem de_W_tight_19 : decode am_W_tight.2.1 19 = .ok (.aload_n 0, 1) := by decide +kernel
theorem de_W_tight_20 : decode am_W_tight.2.1 20 = .ok (.getfield 40, 3) := by decide +kernel
theorem de_W_tight_23 : decode am_W_tight.2.1 23 = .ok (.invokevirtual 281, 3) := by decide +kernel
theorem de_W_tight_26 : decode am_W_tight.2.1 26 = .ok (.ireturn, 1) := by decide +kernel
theorem de_W_sure_0 : decode am_W_sure.2.1 0 = .ok (.aload_n 0, 1) := by decide +kernel
theorem de_W_sure_1 : decode am_W_sure.2.1 1 = .ok (.invokevirtual 267, 3) := by decide +kernel
theorem de_W_sure_4 : decode am_W_sure.2.1 4 = .ok (.getfield 271, 3) := by decide +kernel
theorem de_W_sure_7 : decode am_W_sure.2.1 7 = .ok (.ifCond .ne (10), 3) := by decide +kernel
theorem de_W_sure_10 : decode am_W_sure.2.1 10 = .ok (.aload_n 0, 1) := by decide +kernel
theorem de_W_sure_11 : decode am_W_sure.2.1 11 = .ok (.bipush (-5), 2) := by decide +kernel
theorem de_W_sure_13 : decode am_W_sure.2.1 13 = .ok (.invokevirtual 88, 3) := by decide +kernel
theorem de_W_sure_16 : decode am_W_sure.2.1 16 = .ok (.ireturn, 1) := by decide +kernel
theorem de_W_sure_17 : decode am_W_sure.2.1 17 = .ok (.iload_n 2, 1) := by decide +kernel
theorem de_W_sure_18 : decode am_W_sure.2.1 18 = .ok (.invokestatic 275, 3) := by decide +kernel
theorem de_W_sure_21 : decode am_W_sure.2.1 21 = .ok (.ifCond .eq (10), 3) := by decide +kernel
theorem de_W_sure_24 : decode am_W_sure.2.1 24 = .ok (.iload_n 1, 1) := by decide +kernel
theorem de_W_sure_25 : decode am_W_sure.2.1 25 = .ok (.invokestatic 202, 3) := by decide +kernel
theorem de_W_sure_28 : decode am_W_sure.2.1 28 = .ok (.ifCond .ne (10), 3) := by decide +kernel
theorem de_W_sure_31 : decode am_W_sure.2.1 31 = .ok (.aload_n 0, 1) := by decide +kernel
theorem de_W_sure_32 : decode am_W_sure.2.1 32 = .ok (.bipush (-6), 2) := by decide +kernel
theorem de_W_sure_34 : decode am_W_sure.2.1 34 = .ok (.invokevirtual 88, 3) := by decide +kernel
theorem de_W_sure_37 : decode am_W_sure.2.1 37 = .ok (.ireturn, 1) := by decide +kernel
theorem de_W_sure_38 : decode am_W_sure.2.1 38 = .ok (.aload_n 0, 1) := by decide +kernel
theorem de_W_sure_39 : decode am_W_sure.2.1 39 = .ok (.getfield 40, 3) := by decide +kernel
theorem de_W_sure_42 : decode am_W_sure.2.1 42 = .ok (.aload_n 0, 1) := by decide +kernel
theorem de_W_sure_43 : decode am_W_sure.2.1 43 = .ok (.getfield 56, 3) := by decide +kernel
