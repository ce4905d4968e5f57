theorem de_F_init_0 : decode am_F_init.2.1 0 = .ok (.aload_n 0, 1) := by decide +kernel
theorem de_F_init_1 : decode am_F_init.2.1 1 = .ok (.invokespecial 3, 3) := by decide +kernel
theorem de_F_init_4 : decode am_F_init.2.1 4 = .ok (.aload_n 0, 1) := by decide +kernel
theorem de_F_init_5 : decode am_F_init.2.1 5 = .ok (.new 9, 3) := by decide +kernel
theorem de_F_init_8 : decode am_F_init.2.1 8 = .ok (.dup, 1) := by decide +kernel
theorem de_F_init_9 : decode am_F_init.2.1 9 = .ok (.invokespecial 11, 3) := by decide +kernel
theorem de_F_init_12 : decode am_F_init.2.1 12 = .ok (.putfield 12, 3) := by decide +kernel
theorem de_F_init_15 : decode am_F_init.2.1 15 = .ok (.aload_n 0, 1) := by decide +kernel
theorem de_F_init_16 : decode am_F_init.2.1 16 = .ok (.aload_n 0, 1) := by decide +kernel
theorem de_F_init_17 : decode am_F_init.2.1 17 = .ok (.getfield 12, 3) := by decide +kernel
theorem de_F_init_20 : decode am_F_init.2.1 20 = .ok (.getfield 18, 3) := by decide +kernel
theorem de_F_init_23 : decode am_F_init.2.1 23 = .ok (.putfield 22, 3) := by decide +kernel
theorem de_F_init_26 : decode am_F_init.2.1 26 = .ok (.aload_n 0, 1) := by decide +kernel
theorem de_F_init_27 : decode am_F_init.2.1 27 = .ok (.sipush (4096), 3) := by decide +kernel
theorem de_F_init_30 : decode am_F_init.2.1 30 = .ok (.newarray .int, 2) := by decide +kernel
theorem de_F_init_32 : decode am_F_init.2.1 32 = .ok (.putfield 23, 3) := by decide +kernel
theorem de_F_init_35 : decode am_F_init.2.1 35 = .ok (.aload_n 0, 1) := by decide +kernel
theorem de_F_init_36 : decode am_F_init.2.1 36 = .ok (.iconst 0, 1) := by decide +kernel
theorem de_F_init_37 : decode am_F_init.2.1 37 = .ok (.putfield 27, 3) := by decide +kernel
theorem de_F_init_40 : decode am_F_init.2.1 40 = .ok (.aload_n 0, 1) := by decide +kernel
theorem de_F_init_41 : decode am_F_init.2.1 41 = .ok (.bipush (23), 2) := by decide +kernel
theorem de_F_init_43 : decode am_F_init.2.1 43 = .ok (.newarray .int, 2) := by decide +kernel
theorem de_F_init_45 : decode am_F_init.2.1 45 = .ok (.putfield 31, 3) := by decide +kernel
theorem de_F_init_48 : decode am_F_init.2.1 48 = .ok (.aload_n 0, 1) := by decide +kernel
theorem de_F_init_49 : decode am_F_init.2.1 49 = .ok (.sipush (512), 3) := by decide +kernel
theorem de_F_init_52 : decode am_F_init.2.1 52 = .ok (.newarray .int, 2) := by decide +kernel
theorem de_F_init_54 : decode am_F_init.2.1 54 = .ok (.putfield 34, 3) := by decide +kernel
theorem de_F_init_57 : decode am_F_init.2.1 57 = .ok (.aload_n 0, 1) := by decide +kernel
theorem de_F_init_58 : decode am_F_init.2.1 58 = .ok (.sipush (512), 3) := by decide +kernel
theorem de_F_init_61 : decode am_F_init.2.1 61 = .ok (.newarray .int, 2) := by decide +kernel
theorem de_F_init_63 : decode am_F_init.2.1 63 = .ok (.putfield 37, 3) := by decide +kernel
theorem de_F_init_66 : decode am_F_init.2.1 66 = .ok (.aload_n 0, 1) := by decide +kernel
theorem de_F_init_67 : decode am_F_init.2.1 67 = .ok (.sipush (256), 3) := by decide +kernel
theorem de_F_init_70 : decode am_F_init.2.1 70 = .ok (.newarray .int, 2) := by decide +kernel
theorem de_F_init_72 : decode am_F_init.2.1 72 = .ok (.putfield 40, 3) := by decide +kernel
theorem de_F_init_75 : decode am_F_init.2.1 75 = .ok (.aload_n 0, 1) := by decide +kernel
theorem de_F_init_76 : decode am_F_init.2.1 76 = .ok (.sipush (128), 3) := by decide +kernel
theorem de_F_init_79 : decode am_F_init.2.1 79 = .ok (.newarray .int, 2) := by decide +kernel
theorem de_F_init_81 : decode am_F_init.2.1 81 = .ok (.putfield 43, 3) := by decide +kernel
theorem de_F_init_84 : decode am_F_init.2.1 84 = .ok (.aload_n 0, 1) := by decide +kernel
theorem de_F_init_85 : decode am_F_init.2.1 85 = .ok (.iconst 0, 1) := by decide +kernel
theorem de_F_init_86 : decode am_F_init.2.1 86 = .ok (.putfield 46, 3) := by decide +kernel
theorem de_F_init_89 : decode am_F_init.2.1 89 = .ok (.aload_n 0, 1) := by decide +kernel
theorem de_F_init_90 : decode am_F_init.2.1 90 = .ok (.iconst (-1), 1) := by decide +kernel
theorem de_F_init_91 : decode am_F_init.2.1 91 = .ok (.putfield 50, 3) := by decide +kernel
theorem de_F_init_94 : decode am_F_init.2.1 94 = .ok (.aload_n 0, 1) := by decide +kernel
theorem de_F_init_95 : decode am_F_init.2.1 95 = .ok (.iconst (-1), 1) := by decide +kernel
theorem de_F_init_96 : decode am_F_init.2.1 96 = .ok (.putfield 53, 3) := by decide +kernel
theorem de_F_init_99 : decode am_F_init.2.1 99 = .ok (.aload_n 0, 1) := by decide +kernel
theorem de_F_init_100 : decode am_F_init.2.1 100 = .ok (.iconst (-1), 1) := by decide +kernel
theorem de_F_init_101 : decode am_F_init.2.1 101 = .ok (.putfield 56, 3) := by decide +kernel
theorem de_F_init_104 : decode am_F_init.2.1 104 = .ok (.return_, 1) := by decide +kernel
theorem de_F_forget_0 : decode am_F_forget.2.1 0 = .ok (.aload_n 0, 1) := by decide +kernel
theorem de_F_forget_1 : decode am_F_forget.2.1 1 = .ok (.iconst 0, 1) := by decide +kernel
theorem de_F_forget_2 : decode am_F_forget.2.1 2 = .ok (.putfield 46, 3) := by decide +kernel
theorem de_F_forget_5 : decode am_F_forget.2.1 5 = .ok (.aload_n 0, 1) := by decide +kernel
theorem de_F_forget_6 : decode am_F_forget.2.1 6 = .ok (.iconst (-1), 1) := by decide +kernel
theorem de_F_forget_7 : decode am_F_forget.2.1 7 = .ok (.putfield 50, 3) := by decide +kernel
theorem de_F_forget_10 : decode am_F_forget.2.1 10 = .ok (.aload_n 0, 1) := by decide +kernel
theorem de_F_forget_11 : decode am_F_forget.2.1 11 = .ok (.iconst (-1), 1) := by decide +kernel
theorem de_F_forget_12 : decode am_F_forget.2.1 12 = .ok (.putfield 53, 3) := by decide +kernel
theorem de_F_forget_15 : decode am_F_forget.2.1 15 = .ok (.return_, 1) := by decide +kernel
theorem de_F_know_0 : decode am_F_know.2.1 0 = .ok (.iconst 0, 1) := by decide +kernel
theorem de_F_know_1 : decode am_F_know.2.1 1 = .ok (.istore_n 1, 1) := by decide +kernel
theorem de_F_know_2 : decode am_F_know.2.1 2 = .ok (.iload_n 1, 1) := by decide +kernel
theorem de_F_know_3 : decode am_F_know.2.1 3 = .ok (.sipush (512), 3) := by decide +kernel
theorem de_F_know_6 : decode am_F_know.2.1 6 = .ok (.if_icmp .ge (73), 3) := by decide +kernel
theorem de_F_know_9 : decode am_F_know.2.1 9 = .ok (.aload_n 0, 1) := by decide +kernel
theorem de_F_know_10 : decode am_F_know.2.1 10 = .ok (.getfield 46, 3) := by decide +kernel
theorem de_F_know_13 : decode am_F_know.2.1 13 = .ok (.ifCond .ne (66), 3) := by decide +kernel
theorem de_F_know_16 : decode am_F_know.2.1 16 = .ok (.sipush (255), 3) := by decide +kernel
theorem de_F_know_19 : decode am_F_know.2.1 19 = .ok (.istore_n 2, 1) := by decide +kernel
theorem de_F_know_20 : decode am_F_know.2.1 20 = .ok (.iconst 0, 1) := by decide +kernel
theorem de_F_know_21 : decode am_F_know.2.1 21 = .ok (.istore_n 3, 1) := by decide +kernel
theorem de_F_know_22 : decode am_F_know.2.1 22 = .ok (.iload_n 3, 1) := by decide +kernel
theorem de_F_know_23 : decode am_F_know.2.1 23 = .ok (.aload_n 0, 1) := by decide +kernel
theorem de_F_know_24 : decode am_F_know.2.1 24 = .ok (.getfield 12, 3) := by decide +kernel
theorem de_F_know_27 : decode am_F_know.2.1 27 = .ok (.getfield 59, 3) := by decide +kernel
theorem de_F_know_30 : decode am_F_know.2.1 30 = .ok (.if_icmp .ge (25), 3) := by decide +kernel
theorem de_F_know_33 : decode am_F_know.2.1 33 = .ok (.iload_n 2, 1) := by decide +kernel
theorem de_F_know_34 : decode am_F_know.2.1 34 = .ok (.ifCond .eq (21), 3) := by decide +kernel
theorem de_F_know_37 : decode am_F_know.2.1 37 = .ok (.iload_n 2, 1) := by decide +kernel
theorem de_F_know_38 : decode am_F_know.2.1 38 = .ok (.aload_n 0, 1) := by decide +kernel
theorem de_F_know_39 : decode am_F_know.2.1 39 = .ok (.getfield 12, 3) := by decide +kernel
theorem de_F_know_42 : decode am_F_know.2.1 42 = .ok (.iload_n 3, 1) := by decide +kernel
theorem de_F_know_43 : decode am_F_know.2.1 43 = .ok (.iload_n 1, 1) := by decide +kernel
theorem de_F_know_44 : decode am_F_know.2.1 44 = .ok (.invokevirtual 60, 3) := by decide +kernel
theorem de_F_know_47 : decode am_F_know.2.1 47 = .ok (.iand, 1) := by decide +kernel
theorem de_F_know_48 : decode am_F_know.2.1 48 = .ok (.istore_n 2, 1) := by decide +kernel
theorem de_F_know_49 : decode am_F_know.2.1 49 = .ok (.iinc 3 (1), 3) := by decide +kernel
theorem de_F_know_52 : decode am_F_know.2.1 52 = .ok (.goto (-30), 3) := by decide +kernel
theorem de_F_know_55 : decode am_F_know.2.1 55 = .ok (.aload_n 0, 1) := by decide +kernel
theorem de_F_know_56 : decode am_F_know.2.1 56 = .ok (.getfield 34, 3) := by decide +kernel
theorem de_F_know_59 : decode am_F_know.2.1 59 = .ok (.iload_n 1, 1) := by decide +kernel
theorem de_F_know_60 : decode am_F_know.2.1 60 = .ok (.iload_n 1, 1) := by decide +kernel
theorem de_F_know_61 : decode am_F_know.2.1 61 = .ok (.ifCond .ne (10), 3) := by decide +kernel
theorem de_F_know_64 : decode am_F_know.2.1 64 = .ok (.iload_n 2, 1) := by decide +kernel
theorem de_F_know_65 : decode am_F_know.2.1 65 = .ok (.bipush (-2), 2) := by decide +kernel
theorem de_F_know_67 : decode am_F_know.2.1 67 = .ok (.iand, 1) := by decide +kernel
theorem de_F_know_68 : decode am_F_know.2.1 68 = .ok (.goto (4), 3) := by decide +kernel
theorem de_F_know_71 : decode am_F_know.2.1 71 = .ok (.iload_n 2, 1) := by decide +kernel
theorem de_F_know_72 : decode am_F_know.2.1 72 = .ok (.iastore, 1) := by decide +kernel
theorem de_F_know_73 : decode am_F_know.2.1 73 = .ok (.iinc 1 (1), 3) := by decide +kernel
theorem de_F_know_76 : decode am_F_know.2.1 76 = .ok (.goto (-74), 3) := by decide +kernel
theorem de_F_know_79 : decode am_F_know.2.1 79 = .ok (.aload_n 0, 1) := by decide +kernel
theorem de_F_know_80 : decode am_F_know.2.1 80 = .ok (.getfield 46, 3) := by decide +kernel
theorem de_F_know_83 : decode am_F_know.2.1 83 = .ok (.ifCond .ne (7), 3) := by decide +kernel
theorem de_F_know_86 : decode am_F_know.2.1 86 = .ok (.aload_n 0, 1) := by decide +kernel
theorem de_F_know_87 : decode am_F_know.2.1 87 = .ok (.invokevirtual 64, 3) := by decide +kernel
theorem de_F_know_90 : decode am_F_know.2.1 90 = .ok (.aload_n 0, 1) := by decide +kernel
theorem de_F_know_91 : decode am_F_know.2.1 91 = .ok (.iconst 1, 1) := by decide +kernel
theorem de_F_know_92 : decode am_F_know.2.1 92 = .ok (.putfield 46, 3) := by decide +kernel
theorem de_F_know_95 : decode am_F_know.2.1 95 = .ok (.return_, 1) := by decide +kernel
theorem de_F_fitsAll_0 : decode am_F_fitsAll.2.1 0 = .ok (.aload_n 0, 1) := by decide +kernel
theorem de_F_fitsAll_1 : decode am_F_fitsAll.2.1 1 = .ok (.getfield 34, 3) := by decide +kernel
theorem de_F_fitsAll_4 : decode am_F_fitsAll.2.1 4 = .ok (.iload_n 1, 1) := by decide +kernel
theorem de_F_fitsAll_5 : decode am_F_fitsAll.2.1 5 = .ok (.sipush (512), 3) := by decide +kernel
theorem de_F_fitsAll_8 : decode am_F_fitsAll.2.1 8 = .ok (.irem, 1) := by decide +kernel
theorem de_F_fitsAll_9 : decode am_F_fitsAll.2.1 9 = .ok (.iaload, 1) := by decide +kernel
theorem de_F_fitsAll_10 : decode am_F_fitsAll.2.1 10 = .ok (.iload_n 1, 1) := by decide +kernel
theorem de_F_fitsAll_11 : decode am_F_fitsAll.2.1 11 = .ok (.sipush (512), 3) := by decide +kernel
theorem de_F_fitsAll_14 : decode am_F_fitsAll.2.1 14 = .ok (.idiv, 1) := by decide +kernel
theorem de_F_fitsAll_15 : decode am_F_fitsAll.2.1 15 = .ok (.ishr, 1) := by decide +kernel
theorem de_F_fitsAll_16 : decode am_F_fitsAll.2.1 16 = .ok (.iconst 1, 1) := by decide +kernel
theorem de_F_fitsAll_17 : decode am_F_fitsAll.2.1 17 = .ok (.iand, 1) := by decide +kernel
theorem de_F_fitsAll_18 : decode am_F_fitsAll.2.1 18 = .ok (.ifCond .eq (7), 3) := by decide +kernel
theorem de_F_fitsAll_21 : decode am_F_fitsAll.2.1 21 = .ok (.iconst 1, 1) := by decide +kernel
theorem de_F_fitsAll_22 : decode am_F_fitsAll.2.1 22 = .ok (.goto (4), 3) := by decide +kernel
theorem de_F_fitsAll_25 : decode am_F_fitsAll.2.1 25 = .ok (.iconst 0, 1) := by decide +kernel
theorem de_F_fitsAll_26 : decode am_F_fitsAll.2.1 26 = .ok (.ireturn, 1) := by decide +kernel
theorem de_F_sort_0 : decode am_F_sort.2.1 0 = .ok (.aload_n 0, 1) := by decide +kernel
theorem de_F_sort_1 : decode am_F_sort.2.1 1 = .ok (.getfield 31, 3) := by decide +kernel
theorem de_F_sort_4 : decode am_F_sort.2.1 4 = .ok (.iconst 0, 1) := by decide +kernel
theorem de_F_sort_5 : decode am_F_sort.2.1 5 = .ok (.invokestatic 67, 3) := by decide +kernel
theorem de_F_sort_8 : decode am_F_sort.2.1 8 = .ok (.iconst 1, 1) := by decide +kernel
theorem de_F_sort_9 : decode am_F_sort.2.1 9 = .ok (.istore_n 1, 1) := by decide +kernel
theorem de_F_sort_10 : decode am_F_sort.2.1 10 = .ok (.iload_n 1, 1) := by decide +kernel
theorem de_F_sort_11 : decode am_F_sort.2.1 11 = .ok (.sipush (4096), 3) := by decide +kernel
theorem de_F_sort_14 : decode am_F_sort.2.1 14 = .ok (.if_icmp .ge (30), 3) := by decide +kernel
theorem de_F_sort_17 : decode am_F_sort.2.1 17 = .ok (.aload_n 0, 1) := by decide +kernel
theorem de_F_sort_18 : decode am_F_sort.2.1 18 = .ok (.iload_n 1, 1) := by decide +kernel
theorem de_F_sort_19 : decode am_F_sort.2.1 19 = .ok (.invokevirtual 73, 3) := by decide +kernel
theorem de_F_sort_22 : decode am_F_sort.2.1 22 = .ok (.ifCond .eq (16), 3) := by decide +kernel
theorem de_F_sort_25 : decode am_F_sort.2.1 25 = .ok (.aload_n 0, 1) := by decide +kernel
theorem de_F_sort_26 : decode am_F_sort.2.1 26 = .ok (.getfield 31, 3) := by decide +kernel
theorem de_F_sort_29 : decode am_F_sort.2.1 29 = .ok (.iload_n 1, 1) := by decide +kernel
theorem de_F_sort_30 : decode am_F_sort.2.1 30 = .ok (.invokestatic 77, 3) := by decide +kernel
theorem de_F_sort_33 : decode am_F_sort.2.1 33 = .ok (.dup2, 1) := by decide +kernel
theorem de_F_sort_34 : decode am_F_sort.2.1 34 = .ok (.iaload, 1) := by decide +kernel
theorem de_F_sort_35 : decode am_F_sort.2.1 35 = .ok (.iconst 1, 1) := by decide +kernel
theorem de_F_sort_36 : decode am_F_sort.2.1 36 = .ok (.iadd, 1) := by decide +kernel
theorem de_F_sort_37 : decode am_F_sort.2.1 37 = .ok (.iastore, 1) := by decide +kernel
theorem de_F_sort_38 : decode am_F_sort.2.1 38 = .ok (.iinc 1 (1), 3) := by decide +kernel
theorem de_F_sort_41 : decode am_F_sort.2.1 41 = .ok (.goto (-31), 3) := by decide +kernel
theorem de_F_sort_44 : decode am_F_sort.2.1 44 = .ok (.aload_n 0, 1) := by decide +kernel
theorem de_F_sort_45 : decode am_F_sort.2.1 45 = .ok (.iconst 0, 1) := by decide +kernel
theorem de_F_sort_46 : decode am_F_sort.2.1 46 = .ok (.putfield 27, 3) := by decide +kernel
theorem de_F_sort_49 : decode am_F_sort.2.1 49 = .ok (.iconst 0, 1) := by decide +kernel
theorem de_F_sort_50 : decode am_F_sort.2.1 50 = .ok (.istore_n 1, 1) := by decide +kernel
theorem de_F_sort_51 : decode am_F_sort.2.1 51 = .ok (.iload_n 1, 1) := by decide +kernel
theorem de_F_sort_52 : decode am_F_sort.2.1 52 = .ok (.bipush (22), 2) := by decide +kernel
theorem de_F_sort_54 : decode am_F_sort.2.1 54 = .ok (.if_icmp .gt (36), 3) := by decide +kernel
theorem de_F_sort_57 : decode am_F_sort.2.1 57 = .ok (.aload_n 0, 1) := by decide +kernel
theorem de_F_sort_58 : decode am_F_sort.2.1 58 = .ok (.getfield 31, 3) := by decide +kernel
theorem de_F_sort_61 : decode am_F_sort.2.1 61 = .ok (.iload_n 1, 1) := by decide +kernel
theorem de_F_sort_62 : decode am_F_sort.2.1 62 = .ok (.iaload, 1) := by decide +kernel
theorem de_F_sort_63 : decode am_F_sort.2.1 63 = .ok (.istore_n 2, 1) := by decide +kernel
theorem de_F_sort_64 : decode am_F_sort.2.1 64 = .ok (.aload_n 0, 1) := by decide +kernel
theorem de_F_sort_65 : decode am_F_sort.2.1 65 = .ok (.getfield 31, 3) := by decide +kernel
theorem de_F_sort_68 : decode am_F_sort.2.1 68 = .ok (.iload_n 1, 1) := by decide +kernel
theorem de_F_sort_69 : decode am_F_sort.2.1 69 = .ok (.aload_n 0, 1) := by decide +kernel
theorem de_F_sort_70 : decode am_F_sort.2.1 70 = .ok (.getfield 27, 3) := by decide +kernel
theorem de_F_sort_73 : decode am_F_sort.2.1 73 = .ok (.iastore, 1) := by decide +kernel
theorem de_F_sort_74 : decode am_F_sort.2.1 74 = .ok (.aload_n 0, 1) := by decide +kernel
theorem de_F_sort_75 : decode am_F_sort.2.1 75 = .ok (.dup, 1) := by decide +kernel
theorem de_F_sort_76 : decode am_F_sort.2.1 76 = .ok (.getfield 27, 3) := by decide +kernel
theorem de_F_sort_79 : decode am_F_sort.2.1 79 = .ok (.iload_n 2, 1) := by decide +kernel
theorem de_F_sort_80 : decode am_F_sort.2.1 80 = .ok (.iadd, 1) := by decide +kernel
theorem de_F_sort_81 : decode am_F_sort.2.1 81 = .ok (.putfield 27, 3) := by decide +kernel
theorem de_F_sort_84 : decode am_F_sort.2.1 84 = .ok (.iinc 1 (1), 3) := by decide +kernel
theorem de_F_sort_87 : decode am_F_sort.2.1 87 = .ok (.goto (-36), 3) := by decide +kernel
theorem de_F_sort_90 : decode am_F_sort.2.1 90 = .ok (.iconst 1, 1) := by decide +kernel
theorem de_F_sort_91 : decode am_F_sort.2.1 91 = .ok (.istore_n 1, 1) := by decide +kernel
theorem de_F_sort_92 : decode am_F_sort.2.1 92 = .ok (.iload_n 1, 1) := by decide +kernel
theorem de_F_sort_93 : decode am_F_sort.2.1 93 = .ok (.sipush (4096), 3) := by decide +kernel
theorem de_F_sort_96 : decode am_F_sort.2.1 96 = .ok (.if_icmp .ge (44), 3) := by decide +kernel
theorem de_F_sort_99 : decode am_F_sort.2.1 99 = .ok (.aload_n 0, 1) := by decide +kernel
theorem de_F_sort_100 : decode am_F_sort.2.1 100 = .ok (.iload_n 1, 1) := by decide +kernel
theorem de_F_sort_101 : decode am_F_sort.2.1 101 = .ok (.invokevirtual 73, 3) := by decide +kernel
theorem de_F_sort_104 : decode am_F_sort.2.1 104 = .ok (.ifCond .eq (30), 3) := by decide +kernel
theorem de_F_sort_107 : decode am_F_sort.2.1 107 = .ok (.iload_n 1, 1) := by decide +kernel
theorem de_F_sort_108 : decode am_F_sort.2.1 108 = .ok (.invokestatic 77, 3) := by decide +kernel
theorem de_F_sort_111 : decode am_F_sort.2.1 111 = .ok (.istore_n 2, 1) := by decide +kernel
theorem de_F_sort_112 : decode am_F_sort.2.1 112 = .ok (.aload_n 0, 1) := by decide +kernel
theorem de_F_sort_113 : decode am_F_sort.2.1 113 = .ok (.getfield 23, 3) := by decide +kernel
theorem de_F_sort_116 : decode am_F_sort.2.1 116 = .ok (.aload_n 0, 1) := by decide +kernel
theorem de_F_sort_117 : decode am_F_sort.2.1 117 = .ok (.getfield 31, 3) := by decide +kernel
theorem de_F_sort_120 : decode am_F_sort.2.1 120 = .ok (.iload_n 2, 1) := by decide +kernel
theorem de_F_sort_121 : decode am_F_sort.2.1 121 = .ok (.iaload, 1) := by decide +kernel
theorem de_F_sort_122 : decode am_F_sort.2.1 122 = .ok (.iload_n 1, 1) := by decide +kernel
theorem de_F_sort_123 : decode am_F_sort.2.1 123 = .ok (.iastore, 1) := by decide +kernel
theorem de_F_sort_124 : decode am_F_sort.2.1 124 = .ok (.aload_n 0, 1) := by decide +kernel
theorem de_F_sort_125 : decode am_F_sort.2.1 125 = .ok (.getfield 31, 3) := by decide +kernel
theorem de_F_sort_128 : decode am_F_sort.2.1 128 = .ok (.iload_n 2, 1) := by decide +kernel
theorem de_F_sort_129 : decode am_F_sort.2.1 129 = .ok (.dup2, 1) := by decide +kernel
theorem de_F_sort_130 : decode am_F_sort.2.1 130 = .ok (.iaload, 1) := by decide +kernel
theorem de_F_sort_131 : decode am_F_sort.2.1 131 = .ok (.iconst 1, 1) := by decide +kernel
theorem de_F_sort_132 : decode am_F_sort.2.1 132 = .ok (.iadd, 1) := by decide +kernel
theorem de_F_sort_133 : decode am_F_sort.2.1 133 = .ok (.iastore, 1) := by decide +kernel
theorem de_F_sort_134 : decode am_F_sort.2.1 134 = .ok (.iinc 1 (1), 3) := by decide +kernel
theorem de_F_sort_137 : decode am_F_sort.2.1 137 = .ok (.goto (-45), 3) := by decide +kernel
theorem de_F_sort_140 : decode am_F_sort.2.1 140 = .ok (.return_, 1) := by decide +kernel
theorem de_F_rivalCount_0 : decode am_F_rivalCount.2.1 0 = .ok (.aload_n 0, 1) := by decide +kernel
theorem de_F_rivalCount_1 : decode am_F_rivalCount.2.1 1 = .ok (.getfield 27, 3) := by decide +kernel
theorem de_F_rivalCount_4 : decode am_F_rivalCount.2.1 4 = .ok (.ifCond .ne (5), 3) := by decide +kernel
theorem de_F_rivalCount_7 : decode am_F_rivalCount.2.1 7 = .ok (.iconst 0, 1) := by decide +kernel
theorem de_F_rivalCount_8 : decode am_F_rivalCount.2.1 8 = .ok (.ireturn, 1) := by decide +kernel
theorem de_F_rivalCount_9 : decode am_F_rivalCount.2.1 9 = .ok (.aload_n 0, 1) := by decide +kernel
theorem de_F_rivalCount_10 : decode am_F_rivalCount.2.1 10 = .ok (.getfield 31, 3) := by decide +kernel
theorem de_F_rivalCount_13 : decode am_F_rivalCount.2.1 13 = .ok (.aload_n 0, 1) := by decide +kernel
theorem de_F_rivalCount_14 : decode am_F_rivalCount.2.1 14 = .ok (.getfield 23, 3) := by decide +kernel
theorem de_F_rivalCount_17 : decode am_F_rivalCount.2.1 17 = .ok (.iconst 0, 1) := by decide +kernel
theorem de_F_rivalCount_18 : decode am_F_rivalCount.2.1 18 = .ok (.iaload, 1) := by decide +kernel
theorem de_F_rivalCount_19 : decode am_F_rivalCount.2.1 19 = .ok (.invokestatic 77, 3) := by decide +kernel
theorem de_F_rivalCount_22 : decode am_F_rivalCount.2.1 22 = .ok (.iload_n 1, 1) := by decide +kernel
theorem de_F_rivalCount_23 : decode am_F_rivalCount.2.1 23 = .ok (.iadd, 1) := by decide +kernel
theorem de_F_rivalCount_24 : decode am_F_rivalCount.2.1 24 = .ok (.bipush (22), 2) := by decide +kernel
theorem de_F_rivalCount_26 : decode am_F_rivalCount.2.1 26 = .ok (.invokestatic 83, 3) := by decide +kernel
theorem de_F_rivalCount_29 : decode am_F_rivalCount.2.1 29 = .ok (.iaload, 1) := by decide +kernel
theorem de_F_rivalCount_30 : decode am_F_rivalCount.2.1 30 = .ok (.ireturn, 1) := by decide +kernel
theorem de_F_tightest_0 : decode am_F_tightest.2.1 0 = .ok (.aload_n 0, 1) := by decide +kernel
theorem de_F_tightest_1 : decode am_F_tightest.2.1 1 = .ok (.getfield 50, 3) := by decide +kernel
theorem de_F_tightest_4 : decode am_F_tightest.2.1 4 = .ok (.iconst (-1), 1) := by decide +kernel
theorem de_F_tightest_5 : decode am_F_tightest.2.1 5 = .ok (.if_icmp .ne (12), 3) := by decide +kernel
theorem de_F_tightest_8 : decode am_F_tightest.2.1 8 = .ok (.aload_n 0, 1) := by decide +kernel
theorem de_F_tightest_9 : decode am_F_tightest.2.1 9 = .ok (.bipush (9), 2) := by decide +kernel
theorem de_F_tightest_11 : decode am_F_tightest.2.1 11 = .ok (.invokevirtual 88, 3) := by decide +kernel
theorem de_F_tightest_14 : decode am_F_tightest.2.1 14 = .ok (.goto (4), 3) := by decide +kernel
theorem de_F_tightest_17 : decode am_F_tightest.2.1 17 = .ok (.iconst 0, 1) := by decide +kernel
theorem de_F_tightest_18 : decode am_F_tightest.2.1 18 = .ok (.istore_n 1, 1) := by decide +kernel
theorem de_F_tightest_19 : decode am_F_tightest.2.1 19 = .ok (.ldc 93, 2) := by decide +kernel
theorem de_F_tightest_21 : decode am_F_tightest.2.1 21 = .ok (.istore_n 2, 1) := by decide +kernel
theorem de_F_tightest_22 : decode am_F_tightest.2.1 22 = .ok (.aload_n 0, 1) := by decide +kernel
theorem de_F_tightest_23 : decode am_F_tightest.2.1 23 = .ok (.getfield 37, 3) := by decide +kernel
theorem de_F_tightest_26 : decode am_F_tightest.2.1 26 = .ok (.iconst 0, 1) := by decide +kernel
theorem de_F_tightest_27 : decode am_F_tightest.2.1 27 = .ok (.invokestatic 67, 3) := by decide +kernel
theorem de_F_tightest_30 : decode am_F_tightest.2.1 30 = .ok (.iconst 0, 1) := by decide +kernel
theorem de_F_tightest_31 : decode am_F_tightest.2.1 31 = .ok (.istore_n 3, 1) := by decide +kernel
theorem de_F_tightest_32 : decode am_F_tightest.2.1 32 = .ok (.iload_n 3, 1) := by decide +kernel
theorem de_F_tightest_33 : decode am_F_tightest.2.1 33 = .ok (.iload_n 1, 1) := by decide +kernel
theorem de_F_tightest_34 : decode am_F_tightest.2.1 34 = .ok (.if_icmp .ge (77), 3) := by decide +kernel
theorem de_F_tightest_37 : decode am_F_tightest.2.1 37 = .ok (.aload_n 0, 1) := by decide +kernel
theorem de_F_tightest_38 : decode am_F_tightest.2.1 38 = .ok (.getfield 23, 3) := by decide +kernel
theorem de_F_tightest_41 : decode am_F_tightest.2.1 41 = .ok (.iload_n 3, 1) := by decide +kernel
theorem de_F_tightest_42 : decode am_F_tightest.2.1 42 = .ok (.iaload, 1) := by decide +kernel
theorem de_F_tightest_43 : decode am_F_tightest.2.1 43 = .ok (.sipush (512), 3) := by decide +kernel
theorem de_F_tightest_46 : decode am_F_tightest.2.1 46 = .ok (.irem, 1) := by decide +kernel
theorem de_F_tightest_47 : decode am_F_tightest.2.1 47 = .ok (.istore 4, 2) := by decide +kernel
theorem de_F_tightest_49 : decode am_F_tightest.2.1 49 = .ok (.aload_n 0, 1) := by decide +kernel
theorem de_F_tightest_50 : decode am_F_tightest.2.1 50 = .ok (.getfield 37, 3) := by decide +kernel
theorem de_F_tightest_53 : decode am_F_tightest.2.1 53 = .ok (.iload 4, 2) := by decide +kernel
theorem de_F_tightest_55 : decode am_F_tightest.2.1 55 = .ok (.iaload, 1) := by decide +kernel
theorem de_F_tightest_56 : decode am_F_tightest.2.1 56 = .ok (.ifCond .eq (7), 3) := by decide +kernel
theorem de_F_tightest_59 : decode am_F_tightest.2.1 59 = .ok (.iload_n 2, 1) := by decide +kernel
theorem de_F_tightest_60 : decode am_F_tightest.2.1 60 = .ok (.goto (16), 3) := by decide +kernel
theorem de_F_tightest_63 : decode am_F_tightest.2.1 63 = .ok (.aload_n 0, 1) := by decide +kernel
theorem de_F_tightest_64 : decode am_F_tightest.2.1 64 = .ok (.getfield 12, 3) := by decide +kernel
theorem de_F_tightest_67 : decode am_F_tightest.2.1 67 = .ok (.aload_n 0, 1) := by decide +kernel
theorem de_F_tightest_68 : decode am_F_tightest.2.1 68 = .ok (.getfield 23, 3) := by decide +kernel
theorem de_F_tightest_71 : decode am_F_tightest.2.1 71 = .ok (.iload_n 3, 1) := by decide +kernel
theorem de_F_tightest_72 : decode am_F_tightest.2.1 72 = .ok (.iaload, 1) := by decide +kernel
theorem de_F_tightest_73 : decode am_F_tightest.2.1 73 = .ok (.invokevirtual 94, 3) := by decide +kernel
theorem de_F_tightest_76 : decode am_F_tightest.2.1 76 = .ok (.istore 5, 2) := by decide +kernel
theorem de_F_tightest_78 : decode am_F_tightest.2.1 78 = .ok (.aload_n 0, 1) := by decide +kernel
theorem de_F_tightest_79 : decode am_F_tightest.2.1 79 = .ok (.getfield 37, 3) := by decide +kernel
theorem de_F_tightest_82 : decode am_F_tightest.2.1 82 = .ok (.iload 4, 2) := by decide +kernel
theorem de_F_tightest_84 : decode am_F_tightest.2.1 84 = .ok (.iconst 1, 1) := by decide +kernel
theorem de_F_tightest_85 : decode am_F_tightest.2.1 85 = .ok (.iastore, 1) := by decide +kernel
theorem de_F_tightest_86 : decode am_F_tightest.2.1 86 = .ok (.iload 5, 2) := by decide +kernel
theorem de_F_tightest_88 : decode am_F_tightest.2.1 88 = .ok (.iload_n 2, 1) := by decide +kernel
theorem de_F_tightest_89 : decode am_F_tightest.2.1 89 = .ok (.if_icmp .ge (16), 3) := by decide +kernel
theorem de_F_tightest_92 : decode am_F_tightest.2.1 92 = .ok (.iload 5, 2) := by decide +kernel
theorem de_F_tightest_94 : decode am_F_tightest.2.1 94 = .ok (.istore_n 2, 1) := by decide +kernel
theorem de_F_tightest_95 : decode am_F_tightest.2.1 95 = .ok (.aload_n 0, 1) := by decide +kernel
theorem de_F_tightest_96 : decode am_F_tightest.2.1 96 = .ok (.aload_n 0, 1) := by decide +kernel
theorem de_F_tightest_97 : decode am_F_tightest.2.1 97 = .ok (.getfield 23, 3) := by decide +kernel
theorem de_F_tightest_100 : decode am_F_tightest.2.1 100 = .ok (.iload_n 3, 1) := by decide +kernel
theorem de_F_tightest_101 : decode am_F_tightest.2.1 101 = .ok (.iaload, 1) := by decide +kernel
theorem de_F_tightest_102 : decode am_F_tightest.2.1 102 = .ok (.putfield 50, 3) := by decide +kernel
theorem de_F_tightest_105 : decode am_F_tightest.2.1 105 = .ok (.iinc 3 (1), 3) := by decide +kernel
theorem de_F_tightest_108 : decode am_F_tightest.2.1 108 = .ok (.goto (-76), 3) := by decide +kernel
theorem de_F_tightest_111 : decode am_F_tightest.2.1 111 = .ok (.aload_n 0, 1) := by decide +kernel
theorem de_F_tightest_112 : decode am_F_tightest.2.1 112 = .ok (.getfield 50, 3) := by decide +kernel
theorem de_F_tightest_115 : decode am_F_tightest.2.1 115 = .ok (.ireturn, 1) := by decide +kernel
theorem de_F_letting_0 : decode am_F_letting.2.1 0 = .ok (.aload_n 0, 1) := by decide +kernel
theorem de_F_letting_1 : decode am_F_letting.2.1 1 = .ok (.iload_n 1, 1) := by decide +kernel
theorem de_F_letting_2 : decode am_F_letting.2.1 2 = .ok (.iload_n 2, 1) := by decide +kernel
theorem de_F_letting_3 : decode am_F_letting.2.1 3 = .ok (.invokevirtual 97, 3) := by decide +kernel
theorem de_F_letting_6 : decode am_F_letting.2.1 6 = .ok (.aload_n 0, 1) := by decide +kernel
theorem de_F_letting_7 : decode am_F_letting.2.1 7 = .ok (.getfield 40, 3) := by decide +kernel
theorem de_F_letting_10 : decode am_F_letting.2.1 10 = .ok (.iload_n 3, 1) := by decide +kernel
theorem de_F_letting_11 : decode am_F_letting.2.1 11 = .ok (.iaload, 1) := by decide +kernel
theorem de_F_letting_12 : decode am_F_letting.2.1 12 = .ok (.ireturn, 1) := by decide +kernel
theorem de_F_asked_0 : decode am_F_asked.2.1 0 = .ok (.aload_n 0, 1) := by decide +kernel
theorem de_F_asked_1 : decode am_F_asked.2.1 1 = .ok (.iload_n 1, 1) := by decide +kernel
theorem de_F_asked_2 : decode am_F_asked.2.1 2 = .ok (.iload_n 2, 1) := by decide +kernel
theorem de_F_asked_3 : decode am_F_asked.2.1 3 = .ok (.invokevirtual 97, 3) := by decide +kernel
theorem de_F_asked_6 : decode am_F_asked.2.1 6 = .ok (.aload_n 0, 1) := by decide +kernel
theorem de_F_asked_7 : decode am_F_asked.2.1 7 = .ok (.iload_n 2, 1) := by decide +kernel
theorem de_F_asked_8 : decode am_F_asked.2.1 8 = .ok (.invokevirtual 88, 3) := by decide +kernel
theorem de_F_asked_11 : decode am_F_asked.2.1 11 = .ok (.istore_n 3, 1) := by decide +kernel
theorem de_F_asked_12 : decode am_F_asked.2.1 12 = .ok (.iload_n 3, 1) := by decide +kernel
theorem de_F_asked_13 : decode am_F_asked.2.1 13 = .ok (.istore 4, 2) := by decide +kernel
theorem de_F_asked_15 : decode am_F_asked.2.1 15 = .ok (.iconst (-1), 1) := by decide +kernel
theorem de_F_asked_16 : decode am_F_asked.2.1 16 = .ok (.istore 5, 2) := by decide +kernel
theorem de_F_asked_18 : decode am_F_asked.2.1 18 = .ok (.iconst 0, 1) := by decide +kernel
theorem de_F_asked_19 : decode am_F_asked.2.1 19 = .ok (.istore 6, 2) := by decide +kernel
theorem de_F_asked_21 : decode am_F_asked.2.1 21 = .ok (.iload 6, 2) := by decide +kernel
theorem de_F_asked_23 : decode am_F_asked.2.1 23 = .ok (.aload_n 0, 1) := by decide +kernel
theorem de_F_asked_24 : decode am_F_asked.2.1 24 = .ok (.getfield 40, 3) := by decide +kernel
theorem de_F_asked_27 : decode am_F_asked.2.1 27 = .ok (.arraylength, 1) := by decide +kernel
theorem de_F_asked_28 : decode am_F_asked.2.1 28 = .ok (.if_icmp .ge (45), 3) := by decide +kernel
theorem de_F_asked_31 : decode am_F_asked.2.1 31 = .ok (.aload_n 0, 1) := by decide +kernel
theorem de_F_asked_32 : decode am_F_asked.2.1 32 = .ok (.getfield 40, 3) := by decide +kernel
theorem de_F_asked_35 : decode am_F_asked.2.1 35 = .ok (.iload 6, 2) := by decide +kernel
theorem de_F_asked_37 : decode am_F_asked.2.1 37 = .ok (.iaload, 1) := by decide +kernel
theorem de_F_asked_38 : decode am_F_asked.2.1 38 = .ok (.iload_n 3, 1) := by decide +kernel
theorem de_F_asked_39 : decode am_F_asked.2.1 39 = .ok (.aload_n 0, 1) := by decide +kernel
theorem de_F_asked_40 : decode am_F_asked.2.1 40 = .ok (.getfield 40, 3) := by decide +kernel
theorem de_F_asked_43 : decode am_F_asked.2.1 43 = .ok (.iload 6, 2) := by decide +kernel
theorem de_F_asked_45 : decode am_F_asked.2.1 45 = .ok (.iaload, 1) := by decide +kernel
theorem de_F_asked_46 : decode am_F_asked.2.1 46 = .ok (.isub, 1) := by decide +kernel
theorem de_F_asked_47 : decode am_F_asked.2.1 47 = .ok (.invokestatic 101, 3) := by decide +kernel
theorem de_F_asked_50 : decode am_F_asked.2.1 50 = .ok (.istore 7, 2) := by decide +kernel
theorem de_F_asked_52 : decode am_F_asked.2.1 52 = .ok (.iload 7, 2) := by decide +kernel
theorem de_F_asked_54 : decode am_F_asked.2.1 54 = .ok (.iload 4, 2) := by decide +kernel
theorem de_F_asked_56 : decode am_F_asked.2.1 56 = .ok (.if_icmp .ge (11), 3) := by decide +kernel
theorem de_F_asked_59 : decode am_F_asked.2.1 59 = .ok (.iload 7, 2) := by decide +kernel
theorem de_F_asked_61 : decode am_F_asked.2.1 61 = .ok (.istore 4, 2) := by decide +kernel
theorem de_F_asked_63 : decode am_F_asked.2.1 63 = .ok (.iload 6, 2) := by decide +kernel
theorem de_F_asked_65 : decode am_F_asked.2.1 65 = .ok (.istore 5, 2) := by decide +kernel
theorem de_F_asked_67 : decode am_F_asked.2.1 67 = .ok (.iinc 6 (1), 3) := by decide +kernel
theorem de_F_asked_70 : decode am_F_asked.2.1 70 = .ok (.goto (-49), 3) := by decide +kernel
theorem de_F_asked_73 : decode am_F_asked.2.1 73 = .ok (.iload 5, 2) := by decide +kernel
theorem de_F_asked_75 : decode am_F_asked.2.1 75 = .ok (.ireturn, 1) := by decide +kernel
theorem de_F_leftOver_0 : decode am_F_leftOver.2.1 0 = .ok (.aload_n 0, 1) := by decide +kernel
theorem de_F_leftOver_1 : decode am_F_leftOver.2.1 1 = .ok (.iload_n 1, 1) := by decide +kernel
theorem de_F_leftOver_2 : decode am_F_leftOver.2.1 2 = .ok (.iload_n 2, 1) := by decide +kernel
theorem de_F_leftOver_3 : decode am_F_leftOver.2.1 3 = .ok (.invokevirtual 104, 3) := by decide +kernel
theorem de_F_leftOver_6 : decode am_F_leftOver.2.1 6 = .ok (.istore_n 3, 1) := by decide +kernel
theorem de_F_leftOver_7 : decode am_F_leftOver.2.1 7 = .ok (.iload_n 3, 1) := by decide +kernel
theorem de_F_leftOver_8 : decode am_F_leftOver.2.1 8 = .ok (.iconst (-1), 1) := by decide +kernel
theorem de_F_leftOver_9 : decode am_F_leftOver.2.1 9 = .ok (.if_icmp .ne (7), 3) := by decide +kernel
theorem de_F_leftOver_12 : decode am_F_leftOver.2.1 12 = .ok (.iconst 0, 1) := by decide +kernel
theorem de_F_leftOver_13 : decode am_F_leftOver.2.1 13 = .ok (.goto (24), 3) := by decide +kernel
theorem de_F_leftOver_16 : decode am_F_leftOver.2.1 16 = .ok (.aload_n 0, 1) := by decide +kernel
theorem de_F_leftOver_17 : decode am_F_leftOver.2.1 17 = .ok (.getfield 40, 3) := by decide +kernel
theorem de_F_leftOver_20 : decode am_F_leftOver.2.1 20 = .ok (.iload_n 3, 1) := by decide +kernel
theorem de_F_leftOver_21 : decode am_F_leftOver.2.1 21 = .ok (.iaload, 1) := by decide +kernel
theorem de_F_leftOver_22 : decode am_F_leftOver.2.1 22 = .ok (.aload_n 0, 1) := by decide +kernel
theorem de_F_leftOver_23 : decode am_F_leftOver.2.1 23 = .ok (.iload_n 2, 1) := by decide +kernel
theorem de_F_leftOver_24 : decode am_F_leftOver.2.1 24 = .ok (.invokevirtual 88, 3) := by decide +kernel
theorem de_F_leftOver_27 : decode am_F_leftOver.2.1 27 = .ok (.aload_n 0, 1) := by decide +kernel
theorem de_F_leftOver_28 : decode am_F_leftOver.2.1 28 = .ok (.getfield 40, 3) := by decide +kernel
theorem de_F_leftOver_31 : decode am_F_leftOver.2.1 31 = .ok (.iload_n 3, 1) := by decide +kernel
theorem de_F_leftOver_32 : decode am_F_leftOver.2.1 32 = .ok (.iaload, 1) := by decide +kernel
theorem de_F_leftOver_33 : decode am_F_leftOver.2.1 33 = .ok (.isub, 1) := by decide +kernel
theorem de_F_leftOver_34 : decode am_F_leftOver.2.1 34 = .ok (.invokestatic 101, 3) := by decide +kernel
theorem de_F_leftOver_37 : decode am_F_leftOver.2.1 37 = .ok (.ireturn, 1) := by decide +kernel
theorem de_F_vote_0 : decode am_F_vote.2.1 0 = .ok (.aload_n 0, 1) := by decide +kernel
theorem de_F_vote_1 : decode am_F_vote.2.1 1 = .ok (.iload_n 2, 1) := by decide +kernel
theorem de_F_vote_2 : decode am_F_vote.2.1 2 = .ok (.invokevirtual 88, 3) := by decide +kernel
theorem de_F_vote_5 : decode am_F_vote.2.1 5 = .ok (.istore_n 3, 1) := by decide +kernel
theorem de_F_vote_6 : decode am_F_vote.2.1 6 = .ok (.aload_n 0, 1) := by decide +kernel
theorem de_F_vote_7 : decode am_F_vote.2.1 7 = .ok (.getfield 43, 3) := by decide +kernel
theorem de_F_vote_10 : decode am_F_vote.2.1 10 = .ok (.iconst 0, 1) := by decide +kernel
theorem de_F_vote_11 : decode am_F_vote.2.1 11 = .ok (.invokestatic 67, 3) := by decide +kernel
theorem de_F_vote_14 : decode am_F_vote.2.1 14 = .ok (.iconst 0, 1) := by decide +kernel
theorem de_F_vote_15 : decode am_F_vote.2.1 15 = .ok (.istore 4, 2) := by decide +kernel
theorem de_F_vote_17 : decode am_F_vote.2.1 17 = .ok (.iload 4, 2) := by decide +kernel
theorem de_F_vote_19 : decode am_F_vote.2.1 19 = .ok (.iload_n 3, 1) := by decide +kernel
theorem de_F_vote_20 : decode am_F_vote.2.1 20 = .ok (.if_icmp .ge (37), 3) := by decide +kernel
theorem de_F_vote_23 : decode am_F_vote.2.1 23 = .ok (.aload_n 0, 1) := by decide +kernel
theorem de_F_vote_24 : decode am_F_vote.2.1 24 = .ok (.getfield 43, 3) := by decide +kernel
theorem de_F_vote_27 : decode am_F_vote.2.1 27 = .ok (.aload_n 0, 1) := by decide +kernel
theorem de_F_vote_28 : decode am_F_vote.2.1 28 = .ok (.getfield 22, 3) := by decide +kernel
theorem de_F_vote_31 : decode am_F_vote.2.1 31 = .ok (.iload_n 1, 1) := by decide +kernel
theorem de_F_vote_32 : decode am_F_vote.2.1 32 = .ok (.aload_n 0, 1) := by decide +kernel
theorem de_F_vote_33 : decode am_F_vote.2.1 33 = .ok (.getfield 23, 3) := by decide +kernel
theorem de_F_vote_36 : decode am_F_vote.2.1 36 = .ok (.iload 4, 2) := by decide +kernel
theorem de_F_vote_38 : decode am_F_vote.2.1 38 = .ok (.iaload, 1) := by decide +kernel
theorem de_F_vote_39 : decode am_F_vote.2.1 39 = .ok (.invokevirtual 107, 3) := by decide +kernel
theorem de_F_vote_42 : decode am_F_vote.2.1 42 = .ok (.sipush (128), 3) := by decide +kernel
theorem de_F_vote_45 : decode am_F_vote.2.1 45 = .ok (.irem, 1) := by decide +kernel
theorem de_F_vote_46 : decode am_F_vote.2.1 46 = .ok (.dup2, 1) := by decide +kernel
theorem de_F_vote_47 : decode am_F_vote.2.1 47 = .ok (.iaload, 1) := by decide +kernel
theorem de_F_vote_48 : decode am_F_vote.2.1 48 = .ok (.iconst 1, 1) := by decide +kernel
theorem de_F_vote_49 : decode am_F_vote.2.1 49 = .ok (.iadd, 1) := by decide +kernel
theorem de_F_vote_50 : decode am_F_vote.2.1 50 = .ok (.iastore, 1) := by decide +kernel
theorem de_F_vote_51 : decode am_F_vote.2.1 51 = .ok (.iinc 4 (1), 3) := by decide +kernel
theorem de_F_vote_54 : decode am_F_vote.2.1 54 = .ok (.goto (-37), 3) := by decide +kernel
theorem de_F_vote_57 : decode am_F_vote.2.1 57 = .ok (.aload_n 0, 1) := by decide +kernel
theorem de_F_vote_58 : decode am_F_vote.2.1 58 = .ok (.getfield 40, 3) := by decide +kernel
theorem de_F_vote_61 : decode am_F_vote.2.1 61 = .ok (.iconst 0, 1) := by decide +kernel
theorem de_F_vote_62 : decode am_F_vote.2.1 62 = .ok (.invokestatic 67, 3) := by decide +kernel
theorem de_F_vote_65 : decode am_F_vote.2.1 65 = .ok (.iconst 1, 1) := by decide +kernel
theorem de_F_vote_66 : decode am_F_vote.2.1 66 = .ok (.istore 4, 2) := by decide +kernel
theorem de_F_vote_68 : decode am_F_vote.2.1 68 = .ok (.iload 4, 2) := by decide +kernel
theorem de_F_vote_70 : decode am_F_vote.2.1 70 = .ok (.sipush (128), 3) := by decide +kernel
theorem de_F_vote_73 : decode am_F_vote.2.1 73 = .ok (.if_icmp .ge (60), 3) := by decide +kernel
theorem de_F_vote_76 : decode am_F_vote.2.1 76 = .ok (.iconst 0, 1) := by decide +kernel
theorem de_F_vote_77 : decode am_F_vote.2.1 77 = .ok (.istore 5, 2) := by decide +kernel
theorem de_F_vote_79 : decode am_F_vote.2.1 79 = .ok (.iload 5, 2) := by decide +kernel
theorem de_F_vote_81 : decode am_F_vote.2.1 81 = .ok (.bipush (15), 2) := by decide +kernel
theorem de_F_vote_83 : decode am_F_vote.2.1 83 = .ok (.if_icmp .gt (44), 3) := by decide +kernel
theorem de_F_vote_86 : decode am_F_vote.2.1 86 = .ok (.aload_n 0, 1) := by decide +kernel
theorem de_F_vote_87 : decode am_F_vote.2.1 87 = .ok (.getfield 43, 3) := by decide +kernel
theorem de_F_vote_90 : decode am_F_vote.2.1 90 = .ok (.iload 4, 2) := by decide +kernel
theorem de_F_vote_92 : decode am_F_vote.2.1 92 = .ok (.iaload, 1) := by decide +kernel
theorem de_F_vote_93 : decode am_F_vote.2.1 93 = .ok (.ifCond .eq (34), 3) := by decide +kernel
theorem de_F_vote_96 : decode am_F_vote.2.1 96 = .ok (.aload_n 0, 1) := by decide +kernel
theorem de_F_vote_97 : decode am_F_vote.2.1 97 = .ok (.iload 5, 2) := by decide +kernel
theorem de_F_vote_99 : decode am_F_vote.2.1 99 = .ok (.aload_n 0, 1) := by decide +kernel
theorem de_F_vote_100 : decode am_F_vote.2.1 100 = .ok (.getfield 22, 3) := by decide +kernel
theorem de_F_vote_103 : decode am_F_vote.2.1 103 = .ok (.iload_n 1, 1) := by decide +kernel
theorem de_F_vote_104 : decode am_F_vote.2.1 104 = .ok (.iload 4, 2) := by decide +kernel
theorem de_F_vote_106 : decode am_F_vote.2.1 106 = .ok (.iload 5, 2) := by decide +kernel
theorem de_F_vote_108 : decode am_F_vote.2.1 108 = .ok (.invokevirtual 112, 3) := by decide +kernel
theorem de_F_vote_111 : decode am_F_vote.2.1 111 = .ok (.aload_n 0, 1) := by decide +kernel
theorem de_F_vote_112 : decode am_F_vote.2.1 112 = .ok (.getfield 43, 3) := by decide +kernel
theorem de_F_vote_115 : decode am_F_vote.2.1 115 = .ok (.iload 4, 2) := by decide +kernel
theorem de_F_vote_117 : decode am_F_vote.2.1 117 = .ok (.iaload, 1) := by decide +kernel
theorem de_F_vote_118 : decode am_F_vote.2.1 118 = .ok (.invokevirtual 116, 3) := by decide +kernel
theorem de_F_vote_121 : decode am_F_vote.2.1 121 = .ok (.iinc 5 (1), 3) := by decide +kernel
theorem de_F_vote_124 : decode am_F_vote.2.1 124 = .ok (.goto (-45), 3) := by decide +kernel
theorem de_F_vote_127 : decode am_F_vote.2.1 127 = .ok (.iinc 4 (1), 3) := by decide +kernel
theorem de_F_vote_130 : decode am_F_vote.2.1 130 = .ok (.goto (-62), 3) := by decide +kernel
theorem de_F_vote_133 : decode am_F_vote.2.1 133 = .ok (.return_, 1) := by decide +kernel
theorem de_F_addVotes_0 : decode am_F_addVotes.2.1 0 = .ok (.iconst 0, 1) := by decide +kernel
theorem de_F_addVotes_1 : decode am_F_addVotes.2.1 1 = .ok (.istore 4, 2) := by decide +kernel
theorem de_F_addVotes_3 : decode am_F_addVotes.2.1 3 = .ok (.iload 4, 2) := by decide +kernel
theorem de_F_addVotes_5 : decode am_F_addVotes.2.1 5 = .ok (.bipush (12), 2) := by decide +kernel
theorem de_F_addVotes_7 : decode am_F_addVotes.2.1 7 = .ok (.if_icmp .ge (38), 3) := by decide +kernel
theorem de_F_addVotes_10 : decode am_F_addVotes.2.1 10 = .ok (.iload_n 2, 1) := by decide +kernel
theorem de_F_addVotes_11 : decode am_F_addVotes.2.1 11 = .ok (.ifCond .eq (34), 3) := by decide +kernel
theorem de_F_addVotes_14 : decode am_F_addVotes.2.1 14 = .ok (.iload_n 2, 1) := by decide +kernel
theorem de_F_addVotes_15 : decode am_F_addVotes.2.1 15 = .ok (.iload 4, 2) := by decide +kernel
theorem de_F_addVotes_17 : decode am_F_addVotes.2.1 17 = .ok (.ishr, 1) := by decide +kernel
theorem de_F_addVotes_18 : decode am_F_addVotes.2.1 18 = .ok (.iconst 1, 1) := by decide +kernel
theorem de_F_addVotes_19 : decode am_F_addVotes.2.1 19 = .ok (.iand, 1) := by decide +kernel
theorem de_F_addVotes_20 : decode am_F_addVotes.2.1 20 = .ok (.ifCond .eq (19), 3) := by decide +kernel
theorem de_F_addVotes_23 : decode am_F_addVotes.2.1 23 = .ok (.aload_n 0, 1) := by decide +kernel
theorem de_F_addVotes_24 : decode am_F_addVotes.2.1 24 = .ok (.getfield 40, 3) := by decide +kernel
theorem de_F_addVotes_27 : decode am_F_addVotes.2.1 27 = .ok (.bipush (16), 2) := by decide +kernel
theorem de_F_addVotes_29 : decode am_F_addVotes.2.1 29 = .ok (.iload_n 1, 1) := by decide +kernel
theorem de_F_addVotes_30 : decode am_F_addVotes.2.1 30 = .ok (.imul, 1) := by decide +kernel
theorem de_F_addVotes_31 : decode am_F_addVotes.2.1 31 = .ok (.iload 4, 2) := by decide +kernel
theorem de_F_addVotes_33 : decode am_F_addVotes.2.1 33 = .ok (.iadd, 1) := by decide +kernel
theorem de_F_addVotes_34 : decode am_F_addVotes.2.1 34 = .ok (.dup2, 1) := by decide +kernel
theorem de_F_addVotes_35 : decode am_F_addVotes.2.1 35 = .ok (.iaload, 1) := by decide +kernel
theorem de_F_addVotes_36 : decode am_F_addVotes.2.1 36 = .ok (.iload_n 3, 1) := by decide +kernel
theorem de_F_addVotes_37 : decode am_F_addVotes.2.1 37 = .ok (.iadd, 1) := by decide +kernel
theorem de_F_addVotes_38 : decode am_F_addVotes.2.1 38 = .ok (.iastore, 1) := by decide +kernel
theorem de_F_addVotes_39 : decode am_F_addVotes.2.1 39 = .ok (.iinc 4 (1), 3) := by decide +kernel
theorem de_F_addVotes_42 : decode am_F_addVotes.2.1 42 = .ok (.goto (-39), 3) := by decide +kernel
theorem de_F_addVotes_45 : decode am_F_addVotes.2.1 45 = .ok (.return_, 1) := by decide +kernel
theorem de_F_cheatCode_0 : decode am_F_cheatCode.2.1 0 = .ok (.aload_n 0, 1) := by decide +kernel
theorem de_F_cheatCode_1 : decode am_F_cheatCode.2.1 1 = .ok (.getfield 53, 3) := by decide +kernel
theorem de_F_cheatCode_4 : decode am_F_cheatCode.2.1 4 = .ok (.iload_n 1, 1) := by decide +kernel
theorem de_F_cheatCode_5 : decode am_F_cheatCode.2.1 5 = .ok (.if_icmp .ne (8), 3) := by decide +kernel
theorem de_F_cheatCode_8 : decode am_F_cheatCode.2.1 8 = .ok (.aload_n 0, 1) := by decide +kernel
theorem de_F_cheatCode_9 : decode am_F_cheatCode.2.1 9 = .ok (.getfield 56, 3) := by decide +kernel
theorem de_F_cheatCode_12 : decode am_F_cheatCode.2.1 12 = .ok (.ireturn, 1) := by decide +kernel
theorem de_F_cheatCode_13 : decode am_F_cheatCode.2.1 13 = .ok (.ldc 93, 2) := by decide +kernel
theorem de_F_cheatCode_15 : decode am_F_cheatCode.2.1 15 = .ok (.istore_n 2, 1) := by decide +kernel
theorem de_F_cheatCode_16 : decode am_F_cheatCode.2.1 16 = .ok (.iconst 1, 1) := by decide +kernel
theorem de_F_cheatCode_17 : decode am_F_cheatCode.2.1 17 = .ok (.istore_n 3, 1) := by decide +kernel
theorem de_F_cheatCode_18 : decode am_F_cheatCode.2.1 18 = .ok (.iload_n 3, 1) := by decide +kernel
theorem de_F_cheatCode_19 : decode am_F_cheatCode.2.1 19 = .ok (.sipush (4096), 3) := by decide +kernel
theorem de_F_cheatCode_22 : decode am_F_cheatCode.2.1 22 = .ok (.if_icmp .ge (46), 3) := by decide +kernel
theorem de_F_cheatCode_25 : decode am_F_cheatCode.2.1 25 = .ok (.iload_n 2, 1) := by decide +kernel
theorem de_F_cheatCode_26 : decode am_F_cheatCode.2.1 26 = .ok (.ifCond .le (42), 3) := by decide +kernel
theorem de_F_cheatCode_29 : decode am_F_cheatCode.2.1 29 = .ok (.iload_n 3, 1) := by decide +kernel
theorem de_F_cheatCode_30 : decode am_F_cheatCode.2.1 30 = .ok (.invokestatic 77, 3) := by decide +kernel
theorem de_F_cheatCode_33 : decode am_F_cheatCode.2.1 33 = .ok (.iload_n 1, 1) := by decide +kernel
theorem de_F_cheatCode_34 : decode am_F_cheatCode.2.1 34 = .ok (.if_icmp .gt (28), 3) := by decide +kernel
theorem de_F_cheatCode_37 : decode am_F_cheatCode.2.1 37 = .ok (.aload_n 0, 1) := by decide +kernel
theorem de_F_cheatCode_38 : decode am_F_cheatCode.2.1 38 = .ok (.getfield 12, 3) := by decide +kernel
theorem de_F_cheatCode_41 : decode am_F_cheatCode.2.1 41 = .ok (.iload_n 3, 1) := by decide +kernel
theorem de_F_cheatCode_42 : decode am_F_cheatCode.2.1 42 = .ok (.iload_n 2, 1) := by decide +kernel
theorem de_F_cheatCode_43 : decode am_F_cheatCode.2.1 43 = .ok (.invokevirtual 120, 3) := by decide +kernel
theorem de_F_cheatCode_46 : decode am_F_cheatCode.2.1 46 = .ok (.istore 4, 2) := by decide +kernel
theorem de_F_cheatCode_48 : decode am_F_cheatCode.2.1 48 = .ok (.iload 4, 2) := by decide +kernel
theorem de_F_cheatCode_50 : decode am_F_cheatCode.2.1 50 = .ok (.iload_n 2, 1) := by decide +kernel
theorem de_F_cheatCode_51 : decode am_F_cheatCode.2.1 51 = .ok (.if_icmp .ge (11), 3) := by decide +kernel
theorem de_F_cheatCode_54 : decode am_F_cheatCode.2.1 54 = .ok (.iload 4, 2) := by decide +kernel
theorem de_F_cheatCode_56 : decode am_F_cheatCode.2.1 56 = .ok (.istore_n 2, 1) := by decide +kernel
theorem de_F_cheatCode_57 : decode am_F_cheatCode.2.1 57 = .ok (.aload_n 0, 1) := by decide +kernel
theorem de_F_cheatCode_58 : decode am_F_cheatCode.2.1 58 = .ok (.iload_n 3, 1) := by decide +kernel
theorem de_F_cheatCode_59 : decode am_F_cheatCode.2.1 59 = .ok (.putfield 56, 3) := by decide +kernel
theorem de_F_cheatCode_62 : decode am_F_cheatCode.2.1 62 = .ok (.iinc 3 (1), 3) := by decide +kernel
theorem de_F_cheatCode_65 : decode am_F_cheatCode.2.1 65 = .ok (.goto (-47), 3) := by decide +kernel
theorem de_F_cheatCode_68 : decode am_F_cheatCode.2.1 68 = .ok (.aload_n 0, 1) := by decide +kernel
theorem de_F_cheatCode_69 : decode am_F_cheatCode.2.1 69 = .ok (.iload_n 1, 1) := by decide +kernel
theorem de_F_cheatCode_70 : decode am_F_cheatCode.2.1 70 = .ok (.putfield 53, 3) := by decide +kernel
theorem de_F_cheatCode_73 : decode am_F_cheatCode.2.1 73 = .ok (.aload_n 0, 1) := by decide +kernel
theorem de_F_cheatCode_74 : decode am_F_cheatCode.2.1 74 = .ok (.getfield 56, 3) := by decide +kernel
theorem de_F_cheatCode_77 : decode am_F_cheatCode.2.1 77 = .ok (.ireturn, 1) := by decide +kernel
