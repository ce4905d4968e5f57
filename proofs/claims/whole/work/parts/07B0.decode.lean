theorem de_B_init_0 : decode am_B_init.2.1 0 = .ok (.aload_n 0, 1) := by decide +kernel
theorem de_B_init_1 : decode am_B_init.2.1 1 = .ok (.invokespecial 3, 3) := by decide +kernel
theorem de_B_init_4 : decode am_B_init.2.1 4 = .ok (.aload_n 0, 1) := by decide +kernel
theorem de_B_init_5 : decode am_B_init.2.1 5 = .ok (.bipush (36), 2) := by decide +kernel
theorem de_B_init_7 : decode am_B_init.2.1 7 = .ok (.newarray .int, 2) := by decide +kernel
theorem de_B_init_9 : decode am_B_init.2.1 9 = .ok (.putfield 9, 3) := by decide +kernel
theorem de_B_init_12 : decode am_B_init.2.1 12 = .ok (.return_, 1) := by decide +kernel
theorem de_B_areTied_0 : decode am_B_areTied.2.1 0 = .ok (.aload_n 0, 1) := by decide +kernel
theorem de_B_areTied_1 : decode am_B_areTied.2.1 1 = .ok (.getfield 9, 3) := by decide +kernel
theorem de_B_areTied_4 : decode am_B_areTied.2.1 4 = .ok (.iload_n 3, 1) := by decide +kernel
theorem de_B_areTied_5 : decode am_B_areTied.2.1 5 = .ok (.bipush (12), 2) := by decide +kernel
theorem de_B_areTied_7 : decode am_B_areTied.2.1 7 = .ok (.imul, 1) := by decide +kernel
theorem de_B_areTied_8 : decode am_B_areTied.2.1 8 = .ok (.iload_n 1, 1) := by decide +kernel
theorem de_B_areTied_9 : decode am_B_areTied.2.1 9 = .ok (.iadd, 1) := by decide +kernel
theorem de_B_areTied_10 : decode am_B_areTied.2.1 10 = .ok (.iaload, 1) := by decide +kernel
theorem de_B_areTied_11 : decode am_B_areTied.2.1 11 = .ok (.iload_n 2, 1) := by decide +kernel
theorem de_B_areTied_12 : decode am_B_areTied.2.1 12 = .ok (.ishr, 1) := by decide +kernel
theorem de_B_areTied_13 : decode am_B_areTied.2.1 13 = .ok (.iconst 1, 1) := by decide +kernel
theorem de_B_areTied_14 : decode am_B_areTied.2.1 14 = .ok (.iand, 1) := by decide +kernel
theorem de_B_areTied_15 : decode am_B_areTied.2.1 15 = .ok (.ifCond .eq (7), 3) := by decide +kernel
theorem de_B_areTied_18 : decode am_B_areTied.2.1 18 = .ok (.iconst 1, 1) := by decide +kernel
theorem de_B_areTied_19 : decode am_B_areTied.2.1 19 = .ok (.goto (4), 3) := by decide +kernel
theorem de_B_areTied_22 : decode am_B_areTied.2.1 22 = .ok (.iconst 0, 1) := by decide +kernel
theorem de_B_areTied_23 : decode am_B_areTied.2.1 23 = .ok (.ireturn, 1) := by decide +kernel
theorem de_B_tiesOf_0 : decode am_B_tiesOf.2.1 0 = .ok (.aload_n 0, 1) := by decide +kernel
theorem de_B_tiesOf_1 : decode am_B_tiesOf.2.1 1 = .ok (.getfield 9, 3) := by decide +kernel
theorem de_B_tiesOf_4 : decode am_B_tiesOf.2.1 4 = .ok (.iload_n 2, 1) := by decide +kernel
theorem de_B_tiesOf_5 : decode am_B_tiesOf.2.1 5 = .ok (.bipush (12), 2) := by decide +kernel
theorem de_B_tiesOf_7 : decode am_B_tiesOf.2.1 7 = .ok (.imul, 1) := by decide +kernel
theorem de_B_tiesOf_8 : decode am_B_tiesOf.2.1 8 = .ok (.iload_n 1, 1) := by decide +kernel
theorem de_B_tiesOf_9 : decode am_B_tiesOf.2.1 9 = .ok (.iadd, 1) := by decide +kernel
theorem de_B_tiesOf_10 : decode am_B_tiesOf.2.1 10 = .ok (.iaload, 1) := by decide +kernel
theorem de_B_tiesOf_11 : decode am_B_tiesOf.2.1 11 = .ok (.ireturn, 1) := by decide +kernel
theorem de_B_turnTie_0 : decode am_B_turnTie.2.1 0 = .ok (.aload_n 0, 1) := by decide +kernel
theorem de_B_turnTie_1 : decode am_B_turnTie.2.1 1 = .ok (.getfield 9, 3) := by decide +kernel
theorem de_B_turnTie_4 : decode am_B_turnTie.2.1 4 = .ok (.iload_n 3, 1) := by decide +kernel
theorem de_B_turnTie_5 : decode am_B_turnTie.2.1 5 = .ok (.bipush (12), 2) := by decide +kernel
theorem de_B_turnTie_7 : decode am_B_turnTie.2.1 7 = .ok (.imul, 1) := by decide +kernel
theorem de_B_turnTie_8 : decode am_B_turnTie.2.1 8 = .ok (.iload_n 1, 1) := by decide +kernel
theorem de_B_turnTie_9 : decode am_B_turnTie.2.1 9 = .ok (.iadd, 1) := by decide +kernel
theorem de_B_turnTie_10 : decode am_B_turnTie.2.1 10 = .ok (.dup2, 1) := by decide +kernel
theorem de_B_turnTie_11 : decode am_B_turnTie.2.1 11 = .ok (.iaload, 1) := by decide +kernel
theorem de_B_turnTie_12 : decode am_B_turnTie.2.1 12 = .ok (.iconst 1, 1) := by decide +kernel
theorem de_B_turnTie_13 : decode am_B_turnTie.2.1 13 = .ok (.iload_n 2, 1) := by decide +kernel
theorem de_B_turnTie_14 : decode am_B_turnTie.2.1 14 = .ok (.ishl, 1) := by decide +kernel
theorem de_B_turnTie_15 : decode am_B_turnTie.2.1 15 = .ok (.ixor, 1) := by decide +kernel
theorem de_B_turnTie_16 : decode am_B_turnTie.2.1 16 = .ok (.iastore, 1) := by decide +kernel
theorem de_B_turnTie_17 : decode am_B_turnTie.2.1 17 = .ok (.aload_n 0, 1) := by decide +kernel
theorem de_B_turnTie_18 : decode am_B_turnTie.2.1 18 = .ok (.getfield 9, 3) := by decide +kernel
theorem de_B_turnTie_21 : decode am_B_turnTie.2.1 21 = .ok (.iload_n 3, 1) := by decide +kernel
theorem de_B_turnTie_22 : decode am_B_turnTie.2.1 22 = .ok (.bipush (12), 2) := by decide +kernel
theorem de_B_turnTie_24 : decode am_B_turnTie.2.1 24 = .ok (.imul, 1) := by decide +kernel
theorem de_B_turnTie_25 : decode am_B_turnTie.2.1 25 = .ok (.iload_n 2, 1) := by decide +kernel
theorem de_B_turnTie_26 : decode am_B_turnTie.2.1 26 = .ok (.iadd, 1) := by decide +kernel
theorem de_B_turnTie_27 : decode am_B_turnTie.2.1 27 = .ok (.dup2, 1) := by decide +kernel
theorem de_B_turnTie_28 : decode am_B_turnTie.2.1 28 = .ok (.iaload, 1) := by decide +kernel
theorem de_B_turnTie_29 : decode am_B_turnTie.2.1 29 = .ok (.iconst 1, 1) := by decide +kernel
theorem de_B_turnTie_30 : decode am_B_turnTie.2.1 30 = .ok (.iload_n 1, 1) := by decide +kernel
theorem de_B_turnTie_31 : decode am_B_turnTie.2.1 31 = .ok (.ishl, 1) := by decide +kernel
theorem de_B_turnTie_32 : decode am_B_turnTie.2.1 32 = .ok (.ixor, 1) := by decide +kernel
theorem de_B_turnTie_33 : decode am_B_turnTie.2.1 33 = .ok (.iastore, 1) := by decide +kernel
theorem de_B_turnTie_34 : decode am_B_turnTie.2.1 34 = .ok (.return_, 1) := by decide +kernel
theorem de_B_tieCount_0 : decode am_B_tieCount.2.1 0 = .ok (.iconst 0, 1) := by decide +kernel
theorem de_B_tieCount_1 : decode am_B_tieCount.2.1 1 = .ok (.istore_n 1, 1) := by decide +kernel
theorem de_B_tieCount_2 : decode am_B_tieCount.2.1 2 = .ok (.iconst 0, 1) := by decide +kernel
theorem de_B_tieCount_3 : decode am_B_tieCount.2.1 3 = .ok (.istore_n 2, 1) := by decide +kernel
theorem de_B_tieCount_4 : decode am_B_tieCount.2.1 4 = .ok (.iload_n 2, 1) := by decide +kernel
theorem de_B_tieCount_5 : decode am_B_tieCount.2.1 5 = .ok (.aload_n 0, 1) := by decide +kernel
theorem de_B_tieCount_6 : decode am_B_tieCount.2.1 6 = .ok (.getfield 9, 3) := by decide +kernel
theorem de_B_tieCount_9 : decode am_B_tieCount.2.1 9 = .ok (.arraylength, 1) := by decide +kernel
theorem de_B_tieCount_10 : decode am_B_tieCount.2.1 10 = .ok (.if_icmp .ge (21), 3) := by decide +kernel
theorem de_B_tieCount_13 : decode am_B_tieCount.2.1 13 = .ok (.iload_n 1, 1) := by decide +kernel
theorem de_B_tieCount_14 : decode am_B_tieCount.2.1 14 = .ok (.aload_n 0, 1) := by decide +kernel
theorem de_B_tieCount_15 : decode am_B_tieCount.2.1 15 = .ok (.getfield 9, 3) := by decide +kernel
theorem de_B_tieCount_18 : decode am_B_tieCount.2.1 18 = .ok (.iload_n 2, 1) := by decide +kernel
theorem de_B_tieCount_19 : decode am_B_tieCount.2.1 19 = .ok (.iaload, 1) := by decide +kernel
theorem de_B_tieCount_20 : decode am_B_tieCount.2.1 20 = .ok (.invokestatic 15, 3) := by decide +kernel
theorem de_B_tieCount_23 : decode am_B_tieCount.2.1 23 = .ok (.iadd, 1) := by decide +kernel
theorem de_B_tieCount_24 : decode am_B_tieCount.2.1 24 = .ok (.istore_n 1, 1) := by decide +kernel
theorem de_B_tieCount_25 : decode am_B_tieCount.2.1 25 = .ok (.iinc 2 (1), 3) := by decide +kernel
theorem de_B_tieCount_28 : decode am_B_tieCount.2.1 28 = .ok (.goto (-24), 3) := by decide +kernel
theorem de_B_tieCount_31 : decode am_B_tieCount.2.1 31 = .ok (.iload_n 1, 1) := by decide +kernel
theorem de_B_tieCount_32 : decode am_B_tieCount.2.1 32 = .ok (.iconst 2, 1) := by decide +kernel
theorem de_B_tieCount_33 : decode am_B_tieCount.2.1 33 = .ok (.idiv, 1) := by decide +kernel
theorem de_B_tieCount_34 : decode am_B_tieCount.2.1 34 = .ok (.ireturn, 1) := by decide +kernel
theorem de_B_side_0 : decode am_B_side.2.1 0 = .ok (.iload_n 0, 1) := by decide +kernel
theorem de_B_side_1 : decode am_B_side.2.1 1 = .ok (.bipush (24), 2) := by decide +kernel
theorem de_B_side_3 : decode am_B_side.2.1 3 = .ok (.ishr, 1) := by decide +kernel
theorem de_B_side_4 : decode am_B_side.2.1 4 = .ok (.iconst 1, 1) := by decide +kernel
theorem de_B_side_5 : decode am_B_side.2.1 5 = .ok (.iand, 1) := by decide +kernel
theorem de_B_side_6 : decode am_B_side.2.1 6 = .ok (.ireturn, 1) := by decide +kernel
theorem de_B_turned_0 : decode am_B_turned.2.1 0 = .ok (.iload_n 0, 1) := by decide +kernel
theorem de_B_turned_1 : decode am_B_turned.2.1 1 = .ok (.ldc 21, 2) := by decide +kernel
theorem de_B_turned_3 : decode am_B_turned.2.1 3 = .ok (.ixor, 1) := by decide +kernel
theorem de_B_turned_4 : decode am_B_turned.2.1 4 = .ok (.ireturn, 1) := by decide +kernel
theorem de_B_own_0 : decode am_B_own.2.1 0 = .ok (.iload_n 0, 1) := by decide +kernel
theorem de_B_own_1 : decode am_B_own.2.1 1 = .ok (.bipush (12), 2) := by decide +kernel
theorem de_B_own_3 : decode am_B_own.2.1 3 = .ok (.iload_n 0, 1) := by decide +kernel
theorem de_B_own_4 : decode am_B_own.2.1 4 = .ok (.bipush (24), 2) := by decide +kernel
theorem de_B_own_6 : decode am_B_own.2.1 6 = .ok (.ishr, 1) := by decide +kernel
theorem de_B_own_7 : decode am_B_own.2.1 7 = .ok (.iconst 1, 1) := by decide +kernel
theorem de_B_own_8 : decode am_B_own.2.1 8 = .ok (.iand, 1) := by decide +kernel
theorem de_B_own_9 : decode am_B_own.2.1 9 = .ok (.imul, 1) := by decide +kernel
theorem de_B_own_10 : decode am_B_own.2.1 10 = .ok (.ishr, 1) := by decide +kernel
theorem de_B_own_11 : decode am_B_own.2.1 11 = .ok (.sipush (4095), 3) := by decide +kernel
theorem de_B_own_14 : decode am_B_own.2.1 14 = .ok (.iand, 1) := by decide +kernel
theorem de_B_own_15 : decode am_B_own.2.1 15 = .ok (.ireturn, 1) := by decide +kernel
theorem de_B_foes_0 : decode am_B_foes.2.1 0 = .ok (.iload_n 0, 1) := by decide +kernel
theorem de_B_foes_1 : decode am_B_foes.2.1 1 = .ok (.bipush (12), 2) := by decide +kernel
theorem de_B_foes_3 : decode am_B_foes.2.1 3 = .ok (.iload_n 0, 1) := by decide +kernel
theorem de_B_foes_4 : decode am_B_foes.2.1 4 = .ok (.iconst (-1), 1) := by decide +kernel
theorem de_B_foes_5 : decode am_B_foes.2.1 5 = .ok (.ixor, 1) := by decide +kernel
theorem de_B_foes_6 : decode am_B_foes.2.1 6 = .ok (.bipush (24), 2) := by decide +kernel
theorem de_B_foes_8 : decode am_B_foes.2.1 8 = .ok (.ishr, 1) := by decide +kernel
theorem de_B_foes_9 : decode am_B_foes.2.1 9 = .ok (.iconst 1, 1) := by decide +kernel
theorem de_B_foes_10 : decode am_B_foes.2.1 10 = .ok (.iand, 1) := by decide +kernel
theorem de_B_foes_11 : decode am_B_foes.2.1 11 = .ok (.imul, 1) := by decide +kernel
theorem de_B_foes_12 : decode am_B_foes.2.1 12 = .ok (.ishr, 1) := by decide +kernel
theorem de_B_foes_13 : decode am_B_foes.2.1 13 = .ok (.sipush (4095), 3) := by decide +kernel
theorem de_B_foes_16 : decode am_B_foes.2.1 16 = .ok (.iand, 1) := by decide +kernel
theorem de_B_foes_17 : decode am_B_foes.2.1 17 = .ok (.ireturn, 1) := by decide +kernel
theorem de_B_empty_0 : decode am_B_empty.2.1 0 = .ok (.sipush (4095), 3) := by decide +kernel
theorem de_B_empty_3 : decode am_B_empty.2.1 3 = .ok (.iload_n 0, 1) := by decide +kernel
theorem de_B_empty_4 : decode am_B_empty.2.1 4 = .ok (.iload_n 0, 1) := by decide +kernel
theorem de_B_empty_5 : decode am_B_empty.2.1 5 = .ok (.bipush (12), 2) := by decide +kernel
theorem de_B_empty_7 : decode am_B_empty.2.1 7 = .ok (.ishr, 1) := by decide +kernel
theorem de_B_empty_8 : decode am_B_empty.2.1 8 = .ok (.ior, 1) := by decide +kernel
theorem de_B_empty_9 : decode am_B_empty.2.1 9 = .ok (.iconst (-1), 1) := by decide +kernel
theorem de_B_empty_10 : decode am_B_empty.2.1 10 = .ok (.ixor, 1) := by decide +kernel
theorem de_B_empty_11 : decode am_B_empty.2.1 11 = .ok (.iand, 1) := by decide +kernel
theorem de_B_empty_12 : decode am_B_empty.2.1 12 = .ok (.ireturn, 1) := by decide +kernel
theorem de_B_pieces_0 : decode am_B_pieces.2.1 0 = .ok (.bipush (12), 2) := by decide +kernel
theorem de_B_pieces_2 : decode am_B_pieces.2.1 2 = .ok (.iload_n 0, 1) := by decide +kernel
theorem de_B_pieces_3 : decode am_B_pieces.2.1 3 = .ok (.invokestatic 22, 3) := by decide +kernel
theorem de_B_pieces_6 : decode am_B_pieces.2.1 6 = .ok (.invokestatic 15, 3) := by decide +kernel
theorem de_B_pieces_9 : decode am_B_pieces.2.1 9 = .ok (.isub, 1) := by decide +kernel
theorem de_B_pieces_10 : decode am_B_pieces.2.1 10 = .ok (.ireturn, 1) := by decide +kernel
theorem de_B_on_0 : decode am_B_on.2.1 0 = .ok (.iload_n 0, 1) := by decide +kernel
theorem de_B_on_1 : decode am_B_on.2.1 1 = .ok (.iload_n 1, 1) := by decide +kernel
theorem de_B_on_2 : decode am_B_on.2.1 2 = .ok (.ishr, 1) := by decide +kernel
theorem de_B_on_3 : decode am_B_on.2.1 3 = .ok (.iconst 1, 1) := by decide +kernel
theorem de_B_on_4 : decode am_B_on.2.1 4 = .ok (.iand, 1) := by decide +kernel
theorem de_B_on_5 : decode am_B_on.2.1 5 = .ok (.iconst 2, 1) := by decide +kernel
theorem de_B_on_6 : decode am_B_on.2.1 6 = .ok (.iload_n 0, 1) := by decide +kernel
theorem de_B_on_7 : decode am_B_on.2.1 7 = .ok (.bipush (12), 2) := by decide +kernel
theorem de_B_on_9 : decode am_B_on.2.1 9 = .ok (.iload_n 1, 1) := by decide +kernel
theorem de_B_on_10 : decode am_B_on.2.1 10 = .ok (.iadd, 1) := by decide +kernel
theorem de_B_on_11 : decode am_B_on.2.1 11 = .ok (.ishr, 1) := by decide +kernel
theorem de_B_on_12 : decode am_B_on.2.1 12 = .ok (.iconst 1, 1) := by decide +kernel
theorem de_B_on_13 : decode am_B_on.2.1 13 = .ok (.iand, 1) := by decide +kernel
theorem de_B_on_14 : decode am_B_on.2.1 14 = .ok (.imul, 1) := by decide +kernel
theorem de_B_on_15 : decode am_B_on.2.1 15 = .ok (.iadd, 1) := by decide +kernel
theorem de_B_on_16 : decode am_B_on.2.1 16 = .ok (.ireturn, 1) := by decide +kernel
theorem de_B_with_0 : decode am_B_with.2.1 0 = .ok (.iload_n 0, 1) := by decide +kernel
theorem de_B_with_1 : decode am_B_with.2.1 1 = .ok (.iconst 1, 1) := by decide +kernel
theorem de_B_with_2 : decode am_B_with.2.1 2 = .ok (.iload_n 1, 1) := by decide +kernel
theorem de_B_with_3 : decode am_B_with.2.1 3 = .ok (.ishl, 1) := by decide +kernel
theorem de_B_with_4 : decode am_B_with.2.1 4 = .ok (.iconst 1, 1) := by decide +kernel
theorem de_B_with_5 : decode am_B_with.2.1 5 = .ok (.bipush (12), 2) := by decide +kernel
theorem de_B_with_7 : decode am_B_with.2.1 7 = .ok (.iload_n 1, 1) := by decide +kernel
theorem de_B_with_8 : decode am_B_with.2.1 8 = .ok (.iadd, 1) := by decide +kernel
theorem de_B_with_9 : decode am_B_with.2.1 9 = .ok (.ishl, 1) := by decide +kernel
theorem de_B_with_10 : decode am_B_with.2.1 10 = .ok (.ior, 1) := by decide +kernel
theorem de_B_with_11 : decode am_B_with.2.1 11 = .ok (.iconst (-1), 1) := by decide +kernel
theorem de_B_with_12 : decode am_B_with.2.1 12 = .ok (.ixor, 1) := by decide +kernel
theorem de_B_with_13 : decode am_B_with.2.1 13 = .ok (.iand, 1) := by decide +kernel
theorem de_B_with_14 : decode am_B_with.2.1 14 = .ok (.istore_n 3, 1) := by decide +kernel
theorem de_B_with_15 : decode am_B_with.2.1 15 = .ok (.iload_n 3, 1) := by decide +kernel
theorem de_B_with_16 : decode am_B_with.2.1 16 = .ok (.iload_n 2, 1) := by decide +kernel
theorem de_B_with_17 : decode am_B_with.2.1 17 = .ok (.iconst 1, 1) := by decide +kernel
theorem de_B_with_18 : decode am_B_with.2.1 18 = .ok (.iand, 1) := by decide +kernel
theorem de_B_with_19 : decode am_B_with.2.1 19 = .ok (.iload_n 1, 1) := by decide +kernel
theorem de_B_with_20 : decode am_B_with.2.1 20 = .ok (.ishl, 1) := by decide +kernel
theorem de_B_with_21 : decode am_B_with.2.1 21 = .ok (.ior, 1) := by decide +kernel
theorem de_B_with_22 : decode am_B_with.2.1 22 = .ok (.iload_n 2, 1) := by decide +kernel
theorem de_B_with_23 : decode am_B_with.2.1 23 = .ok (.iconst 1, 1) := by decide +kernel
theorem de_B_with_24 : decode am_B_with.2.1 24 = .ok (.ishr, 1) := by decide +kernel
theorem de_B_with_25 : decode am_B_with.2.1 25 = .ok (.iconst 1, 1) := by decide +kernel
theorem de_B_with_26 : decode am_B_with.2.1 26 = .ok (.iand, 1) := by decide +kernel
theorem de_B_with_27 : decode am_B_with.2.1 27 = .ok (.bipush (12), 2) := by decide +kernel
theorem de_B_with_29 : decode am_B_with.2.1 29 = .ok (.iload_n 1, 1) := by decide +kernel
theorem de_B_with_30 : decode am_B_with.2.1 30 = .ok (.iadd, 1) := by decide +kernel
theorem de_B_with_31 : decode am_B_with.2.1 31 = .ok (.ishl, 1) := by decide +kernel
theorem de_B_with_32 : decode am_B_with.2.1 32 = .ok (.ior, 1) := by decide +kernel
theorem de_B_with_33 : decode am_B_with.2.1 33 = .ok (.ireturn, 1) := by decide +kernel
theorem de_B_isMove_0 : decode am_B_isMove.2.1 0 = .ok (.iload_n 0, 1) := by decide +kernel
theorem de_B_isMove_1 : decode am_B_isMove.2.1 1 = .ok (.iconst 4, 1) := by decide +kernel
theorem de_B_isMove_2 : decode am_B_isMove.2.1 2 = .ok (.ishr, 1) := by decide +kernel
theorem de_B_isMove_3 : decode am_B_isMove.2.1 3 = .ok (.istore_n 1, 1) := by decide +kernel
theorem de_B_isMove_4 : decode am_B_isMove.2.1 4 = .ok (.iload_n 0, 1) := by decide +kernel
theorem de_B_isMove_5 : decode am_B_isMove.2.1 5 = .ok (.bipush (15), 2) := by decide +kernel
theorem de_B_isMove_7 : decode am_B_isMove.2.1 7 = .ok (.iand, 1) := by decide +kernel
theorem de_B_isMove_8 : decode am_B_isMove.2.1 8 = .ok (.istore_n 2, 1) := by decide +kernel
theorem de_B_isMove_9 : decode am_B_isMove.2.1 9 = .ok (.iload_n 2, 1) := by decide +kernel
theorem de_B_isMove_10 : decode am_B_isMove.2.1 10 = .ok (.invokestatic 25, 3) := by decide +kernel
theorem de_B_isMove_13 : decode am_B_isMove.2.1 13 = .ok (.ifCond .eq (25), 3) := by decide +kernel
theorem de_B_isMove_16 : decode am_B_isMove.2.1 16 = .ok (.iload_n 1, 1) := by decide +kernel
theorem de_B_isMove_17 : decode am_B_isMove.2.1 17 = .ok (.bipush (15), 2) := by decide +kernel
theorem de_B_isMove_19 : decode am_B_isMove.2.1 19 = .ok (.if_icmp .eq (15), 3) := by decide +kernel
theorem de_B_isMove_22 : decode am_B_isMove.2.1 22 = .ok (.iload_n 1, 1) := by decide +kernel
theorem de_B_isMove_23 : decode am_B_isMove.2.1 23 = .ok (.invokestatic 25, 3) := by decide +kernel
theorem de_B_isMove_26 : decode am_B_isMove.2.1 26 = .ok (.ifCond .eq (12), 3) := by decide +kernel
theorem de_B_isMove_29 : decode am_B_isMove.2.1 29 = .ok (.iload_n 1, 1) := by decide +kernel
theorem de_B_isMove_30 : decode am_B_isMove.2.1 30 = .ok (.iload_n 2, 1) := by decide +kernel
theorem de_B_isMove_31 : decode am_B_isMove.2.1 31 = .ok (.if_icmp .eq (7), 3) := by decide +kernel
theorem de_B_isMove_34 : decode am_B_isMove.2.1 34 = .ok (.iconst 1, 1) := by decide +kernel
theorem de_B_isMove_35 : decode am_B_isMove.2.1 35 = .ok (.goto (4), 3) := by decide +kernel
theorem de_B_isMove_38 : decode am_B_isMove.2.1 38 = .ok (.iconst 0, 1) := by decide +kernel
theorem de_B_isMove_39 : decode am_B_isMove.2.1 39 = .ok (.ireturn, 1) := by decide +kernel
theorem de_B_live_0 : decode am_B_live.2.1 0 = .ok (.iload_n 1, 1) := by decide +kernel
theorem de_B_live_1 : decode am_B_live.2.1 1 = .ok (.iload_n 2, 1) := by decide +kernel
theorem de_B_live_2 : decode am_B_live.2.1 2 = .ok (.invokestatic 29, 3) := by decide +kernel
theorem de_B_live_5 : decode am_B_live.2.1 5 = .ok (.ifCond .eq (5), 3) := by decide +kernel
theorem de_B_live_8 : decode am_B_live.2.1 8 = .ok (.iconst 0, 1) := by decide +kernel
theorem de_B_live_9 : decode am_B_live.2.1 9 = .ok (.ireturn, 1) := by decide +kernel
theorem de_B_live_10 : decode am_B_live.2.1 10 = .ok (.iload_n 2, 1) := by decide +kernel
theorem de_B_live_11 : decode am_B_live.2.1 11 = .ok (.sipush (256), 3) := by decide +kernel
theorem de_B_live_14 : decode am_B_live.2.1 14 = .ok (.iand, 1) := by decide +kernel
theorem de_B_live_15 : decode am_B_live.2.1 15 = .ok (.ifCond .eq (18), 3) := by decide +kernel
theorem de_B_live_18 : decode am_B_live.2.1 18 = .ok (.aload_n 0, 1) := by decide +kernel
theorem de_B_live_19 : decode am_B_live.2.1 19 = .ok (.iload_n 1, 1) := by decide +kernel
theorem de_B_live_20 : decode am_B_live.2.1 20 = .ok (.iload_n 2, 1) := by decide +kernel
theorem de_B_live_21 : decode am_B_live.2.1 21 = .ok (.invokevirtual 33, 3) := by decide +kernel
theorem de_B_live_24 : decode am_B_live.2.1 24 = .ok (.ifCond .eq (9), 3) := by decide +kernel
theorem de_B_live_27 : decode am_B_live.2.1 27 = .ok (.iload_n 2, 1) := by decide +kernel
theorem de_B_live_28 : decode am_B_live.2.1 28 = .ok (.sipush (184), 3) := by decide +kernel
theorem de_B_live_31 : decode am_B_live.2.1 31 = .ok (.iand, 1) := by decide +kernel
theorem de_B_live_32 : decode am_B_live.2.1 32 = .ok (.ireturn, 1) := by decide +kernel
theorem de_B_live_33 : decode am_B_live.2.1 33 = .ok (.iload_n 2, 1) := by decide +kernel
theorem de_B_live_34 : decode am_B_live.2.1 34 = .ok (.sipush (255), 3) := by decide +kernel
theorem de_B_live_37 : decode am_B_live.2.1 37 = .ok (.iand, 1) := by decide +kernel
theorem de_B_live_38 : decode am_B_live.2.1 38 = .ok (.ireturn, 1) := by decide +kernel
theorem de_B_isTooFew_0 : decode am_B_isTooFew.2.1 0 = .ok (.iload_n 0, 1) := by decide +kernel
theorem de_B_isTooFew_1 : decode am_B_isTooFew.2.1 1 = .ok (.invokestatic 36, 3) := by decide +kernel
theorem de_B_isTooFew_4 : decode am_B_isTooFew.2.1 4 = .ok (.invokestatic 15, 3) := by decide +kernel
theorem de_B_isTooFew_7 : decode am_B_isTooFew.2.1 7 = .ok (.iload_n 1, 1) := by decide +kernel
theorem de_B_isTooFew_8 : decode am_B_isTooFew.2.1 8 = .ok (.bipush (10), 2) := by decide +kernel
theorem de_B_isTooFew_10 : decode am_B_isTooFew.2.1 10 = .ok (.ishr, 1) := by decide +kernel
theorem de_B_isTooFew_11 : decode am_B_isTooFew.2.1 11 = .ok (.iconst 3, 1) := by decide +kernel
theorem de_B_isTooFew_12 : decode am_B_isTooFew.2.1 12 = .ok (.iand, 1) := by decide +kernel
theorem de_B_isTooFew_13 : decode am_B_isTooFew.2.1 13 = .ok (.if_icmp .ge (7), 3) := by decide +kernel
theorem de_B_isTooFew_16 : decode am_B_isTooFew.2.1 16 = .ok (.iconst 1, 1) := by decide +kernel
theorem de_B_isTooFew_17 : decode am_B_isTooFew.2.1 17 = .ok (.goto (4), 3) := by decide +kernel
theorem de_B_isTooFew_20 : decode am_B_isTooFew.2.1 20 = .ok (.iconst 0, 1) := by decide +kernel
theorem de_B_isTooFew_21 : decode am_B_isTooFew.2.1 21 = .ok (.ireturn, 1) := by decide +kernel
theorem de_B_letsStep_0 : decode am_B_letsStep.2.1 0 = .ok (.iload_n 1, 1) := by decide +kernel
theorem de_B_letsStep_1 : decode am_B_letsStep.2.1 1 = .ok (.invokestatic 36, 3) := by decide +kernel
theorem de_B_letsStep_4 : decode am_B_letsStep.2.1 4 = .ok (.istore_n 3, 1) := by decide +kernel
theorem de_B_letsStep_5 : decode am_B_letsStep.2.1 5 = .ok (.iload_n 1, 1) := by decide +kernel
theorem de_B_letsStep_6 : decode am_B_letsStep.2.1 6 = .ok (.invokestatic 22, 3) := by decide +kernel
theorem de_B_letsStep_9 : decode am_B_letsStep.2.1 9 = .ok (.istore 4, 2) := by decide +kernel
theorem de_B_letsStep_11 : decode am_B_letsStep.2.1 11 = .ok (.iconst 0, 1) := by decide +kernel
theorem de_B_letsStep_12 : decode am_B_letsStep.2.1 12 = .ok (.istore 5, 2) := by decide +kernel
theorem de_B_letsStep_14 : decode am_B_letsStep.2.1 14 = .ok (.iload 5, 2) := by decide +kernel
theorem de_B_letsStep_16 : decode am_B_letsStep.2.1 16 = .ok (.iconst 3, 1) := by decide +kernel
theorem de_B_letsStep_17 : decode am_B_letsStep.2.1 17 = .ok (.if_icmp .ge (64), 3) := by decide +kernel
theorem de_B_letsStep_20 : decode am_B_letsStep.2.1 20 = .ok (.iconst 0, 1) := by decide +kernel
theorem de_B_letsStep_21 : decode am_B_letsStep.2.1 21 = .ok (.istore 6, 2) := by decide +kernel
theorem de_B_letsStep_23 : decode am_B_letsStep.2.1 23 = .ok (.iload 6, 2) := by decide +kernel
theorem de_B_letsStep_25 : decode am_B_letsStep.2.1 25 = .ok (.bipush (12), 2) := by decide +kernel
theorem de_B_letsStep_27 : decode am_B_letsStep.2.1 27 = .ok (.if_icmp .ge (48), 3) := by decide +kernel
theorem de_B_letsStep_30 : decode am_B_letsStep.2.1 30 = .ok (.iload_n 2, 1) := by decide +kernel
theorem de_B_letsStep_31 : decode am_B_letsStep.2.1 31 = .ok (.iload 5, 2) := by decide +kernel
theorem de_B_letsStep_33 : decode am_B_letsStep.2.1 33 = .ok (.ishr, 1) := by decide +kernel
theorem de_B_letsStep_34 : decode am_B_letsStep.2.1 34 = .ok (.iconst 1, 1) := by decide +kernel
theorem de_B_letsStep_35 : decode am_B_letsStep.2.1 35 = .ok (.iand, 1) := by decide +kernel
theorem de_B_letsStep_36 : decode am_B_letsStep.2.1 36 = .ok (.ifCond .eq (39), 3) := by decide +kernel
theorem de_B_letsStep_39 : decode am_B_letsStep.2.1 39 = .ok (.iload_n 3, 1) := by decide +kernel
theorem de_B_letsStep_40 : decode am_B_letsStep.2.1 40 = .ok (.iload 6, 2) := by decide +kernel
theorem de_B_letsStep_42 : decode am_B_letsStep.2.1 42 = .ok (.ishr, 1) := by decide +kernel
theorem de_B_letsStep_43 : decode am_B_letsStep.2.1 43 = .ok (.iconst 1, 1) := by decide +kernel
theorem de_B_letsStep_44 : decode am_B_letsStep.2.1 44 = .ok (.iand, 1) := by decide +kernel
theorem de_B_letsStep_45 : decode am_B_letsStep.2.1 45 = .ok (.ifCond .eq (24), 3) := by decide +kernel
theorem de_B_letsStep_48 : decode am_B_letsStep.2.1 48 = .ok (.aload_n 0, 1) := by decide +kernel
theorem de_B_letsStep_49 : decode am_B_letsStep.2.1 49 = .ok (.getfield 9, 3) := by decide +kernel
theorem de_B_letsStep_52 : decode am_B_letsStep.2.1 52 = .ok (.iload 5, 2) := by decide +kernel
theorem de_B_letsStep_54 : decode am_B_letsStep.2.1 54 = .ok (.bipush (12), 2) := by decide +kernel
theorem de_B_letsStep_56 : decode am_B_letsStep.2.1 56 = .ok (.imul, 1) := by decide +kernel
theorem de_B_letsStep_57 : decode am_B_letsStep.2.1 57 = .ok (.iload 6, 2) := by decide +kernel
theorem de_B_letsStep_59 : decode am_B_letsStep.2.1 59 = .ok (.iadd, 1) := by decide +kernel
theorem de_B_letsStep_60 : decode am_B_letsStep.2.1 60 = .ok (.iaload, 1) := by decide +kernel
theorem de_B_letsStep_61 : decode am_B_letsStep.2.1 61 = .ok (.iload 4, 2) := by decide +kernel
theorem de_B_letsStep_63 : decode am_B_letsStep.2.1 63 = .ok (.iand, 1) := by decide +kernel
theorem de_B_letsStep_64 : decode am_B_letsStep.2.1 64 = .ok (.ifCond .eq (5), 3) := by decide +kernel
theorem de_B_letsStep_67 : decode am_B_letsStep.2.1 67 = .ok (.iconst 1, 1) := by decide +kernel
theorem de_B_letsStep_68 : decode am_B_letsStep.2.1 68 = .ok (.ireturn, 1) := by decide +kernel
theorem de_B_letsStep_69 : decode am_B_letsStep.2.1 69 = .ok (.iinc 6 (1), 3) := by decide +kernel
theorem de_B_letsStep_72 : decode am_B_letsStep.2.1 72 = .ok (.goto (-49), 3) := by decide +kernel
theorem de_B_letsStep_75 : decode am_B_letsStep.2.1 75 = .ok (.iinc 5 (1), 3) := by decide +kernel
theorem de_B_letsStep_78 : decode am_B_letsStep.2.1 78 = .ok (.goto (-64), 3) := by decide +kernel
theorem de_B_letsStep_81 : decode am_B_letsStep.2.1 81 = .ok (.iconst 0, 1) := by decide +kernel
theorem de_B_letsStep_82 : decode am_B_letsStep.2.1 82 = .ok (.ireturn, 1) := by decide +kernel
theorem de_B_letsJump_0 : decode am_B_letsJump.2.1 0 = .ok (.iload_n 1, 1) := by decide +kernel
theorem de_B_letsJump_1 : decode am_B_letsJump.2.1 1 = .ok (.invokestatic 36, 3) := by decide +kernel
theorem de_B_letsJump_4 : decode am_B_letsJump.2.1 4 = .ok (.istore_n 3, 1) := by decide +kernel
theorem de_B_letsJump_5 : decode am_B_letsJump.2.1 5 = .ok (.iload_n 1, 1) := by decide +kernel
theorem de_B_letsJump_6 : decode am_B_letsJump.2.1 6 = .ok (.invokestatic 39, 3) := by decide +kernel
theorem de_B_letsJump_9 : decode am_B_letsJump.2.1 9 = .ok (.istore 4, 2) := by decide +kernel
theorem de_B_letsJump_11 : decode am_B_letsJump.2.1 11 = .ok (.iload_n 1, 1) := by decide +kernel
theorem de_B_letsJump_12 : decode am_B_letsJump.2.1 12 = .ok (.invokestatic 22, 3) := by decide +kernel
theorem de_B_letsJump_15 : decode am_B_letsJump.2.1 15 = .ok (.istore 5, 2) := by decide +kernel
theorem de_B_letsJump_17 : decode am_B_letsJump.2.1 17 = .ok (.iconst 0, 1) := by decide +kernel
theorem de_B_letsJump_18 : decode am_B_letsJump.2.1 18 = .ok (.istore 6, 2) := by decide +kernel
theorem de_B_letsJump_20 : decode am_B_letsJump.2.1 20 = .ok (.iload 6, 2) := by decide +kernel
theorem de_B_letsJump_22 : decode am_B_letsJump.2.1 22 = .ok (.iconst 3, 1) := by decide +kernel
theorem de_B_letsJump_23 : decode am_B_letsJump.2.1 23 = .ok (.if_icmp .ge (78), 3) := by decide +kernel
theorem de_B_letsJump_26 : decode am_B_letsJump.2.1 26 = .ok (.iconst 0, 1) := by decide +kernel
theorem de_B_letsJump_27 : decode am_B_letsJump.2.1 27 = .ok (.istore 7, 2) := by decide +kernel
theorem de_B_letsJump_29 : decode am_B_letsJump.2.1 29 = .ok (.iload 7, 2) := by decide +kernel
theorem de_B_letsJump_31 : decode am_B_letsJump.2.1 31 = .ok (.bipush (12), 2) := by decide +kernel
theorem de_B_letsJump_33 : decode am_B_letsJump.2.1 33 = .ok (.if_icmp .ge (62), 3) := by decide +kernel
theorem de_B_letsJump_36 : decode am_B_letsJump.2.1 36 = .ok (.iload_n 2, 1) := by decide +kernel
theorem de_B_letsJump_37 : decode am_B_letsJump.2.1 37 = .ok (.iconst 3, 1) := by decide +kernel
theorem de_B_letsJump_38 : decode am_B_letsJump.2.1 38 = .ok (.iload 6, 2) := by decide +kernel
theorem de_B_letsJump_40 : decode am_B_letsJump.2.1 40 = .ok (.iadd, 1) := by decide +kernel
theorem de_B_letsJump_41 : decode am_B_letsJump.2.1 41 = .ok (.ishr, 1) := by decide +kernel
theorem de_B_letsJump_42 : decode am_B_letsJump.2.1 42 = .ok (.iconst 1, 1) := by decide +kernel
theorem de_B_letsJump_43 : decode am_B_letsJump.2.1 43 = .ok (.iand, 1) := by decide +kernel
theorem de_B_letsJump_44 : decode am_B_letsJump.2.1 44 = .ok (.ifCond .eq (51), 3) := by decide +kernel
theorem de_B_letsJump_47 : decode am_B_letsJump.2.1 47 = .ok (.aload_n 0, 1) := by decide +kernel
theorem de_B_letsJump_48 : decode am_B_letsJump.2.1 48 = .ok (.getfield 9, 3) := by decide +kernel
theorem de_B_letsJump_51 : decode am_B_letsJump.2.1 51 = .ok (.iload 6, 2) := by decide +kernel
theorem de_B_letsJump_53 : decode am_B_letsJump.2.1 53 = .ok (.bipush (12), 2) := by decide +kernel
theorem de_B_letsJump_55 : decode am_B_letsJump.2.1 55 = .ok (.imul, 1) := by decide +kernel
theorem de_B_letsJump_56 : decode am_B_letsJump.2.1 56 = .ok (.iload 7, 2) := by decide +kernel
theorem de_B_letsJump_58 : decode am_B_letsJump.2.1 58 = .ok (.iadd, 1) := by decide +kernel
theorem de_B_letsJump_59 : decode am_B_letsJump.2.1 59 = .ok (.iaload, 1) := by decide +kernel
theorem de_B_letsJump_60 : decode am_B_letsJump.2.1 60 = .ok (.istore 8, 2) := by decide +kernel
theorem de_B_letsJump_62 : decode am_B_letsJump.2.1 62 = .ok (.iload 4, 2) := by decide +kernel
theorem de_B_letsJump_64 : decode am_B_letsJump.2.1 64 = .ok (.iload 7, 2) := by decide +kernel
theorem de_B_letsJump_66 : decode am_B_letsJump.2.1 66 = .ok (.ishr, 1) := by decide +kernel
theorem de_B_letsJump_67 : decode am_B_letsJump.2.1 67 = .ok (.iconst 1, 1) := by decide +kernel
theorem de_B_letsJump_68 : decode am_B_letsJump.2.1 68 = .ok (.iand, 1) := by decide +kernel
theorem de_B_letsJump_69 : decode am_B_letsJump.2.1 69 = .ok (.ifCond .eq (20), 3) := by decide +kernel
theorem de_B_letsJump_72 : decode am_B_letsJump.2.1 72 = .ok (.iload 8, 2) := by decide +kernel
theorem de_B_letsJump_74 : decode am_B_letsJump.2.1 74 = .ok (.iload_n 3, 1) := by decide +kernel
theorem de_B_letsJump_75 : decode am_B_letsJump.2.1 75 = .ok (.iand, 1) := by decide +kernel
theorem de_B_letsJump_76 : decode am_B_letsJump.2.1 76 = .ok (.ifCond .eq (13), 3) := by decide +kernel
theorem de_B_letsJump_79 : decode am_B_letsJump.2.1 79 = .ok (.iload 8, 2) := by decide +kernel
theorem de_B_letsJump_81 : decode am_B_letsJump.2.1 81 = .ok (.iload 5, 2) := by decide +kernel
theorem de_B_letsJump_83 : decode am_B_letsJump.2.1 83 = .ok (.iand, 1) := by decide +kernel
theorem de_B_letsJump_84 : decode am_B_letsJump.2.1 84 = .ok (.ifCond .eq (5), 3) := by decide +kernel
theorem de_B_letsJump_87 : decode am_B_letsJump.2.1 87 = .ok (.iconst 1, 1) := by decide +kernel
theorem de_B_letsJump_88 : decode am_B_letsJump.2.1 88 = .ok (.ireturn, 1) := by decide +kernel
theorem de_B_letsJump_89 : decode am_B_letsJump.2.1 89 = .ok (.iinc 7 (1), 3) := by decide +kernel
theorem de_B_letsJump_92 : decode am_B_letsJump.2.1 92 = .ok (.goto (-63), 3) := by decide +kernel
theorem de_B_letsJump_95 : decode am_B_letsJump.2.1 95 = .ok (.iinc 6 (1), 3) := by decide +kernel
theorem de_B_letsJump_98 : decode am_B_letsJump.2.1 98 = .ok (.goto (-78), 3) := by decide +kernel
theorem de_B_letsJump_101 : decode am_B_letsJump.2.1 101 = .ok (.iconst 0, 1) := by decide +kernel
theorem de_B_letsJump_102 : decode am_B_letsJump.2.1 102 = .ok (.ireturn, 1) := by decide +kernel
theorem de_B_letsAny_0 : decode am_B_letsAny.2.1 0 = .ok (.iload_n 2, 1) := by decide +kernel
theorem de_B_letsAny_1 : decode am_B_letsAny.2.1 1 = .ok (.bipush (64), 2) := by decide +kernel
theorem de_B_letsAny_3 : decode am_B_letsAny.2.1 3 = .ok (.iand, 1) := by decide +kernel
theorem de_B_letsAny_4 : decode am_B_letsAny.2.1 4 = .ok (.ifCond .eq (10), 3) := by decide +kernel
theorem de_B_letsAny_7 : decode am_B_letsAny.2.1 7 = .ok (.iload_n 1, 1) := by decide +kernel
theorem de_B_letsAny_8 : decode am_B_letsAny.2.1 8 = .ok (.invokestatic 22, 3) := by decide +kernel
theorem de_B_letsAny_11 : decode am_B_letsAny.2.1 11 = .ok (.ifCond .ne (21), 3) := by decide +kernel
theorem de_B_letsAny_14 : decode am_B_letsAny.2.1 14 = .ok (.aload_n 0, 1) := by decide +kernel
theorem de_B_letsAny_15 : decode am_B_letsAny.2.1 15 = .ok (.iload_n 1, 1) := by decide +kernel
theorem de_B_letsAny_16 : decode am_B_letsAny.2.1 16 = .ok (.iload_n 2, 1) := by decide +kernel
theorem de_B_letsAny_17 : decode am_B_letsAny.2.1 17 = .ok (.invokevirtual 42, 3) := by decide +kernel
theorem de_B_letsAny_20 : decode am_B_letsAny.2.1 20 = .ok (.ifCond .ne (12), 3) := by decide +kernel
theorem de_B_letsAny_23 : decode am_B_letsAny.2.1 23 = .ok (.aload_n 0, 1) := by decide +kernel
theorem de_B_letsAny_24 : decode am_B_letsAny.2.1 24 = .ok (.iload_n 1, 1) := by decide +kernel
theorem de_B_letsAny_25 : decode am_B_letsAny.2.1 25 = .ok (.iload_n 2, 1) := by decide +kernel
theorem de_B_letsAny_26 : decode am_B_letsAny.2.1 26 = .ok (.invokevirtual 33, 3) := by decide +kernel
theorem de_B_letsAny_29 : decode am_B_letsAny.2.1 29 = .ok (.ifCond .eq (7), 3) := by decide +kernel
theorem de_B_letsAny_32 : decode am_B_letsAny.2.1 32 = .ok (.iconst 1, 1) := by decide +kernel
theorem de_B_letsAny_33 : decode am_B_letsAny.2.1 33 = .ok (.goto (4), 3) := by decide +kernel
theorem de_B_letsAny_36 : decode am_B_letsAny.2.1 36 = .ok (.iconst 0, 1) := by decide +kernel
theorem de_B_letsAny_37 : decode am_B_letsAny.2.1 37 = .ok (.ireturn, 1) := by decide +kernel
theorem de_B_winner_0 : decode am_B_winner.2.1 0 = .ok (.iload_n 1, 1) := by decide +kernel
theorem de_B_winner_1 : decode am_B_winner.2.1 1 = .ok (.iload_n 2, 1) := by decide +kernel
theorem de_B_winner_2 : decode am_B_winner.2.1 2 = .ok (.invokestatic 29, 3) := by decide +kernel
theorem de_B_winner_5 : decode am_B_winner.2.1 5 = .ok (.ifCond .ne (25), 3) := by decide +kernel
theorem de_B_winner_8 : decode am_B_winner.2.1 8 = .ok (.iload_n 2, 1) := by decide +kernel
theorem de_B_winner_9 : decode am_B_winner.2.1 9 = .ok (.sipush (512), 3) := by decide +kernel
theorem de_B_winner_12 : decode am_B_winner.2.1 12 = .ok (.iand, 1) := by decide +kernel
theorem de_B_winner_13 : decode am_B_winner.2.1 13 = .ok (.ifCond .eq (21), 3) := by decide +kernel
theorem de_B_winner_16 : decode am_B_winner.2.1 16 = .ok (.aload_n 0, 1) := by decide +kernel
theorem de_B_winner_17 : decode am_B_winner.2.1 17 = .ok (.iload_n 1, 1) := by decide +kernel
theorem de_B_winner_18 : decode am_B_winner.2.1 18 = .ok (.aload_n 0, 1) := by decide +kernel
theorem de_B_winner_19 : decode am_B_winner.2.1 19 = .ok (.iload_n 1, 1) := by decide +kernel
theorem de_B_winner_20 : decode am_B_winner.2.1 20 = .ok (.iload_n 2, 1) := by decide +kernel
theorem de_B_winner_21 : decode am_B_winner.2.1 21 = .ok (.invokevirtual 45, 3) := by decide +kernel
theorem de_B_winner_24 : decode am_B_winner.2.1 24 = .ok (.invokevirtual 49, 3) := by decide +kernel
theorem de_B_winner_27 : decode am_B_winner.2.1 27 = .ok (.ifCond .ne (7), 3) := by decide +kernel
theorem de_B_winner_30 : decode am_B_winner.2.1 30 = .ok (.iconst 1, 1) := by decide +kernel
theorem de_B_winner_31 : decode am_B_winner.2.1 31 = .ok (.goto (4), 3) := by decide +kernel
theorem de_B_winner_34 : decode am_B_winner.2.1 34 = .ok (.iconst 0, 1) := by decide +kernel
theorem de_B_winner_35 : decode am_B_winner.2.1 35 = .ok (.istore_n 3, 1) := by decide +kernel
theorem de_B_winner_36 : decode am_B_winner.2.1 36 = .ok (.iload_n 3, 1) := by decide +kernel
theorem de_B_winner_37 : decode am_B_winner.2.1 37 = .ok (.ifCond .eq (12), 3) := by decide +kernel
theorem de_B_winner_40 : decode am_B_winner.2.1 40 = .ok (.iconst 1, 1) := by decide +kernel
theorem de_B_winner_41 : decode am_B_winner.2.1 41 = .ok (.iload_n 1, 1) := by decide +kernel
theorem de_B_winner_42 : decode am_B_winner.2.1 42 = .ok (.invokestatic 52, 3) := by decide +kernel
theorem de_B_winner_45 : decode am_B_winner.2.1 45 = .ok (.isub, 1) := by decide +kernel
theorem de_B_winner_46 : decode am_B_winner.2.1 46 = .ok (.goto (4), 3) := by decide +kernel
theorem de_B_winner_49 : decode am_B_winner.2.1 49 = .ok (.iconst (-1), 1) := by decide +kernel
theorem de_B_winner_50 : decode am_B_winner.2.1 50 = .ok (.ireturn, 1) := by decide +kernel
theorem de_B_targets_0 : decode am_B_targets.2.1 0 = .ok (.iload_n 1, 1) := by decide +kernel
theorem de_B_targets_1 : decode am_B_targets.2.1 1 = .ok (.invokestatic 22, 3) := by decide +kernel
theorem de_B_targets_4 : decode am_B_targets.2.1 4 = .ok (.istore 4, 2) := by decide +kernel
theorem de_B_targets_6 : decode am_B_targets.2.1 6 = .ok (.iload_n 3, 1) := by decide +kernel
theorem de_B_targets_7 : decode am_B_targets.2.1 7 = .ok (.bipush (15), 2) := by decide +kernel
theorem de_B_targets_9 : decode am_B_targets.2.1 9 = .ok (.if_icmp .ne (17), 3) := by decide +kernel
theorem de_B_targets_12 : decode am_B_targets.2.1 12 = .ok (.iload_n 2, 1) := by decide +kernel
theorem de_B_targets_13 : decode am_B_targets.2.1 13 = .ok (.bipush (64), 2) := by decide +kernel
theorem de_B_targets_15 : decode am_B_targets.2.1 15 = .ok (.iand, 1) := by decide +kernel
theorem de_B_targets_16 : decode am_B_targets.2.1 16 = .ok (.ifCond .eq (8), 3) := by decide +kernel
theorem de_B_targets_19 : decode am_B_targets.2.1 19 = .ok (.iload 4, 2) := by decide +kernel
theorem de_B_targets_21 : decode am_B_targets.2.1 21 = .ok (.goto (4), 3) := by decide +kernel
theorem de_B_targets_24 : decode am_B_targets.2.1 24 = .ok (.iconst 0, 1) := by decide +kernel
theorem de_B_targets_25 : decode am_B_targets.2.1 25 = .ok (.ireturn, 1) := by decide +kernel
theorem de_B_targets_26 : decode am_B_targets.2.1 26 = .ok (.iload_n 3, 1) := by decide +kernel
theorem de_B_targets_27 : decode am_B_targets.2.1 27 = .ok (.invokestatic 25, 3) := by decide +kernel
theorem de_B_targets_30 : decode am_B_targets.2.1 30 = .ok (.ifCond .eq (14), 3) := by decide +kernel
theorem de_B_targets_33 : decode am_B_targets.2.1 33 = .ok (.iload_n 1, 1) := by decide +kernel
theorem de_B_targets_34 : decode am_B_targets.2.1 34 = .ok (.invokestatic 36, 3) := by decide +kernel
theorem de_B_targets_37 : decode am_B_targets.2.1 37 = .ok (.iload_n 3, 1) := by decide +kernel
theorem de_B_targets_38 : decode am_B_targets.2.1 38 = .ok (.ishr, 1) := by decide +kernel
theorem de_B_targets_39 : decode am_B_targets.2.1 39 = .ok (.iconst 1, 1) := by decide +kernel
theorem de_B_targets_40 : decode am_B_targets.2.1 40 = .ok (.iand, 1) := by decide +kernel
theorem de_B_targets_41 : decode am_B_targets.2.1 41 = .ok (.ifCond .ne (5), 3) := by decide +kernel
theorem de_B_targets_44 : decode am_B_targets.2.1 44 = .ok (.iconst 0, 1) := by decide +kernel
theorem de_B_targets_45 : decode am_B_targets.2.1 45 = .ok (.ireturn, 1) := by decide +kernel
theorem de_B_targets_46 : decode am_B_targets.2.1 46 = .ok (.iconst 0, 1) := by decide +kernel
theorem de_B_targets_47 : decode am_B_targets.2.1 47 = .ok (.istore 5, 2) := by decide +kernel
theorem de_B_targets_49 : decode am_B_targets.2.1 49 = .ok (.iconst 0, 1) := by decide +kernel
theorem de_B_targets_50 : decode am_B_targets.2.1 50 = .ok (.istore 6, 2) := by decide +kernel
theorem de_B_targets_52 : decode am_B_targets.2.1 52 = .ok (.iload 6, 2) := by decide +kernel
theorem de_B_targets_54 : decode am_B_targets.2.1 54 = .ok (.iconst 3, 1) := by decide +kernel
theorem de_B_targets_55 : decode am_B_targets.2.1 55 = .ok (.if_icmp .ge (68), 3) := by decide +kernel
theorem de_B_targets_58 : decode am_B_targets.2.1 58 = .ok (.aload_n 0, 1) := by decide +kernel
theorem de_B_targets_59 : decode am_B_targets.2.1 59 = .ok (.getfield 9, 3) := by decide +kernel
theorem de_B_targets_62 : decode am_B_targets.2.1 62 = .ok (.iload 6, 2) := by decide +kernel
theorem de_B_targets_64 : decode am_B_targets.2.1 64 = .ok (.bipush (12), 2) := by decide +kernel
theorem de_B_targets_66 : decode am_B_targets.2.1 66 = .ok (.imul, 1) := by decide +kernel
theorem de_B_targets_67 : decode am_B_targets.2.1 67 = .ok (.iload_n 3, 1) := by decide +kernel
theorem de_B_targets_68 : decode am_B_targets.2.1 68 = .ok (.iadd, 1) := by decide +kernel
theorem de_B_targets_69 : decode am_B_targets.2.1 69 = .ok (.iaload, 1) := by decide +kernel
theorem de_B_targets_70 : decode am_B_targets.2.1 70 = .ok (.istore 7, 2) := by decide +kernel
theorem de_B_targets_72 : decode am_B_targets.2.1 72 = .ok (.iload_n 2, 1) := by decide +kernel
theorem de_B_targets_73 : decode am_B_targets.2.1 73 = .ok (.iload 6, 2) := by decide +kernel
theorem de_B_targets_75 : decode am_B_targets.2.1 75 = .ok (.ishr, 1) := by decide +kernel
theorem de_B_targets_76 : decode am_B_targets.2.1 76 = .ok (.iconst 1, 1) := by decide +kernel
theorem de_B_targets_77 : decode am_B_targets.2.1 77 = .ok (.iand, 1) := by decide +kernel
theorem de_B_targets_78 : decode am_B_targets.2.1 78 = .ok (.ifCond .eq (10), 3) := by decide +kernel
theorem de_B_targets_81 : decode am_B_targets.2.1 81 = .ok (.iload 5, 2) := by decide +kernel
theorem de_B_targets_83 : decode am_B_targets.2.1 83 = .ok (.iload 7, 2) := by decide +kernel
theorem de_B_targets_85 : decode am_B_targets.2.1 85 = .ok (.ior, 1) := by decide +kernel
theorem de_B_targets_86 : decode am_B_targets.2.1 86 = .ok (.istore 5, 2) := by decide +kernel
theorem de_B_targets_88 : decode am_B_targets.2.1 88 = .ok (.iload_n 2, 1) := by decide +kernel
theorem de_B_targets_89 : decode am_B_targets.2.1 89 = .ok (.iconst 3, 1) := by decide +kernel
theorem de_B_targets_90 : decode am_B_targets.2.1 90 = .ok (.iload 6, 2) := by decide +kernel
theorem de_B_targets_92 : decode am_B_targets.2.1 92 = .ok (.iadd, 1) := by decide +kernel
theorem de_B_targets_93 : decode am_B_targets.2.1 93 = .ok (.ishr, 1) := by decide +kernel
theorem de_B_targets_94 : decode am_B_targets.2.1 94 = .ok (.iconst 1, 1) := by decide +kernel
theorem de_B_targets_95 : decode am_B_targets.2.1 95 = .ok (.iand, 1) := by decide +kernel
theorem de_B_targets_96 : decode am_B_targets.2.1 96 = .ok (.ifCond .eq (21), 3) := by decide +kernel
theorem de_B_targets_99 : decode am_B_targets.2.1 99 = .ok (.iload 5, 2) := by decide +kernel
theorem de_B_targets_101 : decode am_B_targets.2.1 101 = .ok (.aload_n 0, 1) := by decide +kernel
theorem de_B_targets_102 : decode am_B_targets.2.1 102 = .ok (.iload 6, 2) := by decide +kernel
theorem de_B_targets_104 : decode am_B_targets.2.1 104 = .ok (.iload 7, 2) := by decide +kernel
theorem de_B_targets_106 : decode am_B_targets.2.1 106 = .ok (.iload_n 1, 1) := by decide +kernel
theorem de_B_targets_107 : decode am_B_targets.2.1 107 = .ok (.invokestatic 39, 3) := by decide +kernel
theorem de_B_targets_110 : decode am_B_targets.2.1 110 = .ok (.iand, 1) := by decide +kernel
theorem de_B_targets_111 : decode am_B_targets.2.1 111 = .ok (.invokevirtual 55, 3) := by decide +kernel
theorem de_B_targets_114 : decode am_B_targets.2.1 114 = .ok (.ior, 1) := by decide +kernel
theorem de_B_targets_115 : decode am_B_targets.2.1 115 = .ok (.istore 5, 2) := by decide +kernel
theorem de_B_targets_117 : decode am_B_targets.2.1 117 = .ok (.iinc 6 (1), 3) := by decide +kernel
theorem de_B_targets_120 : decode am_B_targets.2.1 120 = .ok (.goto (-68), 3) := by decide +kernel
theorem de_B_targets_123 : decode am_B_targets.2.1 123 = .ok (.iload 5, 2) := by decide +kernel
theorem de_B_targets_125 : decode am_B_targets.2.1 125 = .ok (.iload 4, 2) := by decide +kernel
theorem de_B_targets_127 : decode am_B_targets.2.1 127 = .ok (.iand, 1) := by decide +kernel
theorem de_B_targets_128 : decode am_B_targets.2.1 128 = .ok (.ireturn, 1) := by decide +kernel
theorem de_B_behind_0 : decode am_B_behind.2.1 0 = .ok (.iconst 0, 1) := by decide +kernel
theorem de_B_behind_1 : decode am_B_behind.2.1 1 = .ok (.istore_n 3, 1) := by decide +kernel
theorem de_B_behind_2 : decode am_B_behind.2.1 2 = .ok (.iconst 0, 1) := by decide +kernel
theorem de_B_behind_3 : decode am_B_behind.2.1 3 = .ok (.istore 4, 2) := by decide +kernel
theorem de_B_behind_5 : decode am_B_behind.2.1 5 = .ok (.iload 4, 2) := by decide +kernel
theorem de_B_behind_7 : decode am_B_behind.2.1 7 = .ok (.bipush (12), 2) := by decide +kernel
theorem de_B_behind_9 : decode am_B_behind.2.1 9 = .ok (.if_icmp .ge (37), 3) := by decide +kernel
theorem de_B_behind_12 : decode am_B_behind.2.1 12 = .ok (.iload_n 2, 1) := by decide +kernel
theorem de_B_behind_13 : decode am_B_behind.2.1 13 = .ok (.ifCond .eq (33), 3) := by decide +kernel
theorem de_B_behind_16 : decode am_B_behind.2.1 16 = .ok (.iload_n 2, 1) := by decide +kernel
theorem de_B_behind_17 : decode am_B_behind.2.1 17 = .ok (.iload 4, 2) := by decide +kernel
theorem de_B_behind_19 : decode am_B_behind.2.1 19 = .ok (.ishr, 1) := by decide +kernel
theorem de_B_behind_20 : decode am_B_behind.2.1 20 = .ok (.iconst 1, 1) := by decide +kernel
theorem de_B_behind_21 : decode am_B_behind.2.1 21 = .ok (.iand, 1) := by decide +kernel
theorem de_B_behind_22 : decode am_B_behind.2.1 22 = .ok (.ifCond .eq (18), 3) := by decide +kernel
theorem de_B_behind_25 : decode am_B_behind.2.1 25 = .ok (.iload_n 3, 1) := by decide +kernel
theorem de_B_behind_26 : decode am_B_behind.2.1 26 = .ok (.aload_n 0, 1) := by decide +kernel
theorem de_B_behind_27 : decode am_B_behind.2.1 27 = .ok (.getfield 9, 3) := by decide +kernel
theorem de_B_behind_30 : decode am_B_behind.2.1 30 = .ok (.iload_n 1, 1) := by decide +kernel
theorem de_B_behind_31 : decode am_B_behind.2.1 31 = .ok (.bipush (12), 2) := by decide +kernel
theorem de_B_behind_33 : decode am_B_behind.2.1 33 = .ok (.imul, 1) := by decide +kernel
theorem de_B_behind_34 : decode am_B_behind.2.1 34 = .ok (.iload 4, 2) := by decide +kernel
theorem de_B_behind_36 : decode am_B_behind.2.1 36 = .ok (.iadd, 1) := by decide +kernel
theorem de_B_behind_37 : decode am_B_behind.2.1 37 = .ok (.iaload, 1) := by decide +kernel
theorem de_B_behind_38 : decode am_B_behind.2.1 38 = .ok (.ior, 1) := by decide +kernel
theorem de_B_behind_39 : decode am_B_behind.2.1 39 = .ok (.istore_n 3, 1) := by decide +kernel
theorem de_B_behind_40 : decode am_B_behind.2.1 40 = .ok (.iinc 4 (1), 3) := by decide +kernel
theorem de_B_behind_43 : decode am_B_behind.2.1 43 = .ok (.goto (-38), 3) := by decide +kernel
theorem de_B_behind_46 : decode am_B_behind.2.1 46 = .ok (.iload_n 3, 1) := by decide +kernel
theorem de_B_behind_47 : decode am_B_behind.2.1 47 = .ok (.ireturn, 1) := by decide +kernel
theorem de_B_lawfulCount_0 : decode am_B_lawfulCount.2.1 0 = .ok (.iconst 0, 1) := by decide +kernel
theorem de_B_lawfulCount_1 : decode am_B_lawfulCount.2.1 1 = .ok (.istore_n 3, 1) := by decide +kernel
theorem de_B_lawfulCount_2 : decode am_B_lawfulCount.2.1 2 = .ok (.iconst 0, 1) := by decide +kernel
theorem de_B_lawfulCount_3 : decode am_B_lawfulCount.2.1 3 = .ok (.istore 4, 2) := by decide +kernel
theorem de_B_lawfulCount_5 : decode am_B_lawfulCount.2.1 5 = .ok (.iload 4, 2) := by decide +kernel
theorem de_B_lawfulCount_7 : decode am_B_lawfulCount.2.1 7 = .ok (.bipush (15), 2) := by decide +kernel
theorem de_B_lawfulCount_9 : decode am_B_lawfulCount.2.1 9 = .ok (.if_icmp .gt (23), 3) := by decide +kernel
theorem de_B_lawfulCount_12 : decode am_B_lawfulCount.2.1 12 = .ok (.iload_n 3, 1) := by decide +kernel
theorem de_B_lawfulCount_13 : decode am_B_lawfulCount.2.1 13 = .ok (.aload_n 0, 1) := by decide +kernel
theorem de_B_lawfulCount_14 : decode am_B_lawfulCount.2.1 14 = .ok (.iload_n 1, 1) := by decide +kernel
theorem de_B_lawfulCount_15 : decode am_B_lawfulCount.2.1 15 = .ok (.iload_n 2, 1) := by decide +kernel
theorem de_B_lawfulCount_16 : decode am_B_lawfulCount.2.1 16 = .ok (.iload 4, 2) := by decide +kernel
theorem de_B_lawfulCount_18 : decode am_B_lawfulCount.2.1 18 = .ok (.invokevirtual 58, 3) := by decide +kernel
theorem de_B_lawfulCount_21 : decode am_B_lawfulCount.2.1 21 = .ok (.invokestatic 15, 3) := by decide +kernel
theorem de_B_lawfulCount_24 : decode am_B_lawfulCount.2.1 24 = .ok (.iadd, 1) := by decide +kernel
theorem de_B_lawfulCount_25 : decode am_B_lawfulCount.2.1 25 = .ok (.istore_n 3, 1) := by decide +kernel
theorem de_B_lawfulCount_26 : decode am_B_lawfulCount.2.1 26 = .ok (.iinc 4 (1), 3) := by decide +kernel
theorem de_B_lawfulCount_29 : decode am_B_lawfulCount.2.1 29 = .ok (.goto (-24), 3) := by decide +kernel
theorem de_B_lawfulCount_32 : decode am_B_lawfulCount.2.1 32 = .ok (.iload_n 3, 1) := by decide +kernel
theorem de_B_lawfulCount_33 : decode am_B_lawfulCount.2.1 33 = .ok (.ireturn, 1) := by decide +kernel
theorem de_B_lawfulAt_0 : decode am_B_lawfulAt.2.1 0 = .ok (.iconst 0, 1) := by decide +kernel
theorem de_B_lawfulAt_1 : decode am_B_lawfulAt.2.1 1 = .ok (.istore 4, 2) := by decide +kernel
theorem de_B_lawfulAt_3 : decode am_B_lawfulAt.2.1 3 = .ok (.iconst 0, 1) := by decide +kernel
theorem de_B_lawfulAt_4 : decode am_B_lawfulAt.2.1 4 = .ok (.istore 5, 2) := by decide +kernel
theorem de_B_lawfulAt_6 : decode am_B_lawfulAt.2.1 6 = .ok (.iload 5, 2) := by decide +kernel
theorem de_B_lawfulAt_8 : decode am_B_lawfulAt.2.1 8 = .ok (.bipush (15), 2) := by decide +kernel
theorem de_B_lawfulAt_10 : decode am_B_lawfulAt.2.1 10 = .ok (.if_icmp .gt (63), 3) := by decide +kernel
theorem de_B_lawfulAt_13 : decode am_B_lawfulAt.2.1 13 = .ok (.aload_n 0, 1) := by decide +kernel
theorem de_B_lawfulAt_14 : decode am_B_lawfulAt.2.1 14 = .ok (.iload_n 1, 1) := by decide +kernel
theorem de_B_lawfulAt_15 : decode am_B_lawfulAt.2.1 15 = .ok (.iload_n 2, 1) := by decide +kernel
theorem de_B_lawfulAt_16 : decode am_B_lawfulAt.2.1 16 = .ok (.iload 5, 2) := by decide +kernel
theorem de_B_lawfulAt_18 : decode am_B_lawfulAt.2.1 18 = .ok (.invokevirtual 58, 3) := by decide +kernel
theorem de_B_lawfulAt_21 : decode am_B_lawfulAt.2.1 21 = .ok (.istore 6, 2) := by decide +kernel
theorem de_B_lawfulAt_23 : decode am_B_lawfulAt.2.1 23 = .ok (.iconst 0, 1) := by decide +kernel
theorem de_B_lawfulAt_24 : decode am_B_lawfulAt.2.1 24 = .ok (.istore 7, 2) := by decide +kernel
theorem de_B_lawfulAt_26 : decode am_B_lawfulAt.2.1 26 = .ok (.iload 7, 2) := by decide +kernel
theorem de_B_lawfulAt_28 : decode am_B_lawfulAt.2.1 28 = .ok (.bipush (12), 2) := by decide +kernel
theorem de_B_lawfulAt_30 : decode am_B_lawfulAt.2.1 30 = .ok (.if_icmp .ge (37), 3) := by decide +kernel
theorem de_B_lawfulAt_33 : decode am_B_lawfulAt.2.1 33 = .ok (.iload 6, 2) := by decide +kernel
theorem de_B_lawfulAt_35 : decode am_B_lawfulAt.2.1 35 = .ok (.iload 7, 2) := by decide +kernel
theorem de_B_lawfulAt_37 : decode am_B_lawfulAt.2.1 37 = .ok (.ishr, 1) := by decide +kernel
theorem de_B_lawfulAt_38 : decode am_B_lawfulAt.2.1 38 = .ok (.iconst 1, 1) := by decide +kernel
theorem de_B_lawfulAt_39 : decode am_B_lawfulAt.2.1 39 = .ok (.iand, 1) := by decide +kernel
theorem de_B_lawfulAt_40 : decode am_B_lawfulAt.2.1 40 = .ok (.ifCond .eq (21), 3) := by decide +kernel
theorem de_B_lawfulAt_43 : decode am_B_lawfulAt.2.1 43 = .ok (.iload 4, 2) := by decide +kernel
theorem de_B_lawfulAt_45 : decode am_B_lawfulAt.2.1 45 = .ok (.iload_n 3, 1) := by decide +kernel
theorem de_B_lawfulAt_46 : decode am_B_lawfulAt.2.1 46 = .ok (.if_icmp .ne (12), 3) := by decide +kernel
theorem de_B_lawfulAt_49 : decode am_B_lawfulAt.2.1 49 = .ok (.bipush (16), 2) := by decide +kernel
theorem de_B_lawfulAt_51 : decode am_B_lawfulAt.2.1 51 = .ok (.iload 5, 2) := by decide +kernel
theorem de_B_lawfulAt_53 : decode am_B_lawfulAt.2.1 53 = .ok (.imul, 1) := by decide +kernel
theorem de_B_lawfulAt_54 : decode am_B_lawfulAt.2.1 54 = .ok (.iload 7, 2) := by decide +kernel
theorem de_B_lawfulAt_56 : decode am_B_lawfulAt.2.1 56 = .ok (.iadd, 1) := by decide +kernel
theorem de_B_lawfulAt_57 : decode am_B_lawfulAt.2.1 57 = .ok (.ireturn, 1) := by decide +kernel
theorem de_B_lawfulAt_58 : decode am_B_lawfulAt.2.1 58 = .ok (.iinc 4 (1), 3) := by decide +kernel
theorem de_B_lawfulAt_61 : decode am_B_lawfulAt.2.1 61 = .ok (.iinc 7 (1), 3) := by decide +kernel
theorem de_B_lawfulAt_64 : decode am_B_lawfulAt.2.1 64 = .ok (.goto (-38), 3) := by decide +kernel
theorem de_B_lawfulAt_67 : decode am_B_lawfulAt.2.1 67 = .ok (.iinc 5 (1), 3) := by decide +kernel
theorem de_B_lawfulAt_70 : decode am_B_lawfulAt.2.1 70 = .ok (.goto (-64), 3) := by decide +kernel
theorem de_B_lawfulAt_73 : decode am_B_lawfulAt.2.1 73 = .ok (.iconst (-1), 1) := by decide +kernel
theorem de_B_lawfulAt_74 : decode am_B_lawfulAt.2.1 74 = .ok (.ireturn, 1) := by decide +kernel
theorem de_B_letAlike_0 : decode am_B_letAlike.2.1 0 = .ok (.iconst 0, 1) := by decide +kernel
theorem de_B_letAlike_1 : decode am_B_letAlike.2.1 1 = .ok (.istore 4, 2) := by decide +kernel
theorem de_B_letAlike_3 : decode am_B_letAlike.2.1 3 = .ok (.iload 4, 2) := by decide +kernel
theorem de_B_letAlike_5 : decode am_B_letAlike.2.1 5 = .ok (.bipush (15), 2) := by decide +kernel
theorem de_B_letAlike_7 : decode am_B_letAlike.2.1 7 = .ok (.if_icmp .gt (30), 3) := by decide +kernel
theorem de_B_letAlike_10 : decode am_B_letAlike.2.1 10 = .ok (.aload_n 0, 1) := by decide +kernel
theorem de_B_letAlike_11 : decode am_B_letAlike.2.1 11 = .ok (.iload_n 1, 1) := by decide +kernel
theorem de_B_letAlike_12 : decode am_B_letAlike.2.1 12 = .ok (.iload_n 2, 1) := by decide +kernel
theorem de_B_letAlike_13 : decode am_B_letAlike.2.1 13 = .ok (.iload 4, 2) := by decide +kernel
theorem de_B_letAlike_15 : decode am_B_letAlike.2.1 15 = .ok (.invokevirtual 58, 3) := by decide +kernel
theorem de_B_letAlike_18 : decode am_B_letAlike.2.1 18 = .ok (.aload_n 0, 1) := by decide +kernel
theorem de_B_letAlike_19 : decode am_B_letAlike.2.1 19 = .ok (.iload_n 1, 1) := by decide +kernel
theorem de_B_letAlike_20 : decode am_B_letAlike.2.1 20 = .ok (.iload_n 3, 1) := by decide +kernel
theorem de_B_letAlike_21 : decode am_B_letAlike.2.1 21 = .ok (.iload 4, 2) := by decide +kernel
theorem de_B_letAlike_23 : decode am_B_letAlike.2.1 23 = .ok (.invokevirtual 58, 3) := by decide +kernel
theorem de_B_letAlike_26 : decode am_B_letAlike.2.1 26 = .ok (.if_icmp .eq (5), 3) := by decide +kernel
theorem de_B_letAlike_29 : decode am_B_letAlike.2.1 29 = .ok (.iconst 0, 1) := by decide +kernel
theorem de_B_letAlike_30 : decode am_B_letAlike.2.1 30 = .ok (.ireturn, 1) := by decide +kernel
theorem de_B_letAlike_31 : decode am_B_letAlike.2.1 31 = .ok (.iinc 4 (1), 3) := by decide +kernel
theorem de_B_letAlike_34 : decode am_B_letAlike.2.1 34 = .ok (.goto (-31), 3) := by decide +kernel
theorem de_B_letAlike_37 : decode am_B_letAlike.2.1 37 = .ok (.iconst 1, 1) := by decide +kernel
theorem de_B_letAlike_38 : decode am_B_letAlike.2.1 38 = .ok (.ireturn, 1) := by decide +kernel
theorem de_B_allows_0 : decode am_B_allows.2.1 0 = .ok (.iload_n 3, 1) := by decide +kernel
theorem de_B_allows_1 : decode am_B_allows.2.1 1 = .ok (.iconst 4, 1) := by decide +kernel
theorem de_B_allows_2 : decode am_B_allows.2.1 2 = .ok (.ishr, 1) := by decide +kernel
theorem de_B_allows_3 : decode am_B_allows.2.1 3 = .ok (.istore 4, 2) := by decide +kernel
theorem de_B_allows_5 : decode am_B_allows.2.1 5 = .ok (.iload_n 3, 1) := by decide +kernel
theorem de_B_allows_6 : decode am_B_allows.2.1 6 = .ok (.bipush (15), 2) := by decide +kernel
theorem de_B_allows_8 : decode am_B_allows.2.1 8 = .ok (.iand, 1) := by decide +kernel
theorem de_B_allows_9 : decode am_B_allows.2.1 9 = .ok (.istore 5, 2) := by decide +kernel
theorem de_B_allows_11 : decode am_B_allows.2.1 11 = .ok (.iload 4, 2) := by decide +kernel
theorem de_B_allows_13 : decode am_B_allows.2.1 13 = .ok (.bipush (15), 2) := by decide +kernel
theorem de_B_allows_15 : decode am_B_allows.2.1 15 = .ok (.if_icmp .ne (28), 3) := by decide +kernel
theorem de_B_allows_18 : decode am_B_allows.2.1 18 = .ok (.iload_n 2, 1) := by decide +kernel
theorem de_B_allows_19 : decode am_B_allows.2.1 19 = .ok (.bipush (64), 2) := by decide +kernel
theorem de_B_allows_21 : decode am_B_allows.2.1 21 = .ok (.iand, 1) := by decide +kernel
theorem de_B_allows_22 : decode am_B_allows.2.1 22 = .ok (.ifCond .eq (19), 3) := by decide +kernel
theorem de_B_allows_25 : decode am_B_allows.2.1 25 = .ok (.iload_n 1, 1) := by decide +kernel
theorem de_B_allows_26 : decode am_B_allows.2.1 26 = .ok (.invokestatic 22, 3) := by decide +kernel
theorem de_B_allows_29 : decode am_B_allows.2.1 29 = .ok (.iload 5, 2) := by decide +kernel
theorem de_B_allows_31 : decode am_B_allows.2.1 31 = .ok (.ishr, 1) := by decide +kernel
theorem de_B_allows_32 : decode am_B_allows.2.1 32 = .ok (.iconst 1, 1) := by decide +kernel
theorem de_B_allows_33 : decode am_B_allows.2.1 33 = .ok (.iand, 1) := by decide +kernel
theorem de_B_allows_34 : decode am_B_allows.2.1 34 = .ok (.ifCond .eq (7), 3) := by decide +kernel
theorem de_B_allows_37 : decode am_B_allows.2.1 37 = .ok (.iconst 1, 1) := by decide +kernel
theorem de_B_allows_38 : decode am_B_allows.2.1 38 = .ok (.goto (4), 3) := by decide +kernel
theorem de_B_allows_41 : decode am_B_allows.2.1 41 = .ok (.iconst 0, 1) := by decide +kernel
theorem de_B_allows_42 : decode am_B_allows.2.1 42 = .ok (.ireturn, 1) := by decide +kernel
theorem de_B_allows_43 : decode am_B_allows.2.1 43 = .ok (.iload_n 1, 1) := by decide +kernel
theorem de_B_allows_44 : decode am_B_allows.2.1 44 = .ok (.invokestatic 36, 3) := by decide +kernel
theorem de_B_allows_47 : decode am_B_allows.2.1 47 = .ok (.iload 4, 2) := by decide +kernel
theorem de_B_allows_49 : decode am_B_allows.2.1 49 = .ok (.ishr, 1) := by decide +kernel
theorem de_B_allows_50 : decode am_B_allows.2.1 50 = .ok (.iconst 1, 1) := by decide +kernel
theorem de_B_allows_51 : decode am_B_allows.2.1 51 = .ok (.iand, 1) := by decide +kernel
theorem de_B_allows_52 : decode am_B_allows.2.1 52 = .ok (.ifCond .eq (44), 3) := by decide +kernel
theorem de_B_allows_55 : decode am_B_allows.2.1 55 = .ok (.iload_n 1, 1) := by decide +kernel
theorem de_B_allows_56 : decode am_B_allows.2.1 56 = .ok (.invokestatic 22, 3) := by decide +kernel
theorem de_B_allows_59 : decode am_B_allows.2.1 59 = .ok (.iload 5, 2) := by decide +kernel
theorem de_B_allows_61 : decode am_B_allows.2.1 61 = .ok (.ishr, 1) := by decide +kernel
theorem de_B_allows_62 : decode am_B_allows.2.1 62 = .ok (.iconst 1, 1) := by decide +kernel
theorem de_B_allows_63 : decode am_B_allows.2.1 63 = .ok (.iand, 1) := by decide +kernel
theorem de_B_allows_64 : decode am_B_allows.2.1 64 = .ok (.ifCond .eq (32), 3) := by decide +kernel
theorem de_B_allows_67 : decode am_B_allows.2.1 67 = .ok (.aload_n 0, 1) := by decide +kernel
theorem de_B_allows_68 : decode am_B_allows.2.1 68 = .ok (.iload_n 2, 1) := by decide +kernel
theorem de_B_allows_69 : decode am_B_allows.2.1 69 = .ok (.iload 4, 2) := by decide +kernel
theorem de_B_allows_71 : decode am_B_allows.2.1 71 = .ok (.iload 5, 2) := by decide +kernel
theorem de_B_allows_73 : decode am_B_allows.2.1 73 = .ok (.invokevirtual 62, 3) := by decide +kernel
theorem de_B_allows_76 : decode am_B_allows.2.1 76 = .ok (.ifCond .ne (16), 3) := by decide +kernel
theorem de_B_allows_79 : decode am_B_allows.2.1 79 = .ok (.aload_n 0, 1) := by decide +kernel
theorem de_B_allows_80 : decode am_B_allows.2.1 80 = .ok (.iload_n 1, 1) := by decide +kernel
theorem de_B_allows_81 : decode am_B_allows.2.1 81 = .ok (.iload_n 2, 1) := by decide +kernel
theorem de_B_allows_82 : decode am_B_allows.2.1 82 = .ok (.iload 4, 2) := by decide +kernel
theorem de_B_allows_84 : decode am_B_allows.2.1 84 = .ok (.iload 5, 2) := by decide +kernel
theorem de_B_allows_86 : decode am_B_allows.2.1 86 = .ok (.invokevirtual 66, 3) := by decide +kernel
theorem de_B_allows_89 : decode am_B_allows.2.1 89 = .ok (.ifCond .eq (7), 3) := by decide +kernel
theorem de_B_allows_92 : decode am_B_allows.2.1 92 = .ok (.iconst 1, 1) := by decide +kernel
theorem de_B_allows_93 : decode am_B_allows.2.1 93 = .ok (.goto (4), 3) := by decide +kernel
theorem de_B_allows_96 : decode am_B_allows.2.1 96 = .ok (.iconst 0, 1) := by decide +kernel
theorem de_B_allows_97 : decode am_B_allows.2.1 97 = .ok (.ireturn, 1) := by decide +kernel
theorem de_B_isStep_0 : decode am_B_isStep.2.1 0 = .ok (.iconst 0, 1) := by decide +kernel
theorem de_B_isStep_1 : decode am_B_isStep.2.1 1 = .ok (.istore 4, 2) := by decide +kernel
theorem de_B_isStep_3 : decode am_B_isStep.2.1 3 = .ok (.iload 4, 2) := by decide +kernel
theorem de_B_isStep_5 : decode am_B_isStep.2.1 5 = .ok (.iconst 3, 1) := by decide +kernel
theorem de_B_isStep_6 : decode am_B_isStep.2.1 6 = .ok (.if_icmp .ge (31), 3) := by decide +kernel
theorem de_B_isStep_9 : decode am_B_isStep.2.1 9 = .ok (.iload_n 1, 1) := by decide +kernel
theorem de_B_isStep_10 : decode am_B_isStep.2.1 10 = .ok (.iload 4, 2) := by decide +kernel
theorem de_B_isStep_12 : decode am_B_isStep.2.1 12 = .ok (.ishr, 1) := by decide +kernel
theorem de_B_isStep_13 : decode am_B_isStep.2.1 13 = .ok (.iconst 1, 1) := by decide +kernel
theorem de_B_isStep_14 : decode am_B_isStep.2.1 14 = .ok (.iand, 1) := by decide +kernel
theorem de_B_isStep_15 : decode am_B_isStep.2.1 15 = .ok (.ifCond .eq (16), 3) := by decide +kernel
theorem de_B_isStep_18 : decode am_B_isStep.2.1 18 = .ok (.aload_n 0, 1) := by decide +kernel
theorem de_B_isStep_19 : decode am_B_isStep.2.1 19 = .ok (.iload_n 2, 1) := by decide +kernel
theorem de_B_isStep_20 : decode am_B_isStep.2.1 20 = .ok (.iload_n 3, 1) := by decide +kernel
theorem de_B_isStep_21 : decode am_B_isStep.2.1 21 = .ok (.iload 4, 2) := by decide +kernel
theorem de_B_isStep_23 : decode am_B_isStep.2.1 23 = .ok (.invokevirtual 70, 3) := by decide +kernel
theorem de_B_isStep_26 : decode am_B_isStep.2.1 26 = .ok (.ifCond .eq (5), 3) := by decide +kernel
theorem de_B_isStep_29 : decode am_B_isStep.2.1 29 = .ok (.iconst 1, 1) := by decide +kernel
theorem de_B_isStep_30 : decode am_B_isStep.2.1 30 = .ok (.ireturn, 1) := by decide +kernel
theorem de_B_isStep_31 : decode am_B_isStep.2.1 31 = .ok (.iinc 4 (1), 3) := by decide +kernel
theorem de_B_isStep_34 : decode am_B_isStep.2.1 34 = .ok (.goto (-31), 3) := by decide +kernel
theorem de_B_isStep_37 : decode am_B_isStep.2.1 37 = .ok (.iconst 0, 1) := by decide +kernel
theorem de_B_isStep_38 : decode am_B_isStep.2.1 38 = .ok (.ireturn, 1) := by decide +kernel
theorem de_B_jumpedOver_0 : decode am_B_jumpedOver.2.1 0 = .ok (.iconst 0, 1) := by decide +kernel
theorem de_B_jumpedOver_1 : decode am_B_jumpedOver.2.1 1 = .ok (.istore 5, 2) := by decide +kernel
theorem de_B_jumpedOver_3 : decode am_B_jumpedOver.2.1 3 = .ok (.iconst 0, 1) := by decide +kernel
theorem de_B_jumpedOver_4 : decode am_B_jumpedOver.2.1 4 = .ok (.istore 6, 2) := by decide +kernel
theorem de_B_jumpedOver_6 : decode am_B_jumpedOver.2.1 6 = .ok (.iload 6, 2) := by decide +kernel
theorem de_B_jumpedOver_8 : decode am_B_jumpedOver.2.1 8 = .ok (.iconst 3, 1) := by decide +kernel
theorem de_B_jumpedOver_9 : decode am_B_jumpedOver.2.1 9 = .ok (.if_icmp .ge (41), 3) := by decide +kernel
theorem de_B_jumpedOver_12 : decode am_B_jumpedOver.2.1 12 = .ok (.iload_n 2, 1) := by decide +kernel
theorem de_B_jumpedOver_13 : decode am_B_jumpedOver.2.1 13 = .ok (.iconst 3, 1) := by decide +kernel
theorem de_B_jumpedOver_14 : decode am_B_jumpedOver.2.1 14 = .ok (.iload 6, 2) := by decide +kernel
theorem de_B_jumpedOver_16 : decode am_B_jumpedOver.2.1 16 = .ok (.iadd, 1) := by decide +kernel
theorem de_B_jumpedOver_17 : decode am_B_jumpedOver.2.1 17 = .ok (.ishr, 1) := by decide +kernel
theorem de_B_jumpedOver_18 : decode am_B_jumpedOver.2.1 18 = .ok (.iconst 1, 1) := by decide +kernel
theorem de_B_jumpedOver_19 : decode am_B_jumpedOver.2.1 19 = .ok (.iand, 1) := by decide +kernel
theorem de_B_jumpedOver_20 : decode am_B_jumpedOver.2.1 20 = .ok (.ifCond .eq (24), 3) := by decide +kernel
theorem de_B_jumpedOver_23 : decode am_B_jumpedOver.2.1 23 = .ok (.iload 5, 2) := by decide +kernel
theorem de_B_jumpedOver_25 : decode am_B_jumpedOver.2.1 25 = .ok (.aload_n 0, 1) := by decide +kernel
theorem de_B_jumpedOver_26 : decode am_B_jumpedOver.2.1 26 = .ok (.iload_n 3, 1) := by decide +kernel
theorem de_B_jumpedOver_27 : decode am_B_jumpedOver.2.1 27 = .ok (.iload 6, 2) := by decide +kernel
theorem de_B_jumpedOver_29 : decode am_B_jumpedOver.2.1 29 = .ok (.invokevirtual 73, 3) := by decide +kernel
theorem de_B_jumpedOver_32 : decode am_B_jumpedOver.2.1 32 = .ok (.aload_n 0, 1) := by decide +kernel
theorem de_B_jumpedOver_33 : decode am_B_jumpedOver.2.1 33 = .ok (.iload 4, 2) := by decide +kernel
theorem de_B_jumpedOver_35 : decode am_B_jumpedOver.2.1 35 = .ok (.iload 6, 2) := by decide +kernel
theorem de_B_jumpedOver_37 : decode am_B_jumpedOver.2.1 37 = .ok (.invokevirtual 73, 3) := by decide +kernel
theorem de_B_jumpedOver_40 : decode am_B_jumpedOver.2.1 40 = .ok (.iand, 1) := by decide +kernel
theorem de_B_jumpedOver_41 : decode am_B_jumpedOver.2.1 41 = .ok (.ior, 1) := by decide +kernel
theorem de_B_jumpedOver_42 : decode am_B_jumpedOver.2.1 42 = .ok (.istore 5, 2) := by decide +kernel
theorem de_B_jumpedOver_44 : decode am_B_jumpedOver.2.1 44 = .ok (.iinc 6 (1), 3) := by decide +kernel
theorem de_B_jumpedOver_47 : decode am_B_jumpedOver.2.1 47 = .ok (.goto (-41), 3) := by decide +kernel
theorem de_B_jumpedOver_50 : decode am_B_jumpedOver.2.1 50 = .ok (.iload 5, 2) := by decide +kernel
theorem de_B_jumpedOver_52 : decode am_B_jumpedOver.2.1 52 = .ok (.iload_n 1, 1) := by decide +kernel
theorem de_B_jumpedOver_53 : decode am_B_jumpedOver.2.1 53 = .ok (.invokestatic 39, 3) := by decide +kernel
theorem de_B_jumpedOver_56 : decode am_B_jumpedOver.2.1 56 = .ok (.iand, 1) := by decide +kernel
theorem de_B_jumpedOver_57 : decode am_B_jumpedOver.2.1 57 = .ok (.ireturn, 1) := by decide +kernel
theorem de_B_done_0 : decode am_B_done.2.1 0 = .ok (.iload_n 3, 1) := by decide +kernel
theorem de_B_done_1 : decode am_B_done.2.1 1 = .ok (.iconst 4, 1) := by decide +kernel
theorem de_B_done_2 : decode am_B_done.2.1 2 = .ok (.ishr, 1) := by decide +kernel
theorem de_B_done_3 : decode am_B_done.2.1 3 = .ok (.istore 4, 2) := by decide +kernel
theorem de_B_done_5 : decode am_B_done.2.1 5 = .ok (.iload_n 3, 1) := by decide +kernel
theorem de_B_done_6 : decode am_B_done.2.1 6 = .ok (.bipush (15), 2) := by decide +kernel
theorem de_B_done_8 : decode am_B_done.2.1 8 = .ok (.iand, 1) := by decide +kernel
theorem de_B_done_9 : decode am_B_done.2.1 9 = .ok (.istore 5, 2) := by decide +kernel
theorem de_B_done_11 : decode am_B_done.2.1 11 = .ok (.iload 4, 2) := by decide +kernel
theorem de_B_done_13 : decode am_B_done.2.1 13 = .ok (.bipush (15), 2) := by decide +kernel
theorem de_B_done_15 : decode am_B_done.2.1 15 = .ok (.if_icmp .ne (19), 3) := by decide +kernel
theorem de_B_done_18 : decode am_B_done.2.1 18 = .ok (.iload_n 1, 1) := by decide +kernel
theorem de_B_done_19 : decode am_B_done.2.1 19 = .ok (.iload 5, 2) := by decide +kernel
theorem de_B_done_21 : decode am_B_done.2.1 21 = .ok (.iconst 1, 1) := by decide +kernel
theorem de_B_done_22 : decode am_B_done.2.1 22 = .ok (.iload_n 1, 1) := by decide +kernel
theorem de_B_done_23 : decode am_B_done.2.1 23 = .ok (.invokestatic 52, 3) := by decide +kernel
theorem de_B_done_26 : decode am_B_done.2.1 26 = .ok (.iadd, 1) := by decide +kernel
theorem de_B_done_27 : decode am_B_done.2.1 27 = .ok (.invokestatic 76, 3) := by decide +kernel
theorem de_B_done_30 : decode am_B_done.2.1 30 = .ok (.invokestatic 79, 3) := by decide +kernel
theorem de_B_done_33 : decode am_B_done.2.1 33 = .ok (.ireturn, 1) := by decide +kernel
theorem de_B_done_34 : decode am_B_done.2.1 34 = .ok (.iload_n 1, 1) := by decide +kernel
theorem de_B_done_35 : decode am_B_done.2.1 35 = .ok (.iload 4, 2) := by decide +kernel
theorem de_B_done_37 : decode am_B_done.2.1 37 = .ok (.iconst 0, 1) := by decide +kernel
theorem de_B_done_38 : decode am_B_done.2.1 38 = .ok (.invokestatic 76, 3) := by decide +kernel
theorem de_B_done_41 : decode am_B_done.2.1 41 = .ok (.iload 5, 2) := by decide +kernel
theorem de_B_done_43 : decode am_B_done.2.1 43 = .ok (.iload_n 1, 1) := by decide +kernel
theorem de_B_done_44 : decode am_B_done.2.1 44 = .ok (.iload 4, 2) := by decide +kernel
theorem de_B_done_46 : decode am_B_done.2.1 46 = .ok (.invokestatic 82, 3) := by decide +kernel
theorem de_B_done_49 : decode am_B_done.2.1 49 = .ok (.invokestatic 76, 3) := by decide +kernel
theorem de_B_done_52 : decode am_B_done.2.1 52 = .ok (.istore 6, 2) := by decide +kernel
theorem de_B_done_54 : decode am_B_done.2.1 54 = .ok (.iload_n 2, 1) := by decide +kernel
theorem de_B_done_55 : decode am_B_done.2.1 55 = .ok (.sipush (128), 3) := by decide +kernel
theorem de_B_done_58 : decode am_B_done.2.1 58 = .ok (.iand, 1) := by decide +kernel
theorem de_B_done_59 : decode am_B_done.2.1 59 = .ok (.ifCond .eq (60), 3) := by decide +kernel
theorem de_B_done_62 : decode am_B_done.2.1 62 = .ok (.aload_n 0, 1) := by decide +kernel
theorem de_B_done_63 : decode am_B_done.2.1 63 = .ok (.iload_n 1, 1) := by decide +kernel
theorem de_B_done_64 : decode am_B_done.2.1 64 = .ok (.iload_n 2, 1) := by decide +kernel
theorem de_B_done_65 : decode am_B_done.2.1 65 = .ok (.iload_n 3, 1) := by decide +kernel
theorem de_B_done_66 : decode am_B_done.2.1 66 = .ok (.invokevirtual 85, 3) := by decide +kernel
theorem de_B_done_69 : decode am_B_done.2.1 69 = .ok (.ifCond .eq (50), 3) := by decide +kernel
theorem de_B_done_72 : decode am_B_done.2.1 72 = .ok (.aload_n 0, 1) := by decide +kernel
theorem de_B_done_73 : decode am_B_done.2.1 73 = .ok (.iload_n 2, 1) := by decide +kernel
theorem de_B_done_74 : decode am_B_done.2.1 74 = .ok (.iload 4, 2) := by decide +kernel
theorem de_B_done_76 : decode am_B_done.2.1 76 = .ok (.iload 5, 2) := by decide +kernel
theorem de_B_done_78 : decode am_B_done.2.1 78 = .ok (.invokevirtual 62, 3) := by decide +kernel
theorem de_B_done_81 : decode am_B_done.2.1 81 = .ok (.ifCond .ne (38), 3) := by decide +kernel
theorem de_B_done_84 : decode am_B_done.2.1 84 = .ok (.aload_n 0, 1) := by decide +kernel
theorem de_B_done_85 : decode am_B_done.2.1 85 = .ok (.iload_n 1, 1) := by decide +kernel
theorem de_B_done_86 : decode am_B_done.2.1 86 = .ok (.iload_n 2, 1) := by decide +kernel
theorem de_B_done_87 : decode am_B_done.2.1 87 = .ok (.iload 4, 2) := by decide +kernel
theorem de_B_done_89 : decode am_B_done.2.1 89 = .ok (.iload 5, 2) := by decide +kernel
theorem de_B_done_91 : decode am_B_done.2.1 91 = .ok (.invokevirtual 66, 3) := by decide +kernel
theorem de_B_done_94 : decode am_B_done.2.1 94 = .ok (.istore 7, 2) := by decide +kernel
theorem de_B_done_96 : decode am_B_done.2.1 96 = .ok (.iload 7, 2) := by decide +kernel
theorem de_B_done_98 : decode am_B_done.2.1 98 = .ok (.iload 7, 2) := by decide +kernel
theorem de_B_done_100 : decode am_B_done.2.1 100 = .ok (.ineg, 1) := by decide +kernel
theorem de_B_done_101 : decode am_B_done.2.1 101 = .ok (.iand, 1) := by decide +kernel
theorem de_B_done_102 : decode am_B_done.2.1 102 = .ok (.istore 8, 2) := by decide +kernel
theorem de_B_done_104 : decode am_B_done.2.1 104 = .ok (.iload 6, 2) := by decide +kernel
theorem de_B_done_106 : decode am_B_done.2.1 106 = .ok (.iload 8, 2) := by decide +kernel
theorem de_B_done_108 : decode am_B_done.2.1 108 = .ok (.iload 8, 2) := by decide +kernel
theorem de_B_done_110 : decode am_B_done.2.1 110 = .ok (.bipush (12), 2) := by decide +kernel
theorem de_B_done_112 : decode am_B_done.2.1 112 = .ok (.ishl, 1) := by decide +kernel
theorem de_B_done_113 : decode am_B_done.2.1 113 = .ok (.ior, 1) := by decide +kernel
theorem de_B_done_114 : decode am_B_done.2.1 114 = .ok (.iconst (-1), 1) := by decide +kernel
theorem de_B_done_115 : decode am_B_done.2.1 115 = .ok (.ixor, 1) := by decide +kernel
theorem de_B_done_116 : decode am_B_done.2.1 116 = .ok (.iand, 1) := by decide +kernel
theorem de_B_done_117 : decode am_B_done.2.1 117 = .ok (.istore 6, 2) := by decide +kernel
theorem de_B_done_119 : decode am_B_done.2.1 119 = .ok (.iload 6, 2) := by decide +kernel
theorem de_B_done_121 : decode am_B_done.2.1 121 = .ok (.invokestatic 79, 3) := by decide +kernel
theorem de_B_done_124 : decode am_B_done.2.1 124 = .ok (.ireturn, 1) := by decide +kernel
theorem de_B_valueOf_0 : decode am_B_valueOf.2.1 0 = .ok (.iload_n 2, 1) := by decide +kernel
theorem de_B_valueOf_1 : decode am_B_valueOf.2.1 1 = .ok (.sipush (512), 3) := by decide +kernel
theorem de_B_valueOf_4 : decode am_B_valueOf.2.1 4 = .ok (.if_icmp .ge (5), 3) := by decide +kernel
theorem de_B_valueOf_7 : decode am_B_valueOf.2.1 7 = .ok (.iconst 0, 1) := by decide +kernel
theorem de_B_valueOf_8 : decode am_B_valueOf.2.1 8 = .ok (.ireturn, 1) := by decide +kernel
theorem de_B_valueOf_9 : decode am_B_valueOf.2.1 9 = .ok (.aload_n 0, 1) := by decide +kernel
theorem de_B_valueOf_10 : decode am_B_valueOf.2.1 10 = .ok (.iload_n 1, 1) := by decide +kernel
theorem de_B_valueOf_11 : decode am_B_valueOf.2.1 11 = .ok (.iload_n 2, 1) := by decide +kernel
theorem de_B_valueOf_12 : decode am_B_valueOf.2.1 12 = .ok (.invokevirtual 88, 3) := by decide +kernel
theorem de_B_valueOf_15 : decode am_B_valueOf.2.1 15 = .ok (.iconst (-1), 1) := by decide +kernel
theorem de_B_valueOf_16 : decode am_B_valueOf.2.1 16 = .ok (.if_icmp .eq (5), 3) := by decide +kernel
theorem de_B_valueOf_19 : decode am_B_valueOf.2.1 19 = .ok (.iconst (-1), 1) := by decide +kernel
theorem de_B_valueOf_20 : decode am_B_valueOf.2.1 20 = .ok (.ireturn, 1) := by decide +kernel
theorem de_B_valueOf_21 : decode am_B_valueOf.2.1 21 = .ok (.iload_n 3, 1) := by decide +kernel
theorem de_B_valueOf_22 : decode am_B_valueOf.2.1 22 = .ok (.ifCond .gt (7), 3) := by decide +kernel
theorem de_B_valueOf_25 : decode am_B_valueOf.2.1 25 = .ok (.iconst (-1), 1) := by decide +kernel
theorem de_B_valueOf_26 : decode am_B_valueOf.2.1 26 = .ok (.goto (10), 3) := by decide +kernel
theorem de_B_valueOf_29 : decode am_B_valueOf.2.1 29 = .ok (.aload_n 0, 1) := by decide +kernel
theorem de_B_valueOf_30 : decode am_B_valueOf.2.1 30 = .ok (.iload_n 1, 1) := by decide +kernel
theorem de_B_valueOf_31 : decode am_B_valueOf.2.1 31 = .ok (.iload_n 2, 1) := by decide +kernel
theorem de_B_valueOf_32 : decode am_B_valueOf.2.1 32 = .ok (.iload_n 3, 1) := by decide +kernel
theorem de_B_valueOf_33 : decode am_B_valueOf.2.1 33 = .ok (.invokevirtual 91, 3) := by decide +kernel
theorem de_B_valueOf_36 : decode am_B_valueOf.2.1 36 = .ok (.istore 4, 2) := by decide +kernel
theorem de_B_valueOf_38 : decode am_B_valueOf.2.1 38 = .ok (.iload 4, 2) := by decide +kernel
theorem de_B_valueOf_40 : decode am_B_valueOf.2.1 40 = .ok (.iconst (-1), 1) := by decide +kernel
theorem de_B_valueOf_41 : decode am_B_valueOf.2.1 41 = .ok (.if_icmp .ne (5), 3) := by decide +kernel
theorem de_B_valueOf_44 : decode am_B_valueOf.2.1 44 = .ok (.iconst 0, 1) := by decide +kernel
theorem de_B_valueOf_45 : decode am_B_valueOf.2.1 45 = .ok (.ireturn, 1) := by decide +kernel
theorem de_B_valueOf_46 : decode am_B_valueOf.2.1 46 = .ok (.aload_n 0, 1) := by decide +kernel
theorem de_B_valueOf_47 : decode am_B_valueOf.2.1 47 = .ok (.aload_n 0, 1) := by decide +kernel
theorem de_B_valueOf_48 : decode am_B_valueOf.2.1 48 = .ok (.iload_n 1, 1) := by decide +kernel
theorem de_B_valueOf_49 : decode am_B_valueOf.2.1 49 = .ok (.aload_n 0, 1) := by decide +kernel
theorem de_B_valueOf_50 : decode am_B_valueOf.2.1 50 = .ok (.iload_n 1, 1) := by decide +kernel
theorem de_B_valueOf_51 : decode am_B_valueOf.2.1 51 = .ok (.iload_n 2, 1) := by decide +kernel
theorem de_B_valueOf_52 : decode am_B_valueOf.2.1 52 = .ok (.invokevirtual 45, 3) := by decide +kernel
theorem de_B_valueOf_55 : decode am_B_valueOf.2.1 55 = .ok (.iload 4, 2) := by decide +kernel
theorem de_B_valueOf_57 : decode am_B_valueOf.2.1 57 = .ok (.invokevirtual 94, 3) := by decide +kernel
theorem de_B_valueOf_60 : decode am_B_valueOf.2.1 60 = .ok (.iload_n 2, 1) := by decide +kernel
theorem de_B_valueOf_61 : decode am_B_valueOf.2.1 61 = .ok (.iload_n 3, 1) := by decide +kernel
theorem de_B_valueOf_62 : decode am_B_valueOf.2.1 62 = .ok (.iconst 1, 1) := by decide +kernel
theorem de_B_valueOf_63 : decode am_B_valueOf.2.1 63 = .ok (.isub, 1) := by decide +kernel
theorem de_B_valueOf_64 : decode am_B_valueOf.2.1 64 = .ok (.invokevirtual 97, 3) := by decide +kernel
theorem de_B_valueOf_67 : decode am_B_valueOf.2.1 67 = .ok (.ineg, 1) := by decide +kernel
theorem de_B_valueOf_68 : decode am_B_valueOf.2.1 68 = .ok (.ireturn, 1) := by decide +kernel
theorem de_B_bestOf_0 : decode am_B_bestOf.2.1 0 = .ok (.aload_n 0, 1) := by decide +kernel
theorem de_B_bestOf_1 : decode am_B_bestOf.2.1 1 = .ok (.iload_n 1, 1) := by decide +kernel
theorem de_B_bestOf_2 : decode am_B_bestOf.2.1 2 = .ok (.iload_n 2, 1) := by decide +kernel
theorem de_B_bestOf_3 : decode am_B_bestOf.2.1 3 = .ok (.invokevirtual 45, 3) := by decide +kernel
theorem de_B_bestOf_6 : decode am_B_bestOf.2.1 6 = .ok (.istore 4, 2) := by decide +kernel
theorem de_B_bestOf_8 : decode am_B_bestOf.2.1 8 = .ok (.iconst (-1), 1) := by decide +kernel
theorem de_B_bestOf_9 : decode am_B_bestOf.2.1 9 = .ok (.istore 5, 2) := by decide +kernel
theorem de_B_bestOf_11 : decode am_B_bestOf.2.1 11 = .ok (.iconst 2, 1) := by decide +kernel
theorem de_B_bestOf_12 : decode am_B_bestOf.2.1 12 = .ok (.istore 6, 2) := by decide +kernel
theorem de_B_bestOf_14 : decode am_B_bestOf.2.1 14 = .ok (.iconst 0, 1) := by decide +kernel
theorem de_B_bestOf_15 : decode am_B_bestOf.2.1 15 = .ok (.istore 7, 2) := by decide +kernel
theorem de_B_bestOf_17 : decode am_B_bestOf.2.1 17 = .ok (.iload 7, 2) := by decide +kernel
theorem de_B_bestOf_19 : decode am_B_bestOf.2.1 19 = .ok (.bipush (15), 2) := by decide +kernel
theorem de_B_bestOf_21 : decode am_B_bestOf.2.1 21 = .ok (.if_icmp .gt (102), 3) := by decide +kernel
theorem de_B_bestOf_24 : decode am_B_bestOf.2.1 24 = .ok (.iload 6, 2) := by decide +kernel
theorem de_B_bestOf_26 : decode am_B_bestOf.2.1 26 = .ok (.iconst (-1), 1) := by decide +kernel
theorem de_B_bestOf_27 : decode am_B_bestOf.2.1 27 = .ok (.if_icmp .le (96), 3) := by decide +kernel
theorem de_B_bestOf_30 : decode am_B_bestOf.2.1 30 = .ok (.aload_n 0, 1) := by decide +kernel
theorem de_B_bestOf_31 : decode am_B_bestOf.2.1 31 = .ok (.iload_n 1, 1) := by decide +kernel
theorem de_B_bestOf_32 : decode am_B_bestOf.2.1 32 = .ok (.iload 4, 2) := by decide +kernel
theorem de_B_bestOf_34 : decode am_B_bestOf.2.1 34 = .ok (.iload 7, 2) := by decide +kernel
theorem de_B_bestOf_36 : decode am_B_bestOf.2.1 36 = .ok (.invokevirtual 58, 3) := by decide +kernel
theorem de_B_bestOf_39 : decode am_B_bestOf.2.1 39 = .ok (.istore 8, 2) := by decide +kernel
theorem de_B_bestOf_41 : decode am_B_bestOf.2.1 41 = .ok (.iconst 0, 1) := by decide +kernel
theorem de_B_bestOf_42 : decode am_B_bestOf.2.1 42 = .ok (.istore 9, 2) := by decide +kernel
theorem de_B_bestOf_44 : decode am_B_bestOf.2.1 44 = .ok (.iload 9, 2) := by decide +kernel
theorem de_B_bestOf_46 : decode am_B_bestOf.2.1 46 = .ok (.bipush (12), 2) := by decide +kernel
theorem de_B_bestOf_48 : decode am_B_bestOf.2.1 48 = .ok (.if_icmp .ge (69), 3) := by decide +kernel
theorem de_B_bestOf_51 : decode am_B_bestOf.2.1 51 = .ok (.iload 6, 2) := by decide +kernel
theorem de_B_bestOf_53 : decode am_B_bestOf.2.1 53 = .ok (.iconst (-1), 1) := by decide +kernel
theorem de_B_bestOf_54 : decode am_B_bestOf.2.1 54 = .ok (.if_icmp .le (63), 3) := by decide +kernel
theorem de_B_bestOf_57 : decode am_B_bestOf.2.1 57 = .ok (.iload 8, 2) := by decide +kernel
theorem de_B_bestOf_59 : decode am_B_bestOf.2.1 59 = .ok (.iload 9, 2) := by decide +kernel
theorem de_B_bestOf_61 : decode am_B_bestOf.2.1 61 = .ok (.ishr, 1) := by decide +kernel
theorem de_B_bestOf_62 : decode am_B_bestOf.2.1 62 = .ok (.iconst 1, 1) := by decide +kernel
theorem de_B_bestOf_63 : decode am_B_bestOf.2.1 63 = .ok (.iand, 1) := by decide +kernel
theorem de_B_bestOf_64 : decode am_B_bestOf.2.1 64 = .ok (.ifCond .eq (47), 3) := by decide +kernel
theorem de_B_bestOf_67 : decode am_B_bestOf.2.1 67 = .ok (.bipush (16), 2) := by decide +kernel
theorem de_B_bestOf_69 : decode am_B_bestOf.2.1 69 = .ok (.iload 7, 2) := by decide +kernel
theorem de_B_bestOf_71 : decode am_B_bestOf.2.1 71 = .ok (.imul, 1) := by decide +kernel
theorem de_B_bestOf_72 : decode am_B_bestOf.2.1 72 = .ok (.iload 9, 2) := by decide +kernel
theorem de_B_bestOf_74 : decode am_B_bestOf.2.1 74 = .ok (.iadd, 1) := by decide +kernel
theorem de_B_bestOf_75 : decode am_B_bestOf.2.1 75 = .ok (.istore 10, 2) := by decide +kernel
theorem de_B_bestOf_77 : decode am_B_bestOf.2.1 77 = .ok (.aload_n 0, 1) := by decide +kernel
theorem de_B_bestOf_78 : decode am_B_bestOf.2.1 78 = .ok (.aload_n 0, 1) := by decide +kernel
theorem de_B_bestOf_79 : decode am_B_bestOf.2.1 79 = .ok (.iload_n 1, 1) := by decide +kernel
theorem de_B_bestOf_80 : decode am_B_bestOf.2.1 80 = .ok (.iload 4, 2) := by decide +kernel
theorem de_B_bestOf_82 : decode am_B_bestOf.2.1 82 = .ok (.iload 10, 2) := by decide +kernel
theorem de_B_bestOf_84 : decode am_B_bestOf.2.1 84 = .ok (.invokevirtual 94, 3) := by decide +kernel
theorem de_B_bestOf_87 : decode am_B_bestOf.2.1 87 = .ok (.iload_n 2, 1) := by decide +kernel
theorem de_B_bestOf_88 : decode am_B_bestOf.2.1 88 = .ok (.iload_n 3, 1) := by decide +kernel
theorem de_B_bestOf_89 : decode am_B_bestOf.2.1 89 = .ok (.iconst 1, 1) := by decide +kernel
theorem de_B_bestOf_90 : decode am_B_bestOf.2.1 90 = .ok (.isub, 1) := by decide +kernel
theorem de_B_bestOf_91 : decode am_B_bestOf.2.1 91 = .ok (.invokevirtual 97, 3) := by decide +kernel
theorem de_B_bestOf_94 : decode am_B_bestOf.2.1 94 = .ok (.istore 11, 2) := by decide +kernel
theorem de_B_bestOf_96 : decode am_B_bestOf.2.1 96 = .ok (.iload 11, 2) := by decide +kernel
theorem de_B_bestOf_98 : decode am_B_bestOf.2.1 98 = .ok (.iload 6, 2) := by decide +kernel
theorem de_B_bestOf_100 : decode am_B_bestOf.2.1 100 = .ok (.if_icmp .ge (11), 3) := by decide +kernel
theorem de_B_bestOf_103 : decode am_B_bestOf.2.1 103 = .ok (.iload 11, 2) := by decide +kernel
theorem de_B_bestOf_105 : decode am_B_bestOf.2.1 105 = .ok (.istore 6, 2) := by decide +kernel
theorem de_B_bestOf_107 : decode am_B_bestOf.2.1 107 = .ok (.iload 10, 2) := by decide +kernel
theorem de_B_bestOf_109 : decode am_B_bestOf.2.1 109 = .ok (.istore 5, 2) := by decide +kernel
theorem de_B_bestOf_111 : decode am_B_bestOf.2.1 111 = .ok (.iinc 9 (1), 3) := by decide +kernel
theorem de_B_bestOf_114 : decode am_B_bestOf.2.1 114 = .ok (.goto (-70), 3) := by decide +kernel
theorem de_B_bestOf_117 : decode am_B_bestOf.2.1 117 = .ok (.iinc 7 (1), 3) := by decide +kernel
theorem de_B_bestOf_120 : decode am_B_bestOf.2.1 120 = .ok (.goto (-103), 3) := by decide +kernel
theorem de_B_bestOf_123 : decode am_B_bestOf.2.1 123 = .ok (.iload 5, 2) := by decide +kernel
theorem de_B_bestOf_125 : decode am_B_bestOf.2.1 125 = .ok (.ireturn, 1) := by decide +kernel
