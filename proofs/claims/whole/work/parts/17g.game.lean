/-! the reference: game -/
set_option maxHeartbeats 1000000 in
set_option maxRecDepth 10000 in
theorem ct_M_intAt (l : Launch) (d : Nat) (nr : Nat) (h : Nat → Nat → Int32) (g : Nat → Nat → Int64) (rr : Nat → Option Nat) {s i : Nat} (hs : s < 8) (hi : i < 60) : ab_C l am_M_intAt d 0 0 [.ref 30, .int (nI s), .int (nI i)] (ab_S nr h g rr) (fun (r_ : Option Value) (M' : ab_Me) => r_ = some (.int ((g 42 ((60 * s) + i)).toInt32)) ∧ M' = (ab_S nr h g rr)) := by
  refine ab_C_of (by decide +kernel) rfl (Nat.le_of_ble_eq_true rfl) ?_
  refine ab_aload_n de_M_intAt_0 0 rfl ?_
  refine ab_get (v := .ref 42) fl_M_47 rfl rfl de_M_intAt_1 ?_
  refine ab_bipush (v := 60) de_M_intAt_4 rfl ?_
  refine ab_iload_n de_M_intAt_6 1 rfl ?_
  refine ab_imul de_M_intAt_7 ?_
  refine ab_top (v' := nI (60 * s)) (ab_mul _ _) ?_
  refine ab_iload_n de_M_intAt_8 2 rfl ?_
  refine ab_iadd de_M_intAt_9 ?_
  refine ab_top (v' := nI ((60 * s) + i)) (ab_add _ _) ?_
  refine ab_lald (v := g 42 ((60 * s) + i)) rfl (ab_in (by omega) (by decide)) (ab_gv (ab_tn (n := ((60 * s) + i)) (by omega))) de_M_intAt_10 ?_
  refine ab_l2i de_M_intAt_11 rfl ?_
  exact ab_ret (v := some (.int ((g 42 ((60 * s) + i)).toInt32))) de_M_intAt_12 ⟨_, rfl⟩ ⟨rfl, rfl⟩
