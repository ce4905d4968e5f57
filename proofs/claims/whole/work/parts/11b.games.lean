/-! the class Games -/
theorem gm_st {T : Nat → Nat → Nat} {c : Nat} {Z : sp_G} {g : Nat} : nI (sp_en (gA Z g) (gB Z g) 0) = nI (sp_en (sp_sg T c Z g 0).1 (sp_sg T c Z g 0).2 (0 % 2)) := rfl
set_option maxHeartbeats 1000000 in
set_option maxRecDepth 10000 in
theorem ct_G_has (l : Launch) (d : Nat) (nr : Nat) (h : Nat → Nat → Int32) (g_ : Nat → Nat → Int64) (rr : Nat → Option Nat) {Z : sp_G} (hZ : gm_ok Z) (hG : gm_C Z h) (x : Int32) : ab_C l am_G_has (d) 0 0 [.ref 15, .int x] (ab_S nr h g_ rr) (fun (r_ : Option Value) (M' : ab_Me) => r_ = some (.int (ab_bz (decide (0 ≤ x ∧ x < nI (gN Z))))) ∧ M' = (ab_S nr h g_ rr)) := by
  refine ab_C_of (by decide +kernel) rfl (Nat.le_of_ble_eq_true rfl) ?_
  refine ab_iload_n de_G_has_0 1 rfl ?_
  refine ab_if_lt (tgt := 16) de_G_has_1 rfl (fun c_1_1 => ?_) (fun c_1_1 => ?_)
  · refine ab_iconst (v := 0) de_G_has_16 rfl ?_
    exact ab_ret (v := some (.int (0 : Int32))) de_G_has_17 ⟨_, rfl, rfl⟩ ⟨congrArg (fun z => some (Value.int z)) (ab_bz_f (decide_eq_false (fun z => absurd c_1_1 (Int32.not_lt.mpr z.1)))), rfl⟩
  · refine ab_iload_n de_G_has_4 1 rfl ?_
    refine ab_aload_n de_G_has_5 0 rfl ?_
    refine ab_get (v := .int (h 15 5)) fl_G_31 rfl rfl de_G_has_6 ?_
    refine ab_top (v' := nI (gN Z)) (hG.1) ?_
    refine ab_icmp_ge (tgt := 16) de_G_has_9 rfl (fun c_9_2 => ?_) (fun c_9_2 => ?_)
    · refine ab_iconst (v := 0) de_G_has_16 rfl ?_
      exact ab_ret (v := some (.int (0 : Int32))) de_G_has_17 ⟨_, rfl, rfl⟩ ⟨congrArg (fun z => some (Value.int z)) (ab_bz_f (decide_eq_false (fun z => absurd z.2 (Int32.not_lt.mpr c_9_2)))), rfl⟩
    · refine ab_iconst (v := 1) de_G_has_12 rfl ?_
      refine ab_goto (tgt := 17) de_G_has_13 rfl ?_
      exact ab_ret (v := some (.int (1 : Int32))) de_G_has_17 ⟨_, rfl, rfl⟩ ⟨congrArg (fun z => some (Value.int z)) (ab_bz_t (decide_eq_true ⟨Int32.not_lt.mp c_1_1, Int32.not_le.mp c_9_2⟩)), rfl⟩
theorem gm_6 {Z : sp_G} (hZ : gm_ok Z) {g : Nat} (hg : g < gN Z) : g < 6 := Nat.lt_of_lt_of_le hg hZ.1
theorem gm_20 {Z : sp_G} (hZ : gm_ok Z) {g : Nat} (hg : g < gN Z) : gL Z g ≤ 20 := (hZ.2 g hg).2.2.2.1
set_option maxHeartbeats 1000000 in
set_option maxRecDepth 10000 in
theorem ct_G_moveAt (l : Launch) (d : Nat) (nr : Nat) (h : Nat → Nat → Int32) (g_ : Nat → Nat → Int64) (rr : Nat → Option Nat) {Z : sp_G} (hZ : gm_ok Z) (hG : gm_C Z h) {g k : Nat} (hg : g < gN Z) (hk : k < gL Z g) : ab_C l am_G_moveAt (d) 0 0 [.ref 15, .int (nI g), .int (nI k)] (ab_S nr h g_ rr) (fun (r_ : Option Value) (M' : ab_Me) => r_ = some (.int (nI (gV Z g k))) ∧ M' = (ab_S nr h g_ rr)) := by
  refine ab_C_of (by decide +kernel) rfl (Nat.le_of_ble_eq_true rfl) ?_
  refine ab_aload_n de_G_moveAt_0 0 rfl ?_
  refine ab_get (v := .ref 21) fl_G_28 rfl rfl de_G_moveAt_1 ?_
  refine ab_iload_n de_G_moveAt_4 1 rfl ?_
  refine ab_bipush (v := 20) de_G_moveAt_5 rfl ?_
  refine ab_imul de_G_moveAt_7 ?_
  refine ab_iload_n de_G_moveAt_8 2 rfl ?_
  refine ab_iadd de_G_moveAt_9 ?_
  refine ab_top (v' := nI (20 * g + k)) (by rw [show (20 : Int32) = nI 20 from rfl, ab_mul, ab_add, Nat.mul_comm]) ?_
  refine ab_iald (v := h 21 (20 * g + k)) rfl (ab_in (by have := gm_6 hZ hg; have := gm_20 hZ hg; omega) (by decide)) (ab_hv (ab_tn (by have := gm_6 hZ hg; have := gm_20 hZ hg; omega))) de_G_moveAt_10 ?_
  refine ab_top (v' := nI (gV Z g k)) ((hG.2 g hg).2.2.2 k hk) ?_
  exact ab_ret (v := some (.int (nI (gV Z g k)))) de_G_moveAt_11 ⟨_, rfl⟩ ⟨congrArg (fun z => some (Value.int z)) (rfl), rfl⟩
theorem ab_leN {n q : Nat} (hn : n ≤ 20) (hq : q ≤ 20) (h : nI n ≤ nI q) : n ≤ q := (ab_le (by omega) (by omega)).mp h
theorem ab_nleN {n q : Nat} (hn : n ≤ 20) (hq : q ≤ 20) (h : ¬ nI n ≤ nI q) : q < n := Nat.lt_of_not_le (fun z => h ((ab_le (by omega) (by omega)).mpr z))
set_option maxHeartbeats 1000000 in
set_option maxRecDepth 10000 in
theorem lp_G_moveCount (l : Launch) (d : Nat) (nr : Nat) (h : Nat → Nat → Int32) (g_ : Nat → Nat → Int64) (rr : Nat → Option Nat) {Z : sp_G} (hZ : gm_ok Z) (hG : gm_C Z h) (h6_ : gN Z ≤ 6) : ∀ (fu_ g : Nat), g ≤ gN Z → gN Z < g + fu_ → ab_G l none am_G_moveCount (d) 0 0 4 [(0, .ref 15), (1, .int (nI (sp_sum (fun g => gL Z g) g))), (2, .int (nI g))] [] (ab_S nr h g_ rr) (fun (r_ : Option Value) (M' : ab_Me) => r_ = some (.int (nI (sp_sum (fun g => gL Z g) (gN Z)))) ∧ M' = (ab_S nr h g_ rr)) := by
  intro fu_
  induction fu_ with
  | zero => intro g  h1 h2; omega
  | succ fu_ ih =>
    intro g  hN_ hn_ 
    refine ab_iload_n de_G_moveCount_4 2 rfl ?_
    refine ab_aload_n de_G_moveCount_5 0 rfl ?_
    refine ab_get (v := .int (h 15 5)) fl_G_31 rfl rfl de_G_moveCount_6 ?_
    refine ab_top (v' := nI (gN Z)) (hG.1) ?_
    refine ab_icmp_ge (tgt := 27) de_G_moveCount_9 rfl (fun c_9_1 => ?_) (fun c_9_1 => ?_)
    · have hg := ab_leN (by omega) (by omega) c_9_1
      refine ab_iload_n de_G_moveCount_27 1 rfl ?_
      exact ab_ret (v := some (.int (nI (sp_sum (fun g => gL Z g) g)))) de_G_moveCount_28 ⟨_, rfl⟩ ⟨congrArg (fun z => some (Value.int z)) (by rw [show g = gN Z by omega]), rfl⟩
    · have hg := ab_nleN (by omega) (by omega) c_9_1
      refine ab_iload_n de_G_moveCount_12 1 rfl ?_
      refine ab_aload_n de_G_moveCount_13 0 rfl ?_
      refine ab_get (v := .ref 19) fl_G_22 rfl rfl de_G_moveCount_14 ?_
      refine ab_iload_n de_G_moveCount_17 2 rfl ?_
      refine ab_iald (v := h 19 g) rfl (ab_in (by omega) (by decide)) (ab_hv (ab_tn (by omega))) de_G_moveCount_18 ?_
      refine ab_top (v' := nI (gL Z g)) ((hG.2 g hg).2.1) ?_
      refine ab_iadd de_G_moveCount_19 ?_
      refine ab_top (v' := nI (sp_sum (fun g => gL Z g) (g + 1))) (ab_add _ _) ?_
      refine ab_istore_n (L' := [(1, .int (nI (sp_sum (fun g => gL Z g) (g + 1)))), (0, .ref 15), (2, .int (nI g))]) de_G_moveCount_20 (by decide) rfl ?_
      refine ab_iinc (v := nI (g + 1)) (L' := [(2, .int (nI (g + 1))), (1, .int (nI (sp_sum (fun g => gL Z g) (g + 1)))), (0, .ref 15)]) de_G_moveCount_21 2 rfl (by rw [show Int32.ofInt 1 = nI 1 from rfl, ab_add]) (by decide) rfl ?_
      refine ab_goto (tgt := 4) de_G_moveCount_24 rfl ?_
      refine ab_sub (L' := [(0, .ref 15), (1, .int (nI (sp_sum (fun g => gL Z g) (g + 1)))), (2, .int (nI (g + 1)))]) [2, 1, 0] rfl ?_
      exact ih (g + 1)  (by omega) (by omega) 
set_option maxHeartbeats 1000000 in
set_option maxRecDepth 10000 in
theorem ct_G_moveCount (l : Launch) (d : Nat) (nr : Nat) (h : Nat → Nat → Int32) (g_ : Nat → Nat → Int64) (rr : Nat → Option Nat) {Z : sp_G} (hZ : gm_ok Z) (hG : gm_C Z h) : ab_C l am_G_moveCount (d) 0 0 [.ref 15] (ab_S nr h g_ rr) (fun (r_ : Option Value) (M' : ab_Me) => r_ = some (.int (nI (sp_sum (fun g => gL Z g) (gN Z)))) ∧ M' = (ab_S nr h g_ rr)) := by
  refine ab_C_of (by decide +kernel) rfl (Nat.le_of_ble_eq_true rfl) ?_
  refine ab_iconst (v := 0) de_G_moveCount_0 rfl ?_
  refine ab_istore_n (L' := [(1, .int (0 : Int32)), (0, .ref 15)]) de_G_moveCount_1 (by decide) rfl ?_
  refine ab_iconst (v := 0) de_G_moveCount_2 rfl ?_
  refine ab_istore_n (L' := [(2, .int (0 : Int32)), (1, .int (0 : Int32)), (0, .ref 15)]) de_G_moveCount_3 (by decide) rfl ?_
  refine ab_sub (L' := [(0, .ref 15), (1, .int (0 : Int32)), (2, .int (0 : Int32))]) [2, 1, 0] rfl ?_
  exact lp_G_moveCount l d nr h g_ rr hZ hG hZ.1 7 0 (by omega) (by have := hZ.1; omega)
set_option maxHeartbeats 1000000 in
set_option maxRecDepth 10000 in
theorem lp_G_stateAhead (l : Launch) (d : Nat) (nr : Nat) (h : Nat → Nat → Int32) (g_ : Nat → Nat → Int64) (rr : Nat → Option Nat) {T : Nat → Nat → Nat} (hT : bo_T T h 17) (hO : sp_ok T) {Z : sp_G} (hZ : gm_ok Z) (hG : gm_C Z h) {g : Nat} (hg : g < gN Z) {c : Nat} (hc : c < 4096) {j : Nat} (hj : j ≤ gL Z g) (h20_ : gL Z g ≤ 20) : ∀ (fu_ k : Nat), k ≤ j → j < k + fu_ → ab_G l none am_G_stateAhead (d + 4) 0 0 11 [(0, .ref 15), (1, .int (nI g)), (2, .int (nI j)), (3, .int (nI c)), (4, .int (nI (sp_en (sp_sg T c Z g k).1 (sp_sg T c Z g k).2 (k % 2)))), (5, .int (nI k))] [] (ab_S nr h g_ rr) (fun (r_ : Option Value) (M' : ab_Me) => r_ = some (.int (nI (sp_en (sp_sg T c Z g j).1 (sp_sg T c Z g j).2 (j % 2)))) ∧ M' = (ab_S nr h g_ rr)) := by
  intro fu_
  induction fu_ with
  | zero => intro k  h1 h2; omega
  | succ fu_ ih =>
    intro k  hN_ hn_ 
    refine ab_iload de_G_stateAhead_11 5 rfl ?_
    refine ab_iload_n de_G_stateAhead_13 2 rfl ?_
    refine ab_icmp_ge (tgt := 51) de_G_stateAhead_14 rfl (fun c_14_1 => ?_) (fun c_14_1 => ?_)
    · have hk := ab_leN (by omega) (by omega) c_14_1
      refine ab_iload de_G_stateAhead_51 4 rfl ?_
      exact ab_ret (v := some (.int (nI (sp_en (sp_sg T c Z g k).1 (sp_sg T c Z g k).2 (k % 2))))) de_G_stateAhead_53 ⟨_, rfl⟩ ⟨congrArg (fun z => some (Value.int z)) (by rw [show k = j by omega]), rfl⟩
    · have hk := ab_nleN (by omega) (by omega) c_14_1
      obtain ⟨h1_, h2_, h3_⟩ := sp_sg_ok (T := T) (c := c) hZ hg k (by omega)
      have hx_ := (hZ.2 g hg).2.2.2.2.1 k (by omega)
      refine ab_aload_n de_G_stateAhead_17 0 rfl ?_
      refine ab_get (v := .ref 16) fl_G_12 rfl rfl de_G_stateAhead_18 ?_
      refine ab_iload de_G_stateAhead_21 4 rfl ?_
      refine ab_aload_n de_G_stateAhead_23 0 rfl ?_
      refine ab_get (v := .ref 16) fl_G_12 rfl rfl de_G_stateAhead_24 ?_
      refine ab_iload de_G_stateAhead_27 4 rfl ?_
      refine ab_iload_n de_G_stateAhead_29 3 rfl ?_
      refine ab_cV (as := [.int (nI (sp_en (sp_sg T c Z g k).1 (sp_sg T c Z g k).2 (k % 2))), .int (nI c)]) (st := [.int (nI (sp_en (sp_sg T c Z g k).1 (sp_sg T c Z g k).2 (k % 2))), .ref 16]) (ct_B_live l _ nr h g_ rr hT hO h1_ h2_ (show k % 2 < 2 by omega) hc) mo_B_live mi_B_live ml_G_35 rfl (by decide) rfl rfl rfl (Nat.le_of_ble_eq_true rfl) de_G_stateAhead_30 (fun v_ M_ hK_ hl_ hv_ => ?_)
      obtain ⟨rfl, hm_⟩ := hK_
      have hm_ := hm_.symm
      subst hm_
      change ab_G _ _ _ _ _ _ _ [(0, .ref 15), (1, .int (nI g)), (2, .int (nI j)), (3, .int (nI c)), (4, .int (nI (sp_en (sp_sg T c Z g k).1 (sp_sg T c Z g k).2 (k % 2)))), (5, .int (nI k))] [.int (nI (sp_lv T c (sp_sg T c Z g k).1 (sp_sg T c Z g k).2)), .int (nI (sp_en (sp_sg T c Z g k).1 (sp_sg T c Z g k).2 (k % 2))), .ref 16] (ab_S nr h g_ rr) _
      refine ab_aload_n de_G_stateAhead_33 0 rfl ?_
      refine ab_iload_n de_G_stateAhead_34 1 rfl ?_
      refine ab_iload de_G_stateAhead_35 5 rfl ?_
      refine ab_cV (as := [.int (nI g), .int (nI k)]) (st := [.int (nI (sp_lv T c (sp_sg T c Z g k).1 (sp_sg T c Z g k).2)), .int (nI (sp_en (sp_sg T c Z g k).1 (sp_sg T c Z g k).2 (k % 2))), .ref 16]) (ct_G_moveAt l _ nr h g_ rr hZ hG hg (k := k) (by omega)) mo_G_moveAt mi_G_moveAt ml_G_39 rfl (by decide) rfl rfl rfl (Nat.le_of_ble_eq_true rfl) de_G_stateAhead_37 (fun v_ M_ hK_ hl_ hv_ => ?_)
      obtain ⟨rfl, hm_⟩ := hK_
      have hm_ := hm_.symm
      subst hm_
      change ab_G _ _ _ _ _ _ _ [(0, .ref 15), (1, .int (nI g)), (2, .int (nI j)), (3, .int (nI c)), (4, .int (nI (sp_en (sp_sg T c Z g k).1 (sp_sg T c Z g k).2 (k % 2)))), (5, .int (nI k))] [.int (nI (gV Z g k)), .int (nI (sp_lv T c (sp_sg T c Z g k).1 (sp_sg T c Z g k).2)), .int (nI (sp_en (sp_sg T c Z g k).1 (sp_sg T c Z g k).2 (k % 2))), .ref 16] (ab_S nr h g_ rr) _
      refine ab_cV (as := [.int (nI (sp_en (sp_sg T c Z g k).1 (sp_sg T c Z g k).2 (k % 2))), .int (nI (sp_lv T c (sp_sg T c Z g k).1 (sp_sg T c Z g k).2)), .int (nI (gV Z g k))]) (st := []) (ct_B_done l _ nr h g_ rr hT hO h1_ h2_ (show k % 2 < 2 by omega) (sp_lv4 T c _ _) (x := gV Z g k) hx_ h3_) mo_B_done mi_B_done ml_G_42 rfl (by decide) rfl rfl rfl (Nat.le_of_ble_eq_true rfl) de_G_stateAhead_40 (fun v_ M_ hK_ hl_ hv_ => ?_)
      obtain ⟨rfl, hm_⟩ := hK_
      have hm_ := hm_.symm
      subst hm_
      change ab_G _ _ _ _ _ _ _ [(0, .ref 15), (1, .int (nI g)), (2, .int (nI j)), (3, .int (nI c)), (4, .int (nI (sp_en (sp_sg T c Z g k).1 (sp_sg T c Z g k).2 (k % 2)))), (5, .int (nI k))] [.int (nI (sp_en (sp_d2 T (sp_lv T c (sp_sg T c Z g k).1 (sp_sg T c Z g k).2) (sp_sg T c Z g k).1 (sp_sg T c Z g k).2 (gV Z g k)) (sp_d1 T (sp_lv T c (sp_sg T c Z g k).1 (sp_sg T c Z g k).2) (sp_sg T c Z g k).1 (sp_sg T c Z g k).2 (gV Z g k)) (1 - k % 2)))] (ab_S nr h g_ rr) _
      refine ab_top (v' := nI (sp_en (sp_sg T c Z g (k + 1)).1 (sp_sg T c Z g (k + 1)).2 ((k + 1) % 2))) (sp_sg_s) ?_
      refine ab_istore (L' := [(4, .int (nI (sp_en (sp_sg T c Z g (k + 1)).1 (sp_sg T c Z g (k + 1)).2 ((k + 1) % 2)))), (0, .ref 15), (1, .int (nI g)), (2, .int (nI j)), (3, .int (nI c)), (5, .int (nI k))]) de_G_stateAhead_43 (by decide) rfl ?_
      refine ab_iinc (v := nI (k + 1)) (L' := [(5, .int (nI (k + 1))), (4, .int (nI (sp_en (sp_sg T c Z g (k + 1)).1 (sp_sg T c Z g (k + 1)).2 ((k + 1) % 2)))), (0, .ref 15), (1, .int (nI g)), (2, .int (nI j)), (3, .int (nI c))]) de_G_stateAhead_45 5 rfl (by rw [show Int32.ofInt 1 = nI 1 from rfl, ab_add]) (by decide) rfl ?_
      refine ab_goto (tgt := 11) de_G_stateAhead_48 rfl ?_
      refine ab_sub (L' := [(0, .ref 15), (1, .int (nI g)), (2, .int (nI j)), (3, .int (nI c)), (4, .int (nI (sp_en (sp_sg T c Z g (k + 1)).1 (sp_sg T c Z g (k + 1)).2 ((k + 1) % 2)))), (5, .int (nI (k + 1)))]) [2, 3, 4, 5, 1, 0] rfl ?_
      exact ih (k + 1)  (by omega) (by omega) 
set_option maxHeartbeats 1000000 in
set_option maxRecDepth 10000 in
theorem ct_G_stateAhead (l : Launch) (d : Nat) (nr : Nat) (h : Nat → Nat → Int32) (g_ : Nat → Nat → Int64) (rr : Nat → Option Nat) {T : Nat → Nat → Nat} (hT : bo_T T h 17) (hO : sp_ok T) {Z : sp_G} (hZ : gm_ok Z) (hG : gm_C Z h) {g : Nat} (hg : g < gN Z) {c : Nat} (hc : c < 4096) {j : Nat} (hj : j ≤ gL Z g) : ab_C l am_G_stateAhead (d + 4) 0 0 [.ref 15, .int (nI g), .int (nI j), .int (nI c)] (ab_S nr h g_ rr) (fun (r_ : Option Value) (M' : ab_Me) => r_ = some (.int (nI (sp_en (sp_sg T c Z g j).1 (sp_sg T c Z g j).2 (j % 2)))) ∧ M' = (ab_S nr h g_ rr)) := by
  refine ab_C_of (by decide +kernel) rfl (Nat.le_of_ble_eq_true rfl) ?_
  refine ab_aload_n de_G_stateAhead_0 0 rfl ?_
  refine ab_get (v := .ref 18) fl_G_18 rfl rfl de_G_stateAhead_1 ?_
  refine ab_iload_n de_G_stateAhead_4 1 rfl ?_
  refine ab_iald (v := h 18 g) rfl (ab_in (by have := gm_6 hZ hg; omega) (by decide)) (ab_hv (ab_tn (by have := gm_6 hZ hg; omega))) de_G_stateAhead_5 ?_
  refine ab_top (v' := nI (sp_en (sp_sg T c Z g 0).1 (sp_sg T c Z g 0).2 (0 % 2))) ((hG.2 g hg).1.trans gm_st) ?_
  refine ab_istore (L' := [(4, .int (nI (sp_en (sp_sg T c Z g 0).1 (sp_sg T c Z g 0).2 (0 % 2)))), (0, .ref 15), (1, .int (nI g)), (2, .int (nI j)), (3, .int (nI c))]) de_G_stateAhead_6 (by decide) rfl ?_
  refine ab_iconst (v := 0) de_G_stateAhead_8 rfl ?_
  refine ab_istore (L' := [(5, .int (0 : Int32)), (4, .int (nI (sp_en (sp_sg T c Z g 0).1 (sp_sg T c Z g 0).2 (0 % 2)))), (0, .ref 15), (1, .int (nI g)), (2, .int (nI j)), (3, .int (nI c))]) de_G_stateAhead_9 (by decide) rfl ?_
  refine ab_sub (L' := [(0, .ref 15), (1, .int (nI g)), (2, .int (nI j)), (3, .int (nI c)), (4, .int (nI (sp_en (sp_sg T c Z g 0).1 (sp_sg T c Z g 0).2 (0 % 2)))), (5, .int (0 : Int32))]) [2, 3, 4, 5, 1, 0] rfl ?_
  exact lp_G_stateAhead l d nr h g_ rr hT hO hZ hG hg hc hj (gm_20 hZ hg) (j + 1) 0 (by omega) (by omega)
set_option maxHeartbeats 1000000 in
set_option maxRecDepth 10000 in
theorem lp_G_failsAt (l : Launch) (d : Nat) (nr : Nat) (h : Nat → Nat → Int32) (g_ : Nat → Nat → Int64) (rr : Nat → Option Nat) {T : Nat → Nat → Nat} (hT : bo_T T h 17) (hO : sp_ok T) {Z : sp_G} (hZ : gm_ok Z) (hG : gm_C Z h) {g : Nat} (hg : g < gN Z) {c : Nat} (hc : c < 4096) (h20_ : gL Z g ≤ 20) : ∀ (fu_ k : Nat), k ≤ gL Z g → gL Z g < k + fu_ → (∀ j, j < k → (!sp_alk T c Z g j) = false) → ab_G l none am_G_failsAt (d + 5) 0 0 10 [(0, .ref 15), (1, .int (nI g)), (2, .int (nI c)), (3, .int (nI (sp_en (sp_sg T c Z g k).1 (sp_sg T c Z g k).2 (k % 2)))), (4, .int (nI k))] [] (ab_S nr h g_ rr) (fun (r_ : Option Value) (M' : ab_Me) => r_ = some (.int (sp_fl T c Z g)) ∧ M' = (ab_S nr h g_ rr)) := by
  intro fu_
  induction fu_ with
  | zero => intro k  h1 h2; omega
  | succ fu_ ih =>
    intro k  hN_ hn_ hf0
    refine ab_iload de_G_failsAt_10 4 rfl ?_
    refine ab_aload_n de_G_failsAt_12 0 rfl ?_
    refine ab_get (v := .ref 19) fl_G_22 rfl rfl de_G_failsAt_13 ?_
    refine ab_iload_n de_G_failsAt_16 1 rfl ?_
    refine ab_iald (v := h 19 g) rfl (ab_in (by have := gm_6 hZ hg; omega) (by decide)) (ab_hv (ab_tn (by have := gm_6 hZ hg; omega))) de_G_failsAt_17 ?_
    refine ab_top (v' := nI (gL Z g)) ((hG.2 g hg).2.1) ?_
    refine ab_icmp_ge (tgt := 79) de_G_failsAt_18 rfl (fun c_18_1 => ?_) (fun c_18_1 => ?_)
    · have hk := ab_leN (by omega) (by omega) c_18_1
      have hkk_ : k = gL Z g := by omega
      obtain ⟨h1_, h2_, h3_⟩ := sp_sg_ok (T := T) (c := c) hZ hg k (by omega)
      refine ab_aload_n de_G_failsAt_79 0 rfl ?_
      refine ab_get (v := .ref 16) fl_G_12 rfl rfl de_G_failsAt_80 ?_
      refine ab_iload_n de_G_failsAt_83 3 rfl ?_
      refine ab_iload_n de_G_failsAt_84 2 rfl ?_
      refine ab_cV (as := [.int (nI (sp_en (sp_sg T c Z g k).1 (sp_sg T c Z g k).2 (k % 2))), .int (nI c)]) (st := []) (ct_B_winner l _ nr h g_ rr hT hO h1_ h2_ (show k % 2 < 2 by omega) hc) mo_B_winner mi_B_winner ml_G_50 rfl (by decide) rfl rfl rfl (Nat.le_of_ble_eq_true rfl) de_G_failsAt_85 (fun v_ M_ hK_ hl_ hv_ => ?_)
      obtain ⟨rfl, hm_⟩ := hK_
      have hm_ := hm_.symm
      subst hm_
      change ab_G _ _ _ _ _ _ _ [(0, .ref 15), (1, .int (nI g)), (2, .int (nI c)), (3, .int (nI (sp_en (sp_sg T c Z g k).1 (sp_sg T c Z g k).2 (k % 2)))), (4, .int (nI k))] [.int (sp_wng T c Z g k)] (ab_S nr h g_ rr) _
      refine ab_aload_n de_G_failsAt_88 0 rfl ?_
      refine ab_get (v := .ref 20) fl_G_25 rfl rfl de_G_failsAt_89 ?_
      refine ab_iload_n de_G_failsAt_92 1 rfl ?_
      refine ab_iald (v := h 20 g) rfl (ab_in (by have := gm_6 hZ hg; omega) (by decide)) (ab_hv (ab_tn (by have := gm_6 hZ hg; omega))) de_G_failsAt_93 ?_
      refine ab_top (v' := gO Z g) ((hG.2 g hg).2.2.1) ?_
      refine ab_icmp_ne (tgt := 101) de_G_failsAt_94 rfl (fun c_94_2 => ?_) (fun c_94_2 => ?_)
      · refine ab_aload_n de_G_failsAt_101 0 rfl ?_
        refine ab_get (v := .ref 19) fl_G_22 rfl rfl de_G_failsAt_102 ?_
        refine ab_iload_n de_G_failsAt_105 1 rfl ?_
        refine ab_iald (v := h 19 g) rfl (ab_in (by have := gm_6 hZ hg; omega) (by decide)) (ab_hv (ab_tn (by have := gm_6 hZ hg; omega))) de_G_failsAt_106 ?_
        refine ab_top (v' := nI (gL Z g)) ((hG.2 g hg).2.1) ?_
        exact ab_ret (v := some (.int (nI (gL Z g)))) de_G_failsAt_107 ⟨_, rfl⟩ ⟨congrArg (fun z => some (Value.int z)) (by unfold sp_fl; rw [sp_ft_no _ (fun j hj => hf0 j (by omega)), if_neg (Nat.lt_irrefl _), if_neg (hkk_ ▸ c_94_2)]), rfl⟩
      · refine ab_iconst (v := -1) de_G_failsAt_97 rfl ?_
        refine ab_goto (tgt := 107) de_G_failsAt_98 rfl ?_
        exact ab_ret (v := some (.int (-1 : Int32))) de_G_failsAt_107 ⟨_, rfl⟩ ⟨congrArg (fun z => some (Value.int z)) (by unfold sp_fl; rw [sp_ft_no _ (fun j hj => hf0 j (by omega)), if_neg (Nat.lt_irrefl _), if_pos (hkk_ ▸ c_94_2)]), rfl⟩
    · have hk := ab_nleN (by omega) (by omega) c_18_1
      obtain ⟨h1_, h2_, h3_⟩ := sp_sg_ok (T := T) (c := c) hZ hg k (by omega)
      have hx_ := (hZ.2 g hg).2.2.2.2.1 k hk
      refine ab_aload_n de_G_failsAt_21 0 rfl ?_
      refine ab_get (v := .ref 16) fl_G_12 rfl rfl de_G_failsAt_22 ?_
      refine ab_iload_n de_G_failsAt_25 3 rfl ?_
      refine ab_iload_n de_G_failsAt_26 2 rfl ?_
      refine ab_cV (as := [.int (nI (sp_en (sp_sg T c Z g k).1 (sp_sg T c Z g k).2 (k % 2))), .int (nI c)]) (st := []) (ct_B_live l _ nr h g_ rr hT hO h1_ h2_ (show k % 2 < 2 by omega) hc) mo_B_live mi_B_live ml_G_35 rfl (by decide) rfl rfl rfl (Nat.le_of_ble_eq_true rfl) de_G_failsAt_27 (fun v_ M_ hK_ hl_ hv_ => ?_)
      obtain ⟨rfl, hm_⟩ := hK_
      have hm_ := hm_.symm
      subst hm_
      change ab_G _ _ _ _ _ _ _ [(0, .ref 15), (1, .int (nI g)), (2, .int (nI c)), (3, .int (nI (sp_en (sp_sg T c Z g k).1 (sp_sg T c Z g k).2 (k % 2)))), (4, .int (nI k))] [.int (nI (sp_lv T c (sp_sg T c Z g k).1 (sp_sg T c Z g k).2))] (ab_S nr h g_ rr) _
      refine ab_istore (L' := [(5, .int (nI (sp_lv T c (sp_sg T c Z g k).1 (sp_sg T c Z g k).2))), (0, .ref 15), (1, .int (nI g)), (2, .int (nI c)), (3, .int (nI (sp_en (sp_sg T c Z g k).1 (sp_sg T c Z g k).2 (k % 2)))), (4, .int (nI k))]) de_G_failsAt_30 (by decide) rfl ?_
      refine ab_aload_n de_G_failsAt_32 1 rfl ?_
      refine ab_get (v := .ref 16) fl_G_12 rfl rfl de_G_failsAt_33 ?_
      refine ab_iload_n de_G_failsAt_36 4 rfl ?_
      refine ab_iload de_G_failsAt_37 0 rfl ?_
      refine ab_aload_n de_G_failsAt_39 1 rfl ?_
      refine ab_iload_n de_G_failsAt_40 2 rfl ?_
      refine ab_iload de_G_failsAt_41 5 rfl ?_
      refine ab_cV (as := [.int (nI g), .int (nI k)]) (st := [.int (nI (sp_lv T c (sp_sg T c Z g k).1 (sp_sg T c Z g k).2)), .int (nI (sp_en (sp_sg T c Z g k).1 (sp_sg T c Z g k).2 (k % 2))), .ref 16]) (ct_G_moveAt l _ nr h g_ rr hZ hG hg hk) mo_G_moveAt mi_G_moveAt ml_G_39 rfl (by decide) rfl rfl rfl (Nat.le_of_ble_eq_true rfl) de_G_failsAt_43 (fun v_ M_ hK_ hl_ hv_ => ?_)
      obtain ⟨rfl, hm_⟩ := hK_
      have hm_ := hm_.symm
      subst hm_
      change ab_G _ _ _ _ _ _ _ [(5, .int (nI (sp_lv T c (sp_sg T c Z g k).1 (sp_sg T c Z g k).2))), (0, .ref 15), (1, .int (nI g)), (2, .int (nI c)), (3, .int (nI (sp_en (sp_sg T c Z g k).1 (sp_sg T c Z g k).2 (k % 2)))), (4, .int (nI k))] [.int (nI (gV Z g k)), .int (nI (sp_lv T c (sp_sg T c Z g k).1 (sp_sg T c Z g k).2)), .int (nI (sp_en (sp_sg T c Z g k).1 (sp_sg T c Z g k).2 (k % 2))), .ref 16] (ab_S nr h g_ rr) _
      refine ab_cV (as := [.int (nI (sp_en (sp_sg T c Z g k).1 (sp_sg T c Z g k).2 (k % 2))), .int (nI (sp_lv T c (sp_sg T c Z g k).1 (sp_sg T c Z g k).2)), .int (nI (gV Z g k))]) (st := []) (ct_B_allows l _ nr h g_ rr hT hO h1_ h2_ (show k % 2 < 2 by omega) (sp_lv4 T c _ _) (x := gV Z g k) hx_) mo_B_allows mi_B_allows ml_G_46 rfl (by decide) rfl rfl rfl (Nat.le_of_ble_eq_true rfl) de_G_failsAt_46 (fun v_ M_ hK_ hl_ hv_ => ?_)
      obtain ⟨rfl, hm_⟩ := hK_
      have hm_ := hm_.symm
      subst hm_
      change ab_G _ _ _ _ _ _ _ [(5, .int (nI (sp_lv T c (sp_sg T c Z g k).1 (sp_sg T c Z g k).2))), (0, .ref 15), (1, .int (nI g)), (2, .int (nI c)), (3, .int (nI (sp_en (sp_sg T c Z g k).1 (sp_sg T c Z g k).2 (k % 2)))), (4, .int (nI k))] [.int (ab_bz (sp_alk T c Z g k))] (ab_S nr h g_ rr) _
      refine ab_if_ne (tgt := 55) de_G_failsAt_49 rfl (fun c_49_3 => ?_) (fun c_49_3 => ?_)
      · refine ab_aload_n de_G_failsAt_55 1 rfl ?_
        refine ab_get (v := .ref 16) fl_G_12 rfl rfl de_G_failsAt_56 ?_
        refine ab_iload_n de_G_failsAt_59 4 rfl ?_
        refine ab_iload de_G_failsAt_60 0 rfl ?_
        refine ab_aload_n de_G_failsAt_62 1 rfl ?_
        refine ab_iload_n de_G_failsAt_63 2 rfl ?_
        refine ab_iload de_G_failsAt_64 5 rfl ?_
        refine ab_cV (as := [.int (nI g), .int (nI k)]) (st := [.int (nI (sp_lv T c (sp_sg T c Z g k).1 (sp_sg T c Z g k).2)), .int (nI (sp_en (sp_sg T c Z g k).1 (sp_sg T c Z g k).2 (k % 2))), .ref 16]) (ct_G_moveAt l _ nr h g_ rr hZ hG hg hk) mo_G_moveAt mi_G_moveAt ml_G_39 rfl (by decide) rfl rfl rfl (Nat.le_of_ble_eq_true rfl) de_G_failsAt_66 (fun v_ M_ hK_ hl_ hv_ => ?_)
        obtain ⟨rfl, hm_⟩ := hK_
        have hm_ := hm_.symm
        subst hm_
        change ab_G _ _ _ _ _ _ _ [(5, .int (nI (sp_lv T c (sp_sg T c Z g k).1 (sp_sg T c Z g k).2))), (0, .ref 15), (1, .int (nI g)), (2, .int (nI c)), (3, .int (nI (sp_en (sp_sg T c Z g k).1 (sp_sg T c Z g k).2 (k % 2)))), (4, .int (nI k))] [.int (nI (gV Z g k)), .int (nI (sp_lv T c (sp_sg T c Z g k).1 (sp_sg T c Z g k).2)), .int (nI (sp_en (sp_sg T c Z g k).1 (sp_sg T c Z g k).2 (k % 2))), .ref 16] (ab_S nr h g_ rr) _
        refine ab_cV (as := [.int (nI (sp_en (sp_sg T c Z g k).1 (sp_sg T c Z g k).2 (k % 2))), .int (nI (sp_lv T c (sp_sg T c Z g k).1 (sp_sg T c Z g k).2)), .int (nI (gV Z g k))]) (st := []) (ct_B_done l _ nr h g_ rr hT hO h1_ h2_ (show k % 2 < 2 by omega) (sp_lv4 T c _ _) (x := gV Z g k) hx_ h3_) mo_B_done mi_B_done ml_G_42 rfl (by decide) rfl rfl rfl (Nat.le_of_ble_eq_true rfl) de_G_failsAt_69 (fun v_ M_ hK_ hl_ hv_ => ?_)
        obtain ⟨rfl, hm_⟩ := hK_
        have hm_ := hm_.symm
        subst hm_
        change ab_G _ _ _ _ _ _ _ [(5, .int (nI (sp_lv T c (sp_sg T c Z g k).1 (sp_sg T c Z g k).2))), (0, .ref 15), (1, .int (nI g)), (2, .int (nI c)), (3, .int (nI (sp_en (sp_sg T c Z g k).1 (sp_sg T c Z g k).2 (k % 2)))), (4, .int (nI k))] [.int (nI (sp_en (sp_d2 T (sp_lv T c (sp_sg T c Z g k).1 (sp_sg T c Z g k).2) (sp_sg T c Z g k).1 (sp_sg T c Z g k).2 (gV Z g k)) (sp_d1 T (sp_lv T c (sp_sg T c Z g k).1 (sp_sg T c Z g k).2) (sp_sg T c Z g k).1 (sp_sg T c Z g k).2 (gV Z g k)) (1 - k % 2)))] (ab_S nr h g_ rr) _
        refine ab_top (v' := nI (sp_en (sp_sg T c Z g (k + 1)).1 (sp_sg T c Z g (k + 1)).2 ((k + 1) % 2))) (sp_sg_s) ?_
        refine ab_istore_n (L' := [(3, .int (nI (sp_en (sp_sg T c Z g (k + 1)).1 (sp_sg T c Z g (k + 1)).2 ((k + 1) % 2)))), (5, .int (nI (sp_lv T c (sp_sg T c Z g k).1 (sp_sg T c Z g k).2))), (0, .ref 15), (1, .int (nI g)), (2, .int (nI c)), (4, .int (nI k))]) de_G_failsAt_72 (by decide) rfl ?_
        refine ab_iinc (v := nI (k + 1)) (L' := [(4, .int (nI (k + 1))), (3, .int (nI (sp_en (sp_sg T c Z g (k + 1)).1 (sp_sg T c Z g (k + 1)).2 ((k + 1) % 2)))), (5, .int (nI (sp_lv T c (sp_sg T c Z g k).1 (sp_sg T c Z g k).2))), (0, .ref 15), (1, .int (nI g)), (2, .int (nI c))]) de_G_failsAt_73 5 rfl (by rw [show Int32.ofInt 1 = nI 1 from rfl, ab_add]) (by decide) rfl ?_
        refine ab_goto (tgt := 10) de_G_failsAt_76 rfl ?_
        refine ab_sub (L' := [(0, .ref 15), (1, .int (nI g)), (2, .int (nI c)), (3, .int (nI (sp_en (sp_sg T c Z g (k + 1)).1 (sp_sg T c Z g (k + 1)).2 ((k + 1) % 2)))), (4, .int (nI (k + 1)))]) [3, 4, 5, 1, 0] rfl ?_
        exact ih (k + 1)  (by omega) (by omega) (fun j hj => by
          by_cases e : j = k
          · subst e; rw [(ab_bz1 _).mp c_49_3]; rfl
          · exact hf0 j (by omega))
      · refine ab_iload de_G_failsAt_52 5 rfl ?_
        exact ab_ret (v := some (.int (nI k))) de_G_failsAt_54 ⟨_, rfl⟩ ⟨congrArg (fun z => some (Value.int z)) (by unfold sp_fl; rw [sp_ft_at (k := k) (by rw [(ab_bz0 _).mp c_49_3]; rfl) hf0 _ hk, if_pos hk]), rfl⟩
set_option maxHeartbeats 1000000 in
set_option maxRecDepth 10000 in
theorem ct_G_failsAt (l : Launch) (d : Nat) (nr : Nat) (h : Nat → Nat → Int32) (g_ : Nat → Nat → Int64) (rr : Nat → Option Nat) {T : Nat → Nat → Nat} (hT : bo_T T h 17) (hO : sp_ok T) {Z : sp_G} (hZ : gm_ok Z) (hG : gm_C Z h) {g : Nat} (hg : g < gN Z) {c : Nat} (hc : c < 4096) : ab_C l am_G_failsAt (d + 5) 0 0 [.ref 15, .int (nI g), .int (nI c)] (ab_S nr h g_ rr) (fun (r_ : Option Value) (M' : ab_Me) => r_ = some (.int (sp_fl T c Z g)) ∧ M' = (ab_S nr h g_ rr)) := by
  refine ab_C_of (by decide +kernel) rfl (Nat.le_of_ble_eq_true rfl) ?_
  refine ab_aload_n de_G_failsAt_0 0 rfl ?_
  refine ab_get (v := .ref 18) fl_G_18 rfl rfl de_G_failsAt_1 ?_
  refine ab_iload_n de_G_failsAt_4 1 rfl ?_
  refine ab_iald (v := h 18 g) rfl (ab_in (by have := gm_6 hZ hg; omega) (by decide)) (ab_hv (ab_tn (by have := gm_6 hZ hg; omega))) de_G_failsAt_5 ?_
  refine ab_top (v' := nI (sp_en (sp_sg T c Z g 0).1 (sp_sg T c Z g 0).2 (0 % 2))) ((hG.2 g hg).1.trans gm_st) ?_
  refine ab_istore_n (L' := [(3, .int (nI (sp_en (sp_sg T c Z g 0).1 (sp_sg T c Z g 0).2 (0 % 2)))), (0, .ref 15), (1, .int (nI g)), (2, .int (nI c))]) de_G_failsAt_6 (by decide) rfl ?_
  refine ab_iconst (v := 0) de_G_failsAt_7 rfl ?_
  refine ab_istore (L' := [(4, .int (0 : Int32)), (3, .int (nI (sp_en (sp_sg T c Z g 0).1 (sp_sg T c Z g 0).2 (0 % 2)))), (0, .ref 15), (1, .int (nI g)), (2, .int (nI c))]) de_G_failsAt_8 (by decide) rfl ?_
  refine ab_sub (L' := [(0, .ref 15), (1, .int (nI g)), (2, .int (nI c)), (3, .int (nI (sp_en (sp_sg T c Z g 0).1 (sp_sg T c Z g 0).2 (0 % 2)))), (4, .int (0 : Int32))]) [2, 3, 4, 1, 0] rfl ?_
  exact lp_G_failsAt l d nr h g_ rr hT hO hZ hG hg hc (gm_20 hZ hg) (gL Z g + 1) 0 (by omega) (by omega) (fun j hj => absurd hj (Nat.not_lt_zero j))
set_option maxHeartbeats 1000000 in
set_option maxRecDepth 10000 in
theorem lp_G_width_k (l : Launch) (d : Nat) (nr : Nat) (h : Nat → Nat → Int32) (g_ : Nat → Nat → Int64) (rr : Nat → Option Nat) {T : Nat → Nat → Nat} (hT : bo_T T h 17) (hO : sp_ok T) {Z : sp_G} (hZ : gm_ok Z) (hG : gm_C Z h) {c : Nat} (hc : c < 4096) {g : Nat} (hg : g < gN Z) (h20_ : gL Z g ≤ 20) (kx : ab_G l none am_G_width (d + 4) 0 0 86 [(0, .ref 15), (1, .int (nI c)), (2, .int (nI (sp_sum (fun g => sp_sum (fun k => sp_wk T c Z g k) (gL Z g)) (g + 1)))), (3, .int (nI g))] [] (ab_S nr h g_ rr) (fun (r_ : Option Value) (M' : ab_Me) => r_ = some (.int (nI (sp_wd T c Z))) ∧ M' = (ab_S nr h g_ rr))) : ∀ (fu_ k : Nat), k ≤ gL Z g → gL Z g < k + fu_ → ab_G l none am_G_width (d + 4) 0 0 23 [(0, .ref 15), (1, .int (nI c)), (2, .int (nI (sp_sum (fun g => sp_sum (fun k => sp_wk T c Z g k) (gL Z g)) g + sp_sum (fun k => sp_wk T c Z g k) k))), (3, .int (nI g)), (4, .int (nI (sp_en (sp_sg T c Z g k).1 (sp_sg T c Z g k).2 (k % 2)))), (5, .int (nI k))] [] (ab_S nr h g_ rr) (fun (r_ : Option Value) (M' : ab_Me) => r_ = some (.int (nI (sp_wd T c Z))) ∧ M' = (ab_S nr h g_ rr)) := by
  intro fu_
  induction fu_ with
  | zero => intro k  h1 h2; omega
  | succ fu_ ih =>
    intro k  hN_ hn_ 
    refine ab_iload de_G_width_23 5 rfl ?_
    refine ab_aload_n de_G_width_25 0 rfl ?_
    refine ab_get (v := .ref 19) fl_G_22 rfl rfl de_G_width_26 ?_
    refine ab_iload_n de_G_width_29 3 rfl ?_
    refine ab_iald (v := h 19 g) rfl (ab_in (by have := gm_6 hZ hg; omega) (by decide)) (ab_hv (ab_tn (by have := gm_6 hZ hg; omega))) de_G_width_30 ?_
    refine ab_top (v' := nI (gL Z g)) ((hG.2 g hg).2.1) ?_
    refine ab_icmp_ge (tgt := 86) de_G_width_31 rfl (fun c_31_1 => ?_) (fun c_31_1 => ?_)
    · have hk := ab_leN (by omega) (by omega) c_31_1
      refine ab_sub (L' := [(0, .ref 15), (1, .int (nI c)), (2, .int (nI (sp_sum (fun g => sp_sum (fun k => sp_wk T c Z g k) (gL Z g)) g + sp_sum (fun k => sp_wk T c Z g k) k))), (3, .int (nI g))]) [0, 1, 2, 3] rfl ?_
      have e_ : sp_sum (fun g => sp_sum (fun k => sp_wk T c Z g k) (gL Z g)) (g + 1) = sp_sum (fun g => sp_sum (fun k => sp_wk T c Z g k) (gL Z g)) g + sp_sum (fun k => sp_wk T c Z g k) k := by rw [show k = gL Z g by omega]; rfl
      rw [e_] at kx
      exact kx
    · have hk := ab_nleN (by omega) (by omega) c_31_1
      obtain ⟨h1_, h2_, h3_⟩ := sp_sg_ok (T := T) (c := c) hZ hg k (by omega)
      have hx_ := (hZ.2 g hg).2.2.2.2.1 k hk
      refine ab_aload_n de_G_width_34 0 rfl ?_
      refine ab_get (v := .ref 16) fl_G_12 rfl rfl de_G_width_35 ?_
      refine ab_iload de_G_width_38 4 rfl ?_
      refine ab_iload_n de_G_width_40 1 rfl ?_
      refine ab_cV (as := [.int (nI (sp_en (sp_sg T c Z g k).1 (sp_sg T c Z g k).2 (k % 2))), .int (nI c)]) (st := []) (ct_B_live l _ nr h g_ rr hT hO h1_ h2_ (show k % 2 < 2 by omega) hc) mo_B_live mi_B_live ml_G_35 rfl (by decide) rfl rfl rfl (Nat.le_of_ble_eq_true rfl) de_G_width_41 (fun v_ M_ hK_ hl_ hv_ => ?_)
      obtain ⟨rfl, hm_⟩ := hK_
      have hm_ := hm_.symm
      subst hm_
      change ab_G _ _ _ _ _ _ _ [(0, .ref 15), (1, .int (nI c)), (2, .int (nI (sp_sum (fun g => sp_sum (fun k => sp_wk T c Z g k) (gL Z g)) g + sp_sum (fun k => sp_wk T c Z g k) k))), (3, .int (nI g)), (4, .int (nI (sp_en (sp_sg T c Z g k).1 (sp_sg T c Z g k).2 (k % 2)))), (5, .int (nI k))] [.int (nI (sp_lv T c (sp_sg T c Z g k).1 (sp_sg T c Z g k).2))] (ab_S nr h g_ rr) _
      refine ab_istore (L' := [(6, .int (nI (sp_lv T c (sp_sg T c Z g k).1 (sp_sg T c Z g k).2))), (0, .ref 15), (1, .int (nI c)), (2, .int (nI (sp_sum (fun g => sp_sum (fun k => sp_wk T c Z g k) (gL Z g)) g + sp_sum (fun k => sp_wk T c Z g k) k))), (3, .int (nI g)), (4, .int (nI (sp_en (sp_sg T c Z g k).1 (sp_sg T c Z g k).2 (k % 2)))), (5, .int (nI k))]) de_G_width_44 (by decide) rfl ?_
      refine ab_iload_n de_G_width_46 3 rfl ?_
      refine ab_aload_n de_G_width_47 1 rfl ?_
      refine ab_get (v := .ref 16) fl_G_12 rfl rfl de_G_width_48 ?_
      refine ab_iload de_G_width_51 5 rfl ?_
      refine ab_iload de_G_width_53 0 rfl ?_
      refine ab_cV (as := [.int (nI (sp_en (sp_sg T c Z g k).1 (sp_sg T c Z g k).2 (k % 2))), .int (nI (sp_lv T c (sp_sg T c Z g k).1 (sp_sg T c Z g k).2))]) (st := [.int (nI (sp_sum (fun g => sp_sum (fun k => sp_wk T c Z g k) (gL Z g)) g + sp_sum (fun k => sp_wk T c Z g k) k))]) (ct_B_lawfulCount l _ nr h g_ rr hT hO h1_ h2_ (show k % 2 < 2 by omega) (sp_lv4 T c _ _)) mo_B_lawfulCount mi_B_lawfulCount ml_G_53 rfl (by decide) rfl rfl rfl (Nat.le_of_ble_eq_true rfl) de_G_width_55 (fun v_ M_ hK_ hl_ hv_ => ?_)
      obtain ⟨rfl, hm_⟩ := hK_
      have hm_ := hm_.symm
      subst hm_
      change ab_G _ _ _ _ _ _ _ [(6, .int (nI (sp_lv T c (sp_sg T c Z g k).1 (sp_sg T c Z g k).2))), (0, .ref 15), (1, .int (nI c)), (2, .int (nI (sp_sum (fun g => sp_sum (fun k => sp_wk T c Z g k) (gL Z g)) g + sp_sum (fun k => sp_wk T c Z g k) k))), (3, .int (nI g)), (4, .int (nI (sp_en (sp_sg T c Z g k).1 (sp_sg T c Z g k).2 (k % 2)))), (5, .int (nI k))] [.int (nI (sp_wk T c Z g k)), .int (nI (sp_sum (fun g => sp_sum (fun k => sp_wk T c Z g k) (gL Z g)) g + sp_sum (fun k => sp_wk T c Z g k) k))] (ab_S nr h g_ rr) _
      refine ab_iadd de_G_width_58 ?_
      refine ab_top (v' := nI (sp_sum (fun g => sp_sum (fun k => sp_wk T c Z g k) (gL Z g)) g + sp_sum (fun k => sp_wk T c Z g k) (k + 1))) (by rw [ab_add, Nat.add_assoc]; rfl) ?_
      refine ab_istore_n (L' := [(2, .int (nI (sp_sum (fun g => sp_sum (fun k => sp_wk T c Z g k) (gL Z g)) g + sp_sum (fun k => sp_wk T c Z g k) (k + 1)))), (6, .int (nI (sp_lv T c (sp_sg T c Z g k).1 (sp_sg T c Z g k).2))), (0, .ref 15), (1, .int (nI c)), (3, .int (nI g)), (4, .int (nI (sp_en (sp_sg T c Z g k).1 (sp_sg T c Z g k).2 (k % 2)))), (5, .int (nI k))]) de_G_width_59 (by decide) rfl ?_
      refine ab_aload_n de_G_width_60 2 rfl ?_
      refine ab_get (v := .ref 16) fl_G_12 rfl rfl de_G_width_61 ?_
      refine ab_iload de_G_width_64 5 rfl ?_
      refine ab_iload de_G_width_66 1 rfl ?_
      refine ab_aload_n de_G_width_68 2 rfl ?_
      refine ab_iload_n de_G_width_69 4 rfl ?_
      refine ab_iload de_G_width_70 6 rfl ?_
      refine ab_cV (as := [.int (nI g), .int (nI k)]) (st := [.int (nI (sp_lv T c (sp_sg T c Z g k).1 (sp_sg T c Z g k).2)), .int (nI (sp_en (sp_sg T c Z g k).1 (sp_sg T c Z g k).2 (k % 2))), .ref 16]) (ct_G_moveAt l _ nr h g_ rr hZ hG hg hk) mo_G_moveAt mi_G_moveAt ml_G_39 rfl (by decide) rfl rfl rfl (Nat.le_of_ble_eq_true rfl) de_G_width_72 (fun v_ M_ hK_ hl_ hv_ => ?_)
      obtain ⟨rfl, hm_⟩ := hK_
      have hm_ := hm_.symm
      subst hm_
      change ab_G _ _ _ _ _ _ _ [(2, .int (nI (sp_sum (fun g => sp_sum (fun k => sp_wk T c Z g k) (gL Z g)) g + sp_sum (fun k => sp_wk T c Z g k) (k + 1)))), (6, .int (nI (sp_lv T c (sp_sg T c Z g k).1 (sp_sg T c Z g k).2))), (0, .ref 15), (1, .int (nI c)), (3, .int (nI g)), (4, .int (nI (sp_en (sp_sg T c Z g k).1 (sp_sg T c Z g k).2 (k % 2)))), (5, .int (nI k))] [.int (nI (gV Z g k)), .int (nI (sp_lv T c (sp_sg T c Z g k).1 (sp_sg T c Z g k).2)), .int (nI (sp_en (sp_sg T c Z g k).1 (sp_sg T c Z g k).2 (k % 2))), .ref 16] (ab_S nr h g_ rr) _
      refine ab_cV (as := [.int (nI (sp_en (sp_sg T c Z g k).1 (sp_sg T c Z g k).2 (k % 2))), .int (nI (sp_lv T c (sp_sg T c Z g k).1 (sp_sg T c Z g k).2)), .int (nI (gV Z g k))]) (st := []) (ct_B_done l _ nr h g_ rr hT hO h1_ h2_ (show k % 2 < 2 by omega) (sp_lv4 T c _ _) (x := gV Z g k) hx_ h3_) mo_B_done mi_B_done ml_G_42 rfl (by decide) rfl rfl rfl (Nat.le_of_ble_eq_true rfl) de_G_width_75 (fun v_ M_ hK_ hl_ hv_ => ?_)
      obtain ⟨rfl, hm_⟩ := hK_
      have hm_ := hm_.symm
      subst hm_
      change ab_G _ _ _ _ _ _ _ [(2, .int (nI (sp_sum (fun g => sp_sum (fun k => sp_wk T c Z g k) (gL Z g)) g + sp_sum (fun k => sp_wk T c Z g k) (k + 1)))), (6, .int (nI (sp_lv T c (sp_sg T c Z g k).1 (sp_sg T c Z g k).2))), (0, .ref 15), (1, .int (nI c)), (3, .int (nI g)), (4, .int (nI (sp_en (sp_sg T c Z g k).1 (sp_sg T c Z g k).2 (k % 2)))), (5, .int (nI k))] [.int (nI (sp_en (sp_d2 T (sp_lv T c (sp_sg T c Z g k).1 (sp_sg T c Z g k).2) (sp_sg T c Z g k).1 (sp_sg T c Z g k).2 (gV Z g k)) (sp_d1 T (sp_lv T c (sp_sg T c Z g k).1 (sp_sg T c Z g k).2) (sp_sg T c Z g k).1 (sp_sg T c Z g k).2 (gV Z g k)) (1 - k % 2)))] (ab_S nr h g_ rr) _
      refine ab_top (v' := nI (sp_en (sp_sg T c Z g (k + 1)).1 (sp_sg T c Z g (k + 1)).2 ((k + 1) % 2))) (sp_sg_s) ?_
      refine ab_istore (L' := [(4, .int (nI (sp_en (sp_sg T c Z g (k + 1)).1 (sp_sg T c Z g (k + 1)).2 ((k + 1) % 2)))), (2, .int (nI (sp_sum (fun g => sp_sum (fun k => sp_wk T c Z g k) (gL Z g)) g + sp_sum (fun k => sp_wk T c Z g k) (k + 1)))), (6, .int (nI (sp_lv T c (sp_sg T c Z g k).1 (sp_sg T c Z g k).2))), (0, .ref 15), (1, .int (nI c)), (3, .int (nI g)), (5, .int (nI k))]) de_G_width_78 (by decide) rfl ?_
      refine ab_iinc (v := nI (k + 1)) (L' := [(5, .int (nI (k + 1))), (4, .int (nI (sp_en (sp_sg T c Z g (k + 1)).1 (sp_sg T c Z g (k + 1)).2 ((k + 1) % 2)))), (2, .int (nI (sp_sum (fun g => sp_sum (fun k => sp_wk T c Z g k) (gL Z g)) g + sp_sum (fun k => sp_wk T c Z g k) (k + 1)))), (6, .int (nI (sp_lv T c (sp_sg T c Z g k).1 (sp_sg T c Z g k).2))), (0, .ref 15), (1, .int (nI c)), (3, .int (nI g))]) de_G_width_80 6 rfl (by rw [show Int32.ofInt 1 = nI 1 from rfl, ab_add]) (by decide) rfl ?_
      refine ab_goto (tgt := 23) de_G_width_83 rfl ?_
      refine ab_sub (L' := [(0, .ref 15), (1, .int (nI c)), (2, .int (nI (sp_sum (fun g => sp_sum (fun k => sp_wk T c Z g k) (gL Z g)) g + sp_sum (fun k => sp_wk T c Z g k) (k + 1)))), (3, .int (nI g)), (4, .int (nI (sp_en (sp_sg T c Z g (k + 1)).1 (sp_sg T c Z g (k + 1)).2 ((k + 1) % 2)))), (5, .int (nI (k + 1)))]) [4, 5, 2, 6, 1, 0] rfl ?_
      exact ih (k + 1)  (by omega) (by omega) 
set_option maxHeartbeats 1000000 in
set_option maxRecDepth 10000 in
theorem lp_G_width_g (l : Launch) (d : Nat) (nr : Nat) (h : Nat → Nat → Int32) (g_ : Nat → Nat → Int64) (rr : Nat → Option Nat) {T : Nat → Nat → Nat} (hT : bo_T T h 17) (hO : sp_ok T) {Z : sp_G} (hZ : gm_ok Z) (hG : gm_C Z h) {c : Nat} (hc : c < 4096) (h6_ : gN Z ≤ 6) : ∀ (fu_ g : Nat), g ≤ gN Z → gN Z < g + fu_ → ab_G l none am_G_width (d + 4) 0 0 4 [(0, .ref 15), (1, .int (nI c)), (2, .int (nI (sp_sum (fun g => sp_sum (fun k => sp_wk T c Z g k) (gL Z g)) g))), (3, .int (nI g))] [] (ab_S nr h g_ rr) (fun (r_ : Option Value) (M' : ab_Me) => r_ = some (.int (nI (sp_wd T c Z))) ∧ M' = (ab_S nr h g_ rr)) := by
  intro fu_
  induction fu_ with
  | zero => intro g  h1 h2; omega
  | succ fu_ ih =>
    intro g  hN_ hn_ 
    refine ab_iload_n de_G_width_4 3 rfl ?_
    refine ab_aload_n de_G_width_5 0 rfl ?_
    refine ab_get (v := .int (h 15 5)) fl_G_31 rfl rfl de_G_width_6 ?_
    refine ab_top (v' := nI (gN Z)) (hG.1) ?_
    refine ab_icmp_ge (tgt := 92) de_G_width_9 rfl (fun c_9_1 => ?_) (fun c_9_1 => ?_)
    · have hg := ab_leN (by omega) (by omega) c_9_1
      refine ab_iload_n de_G_width_92 2 rfl ?_
      exact ab_ret (v := some (.int (nI (sp_sum (fun g => sp_sum (fun k => sp_wk T c Z g k) (gL Z g)) g)))) de_G_width_93 ⟨_, rfl⟩ ⟨congrArg (fun z => some (Value.int z)) (by rw [show g = gN Z by omega]; rfl), rfl⟩
    · have hg := ab_nleN (by omega) (by omega) c_9_1
      refine ab_aload_n de_G_width_12 0 rfl ?_
      refine ab_get (v := .ref 18) fl_G_18 rfl rfl de_G_width_13 ?_
      refine ab_iload_n de_G_width_16 3 rfl ?_
      refine ab_iald (v := h 18 g) rfl (ab_in (by have := gm_6 hZ hg; omega) (by decide)) (ab_hv (ab_tn (by have := gm_6 hZ hg; omega))) de_G_width_17 ?_
      refine ab_top (v' := nI (sp_en (sp_sg T c Z g 0).1 (sp_sg T c Z g 0).2 (0 % 2))) ((hG.2 g hg).1.trans gm_st) ?_
      refine ab_istore (L' := [(4, .int (nI (sp_en (sp_sg T c Z g 0).1 (sp_sg T c Z g 0).2 (0 % 2)))), (0, .ref 15), (1, .int (nI c)), (2, .int (nI (sp_sum (fun g => sp_sum (fun k => sp_wk T c Z g k) (gL Z g)) g))), (3, .int (nI g))]) de_G_width_18 (by decide) rfl ?_
      refine ab_iconst (v := 0) de_G_width_20 rfl ?_
      refine ab_istore (L' := [(5, .int (0 : Int32)), (4, .int (nI (sp_en (sp_sg T c Z g 0).1 (sp_sg T c Z g 0).2 (0 % 2)))), (0, .ref 15), (1, .int (nI c)), (2, .int (nI (sp_sum (fun g => sp_sum (fun k => sp_wk T c Z g k) (gL Z g)) g))), (3, .int (nI g))]) de_G_width_21 (by decide) rfl ?_
      refine ab_sub (L' := [(0, .ref 15), (1, .int (nI c)), (2, .int (nI (sp_sum (fun g => sp_sum (fun k => sp_wk T c Z g k) (gL Z g)) g))), (3, .int (nI g)), (4, .int (nI (sp_en (sp_sg T c Z g 0).1 (sp_sg T c Z g 0).2 (0 % 2)))), (5, .int (0 : Int32))]) [2, 3, 4, 5, 1, 0] rfl ?_
      refine lp_G_width_k l d nr h g_ rr hT hO hZ hG hc hg (gm_20 hZ hg) ?_ (gL Z g + 1) 0 (by omega) (by omega)
      refine ab_iinc (v := nI (g + 1)) (L' := [(3, .int (nI (g + 1))), (0, .ref 15), (1, .int (nI c)), (2, .int (nI (sp_sum (fun g => sp_sum (fun k => sp_wk T c Z g k) (gL Z g)) (g + 1))))]) de_G_width_86 3 rfl (by rw [show Int32.ofInt 1 = nI 1 from rfl, ab_add]) (by decide) rfl ?_
      refine ab_goto (tgt := 4) de_G_width_89 rfl ?_
      refine ab_sub (L' := [(0, .ref 15), (1, .int (nI c)), (2, .int (nI (sp_sum (fun g => sp_sum (fun k => sp_wk T c Z g k) (gL Z g)) (g + 1)))), (3, .int (nI (g + 1)))]) [1, 2, 3, 0] rfl ?_
      exact ih (g + 1) (by omega) (by omega)
set_option maxHeartbeats 1000000 in
set_option maxRecDepth 10000 in
theorem ct_G_width (l : Launch) (d : Nat) (nr : Nat) (h : Nat → Nat → Int32) (g_ : Nat → Nat → Int64) (rr : Nat → Option Nat) {T : Nat → Nat → Nat} (hT : bo_T T h 17) (hO : sp_ok T) {Z : sp_G} (hZ : gm_ok Z) (hG : gm_C Z h) {c : Nat} (hc : c < 4096) : ab_C l am_G_width (d + 4) 0 0 [.ref 15, .int (nI c)] (ab_S nr h g_ rr) (fun (r_ : Option Value) (M' : ab_Me) => r_ = some (.int (nI (sp_wd T c Z))) ∧ M' = (ab_S nr h g_ rr)) := by
  refine ab_C_of (by decide +kernel) rfl (Nat.le_of_ble_eq_true rfl) ?_
  refine ab_iconst (v := 0) de_G_width_0 rfl ?_
  refine ab_istore_n (L' := [(2, .int (0 : Int32)), (0, .ref 15), (1, .int (nI c))]) de_G_width_1 (by decide) rfl ?_
  refine ab_iconst (v := 0) de_G_width_2 rfl ?_
  refine ab_istore_n (L' := [(3, .int (0 : Int32)), (2, .int (0 : Int32)), (0, .ref 15), (1, .int (nI c))]) de_G_width_3 (by decide) rfl ?_
  refine ab_sub (L' := [(0, .ref 15), (1, .int (nI c)), (2, .int (0 : Int32)), (3, .int (0 : Int32))]) [2, 3, 1, 0] rfl ?_
  exact lp_G_width_g l d nr h g_ rr hT hO hZ hG hc hZ.1 7 0 (by omega) (by have := hZ.1; omega)
set_option maxHeartbeats 1000000 in
set_option maxRecDepth 10000 in
theorem lp_G_parting_k (l : Launch) (d : Nat) (nr : Nat) (h : Nat → Nat → Int32) (g_ : Nat → Nat → Int64) (rr : Nat → Option Nat) {T : Nat → Nat → Nat} (hT : bo_T T h 17) (hO : sp_ok T) {Z : sp_G} (hZ : gm_ok Z) (hG : gm_C Z h) {c e : Nat} (hc : c < 4096) (he : e < 4096) {g : Nat} (hg : g < gN Z) (h20_ : gL Z g ≤ 20) (kx : (∀ k, k < gL Z g → sp_pk T c e Z g k = false) → ab_G l none am_G_parting (d + 4) 0 0 102 [(0, .ref 15), (1, .int (nI c)), (2, .int (nI e)), (3, .int (nI g))] [] (ab_S nr h g_ rr) (fun (r_ : Option Value) (M' : ab_Me) => r_ = some (.int (sp_pa T c e Z)) ∧ M' = (ab_S nr h g_ rr))) (ky : ∀ k, k < gL Z g → sp_pk T c e Z g k = true → (∀ j, j < k → sp_pk T c e Z g j = false) → nI (100 * g + k) = sp_pa T c e Z) : ∀ (fu_ k : Nat), k ≤ gL Z g → gL Z g < k + fu_ → (∀ j, j < k → sp_pk T c e Z g j = false) → ab_G l none am_G_parting (d + 4) 0 0 21 [(0, .ref 15), (1, .int (nI c)), (2, .int (nI e)), (3, .int (nI g)), (4, .int (nI (sp_en (sp_sg T c Z g k).1 (sp_sg T c Z g k).2 (k % 2)))), (5, .int (nI k))] [] (ab_S nr h g_ rr) (fun (r_ : Option Value) (M' : ab_Me) => r_ = some (.int (sp_pa T c e Z)) ∧ M' = (ab_S nr h g_ rr)) := by
  intro fu_
  induction fu_ with
  | zero => intro k  h1 h2; omega
  | succ fu_ ih =>
    intro k  hN_ hn_ hf0
    refine ab_iload de_G_parting_21 5 rfl ?_
    refine ab_aload_n de_G_parting_23 0 rfl ?_
    refine ab_get (v := .ref 19) fl_G_22 rfl rfl de_G_parting_24 ?_
    refine ab_iload_n de_G_parting_27 3 rfl ?_
    refine ab_iald (v := h 19 g) rfl (ab_in (by have := gm_6 hZ hg; omega) (by decide)) (ab_hv (ab_tn (by have := gm_6 hZ hg; omega))) de_G_parting_28 ?_
    refine ab_top (v' := nI (gL Z g)) ((hG.2 g hg).2.1) ?_
    refine ab_icmp_ge (tgt := 102) de_G_parting_29 rfl (fun c_29_1 => ?_) (fun c_29_1 => ?_)
    · have hk := ab_leN (by omega) (by omega) c_29_1
      refine ab_sub (L' := [(0, .ref 15), (1, .int (nI c)), (2, .int (nI e)), (3, .int (nI g))]) [0, 1, 2, 3] rfl ?_
      exact kx (fun j hj => hf0 j (by omega))
    · have hk := ab_nleN (by omega) (by omega) c_29_1
      obtain ⟨h1_, h2_, h3_⟩ := sp_sg_ok (T := T) (c := c) hZ hg k (by omega)
      have hx_ := (hZ.2 g hg).2.2.2.2.1 k hk
      refine ab_aload_n de_G_parting_32 0 rfl ?_
      refine ab_get (v := .ref 16) fl_G_12 rfl rfl de_G_parting_33 ?_
      refine ab_iload de_G_parting_36 4 rfl ?_
      refine ab_iload_n de_G_parting_38 1 rfl ?_
      refine ab_cV (as := [.int (nI (sp_en (sp_sg T c Z g k).1 (sp_sg T c Z g k).2 (k % 2))), .int (nI c)]) (st := []) (ct_B_live l _ nr h g_ rr hT hO h1_ h2_ (show k % 2 < 2 by omega) hc) mo_B_live mi_B_live ml_G_35 rfl (by decide) rfl rfl rfl (Nat.le_of_ble_eq_true rfl) de_G_parting_39 (fun v_ M_ hK_ hl_ hv_ => ?_)
      obtain ⟨rfl, hm_⟩ := hK_
      have hm_ := hm_.symm
      subst hm_
      change ab_G _ _ _ _ _ _ _ [(0, .ref 15), (1, .int (nI c)), (2, .int (nI e)), (3, .int (nI g)), (4, .int (nI (sp_en (sp_sg T c Z g k).1 (sp_sg T c Z g k).2 (k % 2)))), (5, .int (nI k))] [.int (nI (sp_lv T c (sp_sg T c Z g k).1 (sp_sg T c Z g k).2))] (ab_S nr h g_ rr) _
      refine ab_istore (L' := [(6, .int (nI (sp_lv T c (sp_sg T c Z g k).1 (sp_sg T c Z g k).2))), (0, .ref 15), (1, .int (nI c)), (2, .int (nI e)), (3, .int (nI g)), (4, .int (nI (sp_en (sp_sg T c Z g k).1 (sp_sg T c Z g k).2 (k % 2)))), (5, .int (nI k))]) de_G_parting_42 (by decide) rfl ?_
      refine ab_aload_n de_G_parting_44 1 rfl ?_
      refine ab_get (v := .ref 16) fl_G_12 rfl rfl de_G_parting_45 ?_
      refine ab_iload de_G_parting_48 5 rfl ?_
      refine ab_iload de_G_parting_50 0 rfl ?_
      refine ab_aload_n de_G_parting_52 1 rfl ?_
      refine ab_get (v := .ref 16) fl_G_12 rfl rfl de_G_parting_53 ?_
      refine ab_iload de_G_parting_56 5 rfl ?_
      refine ab_iload_n de_G_parting_58 3 rfl ?_
      refine ab_cV (as := [.int (nI (sp_en (sp_sg T c Z g k).1 (sp_sg T c Z g k).2 (k % 2))), .int (nI e)]) (st := [.int (nI (sp_lv T c (sp_sg T c Z g k).1 (sp_sg T c Z g k).2)), .int (nI (sp_en (sp_sg T c Z g k).1 (sp_sg T c Z g k).2 (k % 2))), .ref 16]) (ct_B_live l _ nr h g_ rr hT hO h1_ h2_ (show k % 2 < 2 by omega) he) mo_B_live mi_B_live ml_G_35 rfl (by decide) rfl rfl rfl (Nat.le_of_ble_eq_true rfl) de_G_parting_59 (fun v_ M_ hK_ hl_ hv_ => ?_)
      obtain ⟨rfl, hm_⟩ := hK_
      have hm_ := hm_.symm
      subst hm_
      change ab_G _ _ _ _ _ _ _ [(6, .int (nI (sp_lv T c (sp_sg T c Z g k).1 (sp_sg T c Z g k).2))), (0, .ref 15), (1, .int (nI c)), (2, .int (nI e)), (3, .int (nI g)), (4, .int (nI (sp_en (sp_sg T c Z g k).1 (sp_sg T c Z g k).2 (k % 2)))), (5, .int (nI k))] [.int (nI (sp_lv T e (sp_sg T c Z g k).1 (sp_sg T c Z g k).2)), .int (nI (sp_lv T c (sp_sg T c Z g k).1 (sp_sg T c Z g k).2)), .int (nI (sp_en (sp_sg T c Z g k).1 (sp_sg T c Z g k).2 (k % 2))), .ref 16] (ab_S nr h g_ rr) _
      refine ab_cV (as := [.int (nI (sp_en (sp_sg T c Z g k).1 (sp_sg T c Z g k).2 (k % 2))), .int (nI (sp_lv T c (sp_sg T c Z g k).1 (sp_sg T c Z g k).2)), .int (nI (sp_lv T e (sp_sg T c Z g k).1 (sp_sg T c Z g k).2))]) (st := []) (ct_B_letAlike l _ nr h g_ rr hT hO h1_ h2_ (show k % 2 < 2 by omega) (v := (sp_lv T c (sp_sg T c Z g k).1 (sp_sg T c Z g k).2)) (w := (sp_lv T e (sp_sg T c Z g k).1 (sp_sg T c Z g k).2)) (sp_lv4 T c _ _) (sp_lv4 T e _ _)) mo_B_letAlike mi_B_letAlike ml_G_56 rfl (by decide) rfl rfl rfl (Nat.le_of_ble_eq_true rfl) de_G_parting_62 (fun v_ M_ hK_ hl_ hv_ => ?_)
      obtain ⟨rfl, hm_⟩ := hK_
      have hm_ := hm_.symm
      subst hm_
      change ab_G _ _ _ _ _ _ _ [(6, .int (nI (sp_lv T c (sp_sg T c Z g k).1 (sp_sg T c Z g k).2))), (0, .ref 15), (1, .int (nI c)), (2, .int (nI e)), (3, .int (nI g)), (4, .int (nI (sp_en (sp_sg T c Z g k).1 (sp_sg T c Z g k).2 (k % 2)))), (5, .int (nI k))] [.int (ab_bz (!sp_pk T c e Z g k))] (ab_S nr h g_ rr) _
      refine ab_if_ne (tgt := 76) de_G_parting_65 rfl (fun c_65_2 => ?_) (fun c_65_2 => ?_)
      · refine ab_aload_n de_G_parting_76 1 rfl ?_
        refine ab_get (v := .ref 16) fl_G_12 rfl rfl de_G_parting_77 ?_
        refine ab_iload de_G_parting_80 5 rfl ?_
        refine ab_iload de_G_parting_82 0 rfl ?_
        refine ab_aload_n de_G_parting_84 1 rfl ?_
        refine ab_iload_n de_G_parting_85 4 rfl ?_
        refine ab_iload de_G_parting_86 6 rfl ?_
        refine ab_cV (as := [.int (nI g), .int (nI k)]) (st := [.int (nI (sp_lv T c (sp_sg T c Z g k).1 (sp_sg T c Z g k).2)), .int (nI (sp_en (sp_sg T c Z g k).1 (sp_sg T c Z g k).2 (k % 2))), .ref 16]) (ct_G_moveAt l _ nr h g_ rr hZ hG hg hk) mo_G_moveAt mi_G_moveAt ml_G_39 rfl (by decide) rfl rfl rfl (Nat.le_of_ble_eq_true rfl) de_G_parting_88 (fun v_ M_ hK_ hl_ hv_ => ?_)
        obtain ⟨rfl, hm_⟩ := hK_
        have hm_ := hm_.symm
        subst hm_
        change ab_G _ _ _ _ _ _ _ [(6, .int (nI (sp_lv T c (sp_sg T c Z g k).1 (sp_sg T c Z g k).2))), (0, .ref 15), (1, .int (nI c)), (2, .int (nI e)), (3, .int (nI g)), (4, .int (nI (sp_en (sp_sg T c Z g k).1 (sp_sg T c Z g k).2 (k % 2)))), (5, .int (nI k))] [.int (nI (gV Z g k)), .int (nI (sp_lv T c (sp_sg T c Z g k).1 (sp_sg T c Z g k).2)), .int (nI (sp_en (sp_sg T c Z g k).1 (sp_sg T c Z g k).2 (k % 2))), .ref 16] (ab_S nr h g_ rr) _
        refine ab_cV (as := [.int (nI (sp_en (sp_sg T c Z g k).1 (sp_sg T c Z g k).2 (k % 2))), .int (nI (sp_lv T c (sp_sg T c Z g k).1 (sp_sg T c Z g k).2)), .int (nI (gV Z g k))]) (st := []) (ct_B_done l _ nr h g_ rr hT hO h1_ h2_ (show k % 2 < 2 by omega) (sp_lv4 T c _ _) (x := gV Z g k) hx_ h3_) mo_B_done mi_B_done ml_G_42 rfl (by decide) rfl rfl rfl (Nat.le_of_ble_eq_true rfl) de_G_parting_91 (fun v_ M_ hK_ hl_ hv_ => ?_)
        obtain ⟨rfl, hm_⟩ := hK_
        have hm_ := hm_.symm
        subst hm_
        change ab_G _ _ _ _ _ _ _ [(6, .int (nI (sp_lv T c (sp_sg T c Z g k).1 (sp_sg T c Z g k).2))), (0, .ref 15), (1, .int (nI c)), (2, .int (nI e)), (3, .int (nI g)), (4, .int (nI (sp_en (sp_sg T c Z g k).1 (sp_sg T c Z g k).2 (k % 2)))), (5, .int (nI k))] [.int (nI (sp_en (sp_d2 T (sp_lv T c (sp_sg T c Z g k).1 (sp_sg T c Z g k).2) (sp_sg T c Z g k).1 (sp_sg T c Z g k).2 (gV Z g k)) (sp_d1 T (sp_lv T c (sp_sg T c Z g k).1 (sp_sg T c Z g k).2) (sp_sg T c Z g k).1 (sp_sg T c Z g k).2 (gV Z g k)) (1 - k % 2)))] (ab_S nr h g_ rr) _
        refine ab_top (v' := nI (sp_en (sp_sg T c Z g (k + 1)).1 (sp_sg T c Z g (k + 1)).2 ((k + 1) % 2))) (sp_sg_s) ?_
        refine ab_istore (L' := [(4, .int (nI (sp_en (sp_sg T c Z g (k + 1)).1 (sp_sg T c Z g (k + 1)).2 ((k + 1) % 2)))), (6, .int (nI (sp_lv T c (sp_sg T c Z g k).1 (sp_sg T c Z g k).2))), (0, .ref 15), (1, .int (nI c)), (2, .int (nI e)), (3, .int (nI g)), (5, .int (nI k))]) de_G_parting_94 (by decide) rfl ?_
        refine ab_iinc (v := nI (k + 1)) (L' := [(5, .int (nI (k + 1))), (4, .int (nI (sp_en (sp_sg T c Z g (k + 1)).1 (sp_sg T c Z g (k + 1)).2 ((k + 1) % 2)))), (6, .int (nI (sp_lv T c (sp_sg T c Z g k).1 (sp_sg T c Z g k).2))), (0, .ref 15), (1, .int (nI c)), (2, .int (nI e)), (3, .int (nI g))]) de_G_parting_96 6 rfl (by rw [show Int32.ofInt 1 = nI 1 from rfl, ab_add]) (by decide) rfl ?_
        refine ab_goto (tgt := 21) de_G_parting_99 rfl ?_
        refine ab_sub (L' := [(0, .ref 15), (1, .int (nI c)), (2, .int (nI e)), (3, .int (nI g)), (4, .int (nI (sp_en (sp_sg T c Z g (k + 1)).1 (sp_sg T c Z g (k + 1)).2 ((k + 1) % 2)))), (5, .int (nI (k + 1)))]) [3, 4, 5, 6, 1, 0] rfl ?_
        exact ih (k + 1)  (by omega) (by omega) (fun j hj => by
          by_cases e : j = k
          · subst e; have z := (ab_bz1 _).mp c_65_2; simpa using z
          · exact hf0 j (by omega))
      · refine ab_bipush (v := 100) de_G_parting_68 rfl ?_
        refine ab_iload_n de_G_parting_70 4 rfl ?_
        refine ab_imul de_G_parting_71 ?_
        refine ab_iload de_G_parting_72 6 rfl ?_
        refine ab_iadd de_G_parting_74 ?_
        refine ab_top (v' := nI (100 * g + k)) (by rw [show (100 : Int32) = nI 100 from rfl, ab_mul, ab_add]) ?_
        exact ab_ret (v := some (.int (nI (100 * g + k)))) de_G_parting_75 ⟨_, rfl⟩ ⟨congrArg (fun z => some (Value.int z)) (ky k hk (by have z := (ab_bz0 _).mp c_65_2; simpa using z) hf0), rfl⟩
set_option maxHeartbeats 1000000 in
set_option maxRecDepth 10000 in
theorem lp_G_parting_g (l : Launch) (d : Nat) (nr : Nat) (h : Nat → Nat → Int32) (g_ : Nat → Nat → Int64) (rr : Nat → Option Nat) {T : Nat → Nat → Nat} (hT : bo_T T h 17) (hO : sp_ok T) {Z : sp_G} (hZ : gm_ok Z) (hG : gm_C Z h) {c e : Nat} (hc : c < 4096) (he : e < 4096) (h6_ : gN Z ≤ 6) : ∀ (fu_ g : Nat), g ≤ gN Z → gN Z < g + fu_ → (∀ j, j < g → sp_any (sp_pk T c e Z j) (gL Z j) = false) → ab_G l none am_G_parting (d + 4) 0 0 2 [(0, .ref 15), (1, .int (nI c)), (2, .int (nI e)), (3, .int (nI g))] [] (ab_S nr h g_ rr) (fun (r_ : Option Value) (M' : ab_Me) => r_ = some (.int (sp_pa T c e Z)) ∧ M' = (ab_S nr h g_ rr)) := by
  intro fu_
  induction fu_ with
  | zero => intro g  h1 h2; omega
  | succ fu_ ih =>
    intro g  hN_ hn_ hf0
    refine ab_iload_n de_G_parting_2 3 rfl ?_
    refine ab_aload_n de_G_parting_3 0 rfl ?_
    refine ab_get (v := .int (h 15 5)) fl_G_31 rfl rfl de_G_parting_4 ?_
    refine ab_top (v' := nI (gN Z)) (hG.1) ?_
    refine ab_icmp_ge (tgt := 108) de_G_parting_7 rfl (fun c_7_1 => ?_) (fun c_7_1 => ?_)
    · have hg := ab_leN (by omega) (by omega) c_7_1
      refine ab_iconst (v := -1) de_G_parting_108 rfl ?_
      exact ab_ret (v := some (.int (-1 : Int32))) de_G_parting_109 ⟨_, rfl⟩ ⟨congrArg (fun z => some (Value.int z)) (by unfold sp_pa; rw [sp_ft_no _ (fun j hj => hf0 j (by omega)), if_neg (Nat.lt_irrefl _)]), rfl⟩
    · have hg := ab_nleN (by omega) (by omega) c_7_1
      refine ab_aload_n de_G_parting_10 0 rfl ?_
      refine ab_get (v := .ref 18) fl_G_18 rfl rfl de_G_parting_11 ?_
      refine ab_iload_n de_G_parting_14 3 rfl ?_
      refine ab_iald (v := h 18 g) rfl (ab_in (by have := gm_6 hZ hg; omega) (by decide)) (ab_hv (ab_tn (by have := gm_6 hZ hg; omega))) de_G_parting_15 ?_
      refine ab_top (v' := nI (sp_en (sp_sg T c Z g 0).1 (sp_sg T c Z g 0).2 (0 % 2))) ((hG.2 g hg).1.trans gm_st) ?_
      refine ab_istore (L' := [(4, .int (nI (sp_en (sp_sg T c Z g 0).1 (sp_sg T c Z g 0).2 (0 % 2)))), (0, .ref 15), (1, .int (nI c)), (2, .int (nI e)), (3, .int (nI g))]) de_G_parting_16 (by decide) rfl ?_
      refine ab_iconst (v := 0) de_G_parting_18 rfl ?_
      refine ab_istore (L' := [(5, .int (0 : Int32)), (4, .int (nI (sp_en (sp_sg T c Z g 0).1 (sp_sg T c Z g 0).2 (0 % 2)))), (0, .ref 15), (1, .int (nI c)), (2, .int (nI e)), (3, .int (nI g))]) de_G_parting_19 (by decide) rfl ?_
      refine ab_sub (L' := [(0, .ref 15), (1, .int (nI c)), (2, .int (nI e)), (3, .int (nI g)), (4, .int (nI (sp_en (sp_sg T c Z g 0).1 (sp_sg T c Z g 0).2 (0 % 2)))), (5, .int (0 : Int32))]) [2, 3, 4, 5, 1, 0] rfl ?_
      refine lp_G_parting_k l d nr h g_ rr hT hO hZ hG hc he hg (gm_20 hZ hg) (fun hx => ?_) (fun k hk hp hq => ?_) (gL Z g + 1) 0 (by omega) (by omega) (fun j hj => absurd hj (Nat.not_lt_zero j))
      · refine ab_iinc (v := nI (g + 1)) (L' := [(3, .int (nI (g + 1))), (0, .ref 15), (1, .int (nI c)), (2, .int (nI e))]) de_G_parting_102 3 rfl (by rw [show Int32.ofInt 1 = nI 1 from rfl, ab_add]) (by decide) rfl ?_
        refine ab_goto (tgt := 2) de_G_parting_105 rfl ?_
        refine ab_sub (L' := [(0, .ref 15), (1, .int (nI c)), (2, .int (nI e)), (3, .int (nI (g + 1)))]) [1, 2, 3, 0] rfl ?_
        exact ih (g + 1) (by omega) (by omega) (fun j hj => by
          by_cases e : j = g
          · subst e; exact (sp_any_no _ _).mpr hx
          · exact hf0 j (by omega))
      · have hg1 : sp_ft (fun g => sp_any (sp_pk T c e Z g) (gL Z g)) (gN Z) = g := sp_ft_at (f := fun g => sp_any (sp_pk T c e Z g) (gL Z g)) ((sp_any_iff _ _).mpr ⟨k, hk, hp⟩) hf0 _ hg
        have hk1 : sp_ft (sp_pk T c e Z g) (gL Z g) = k := sp_ft_at hp hq _ hk
        unfold sp_pa
        rw [hg1, if_pos hg, hk1]
set_option maxHeartbeats 1000000 in
set_option maxRecDepth 10000 in
theorem ct_G_parting (l : Launch) (d : Nat) (nr : Nat) (h : Nat → Nat → Int32) (g_ : Nat → Nat → Int64) (rr : Nat → Option Nat) {T : Nat → Nat → Nat} (hT : bo_T T h 17) (hO : sp_ok T) {Z : sp_G} (hZ : gm_ok Z) (hG : gm_C Z h) {c e : Nat} (hc : c < 4096) (he : e < 4096) : ab_C l am_G_parting (d + 4) 0 0 [.ref 15, .int (nI c), .int (nI e)] (ab_S nr h g_ rr) (fun (r_ : Option Value) (M' : ab_Me) => r_ = some (.int (sp_pa T c e Z)) ∧ M' = (ab_S nr h g_ rr)) := by
  refine ab_C_of (by decide +kernel) rfl (Nat.le_of_ble_eq_true rfl) ?_
  refine ab_iconst (v := 0) de_G_parting_0 rfl ?_
  refine ab_istore_n (L' := [(3, .int (0 : Int32)), (0, .ref 15), (1, .int (nI c)), (2, .int (nI e))]) de_G_parting_1 (by decide) rfl ?_
  refine ab_sub (L' := [(0, .ref 15), (1, .int (nI c)), (2, .int (nI e)), (3, .int (0 : Int32))]) [1, 2, 3, 0] rfl ?_
  exact lp_G_parting_g l d nr h g_ rr hT hO hZ hG hc he hZ.1 7 0 (by omega) (by have := hZ.1; omega) (fun j hj => absurd hj (Nat.not_lt_zero j))
