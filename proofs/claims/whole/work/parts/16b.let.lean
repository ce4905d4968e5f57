/-! the reference: what is let -/
theorem md_bk {c k : Nat} : c &&& 2 ^ k = 0 ↔ c.testBit k = false := by
  constructor
  · intro h
    have h1 : (c &&& 2 ^ k).testBit k = false := by rw [h, Nat.zero_testBit]
    rw [Nat.testBit_and, Nat.testBit_two_pow, decide_eq_true rfl, Bool.and_true] at h1
    exact h1
  · intro h
    apply Nat.eq_of_testBit_eq
    intro j
    rw [Nat.testBit_and, Nat.testBit_two_pow, Nat.zero_testBit]
    by_cases e : k = j
    · rw [← e, h]; rfl
    · rw [decide_eq_false e, Bool.and_false]
theorem md_b {c k n : Nat} (e : n = 2 ^ k) (hc : c < 4096) : nI (c &&& n) = 0 ↔ c.testBit k = false := by
  rw [sp_z (sp_andlt hc), e, md_bk]
theorem md_bt {c k n : Nat} (e : n = 2 ^ k) (hc : c < 4096) (h : ¬ nI (c &&& n) = 0) : c.testBit k = true := by
  cases hb : c.testBit k with
  | true => rfl
  | false => exact absurd ((md_b e hc).mpr hb) h
theorem md_or_cut {f : Nat → Nat} {n : Nat} : ∀ N, n ≤ N → (∀ j, n ≤ j → j < N → f j = 0) → sp_or f N = sp_or f n
  | 0, h, _ => by rw [show n = 0 by omega]
  | N + 1, h, hf => by
    by_cases e : n = N + 1
    · rw [e]
    · rw [sp_or, md_or_cut N (by omega) (fun j h1 h2 => hf j h1 (by omega)), hf N (by omega) (by omega), Nat.or_zero]
theorem md_sh0 {o m : Nat} (h : o >>> m = 0) {j : Nat} (hj : m ≤ j) : o.testBit j = false := by
  obtain ⟨q, rfl⟩ : ∃ q, j = m + q := ⟨j - m, by omega⟩
  rw [← Nat.testBit_shiftRight, h, Nat.zero_testBit]
theorem md_sh12 {o : Nat} (h : o < 4096) : o >>> 12 = 0 := by rw [Nat.shiftRight_eq_div_pow]; exact Nat.div_eq_of_lt h
theorem md_st0 {T : Nat → Nat → Nat} {h : Nat → Nat → Int32} (hT : bo_T T h 32) {p : Nat} (hp : p < 12) : h 32 p = nI (T 0 p) := by
  have := hT 0 p (by decide) hp
  rwa [Nat.mul_zero, Nat.zero_add] at this
set_option maxHeartbeats 1000000 in
set_option maxRecDepth 10000 in
theorem ct_M_stepsFrom (l : Launch) (d : Nat) (nr : Nat) (h : Nat → Nat → Int32) (g : Nat → Nat → Int64) (rr : Nat → Option Nat) {T : Nat → Nat → Nat} (hTM : bo_T T h 32) (hO : sp_ok T) {c p e : Nat} (hc : c < 4096) (hp : p < 12) : ab_C l am_M_stepsFrom d 0 0 [.ref 30, .int (nI c), .int (nI p), .int (nI e)] (ab_S nr h g rr) (fun (r_ : Option Value) (M' : ab_Me) => r_ = some (.int (nI (sp_st T c p &&& e))) ∧ M' = (ab_S nr h g rr)) := by
  refine ab_C_of (by decide +kernel) rfl (Nat.le_of_ble_eq_true rfl) ?_
  refine ab_iconst (v := 0) de_M_stepsFrom_0 rfl ?_
  refine ab_istore (L' := [(4, .int (0 : Int32)), (0, .ref 30), (1, .int (nI c)), (2, .int (nI p)), (3, .int (nI e))]) de_M_stepsFrom_1 (by decide) rfl ?_
  refine ab_iload_n de_M_stepsFrom_3 2 rfl ?_
  refine ab_iconst (v := 1) de_M_stepsFrom_4 rfl ?_
  refine ab_iand de_M_stepsFrom_5 ?_
  refine ab_top (v' := nI (c &&& 1)) (ab_and _ _) ?_
  refine ab_if_eq (tgt := 20) de_M_stepsFrom_6 rfl (fun c_6_1 => ?_) (fun c_6_1 => ?_)
  · refine ab_iload_n de_M_stepsFrom_20 2 rfl ?_
    refine ab_iconst (v := 2) de_M_stepsFrom_21 rfl ?_
    refine ab_iand de_M_stepsFrom_22 ?_
    refine ab_top (v' := nI (c &&& 2)) (ab_and _ _) ?_
    refine ab_if_eq (tgt := 40) de_M_stepsFrom_23 rfl (fun c_23_2 => ?_) (fun c_23_2 => ?_)
    · refine ab_iload_n de_M_stepsFrom_40 2 rfl ?_
      refine ab_iconst (v := 4) de_M_stepsFrom_41 rfl ?_
      refine ab_iand de_M_stepsFrom_42 ?_
      refine ab_top (v' := nI (c &&& 4)) (ab_and _ _) ?_
      refine ab_if_eq (tgt := 60) de_M_stepsFrom_43 rfl (fun c_43_3 => ?_) (fun c_43_3 => ?_)
      · refine ab_iload de_M_stepsFrom_60 0 rfl ?_
        refine ab_iload_n de_M_stepsFrom_62 4 rfl ?_
        refine ab_iand de_M_stepsFrom_63 ?_
        refine ab_top (v' := nI (0 &&& e)) (ab_and _ _) ?_
        exact ab_ret (v := some (.int (nI (0 &&& e)))) de_M_stepsFrom_64 ⟨_, rfl⟩ ⟨congrArg (fun z => some (Value.int z)) (by show _ = nI ((((0 ||| (if c.testBit 0 = true then T 0 p else 0)) ||| (if c.testBit 1 = true then T 1 p else 0)) ||| (if c.testBit 2 = true then T 2 p else 0)) &&& e); rw [if_neg (by rw [(md_b (c := c) (k := 0) (n := 1) rfl hc).mp c_6_1]; decide), if_neg (by rw [(md_b (c := c) (k := 1) (n := 2) rfl hc).mp c_23_2]; decide), if_neg (by rw [(md_b (c := c) (k := 2) (n := 4) rfl hc).mp c_43_3]; decide)]; try simp only [Nat.or_zero]), rfl⟩
      · refine ab_iload de_M_stepsFrom_46 0 rfl ?_
        refine ab_aload_n de_M_stepsFrom_48 1 rfl ?_
        refine ab_get (v := .ref 32) fl_M_17 rfl rfl de_M_stepsFrom_49 ?_
        refine ab_bipush (v := 24) de_M_stepsFrom_52 rfl ?_
        refine ab_iload_n de_M_stepsFrom_54 3 rfl ?_
        refine ab_iadd de_M_stepsFrom_55 ?_
        refine ab_top (v' := nI (24 + p)) (ab_add _ _) ?_
        refine ab_iald (v := h 32 (24 + p)) rfl (ab_in (by omega) (by decide)) (ab_hv (ab_tn (n := (24 + p)) (by omega))) de_M_stepsFrom_56 ?_
        refine ab_top (v' := nI (T 2 p)) (hTM 2 p (by decide) hp) ?_
        refine ab_ior de_M_stepsFrom_57 ?_
        refine ab_top (v' := nI (0 ||| (T 2 p))) (ab_or _ _) ?_
        refine ab_istore (L' := [(4, .int (nI (0 ||| (T 2 p)))), (0, .ref 30), (1, .int (nI c)), (2, .int (nI p)), (3, .int (nI e))]) de_M_stepsFrom_58 (by decide) rfl ?_
        refine ab_iload de_M_stepsFrom_60 0 rfl ?_
        refine ab_iload_n de_M_stepsFrom_62 4 rfl ?_
        refine ab_iand de_M_stepsFrom_63 ?_
        refine ab_top (v' := nI ((0 ||| (T 2 p)) &&& e)) (ab_and _ _) ?_
        exact ab_ret (v := some (.int (nI ((0 ||| (T 2 p)) &&& e)))) de_M_stepsFrom_64 ⟨_, rfl⟩ ⟨congrArg (fun z => some (Value.int z)) (by show _ = nI ((((0 ||| (if c.testBit 0 = true then T 0 p else 0)) ||| (if c.testBit 1 = true then T 1 p else 0)) ||| (if c.testBit 2 = true then T 2 p else 0)) &&& e); rw [if_neg (by rw [(md_b (c := c) (k := 0) (n := 1) rfl hc).mp c_6_1]; decide), if_neg (by rw [(md_b (c := c) (k := 1) (n := 2) rfl hc).mp c_23_2]; decide), if_pos (md_bt (c := c) (k := 2) (n := 4) rfl hc c_43_3)]; try simp only [Nat.or_zero]), rfl⟩
    · refine ab_iload de_M_stepsFrom_26 0 rfl ?_
      refine ab_aload_n de_M_stepsFrom_28 1 rfl ?_
      refine ab_get (v := .ref 32) fl_M_17 rfl rfl de_M_stepsFrom_29 ?_
      refine ab_bipush (v := 12) de_M_stepsFrom_32 rfl ?_
      refine ab_iload_n de_M_stepsFrom_34 3 rfl ?_
      refine ab_iadd de_M_stepsFrom_35 ?_
      refine ab_top (v' := nI (12 + p)) (ab_add _ _) ?_
      refine ab_iald (v := h 32 (12 + p)) rfl (ab_in (by omega) (by decide)) (ab_hv (ab_tn (n := (12 + p)) (by omega))) de_M_stepsFrom_36 ?_
      refine ab_top (v' := nI (T 1 p)) (hTM 1 p (by decide) hp) ?_
      refine ab_ior de_M_stepsFrom_37 ?_
      refine ab_top (v' := nI (0 ||| (T 1 p))) (ab_or _ _) ?_
      refine ab_istore (L' := [(4, .int (nI (0 ||| (T 1 p)))), (0, .ref 30), (1, .int (nI c)), (2, .int (nI p)), (3, .int (nI e))]) de_M_stepsFrom_38 (by decide) rfl ?_
      refine ab_iload_n de_M_stepsFrom_40 2 rfl ?_
      refine ab_iconst (v := 4) de_M_stepsFrom_41 rfl ?_
      refine ab_iand de_M_stepsFrom_42 ?_
      refine ab_top (v' := nI (c &&& 4)) (ab_and _ _) ?_
      refine ab_if_eq (tgt := 60) de_M_stepsFrom_43 rfl (fun c_43_4 => ?_) (fun c_43_4 => ?_)
      · refine ab_iload de_M_stepsFrom_60 0 rfl ?_
        refine ab_iload_n de_M_stepsFrom_62 4 rfl ?_
        refine ab_iand de_M_stepsFrom_63 ?_
        refine ab_top (v' := nI ((0 ||| (T 1 p)) &&& e)) (ab_and _ _) ?_
        exact ab_ret (v := some (.int (nI ((0 ||| (T 1 p)) &&& e)))) de_M_stepsFrom_64 ⟨_, rfl⟩ ⟨congrArg (fun z => some (Value.int z)) (by show _ = nI ((((0 ||| (if c.testBit 0 = true then T 0 p else 0)) ||| (if c.testBit 1 = true then T 1 p else 0)) ||| (if c.testBit 2 = true then T 2 p else 0)) &&& e); rw [if_neg (by rw [(md_b (c := c) (k := 0) (n := 1) rfl hc).mp c_6_1]; decide), if_pos (md_bt (c := c) (k := 1) (n := 2) rfl hc c_23_2), if_neg (by rw [(md_b (c := c) (k := 2) (n := 4) rfl hc).mp c_43_4]; decide)]; try simp only [Nat.or_zero]), rfl⟩
      · refine ab_iload de_M_stepsFrom_46 0 rfl ?_
        refine ab_aload_n de_M_stepsFrom_48 1 rfl ?_
        refine ab_get (v := .ref 32) fl_M_17 rfl rfl de_M_stepsFrom_49 ?_
        refine ab_bipush (v := 24) de_M_stepsFrom_52 rfl ?_
        refine ab_iload_n de_M_stepsFrom_54 3 rfl ?_
        refine ab_iadd de_M_stepsFrom_55 ?_
        refine ab_top (v' := nI (24 + p)) (ab_add _ _) ?_
        refine ab_iald (v := h 32 (24 + p)) rfl (ab_in (by omega) (by decide)) (ab_hv (ab_tn (n := (24 + p)) (by omega))) de_M_stepsFrom_56 ?_
        refine ab_top (v' := nI (T 2 p)) (hTM 2 p (by decide) hp) ?_
        refine ab_ior de_M_stepsFrom_57 ?_
        refine ab_top (v' := nI ((0 ||| (T 1 p)) ||| (T 2 p))) (ab_or _ _) ?_
        refine ab_istore (L' := [(4, .int (nI ((0 ||| (T 1 p)) ||| (T 2 p)))), (0, .ref 30), (1, .int (nI c)), (2, .int (nI p)), (3, .int (nI e))]) de_M_stepsFrom_58 (by decide) rfl ?_
        refine ab_iload de_M_stepsFrom_60 0 rfl ?_
        refine ab_iload_n de_M_stepsFrom_62 4 rfl ?_
        refine ab_iand de_M_stepsFrom_63 ?_
        refine ab_top (v' := nI (((0 ||| (T 1 p)) ||| (T 2 p)) &&& e)) (ab_and _ _) ?_
        exact ab_ret (v := some (.int (nI (((0 ||| (T 1 p)) ||| (T 2 p)) &&& e)))) de_M_stepsFrom_64 ⟨_, rfl⟩ ⟨congrArg (fun z => some (Value.int z)) (by show _ = nI ((((0 ||| (if c.testBit 0 = true then T 0 p else 0)) ||| (if c.testBit 1 = true then T 1 p else 0)) ||| (if c.testBit 2 = true then T 2 p else 0)) &&& e); rw [if_neg (by rw [(md_b (c := c) (k := 0) (n := 1) rfl hc).mp c_6_1]; decide), if_pos (md_bt (c := c) (k := 1) (n := 2) rfl hc c_23_2), if_pos (md_bt (c := c) (k := 2) (n := 4) rfl hc c_43_4)]; try simp only [Nat.or_zero]), rfl⟩
  · refine ab_iload de_M_stepsFrom_9 0 rfl ?_
    refine ab_aload_n de_M_stepsFrom_11 1 rfl ?_
    refine ab_get (v := .ref 32) fl_M_17 rfl rfl de_M_stepsFrom_12 ?_
    refine ab_iload_n de_M_stepsFrom_15 3 rfl ?_
    refine ab_iald (v := h 32 p) rfl (ab_in (by omega) (by decide)) (ab_hv (ab_tn (n := p) (by omega))) de_M_stepsFrom_16 ?_
    refine ab_top (v' := nI (T 0 p)) (md_st0 hTM hp) ?_
    refine ab_ior de_M_stepsFrom_17 ?_
    refine ab_top (v' := nI (0 ||| (T 0 p))) (ab_or _ _) ?_
    refine ab_istore (L' := [(4, .int (nI (0 ||| (T 0 p)))), (0, .ref 30), (1, .int (nI c)), (2, .int (nI p)), (3, .int (nI e))]) de_M_stepsFrom_18 (by decide) rfl ?_
    refine ab_iload_n de_M_stepsFrom_20 2 rfl ?_
    refine ab_iconst (v := 2) de_M_stepsFrom_21 rfl ?_
    refine ab_iand de_M_stepsFrom_22 ?_
    refine ab_top (v' := nI (c &&& 2)) (ab_and _ _) ?_
    refine ab_if_eq (tgt := 40) de_M_stepsFrom_23 rfl (fun c_23_5 => ?_) (fun c_23_5 => ?_)
    · refine ab_iload_n de_M_stepsFrom_40 2 rfl ?_
      refine ab_iconst (v := 4) de_M_stepsFrom_41 rfl ?_
      refine ab_iand de_M_stepsFrom_42 ?_
      refine ab_top (v' := nI (c &&& 4)) (ab_and _ _) ?_
      refine ab_if_eq (tgt := 60) de_M_stepsFrom_43 rfl (fun c_43_6 => ?_) (fun c_43_6 => ?_)
      · refine ab_iload de_M_stepsFrom_60 0 rfl ?_
        refine ab_iload_n de_M_stepsFrom_62 4 rfl ?_
        refine ab_iand de_M_stepsFrom_63 ?_
        refine ab_top (v' := nI ((0 ||| (T 0 p)) &&& e)) (ab_and _ _) ?_
        exact ab_ret (v := some (.int (nI ((0 ||| (T 0 p)) &&& e)))) de_M_stepsFrom_64 ⟨_, rfl⟩ ⟨congrArg (fun z => some (Value.int z)) (by show _ = nI ((((0 ||| (if c.testBit 0 = true then T 0 p else 0)) ||| (if c.testBit 1 = true then T 1 p else 0)) ||| (if c.testBit 2 = true then T 2 p else 0)) &&& e); rw [if_pos (md_bt (c := c) (k := 0) (n := 1) rfl hc c_6_1), if_neg (by rw [(md_b (c := c) (k := 1) (n := 2) rfl hc).mp c_23_5]; decide), if_neg (by rw [(md_b (c := c) (k := 2) (n := 4) rfl hc).mp c_43_6]; decide)]; try simp only [Nat.or_zero]), rfl⟩
      · refine ab_iload de_M_stepsFrom_46 0 rfl ?_
        refine ab_aload_n de_M_stepsFrom_48 1 rfl ?_
        refine ab_get (v := .ref 32) fl_M_17 rfl rfl de_M_stepsFrom_49 ?_
        refine ab_bipush (v := 24) de_M_stepsFrom_52 rfl ?_
        refine ab_iload_n de_M_stepsFrom_54 3 rfl ?_
        refine ab_iadd de_M_stepsFrom_55 ?_
        refine ab_top (v' := nI (24 + p)) (ab_add _ _) ?_
        refine ab_iald (v := h 32 (24 + p)) rfl (ab_in (by omega) (by decide)) (ab_hv (ab_tn (n := (24 + p)) (by omega))) de_M_stepsFrom_56 ?_
        refine ab_top (v' := nI (T 2 p)) (hTM 2 p (by decide) hp) ?_
        refine ab_ior de_M_stepsFrom_57 ?_
        refine ab_top (v' := nI ((0 ||| (T 0 p)) ||| (T 2 p))) (ab_or _ _) ?_
        refine ab_istore (L' := [(4, .int (nI ((0 ||| (T 0 p)) ||| (T 2 p)))), (0, .ref 30), (1, .int (nI c)), (2, .int (nI p)), (3, .int (nI e))]) de_M_stepsFrom_58 (by decide) rfl ?_
        refine ab_iload de_M_stepsFrom_60 0 rfl ?_
        refine ab_iload_n de_M_stepsFrom_62 4 rfl ?_
        refine ab_iand de_M_stepsFrom_63 ?_
        refine ab_top (v' := nI (((0 ||| (T 0 p)) ||| (T 2 p)) &&& e)) (ab_and _ _) ?_
        exact ab_ret (v := some (.int (nI (((0 ||| (T 0 p)) ||| (T 2 p)) &&& e)))) de_M_stepsFrom_64 ⟨_, rfl⟩ ⟨congrArg (fun z => some (Value.int z)) (by show _ = nI ((((0 ||| (if c.testBit 0 = true then T 0 p else 0)) ||| (if c.testBit 1 = true then T 1 p else 0)) ||| (if c.testBit 2 = true then T 2 p else 0)) &&& e); rw [if_pos (md_bt (c := c) (k := 0) (n := 1) rfl hc c_6_1), if_neg (by rw [(md_b (c := c) (k := 1) (n := 2) rfl hc).mp c_23_5]; decide), if_pos (md_bt (c := c) (k := 2) (n := 4) rfl hc c_43_6)]; try simp only [Nat.or_zero]), rfl⟩
    · refine ab_iload de_M_stepsFrom_26 0 rfl ?_
      refine ab_aload_n de_M_stepsFrom_28 1 rfl ?_
      refine ab_get (v := .ref 32) fl_M_17 rfl rfl de_M_stepsFrom_29 ?_
      refine ab_bipush (v := 12) de_M_stepsFrom_32 rfl ?_
      refine ab_iload_n de_M_stepsFrom_34 3 rfl ?_
      refine ab_iadd de_M_stepsFrom_35 ?_
      refine ab_top (v' := nI (12 + p)) (ab_add _ _) ?_
      refine ab_iald (v := h 32 (12 + p)) rfl (ab_in (by omega) (by decide)) (ab_hv (ab_tn (n := (12 + p)) (by omega))) de_M_stepsFrom_36 ?_
      refine ab_top (v' := nI (T 1 p)) (hTM 1 p (by decide) hp) ?_
      refine ab_ior de_M_stepsFrom_37 ?_
      refine ab_top (v' := nI ((0 ||| (T 0 p)) ||| (T 1 p))) (ab_or _ _) ?_
      refine ab_istore (L' := [(4, .int (nI ((0 ||| (T 0 p)) ||| (T 1 p)))), (0, .ref 30), (1, .int (nI c)), (2, .int (nI p)), (3, .int (nI e))]) de_M_stepsFrom_38 (by decide) rfl ?_
      refine ab_iload_n de_M_stepsFrom_40 2 rfl ?_
      refine ab_iconst (v := 4) de_M_stepsFrom_41 rfl ?_
      refine ab_iand de_M_stepsFrom_42 ?_
      refine ab_top (v' := nI (c &&& 4)) (ab_and _ _) ?_
      refine ab_if_eq (tgt := 60) de_M_stepsFrom_43 rfl (fun c_43_7 => ?_) (fun c_43_7 => ?_)
      · refine ab_iload de_M_stepsFrom_60 0 rfl ?_
        refine ab_iload_n de_M_stepsFrom_62 4 rfl ?_
        refine ab_iand de_M_stepsFrom_63 ?_
        refine ab_top (v' := nI (((0 ||| (T 0 p)) ||| (T 1 p)) &&& e)) (ab_and _ _) ?_
        exact ab_ret (v := some (.int (nI (((0 ||| (T 0 p)) ||| (T 1 p)) &&& e)))) de_M_stepsFrom_64 ⟨_, rfl⟩ ⟨congrArg (fun z => some (Value.int z)) (by show _ = nI ((((0 ||| (if c.testBit 0 = true then T 0 p else 0)) ||| (if c.testBit 1 = true then T 1 p else 0)) ||| (if c.testBit 2 = true then T 2 p else 0)) &&& e); rw [if_pos (md_bt (c := c) (k := 0) (n := 1) rfl hc c_6_1), if_pos (md_bt (c := c) (k := 1) (n := 2) rfl hc c_23_5), if_neg (by rw [(md_b (c := c) (k := 2) (n := 4) rfl hc).mp c_43_7]; decide)]; try simp only [Nat.or_zero]), rfl⟩
      · refine ab_iload de_M_stepsFrom_46 0 rfl ?_
        refine ab_aload_n de_M_stepsFrom_48 1 rfl ?_
        refine ab_get (v := .ref 32) fl_M_17 rfl rfl de_M_stepsFrom_49 ?_
        refine ab_bipush (v := 24) de_M_stepsFrom_52 rfl ?_
        refine ab_iload_n de_M_stepsFrom_54 3 rfl ?_
        refine ab_iadd de_M_stepsFrom_55 ?_
        refine ab_top (v' := nI (24 + p)) (ab_add _ _) ?_
        refine ab_iald (v := h 32 (24 + p)) rfl (ab_in (by omega) (by decide)) (ab_hv (ab_tn (n := (24 + p)) (by omega))) de_M_stepsFrom_56 ?_
        refine ab_top (v' := nI (T 2 p)) (hTM 2 p (by decide) hp) ?_
        refine ab_ior de_M_stepsFrom_57 ?_
        refine ab_top (v' := nI (((0 ||| (T 0 p)) ||| (T 1 p)) ||| (T 2 p))) (ab_or _ _) ?_
        refine ab_istore (L' := [(4, .int (nI (((0 ||| (T 0 p)) ||| (T 1 p)) ||| (T 2 p)))), (0, .ref 30), (1, .int (nI c)), (2, .int (nI p)), (3, .int (nI e))]) de_M_stepsFrom_58 (by decide) rfl ?_
        refine ab_iload de_M_stepsFrom_60 0 rfl ?_
        refine ab_iload_n de_M_stepsFrom_62 4 rfl ?_
        refine ab_iand de_M_stepsFrom_63 ?_
        refine ab_top (v' := nI ((((0 ||| (T 0 p)) ||| (T 1 p)) ||| (T 2 p)) &&& e)) (ab_and _ _) ?_
        exact ab_ret (v := some (.int (nI ((((0 ||| (T 0 p)) ||| (T 1 p)) ||| (T 2 p)) &&& e)))) de_M_stepsFrom_64 ⟨_, rfl⟩ ⟨congrArg (fun z => some (Value.int z)) (by show _ = nI ((((0 ||| (if c.testBit 0 = true then T 0 p else 0)) ||| (if c.testBit 1 = true then T 1 p else 0)) ||| (if c.testBit 2 = true then T 2 p else 0)) &&& e); rw [if_pos (md_bt (c := c) (k := 0) (n := 1) rfl hc c_6_1), if_pos (md_bt (c := c) (k := 1) (n := 2) rfl hc c_23_5), if_pos (md_bt (c := c) (k := 2) (n := 4) rfl hc c_43_7)]; try simp only [Nat.or_zero]), rfl⟩
set_option maxHeartbeats 1000000 in
set_option maxRecDepth 10000 in
theorem lp_M_jumps_q (l : Launch) (d : Nat) (nr : Nat) (h : Nat → Nat → Int32) (g : Nat → Nat → Int64) (rr : Nat → Option Nat) {T : Nat → Nat → Nat} (hTM : bo_T T h 32) (hO : sp_ok T) {c p i e : Nat} (hc : c < 4096) (hp : p < 12) (hi : i < 4096) {k : Nat} (hk : k < 3) {K : Option Value → ab_Me → Prop} (kx : ab_G l none am_M_jumpsFrom (d) 0 0 88 [(0, .ref 30), (1, .int (nI c)), (2, .int (nI p)), (3, .int (nI i)), (4, .int (nI e)), (5, .int (nI (sp_or (fun k => if c.testBit (3 + k) = true then sp_bh T k (T k p &&& i) else 0) k ||| sp_bh T k (T k p &&& i)))), (6, .int (nI k))] [] (ab_S nr h g rr) (K)) : ∀ fu_ q, q ≤ 12 → 12 < q + fu_ → ab_G l none am_M_jumpsFrom (d) 0 0 45 [(0, .ref 30), (1, .int (nI c)), (2, .int (nI p)), (3, .int (nI i)), (4, .int (nI e)), (5, .int (nI (sp_or (fun k => if c.testBit (3 + k) = true then sp_bh T k (T k p &&& i) else 0) k ||| sp_or (fun q => if (T k p &&& i).testBit q = true then T k q else 0) q))), (6, .int (nI k)), (7, .int (nI (T k p &&& i))), (8, .int (nI q))] [] (ab_S nr h g rr) (K) := by
  have t_ := hO.lt hk hp
  have o_ : T k p &&& i < 4096 := sp_andlt t_
  intro fu_
  induction fu_ with
  | zero => intro q h1 h2; omega
  | succ fu_ ih =>
    intro q hq12 hqn
    refine ab_iload de_M_jumpsFrom_45 7 rfl ?_
    refine ab_iload de_M_jumpsFrom_47 8 rfl ?_
    refine ab_ishr de_M_jumpsFrom_49 ?_
    refine ab_top (v' := nI ((T k p &&& i) >>> q)) (ab_shr (by omega) (by omega)) ?_
    refine ab_if_eq (tgt := 88) de_M_jumpsFrom_50 rfl (fun c_50_1 => ?_) (fun c_50_1 => ?_)
    · refine ab_sub (L' := [(0, .ref 30), (1, .int (nI c)), (2, .int (nI p)), (3, .int (nI i)), (4, .int (nI e)), (5, .int (nI (sp_or (fun k => if c.testBit (3 + k) = true then sp_bh T k (T k p &&& i) else 0) k ||| sp_or (fun q => if (T k p &&& i).testBit q = true then T k q else 0) q))), (6, .int (nI k))]) [0, 1, 2, 3, 4, 5, 6] rfl ?_
      have z0_ : (T k p &&& i) >>> q = 0 := (ab_inj (b := 0) (by have := Nat.shiftRight_le (T k p &&& i) q; omega) (by decide)).mp c_50_1
      have e_ : sp_bh T k (T k p &&& i) = sp_or (fun q => if (T k p &&& i).testBit q = true then T k q else 0) q := md_or_cut 12 hq12 (fun j h1 _ => if_neg (by rw [md_sh0 z0_ h1]; decide))
      rw [e_] at kx
      exact kx
    · have q12_ : q < 12 := by
        rcases Nat.lt_or_ge q 12 with z_ | z_
        · exact z_
        · exfalso; exact c_50_1 (by rw [show q = 12 by omega, md_sh12 o_]; rfl)
      refine ab_iload de_M_jumpsFrom_53 7 rfl ?_
      refine ab_iload de_M_jumpsFrom_55 8 rfl ?_
      refine ab_ishr de_M_jumpsFrom_57 ?_
      refine ab_top (v' := nI ((T k p &&& i) >>> q)) (ab_shr (by omega) (by omega)) ?_
      refine ab_iconst (v := 1) de_M_jumpsFrom_58 rfl ?_
      refine ab_iand de_M_jumpsFrom_59 ?_
      refine ab_top (v' := nI ((T k p &&& i).testBit q).toNat) ((ab_and _ 1).trans (congrArg nI (sp_bit1 _ _))) ?_
      refine ab_iconst (v := 1) de_M_jumpsFrom_60 rfl ?_
      refine ab_icmp_ne (tgt := 82) de_M_jumpsFrom_61 rfl (fun c_61_2 => ?_) (fun c_61_2 => ?_)
      · refine ab_iinc (v := nI (q + 1)) (L' := [(8, .int (nI (q + 1))), (0, .ref 30), (1, .int (nI c)), (2, .int (nI p)), (3, .int (nI i)), (4, .int (nI e)), (5, .int (nI (sp_or (fun k => if c.testBit (3 + k) = true then sp_bh T k (T k p &&& i) else 0) k ||| sp_or (fun q => if (T k p &&& i).testBit q = true then T k q else 0) q))), (6, .int (nI k)), (7, .int (nI (T k p &&& i)))]) de_M_jumpsFrom_82 8 rfl (by rw [show Int32.ofInt 1 = nI 1 from rfl, ab_add]) (by decide) rfl ?_
        refine ab_goto (tgt := 45) de_M_jumpsFrom_85 rfl ?_
        refine ab_sub (L' := [(0, .ref 30), (1, .int (nI c)), (2, .int (nI p)), (3, .int (nI i)), (4, .int (nI e)), (5, .int (nI (sp_or (fun k => if c.testBit (3 + k) = true then sp_bh T k (T k p &&& i) else 0) k ||| sp_or (fun q => if (T k p &&& i).testBit q = true then T k q else 0) q))), (6, .int (nI k)), (7, .int (nI (T k p &&& i))), (8, .int (nI (q + 1)))]) [1, 2, 3, 4, 5, 6, 7, 8, 0] rfl ?_
        have e_ : sp_or (fun k => if c.testBit (3 + k) = true then sp_bh T k (T k p &&& i) else 0) k ||| sp_or (fun q => if (T k p &&& i).testBit q = true then T k q else 0) (q + 1) = sp_or (fun k => if c.testBit (3 + k) = true then sp_bh T k (T k p &&& i) else 0) k ||| sp_or (fun q => if (T k p &&& i).testBit q = true then T k q else 0) q := by
          rw [sp_or, if_neg (by rw [sp_b1n c_61_2]; decide), Nat.or_zero]
        have z_ := ih (q + 1) (by omega) (by omega)
        rw [e_] at z_
        exact z_
      · refine ab_iload de_M_jumpsFrom_64 5 rfl ?_
        refine ab_aload_n de_M_jumpsFrom_66 0 rfl ?_
        refine ab_get (v := .ref 32) fl_M_17 rfl rfl de_M_jumpsFrom_67 ?_
        refine ab_bipush (v := 12) de_M_jumpsFrom_70 rfl ?_
        refine ab_iload de_M_jumpsFrom_72 6 rfl ?_
        refine ab_imul de_M_jumpsFrom_74 ?_
        refine ab_top (v' := nI (12 * k)) (ab_mul _ _) ?_
        refine ab_iload de_M_jumpsFrom_75 8 rfl ?_
        refine ab_iadd de_M_jumpsFrom_77 ?_
        refine ab_top (v' := nI ((12 * k) + q)) (ab_add _ _) ?_
        refine ab_iald (v := h 32 ((12 * k) + q)) rfl (ab_in (by omega) (by decide)) (ab_hv (ab_tn (n := ((12 * k) + q)) (by omega))) de_M_jumpsFrom_78 ?_
        refine ab_top (v' := nI (T k q)) (hTM k q hk q12_) ?_
        refine ab_ior de_M_jumpsFrom_79 ?_
        refine ab_top (v' := nI ((sp_or (fun k => if c.testBit (3 + k) = true then sp_bh T k (T k p &&& i) else 0) k ||| sp_or (fun q => if (T k p &&& i).testBit q = true then T k q else 0) q) ||| (T k q))) (ab_or _ _) ?_
        refine ab_istore (L' := [(5, .int (nI ((sp_or (fun k => if c.testBit (3 + k) = true then sp_bh T k (T k p &&& i) else 0) k ||| sp_or (fun q => if (T k p &&& i).testBit q = true then T k q else 0) q) ||| (T k q)))), (0, .ref 30), (1, .int (nI c)), (2, .int (nI p)), (3, .int (nI i)), (4, .int (nI e)), (6, .int (nI k)), (7, .int (nI (T k p &&& i))), (8, .int (nI q))]) de_M_jumpsFrom_80 (by decide) rfl ?_
        refine ab_iinc (v := nI (q + 1)) (L' := [(8, .int (nI (q + 1))), (5, .int (nI ((sp_or (fun k => if c.testBit (3 + k) = true then sp_bh T k (T k p &&& i) else 0) k ||| sp_or (fun q => if (T k p &&& i).testBit q = true then T k q else 0) q) ||| (T k q)))), (0, .ref 30), (1, .int (nI c)), (2, .int (nI p)), (3, .int (nI i)), (4, .int (nI e)), (6, .int (nI k)), (7, .int (nI (T k p &&& i)))]) de_M_jumpsFrom_82 8 rfl (by rw [show Int32.ofInt 1 = nI 1 from rfl, ab_add]) (by decide) rfl ?_
        refine ab_goto (tgt := 45) de_M_jumpsFrom_85 rfl ?_
        refine ab_sub (L' := [(0, .ref 30), (1, .int (nI c)), (2, .int (nI p)), (3, .int (nI i)), (4, .int (nI e)), (5, .int (nI ((sp_or (fun k => if c.testBit (3 + k) = true then sp_bh T k (T k p &&& i) else 0) k ||| sp_or (fun q => if (T k p &&& i).testBit q = true then T k q else 0) q) ||| (T k q)))), (6, .int (nI k)), (7, .int (nI (T k p &&& i))), (8, .int (nI (q + 1)))]) [2, 3, 4, 5, 6, 1, 7, 8, 0] rfl ?_
        have e_ : sp_or (fun k => if c.testBit (3 + k) = true then sp_bh T k (T k p &&& i) else 0) k ||| sp_or (fun q => if (T k p &&& i).testBit q = true then T k q else 0) (q + 1) = sp_or (fun k => if c.testBit (3 + k) = true then sp_bh T k (T k p &&& i) else 0) k ||| sp_or (fun q => if (T k p &&& i).testBit q = true then T k q else 0) q ||| T k q := by
          rw [sp_or, if_pos ((sp_b1 _).mp c_61_2), Nat.or_assoc]
        have z_ := ih (q + 1) (by omega) (by omega)
        rw [e_] at z_
        exact z_
set_option maxHeartbeats 1000000 in
set_option maxRecDepth 10000 in
theorem lp_M_jumps_k (l : Launch) (d : Nat) (nr : Nat) (h : Nat → Nat → Int32) (g : Nat → Nat → Int64) (rr : Nat → Option Nat) {T : Nat → Nat → Nat} (hTM : bo_T T h 32) (hO : sp_ok T) {c p i e : Nat} (hc : c < 4096) (hp : p < 12) (hi : i < 4096) : ∀ fu_ k, k ≤ 3 → 3 < k + fu_ → ab_G l none am_M_jumpsFrom (d) 0 0 6 [(0, .ref 30), (1, .int (nI c)), (2, .int (nI p)), (3, .int (nI i)), (4, .int (nI e)), (5, .int (nI (sp_or (fun k => if c.testBit (3 + k) = true then sp_bh T k (T k p &&& i) else 0) k))), (6, .int (nI k))] [] (ab_S nr h g rr) (fun (r_ : Option Value) (M' : ab_Me) => r_ = some (.int (nI (sp_jm T c i p &&& e))) ∧ M' = (ab_S nr h g rr)) := by
  intro fu_
  induction fu_ with
  | zero => intro k h1 h2; omega
  | succ fu_ ih =>
    intro k hk3 hkn
    refine ab_iload de_M_jumpsFrom_6 6 rfl ?_
    refine ab_iconst (v := 3) de_M_jumpsFrom_8 rfl ?_
    refine ab_icmp_ge (tgt := 94) de_M_jumpsFrom_9 rfl (fun c_9_1 => ?_) (fun c_9_1 => ?_)
    · have hk := ab_le_of (n := 3) (by decide) (by omega) rfl c_9_1
      refine ab_iload de_M_jumpsFrom_94 5 rfl ?_
      refine ab_iload de_M_jumpsFrom_96 4 rfl ?_
      refine ab_iand de_M_jumpsFrom_98 ?_
      refine ab_top (v' := nI ((sp_or (fun k => if c.testBit (3 + k) = true then sp_bh T k (T k p &&& i) else 0) k) &&& e)) (ab_and _ _) ?_
      exact ab_ret (v := some (.int (nI ((sp_or (fun k => if c.testBit (3 + k) = true then sp_bh T k (T k p &&& i) else 0) k) &&& e)))) de_M_jumpsFrom_99 ⟨_, rfl⟩ ⟨congrArg (fun z => some (Value.int z)) (by rw [show k = 3 by omega]; rfl), rfl⟩
    · have hk := ab_nle_of (n := 3) (by decide) (by omega) rfl c_9_1
      refine ab_iload_n de_M_jumpsFrom_12 1 rfl ?_
      refine ab_iconst (v := 3) de_M_jumpsFrom_13 rfl ?_
      refine ab_iload de_M_jumpsFrom_14 6 rfl ?_
      refine ab_iadd de_M_jumpsFrom_16 ?_
      refine ab_top (v' := nI (3 + k)) (ab_add _ _) ?_
      refine ab_ishr de_M_jumpsFrom_17 ?_
      refine ab_top (v' := nI (c >>> (3 + k))) (ab_shr (by omega) (by omega)) ?_
      refine ab_iconst (v := 1) de_M_jumpsFrom_18 rfl ?_
      refine ab_iand de_M_jumpsFrom_19 ?_
      refine ab_top (v' := nI (c.testBit (3 + k)).toNat) ((ab_and _ 1).trans (congrArg nI (sp_bit1 _ _))) ?_
      refine ab_if_ne (tgt := 26) de_M_jumpsFrom_20 rfl (fun c_20_2 => ?_) (fun c_20_2 => ?_)
      · refine ab_aload_n de_M_jumpsFrom_26 0 rfl ?_
        refine ab_get (v := .ref 32) fl_M_17 rfl rfl de_M_jumpsFrom_27 ?_
        refine ab_bipush (v := 12) de_M_jumpsFrom_30 rfl ?_
        refine ab_iload de_M_jumpsFrom_32 6 rfl ?_
        refine ab_imul de_M_jumpsFrom_34 ?_
        refine ab_top (v' := nI (12 * k)) (ab_mul _ _) ?_
        refine ab_iload_n de_M_jumpsFrom_35 2 rfl ?_
        refine ab_iadd de_M_jumpsFrom_36 ?_
        refine ab_top (v' := nI ((12 * k) + p)) (ab_add _ _) ?_
        refine ab_iald (v := h 32 ((12 * k) + p)) rfl (ab_in (by omega) (by decide)) (ab_hv (ab_tn (n := ((12 * k) + p)) (by omega))) de_M_jumpsFrom_37 ?_
        refine ab_top (v' := nI (T k p)) (hTM k p hk hp) ?_
        refine ab_iload_n de_M_jumpsFrom_38 3 rfl ?_
        refine ab_iand de_M_jumpsFrom_39 ?_
        refine ab_top (v' := nI ((T k p) &&& i)) (ab_and _ _) ?_
        refine ab_istore (L' := [(7, .int (nI ((T k p) &&& i))), (0, .ref 30), (1, .int (nI c)), (2, .int (nI p)), (3, .int (nI i)), (4, .int (nI e)), (5, .int (nI (sp_or (fun k => if c.testBit (3 + k) = true then sp_bh T k (T k p &&& i) else 0) k))), (6, .int (nI k))]) de_M_jumpsFrom_40 (by decide) rfl ?_
        refine ab_iconst (v := 0) de_M_jumpsFrom_42 rfl ?_
        refine ab_istore (L' := [(8, .int (0 : Int32)), (7, .int (nI ((T k p) &&& i))), (0, .ref 30), (1, .int (nI c)), (2, .int (nI p)), (3, .int (nI i)), (4, .int (nI e)), (5, .int (nI (sp_or (fun k => if c.testBit (3 + k) = true then sp_bh T k (T k p &&& i) else 0) k))), (6, .int (nI k))]) de_M_jumpsFrom_43 (by decide) rfl ?_
        refine ab_eq (L' := [(8, .int (nI 0)), (7, .int (nI (T k p &&& i))), (0, .ref 30), (1, .int (nI c)), (2, .int (nI p)), (3, .int (nI i)), (4, .int (nI e)), (5, .int (nI (sp_or (fun k => if c.testBit (3 + k) = true then sp_bh T k (T k p &&& i) else 0) k ||| sp_or (fun q => if (T k p &&& i).testBit q = true then T k q else 0) 0))), (6, .int (nI k))]) rfl (by rw [show sp_or (fun q => if (T k p &&& i).testBit q = true then T k q else 0) 0 = 0 from rfl, Nat.or_zero]; rfl) rfl rfl ?_
        refine ab_sub (L' := [(0, .ref 30), (1, .int (nI c)), (2, .int (nI p)), (3, .int (nI i)), (4, .int (nI e)), (5, .int (nI (sp_or (fun k => if c.testBit (3 + k) = true then sp_bh T k (T k p &&& i) else 0) k ||| sp_or (fun q => if (T k p &&& i).testBit q = true then T k q else 0) 0))), (6, .int (nI k)), (7, .int (nI (T k p &&& i))), (8, .int (nI 0))]) [2, 3, 4, 5, 6, 7, 8, 1, 0] rfl ?_
        refine lp_M_jumps_q l d nr h g rr hTM hO hc hp hi hk ?_ 13 0 (by omega) (by omega)
        have e_ : sp_or (fun k => if c.testBit (3 + k) = true then sp_bh T k (T k p &&& i) else 0) (k + 1) = sp_or (fun k => if c.testBit (3 + k) = true then sp_bh T k (T k p &&& i) else 0) k ||| sp_bh T k (T k p &&& i) := by rw [sp_or, if_pos (ts_f c_20_2)]
        refine ab_iinc (v := nI (k + 1)) (L' := [(6, .int (nI (k + 1))), (0, .ref 30), (1, .int (nI c)), (2, .int (nI p)), (3, .int (nI i)), (4, .int (nI e)), (5, .int (nI (sp_or (fun k => if c.testBit (3 + k) = true then sp_bh T k (T k p &&& i) else 0) k ||| sp_bh T k (T k p &&& i))))]) de_M_jumpsFrom_88 6 rfl (by rw [show Int32.ofInt 1 = nI 1 from rfl, ab_add]) (by decide) rfl ?_
        refine ab_goto (tgt := 6) de_M_jumpsFrom_91 rfl ?_
        refine ab_sub (L' := [(0, .ref 30), (1, .int (nI c)), (2, .int (nI p)), (3, .int (nI i)), (4, .int (nI e)), (5, .int (nI (sp_or (fun k => if c.testBit (3 + k) = true then sp_bh T k (T k p &&& i) else 0) k ||| sp_bh T k (T k p &&& i)))), (6, .int (nI (k + 1)))]) [1, 2, 3, 4, 5, 6, 0] rfl ?_
        have z_ := ih (k + 1) (by omega) (by omega)
        rw [e_] at z_
        exact z_
      · refine ab_goto (tgt := 88) de_M_jumpsFrom_23 rfl ?_
        refine ab_iinc (v := nI (k + 1)) (L' := [(6, .int (nI (k + 1))), (0, .ref 30), (1, .int (nI c)), (2, .int (nI p)), (3, .int (nI i)), (4, .int (nI e)), (5, .int (nI (sp_or (fun k => if c.testBit (3 + k) = true then sp_bh T k (T k p &&& i) else 0) k)))]) de_M_jumpsFrom_88 6 rfl (by rw [show Int32.ofInt 1 = nI 1 from rfl, ab_add]) (by decide) rfl ?_
        refine ab_goto (tgt := 6) de_M_jumpsFrom_91 rfl ?_
        refine ab_sub (L' := [(0, .ref 30), (1, .int (nI c)), (2, .int (nI p)), (3, .int (nI i)), (4, .int (nI e)), (5, .int (nI (sp_or (fun k => if c.testBit (3 + k) = true then sp_bh T k (T k p &&& i) else 0) k))), (6, .int (nI (k + 1)))]) [1, 2, 3, 4, 5, 6, 0] rfl ?_
        have e_ : sp_or (fun k => if c.testBit (3 + k) = true then sp_bh T k (T k p &&& i) else 0) (k + 1) = sp_or (fun k => if c.testBit (3 + k) = true then sp_bh T k (T k p &&& i) else 0) k := by rw [sp_or, if_neg (by rw [(sp_b0 _).mp c_20_2]; decide), Nat.or_zero]
        have z_ := ih (k + 1) (by omega) (by omega)
        rw [e_] at z_
        exact z_
set_option maxHeartbeats 1000000 in
set_option maxRecDepth 10000 in
theorem ct_M_jumpsFrom (l : Launch) (d : Nat) (nr : Nat) (h : Nat → Nat → Int32) (g : Nat → Nat → Int64) (rr : Nat → Option Nat) {T : Nat → Nat → Nat} (hTM : bo_T T h 32) (hO : sp_ok T) {c p i e : Nat} (hc : c < 4096) (hp : p < 12) (hi : i < 4096) : ab_C l am_M_jumpsFrom d 0 0 [.ref 30, .int (nI c), .int (nI p), .int (nI i), .int (nI e)] (ab_S nr h g rr) (fun (r_ : Option Value) (M' : ab_Me) => r_ = some (.int (nI (sp_jm T c i p &&& e))) ∧ M' = (ab_S nr h g rr)) := by
  refine ab_C_of (by decide +kernel) rfl (Nat.le_of_ble_eq_true rfl) ?_
  refine ab_iconst (v := 0) de_M_jumpsFrom_0 rfl ?_
  refine ab_istore (L' := [(5, .int (0 : Int32)), (0, .ref 30), (1, .int (nI c)), (2, .int (nI p)), (3, .int (nI i)), (4, .int (nI e))]) de_M_jumpsFrom_1 (by decide) rfl ?_
  refine ab_iconst (v := 0) de_M_jumpsFrom_3 rfl ?_
  refine ab_istore (L' := [(6, .int (0 : Int32)), (5, .int (0 : Int32)), (0, .ref 30), (1, .int (nI c)), (2, .int (nI p)), (3, .int (nI i)), (4, .int (nI e))]) de_M_jumpsFrom_4 (by decide) rfl ?_
  refine ab_sub (L' := [(0, .ref 30), (1, .int (nI c)), (2, .int (nI p)), (3, .int (nI i)), (4, .int (nI e)), (5, .int (nI (sp_or (fun k => if c.testBit (3 + k) = true then sp_bh T k (T k p &&& i) else 0) 0))), (6, .int (nI 0))]) [2, 3, 4, 5, 6, 1, 0] rfl ?_
  exact lp_M_jumps_k l d nr h g rr hTM hO hc hp hi 4 0 (by omega) (by omega)
/-- a jump is let, seen from the pieces that go -/
theorem md_and0 {a b : Nat} (ha : a < 4096) : ¬ a &&& b = 0 ↔ ∃ r, r < 12 ∧ a.testBit r = true ∧ b.testBit r = true := by
  rw [← ne_eq, sp_ne0 (sp_andlt ha)]
  constructor
  · rintro ⟨r, h1, h2⟩
    rw [Nat.testBit_and, Bool.and_eq_true] at h2
    exact ⟨r, h1, h2⟩
  · rintro ⟨r, h1, h2, h3⟩
    exact ⟨r, h1, by rw [Nat.testBit_and, h2, h3]; rfl⟩
def md_jp (T : Nat → Nat → Nat) (c m i p : Nat) : Bool := m.testBit p && !decide (sp_jm T c i p &&& ab_no (m ||| i) = 0)
def md_sp (T : Nat → Nat → Nat) (c m i p : Nat) : Bool := m.testBit p && !decide (sp_st T c p &&& ab_no (m ||| i) = 0)
theorem md_lj {T : Nat → Nat → Nat} (hO : sp_ok T) {c m i : Nat} (hm : m < 4096) : sp_lj T c m i = sp_any (md_jp T c m i) 12 := by
  apply Bool.eq_iff_iff.mpr
  unfold sp_lj
  rw [sp_any_iff, sp_any_iff]
  constructor
  · rintro ⟨k, hk, h⟩
    obtain ⟨q, hq, h⟩ := (sp_any_iff _ _).mp h
    unfold sp_ja at h
    simp only [Bool.and_eq_true, Bool.not_eq_true', decide_eq_false_iff_not] at h
    obtain ⟨h1, h2, h3, h4⟩ := h
    obtain ⟨p, hp, p1, p2⟩ := (md_and0 (hO.lt hk hq)).mp h3
    obtain ⟨r, hr, r1, r2⟩ := (md_and0 (hO.lt hk hq)).mp h4
    refine ⟨p, hp, ?_⟩
    unfold md_jp
    rw [p2, Bool.true_and, Bool.not_eq_true', decide_eq_false_iff_not]
    refine (md_and0 (sp_jm_lt hO c i p)).mpr ⟨r, hr, ?_, r2⟩
    unfold sp_jm
    rw [sp_or_bit, sp_any_iff]
    refine ⟨k, hk, ?_⟩
    try dsimp only
    rw [if_pos h1]
    unfold sp_bh
    rw [sp_or_bit, sp_any_iff]
    refine ⟨q, hq, ?_⟩
    try dsimp only
    rw [Nat.testBit_and, hO.2 k p q hk hp hq, p1, h2]
    exact r1
  · rintro ⟨p, hp, h⟩
    unfold md_jp at h
    simp only [Bool.and_eq_true, Bool.not_eq_true', decide_eq_false_iff_not] at h
    obtain ⟨h1, h2⟩ := h
    obtain ⟨r, hr, r1, r2⟩ := (md_and0 (sp_jm_lt hO c i p)).mp h2
    unfold sp_jm at r1
    rw [sp_or_bit, sp_any_iff] at r1
    obtain ⟨k, hk, r1⟩ := r1
    try dsimp only at r1
    by_cases hck : c.testBit (3 + k) = true
    · rw [if_pos hck] at r1
      unfold sp_bh at r1
      rw [sp_or_bit, sp_any_iff] at r1
      obtain ⟨q, hq, r1⟩ := r1
      try dsimp only at r1
      by_cases hb : (T k p &&& i).testBit q = true
      · rw [if_pos hb] at r1
        rw [Nat.testBit_and, Bool.and_eq_true] at hb
        refine ⟨k, hk, (sp_any_iff _ _).mpr ⟨q, hq, ?_⟩⟩
        unfold sp_ja
        rw [hck, hb.2, Bool.true_and, Bool.true_and, Bool.and_eq_true, Bool.not_eq_true', Bool.not_eq_true', decide_eq_false_iff_not, decide_eq_false_iff_not]
        exact ⟨(md_and0 (hO.lt hk hq)).mpr ⟨p, hp, by rw [← hO.2 k p q hk hp hq]; exact hb.1, h1⟩, (md_and0 (hO.lt hk hq)).mpr ⟨r, hr, r1, r2⟩⟩
      · rw [if_neg hb, Nat.zero_testBit] at r1
        cases r1
    · rw [if_neg hck, Nat.zero_testBit] at r1
      cases r1
theorem md_ls {T : Nat → Nat → Nat} (hO : sp_ok T) {c m i : Nat} : sp_ls T c m i = sp_any (md_sp T c m i) 12 := by
  apply Bool.eq_iff_iff.mpr
  unfold sp_ls
  rw [sp_any_iff, sp_any_iff]
  constructor
  · rintro ⟨k, hk, h⟩
    obtain ⟨p, hp, h⟩ := (sp_any_iff _ _).mp h
    unfold sp_sa at h
    simp only [Bool.and_eq_true, Bool.not_eq_true', decide_eq_false_iff_not] at h
    obtain ⟨h1, h2, h3⟩ := h
    obtain ⟨r, hr, r1, r2⟩ := (md_and0 (hO.lt hk hp)).mp h3
    refine ⟨p, hp, ?_⟩
    unfold md_sp
    rw [h2, Bool.true_and, Bool.not_eq_true', decide_eq_false_iff_not]
    refine (md_and0 (sp_ls_lt hO c hp)).mpr ⟨r, hr, ?_, r2⟩
    rw [sp_st_bit, sp_any_iff]
    exact ⟨k, hk, by rw [h1, r1]; rfl⟩
  · rintro ⟨p, hp, h⟩
    unfold md_sp at h
    simp only [Bool.and_eq_true, Bool.not_eq_true', decide_eq_false_iff_not] at h
    obtain ⟨h1, h2⟩ := h
    obtain ⟨r, hr, r1, r2⟩ := (md_and0 (sp_ls_lt hO c hp)).mp h2
    rw [sp_st_bit, sp_any_iff] at r1
    obtain ⟨k, hk, r1⟩ := r1
    try dsimp only at r1
    rw [Bool.and_eq_true] at r1
    refine ⟨k, hk, (sp_any_iff _ _).mpr ⟨p, hp, ?_⟩⟩
    unfold sp_sa
    rw [r1.1, h1, Bool.true_and, Bool.true_and, Bool.not_eq_true', decide_eq_false_iff_not]
    exact (md_and0 (hO.lt hk hp)).mpr ⟨r, hr, r1.2, r2⟩
theorem md_lj0 {T : Nat → Nat → Nat} {c m i : Nat} (hc : c < 4096) (h : c &&& 56 = 0) : sp_lj T c m i = false := by
  unfold sp_lj
  refine (sp_any_no _ _).mpr (fun k hk => (sp_any_no _ _).mpr (fun q _ => ?_))
  unfold sp_ja
  have e : c.testBit (3 + k) = false := by
    have h1 : (c &&& 56).testBit (3 + k) = false := by rw [h, Nat.zero_testBit]
    rw [Nat.testBit_and] at h1
    have h2 : (56 : Nat).testBit (3 + k) = true := by rcases (by omega : k = 0 ∨ k = 1 ∨ k = 2) with rfl | rfl | rfl <;> rfl
    rw [h2, Bool.and_true] at h1
    exact h1
  rw [e]
  rfl
set_option maxHeartbeats 1000000 in
set_option maxRecDepth 10000 in
theorem lp_M_hasJump (l : Launch) (d : Nat) (nr : Nat) (h : Nat → Nat → Int32) (g : Nat → Nat → Int64) (rr : Nat → Option Nat) {T : Nat → Nat → Nat} (hTM : bo_T T h 32) (hO : sp_ok T) {c m i : Nat} (hc : c < 4096) (hm : m < 4096) (hi : i < 4096) : ∀ fu_ p, p ≤ 12 → 12 < p + fu_ → (∀ j, j < p → md_jp T c m i j = false) → ab_G l none am_M_hasJump (d + 1) 0 0 23 [(0, .ref 30), (1, .int (nI c)), (2, .int (nI m)), (3, .int (nI i)), (4, .int (nI (ab_no (m ||| i)))), (5, .int (nI p))] [] (ab_S nr h g rr) (fun (r_ : Option Value) (M' : ab_Me) => r_ = some (.int (ab_bz (sp_lj T c m i))) ∧ M' = (ab_S nr h g rr)) := by
  intro fu_
  induction fu_ with
  | zero => intro p h1 h2; omega
  | succ fu_ ih =>
    intro p hp12 hpn hf0_
    refine ab_iload de_M_hasJump_23 5 rfl ?_
    refine ab_bipush (v := 12) de_M_hasJump_25 rfl ?_
    refine ab_icmp_ge (tgt := 61) de_M_hasJump_27 rfl (fun c_27_1 => ?_) (fun c_27_1 => ?_)
    · have hp := ab_le_of (n := 12) (by decide) (by omega) rfl c_27_1
      refine ab_iconst (v := 0) de_M_hasJump_61 rfl ?_
      exact ab_ret (v := some (.int (0 : Int32))) de_M_hasJump_62 ⟨_, rfl, rfl⟩ ⟨congrArg (fun z => some (Value.int z)) (ab_bz_f (by rw [md_lj hO hm]; exact (sp_any_no _ _).mpr (fun j hj => hf0_ j (by omega)))), rfl⟩
    · have hp := ab_nle_of (n := 12) (by decide) (by omega) rfl c_27_1
      refine ab_iload_n de_M_hasJump_30 2 rfl ?_
      refine ab_iload de_M_hasJump_31 5 rfl ?_
      refine ab_ishr de_M_hasJump_33 ?_
      refine ab_top (v' := nI (m >>> p)) (ab_shr (by omega) (by omega)) ?_
      refine ab_iconst (v := 1) de_M_hasJump_34 rfl ?_
      refine ab_iand de_M_hasJump_35 ?_
      refine ab_top (v' := nI (m.testBit p).toNat) ((ab_and _ 1).trans (congrArg nI (sp_bit1 _ _))) ?_
      refine ab_iconst (v := 1) de_M_hasJump_36 rfl ?_
      refine ab_icmp_ne (tgt := 55) de_M_hasJump_37 rfl (fun c_37_2 => ?_) (fun c_37_2 => ?_)
      · refine ab_iinc (v := nI (p + 1)) (L' := [(5, .int (nI (p + 1))), (0, .ref 30), (1, .int (nI c)), (2, .int (nI m)), (3, .int (nI i)), (4, .int (nI (ab_no (m ||| i))))]) de_M_hasJump_55 5 rfl (by rw [show Int32.ofInt 1 = nI 1 from rfl, ab_add]) (by decide) rfl ?_
        refine ab_goto (tgt := 23) de_M_hasJump_58 rfl ?_
        refine ab_sub (L' := [(0, .ref 30), (1, .int (nI c)), (2, .int (nI m)), (3, .int (nI i)), (4, .int (nI (ab_no (m ||| i)))), (5, .int (nI (p + 1)))]) [1, 2, 3, 4, 5, 0] rfl ?_
        exact ih (p + 1) (by omega) (by omega) (fun j hj => by
          by_cases q : j = p
          · rw [q]; unfold md_jp; rw [sp_b1n c_37_2]; rfl
          · exact hf0_ j (by omega))
      · refine ab_aload_n de_M_hasJump_40 0 rfl ?_
        refine ab_iload_n de_M_hasJump_41 1 rfl ?_
        refine ab_iload de_M_hasJump_42 5 rfl ?_
        refine ab_iload_n de_M_hasJump_44 3 rfl ?_
        refine ab_iload de_M_hasJump_45 4 rfl ?_
        refine ab_cV (as := [.int (nI c), .int (nI p), .int (nI i), .int (nI (ab_no (m ||| i)))]) (st := []) (ct_M_jumpsFrom l _ nr h g rr hTM hO (c := c) (p := p) (i := i) (e := (ab_no (m ||| i))) hc (by omega) hi) mo_M_jumpsFrom mi_M_jumpsFrom ml_M_180 rfl (by decide) rfl rfl rfl (Nat.le_of_ble_eq_true rfl) de_M_hasJump_47 (fun v_ M_ hK_ hl_ hv_ => ?_)
        obtain ⟨rfl, hm_⟩ := hK_
        have hm_ := hm_.symm
        subst hm_
        change ab_G _ _ _ _ _ _ _ [(0, .ref 30), (1, .int (nI c)), (2, .int (nI m)), (3, .int (nI i)), (4, .int (nI (ab_no (m ||| i)))), (5, .int (nI p))] [.int (nI (sp_jm T c i p &&& (ab_no (m ||| i))))] (ab_S nr h g rr) _
        refine ab_if_eq (tgt := 55) de_M_hasJump_50 rfl (fun c_50_3 => ?_) (fun c_50_3 => ?_)
        · refine ab_iinc (v := nI (p + 1)) (L' := [(5, .int (nI (p + 1))), (0, .ref 30), (1, .int (nI c)), (2, .int (nI m)), (3, .int (nI i)), (4, .int (nI (ab_no (m ||| i))))]) de_M_hasJump_55 5 rfl (by rw [show Int32.ofInt 1 = nI 1 from rfl, ab_add]) (by decide) rfl ?_
          refine ab_goto (tgt := 23) de_M_hasJump_58 rfl ?_
          refine ab_sub (L' := [(0, .ref 30), (1, .int (nI c)), (2, .int (nI m)), (3, .int (nI i)), (4, .int (nI (ab_no (m ||| i)))), (5, .int (nI (p + 1)))]) [1, 2, 3, 4, 5, 0] rfl ?_
          exact ih (p + 1) (by omega) (by omega) (fun j hj => by
            by_cases q : j = p
            · rw [q]; unfold md_jp; rw [decide_eq_true ((sp_z (sp_andlt (sp_jm_lt hO c i p))).mp c_50_3)]; simp
            · exact hf0_ j (by omega))
        · refine ab_iconst (v := 1) de_M_hasJump_53 rfl ?_
          exact ab_ret (v := some (.int (1 : Int32))) de_M_hasJump_54 ⟨_, rfl, rfl⟩ ⟨congrArg (fun z => some (Value.int z)) (ab_bz_t (by rw [md_lj hO hm]; exact (sp_any_iff _ _).mpr ⟨p, hp, by unfold md_jp; rw [(sp_b1 _).mp c_37_2, decide_eq_false (ts_z (sp_andlt (sp_jm_lt hO c i p)) c_50_3)]; rfl⟩)), rfl⟩
set_option maxHeartbeats 1000000 in
set_option maxRecDepth 10000 in
theorem ct_M_hasJump (l : Launch) (d : Nat) (nr : Nat) (h : Nat → Nat → Int32) (g : Nat → Nat → Int64) (rr : Nat → Option Nat) {T : Nat → Nat → Nat} (hTM : bo_T T h 32) (hO : sp_ok T) {c m i : Nat} (hc : c < 4096) (hm : m < 4096) (hi : i < 4096) : ab_C l am_M_hasJump (d + 1) 0 0 [.ref 30, .int (nI c), .int (nI m), .int (nI i)] (ab_S nr h g rr) (fun (r_ : Option Value) (M' : ab_Me) => r_ = some (.int (ab_bz (sp_lj T c m i))) ∧ M' = (ab_S nr h g rr)) := by
  refine ab_C_of (by decide +kernel) rfl (Nat.le_of_ble_eq_true rfl) ?_
  refine ab_sipush (v := 4095) de_M_hasJump_0 rfl ?_
  refine ab_iload_n de_M_hasJump_3 2 rfl ?_
  refine ab_iload_n de_M_hasJump_4 3 rfl ?_
  refine ab_ior de_M_hasJump_5 ?_
  refine ab_top (v' := nI (m ||| i)) (ab_or _ _) ?_
  refine ab_iconst (v := -1) de_M_hasJump_6 rfl ?_
  refine ab_ixor de_M_hasJump_7 ?_
  refine ab_iand de_M_hasJump_8 ?_
  refine ab_top (v' := nI (ab_no (m ||| i))) (ab_not _) ?_
  refine ab_istore (L' := [(4, .int (nI (ab_no (m ||| i)))), (0, .ref 30), (1, .int (nI c)), (2, .int (nI m)), (3, .int (nI i))]) de_M_hasJump_9 (by decide) rfl ?_
  refine ab_iload_n de_M_hasJump_11 2 rfl ?_
  refine ab_bipush (v := 56) de_M_hasJump_12 rfl ?_
  refine ab_iand de_M_hasJump_14 ?_
  refine ab_top (v' := nI (c &&& 56)) (ab_and _ _) ?_
  refine ab_if_ne (tgt := 20) de_M_hasJump_15 rfl (fun c_15_1 => ?_) (fun c_15_1 => ?_)
  · refine ab_iconst (v := 0) de_M_hasJump_20 rfl ?_
    refine ab_istore (L' := [(5, .int (0 : Int32)), (4, .int (nI (ab_no (m ||| i)))), (0, .ref 30), (1, .int (nI c)), (2, .int (nI m)), (3, .int (nI i))]) de_M_hasJump_21 (by decide) rfl ?_
    refine ab_sub (L' := [(0, .ref 30), (1, .int (nI c)), (2, .int (nI m)), (3, .int (nI i)), (4, .int (nI (ab_no (m ||| i)))), (5, .int (nI 0))]) [2, 3, 4, 5, 1, 0] rfl ?_
    exact lp_M_hasJump l d nr h g rr hTM hO hc hm hi 13 0 (by omega) (by omega) (fun j hj => absurd hj (Nat.not_lt_zero j))
  · refine ab_iconst (v := 0) de_M_hasJump_18 rfl ?_
    exact ab_ret (v := some (.int (0 : Int32))) de_M_hasJump_19 ⟨_, rfl, rfl⟩ ⟨congrArg (fun z => some (Value.int z)) (ab_bz_f (md_lj0 hc ((sp_z (sp_andlt hc)).mp c_15_1))), rfl⟩
set_option maxHeartbeats 1000000 in
set_option maxRecDepth 10000 in
theorem lp_M_hasStep (l : Launch) (d : Nat) (nr : Nat) (h : Nat → Nat → Int32) (g : Nat → Nat → Int64) (rr : Nat → Option Nat) {T : Nat → Nat → Nat} (hTM : bo_T T h 32) (hO : sp_ok T) {c m i : Nat} (hc : c < 4096) (hm : m < 4096) (hi : i < 4096) : ∀ fu_ p, p ≤ 12 → 12 < p + fu_ → (∀ j, j < p → md_sp T c m i j = false) → ab_G l none am_M_hasStep (d + 1) 0 0 14 [(0, .ref 30), (1, .int (nI c)), (2, .int (nI m)), (3, .int (nI i)), (4, .int (nI (ab_no (m ||| i)))), (5, .int (nI p))] [] (ab_S nr h g rr) (fun (r_ : Option Value) (M' : ab_Me) => r_ = some (.int (ab_bz (sp_ls T c m i))) ∧ M' = (ab_S nr h g rr)) := by
  intro fu_
  induction fu_ with
  | zero => intro p h1 h2; omega
  | succ fu_ ih =>
    intro p hp12 hpn hf0_
    refine ab_iload de_M_hasStep_14 5 rfl ?_
    refine ab_bipush (v := 12) de_M_hasStep_16 rfl ?_
    refine ab_icmp_ge (tgt := 51) de_M_hasStep_18 rfl (fun c_18_1 => ?_) (fun c_18_1 => ?_)
    · have hp := ab_le_of (n := 12) (by decide) (by omega) rfl c_18_1
      refine ab_iconst (v := 0) de_M_hasStep_51 rfl ?_
      exact ab_ret (v := some (.int (0 : Int32))) de_M_hasStep_52 ⟨_, rfl, rfl⟩ ⟨congrArg (fun z => some (Value.int z)) (ab_bz_f (by rw [md_ls hO]; exact (sp_any_no _ _).mpr (fun j hj => hf0_ j (by omega)))), rfl⟩
    · have hp := ab_nle_of (n := 12) (by decide) (by omega) rfl c_18_1
      refine ab_iload_n de_M_hasStep_21 2 rfl ?_
      refine ab_iload de_M_hasStep_22 5 rfl ?_
      refine ab_ishr de_M_hasStep_24 ?_
      refine ab_top (v' := nI (m >>> p)) (ab_shr (by omega) (by omega)) ?_
      refine ab_iconst (v := 1) de_M_hasStep_25 rfl ?_
      refine ab_iand de_M_hasStep_26 ?_
      refine ab_top (v' := nI (m.testBit p).toNat) ((ab_and _ 1).trans (congrArg nI (sp_bit1 _ _))) ?_
      refine ab_iconst (v := 1) de_M_hasStep_27 rfl ?_
      refine ab_icmp_ne (tgt := 45) de_M_hasStep_28 rfl (fun c_28_2 => ?_) (fun c_28_2 => ?_)
      · refine ab_iinc (v := nI (p + 1)) (L' := [(5, .int (nI (p + 1))), (0, .ref 30), (1, .int (nI c)), (2, .int (nI m)), (3, .int (nI i)), (4, .int (nI (ab_no (m ||| i))))]) de_M_hasStep_45 5 rfl (by rw [show Int32.ofInt 1 = nI 1 from rfl, ab_add]) (by decide) rfl ?_
        refine ab_goto (tgt := 14) de_M_hasStep_48 rfl ?_
        refine ab_sub (L' := [(0, .ref 30), (1, .int (nI c)), (2, .int (nI m)), (3, .int (nI i)), (4, .int (nI (ab_no (m ||| i)))), (5, .int (nI (p + 1)))]) [1, 2, 3, 4, 5, 0] rfl ?_
        exact ih (p + 1) (by omega) (by omega) (fun j hj => by
          by_cases q : j = p
          · rw [q]; unfold md_sp; rw [sp_b1n c_28_2]; rfl
          · exact hf0_ j (by omega))
      · refine ab_aload_n de_M_hasStep_31 0 rfl ?_
        refine ab_iload_n de_M_hasStep_32 1 rfl ?_
        refine ab_iload de_M_hasStep_33 5 rfl ?_
        refine ab_iload de_M_hasStep_35 4 rfl ?_
        refine ab_cV (as := [.int (nI c), .int (nI p), .int (nI (ab_no (m ||| i)))]) (st := []) (ct_M_stepsFrom l _ nr h g rr hTM hO (c := c) (p := p) (e := (ab_no (m ||| i))) hc (by omega)) mo_M_stepsFrom mi_M_stepsFrom ml_M_184 rfl (by decide) rfl rfl rfl (Nat.le_of_ble_eq_true rfl) de_M_hasStep_37 (fun v_ M_ hK_ hl_ hv_ => ?_)
        obtain ⟨rfl, hm_⟩ := hK_
        have hm_ := hm_.symm
        subst hm_
        change ab_G _ _ _ _ _ _ _ [(0, .ref 30), (1, .int (nI c)), (2, .int (nI m)), (3, .int (nI i)), (4, .int (nI (ab_no (m ||| i)))), (5, .int (nI p))] [.int (nI (sp_st T c p &&& (ab_no (m ||| i))))] (ab_S nr h g rr) _
        refine ab_if_eq (tgt := 45) de_M_hasStep_40 rfl (fun c_40_3 => ?_) (fun c_40_3 => ?_)
        · refine ab_iinc (v := nI (p + 1)) (L' := [(5, .int (nI (p + 1))), (0, .ref 30), (1, .int (nI c)), (2, .int (nI m)), (3, .int (nI i)), (4, .int (nI (ab_no (m ||| i))))]) de_M_hasStep_45 5 rfl (by rw [show Int32.ofInt 1 = nI 1 from rfl, ab_add]) (by decide) rfl ?_
          refine ab_goto (tgt := 14) de_M_hasStep_48 rfl ?_
          refine ab_sub (L' := [(0, .ref 30), (1, .int (nI c)), (2, .int (nI m)), (3, .int (nI i)), (4, .int (nI (ab_no (m ||| i)))), (5, .int (nI (p + 1)))]) [1, 2, 3, 4, 5, 0] rfl ?_
          exact ih (p + 1) (by omega) (by omega) (fun j hj => by
            by_cases q : j = p
            · rw [q]; unfold md_sp; rw [decide_eq_true ((sp_z (sp_andlt (sp_ls_lt hO c hp))).mp c_40_3)]; simp
            · exact hf0_ j (by omega))
        · refine ab_iconst (v := 1) de_M_hasStep_43 rfl ?_
          exact ab_ret (v := some (.int (1 : Int32))) de_M_hasStep_44 ⟨_, rfl, rfl⟩ ⟨congrArg (fun z => some (Value.int z)) (ab_bz_t (by rw [md_ls hO]; exact (sp_any_iff _ _).mpr ⟨p, hp, by unfold md_sp; rw [(sp_b1 _).mp c_28_2, decide_eq_false (ts_z (sp_andlt (sp_ls_lt hO c hp)) c_40_3)]; rfl⟩)), rfl⟩
set_option maxHeartbeats 1000000 in
set_option maxRecDepth 10000 in
theorem ct_M_hasStep (l : Launch) (d : Nat) (nr : Nat) (h : Nat → Nat → Int32) (g : Nat → Nat → Int64) (rr : Nat → Option Nat) {T : Nat → Nat → Nat} (hTM : bo_T T h 32) (hO : sp_ok T) {c m i : Nat} (hc : c < 4096) (hm : m < 4096) (hi : i < 4096) : ab_C l am_M_hasStep (d + 1) 0 0 [.ref 30, .int (nI c), .int (nI m), .int (nI i)] (ab_S nr h g rr) (fun (r_ : Option Value) (M' : ab_Me) => r_ = some (.int (ab_bz (sp_ls T c m i))) ∧ M' = (ab_S nr h g rr)) := by
  refine ab_C_of (by decide +kernel) rfl (Nat.le_of_ble_eq_true rfl) ?_
  refine ab_sipush (v := 4095) de_M_hasStep_0 rfl ?_
  refine ab_iload_n de_M_hasStep_3 2 rfl ?_
  refine ab_iload_n de_M_hasStep_4 3 rfl ?_
  refine ab_ior de_M_hasStep_5 ?_
  refine ab_top (v' := nI (m ||| i)) (ab_or _ _) ?_
  refine ab_iconst (v := -1) de_M_hasStep_6 rfl ?_
  refine ab_ixor de_M_hasStep_7 ?_
  refine ab_iand de_M_hasStep_8 ?_
  refine ab_top (v' := nI (ab_no (m ||| i))) (ab_not _) ?_
  refine ab_istore (L' := [(4, .int (nI (ab_no (m ||| i)))), (0, .ref 30), (1, .int (nI c)), (2, .int (nI m)), (3, .int (nI i))]) de_M_hasStep_9 (by decide) rfl ?_
  refine ab_iconst (v := 0) de_M_hasStep_11 rfl ?_
  refine ab_istore (L' := [(5, .int (0 : Int32)), (4, .int (nI (ab_no (m ||| i)))), (0, .ref 30), (1, .int (nI c)), (2, .int (nI m)), (3, .int (nI i))]) de_M_hasStep_12 (by decide) rfl ?_
  refine ab_sub (L' := [(0, .ref 30), (1, .int (nI c)), (2, .int (nI m)), (3, .int (nI i)), (4, .int (nI (ab_no (m ||| i)))), (5, .int (nI 0))]) [2, 3, 4, 5, 1, 0] rfl ?_
  exact lp_M_hasStep l d nr h g rr hTM hO hc hm hi 13 0 (by omega) (by omega) (fun j hj => absurd hj (Nat.not_lt_zero j))
