/-! RULES: price, parts, kind; acts and their trace -/
def sp_pr (c : Nat) : Nat := 2 * sp_cn (c &&& 71) + 3 * sp_cn (c &&& 56) + sp_cn (c &&& 896) + (if c / 1024 = 0 then 0 else 2)
def sp_pc (c : Nat) : Nat := sp_cn (c &&& 1023) + (if c / 1024 = 0 then 0 else 1)
def sp_kd (c : Nat) : Nat := if ¬ sp_pc c = 1 then 7 else if ¬ c &&& 7 = 0 then 1 else if ¬ c &&& 56 = 0 then 2 else if c = 64 then 3 else if c = 128 then 4 else if c = 256 then 5 else 6
theorem sp_10 {c : Nat} (hc : c < 4096) : nI c >>> ((10 : Int32) &&& (31 : Int32)) = nI (c / 1024) := (ab_shr (k := 10) (by omega) (by decide)).trans (by rw [sp_sr])
theorem sp_z10 {c : Nat} (hc : c < 4096) : nI (c / 1024) = 0 ↔ c / 1024 = 0 := ab_inj (b := 0) (by omega) (by decide)
theorem sp_pr1 {a b d : Nat} : (2 : Int32) * nI a + (3 : Int32) * nI b + nI d = nI (2 * a + 3 * b + d) := by
  rw [show (2 : Int32) = nI 2 from rfl, show (3 : Int32) = nI 3 from rfl, ab_mul, ab_mul, ab_add, ab_add]
set_option maxHeartbeats 1000000 in
set_option maxRecDepth 10000 in
theorem ct_R_priceOf (l : Launch) (d : Nat) (M : ab_Me) {c : Nat} (hc : c < 4096) : ab_C l am_R_priceOf (d + 1) 0 0 [.int (nI c)] M (fun (r_ : Option Value) (M' : ab_Me) => r_ = some (.int (nI (sp_pr c))) ∧ M' = M) := by
  refine ab_C_of (by decide +kernel) rfl (Nat.le_of_ble_eq_true rfl) ?_
  refine ab_iconst (v := 2) de_R_priceOf_0 rfl ?_
  refine ab_iload_n de_R_priceOf_1 0 rfl ?_
  refine ab_bipush (v := 71) de_R_priceOf_2 rfl ?_
  refine ab_iand de_R_priceOf_4 ?_
  refine ab_top (v' := nI (c &&& 71)) (ab_and c 71) ?_
  refine ab_cS (as := [.int (nI (c &&& 71))]) (st := [.int (2 : Int32)]) (ct_I_bitCount l _ M (m := c &&& 71) (Nat.lt_of_le_of_lt Nat.and_le_right (by decide))) mo_I_bitCount ms_I_bitCount ml_R_35 rfl rfl (Nat.le_of_ble_eq_true rfl) de_R_priceOf_5 (fun v_ M_ hK_ hl_ hv_ => ?_)
  obtain ⟨rfl, hm_⟩ := hK_
  have hm_ := hm_.symm
  subst hm_
  change ab_G _ _ _ _ _ _ _ [(0, .int (nI c))] [.int (nI (sp_cn (c &&& 71))), .int (2 : Int32)] M _
  refine ab_imul de_R_priceOf_8 ?_
  refine ab_iconst (v := 3) de_R_priceOf_9 rfl ?_
  refine ab_iload_n de_R_priceOf_10 0 rfl ?_
  refine ab_bipush (v := 56) de_R_priceOf_11 rfl ?_
  refine ab_iand de_R_priceOf_13 ?_
  refine ab_top (v' := nI (c &&& 56)) (ab_and c 56) ?_
  refine ab_cS (as := [.int (nI (c &&& 56))]) (st := [.int (3 : Int32), .int ((2 : Int32) * (nI (sp_cn (c &&& 71))))]) (ct_I_bitCount l _ M (m := c &&& 56) (Nat.lt_of_le_of_lt Nat.and_le_right (by decide))) mo_I_bitCount ms_I_bitCount ml_R_35 rfl rfl (Nat.le_of_ble_eq_true rfl) de_R_priceOf_14 (fun v_ M_ hK_ hl_ hv_ => ?_)
  obtain ⟨rfl, hm_⟩ := hK_
  have hm_ := hm_.symm
  subst hm_
  change ab_G _ _ _ _ _ _ _ [(0, .int (nI c))] [.int (nI (sp_cn (c &&& 56))), .int (3 : Int32), .int ((2 : Int32) * (nI (sp_cn (c &&& 71))))] M _
  refine ab_imul de_R_priceOf_17 ?_
  refine ab_iadd de_R_priceOf_18 ?_
  refine ab_iload_n de_R_priceOf_19 0 rfl ?_
  refine ab_sipush (v := 896) de_R_priceOf_20 rfl ?_
  refine ab_iand de_R_priceOf_23 ?_
  refine ab_top (v' := nI (c &&& 896)) (ab_and c 896) ?_
  refine ab_cS (as := [.int (nI (c &&& 896))]) (st := [.int (((2 : Int32) * (nI (sp_cn (c &&& 71)))) + ((3 : Int32) * (nI (sp_cn (c &&& 56)))))]) (ct_I_bitCount l _ M (m := c &&& 896) (Nat.lt_of_le_of_lt Nat.and_le_right (by decide))) mo_I_bitCount ms_I_bitCount ml_R_35 rfl rfl (Nat.le_of_ble_eq_true rfl) de_R_priceOf_24 (fun v_ M_ hK_ hl_ hv_ => ?_)
  obtain ⟨rfl, hm_⟩ := hK_
  have hm_ := hm_.symm
  subst hm_
  change ab_G _ _ _ _ _ _ _ [(0, .int (nI c))] [.int (nI (sp_cn (c &&& 896))), .int (((2 : Int32) * (nI (sp_cn (c &&& 71)))) + ((3 : Int32) * (nI (sp_cn (c &&& 56)))))] M _
  refine ab_iadd de_R_priceOf_27 ?_
  refine ab_istore_n (L' := [(1, .int ((((2 : Int32) * (nI (sp_cn (c &&& 71)))) + ((3 : Int32) * (nI (sp_cn (c &&& 56))))) + (nI (sp_cn (c &&& 896))))), (0, .int (nI c))]) de_R_priceOf_28 (by decide) rfl ?_
  refine ab_iload_n de_R_priceOf_29 1 rfl ?_
  refine ab_bipush (v := 10) de_R_priceOf_30 rfl ?_
  refine ab_ishr de_R_priceOf_32 ?_
  refine ab_top (v' := nI (c / 1024)) (sp_10 hc) ?_
  refine ab_if_ne (tgt := 40) de_R_priceOf_33 rfl (fun c_33_1 => ?_) (fun c_33_1 => ?_)
  · refine ab_iload_n de_R_priceOf_40 0 rfl ?_
    refine ab_iconst (v := 2) de_R_priceOf_41 rfl ?_
    refine ab_iadd de_R_priceOf_42 ?_
    exact ab_ret (v := some (.int (((((2 : Int32) * (nI (sp_cn (c &&& 71)))) + ((3 : Int32) * (nI (sp_cn (c &&& 56))))) + (nI (sp_cn (c &&& 896)))) + (2 : Int32)))) de_R_priceOf_43 ⟨_, rfl⟩ ⟨congrArg (fun z => some (Value.int z)) (by rw [sp_pr1, show (2 : Int32) = nI 2 from rfl, ab_add]; unfold sp_pr; rw [if_neg (fun e => c_33_1 ((sp_z10 hc).mpr e))]), rfl⟩
  · refine ab_iload_n de_R_priceOf_36 0 rfl ?_
    refine ab_goto (tgt := 43) de_R_priceOf_37 rfl ?_
    exact ab_ret (v := some (.int ((((2 : Int32) * (nI (sp_cn (c &&& 71)))) + ((3 : Int32) * (nI (sp_cn (c &&& 56))))) + (nI (sp_cn (c &&& 896)))))) de_R_priceOf_43 ⟨_, rfl⟩ ⟨congrArg (fun z => some (Value.int z)) (by rw [sp_pr1]; unfold sp_pr; rw [if_pos ((sp_z10 hc).mp c_33_1)]; rfl), rfl⟩
set_option maxHeartbeats 1000000 in
set_option maxRecDepth 10000 in
theorem ct_R_partCount (l : Launch) (d : Nat) (M : ab_Me) {c : Nat} (hc : c < 4096) : ab_C l am_R_partCount (d + 1) 0 0 [.int (nI c)] M (fun (r_ : Option Value) (M' : ab_Me) => r_ = some (.int (nI (sp_pc c))) ∧ M' = M) := by
  refine ab_C_of (by decide +kernel) rfl (Nat.le_of_ble_eq_true rfl) ?_
  refine ab_iload_n de_R_partCount_0 0 rfl ?_
  refine ab_sipush (v := 1023) de_R_partCount_1 rfl ?_
  refine ab_iand de_R_partCount_4 ?_
  refine ab_top (v' := nI (c &&& 1023)) (ab_and c 1023) ?_
  refine ab_cS (as := [.int (nI (c &&& 1023))]) (st := []) (ct_I_bitCount l _ M (m := c &&& 1023) (Nat.lt_of_le_of_lt Nat.and_le_right (by decide))) mo_I_bitCount ms_I_bitCount ml_R_35 rfl rfl (Nat.le_of_ble_eq_true rfl) de_R_partCount_5 (fun v_ M_ hK_ hl_ hv_ => ?_)
  obtain ⟨rfl, hm_⟩ := hK_
  have hm_ := hm_.symm
  subst hm_
  change ab_G _ _ _ _ _ _ _ [(0, .int (nI c))] [.int (nI (sp_cn (c &&& 1023)))] M _
  refine ab_istore_n (L' := [(1, .int (nI (sp_cn (c &&& 1023)))), (0, .int (nI c))]) de_R_partCount_8 (by decide) rfl ?_
  refine ab_iload_n de_R_partCount_9 1 rfl ?_
  refine ab_bipush (v := 10) de_R_partCount_10 rfl ?_
  refine ab_ishr de_R_partCount_12 ?_
  refine ab_top (v' := nI (c / 1024)) (sp_10 hc) ?_
  refine ab_if_ne (tgt := 20) de_R_partCount_13 rfl (fun c_13_1 => ?_) (fun c_13_1 => ?_)
  · refine ab_iload_n de_R_partCount_20 0 rfl ?_
    refine ab_iconst (v := 1) de_R_partCount_21 rfl ?_
    refine ab_iadd de_R_partCount_22 ?_
    exact ab_ret (v := some (.int ((nI (sp_cn (c &&& 1023))) + (1 : Int32)))) de_R_partCount_23 ⟨_, rfl⟩ ⟨congrArg (fun z => some (Value.int z)) (by rw [show (1 : Int32) = nI 1 from rfl, ab_add]; unfold sp_pc; rw [if_neg (fun e => c_13_1 ((sp_z10 hc).mpr e))]), rfl⟩
  · refine ab_iload_n de_R_partCount_16 0 rfl ?_
    refine ab_goto (tgt := 23) de_R_partCount_17 rfl ?_
    exact ab_ret (v := some (.int (nI (sp_cn (c &&& 1023))))) de_R_partCount_23 ⟨_, rfl⟩ ⟨congrArg (fun z => some (Value.int z)) (by unfold sp_pc; rw [if_pos ((sp_z10 hc).mp c_13_1)]; rfl), rfl⟩
theorem sp_pc_le (c : Nat) : sp_pc c ≤ 13 := by
  unfold sp_pc
  have := sp_cn_le (c &&& 1023)
  split <;> omega
theorem sp_zk {c k : Nat} (hk : k < 4096) : nI (c &&& k) = 0 ↔ c &&& k = 0 := ab_inj (b := 0) (by have : c &&& k ≤ k := Nat.and_le_right; omega) (by decide)
set_option maxHeartbeats 1000000 in
set_option maxRecDepth 10000 in
theorem ct_R_kindOf (l : Launch) (d : Nat) (M : ab_Me) {c : Nat} (hc : c < 4096) : ab_C l am_R_kindOf (d + 2) 0 0 [.int (nI c)] M (fun (r_ : Option Value) (M' : ab_Me) => r_ = some (.int (nI (sp_kd c))) ∧ M' = M) := by
  refine ab_C_of (by decide +kernel) rfl (Nat.le_of_ble_eq_true rfl) ?_
  refine ab_iload_n de_R_kindOf_0 0 rfl ?_
  refine ab_cS (as := [.int (nI c)]) (st := []) (ct_R_partCount l _ M hc) mo_R_partCount ms_R_partCount ml_R_40 rfl rfl (Nat.le_of_ble_eq_true rfl) de_R_kindOf_1 (fun v_ M_ hK_ hl_ hv_ => ?_)
  obtain ⟨rfl, hm_⟩ := hK_
  have hm_ := hm_.symm
  subst hm_
  change ab_G _ _ _ _ _ _ _ [(0, .int (nI c))] [.int (nI (sp_pc c))] M _
  refine ab_iconst (v := 1) de_R_kindOf_4 rfl ?_
  refine ab_icmp_eq (tgt := 11) de_R_kindOf_5 rfl (fun c_5_1 => ?_) (fun c_5_1 => ?_)
  · refine ab_iload_n de_R_kindOf_11 0 rfl ?_
    refine ab_bipush (v := 7) de_R_kindOf_12 rfl ?_
    refine ab_iand de_R_kindOf_14 ?_
    refine ab_top (v' := nI (c &&& 7)) (ab_and c 7) ?_
    refine ab_if_eq (tgt := 20) de_R_kindOf_15 rfl (fun c_15_2 => ?_) (fun c_15_2 => ?_)
    · refine ab_iload_n de_R_kindOf_20 0 rfl ?_
      refine ab_bipush (v := 56) de_R_kindOf_21 rfl ?_
      refine ab_iand de_R_kindOf_23 ?_
      refine ab_top (v' := nI (c &&& 56)) (ab_and c 56) ?_
      refine ab_if_eq (tgt := 29) de_R_kindOf_24 rfl (fun c_24_3 => ?_) (fun c_24_3 => ?_)
      · refine ab_iload_n de_R_kindOf_29 0 rfl ?_
        by_cases c_30_4_0 : nI c = 64
        · refine ab_lookup (tgt := 64) de_R_kindOf_30 (by decide) (off := 34) (by rw [c_30_4_0]; rfl) rfl ?_
          refine ab_iconst (v := 3) de_R_kindOf_64 rfl ?_
          exact ab_ret (v := some (.int (3 : Int32))) de_R_kindOf_65 ⟨_, rfl⟩ ⟨congrArg (fun z => some (Value.int z)) (by unfold sp_kd; rw [if_neg (Classical.not_not.mpr ((ab_inj (b := 1) (by have := sp_pc_le c; omega) (by decide)).mp c_5_1)), if_neg (Classical.not_not.mpr ((sp_zk (by decide)).mp c_15_2)), if_neg (Classical.not_not.mpr ((sp_zk (by decide)).mp c_24_3)), if_pos ((ab_inj (b := 64) (by omega) (by decide)).mp c_30_4_0)]; rfl), rfl⟩
        by_cases c_30_4_1 : nI c = 128
        · refine ab_lookup (tgt := 66) de_R_kindOf_30 (by decide) (off := 36) (by rw [c_30_4_1]; rfl) rfl ?_
          refine ab_iconst (v := 4) de_R_kindOf_66 rfl ?_
          exact ab_ret (v := some (.int (4 : Int32))) de_R_kindOf_67 ⟨_, rfl⟩ ⟨congrArg (fun z => some (Value.int z)) (by unfold sp_kd; rw [if_neg (Classical.not_not.mpr ((ab_inj (b := 1) (by have := sp_pc_le c; omega) (by decide)).mp c_5_1)), if_neg (Classical.not_not.mpr ((sp_zk (by decide)).mp c_15_2)), if_neg (Classical.not_not.mpr ((sp_zk (by decide)).mp c_24_3)), if_neg (fun e => c_30_4_0 ((ab_inj (b := 64) (by omega) (by decide)).mpr e)), if_pos ((ab_inj (b := 128) (by omega) (by decide)).mp c_30_4_1)]; rfl), rfl⟩
        by_cases c_30_4_2 : nI c = 256
        · refine ab_lookup (tgt := 68) de_R_kindOf_30 (by decide) (off := 38) (by rw [c_30_4_2]; rfl) rfl ?_
          refine ab_iconst (v := 5) de_R_kindOf_68 rfl ?_
          exact ab_ret (v := some (.int (5 : Int32))) de_R_kindOf_69 ⟨_, rfl⟩ ⟨congrArg (fun z => some (Value.int z)) (by unfold sp_kd; rw [if_neg (Classical.not_not.mpr ((ab_inj (b := 1) (by have := sp_pc_le c; omega) (by decide)).mp c_5_1)), if_neg (Classical.not_not.mpr ((sp_zk (by decide)).mp c_15_2)), if_neg (Classical.not_not.mpr ((sp_zk (by decide)).mp c_24_3)), if_neg (fun e => c_30_4_0 ((ab_inj (b := 64) (by omega) (by decide)).mpr e)), if_neg (fun e => c_30_4_1 ((ab_inj (b := 128) (by omega) (by decide)).mpr e)), if_pos ((ab_inj (b := 256) (by omega) (by decide)).mp c_30_4_2)]; rfl), rfl⟩
        refine ab_lookup (tgt := 70) de_R_kindOf_30 (by decide) (off := 40) ((lv_osw c_30_4_0 rfl).trans ((lv_osw c_30_4_1 rfl).trans ((lv_osw c_30_4_2 rfl)))) rfl ?_
        refine ab_bipush (v := 6) de_R_kindOf_70 rfl ?_
        exact ab_ret (v := some (.int (6 : Int32))) de_R_kindOf_72 ⟨_, rfl⟩ ⟨congrArg (fun z => some (Value.int z)) (by unfold sp_kd; rw [if_neg (Classical.not_not.mpr ((ab_inj (b := 1) (by have := sp_pc_le c; omega) (by decide)).mp c_5_1)), if_neg (Classical.not_not.mpr ((sp_zk (by decide)).mp c_15_2)), if_neg (Classical.not_not.mpr ((sp_zk (by decide)).mp c_24_3)), if_neg (fun e => c_30_4_0 ((ab_inj (b := 64) (by omega) (by decide)).mpr e)), if_neg (fun e => c_30_4_1 ((ab_inj (b := 128) (by omega) (by decide)).mpr e)), if_neg (fun e => c_30_4_2 ((ab_inj (b := 256) (by omega) (by decide)).mpr e))]; rfl), rfl⟩
      · refine ab_iconst (v := 2) de_R_kindOf_27 rfl ?_
        exact ab_ret (v := some (.int (2 : Int32))) de_R_kindOf_28 ⟨_, rfl⟩ ⟨congrArg (fun z => some (Value.int z)) (by unfold sp_kd; rw [if_neg (Classical.not_not.mpr ((ab_inj (b := 1) (by have := sp_pc_le c; omega) (by decide)).mp c_5_1)), if_neg (Classical.not_not.mpr ((sp_zk (by decide)).mp c_15_2)), if_pos (fun e => c_24_3 ((sp_zk (by decide)).mpr e))]; rfl), rfl⟩
    · refine ab_iconst (v := 1) de_R_kindOf_18 rfl ?_
      exact ab_ret (v := some (.int (1 : Int32))) de_R_kindOf_19 ⟨_, rfl⟩ ⟨congrArg (fun z => some (Value.int z)) (by unfold sp_kd; rw [if_neg (Classical.not_not.mpr ((ab_inj (b := 1) (by have := sp_pc_le c; omega) (by decide)).mp c_5_1)), if_pos (fun e => c_15_2 ((sp_zk (by decide)).mpr e))]; rfl), rfl⟩
  · refine ab_bipush (v := 7) de_R_kindOf_8 rfl ?_
    exact ab_ret (v := some (.int (7 : Int32))) de_R_kindOf_10 ⟨_, rfl⟩ ⟨congrArg (fun z => some (Value.int z)) (by unfold sp_kd; rw [if_pos (fun e => c_5_1 (by rw [e]; rfl))]; rfl), rfl⟩
theorem ab_rk {nr j : Nat} (hj : j < nr) : (ab_K0 ++ List.replicate nr (0, 3))[51 + j]? = some (0, 3) := by
  rw [List.getElem?_append_right (by show 51 ≤ 51 + j; omega), show 51 + j - ab_K0.length = j by show 51 + j - 51 = j; omega, List.getElem?_replicate]
  simp [hj]
theorem ab_rkr {nr j : Nat} (hj : j < nr) (h : Nat → Nat → Int32) (g : Nat → Nat → Int64) (rr : Nat → Option Nat) : ab_rd (ab_S nr h g rr) (51 + j) 3 4 = .ref 13 := by
  show va_rf (ab_lay nr rr (51 + j) 4) = .ref 13
  have : ab_lay nr rr (51 + j) 4 = some 13 := by
    rw [show 51 + j = j + 51 by omega]
    show (if 51 ≤ j + 51 ∧ j + 51 < 51 + nr ∧ (4 : Nat) = 4 then some 13 else none) = some 13
    rw [if_pos ⟨by omega, by omega, rfl⟩]
  rw [this]
  rfl
/-- the trace so far -/
def tr_ok (h : Nat → Nat → Int32) (bs : List Int32) : Prop := h 13 0 = nI bs.length ∧ ∀ i b, bs[i]? = some b → h 13 (1 + i) = b
theorem tr_put {h : Nat → Nat → Int32} {bs : List Int32} (ht : tr_ok h bs) (b : Int32) : tr_ok (ab_u2 (ab_u2 h 13 (1 + bs.length) b) 13 0 (nI (bs.length + 1))) (bs ++ [b]) := by
  refine ⟨by rw [ab_u2_at, List.length_append]; rfl, fun i c hi => ?_⟩
  rw [ab_u2_ne (by omega)]
  by_cases e : i = bs.length
  · subst e
    rw [List.getElem?_append_right (Nat.le_refl _), Nat.sub_self] at hi
    cases hi
    exact ab_u2_at
  · rw [ab_u2_ne (by omega)]
    have hl : i < bs.length := by
      have h1 : i < (bs ++ [b]).length := (List.getElem?_eq_some_iff.mp hi).1
      rw [List.length_append] at h1
      simp at h1
      omega
    rw [List.getElem?_append_left hl] at hi
    exact ht.2 i c hi
theorem tr_1 (n : Nat) : (1 : Int32) + nI n = nI (1 + n) := ab_add 1 n
theorem tr_2 (n : Nat) : nI n + (1 : Int32) = nI (n + 1) := ab_add n 1
set_option maxHeartbeats 1000000 in
set_option maxRecDepth 10000 in
theorem ct_R_begins (l : Launch) (d : Nat) (nr : Nat) (h : Nat → Nat → Int32) (g : Nat → Nat → Int64) (rr : Nat → Option Nat) {j : Nat} (hj : j < nr) {bs : List Int32} (ht : tr_ok h bs) (hb : bs.length ≤ 12) (b : Int32) : ab_C l am_R_begins d 0 0 [.ref (51 + j), .int b] (ab_S nr h g rr) (fun (r_ : Option Value) (M' : ab_Me) => r_ = none ∧ ∃ h', M' = ab_S nr h' g rr ∧ (∀ a, a ≠ 13 → h' a = h a) ∧ tr_ok h' (bs ++ [b])) := by
  have hk_ := ab_rk hj
  have hk_r := ab_rkr hj h g rr
  refine ab_C_of (by decide +kernel) rfl (Nat.le_of_ble_eq_true rfl) ?_
  refine ab_iconst (v := 1) de_R_begins_0 rfl ?_
  refine ab_aload_n de_R_begins_1 0 rfl ?_
  refine ab_get (v := .ref 13) fl_R_31 hk_ hk_r de_R_begins_2 ?_
  refine ab_iconst (v := 0) de_R_begins_5 rfl ?_
  refine ab_iald (v := h 13 0) rfl (show vp_in (nI 0) 21 from ab_in (by decide) (by decide)) (ab_hv rfl) de_R_begins_6 ?_
  refine ab_top (v' := nI bs.length) (ht.1) ?_
  refine ab_iadd de_R_begins_7 ?_
  refine ab_top (v' := nI (1 + bs.length)) (tr_1 _) ?_
  refine ab_istore_n (L' := [(2, .int (nI (1 + bs.length))), (0, .ref (51 + j)), (1, .int b)]) de_R_begins_8 (by decide) rfl ?_
  refine ab_iload_n de_R_begins_9 0 rfl ?_
  refine ab_aload_n de_R_begins_10 1 rfl ?_
  refine ab_get (v := .ref 13) fl_R_31 hk_ hk_r de_R_begins_11 ?_
  refine ab_alen (v := 21) rfl rfl de_R_begins_14 ?_
  refine ab_icmp_ge (tgt := 25) de_R_begins_15 rfl (fun c_15_1 => ?_) (fun c_15_1 => ?_)
  · exact absurd ((ab_le (a := 21) (by decide) (by omega)).mp c_15_1) (by omega)
  · refine ab_aload_n de_R_begins_18 1 rfl ?_
    refine ab_get (v := .ref 13) fl_R_31 hk_ hk_r de_R_begins_19 ?_
    refine ab_iload_n de_R_begins_22 0 rfl ?_
    refine ab_iload_n de_R_begins_23 2 rfl ?_
    refine ab_iast (x := 13) rfl (ab_in (by omega) (by decide)) de_R_begins_24 ?_
    rw [ab_tn (n := 1 + bs.length) (by omega)]
    change ab_G _ _ _ _ _ _ _ _ _ (ab_S nr (ab_u2 h 13 (1 + bs.length) b) g rr) _
    refine ab_aload_n de_R_begins_25 1 rfl ?_
    refine ab_get (v := .ref 13) fl_R_31 hk_ hk_r de_R_begins_26 ?_
    refine ab_iconst (v := 0) de_R_begins_29 rfl ?_
    refine ab_dup2 de_R_begins_30 rfl rfl ?_
    refine ab_iald (v := (ab_u2 h 13 (1 + bs.length) b) 13 0) rfl (show vp_in (nI 0) 21 from ab_in (by decide) (by decide)) (ab_hv rfl) de_R_begins_31 ?_
    refine ab_top (v' := nI bs.length) ((ab_u2_ne (by omega)).trans ht.1) ?_
    refine ab_iconst (v := 1) de_R_begins_32 rfl ?_
    refine ab_iadd de_R_begins_33 ?_
    refine ab_top (v' := nI (bs.length + 1)) (tr_2 _) ?_
    refine ab_iast (x := 13) rfl (show vp_in (nI 0) 21 from ab_in (by decide) (by decide)) de_R_begins_34 ?_
    rw [(show (0 : Int32).toNatClampNeg = 0 from rfl)]
    change ab_G _ _ _ _ _ _ _ _ _ (ab_S nr (ab_u2 (ab_u2 h 13 (1 + bs.length) b) 13 0 (nI (bs.length + 1))) g rr) _
    exact ab_ret (v := none) de_R_begins_35 rfl ⟨rfl, _, rfl, fun a ha => (ab_u2_row ha).trans (ab_u2_row ha), tr_put ht b⟩
def sp_go (kd num x : Int32) : Int32 := if kd = 1 then (x + num) * 3 else if kd = 2 then (x + 1 + num) * 3 else if kd = 7 then x + num - 7 else x + num
def sp_gob (kd : Int32) : List Int32 := if kd = 1 then [20, 10] else if kd = 2 then [30, 20, 10] else if kd = 7 then [80, 10] else [10]
def sp_le (kd num pr x : Int32) : Int32 := if kd = 2 then sp_go kd num x * 2 - pr else if kd = 3 then -(sp_go kd num x * 2) else if kd = 5 then sp_go kd num x * 2 ^^^ 9 else sp_go kd num x * 2
def sp_leb (kd : Int32) : List Int32 := (if kd = 2 then [31] else if kd = 3 then [40] else if kd = 5 then [60] else []) ++ (11 :: sp_gob kd)
def sp_ea (kd num pr x : Int32) : Int32 := sp_le kd num pr x ^^^ sp_go kd num (x - pr)
def sp_ed (kd num pr x : Int32) : Int32 := if kd = 4 then sp_ea kd num pr x + num else if kd = 6 then sp_ea kd num pr x * 2 else if kd = 7 then sp_ea kd num pr (x + pr) else sp_ea kd num pr x
def sp_edb (kd : Int32) : List Int32 := (if kd = 4 then [50] else if kd = 6 then [70] else if kd = 7 then [81] else []) ++ (12 :: (sp_leb kd ++ sp_gob kd))
theorem sp_gob_le (kd : Int32) : (sp_gob kd).length ≤ 3 := by
  unfold sp_gob
  repeat' split
  all_goals decide
theorem sp_leb_le (kd : Int32) : (sp_leb kd).length ≤ 5 := by
  have := sp_gob_le kd
  unfold sp_leb
  repeat' split
  all_goals (simp only [List.length_append, List.length_cons, List.length_nil]; omega)
theorem tr_len {a b : List Int32} {k n : Nat} (ha : a.length ≤ k) (hb : b.length ≤ n) : (a ++ b).length ≤ k + n := by rw [List.length_append]; omega
set_option maxHeartbeats 1000000 in
set_option maxRecDepth 10000 in
theorem ct_R_anyGoes (l : Launch) (d : Nat) (nr : Nat) (h : Nat → Nat → Int32) (g : Nat → Nat → Int64) (rr : Nat → Option Nat) {j : Nat} (hj : j < nr) {bs : List Int32} (ht : tr_ok h bs) (hb : bs.length ≤ 12) {kd num pr : Int32} (e0 : h (51 + j) 0 = num) (e2 : h (51 + j) 2 = kd) (e3 : h (51 + j) 3 = pr) (x : Int32) : ab_C l am_R_anyGoes (d + 1) 0 0 [.ref (51 + j), .int x] (ab_S nr h g rr) (fun (r_ : Option Value) (M' : ab_Me) => r_ = some (.int (x + num)) ∧ ∃ h', M' = ab_S nr h' g rr ∧ (∀ a, a ≠ 13 → h' a = h a) ∧ tr_ok h' (bs ++ [10])) := by
  have hk_ := ab_rk hj
  have hk_r := ab_rkr hj h g rr
  refine ab_C_of (by decide +kernel) rfl (Nat.le_of_ble_eq_true rfl) ?_
  refine ab_aload_n de_R_anyGoes_0 0 rfl ?_
  refine ab_bipush (v := 10) de_R_anyGoes_1 rfl ?_
  refine ab_cV (as := [.int (10 : Int32)]) (st := []) (ct_R_begins l _ nr h g rr hj ht (by omega) 10) mo_R_begins mi_R_begins ml_R_63 hk_ (by decide) rfl rfl rfl (Nat.le_of_ble_eq_true rfl) de_R_anyGoes_3 (fun v_ M_ hK_ hl_ hv_ => ?_)
  obtain ⟨rfl, h1, rfl, g1, t1⟩ := hK_
  have f1 : ∀ a, a ≠ 13 → h1 a = h a := fun a ha => (g1 a ha).trans ((fun a _ => rfl) a ha)
  change ab_G _ _ _ _ _ _ _ [(0, .ref (51 + j)), (1, .int x)] [] (ab_S nr h1 g rr) _
  refine ab_iload_n de_R_anyGoes_6 1 rfl ?_
  refine ab_aload_n de_R_anyGoes_7 0 rfl ?_
  refine ab_get (v := .int (h1 (51 + j) 0)) fl_R_11 hk_ rfl de_R_anyGoes_8 ?_
  refine ab_top (v' := num) ((congrFun (f1 _ (by omega)) 0).trans e0) ?_
  refine ab_iadd de_R_anyGoes_11 ?_
  exact ab_ret (v := some (.int (x + num))) de_R_anyGoes_12 ⟨_, rfl⟩ ⟨congrArg (fun z => some (Value.int z)) (by rfl), _, rfl, f1, by have z := t1; exact z⟩
theorem rm_mv {h h' : Nat → Nat → Int32} {j k : Nat} {v : Int32} (hf : ∀ a, a ≠ 13 → h' a = h a) (e : h (51 + j) k = v) : h' (51 + j) k = v := (congrFun (hf _ (by omega)) k).trans e
set_option maxHeartbeats 1000000 in
set_option maxRecDepth 10000 in
theorem ct_R_goes (l : Launch) (d : Nat) (nr : Nat) (h : Nat → Nat → Int32) (g : Nat → Nat → Int64) (rr : Nat → Option Nat) {j : Nat} (hj : j < nr) {bs : List Int32} (ht : tr_ok h bs) (hb : bs.length ≤ 9) {kd num pr : Int32} (e0 : h (51 + j) 0 = num) (e2 : h (51 + j) 2 = kd) (e3 : h (51 + j) 3 = pr) (x : Int32) : ab_C l am_R_goes (d + 2) 0 0 [.ref (51 + j), .int x] (ab_S nr h g rr) (fun (r_ : Option Value) (M' : ab_Me) => r_ = some (.int (sp_go kd num x)) ∧ ∃ h', M' = ab_S nr h' g rr ∧ (∀ a, a ≠ 13 → h' a = h a) ∧ tr_ok h' (bs ++ sp_gob kd)) := by
  have hk_ := ab_rk hj
  have hk_r := ab_rkr hj h g rr
  refine ab_C_of (by decide +kernel) rfl (Nat.le_of_ble_eq_true rfl) ?_
  refine ab_aload_n de_R_goes_0 0 rfl ?_
  refine ab_get (v := .int (h (51 + j) 2)) fl_R_22 hk_ rfl de_R_goes_1 ?_
  refine ab_top (v' := kd) (e2) ?_
  by_cases c_4_1_0 : kd = 1
  · refine ab_lookup (tgt := 40) de_R_goes_4 (by decide) (off := 36) (by rw [c_4_1_0]; rfl) rfl ?_
    refine ab_aload_n de_R_goes_40 0 rfl ?_
    refine ab_bipush (v := 20) de_R_goes_41 rfl ?_
    refine ab_cV (as := [.int (20 : Int32)]) (st := []) (ct_R_begins l _ nr h g rr hj ht (by first | omega | (simp only [List.length_append, List.length_cons, List.length_nil]; omega)) 20) mo_R_begins mi_R_begins ml_R_63 hk_ (by decide) rfl rfl rfl (Nat.le_of_ble_eq_true rfl) de_R_goes_43 (fun v_ M_ hK_ hl_ hv_ => ?_)
    obtain ⟨rfl, h1, rfl, g1, t1⟩ := hK_
    have f1 : ∀ a, a ≠ 13 → h1 a = h a := fun a ha => (g1 a ha).trans ((fun a _ => rfl) a ha)
    change ab_G _ _ _ _ _ _ _ [(0, .ref (51 + j)), (1, .int x)] [] (ab_S nr h1 g rr) _
    refine ab_aload_n de_R_goes_46 0 rfl ?_
    refine ab_iload_n de_R_goes_47 1 rfl ?_
    refine ab_cV (as := [.int x]) (st := []) (ct_R_anyGoes l _ nr h1 g rr hj t1 (by first | omega | (simp only [List.length_append, List.length_cons, List.length_nil]; omega)) (rm_mv f1 e0) (rm_mv f1 e2) (rm_mv f1 e3) (x)) mo_R_anyGoes mi_R_anyGoes ml_R_67 hk_ (by decide) rfl rfl rfl (Nat.le_of_ble_eq_true rfl) de_R_goes_48 (fun v_ M_ hK_ hl_ hv_ => ?_)
    obtain ⟨rfl, h2, rfl, g2, t2⟩ := hK_
    have f2 : ∀ a, a ≠ 13 → h2 a = h a := fun a ha => (g2 a ha).trans (f1 a ha)
    change ab_G _ _ _ _ _ _ _ [(0, .ref (51 + j)), (1, .int x)] [.int (x + num)] (ab_S nr h2 g rr) _
    refine ab_iconst (v := 3) de_R_goes_51 rfl ?_
    refine ab_imul de_R_goes_52 ?_
    exact ab_ret (v := some (.int ((x + num) * (3 : Int32)))) de_R_goes_53 ⟨_, rfl⟩ ⟨congrArg (fun z => some (Value.int z)) (by rw [c_4_1_0]; rfl), _, rfl, f2, by have z := t2; rw [c_4_1_0]; simpa [sp_gob] using z⟩
  by_cases c_4_1_1 : kd = 2
  · refine ab_lookup (tgt := 54) de_R_goes_4 (by decide) (off := 50) (by rw [c_4_1_1]; rfl) rfl ?_
    refine ab_aload_n de_R_goes_54 0 rfl ?_
    refine ab_bipush (v := 30) de_R_goes_55 rfl ?_
    refine ab_cV (as := [.int (30 : Int32)]) (st := []) (ct_R_begins l _ nr h g rr hj ht (by first | omega | (simp only [List.length_append, List.length_cons, List.length_nil]; omega)) 30) mo_R_begins mi_R_begins ml_R_63 hk_ (by decide) rfl rfl rfl (Nat.le_of_ble_eq_true rfl) de_R_goes_57 (fun v_ M_ hK_ hl_ hv_ => ?_)
    obtain ⟨rfl, h3, rfl, g3, t3⟩ := hK_
    have f3 : ∀ a, a ≠ 13 → h3 a = h a := fun a ha => (g3 a ha).trans ((fun a _ => rfl) a ha)
    change ab_G _ _ _ _ _ _ _ [(0, .ref (51 + j)), (1, .int x)] [] (ab_S nr h3 g rr) _
    refine ab_aload_n de_R_goes_60 0 rfl ?_
    refine ab_bipush (v := 20) de_R_goes_61 rfl ?_
    refine ab_cV (as := [.int (20 : Int32)]) (st := []) (ct_R_begins l _ nr h3 g rr hj t3 (by first | omega | (simp only [List.length_append, List.length_cons, List.length_nil]; omega)) 20) mo_R_begins mi_R_begins ml_R_63 hk_ (by decide) rfl rfl rfl (Nat.le_of_ble_eq_true rfl) de_R_goes_63 (fun v_ M_ hK_ hl_ hv_ => ?_)
    obtain ⟨rfl, h4, rfl, g4, t4⟩ := hK_
    have f4 : ∀ a, a ≠ 13 → h4 a = h a := fun a ha => (g4 a ha).trans (f3 a ha)
    change ab_G _ _ _ _ _ _ _ [(0, .ref (51 + j)), (1, .int x)] [] (ab_S nr h4 g rr) _
    refine ab_aload_n de_R_goes_66 0 rfl ?_
    refine ab_iload_n de_R_goes_67 1 rfl ?_
    refine ab_iconst (v := 1) de_R_goes_68 rfl ?_
    refine ab_iadd de_R_goes_69 ?_
    refine ab_cV (as := [.int (x + (1 : Int32))]) (st := []) (ct_R_anyGoes l _ nr h4 g rr hj t4 (by first | omega | (simp only [List.length_append, List.length_cons, List.length_nil]; omega)) (rm_mv f4 e0) (rm_mv f4 e2) (rm_mv f4 e3) (x + (1 : Int32))) mo_R_anyGoes mi_R_anyGoes ml_R_67 hk_ (by decide) rfl rfl rfl (Nat.le_of_ble_eq_true rfl) de_R_goes_70 (fun v_ M_ hK_ hl_ hv_ => ?_)
    obtain ⟨rfl, h5, rfl, g5, t5⟩ := hK_
    have f5 : ∀ a, a ≠ 13 → h5 a = h a := fun a ha => (g5 a ha).trans (f4 a ha)
    change ab_G _ _ _ _ _ _ _ [(0, .ref (51 + j)), (1, .int x)] [.int ((x + (1 : Int32)) + num)] (ab_S nr h5 g rr) _
    refine ab_iconst (v := 3) de_R_goes_73 rfl ?_
    refine ab_imul de_R_goes_74 ?_
    exact ab_ret (v := some (.int (((x + (1 : Int32)) + num) * (3 : Int32)))) de_R_goes_75 ⟨_, rfl⟩ ⟨congrArg (fun z => some (Value.int z)) (by rw [c_4_1_1]; rfl), _, rfl, f5, by have z := t5; rw [c_4_1_1]; simpa [sp_gob] using z⟩
  by_cases c_4_1_2 : kd = 7
  · refine ab_lookup (tgt := 76) de_R_goes_4 (by decide) (off := 72) (by rw [c_4_1_2]; rfl) rfl ?_
    refine ab_aload_n de_R_goes_76 0 rfl ?_
    refine ab_bipush (v := 80) de_R_goes_77 rfl ?_
    refine ab_cV (as := [.int (80 : Int32)]) (st := []) (ct_R_begins l _ nr h g rr hj ht (by first | omega | (simp only [List.length_append, List.length_cons, List.length_nil]; omega)) 80) mo_R_begins mi_R_begins ml_R_63 hk_ (by decide) rfl rfl rfl (Nat.le_of_ble_eq_true rfl) de_R_goes_79 (fun v_ M_ hK_ hl_ hv_ => ?_)
    obtain ⟨rfl, h6, rfl, g6, t6⟩ := hK_
    have f6 : ∀ a, a ≠ 13 → h6 a = h a := fun a ha => (g6 a ha).trans ((fun a _ => rfl) a ha)
    change ab_G _ _ _ _ _ _ _ [(0, .ref (51 + j)), (1, .int x)] [] (ab_S nr h6 g rr) _
    refine ab_aload_n de_R_goes_82 0 rfl ?_
    refine ab_iload_n de_R_goes_83 1 rfl ?_
    refine ab_cV (as := [.int x]) (st := []) (ct_R_anyGoes l _ nr h6 g rr hj t6 (by first | omega | (simp only [List.length_append, List.length_cons, List.length_nil]; omega)) (rm_mv f6 e0) (rm_mv f6 e2) (rm_mv f6 e3) (x)) mo_R_anyGoes mi_R_anyGoes ml_R_67 hk_ (by decide) rfl rfl rfl (Nat.le_of_ble_eq_true rfl) de_R_goes_84 (fun v_ M_ hK_ hl_ hv_ => ?_)
    obtain ⟨rfl, h7, rfl, g7, t7⟩ := hK_
    have f7 : ∀ a, a ≠ 13 → h7 a = h a := fun a ha => (g7 a ha).trans (f6 a ha)
    change ab_G _ _ _ _ _ _ _ [(0, .ref (51 + j)), (1, .int x)] [.int (x + num)] (ab_S nr h7 g rr) _
    refine ab_bipush (v := 7) de_R_goes_87 rfl ?_
    refine ab_isub de_R_goes_89 ?_
    exact ab_ret (v := some (.int ((x + num) - (7 : Int32)))) de_R_goes_90 ⟨_, rfl⟩ ⟨congrArg (fun z => some (Value.int z)) (by rw [c_4_1_2]; rfl), _, rfl, f7, by have z := t7; rw [c_4_1_2]; simpa [sp_gob] using z⟩
  refine ab_lookup (tgt := 91) de_R_goes_4 (by decide) (off := 87) ((lv_osw c_4_1_0 rfl).trans ((lv_osw c_4_1_1 rfl).trans ((lv_osw c_4_1_2 rfl)))) rfl ?_
  refine ab_aload_n de_R_goes_91 0 rfl ?_
  refine ab_iload_n de_R_goes_92 1 rfl ?_
  refine ab_cV (as := [.int x]) (st := []) (ct_R_anyGoes l _ nr h g rr hj ht (by first | omega | (simp only [List.length_append, List.length_cons, List.length_nil]; omega)) (rm_mv (fun a _ => rfl) e0) (rm_mv (fun a _ => rfl) e2) (rm_mv (fun a _ => rfl) e3) (x)) mo_R_anyGoes mi_R_anyGoes ml_R_67 hk_ (by decide) rfl rfl rfl (Nat.le_of_ble_eq_true rfl) de_R_goes_93 (fun v_ M_ hK_ hl_ hv_ => ?_)
  obtain ⟨rfl, h8, rfl, g8, t8⟩ := hK_
  have f8 : ∀ a, a ≠ 13 → h8 a = h a := fun a ha => (g8 a ha).trans ((fun a _ => rfl) a ha)
  change ab_G _ _ _ _ _ _ _ [(0, .ref (51 + j)), (1, .int x)] [.int (x + num)] (ab_S nr h8 g rr) _
  exact ab_ret (v := some (.int (x + num))) de_R_goes_96 ⟨_, rfl⟩ ⟨congrArg (fun z => some (Value.int z)) (by unfold sp_go; rw [if_neg c_4_1_0, if_neg c_4_1_1, if_neg c_4_1_2]), _, rfl, f8, by have z := t8; unfold sp_gob; rw [if_neg c_4_1_0, if_neg c_4_1_1, if_neg c_4_1_2]; exact z⟩
set_option maxHeartbeats 1000000 in
set_option maxRecDepth 10000 in
theorem ct_R_anyLets (l : Launch) (d : Nat) (nr : Nat) (h : Nat → Nat → Int32) (g : Nat → Nat → Int64) (rr : Nat → Option Nat) {j : Nat} (hj : j < nr) {bs : List Int32} (ht : tr_ok h bs) (hb : bs.length ≤ 8) {kd num pr : Int32} (e0 : h (51 + j) 0 = num) (e2 : h (51 + j) 2 = kd) (e3 : h (51 + j) 3 = pr) (x : Int32) : ab_C l am_R_anyLets (d + 3) 0 0 [.ref (51 + j), .int x] (ab_S nr h g rr) (fun (r_ : Option Value) (M' : ab_Me) => r_ = some (.int (sp_go kd num x * 2)) ∧ ∃ h', M' = ab_S nr h' g rr ∧ (∀ a, a ≠ 13 → h' a = h a) ∧ tr_ok h' (bs ++ (11 :: sp_gob kd))) := by
  have hk_ := ab_rk hj
  have hk_r := ab_rkr hj h g rr
  refine ab_C_of (by decide +kernel) rfl (Nat.le_of_ble_eq_true rfl) ?_
  refine ab_aload_n de_R_anyLets_0 0 rfl ?_
  refine ab_bipush (v := 11) de_R_anyLets_1 rfl ?_
  refine ab_cV (as := [.int (11 : Int32)]) (st := []) (ct_R_begins l _ nr h g rr hj ht (by first | omega | (simp only [List.length_append, List.length_cons, List.length_nil]; omega)) 11) mo_R_begins mi_R_begins ml_R_63 hk_ (by decide) rfl rfl rfl (Nat.le_of_ble_eq_true rfl) de_R_anyLets_3 (fun v_ M_ hK_ hl_ hv_ => ?_)
  obtain ⟨rfl, h1, rfl, g1, t1⟩ := hK_
  have f1 : ∀ a, a ≠ 13 → h1 a = h a := fun a ha => (g1 a ha).trans ((fun a _ => rfl) a ha)
  change ab_G _ _ _ _ _ _ _ [(0, .ref (51 + j)), (1, .int x)] [] (ab_S nr h1 g rr) _
  refine ab_aload_n de_R_anyLets_6 0 rfl ?_
  refine ab_iload_n de_R_anyLets_7 1 rfl ?_
  refine ab_cV (as := [.int x]) (st := []) (ct_R_goes l _ nr h1 g rr hj t1 (by first | omega | (simp only [List.length_append, List.length_cons, List.length_nil]; omega)) (rm_mv f1 e0) (rm_mv f1 e2) (rm_mv f1 e3) (x)) mo_R_goes mi_R_goes ml_R_76 hk_ (by decide) rfl rfl rfl (Nat.le_of_ble_eq_true rfl) de_R_anyLets_8 (fun v_ M_ hK_ hl_ hv_ => ?_)
  obtain ⟨rfl, h2, rfl, g2, t2⟩ := hK_
  have f2 : ∀ a, a ≠ 13 → h2 a = h a := fun a ha => (g2 a ha).trans (f1 a ha)
  change ab_G _ _ _ _ _ _ _ [(0, .ref (51 + j)), (1, .int x)] [.int (sp_go kd num x)] (ab_S nr h2 g rr) _
  refine ab_iconst (v := 2) de_R_anyLets_11 rfl ?_
  refine ab_imul de_R_anyLets_12 ?_
  exact ab_ret (v := some (.int ((sp_go kd num x) * (2 : Int32)))) de_R_anyLets_13 ⟨_, rfl⟩ ⟨congrArg (fun z => some (Value.int z)) (by rfl), _, rfl, f2, by have z := t2; simpa using z⟩
theorem ab_out23 {x : Int32} (h0 : ¬ x = 2) (h1 : ¬ x = 3) (h2 : ¬ x = 4) (h3 : ¬ x = 5) : x.toInt < 2 ∨ 5 < x.toInt := by
  have e0 : ¬ x.toInt = 2 := lv_neT h0 rfl
  have e1 : ¬ x.toInt = 3 := lv_neT h1 rfl
  have e2 : ¬ x.toInt = 4 := lv_neT h2 rfl
  have e3 : ¬ x.toInt = 5 := lv_neT h3 rfl
  omega
theorem ab_out47 {x : Int32} (h0 : ¬ x = 4) (h1 : ¬ x = 5) (h2 : ¬ x = 6) (h3 : ¬ x = 7) : x.toInt < 4 ∨ 7 < x.toInt := by
  have e0 : ¬ x.toInt = 4 := lv_neT h0 rfl
  have e1 : ¬ x.toInt = 5 := lv_neT h1 rfl
  have e2 : ¬ x.toInt = 6 := lv_neT h2 rfl
  have e3 : ¬ x.toInt = 7 := lv_neT h3 rfl
  omega
set_option maxHeartbeats 1000000 in
set_option maxRecDepth 10000 in
theorem ct_R_lets (l : Launch) (d : Nat) (nr : Nat) (h : Nat → Nat → Int32) (g : Nat → Nat → Int64) (rr : Nat → Option Nat) {j : Nat} (hj : j < nr) {bs : List Int32} (ht : tr_ok h bs) (hb : bs.length ≤ 7) {kd num pr : Int32} (e0 : h (51 + j) 0 = num) (e2 : h (51 + j) 2 = kd) (e3 : h (51 + j) 3 = pr) (x : Int32) : ab_C l am_R_lets (d + 4) 0 0 [.ref (51 + j), .int x] (ab_S nr h g rr) (fun (r_ : Option Value) (M' : ab_Me) => r_ = some (.int (sp_le kd num pr x)) ∧ ∃ h', M' = ab_S nr h' g rr ∧ (∀ a, a ≠ 13 → h' a = h a) ∧ tr_ok h' (bs ++ sp_leb kd)) := by
  have hk_ := ab_rk hj
  have hk_r := ab_rkr hj h g rr
  refine ab_C_of (by decide +kernel) rfl (Nat.le_of_ble_eq_true rfl) ?_
  refine ab_aload_n de_R_lets_0 0 rfl ?_
  refine ab_get (v := .int (h (51 + j) 2)) fl_R_22 hk_ rfl de_R_lets_1 ?_
  refine ab_top (v' := kd) (e2) ?_
  by_cases c_4_1_0 : kd = 2
  · refine ab_tableIn (tgt := 36) de_R_lets_4 (by rw [c_4_1_0]; decide) (by rw [c_4_1_0]; decide) (off := 32) (by rw [c_4_1_0]; rfl) rfl ?_
    refine ab_aload_n de_R_lets_36 0 rfl ?_
    refine ab_bipush (v := 31) de_R_lets_37 rfl ?_
    refine ab_cV (as := [.int (31 : Int32)]) (st := []) (ct_R_begins l _ nr h g rr hj ht (by first | omega | (simp only [List.length_append, List.length_cons, List.length_nil]; omega)) 31) mo_R_begins mi_R_begins ml_R_63 hk_ (by decide) rfl rfl rfl (Nat.le_of_ble_eq_true rfl) de_R_lets_39 (fun v_ M_ hK_ hl_ hv_ => ?_)
    obtain ⟨rfl, h1, rfl, g1, t1⟩ := hK_
    have f1 : ∀ a, a ≠ 13 → h1 a = h a := fun a ha => (g1 a ha).trans ((fun a _ => rfl) a ha)
    change ab_G _ _ _ _ _ _ _ [(0, .ref (51 + j)), (1, .int x)] [] (ab_S nr h1 g rr) _
    refine ab_aload_n de_R_lets_42 0 rfl ?_
    refine ab_iload_n de_R_lets_43 1 rfl ?_
    refine ab_cV (as := [.int x]) (st := []) (ct_R_anyLets l _ nr h1 g rr hj t1 (by first | omega | (simp only [List.length_append, List.length_cons, List.length_nil]; omega)) (rm_mv f1 e0) (rm_mv f1 e2) (rm_mv f1 e3) (x)) mo_R_anyLets mi_R_anyLets ml_R_70 hk_ (by decide) rfl rfl rfl (Nat.le_of_ble_eq_true rfl) de_R_lets_44 (fun v_ M_ hK_ hl_ hv_ => ?_)
    obtain ⟨rfl, h2, rfl, g2, t2⟩ := hK_
    have f2 : ∀ a, a ≠ 13 → h2 a = h a := fun a ha => (g2 a ha).trans (f1 a ha)
    change ab_G _ _ _ _ _ _ _ [(0, .ref (51 + j)), (1, .int x)] [.int (sp_go kd num x * 2)] (ab_S nr h2 g rr) _
    refine ab_aload_n de_R_lets_47 0 rfl ?_
    refine ab_get (v := .int (h2 (51 + j) 3)) fl_R_28 hk_ rfl de_R_lets_48 ?_
    refine ab_top (v' := pr) ((congrFun (f2 _ (by omega)) 3).trans e3) ?_
    refine ab_isub de_R_lets_51 ?_
    exact ab_ret (v := some (.int ((sp_go kd num x * 2) - pr))) de_R_lets_52 ⟨_, rfl⟩ ⟨congrArg (fun z => some (Value.int z)) (by rw [c_4_1_0]; rfl), _, rfl, f2, by have z := t2; rw [c_4_1_0] at z ⊢; simpa [sp_leb] using z⟩
  by_cases c_4_1_1 : kd = 3
  · refine ab_tableIn (tgt := 53) de_R_lets_4 (by rw [c_4_1_1]; decide) (by rw [c_4_1_1]; decide) (off := 49) (by rw [c_4_1_1]; rfl) rfl ?_
    refine ab_aload_n de_R_lets_53 0 rfl ?_
    refine ab_bipush (v := 40) de_R_lets_54 rfl ?_
    refine ab_cV (as := [.int (40 : Int32)]) (st := []) (ct_R_begins l _ nr h g rr hj ht (by first | omega | (simp only [List.length_append, List.length_cons, List.length_nil]; omega)) 40) mo_R_begins mi_R_begins ml_R_63 hk_ (by decide) rfl rfl rfl (Nat.le_of_ble_eq_true rfl) de_R_lets_56 (fun v_ M_ hK_ hl_ hv_ => ?_)
    obtain ⟨rfl, h3, rfl, g3, t3⟩ := hK_
    have f3 : ∀ a, a ≠ 13 → h3 a = h a := fun a ha => (g3 a ha).trans ((fun a _ => rfl) a ha)
    change ab_G _ _ _ _ _ _ _ [(0, .ref (51 + j)), (1, .int x)] [] (ab_S nr h3 g rr) _
    refine ab_aload_n de_R_lets_59 0 rfl ?_
    refine ab_iload_n de_R_lets_60 1 rfl ?_
    refine ab_cV (as := [.int x]) (st := []) (ct_R_anyLets l _ nr h3 g rr hj t3 (by first | omega | (simp only [List.length_append, List.length_cons, List.length_nil]; omega)) (rm_mv f3 e0) (rm_mv f3 e2) (rm_mv f3 e3) (x)) mo_R_anyLets mi_R_anyLets ml_R_70 hk_ (by decide) rfl rfl rfl (Nat.le_of_ble_eq_true rfl) de_R_lets_61 (fun v_ M_ hK_ hl_ hv_ => ?_)
    obtain ⟨rfl, h4, rfl, g4, t4⟩ := hK_
    have f4 : ∀ a, a ≠ 13 → h4 a = h a := fun a ha => (g4 a ha).trans (f3 a ha)
    change ab_G _ _ _ _ _ _ _ [(0, .ref (51 + j)), (1, .int x)] [.int (sp_go kd num x * 2)] (ab_S nr h4 g rr) _
    refine ab_ineg de_R_lets_64 ?_
    exact ab_ret (v := some (.int (-(sp_go kd num x * 2)))) de_R_lets_65 ⟨_, rfl⟩ ⟨congrArg (fun z => some (Value.int z)) (by rw [c_4_1_1]; rfl), _, rfl, f4, by have z := t4; rw [c_4_1_1] at z ⊢; simpa [sp_leb] using z⟩
  by_cases c_4_1_2 : kd = 4
  · refine ab_tableIn (tgt := 81) de_R_lets_4 (by rw [c_4_1_2]; decide) (by rw [c_4_1_2]; decide) (off := 77) (by rw [c_4_1_2]; rfl) rfl ?_
    refine ab_aload_n de_R_lets_81 0 rfl ?_
    refine ab_iload_n de_R_lets_82 1 rfl ?_
    refine ab_cV (as := [.int x]) (st := []) (ct_R_anyLets l _ nr h g rr hj ht (by first | omega | (simp only [List.length_append, List.length_cons, List.length_nil]; omega)) (rm_mv (fun a _ => rfl) e0) (rm_mv (fun a _ => rfl) e2) (rm_mv (fun a _ => rfl) e3) (x)) mo_R_anyLets mi_R_anyLets ml_R_70 hk_ (by decide) rfl rfl rfl (Nat.le_of_ble_eq_true rfl) de_R_lets_83 (fun v_ M_ hK_ hl_ hv_ => ?_)
    obtain ⟨rfl, h5, rfl, g5, t5⟩ := hK_
    have f5 : ∀ a, a ≠ 13 → h5 a = h a := fun a ha => (g5 a ha).trans ((fun a _ => rfl) a ha)
    change ab_G _ _ _ _ _ _ _ [(0, .ref (51 + j)), (1, .int x)] [.int (sp_go kd num x * 2)] (ab_S nr h5 g rr) _
    exact ab_ret (v := some (.int (sp_go kd num x * 2))) de_R_lets_86 ⟨_, rfl⟩ ⟨congrArg (fun z => some (Value.int z)) (by rw [c_4_1_2]; rfl), _, rfl, f5, by have z := t5; rw [c_4_1_2] at z ⊢; simpa [sp_leb] using z⟩
  by_cases c_4_1_3 : kd = 5
  · refine ab_tableIn (tgt := 66) de_R_lets_4 (by rw [c_4_1_3]; decide) (by rw [c_4_1_3]; decide) (off := 62) (by rw [c_4_1_3]; rfl) rfl ?_
    refine ab_aload_n de_R_lets_66 0 rfl ?_
    refine ab_bipush (v := 60) de_R_lets_67 rfl ?_
    refine ab_cV (as := [.int (60 : Int32)]) (st := []) (ct_R_begins l _ nr h g rr hj ht (by first | omega | (simp only [List.length_append, List.length_cons, List.length_nil]; omega)) 60) mo_R_begins mi_R_begins ml_R_63 hk_ (by decide) rfl rfl rfl (Nat.le_of_ble_eq_true rfl) de_R_lets_69 (fun v_ M_ hK_ hl_ hv_ => ?_)
    obtain ⟨rfl, h6, rfl, g6, t6⟩ := hK_
    have f6 : ∀ a, a ≠ 13 → h6 a = h a := fun a ha => (g6 a ha).trans ((fun a _ => rfl) a ha)
    change ab_G _ _ _ _ _ _ _ [(0, .ref (51 + j)), (1, .int x)] [] (ab_S nr h6 g rr) _
    refine ab_aload_n de_R_lets_72 0 rfl ?_
    refine ab_iload_n de_R_lets_73 1 rfl ?_
    refine ab_cV (as := [.int x]) (st := []) (ct_R_anyLets l _ nr h6 g rr hj t6 (by first | omega | (simp only [List.length_append, List.length_cons, List.length_nil]; omega)) (rm_mv f6 e0) (rm_mv f6 e2) (rm_mv f6 e3) (x)) mo_R_anyLets mi_R_anyLets ml_R_70 hk_ (by decide) rfl rfl rfl (Nat.le_of_ble_eq_true rfl) de_R_lets_74 (fun v_ M_ hK_ hl_ hv_ => ?_)
    obtain ⟨rfl, h7, rfl, g7, t7⟩ := hK_
    have f7 : ∀ a, a ≠ 13 → h7 a = h a := fun a ha => (g7 a ha).trans (f6 a ha)
    change ab_G _ _ _ _ _ _ _ [(0, .ref (51 + j)), (1, .int x)] [.int (sp_go kd num x * 2)] (ab_S nr h7 g rr) _
    refine ab_bipush (v := 9) de_R_lets_77 rfl ?_
    refine ab_ixor de_R_lets_79 ?_
    exact ab_ret (v := some (.int ((sp_go kd num x * 2) ^^^ (9 : Int32)))) de_R_lets_80 ⟨_, rfl⟩ ⟨congrArg (fun z => some (Value.int z)) (by rw [c_4_1_3]; rfl), _, rfl, f7, by have z := t7; rw [c_4_1_3] at z ⊢; simpa [sp_leb] using z⟩
  refine ab_tableOut (tgt := 81) de_R_lets_4 (ab_out23 c_4_1_0 c_4_1_1 c_4_1_2 c_4_1_3) rfl ?_
  refine ab_aload_n de_R_lets_81 0 rfl ?_
  refine ab_iload_n de_R_lets_82 1 rfl ?_
  refine ab_cV (as := [.int x]) (st := []) (ct_R_anyLets l _ nr h g rr hj ht (by first | omega | (simp only [List.length_append, List.length_cons, List.length_nil]; omega)) (rm_mv (fun a _ => rfl) e0) (rm_mv (fun a _ => rfl) e2) (rm_mv (fun a _ => rfl) e3) (x)) mo_R_anyLets mi_R_anyLets ml_R_70 hk_ (by decide) rfl rfl rfl (Nat.le_of_ble_eq_true rfl) de_R_lets_83 (fun v_ M_ hK_ hl_ hv_ => ?_)
  obtain ⟨rfl, h8, rfl, g8, t8⟩ := hK_
  have f8 : ∀ a, a ≠ 13 → h8 a = h a := fun a ha => (g8 a ha).trans ((fun a _ => rfl) a ha)
  change ab_G _ _ _ _ _ _ _ [(0, .ref (51 + j)), (1, .int x)] [.int (sp_go kd num x * 2)] (ab_S nr h8 g rr) _
  exact ab_ret (v := some (.int (sp_go kd num x * 2))) de_R_lets_86 ⟨_, rfl⟩ ⟨congrArg (fun z => some (Value.int z)) (by unfold sp_le; rw [if_neg c_4_1_0, if_neg c_4_1_1, if_neg c_4_1_3]), _, rfl, f8, by have z := t8; unfold sp_leb; rw [if_neg c_4_1_0, if_neg c_4_1_1, if_neg c_4_1_3]; exact z⟩
set_option maxHeartbeats 1000000 in
set_option maxRecDepth 10000 in
theorem ct_R_anyEnds (l : Launch) (d : Nat) (nr : Nat) (h : Nat → Nat → Int32) (g : Nat → Nat → Int64) (rr : Nat → Option Nat) {j : Nat} (hj : j < nr) {bs : List Int32} (ht : tr_ok h bs) (hb : bs.length ≤ 2) {kd num pr : Int32} (e0 : h (51 + j) 0 = num) (e2 : h (51 + j) 2 = kd) (e3 : h (51 + j) 3 = pr) (x : Int32) : ab_C l am_R_anyEnds (d + 5) 0 0 [.ref (51 + j), .int x] (ab_S nr h g rr) (fun (r_ : Option Value) (M' : ab_Me) => r_ = some (.int (sp_ea kd num pr x)) ∧ ∃ h', M' = ab_S nr h' g rr ∧ (∀ a, a ≠ 13 → h' a = h a) ∧ tr_ok h' (bs ++ (12 :: (sp_leb kd ++ sp_gob kd)))) := by
  have hk_ := ab_rk hj
  have hk_r := ab_rkr hj h g rr
  refine ab_C_of (by decide +kernel) rfl (Nat.le_of_ble_eq_true rfl) ?_
  refine ab_aload_n de_R_anyEnds_0 0 rfl ?_
  refine ab_bipush (v := 12) de_R_anyEnds_1 rfl ?_
  refine ab_cV (as := [.int (12 : Int32)]) (st := []) (ct_R_begins l _ nr h g rr hj ht (by first | omega | (simp only [List.length_append, List.length_cons, List.length_nil]; omega)) 12) mo_R_begins mi_R_begins ml_R_63 hk_ (by decide) rfl rfl rfl (Nat.le_of_ble_eq_true rfl) de_R_anyEnds_3 (fun v_ M_ hK_ hl_ hv_ => ?_)
  obtain ⟨rfl, h1, rfl, g1, t1⟩ := hK_
  have f1 : ∀ a, a ≠ 13 → h1 a = h a := fun a ha => (g1 a ha).trans ((fun a _ => rfl) a ha)
  change ab_G _ _ _ _ _ _ _ [(0, .ref (51 + j)), (1, .int x)] [] (ab_S nr h1 g rr) _
  refine ab_aload_n de_R_anyEnds_6 0 rfl ?_
  refine ab_iload_n de_R_anyEnds_7 1 rfl ?_
  refine ab_cV (as := [.int x]) (st := []) (ct_R_lets l _ nr h1 g rr hj t1 (by first | omega | (simp only [List.length_append, List.length_cons, List.length_nil]; omega)) (rm_mv f1 e0) (rm_mv f1 e2) (rm_mv f1 e3) (x)) mo_R_lets mi_R_lets ml_R_79 hk_ (by decide) rfl rfl rfl (Nat.le_of_ble_eq_true rfl) de_R_anyEnds_8 (fun v_ M_ hK_ hl_ hv_ => ?_)
  obtain ⟨rfl, h2, rfl, g2, t2⟩ := hK_
  have f2 : ∀ a, a ≠ 13 → h2 a = h a := fun a ha => (g2 a ha).trans (f1 a ha)
  change ab_G _ _ _ _ _ _ _ [(0, .ref (51 + j)), (1, .int x)] [.int (sp_le kd num pr x)] (ab_S nr h2 g rr) _
  refine ab_aload_n de_R_anyEnds_11 0 rfl ?_
  refine ab_iload_n de_R_anyEnds_12 1 rfl ?_
  refine ab_aload_n de_R_anyEnds_13 0 rfl ?_
  refine ab_get (v := .int (h2 (51 + j) 3)) fl_R_28 hk_ rfl de_R_anyEnds_14 ?_
  refine ab_top (v' := pr) ((congrFun (f2 _ (by omega)) 3).trans e3) ?_
  refine ab_isub de_R_anyEnds_17 ?_
  refine ab_cV (as := [.int (x - pr)]) (st := [.int (sp_le kd num pr x)]) (ct_R_goes l _ nr h2 g rr hj t2 (by have := sp_leb_le kd; simp only [List.length_append, List.length_cons, List.length_nil]; omega) (rm_mv f2 e0) (rm_mv f2 e2) (rm_mv f2 e3) (x - pr)) mo_R_goes mi_R_goes ml_R_76 hk_ (by decide) rfl rfl rfl (Nat.le_of_ble_eq_true rfl) de_R_anyEnds_18 (fun v_ M_ hK_ hl_ hv_ => ?_)
  obtain ⟨rfl, h3, rfl, g3, t3⟩ := hK_
  have f3 : ∀ a, a ≠ 13 → h3 a = h a := fun a ha => (g3 a ha).trans (f2 a ha)
  change ab_G _ _ _ _ _ _ _ [(0, .ref (51 + j)), (1, .int x)] [.int (sp_go kd num (x - pr)), .int (sp_le kd num pr x)] (ab_S nr h3 g rr) _
  refine ab_ixor de_R_anyEnds_21 ?_
  exact ab_ret (v := some (.int ((sp_le kd num pr x) ^^^ (sp_go kd num (x - pr))))) de_R_anyEnds_22 ⟨_, rfl⟩ ⟨congrArg (fun z => some (Value.int z)) (by rfl), _, rfl, f3, by have z := t3; simpa using z⟩
set_option maxHeartbeats 1000000 in
set_option maxRecDepth 10000 in
theorem ct_R_ends (l : Launch) (d : Nat) (nr : Nat) (h : Nat → Nat → Int32) (g : Nat → Nat → Int64) (rr : Nat → Option Nat) {j : Nat} (hj : j < nr) {bs : List Int32} (ht : tr_ok h bs) (hb : bs.length ≤ 1) {kd num pr : Int32} (e0 : h (51 + j) 0 = num) (e2 : h (51 + j) 2 = kd) (e3 : h (51 + j) 3 = pr) (x : Int32) : ab_C l am_R_ends (d + 6) 0 0 [.ref (51 + j), .int x] (ab_S nr h g rr) (fun (r_ : Option Value) (M' : ab_Me) => r_ = some (.int (sp_ed kd num pr x)) ∧ ∃ h', M' = ab_S nr h' g rr ∧ (∀ a, a ≠ 13 → h' a = h a) ∧ tr_ok h' (bs ++ sp_edb kd)) := by
  have hk_ := ab_rk hj
  have hk_r := ab_rkr hj h g rr
  refine ab_C_of (by decide +kernel) rfl (Nat.le_of_ble_eq_true rfl) ?_
  refine ab_aload_n de_R_ends_0 0 rfl ?_
  refine ab_get (v := .int (h (51 + j) 2)) fl_R_22 hk_ rfl de_R_ends_1 ?_
  refine ab_top (v' := kd) (e2) ?_
  by_cases c_4_1_0 : kd = 4
  · refine ab_tableIn (tgt := 36) de_R_ends_4 (by rw [c_4_1_0]; decide) (by rw [c_4_1_0]; decide) (off := 32) (by rw [c_4_1_0]; rfl) rfl ?_
    refine ab_aload_n de_R_ends_36 0 rfl ?_
    refine ab_bipush (v := 50) de_R_ends_37 rfl ?_
    refine ab_cV (as := [.int (50 : Int32)]) (st := []) (ct_R_begins l _ nr h g rr hj ht (by first | omega | (simp only [List.length_append, List.length_cons, List.length_nil]; omega)) 50) mo_R_begins mi_R_begins ml_R_63 hk_ (by decide) rfl rfl rfl (Nat.le_of_ble_eq_true rfl) de_R_ends_39 (fun v_ M_ hK_ hl_ hv_ => ?_)
    obtain ⟨rfl, h1, rfl, g1, t1⟩ := hK_
    have f1 : ∀ a, a ≠ 13 → h1 a = h a := fun a ha => (g1 a ha).trans ((fun a _ => rfl) a ha)
    change ab_G _ _ _ _ _ _ _ [(0, .ref (51 + j)), (1, .int x)] [] (ab_S nr h1 g rr) _
    refine ab_aload_n de_R_ends_42 0 rfl ?_
    refine ab_iload_n de_R_ends_43 1 rfl ?_
    refine ab_cV (as := [.int x]) (st := []) (ct_R_anyEnds l _ nr h1 g rr hj t1 (by first | omega | (simp only [List.length_append, List.length_cons, List.length_nil]; omega)) (rm_mv f1 e0) (rm_mv f1 e2) (rm_mv f1 e3) (x)) mo_R_anyEnds mi_R_anyEnds ml_R_73 hk_ (by decide) rfl rfl rfl (Nat.le_of_ble_eq_true rfl) de_R_ends_44 (fun v_ M_ hK_ hl_ hv_ => ?_)
    obtain ⟨rfl, h2, rfl, g2, t2⟩ := hK_
    have f2 : ∀ a, a ≠ 13 → h2 a = h a := fun a ha => (g2 a ha).trans (f1 a ha)
    change ab_G _ _ _ _ _ _ _ [(0, .ref (51 + j)), (1, .int x)] [.int (sp_ea kd num pr x)] (ab_S nr h2 g rr) _
    refine ab_aload_n de_R_ends_47 0 rfl ?_
    refine ab_get (v := .int (h2 (51 + j) 0)) fl_R_11 hk_ rfl de_R_ends_48 ?_
    refine ab_top (v' := num) ((congrFun (f2 _ (by omega)) 0).trans e0) ?_
    refine ab_iadd de_R_ends_51 ?_
    exact ab_ret (v := some (.int ((sp_ea kd num pr x) + num))) de_R_ends_52 ⟨_, rfl⟩ ⟨congrArg (fun z => some (Value.int z)) (by rw [c_4_1_0]; rfl), _, rfl, f2, by have z := t2; rw [c_4_1_0] at z ⊢; simpa [sp_edb] using z⟩
  by_cases c_4_1_1 : kd = 5
  · refine ab_tableIn (tgt := 84) de_R_ends_4 (by rw [c_4_1_1]; decide) (by rw [c_4_1_1]; decide) (off := 80) (by rw [c_4_1_1]; rfl) rfl ?_
    refine ab_aload_n de_R_ends_84 0 rfl ?_
    refine ab_iload_n de_R_ends_85 1 rfl ?_
    refine ab_cV (as := [.int x]) (st := []) (ct_R_anyEnds l _ nr h g rr hj ht (by first | omega | (simp only [List.length_append, List.length_cons, List.length_nil]; omega)) (rm_mv (fun a _ => rfl) e0) (rm_mv (fun a _ => rfl) e2) (rm_mv (fun a _ => rfl) e3) (x)) mo_R_anyEnds mi_R_anyEnds ml_R_73 hk_ (by decide) rfl rfl rfl (Nat.le_of_ble_eq_true rfl) de_R_ends_86 (fun v_ M_ hK_ hl_ hv_ => ?_)
    obtain ⟨rfl, h3, rfl, g3, t3⟩ := hK_
    have f3 : ∀ a, a ≠ 13 → h3 a = h a := fun a ha => (g3 a ha).trans ((fun a _ => rfl) a ha)
    change ab_G _ _ _ _ _ _ _ [(0, .ref (51 + j)), (1, .int x)] [.int (sp_ea kd num pr x)] (ab_S nr h3 g rr) _
    exact ab_ret (v := some (.int (sp_ea kd num pr x))) de_R_ends_89 ⟨_, rfl⟩ ⟨congrArg (fun z => some (Value.int z)) (by rw [c_4_1_1]; rfl), _, rfl, f3, by have z := t3; rw [c_4_1_1] at z ⊢; simpa [sp_edb] using z⟩
  by_cases c_4_1_2 : kd = 6
  · refine ab_tableIn (tgt := 53) de_R_ends_4 (by rw [c_4_1_2]; decide) (by rw [c_4_1_2]; decide) (off := 49) (by rw [c_4_1_2]; rfl) rfl ?_
    refine ab_aload_n de_R_ends_53 0 rfl ?_
    refine ab_bipush (v := 70) de_R_ends_54 rfl ?_
    refine ab_cV (as := [.int (70 : Int32)]) (st := []) (ct_R_begins l _ nr h g rr hj ht (by first | omega | (simp only [List.length_append, List.length_cons, List.length_nil]; omega)) 70) mo_R_begins mi_R_begins ml_R_63 hk_ (by decide) rfl rfl rfl (Nat.le_of_ble_eq_true rfl) de_R_ends_56 (fun v_ M_ hK_ hl_ hv_ => ?_)
    obtain ⟨rfl, h4, rfl, g4, t4⟩ := hK_
    have f4 : ∀ a, a ≠ 13 → h4 a = h a := fun a ha => (g4 a ha).trans ((fun a _ => rfl) a ha)
    change ab_G _ _ _ _ _ _ _ [(0, .ref (51 + j)), (1, .int x)] [] (ab_S nr h4 g rr) _
    refine ab_aload_n de_R_ends_59 0 rfl ?_
    refine ab_iload_n de_R_ends_60 1 rfl ?_
    refine ab_cV (as := [.int x]) (st := []) (ct_R_anyEnds l _ nr h4 g rr hj t4 (by first | omega | (simp only [List.length_append, List.length_cons, List.length_nil]; omega)) (rm_mv f4 e0) (rm_mv f4 e2) (rm_mv f4 e3) (x)) mo_R_anyEnds mi_R_anyEnds ml_R_73 hk_ (by decide) rfl rfl rfl (Nat.le_of_ble_eq_true rfl) de_R_ends_61 (fun v_ M_ hK_ hl_ hv_ => ?_)
    obtain ⟨rfl, h5, rfl, g5, t5⟩ := hK_
    have f5 : ∀ a, a ≠ 13 → h5 a = h a := fun a ha => (g5 a ha).trans (f4 a ha)
    change ab_G _ _ _ _ _ _ _ [(0, .ref (51 + j)), (1, .int x)] [.int (sp_ea kd num pr x)] (ab_S nr h5 g rr) _
    refine ab_iconst (v := 2) de_R_ends_64 rfl ?_
    refine ab_imul de_R_ends_65 ?_
    exact ab_ret (v := some (.int ((sp_ea kd num pr x) * (2 : Int32)))) de_R_ends_66 ⟨_, rfl⟩ ⟨congrArg (fun z => some (Value.int z)) (by rw [c_4_1_2]; rfl), _, rfl, f5, by have z := t5; rw [c_4_1_2] at z ⊢; simpa [sp_edb] using z⟩
  by_cases c_4_1_3 : kd = 7
  · refine ab_tableIn (tgt := 67) de_R_ends_4 (by rw [c_4_1_3]; decide) (by rw [c_4_1_3]; decide) (off := 63) (by rw [c_4_1_3]; rfl) rfl ?_
    refine ab_aload_n de_R_ends_67 0 rfl ?_
    refine ab_bipush (v := 81) de_R_ends_68 rfl ?_
    refine ab_cV (as := [.int (81 : Int32)]) (st := []) (ct_R_begins l _ nr h g rr hj ht (by first | omega | (simp only [List.length_append, List.length_cons, List.length_nil]; omega)) 81) mo_R_begins mi_R_begins ml_R_63 hk_ (by decide) rfl rfl rfl (Nat.le_of_ble_eq_true rfl) de_R_ends_70 (fun v_ M_ hK_ hl_ hv_ => ?_)
    obtain ⟨rfl, h6, rfl, g6, t6⟩ := hK_
    have f6 : ∀ a, a ≠ 13 → h6 a = h a := fun a ha => (g6 a ha).trans ((fun a _ => rfl) a ha)
    change ab_G _ _ _ _ _ _ _ [(0, .ref (51 + j)), (1, .int x)] [] (ab_S nr h6 g rr) _
    refine ab_aload_n de_R_ends_73 0 rfl ?_
    refine ab_iload_n de_R_ends_74 1 rfl ?_
    refine ab_aload_n de_R_ends_75 0 rfl ?_
    refine ab_get (v := .int (h6 (51 + j) 3)) fl_R_28 hk_ rfl de_R_ends_76 ?_
    refine ab_top (v' := pr) ((congrFun (f6 _ (by omega)) 3).trans e3) ?_
    refine ab_iadd de_R_ends_79 ?_
    refine ab_cV (as := [.int (x + pr)]) (st := []) (ct_R_anyEnds l _ nr h6 g rr hj t6 (by first | omega | (simp only [List.length_append, List.length_cons, List.length_nil]; omega)) (rm_mv f6 e0) (rm_mv f6 e2) (rm_mv f6 e3) (x + pr)) mo_R_anyEnds mi_R_anyEnds ml_R_73 hk_ (by decide) rfl rfl rfl (Nat.le_of_ble_eq_true rfl) de_R_ends_80 (fun v_ M_ hK_ hl_ hv_ => ?_)
    obtain ⟨rfl, h7, rfl, g7, t7⟩ := hK_
    have f7 : ∀ a, a ≠ 13 → h7 a = h a := fun a ha => (g7 a ha).trans (f6 a ha)
    change ab_G _ _ _ _ _ _ _ [(0, .ref (51 + j)), (1, .int x)] [.int (sp_ea kd num pr (x + pr))] (ab_S nr h7 g rr) _
    exact ab_ret (v := some (.int (sp_ea kd num pr (x + pr)))) de_R_ends_83 ⟨_, rfl⟩ ⟨congrArg (fun z => some (Value.int z)) (by rw [c_4_1_3]; rfl), _, rfl, f7, by have z := t7; rw [c_4_1_3] at z ⊢; simpa [sp_edb] using z⟩
  refine ab_tableOut (tgt := 84) de_R_ends_4 (ab_out47 c_4_1_0 c_4_1_1 c_4_1_2 c_4_1_3) rfl ?_
  refine ab_aload_n de_R_ends_84 0 rfl ?_
  refine ab_iload_n de_R_ends_85 1 rfl ?_
  refine ab_cV (as := [.int x]) (st := []) (ct_R_anyEnds l _ nr h g rr hj ht (by first | omega | (simp only [List.length_append, List.length_cons, List.length_nil]; omega)) (rm_mv (fun a _ => rfl) e0) (rm_mv (fun a _ => rfl) e2) (rm_mv (fun a _ => rfl) e3) (x)) mo_R_anyEnds mi_R_anyEnds ml_R_73 hk_ (by decide) rfl rfl rfl (Nat.le_of_ble_eq_true rfl) de_R_ends_86 (fun v_ M_ hK_ hl_ hv_ => ?_)
  obtain ⟨rfl, h8, rfl, g8, t8⟩ := hK_
  have f8 : ∀ a, a ≠ 13 → h8 a = h a := fun a ha => (g8 a ha).trans ((fun a _ => rfl) a ha)
  change ab_G _ _ _ _ _ _ _ [(0, .ref (51 + j)), (1, .int x)] [.int (sp_ea kd num pr x)] (ab_S nr h8 g rr) _
  exact ab_ret (v := some (.int (sp_ea kd num pr x))) de_R_ends_89 ⟨_, rfl⟩ ⟨congrArg (fun z => some (Value.int z)) (by unfold sp_ed; rw [if_neg c_4_1_0, if_neg c_4_1_2, if_neg c_4_1_3]), _, rfl, f8, by have z := t8; unfold sp_edb; rw [if_neg c_4_1_0, if_neg c_4_1_2, if_neg c_4_1_3]; exact z⟩
