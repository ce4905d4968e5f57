theorem ab_sub1 {c : Nat} (hc : 1 ≤ c) : nI c - 1 = nI (c - 1) := by
  obtain ⟨k, rfl⟩ : ∃ k, c = k + 1 := ⟨c - 1, by omega⟩
  rw [← ab_add k 1]
  apply Int32.toBitVec_inj.mp
  show BitVec.ofNat 32 k + 1#32 - 1#32 = BitVec.ofNat 32 (k + 1 - 1)
  rw [BitVec.add_sub_cancel]
  rfl
theorem ab_rem3 : ∀ k, k ≤ 12 → nI k - nI k / 3 * 3 = nI (k % 3) := by decide
theorem im_n {x : Int32} (h : ¬ ab_bz (sp_im x) = 0) : ∃ n, (sp_mv n ∧ n < 252) ∧ x = nI n := by
  have h1 := (ab_bz1 _).mp h
  by_cases hx : x < 0
  · rw [sp_im_neg hx] at h1; cases h1
  · obtain ⟨n, hn, rfl⟩ := sp_nn hx
    rw [sp_im_n hn] at h1
    have h2 := (sp_vm_iff n).mp h1
    exact ⟨n, ⟨h2, h2.1⟩, rfl⟩
theorem ab_sub_k {a b : Nat} (h : b ≤ a) : nI a - nI b = nI (a - b) := by
  obtain ⟨k, rfl⟩ : ∃ k, a = b + k := ⟨a - b, by omega⟩
  rw [← ab_add b k]
  apply Int32.toBitVec_inj.mp
  show BitVec.ofNat 32 b + BitVec.ofNat 32 k - BitVec.ofNat 32 b = BitVec.ofNat 32 (b + k - b)
  rw [BitVec.add_comm, BitVec.add_sub_cancel, Nat.add_sub_cancel_left]
theorem sp_wvv {v t : Nat} (hv : v < 3) (ht : t < 2) : nI v = nI (sp_wv (sp_wv v t) t) := by
  rcases (by omega : v = 0 ∨ v = 1 ∨ v = 2) with rfl | rfl | rfl <;> rcases (by omega : t = 0 ∨ t = 1) with rfl | rfl <;> rfl
theorem sp_bt2_n {x : Int32} {N : Nat} (hN : N < 2 ^ 31) (h0 : ¬ x < 0) (h1 : x ≤ nI N) : ∃ n, n ≤ N ∧ x = nI n := by
  obtain ⟨n, hn, rfl⟩ := sp_nn h0
  exact ⟨n, (ab_le hn hN).mp h1, rfl⟩
theorem sp_btl_n {x : Int32} {a N : Nat} (hN : N < 2 ^ 31) (h0 : nI a ≤ x) (ha : a < 2 ^ 31) (h1 : x ≤ nI N) : ∃ n, (a ≤ n ∧ n ≤ N) ∧ x = nI n := by
  obtain ⟨n, hn, rfl⟩ := sp_nn (Int32.not_lt.mpr (Int32.le_trans ((ab_le (a := 0) (by decide) ha).mpr (Nat.zero_le _)) h0))
  exact ⟨n, ⟨(ab_le ha hn).mp h0, (ab_le hn hN).mp h1⟩, rfl⟩
set_option maxHeartbeats 1000000 in
set_option maxRecDepth 10000 in
theorem ct_F_forget (l : Launch) (d : Nat) (nr : Nat) (h : Nat → Nat → Int32) (g : Nat → Nat → Int64) (rr : Nat → Option Nat) : ab_C l am_F_forget d 0 0 [.ref 14] (ab_S nr h g rr) (fun (r_ : Option Value) (M' : ab_Me) => r_ = none ∧ M' = ab_S nr (ab_u2 (ab_u2 (ab_u2 h 14 9 (0 : Int32)) 14 10 (-1 : Int32)) 14 11 (-1 : Int32)) g rr) := by
  refine ab_C_of (by decide +kernel) rfl (Nat.le_of_ble_eq_true rfl) ?_
  refine ab_aload_n de_F_forget_0 0 rfl ?_
  refine ab_iconst (v := 0) de_F_forget_1 rfl ?_
  refine ab_putI (x := 14) (j := 9) fl_F_46 rfl (Or.inr rfl) rfl rfl rfl de_F_forget_2 ?_
  change ab_G _ _ _ _ _ _ _ _ _ (ab_S nr (ab_u2 h 14 9 (0 : Int32)) g rr) _
  refine ab_aload_n de_F_forget_5 0 rfl ?_
  refine ab_iconst (v := -1) de_F_forget_6 rfl ?_
  refine ab_putI (x := 14) (j := 10) fl_F_50 rfl (Or.inl rfl) rfl rfl rfl de_F_forget_7 ?_
  change ab_G _ _ _ _ _ _ _ _ _ (ab_S nr (ab_u2 (ab_u2 h 14 9 (0 : Int32)) 14 10 (-1 : Int32)) g rr) _
  refine ab_aload_n de_F_forget_10 0 rfl ?_
  refine ab_iconst (v := -1) de_F_forget_11 rfl ?_
  refine ab_putI (x := 14) (j := 11) fl_F_53 rfl (Or.inl rfl) rfl rfl rfl de_F_forget_12 ?_
  change ab_G _ _ _ _ _ _ _ _ _ (ab_S nr (ab_u2 (ab_u2 (ab_u2 h 14 9 (0 : Int32)) 14 10 (-1 : Int32)) 14 11 (-1 : Int32)) g rr) _
  exact ab_ret (v := none) de_F_forget_15 rfl ⟨rfl, rfl⟩
theorem ab_out8 {x : Int32} (h0 : ¬ x = 0) (h1 : ¬ x = 1) (h2 : ¬ x = 2) (h3 : ¬ x = 3) (h4 : ¬ x = 4) (h5 : ¬ x = 5) (h6 : ¬ x = 6) (h7 : ¬ x = 7) : x.toInt < 0 ∨ 7 < x.toInt := by
  have e0 : ¬ x.toInt = 0 := lv_neT h0 rfl
  have e1 : ¬ x.toInt = 1 := lv_neT h1 rfl
  have e2 : ¬ x.toInt = 2 := lv_neT h2 rfl
  have e3 : ¬ x.toInt = 3 := lv_neT h3 rfl
  have e4 : ¬ x.toInt = 4 := lv_neT h4 rfl
  have e5 : ¬ x.toInt = 5 := lv_neT h5 rfl
  have e6 : ¬ x.toInt = 6 := lv_neT h6 rfl
  have e7 : ¬ x.toInt = 7 := lv_neT h7 rfl
  omega
theorem ab_out7 {x : Int32} (h0 : ¬ x = 0) (h1 : ¬ x = 1) (h2 : ¬ x = 2) (h3 : ¬ x = 3) (h4 : ¬ x = 4) (h5 : ¬ x = 5) (h6 : ¬ x = 6) : x.toInt < 0 ∨ 6 < x.toInt := by
  have e0 : ¬ x.toInt = 0 := lv_neT h0 rfl
  have e1 : ¬ x.toInt = 1 := lv_neT h1 rfl
  have e2 : ¬ x.toInt = 2 := lv_neT h2 rfl
  have e3 : ¬ x.toInt = 3 := lv_neT h3 rfl
  have e4 : ¬ x.toInt = 4 := lv_neT h4 rfl
  have e5 : ¬ x.toInt = 5 := lv_neT h5 rfl
  have e6 : ¬ x.toInt = 6 := lv_neT h6 rfl
  omega
def fv_tells (c : Nat) (w : Int32) : Int32 :=
  if w = 0 then
    (nI c)
  else
    if w = 1 then
      (nI (sp_cn (c - 1) % 3))
    else
      if w = 2 then
        (nI (sp_cn (c - 1) % 3))
      else
        if w = 3 then
          (nI (sp_pr c))
        else
          if w = 4 then
            (nI (sp_pr c))
          else
            if w = 5 then
              (nI (sp_pr c))
            else
              if w = 6 then
                (nI (c / 1024))
              else
                if w = 7 then
                  (nI (sp_pc c))
                else
                  (nI (sp_pr c))
set_option maxHeartbeats 1000000 in
set_option maxRecDepth 10000 in
theorem ct_R_tells (l : Launch) (d : Nat) (nr : Nat) (h : Nat → Nat → Int32) (g : Nat → Nat → Int64) (rr : Nat → Option Nat) {j : Nat} (hj : j < nr) {c : Nat} (hc : 1 ≤ c) (hc4 : c < 4096) (e1 : h (51 + j) 1 = nI c) (e3 : h (51 + j) 3 = nI (sp_pr c)) (w : Int32) : ab_C l am_R_tells (d + 2) 0 0 [.ref (51 + j), .int w] (ab_S nr h g rr) (fun (r_ : Option Value) (M' : ab_Me) => r_ = some (.int (fv_tells c w)) ∧ M' = (ab_S nr h g rr)) := by
  refine ab_C_of (by decide +kernel) rfl (Nat.le_of_ble_eq_true rfl) ?_
  refine ab_iload_n de_R_tells_0 1 rfl ?_
  by_cases c_1_1_0 : w = 0
  · refine ab_tableIn (tgt := 48) de_R_tells_1 (by rw [c_1_1_0]; decide) (by rw [c_1_1_0]; decide) (off := 47) (by rw [c_1_1_0]; rfl) rfl ?_
    refine ab_aload_n de_R_tells_48 0 rfl ?_
    refine ab_get (v := .int (h (51 + j) 1)) fl_R_15 (ab_rk hj) rfl de_R_tells_49 ?_
    refine ab_top (v' := nI c) (e1) ?_
    exact ab_ret (v := some (.int (nI c))) de_R_tells_52 ⟨_, rfl⟩ ⟨congrArg (fun z => some (Value.int z)) (by unfold fv_tells; rw [if_pos c_1_1_0]), rfl⟩
  by_cases c_1_1_1 : w = 1
  · refine ab_tableIn (tgt := 53) de_R_tells_1 (by rw [c_1_1_1]; decide) (by rw [c_1_1_1]; decide) (off := 52) (by rw [c_1_1_1]; rfl) rfl ?_
    refine ab_aload_n de_R_tells_53 0 rfl ?_
    refine ab_get (v := .int (h (51 + j) 1)) fl_R_15 (ab_rk hj) rfl de_R_tells_54 ?_
    refine ab_top (v' := nI c) (e1) ?_
    refine ab_iconst (v := 1) de_R_tells_57 rfl ?_
    refine ab_isub de_R_tells_58 ?_
    refine ab_top (v' := nI (c - 1)) (ab_sub1 hc) ?_
    refine ab_cS (as := [.int (nI (c - 1))]) (st := []) (ct_I_bitCount l _ (ab_S nr h g rr) (m := c - 1) (by omega)) mo_I_bitCount ms_I_bitCount ml_R_35 rfl rfl (Nat.le_of_ble_eq_true rfl) de_R_tells_59 (fun v_ M_ hK_ hl_ hv_ => ?_)
    obtain ⟨rfl, hm_⟩ := hK_
    have hm_ := hm_.symm
    subst hm_
    change ab_G _ _ _ _ _ _ _ [(0, .ref (51 + j)), (1, .int w)] [.int (nI (sp_cn (c - 1)))] (ab_S nr h g rr) _
    refine ab_iconst (v := 3) de_R_tells_62 rfl ?_
    refine ab_irem de_R_tells_63 (by decide) ?_
    refine ab_top (v' := nI (sp_cn (c - 1) % 3)) (ab_rem3 _ (sp_cn_le _)) ?_
    exact ab_ret (v := some (.int (nI (sp_cn (c - 1) % 3)))) de_R_tells_64 ⟨_, rfl⟩ ⟨congrArg (fun z => some (Value.int z)) (by unfold fv_tells; rw [if_neg c_1_1_0, if_pos c_1_1_1]), rfl⟩
  by_cases c_1_1_2 : w = 2
  · refine ab_tableIn (tgt := 53) de_R_tells_1 (by rw [c_1_1_2]; decide) (by rw [c_1_1_2]; decide) (off := 52) (by rw [c_1_1_2]; rfl) rfl ?_
    refine ab_aload_n de_R_tells_53 0 rfl ?_
    refine ab_get (v := .int (h (51 + j) 1)) fl_R_15 (ab_rk hj) rfl de_R_tells_54 ?_
    refine ab_top (v' := nI c) (e1) ?_
    refine ab_iconst (v := 1) de_R_tells_57 rfl ?_
    refine ab_isub de_R_tells_58 ?_
    refine ab_top (v' := nI (c - 1)) (ab_sub1 hc) ?_
    refine ab_cS (as := [.int (nI (c - 1))]) (st := []) (ct_I_bitCount l _ (ab_S nr h g rr) (m := c - 1) (by omega)) mo_I_bitCount ms_I_bitCount ml_R_35 rfl rfl (Nat.le_of_ble_eq_true rfl) de_R_tells_59 (fun v_ M_ hK_ hl_ hv_ => ?_)
    obtain ⟨rfl, hm_⟩ := hK_
    have hm_ := hm_.symm
    subst hm_
    change ab_G _ _ _ _ _ _ _ [(0, .ref (51 + j)), (1, .int w)] [.int (nI (sp_cn (c - 1)))] (ab_S nr h g rr) _
    refine ab_iconst (v := 3) de_R_tells_62 rfl ?_
    refine ab_irem de_R_tells_63 (by decide) ?_
    refine ab_top (v' := nI (sp_cn (c - 1) % 3)) (ab_rem3 _ (sp_cn_le _)) ?_
    exact ab_ret (v := some (.int (nI (sp_cn (c - 1) % 3)))) de_R_tells_64 ⟨_, rfl⟩ ⟨congrArg (fun z => some (Value.int z)) (by unfold fv_tells; rw [if_neg c_1_1_0, if_neg c_1_1_1, if_pos c_1_1_2]), rfl⟩
  by_cases c_1_1_3 : w = 3
  · refine ab_tableIn (tgt := 81) de_R_tells_1 (by rw [c_1_1_3]; decide) (by rw [c_1_1_3]; decide) (off := 80) (by rw [c_1_1_3]; rfl) rfl ?_
    refine ab_aload_n de_R_tells_81 0 rfl ?_
    refine ab_get (v := .int (h (51 + j) 3)) fl_R_28 (ab_rk hj) rfl de_R_tells_82 ?_
    refine ab_top (v' := nI (sp_pr c)) (e3) ?_
    exact ab_ret (v := some (.int (nI (sp_pr c)))) de_R_tells_85 ⟨_, rfl⟩ ⟨congrArg (fun z => some (Value.int z)) (by unfold fv_tells; rw [if_neg c_1_1_0, if_neg c_1_1_1, if_neg c_1_1_2, if_pos c_1_1_3]), rfl⟩
  by_cases c_1_1_4 : w = 4
  · refine ab_tableIn (tgt := 81) de_R_tells_1 (by rw [c_1_1_4]; decide) (by rw [c_1_1_4]; decide) (off := 80) (by rw [c_1_1_4]; rfl) rfl ?_
    refine ab_aload_n de_R_tells_81 0 rfl ?_
    refine ab_get (v := .int (h (51 + j) 3)) fl_R_28 (ab_rk hj) rfl de_R_tells_82 ?_
    refine ab_top (v' := nI (sp_pr c)) (e3) ?_
    exact ab_ret (v := some (.int (nI (sp_pr c)))) de_R_tells_85 ⟨_, rfl⟩ ⟨congrArg (fun z => some (Value.int z)) (by unfold fv_tells; rw [if_neg c_1_1_0, if_neg c_1_1_1, if_neg c_1_1_2, if_neg c_1_1_3, if_pos c_1_1_4]), rfl⟩
  by_cases c_1_1_5 : w = 5
  · refine ab_tableIn (tgt := 81) de_R_tells_1 (by rw [c_1_1_5]; decide) (by rw [c_1_1_5]; decide) (off := 80) (by rw [c_1_1_5]; rfl) rfl ?_
    refine ab_aload_n de_R_tells_81 0 rfl ?_
    refine ab_get (v := .int (h (51 + j) 3)) fl_R_28 (ab_rk hj) rfl de_R_tells_82 ?_
    refine ab_top (v' := nI (sp_pr c)) (e3) ?_
    exact ab_ret (v := some (.int (nI (sp_pr c)))) de_R_tells_85 ⟨_, rfl⟩ ⟨congrArg (fun z => some (Value.int z)) (by unfold fv_tells; rw [if_neg c_1_1_0, if_neg c_1_1_1, if_neg c_1_1_2, if_neg c_1_1_3, if_neg c_1_1_4, if_pos c_1_1_5]), rfl⟩
  by_cases c_1_1_6 : w = 6
  · refine ab_tableIn (tgt := 65) de_R_tells_1 (by rw [c_1_1_6]; decide) (by rw [c_1_1_6]; decide) (off := 64) (by rw [c_1_1_6]; rfl) rfl ?_
    refine ab_aload_n de_R_tells_65 0 rfl ?_
    refine ab_get (v := .int (h (51 + j) 1)) fl_R_15 (ab_rk hj) rfl de_R_tells_66 ?_
    refine ab_top (v' := nI c) (e1) ?_
    refine ab_bipush (v := 10) de_R_tells_69 rfl ?_
    refine ab_ishr de_R_tells_71 ?_
    refine ab_top (v' := nI (c / 1024)) (sp_10 hc4) ?_
    exact ab_ret (v := some (.int (nI (c / 1024)))) de_R_tells_72 ⟨_, rfl⟩ ⟨congrArg (fun z => some (Value.int z)) (by unfold fv_tells; rw [if_neg c_1_1_0, if_neg c_1_1_1, if_neg c_1_1_2, if_neg c_1_1_3, if_neg c_1_1_4, if_neg c_1_1_5, if_pos c_1_1_6]), rfl⟩
  by_cases c_1_1_7 : w = 7
  · refine ab_tableIn (tgt := 73) de_R_tells_1 (by rw [c_1_1_7]; decide) (by rw [c_1_1_7]; decide) (off := 72) (by rw [c_1_1_7]; rfl) rfl ?_
    refine ab_aload_n de_R_tells_73 0 rfl ?_
    refine ab_get (v := .int (h (51 + j) 1)) fl_R_15 (ab_rk hj) rfl de_R_tells_74 ?_
    refine ab_top (v' := nI c) (e1) ?_
    refine ab_cS (as := [.int (nI c)]) (st := []) (ct_R_partCount l _ (ab_S nr h g rr) hc4) mo_R_partCount ms_R_partCount ml_R_40 rfl rfl (Nat.le_of_ble_eq_true rfl) de_R_tells_77 (fun v_ M_ hK_ hl_ hv_ => ?_)
    obtain ⟨rfl, hm_⟩ := hK_
    have hm_ := hm_.symm
    subst hm_
    change ab_G _ _ _ _ _ _ _ [(0, .ref (51 + j)), (1, .int w)] [.int (nI (sp_pc c))] (ab_S nr h g rr) _
    exact ab_ret (v := some (.int (nI (sp_pc c)))) de_R_tells_80 ⟨_, rfl⟩ ⟨congrArg (fun z => some (Value.int z)) (by unfold fv_tells; rw [if_neg c_1_1_0, if_neg c_1_1_1, if_neg c_1_1_2, if_neg c_1_1_3, if_neg c_1_1_4, if_neg c_1_1_5, if_neg c_1_1_6, if_pos c_1_1_7]), rfl⟩
  refine ab_tableOut (tgt := 81) de_R_tells_1 (ab_out8 c_1_1_0 c_1_1_1 c_1_1_2 c_1_1_3 c_1_1_4 c_1_1_5 c_1_1_6 c_1_1_7) rfl ?_
  refine ab_aload_n de_R_tells_81 0 rfl ?_
  refine ab_get (v := .int (h (51 + j) 3)) fl_R_28 (ab_rk hj) rfl de_R_tells_82 ?_
  refine ab_top (v' := nI (sp_pr c)) (e3) ?_
  exact ab_ret (v := some (.int (nI (sp_pr c)))) de_R_tells_85 ⟨_, rfl⟩ ⟨congrArg (fun z => some (Value.int z)) (by unfold fv_tells; rw [if_neg c_1_1_0, if_neg c_1_1_1, if_neg c_1_1_2, if_neg c_1_1_3, if_neg c_1_1_4, if_neg c_1_1_5, if_neg c_1_1_6, if_neg c_1_1_7]), rfl⟩
set_option maxHeartbeats 1000000 in
set_option maxRecDepth 10000 in
theorem ct_W_ruleAt_t (l : Launch) (d : Nat) (nr : Nat) (h : Nat → Nat → Int32) (g : Nat → Nat → Int64) (rr : Nat → Option Nat) {n_ : Nat} (hR0 : h 0 4 = nI n_) (hn8 : n_ ≤ 8) {q cs : Nat → Nat} (hR : ru_ok nr n_ q cs h rr) {j : Nat} (hj : j < n_) {x : Int32} (ej : x = nI j) : ab_C l am_W_ruleAt (d + 1) 0 0 [.ref 0, .int x] (ab_S nr h g rr) (fun (r_ : Option Value) (M' : ab_Me) => r_ = some (.ref (51 + q j)) ∧ M' = (ab_S nr h g rr)) := by
  have hx_ : 0 ≤ x ∧ x < nI n_ := by rw [ej]; exact ⟨(ab_le (a := 0) (by decide) (by omega)).mpr (Nat.zero_le _), (ab_lt (by omega) (by omega)).mpr hj⟩
  refine ab_C_of (by decide +kernel) rfl (Nat.le_of_ble_eq_true rfl) ?_
  refine ab_aload_n de_W_ruleAt_0 0 rfl ?_
  refine ab_iload_n de_W_ruleAt_1 1 rfl ?_
  refine ab_cV (as := [.int x]) (st := []) (ct_W_isRule l _ nr h g rr hR0 x) mo_W_isRule mi_W_isRule ml_W_112 rfl (by decide) rfl rfl rfl (Nat.le_of_ble_eq_true rfl) de_W_ruleAt_2 (fun v_ M_ hK_ hl_ hv_ => ?_)
  obtain ⟨rfl, hm_⟩ := hK_
  have hm_ := hm_.symm
  subst hm_
  change ab_G _ _ _ _ _ _ _ [(0, .ref 0), (1, .int x)] [.int (ab_bz (decide (0 ≤ x ∧ x < nI n_)))] (ab_S nr h g rr) _
  refine ab_if_eq (tgt := 17) de_W_ruleAt_5 rfl (fun c_5_1 => ?_) (fun c_5_1 => ?_)
  · exact absurd c_5_1 (by rw [decide_eq_true hx_]; decide)
  · refine ab_aload_n de_W_ruleAt_8 0 rfl ?_
    refine ab_get (v := .ref 12) fl_W_23 rfl rfl de_W_ruleAt_9 ?_
    refine ab_iload_n de_W_ruleAt_12 1 rfl ?_
    refine ab_aald (v := .ref (51 + q j)) rfl (by rw [ej]; exact ab_in (by omega) (by decide)) (by show va_rf (rr x.toNatClampNeg) = _; rw [ej, ab_tn (by omega), (hR j hj).2.1]; rfl) de_W_ruleAt_13 ?_
    refine ab_goto (tgt := 18) de_W_ruleAt_14 rfl ?_
    exact ab_ret (v := some (.ref (51 + q j))) de_W_ruleAt_18 (Or.inr ⟨_, rfl⟩) ⟨rfl, rfl⟩
set_option maxHeartbeats 1000000 in
set_option maxRecDepth 10000 in
theorem ct_W_ruleAt_f (l : Launch) (d : Nat) (nr : Nat) (h : Nat → Nat → Int32) (g : Nat → Nat → Int64) (rr : Nat → Option Nat) {n_ : Nat} (hR0 : h 0 4 = nI n_) (hn8 : n_ ≤ 8) {x : Int32} (hx_ : ¬ (0 ≤ x ∧ x < nI n_)) : ab_C l am_W_ruleAt (d + 1) 0 0 [.ref 0, .int x] (ab_S nr h g rr) (fun (r_ : Option Value) (M' : ab_Me) => r_ = some (.null) ∧ M' = (ab_S nr h g rr)) := by
  refine ab_C_of (by decide +kernel) rfl (Nat.le_of_ble_eq_true rfl) ?_
  refine ab_aload_n de_W_ruleAt_0 0 rfl ?_
  refine ab_iload_n de_W_ruleAt_1 1 rfl ?_
  refine ab_cV (as := [.int x]) (st := []) (ct_W_isRule l _ nr h g rr hR0 x) mo_W_isRule mi_W_isRule ml_W_112 rfl (by decide) rfl rfl rfl (Nat.le_of_ble_eq_true rfl) de_W_ruleAt_2 (fun v_ M_ hK_ hl_ hv_ => ?_)
  obtain ⟨rfl, hm_⟩ := hK_
  have hm_ := hm_.symm
  subst hm_
  change ab_G _ _ _ _ _ _ _ [(0, .ref 0), (1, .int x)] [.int (ab_bz (decide (0 ≤ x ∧ x < nI n_)))] (ab_S nr h g rr) _
  refine ab_if_eq (tgt := 17) de_W_ruleAt_5 rfl (fun c_5_1 => ?_) (fun c_5_1 => ?_)
  · refine ab_null de_W_ruleAt_17 ?_
    exact ab_ret (v := some (.null)) de_W_ruleAt_18 (Or.inl rfl) ⟨rfl, rfl⟩
  · exact absurd c_5_1 (by rw [decide_eq_false hx_]; decide)
def fx_W_says (nr : Nat) (h : Nat → Nat → Int32) (g : Nat → Nat → Int64) (rr : Nat → Option Nat) (n_ : Nat) (q cs : Nat → Nat)  (s x : Int32) : Option Value × ab_Me :=
  if (ab_bz (sp_sh s)) = 0 then
    (some (.int (-1 : Int32)), (ab_S nr (ab_u2 h 28 1 (h 28 1 + 1)) g rr))
  else
    if x < 0 then
      (some (.int (-1 : Int32)), (ab_S nr (ab_u2 h 28 1 (h 28 1 + 1)) g rr))
    else
      if x ≤ (7 : Int32) then
        if (h 1 s.toNatClampNeg) = (-1 : Int32) then
          (some (.int (-3 : Int32)), (ab_S nr (ab_u2 h 28 3 (h 28 3 + 1)) g rr))
        else
          if 0 ≤ (h 1 s.toNatClampNeg) ∧ (h 1 s.toNatClampNeg) < nI n_ then
            if (ab_bz (sp_of x (nI (sp_kd (cs (h 1 s.toNatClampNeg).toNatClampNeg))))) = 0 then
              (some (.int (-2 : Int32)), (ab_S nr (ab_u2 h 28 2 (h 28 2 + 1)) g rr))
            else
              (some (.int (fv_tells (cs (h 1 s.toNatClampNeg).toNatClampNeg) x)), (ab_S nr h g rr))
          else
            (some (.int (-2 : Int32)), (ab_S nr (ab_u2 h 28 2 (h 28 2 + 1)) g rr))
      else
        (some (.int (-1 : Int32)), (ab_S nr (ab_u2 h 28 1 (h 28 1 + 1)) g rr))
set_option maxHeartbeats 1000000 in
set_option maxRecDepth 10000 in
theorem ct_W_says (l : Launch) (d : Nat) (nr : Nat) (h : Nat → Nat → Int32) (g : Nat → Nat → Int64) (rr : Nat → Option Nat) {n_ : Nat} (hn8 : n_ ≤ 8) (hR0 : h 0 4 = nI n_) {q cs : Nat → Nat} (hR : ru_ok nr n_ q cs h rr)  (s x : Int32) : ab_C l am_W_says (d + 3) 0 0 [.ref 0, .int s, .int x] (ab_S nr h g rr) (fun r_ M' => (r_, M') = fx_W_says nr h g rr n_ q cs s x) := by
  refine ab_C_of (by decide +kernel) rfl (Nat.le_of_ble_eq_true rfl) ?_
  refine ab_iload_n de_W_says_0 1 rfl ?_
  refine ab_cS (as := [.int s]) (st := []) (ct_W_isShelf l _ (ab_S nr h g rr) (s)) mo_W_isShelf ms_W_isShelf ml_W_84 rfl rfl (Nat.le_of_ble_eq_true rfl) de_W_says_1 (fun v_ M_ hK_ hl_ hv_ => ?_)
  obtain ⟨rfl, hm_⟩ := hK_
  have hm_ := hm_.symm
  subst hm_
  change ab_G _ _ _ _ _ _ _ [(0, .ref 0), (1, .int s), (2, .int x)] [.int (ab_bz (sp_sh s))] (ab_S nr h g rr) _
  refine ab_if_eq (tgt := 17) de_W_says_4 rfl (fun c_4_1 => ?_) (fun c_4_1 => ?_)
  · refine ab_aload_n de_W_says_17 0 rfl ?_
    refine ab_iconst (v := -1) de_W_says_18 rfl ?_
    refine ab_cV (as := [.int (-1 : Int32)]) (st := []) (ct_W_refuse l _ nr h g rr (r := (-1 : Int32)) (k := 1) (by decide) (by decide)) mo_W_refuse mi_W_refuse ml_W_88 rfl (by decide) rfl rfl rfl (Nat.le_of_ble_eq_true rfl) de_W_says_19 (fun v_ M_ hK_ hl_ hv_ => ?_)
    obtain ⟨rfl, hm_⟩ := hK_
    have hm_ := hm_.symm
    subst hm_
    change ab_G _ _ _ _ _ _ _ [(0, .ref 0), (1, .int s), (2, .int x)] [.int (-1 : Int32)] (ab_S nr (ab_u2 h 28 1 (h 28 1 + 1)) g rr) _
    exact ab_ret (v := some (.int (-1 : Int32))) de_W_says_22 ⟨_, rfl⟩ (by unfold fx_W_says; rw [if_pos c_4_1])
  · obtain ⟨sn, hsn, rfl⟩ := sp_sh_n c_4_1
    refine ab_iload_n de_W_says_7 2 rfl ?_
    refine ab_if_lt (tgt := 17) de_W_says_8 rfl (fun c_8_2 => ?_) (fun c_8_2 => ?_)
    · refine ab_aload_n de_W_says_17 0 rfl ?_
      refine ab_iconst (v := -1) de_W_says_18 rfl ?_
      refine ab_cV (as := [.int (-1 : Int32)]) (st := []) (ct_W_refuse l _ nr h g rr (r := (-1 : Int32)) (k := 1) (by decide) (by decide)) mo_W_refuse mi_W_refuse ml_W_88 rfl (by decide) rfl rfl rfl (Nat.le_of_ble_eq_true rfl) de_W_says_19 (fun v_ M_ hK_ hl_ hv_ => ?_)
      obtain ⟨rfl, hm_⟩ := hK_
      have hm_ := hm_.symm
      subst hm_
      change ab_G _ _ _ _ _ _ _ [(0, .ref 0), (1, .int (nI sn)), (2, .int x)] [.int (-1 : Int32)] (ab_S nr (ab_u2 h 28 1 (h 28 1 + 1)) g rr) _
      exact ab_ret (v := some (.int (-1 : Int32))) de_W_says_22 ⟨_, rfl⟩ (by unfold fx_W_says; try simp only [ab_tn (show sn < 2 ^ 31 by omega)]; rw [if_neg c_4_1, if_pos c_8_2])
    · refine ab_iload_n de_W_says_11 2 rfl ?_
      refine ab_bipush (v := 7) de_W_says_12 rfl ?_
      refine ab_icmp_le (tgt := 23) de_W_says_14 rfl (fun c_14_3 => ?_) (fun c_14_3 => ?_)
      · refine ab_aload_n de_W_says_23 0 rfl ?_
        refine ab_get (v := .ref 1) fl_W_9 rfl rfl de_W_says_24 ?_
        refine ab_iload_n de_W_says_27 1 rfl ?_
        refine ab_iald (v := h 1 sn) rfl (ab_in (by omega) (by decide)) (ab_hv (ab_tn (n := sn) (by omega))) de_W_says_28 ?_
        refine ab_iconst (v := -1) de_W_says_29 rfl ?_
        refine ab_icmp_ne (tgt := 40) de_W_says_30 rfl (fun c_30_4 => ?_) (fun c_30_4 => ?_)
        · refine ab_aload_n de_W_says_40 0 rfl ?_
          refine ab_aload_n de_W_says_41 0 rfl ?_
          refine ab_get (v := .ref 1) fl_W_9 rfl rfl de_W_says_42 ?_
          refine ab_iload_n de_W_says_45 1 rfl ?_
          refine ab_iald (v := h 1 sn) rfl (ab_in (by omega) (by decide)) (ab_hv (ab_tn (n := sn) (by omega))) de_W_says_46 ?_
          by_cases c_47_5 : 0 ≤ (h 1 sn) ∧ (h 1 sn) < nI n_
          · obtain ⟨jn, hjn, ej⟩ := sp_bt_n (N := n_) (by omega) (Int32.not_lt.mpr c_47_5.1) c_47_5.2
            have ejn : ((h 1 sn)).toNatClampNeg = jn := by rw [ej]; exact ab_tn (by omega)
            refine ab_cV (as := [.int (h 1 sn)]) (st := []) (ct_W_ruleAt_t l _ nr h g rr hR0 hn8 hR hjn ej) mo_W_ruleAt mi_W_ruleAt ml_W_115 rfl (by decide) rfl rfl rfl (Nat.le_of_ble_eq_true rfl) de_W_says_47 (fun v_ M_ hK_ hl_ hv_ => ?_)
            obtain ⟨rfl, hm_⟩ := hK_
            have hm_ := hm_.symm
            subst hm_
            change ab_G _ _ _ _ _ _ _ [(0, .ref 0), (1, .int (nI sn)), (2, .int x)] [.ref (51 + q jn)] (ab_S nr h g rr) _
            refine ab_astore_n (L' := [(3, .ref (51 + q jn)), (0, .ref 0), (1, .int (nI sn)), (2, .int x)]) de_W_says_50 (by decide) rfl ?_
            refine ab_aload_n de_W_says_51 0 rfl ?_
            refine ab_ifnull_r de_W_says_52 ?_
            refine ab_aload_n de_W_says_55 0 rfl ?_
            refine ab_iload_n de_W_says_56 3 rfl ?_
            refine ab_cV (as := [.int x]) (st := []) (ct_R_isOf l _ nr h g rr (hR jn hjn).1 (hR jn hjn).2.2.2.2.1 x) mo_R_isOf mi_R_isOf ml_W_119 (ab_rk (hR _ hjn).1) (by decide) rfl rfl rfl (Nat.le_of_ble_eq_true rfl) de_W_says_57 (fun v_ M_ hK_ hl_ hv_ => ?_)
            obtain ⟨rfl, hm_⟩ := hK_
            have hm_ := hm_.symm
            subst hm_
            change ab_G _ _ _ _ _ _ _ [(3, .ref (51 + q jn)), (0, .ref 0), (1, .int (nI sn)), (2, .int x)] [.int (ab_bz (sp_of x (nI (sp_kd (cs jn)))))] (ab_S nr h g rr) _
            refine ab_if_ne (tgt := 70) de_W_says_60 rfl (fun c_60_6 => ?_) (fun c_60_6 => ?_)
            · refine ab_aload_n de_W_says_70 0 rfl ?_
              refine ab_iload_n de_W_says_71 3 rfl ?_
              refine ab_cV (as := [.int x]) (st := []) (ct_R_tells l _ nr h g rr (hR jn hjn).1 (hR jn hjn).2.2.2.2.2.2.1 (hR jn hjn).2.2.2.2.2.2.2 (hR jn hjn).2.2.2.1 (hR jn hjn).2.2.2.2.2.1 x) mo_R_tells mi_R_tells ml_W_122 (ab_rk (hR _ hjn).1) (by decide) rfl rfl rfl (Nat.le_of_ble_eq_true rfl) de_W_says_72 (fun v_ M_ hK_ hl_ hv_ => ?_)
              obtain ⟨rfl, hm_⟩ := hK_
              have hm_ := hm_.symm
              subst hm_
              change ab_G _ _ _ _ _ _ _ [(3, .ref (51 + q jn)), (0, .ref 0), (1, .int (nI sn)), (2, .int x)] [.int (fv_tells (cs jn) x)] (ab_S nr h g rr) _
              exact ab_ret (v := some (.int (fv_tells (cs jn) x))) de_W_says_75 ⟨_, rfl⟩ (by unfold fx_W_says; try simp only [ab_tn (show sn < 2 ^ 31 by omega), ejn]; rw [if_neg c_4_1, if_neg c_8_2, if_pos c_14_3, if_neg c_30_4, if_pos c_47_5, if_neg c_60_6])
            · refine ab_aload_n de_W_says_63 1 rfl ?_
              refine ab_bipush (v := -2) de_W_says_64 rfl ?_
              refine ab_cV (as := [.int (-2 : Int32)]) (st := []) (ct_W_refuse l _ nr h g rr (r := (-2 : Int32)) (k := 2) (by decide) (by decide)) mo_W_refuse mi_W_refuse ml_W_88 rfl (by decide) rfl rfl rfl (Nat.le_of_ble_eq_true rfl) de_W_says_66 (fun v_ M_ hK_ hl_ hv_ => ?_)
              obtain ⟨rfl, hm_⟩ := hK_
              have hm_ := hm_.symm
              subst hm_
              change ab_G _ _ _ _ _ _ _ [(3, .ref (51 + q jn)), (0, .ref 0), (1, .int (nI sn)), (2, .int x)] [.int (-2 : Int32)] (ab_S nr (ab_u2 h 28 2 (h 28 2 + 1)) g rr) _
              exact ab_ret (v := some (.int (-2 : Int32))) de_W_says_69 ⟨_, rfl⟩ (by unfold fx_W_says; try simp only [ab_tn (show sn < 2 ^ 31 by omega), ejn]; rw [if_neg c_4_1, if_neg c_8_2, if_pos c_14_3, if_neg c_30_4, if_pos c_47_5, if_pos c_60_6])
          · refine ab_cV (as := [.int (h 1 sn)]) (st := []) (ct_W_ruleAt_f l _ nr h g rr hR0 hn8 c_47_5) mo_W_ruleAt mi_W_ruleAt ml_W_115 rfl (by decide) rfl rfl rfl (Nat.le_of_ble_eq_true rfl) de_W_says_47 (fun v_ M_ hK_ hl_ hv_ => ?_)
            obtain ⟨rfl, hm_⟩ := hK_
            have hm_ := hm_.symm
            subst hm_
            change ab_G _ _ _ _ _ _ _ [(0, .ref 0), (1, .int (nI sn)), (2, .int x)] [.null] (ab_S nr h g rr) _
            refine ab_astore0_n (L' := [(3, .null), (0, .ref 0), (1, .int (nI sn)), (2, .int x)]) de_W_says_50 (by decide) rfl ?_
            refine ab_aload0_n de_W_says_51 0 rfl ?_
            refine ab_ifnull_0 (tgt := 63) de_W_says_52 rfl ?_
            refine ab_aload_n de_W_says_63 1 rfl ?_
            refine ab_bipush (v := -2) de_W_says_64 rfl ?_
            refine ab_cV (as := [.int (-2 : Int32)]) (st := []) (ct_W_refuse l _ nr h g rr (r := (-2 : Int32)) (k := 2) (by decide) (by decide)) mo_W_refuse mi_W_refuse ml_W_88 rfl (by decide) rfl rfl rfl (Nat.le_of_ble_eq_true rfl) de_W_says_66 (fun v_ M_ hK_ hl_ hv_ => ?_)
            obtain ⟨rfl, hm_⟩ := hK_
            have hm_ := hm_.symm
            subst hm_
            change ab_G _ _ _ _ _ _ _ [(3, .null), (0, .ref 0), (1, .int (nI sn)), (2, .int x)] [.int (-2 : Int32)] (ab_S nr (ab_u2 h 28 2 (h 28 2 + 1)) g rr) _
            exact ab_ret (v := some (.int (-2 : Int32))) de_W_says_69 ⟨_, rfl⟩ (by unfold fx_W_says; try simp only [ab_tn (show sn < 2 ^ 31 by omega)]; rw [if_neg c_4_1, if_neg c_8_2, if_pos c_14_3, if_neg c_30_4, if_neg c_47_5])
        · refine ab_aload_n de_W_says_33 0 rfl ?_
          refine ab_bipush (v := -3) de_W_says_34 rfl ?_
          refine ab_cV (as := [.int (-3 : Int32)]) (st := []) (ct_W_refuse l _ nr h g rr (r := (-3 : Int32)) (k := 3) (by decide) (by decide)) mo_W_refuse mi_W_refuse ml_W_88 rfl (by decide) rfl rfl rfl (Nat.le_of_ble_eq_true rfl) de_W_says_36 (fun v_ M_ hK_ hl_ hv_ => ?_)
          obtain ⟨rfl, hm_⟩ := hK_
          have hm_ := hm_.symm
          subst hm_
          change ab_G _ _ _ _ _ _ _ [(0, .ref 0), (1, .int (nI sn)), (2, .int x)] [.int (-3 : Int32)] (ab_S nr (ab_u2 h 28 3 (h 28 3 + 1)) g rr) _
          exact ab_ret (v := some (.int (-3 : Int32))) de_W_says_39 ⟨_, rfl⟩ (by unfold fx_W_says; try simp only [ab_tn (show sn < 2 ^ 31 by omega)]; rw [if_neg c_4_1, if_neg c_8_2, if_pos c_14_3, if_pos c_30_4])
      · refine ab_aload_n de_W_says_17 0 rfl ?_
        refine ab_iconst (v := -1) de_W_says_18 rfl ?_
        refine ab_cV (as := [.int (-1 : Int32)]) (st := []) (ct_W_refuse l _ nr h g rr (r := (-1 : Int32)) (k := 1) (by decide) (by decide)) mo_W_refuse mi_W_refuse ml_W_88 rfl (by decide) rfl rfl rfl (Nat.le_of_ble_eq_true rfl) de_W_says_19 (fun v_ M_ hK_ hl_ hv_ => ?_)
        obtain ⟨rfl, hm_⟩ := hK_
        have hm_ := hm_.symm
        subst hm_
        change ab_G _ _ _ _ _ _ _ [(0, .ref 0), (1, .int (nI sn)), (2, .int x)] [.int (-1 : Int32)] (ab_S nr (ab_u2 h 28 1 (h 28 1 + 1)) g rr) _
        exact ab_ret (v := some (.int (-1 : Int32))) de_W_says_22 ⟨_, rfl⟩ (by unfold fx_W_says; try simp only [ab_tn (show sn < 2 ^ 31 by omega)]; rw [if_neg c_4_1, if_neg c_8_2, if_neg c_14_3])
def fx_W_ruleOf (nr : Nat) (h : Nat → Nat → Int32) (g : Nat → Nat → Int64) (rr : Nat → Option Nat) (n_ : Nat) (q cs : Nat → Nat)  (x y : Int32) : Option Value × ab_Me :=
  if 0 ≤ x ∧ x < nI n_ then
    if y < 0 then
      (some (.int (-5 : Int32)), (ab_S nr (ab_u2 h 28 5 (h 28 5 + 1)) g rr))
    else
      if y ≤ (2 : Int32) then
        if y = 0 then
          (some (.int (nI (cs x.toNatClampNeg))), (ab_S nr h g rr))
        else
          if y = (1 : Int32) then
            (some (.int (nI (sp_kd (cs x.toNatClampNeg)))), (ab_S nr h g rr))
          else
            (some (.int (nI (sp_pr (cs x.toNatClampNeg)))), (ab_S nr h g rr))
      else
        (some (.int (-5 : Int32)), (ab_S nr (ab_u2 h 28 5 (h 28 5 + 1)) g rr))
  else
    (some (.int (-5 : Int32)), (ab_S nr (ab_u2 h 28 5 (h 28 5 + 1)) g rr))
set_option maxHeartbeats 1000000 in
set_option maxRecDepth 10000 in
theorem ct_W_ruleOf (l : Launch) (d : Nat) (nr : Nat) (h : Nat → Nat → Int32) (g : Nat → Nat → Int64) (rr : Nat → Option Nat) {n_ : Nat} (hn8 : n_ ≤ 8) (hR0 : h 0 4 = nI n_) {q cs : Nat → Nat} (hR : ru_ok nr n_ q cs h rr)  (x y : Int32) : ab_C l am_W_ruleOf (d + 2) 0 0 [.ref 0, .int x, .int y] (ab_S nr h g rr) (fun r_ M' => (r_, M') = fx_W_ruleOf nr h g rr n_ q cs x y) := by
  refine ab_C_of (by decide +kernel) rfl (Nat.le_of_ble_eq_true rfl) ?_
  refine ab_aload_n de_W_ruleOf_0 0 rfl ?_
  refine ab_iload_n de_W_ruleOf_1 1 rfl ?_
  by_cases c_2_1 : 0 ≤ x ∧ x < nI n_
  · obtain ⟨jn, hjn, ej⟩ := sp_bt_n (N := n_) (by omega) (Int32.not_lt.mpr c_2_1.1) c_2_1.2
    have ejn : (x).toNatClampNeg = jn := by rw [ej]; exact ab_tn (by omega)
    refine ab_cV (as := [.int x]) (st := []) (ct_W_ruleAt_t l _ nr h g rr hR0 hn8 hR hjn ej) mo_W_ruleAt mi_W_ruleAt ml_W_115 rfl (by decide) rfl rfl rfl (Nat.le_of_ble_eq_true rfl) de_W_ruleOf_2 (fun v_ M_ hK_ hl_ hv_ => ?_)
    obtain ⟨rfl, hm_⟩ := hK_
    have hm_ := hm_.symm
    subst hm_
    change ab_G _ _ _ _ _ _ _ [(0, .ref 0), (1, .int x), (2, .int y)] [.ref (51 + q jn)] (ab_S nr h g rr) _
    refine ab_astore_n (L' := [(3, .ref (51 + q jn)), (0, .ref 0), (1, .int x), (2, .int y)]) de_W_ruleOf_5 (by decide) rfl ?_
    refine ab_aload_n de_W_ruleOf_6 0 rfl ?_
    refine ab_ifnull_r de_W_ruleOf_7 ?_
    refine ab_iload_n de_W_ruleOf_10 3 rfl ?_
    refine ab_if_lt (tgt := 19) de_W_ruleOf_11 rfl (fun c_11_2 => ?_) (fun c_11_2 => ?_)
    · refine ab_aload_n de_W_ruleOf_19 1 rfl ?_
      refine ab_bipush (v := -5) de_W_ruleOf_20 rfl ?_
      refine ab_cV (as := [.int (-5 : Int32)]) (st := []) (ct_W_refuse l _ nr h g rr (r := (-5 : Int32)) (k := 5) (by decide) (by decide)) mo_W_refuse mi_W_refuse ml_W_88 rfl (by decide) rfl rfl rfl (Nat.le_of_ble_eq_true rfl) de_W_ruleOf_22 (fun v_ M_ hK_ hl_ hv_ => ?_)
      obtain ⟨rfl, hm_⟩ := hK_
      have hm_ := hm_.symm
      subst hm_
      change ab_G _ _ _ _ _ _ _ [(3, .ref (51 + q jn)), (0, .ref 0), (1, .int x), (2, .int y)] [.int (-5 : Int32)] (ab_S nr (ab_u2 h 28 5 (h 28 5 + 1)) g rr) _
      exact ab_ret (v := some (.int (-5 : Int32))) de_W_ruleOf_25 ⟨_, rfl⟩ (by unfold fx_W_ruleOf; try simp only [ejn]; rw [if_pos c_2_1, if_pos c_11_2])
    · refine ab_iload_n de_W_ruleOf_14 3 rfl ?_
      refine ab_iconst (v := 2) de_W_ruleOf_15 rfl ?_
      refine ab_icmp_le (tgt := 26) de_W_ruleOf_16 rfl (fun c_16_3 => ?_) (fun c_16_3 => ?_)
      · refine ab_iload_n de_W_ruleOf_26 3 rfl ?_
        refine ab_if_ne (tgt := 35) de_W_ruleOf_27 rfl (fun c_27_4 => ?_) (fun c_27_4 => ?_)
        · refine ab_iload_n de_W_ruleOf_35 3 rfl ?_
          refine ab_iconst (v := 1) de_W_ruleOf_36 rfl ?_
          refine ab_icmp_ne (tgt := 47) de_W_ruleOf_37 rfl (fun c_37_5 => ?_) (fun c_37_5 => ?_)
          · refine ab_aload_n de_W_ruleOf_47 0 rfl ?_
            refine ab_get (v := .int (h (51 + q jn) 3)) fl_W_165 (ab_rk (hR _ hjn).1) rfl de_W_ruleOf_48 ?_
            refine ab_top (v' := nI (sp_pr (cs jn))) ((hR jn hjn).2.2.2.2.2.1) ?_
            exact ab_ret (v := some (.int (nI (sp_pr (cs jn))))) de_W_ruleOf_51 ⟨_, rfl⟩ (by unfold fx_W_ruleOf; try simp only [ejn]; rw [if_pos c_2_1, if_neg c_11_2, if_pos c_16_3, if_neg c_27_4, if_neg c_37_5])
          · refine ab_aload_n de_W_ruleOf_40 0 rfl ?_
            refine ab_get (v := .int (h (51 + q jn) 2)) fl_W_162 (ab_rk (hR _ hjn).1) rfl de_W_ruleOf_41 ?_
            refine ab_top (v' := nI (sp_kd (cs jn))) ((hR jn hjn).2.2.2.2.1) ?_
            refine ab_goto (tgt := 51) de_W_ruleOf_44 rfl ?_
            exact ab_ret (v := some (.int (nI (sp_kd (cs jn))))) de_W_ruleOf_51 ⟨_, rfl⟩ (by unfold fx_W_ruleOf; try simp only [ejn]; rw [if_pos c_2_1, if_neg c_11_2, if_pos c_16_3, if_neg c_27_4, if_pos c_37_5])
        · refine ab_aload_n de_W_ruleOf_30 0 rfl ?_
          refine ab_get (v := .int (h (51 + q jn) 1)) fl_W_159 (ab_rk (hR _ hjn).1) rfl de_W_ruleOf_31 ?_
          refine ab_top (v' := nI (cs jn)) ((hR jn hjn).2.2.2.1) ?_
          exact ab_ret (v := some (.int (nI (cs jn)))) de_W_ruleOf_34 ⟨_, rfl⟩ (by unfold fx_W_ruleOf; try simp only [ejn]; rw [if_pos c_2_1, if_neg c_11_2, if_pos c_16_3, if_pos c_27_4])
      · refine ab_aload_n de_W_ruleOf_19 1 rfl ?_
        refine ab_bipush (v := -5) de_W_ruleOf_20 rfl ?_
        refine ab_cV (as := [.int (-5 : Int32)]) (st := []) (ct_W_refuse l _ nr h g rr (r := (-5 : Int32)) (k := 5) (by decide) (by decide)) mo_W_refuse mi_W_refuse ml_W_88 rfl (by decide) rfl rfl rfl (Nat.le_of_ble_eq_true rfl) de_W_ruleOf_22 (fun v_ M_ hK_ hl_ hv_ => ?_)
        obtain ⟨rfl, hm_⟩ := hK_
        have hm_ := hm_.symm
        subst hm_
        change ab_G _ _ _ _ _ _ _ [(3, .ref (51 + q jn)), (0, .ref 0), (1, .int x), (2, .int y)] [.int (-5 : Int32)] (ab_S nr (ab_u2 h 28 5 (h 28 5 + 1)) g rr) _
        exact ab_ret (v := some (.int (-5 : Int32))) de_W_ruleOf_25 ⟨_, rfl⟩ (by unfold fx_W_ruleOf; try simp only [ejn]; rw [if_pos c_2_1, if_neg c_11_2, if_neg c_16_3])
  · refine ab_cV (as := [.int x]) (st := []) (ct_W_ruleAt_f l _ nr h g rr hR0 hn8 c_2_1) mo_W_ruleAt mi_W_ruleAt ml_W_115 rfl (by decide) rfl rfl rfl (Nat.le_of_ble_eq_true rfl) de_W_ruleOf_2 (fun v_ M_ hK_ hl_ hv_ => ?_)
    obtain ⟨rfl, hm_⟩ := hK_
    have hm_ := hm_.symm
    subst hm_
    change ab_G _ _ _ _ _ _ _ [(0, .ref 0), (1, .int x), (2, .int y)] [.null] (ab_S nr h g rr) _
    refine ab_astore0_n (L' := [(3, .null), (0, .ref 0), (1, .int x), (2, .int y)]) de_W_ruleOf_5 (by decide) rfl ?_
    refine ab_aload0_n de_W_ruleOf_6 0 rfl ?_
    refine ab_ifnull_0 (tgt := 19) de_W_ruleOf_7 rfl ?_
    refine ab_aload_n de_W_ruleOf_19 1 rfl ?_
    refine ab_bipush (v := -5) de_W_ruleOf_20 rfl ?_
    refine ab_cV (as := [.int (-5 : Int32)]) (st := []) (ct_W_refuse l _ nr h g rr (r := (-5 : Int32)) (k := 5) (by decide) (by decide)) mo_W_refuse mi_W_refuse ml_W_88 rfl (by decide) rfl rfl rfl (Nat.le_of_ble_eq_true rfl) de_W_ruleOf_22 (fun v_ M_ hK_ hl_ hv_ => ?_)
    obtain ⟨rfl, hm_⟩ := hK_
    have hm_ := hm_.symm
    subst hm_
    change ab_G _ _ _ _ _ _ _ [(3, .null), (0, .ref 0), (1, .int x), (2, .int y)] [.int (-5 : Int32)] (ab_S nr (ab_u2 h 28 5 (h 28 5 + 1)) g rr) _
    exact ab_ret (v := some (.int (-5 : Int32))) de_W_ruleOf_25 ⟨_, rfl⟩ (by unfold fx_W_ruleOf; rw [if_neg c_2_1])
def fx_W_fault (nr : Nat) (h : Nat → Nat → Int32) (g : Nat → Nat → Int64) (rr : Nat → Option Nat)    : Option Value × ab_Me :=
  (some (.int (h 0 5)), (ab_S nr h g rr))
set_option maxHeartbeats 1000000 in
set_option maxRecDepth 10000 in
theorem ct_W_fault (l : Launch) (d : Nat) (nr : Nat) (h : Nat → Nat → Int32) (g : Nat → Nat → Int64) (rr : Nat → Option Nat)    : ab_C l am_W_fault d 0 0 [.ref 0] (ab_S nr h g rr) (fun r_ M' => (r_, M') = fx_W_fault nr h g rr ) := by
  refine ab_C_of (by decide +kernel) rfl (Nat.le_of_ble_eq_true rfl) ?_
  refine ab_aload_n de_W_fault_0 0 rfl ?_
  refine ab_get (v := .int (h 0 5)) fl_W_31 rfl rfl de_W_fault_1 ?_
  exact ab_ret (v := some (.int (h 0 5))) de_W_fault_4 ⟨_, rfl⟩ (by unfold fx_W_fault; rfl)
def fx_W_price (nr : Nat) (h : Nat → Nat → Int32) (g : Nat → Nat → Int64) (rr : Nat → Option Nat)   (x : Int32) : Option Value × ab_Me :=
  if (ab_bz (sp_cd x)) = 0 then
    (some (.int (-1 : Int32)), (ab_S nr (ab_u2 h 28 1 (h 28 1 + 1)) g rr))
  else
    (some (.int (nI (sp_pr x.toNatClampNeg))), (ab_S nr h g rr))
set_option maxHeartbeats 1000000 in
set_option maxRecDepth 10000 in
theorem ct_W_price (l : Launch) (d : Nat) (nr : Nat) (h : Nat → Nat → Int32) (g : Nat → Nat → Int64) (rr : Nat → Option Nat)   (x : Int32) : ab_C l am_W_price (d + 2) 0 0 [.ref 0, .int x] (ab_S nr h g rr) (fun r_ M' => (r_, M') = fx_W_price nr h g rr x) := by
  refine ab_C_of (by decide +kernel) rfl (Nat.le_of_ble_eq_true rfl) ?_
  refine ab_iload_n de_W_price_0 1 rfl ?_
  refine ab_cS (as := [.int x]) (st := []) (ct_W_isCode l _ (ab_S nr h g rr) (x)) mo_W_isCode ms_W_isCode ml_W_168 rfl rfl (Nat.le_of_ble_eq_true rfl) de_W_price_1 (fun v_ M_ hK_ hl_ hv_ => ?_)
  obtain ⟨rfl, hm_⟩ := hK_
  have hm_ := hm_.symm
  subst hm_
  change ab_G _ _ _ _ _ _ _ [(0, .ref 0), (1, .int x)] [.int (ab_bz (sp_cd x))] (ab_S nr h g rr) _
  refine ab_if_eq (tgt := 14) de_W_price_4 rfl (fun c_4_1 => ?_) (fun c_4_1 => ?_)
  · refine ab_aload_n de_W_price_14 0 rfl ?_
    refine ab_iconst (v := -1) de_W_price_15 rfl ?_
    refine ab_cV (as := [.int (-1 : Int32)]) (st := []) (ct_W_refuse l _ nr h g rr (r := (-1 : Int32)) (k := 1) (by decide) (by decide)) mo_W_refuse mi_W_refuse ml_W_88 rfl (by decide) rfl rfl rfl (Nat.le_of_ble_eq_true rfl) de_W_price_16 (fun v_ M_ hK_ hl_ hv_ => ?_)
    obtain ⟨rfl, hm_⟩ := hK_
    have hm_ := hm_.symm
    subst hm_
    change ab_G _ _ _ _ _ _ _ [(0, .ref 0), (1, .int x)] [.int (-1 : Int32)] (ab_S nr (ab_u2 h 28 1 (h 28 1 + 1)) g rr) _
    exact ab_ret (v := some (.int (-1 : Int32))) de_W_price_19 ⟨_, rfl⟩ (by unfold fx_W_price; rw [if_pos c_4_1])
  · obtain ⟨xn, hxn, rfl⟩ := sp_cd_n c_4_1
    refine ab_iload_n de_W_price_7 1 rfl ?_
    refine ab_cS (as := [.int (nI xn)]) (st := []) (ct_R_priceOf l _ (ab_S nr h g rr) (c := xn) (by omega)) mo_R_priceOf ms_R_priceOf ml_W_171 rfl rfl (Nat.le_of_ble_eq_true rfl) de_W_price_8 (fun v_ M_ hK_ hl_ hv_ => ?_)
    obtain ⟨rfl, hm_⟩ := hK_
    have hm_ := hm_.symm
    subst hm_
    change ab_G _ _ _ _ _ _ _ [(0, .ref 0), (1, .int (nI xn))] [.int (nI (sp_pr xn))] (ab_S nr h g rr) _
    refine ab_goto (tgt := 19) de_W_price_11 rfl ?_
    exact ab_ret (v := some (.int (nI (sp_pr xn)))) de_W_price_19 ⟨_, rfl⟩ (by unfold fx_W_price; try simp only [ab_tn (show xn < 2 ^ 31 by omega)]; rw [if_neg c_4_1])
def fx_W_tied (nr : Nat) (h : Nat → Nat → Int32) (g : Nat → Nat → Int64) (rr : Nat → Option Nat) (T : Nat → Nat → Nat)  (x y : Int32) : Option Value × ab_Me :=
  if (ab_bz (sp_pt x)) = 0 then
    (some (.int (-1 : Int32)), (ab_S nr (ab_u2 h 28 1 (h 28 1 + 1)) g rr))
  else
    if (ab_bz (sp_tk3 y)) = 0 then
      (some (.int (-1 : Int32)), (ab_S nr (ab_u2 h 28 1 (h 28 1 + 1)) g rr))
    else
      (some (.int (nI (T y.toNatClampNeg x.toNatClampNeg))), (ab_S nr h g rr))
set_option maxHeartbeats 1000000 in
set_option maxRecDepth 10000 in
theorem ct_W_tied (l : Launch) (d : Nat) (nr : Nat) (h : Nat → Nat → Int32) (g : Nat → Nat → Int64) (rr : Nat → Option Nat) {T : Nat → Nat → Nat} (hT : bo_T T h 17) (hO : sp_ok T)  (x y : Int32) : ab_C l am_W_tied (d + 2) 0 0 [.ref 0, .int x, .int y] (ab_S nr h g rr) (fun r_ M' => (r_, M') = fx_W_tied nr h g rr T x y) := by
  refine ab_C_of (by decide +kernel) rfl (Nat.le_of_ble_eq_true rfl) ?_
  refine ab_iload_n de_W_tied_0 1 rfl ?_
  refine ab_cS (as := [.int x]) (st := []) (ct_W_isPoint l _ (ab_S nr h g rr) (x)) mo_W_isPoint ms_W_isPoint ml_W_130 rfl rfl (Nat.le_of_ble_eq_true rfl) de_W_tied_1 (fun v_ M_ hK_ hl_ hv_ => ?_)
  obtain ⟨rfl, hm_⟩ := hK_
  have hm_ := hm_.symm
  subst hm_
  change ab_G _ _ _ _ _ _ _ [(0, .ref 0), (1, .int x), (2, .int y)] [.int (ab_bz (sp_pt x))] (ab_S nr h g rr) _
  refine ab_if_eq (tgt := 14) de_W_tied_4 rfl (fun c_4_1 => ?_) (fun c_4_1 => ?_)
  · refine ab_aload_n de_W_tied_14 0 rfl ?_
    refine ab_iconst (v := -1) de_W_tied_15 rfl ?_
    refine ab_cV (as := [.int (-1 : Int32)]) (st := []) (ct_W_refuse l _ nr h g rr (r := (-1 : Int32)) (k := 1) (by decide) (by decide)) mo_W_refuse mi_W_refuse ml_W_88 rfl (by decide) rfl rfl rfl (Nat.le_of_ble_eq_true rfl) de_W_tied_16 (fun v_ M_ hK_ hl_ hv_ => ?_)
    obtain ⟨rfl, hm_⟩ := hK_
    have hm_ := hm_.symm
    subst hm_
    change ab_G _ _ _ _ _ _ _ [(0, .ref 0), (1, .int x), (2, .int y)] [.int (-1 : Int32)] (ab_S nr (ab_u2 h 28 1 (h 28 1 + 1)) g rr) _
    exact ab_ret (v := some (.int (-1 : Int32))) de_W_tied_19 ⟨_, rfl⟩ (by unfold fx_W_tied; rw [if_pos c_4_1])
  · obtain ⟨xn, hxn, rfl⟩ := sp_pt__n c_4_1
    refine ab_iload_n de_W_tied_7 2 rfl ?_
    refine ab_cS (as := [.int y]) (st := []) (ct_W_isTieKind l _ (ab_S nr h g rr) (y)) mo_W_isTieKind ms_W_isTieKind ml_W_133 rfl rfl (Nat.le_of_ble_eq_true rfl) de_W_tied_8 (fun v_ M_ hK_ hl_ hv_ => ?_)
    obtain ⟨rfl, hm_⟩ := hK_
    have hm_ := hm_.symm
    subst hm_
    change ab_G _ _ _ _ _ _ _ [(0, .ref 0), (1, .int (nI xn)), (2, .int y)] [.int (ab_bz (sp_tk3 y))] (ab_S nr h g rr) _
    refine ab_if_ne (tgt := 20) de_W_tied_11 rfl (fun c_11_2 => ?_) (fun c_11_2 => ?_)
    · obtain ⟨yn, hyn, rfl⟩ := sp_tk3_n c_11_2
      refine ab_aload_n de_W_tied_20 0 rfl ?_
      refine ab_get (v := .ref 16) fl_W_55 rfl rfl de_W_tied_21 ?_
      refine ab_iload_n de_W_tied_24 1 rfl ?_
      refine ab_iload_n de_W_tied_25 2 rfl ?_
      refine ab_cV (as := [.int (nI xn), .int (nI yn)]) (st := []) (ct_B_tiesOf l _ nr h g rr hT hO (p := xn) (k := yn) (by omega) (by omega)) mo_B_tiesOf mi_B_tiesOf ml_W_149 rfl (by decide) rfl rfl rfl (Nat.le_of_ble_eq_true rfl) de_W_tied_26 (fun v_ M_ hK_ hl_ hv_ => ?_)
      obtain ⟨rfl, hm_⟩ := hK_
      have hm_ := hm_.symm
      subst hm_
      change ab_G _ _ _ _ _ _ _ [(0, .ref 0), (1, .int (nI xn)), (2, .int (nI yn))] [.int (nI (T yn xn))] (ab_S nr h g rr) _
      exact ab_ret (v := some (.int (nI (T yn xn)))) de_W_tied_29 ⟨_, rfl⟩ (by unfold fx_W_tied; try simp only [ab_tn (show xn < 2 ^ 31 by omega), ab_tn (show yn < 2 ^ 31 by omega)]; rw [if_neg c_4_1, if_neg c_11_2])
    · refine ab_aload_n de_W_tied_14 0 rfl ?_
      refine ab_iconst (v := -1) de_W_tied_15 rfl ?_
      refine ab_cV (as := [.int (-1 : Int32)]) (st := []) (ct_W_refuse l _ nr h g rr (r := (-1 : Int32)) (k := 1) (by decide) (by decide)) mo_W_refuse mi_W_refuse ml_W_88 rfl (by decide) rfl rfl rfl (Nat.le_of_ble_eq_true rfl) de_W_tied_16 (fun v_ M_ hK_ hl_ hv_ => ?_)
      obtain ⟨rfl, hm_⟩ := hK_
      have hm_ := hm_.symm
      subst hm_
      change ab_G _ _ _ _ _ _ _ [(0, .ref 0), (1, .int (nI xn)), (2, .int y)] [.int (-1 : Int32)] (ab_S nr (ab_u2 h 28 1 (h 28 1 + 1)) g rr) _
      exact ab_ret (v := some (.int (-1 : Int32))) de_W_tied_19 ⟨_, rfl⟩ (by unfold fx_W_tied; try simp only [ab_tn (show xn < 2 ^ 31 by omega)]; rw [if_neg c_4_1, if_pos c_11_2])
def fx_W_tie (nr : Nat) (h : Nat → Nat → Int32) (g : Nat → Nat → Int64) (rr : Nat → Option Nat) (T : Nat → Nat → Nat)  (x y z w : Int32) : Option Value × ab_Me :=
  if (ab_bz (sp_pt x)) = 0 then
    (some (.int (-1 : Int32)), (ab_S nr (ab_u2 h 28 1 (h 28 1 + 1)) g rr))
  else
    if (ab_bz (sp_pt y)) = 0 then
      (some (.int (-1 : Int32)), (ab_S nr (ab_u2 h 28 1 (h 28 1 + 1)) g rr))
    else
      if (ab_bz (sp_tk3 z)) = 0 then
        (some (.int (-1 : Int32)), (ab_S nr (ab_u2 h 28 1 (h 28 1 + 1)) g rr))
      else
        if (nI (x.toNatClampNeg)) = (nI (y.toNatClampNeg)) then
          (some (.int (-6 : Int32)), (ab_S nr (ab_u2 h 28 6 (h 28 6 + 1)) g rr))
        else
          if (ab_bz ((T z.toNatClampNeg x.toNatClampNeg).testBit y.toNatClampNeg)) = w then
            (some (.int (0 : Int32)), (ab_S nr h g rr))
          else
            (some (.int (1 : Int32)), (ab_S nr (ab_u2 (ab_u2 (ab_u2 (ab_u2 (ab_u2 h 17 (12 * z.toNatClampNeg + x.toNatClampNeg) (nI (T z.toNatClampNeg x.toNatClampNeg ^^^ 2 ^ y.toNatClampNeg))) 17 (12 * z.toNatClampNeg + y.toNatClampNeg) (nI (T z.toNatClampNeg y.toNatClampNeg ^^^ 2 ^ x.toNatClampNeg))) 14 9 (0 : Int32)) 14 10 (-1 : Int32)) 14 11 (-1 : Int32)) g rr))
set_option maxHeartbeats 1000000 in
set_option maxRecDepth 10000 in
theorem ct_W_tie (l : Launch) (d : Nat) (nr : Nat) (h : Nat → Nat → Int32) (g : Nat → Nat → Int64) (rr : Nat → Option Nat) {T : Nat → Nat → Nat} (hT : bo_T T h 17) (hO : sp_ok T)  (x y z w : Int32) : ab_C l am_W_tie (d + 2) 0 0 [.ref 0, .int x, .int y, .int z, .int w] (ab_S nr h g rr) (fun r_ M' => (r_, M') = fx_W_tie nr h g rr T x y z w) := by
  refine ab_C_of (by decide +kernel) rfl (Nat.le_of_ble_eq_true rfl) ?_
  refine ab_iload_n de_W_tie_0 1 rfl ?_
  refine ab_cS (as := [.int x]) (st := []) (ct_W_isPoint l _ (ab_S nr h g rr) (x)) mo_W_isPoint ms_W_isPoint ml_W_130 rfl rfl (Nat.le_of_ble_eq_true rfl) de_W_tie_1 (fun v_ M_ hK_ hl_ hv_ => ?_)
  obtain ⟨rfl, hm_⟩ := hK_
  have hm_ := hm_.symm
  subst hm_
  change ab_G _ _ _ _ _ _ _ [(0, .ref 0), (1, .int x), (2, .int y), (3, .int z), (4, .int w)] [.int (ab_bz (sp_pt x))] (ab_S nr h g rr) _
  refine ab_if_eq (tgt := 21) de_W_tie_4 rfl (fun c_4_1 => ?_) (fun c_4_1 => ?_)
  · refine ab_aload_n de_W_tie_21 0 rfl ?_
    refine ab_iconst (v := -1) de_W_tie_22 rfl ?_
    refine ab_cV (as := [.int (-1 : Int32)]) (st := []) (ct_W_refuse l _ nr h g rr (r := (-1 : Int32)) (k := 1) (by decide) (by decide)) mo_W_refuse mi_W_refuse ml_W_88 rfl (by decide) rfl rfl rfl (Nat.le_of_ble_eq_true rfl) de_W_tie_23 (fun v_ M_ hK_ hl_ hv_ => ?_)
    obtain ⟨rfl, hm_⟩ := hK_
    have hm_ := hm_.symm
    subst hm_
    change ab_G _ _ _ _ _ _ _ [(0, .ref 0), (1, .int x), (2, .int y), (3, .int z), (4, .int w)] [.int (-1 : Int32)] (ab_S nr (ab_u2 h 28 1 (h 28 1 + 1)) g rr) _
    exact ab_ret (v := some (.int (-1 : Int32))) de_W_tie_26 ⟨_, rfl⟩ (by unfold fx_W_tie; rw [if_pos c_4_1])
  · obtain ⟨xn, hxn, rfl⟩ := sp_pt__n c_4_1
    refine ab_iload_n de_W_tie_7 2 rfl ?_
    refine ab_cS (as := [.int y]) (st := []) (ct_W_isPoint l _ (ab_S nr h g rr) (y)) mo_W_isPoint ms_W_isPoint ml_W_130 rfl rfl (Nat.le_of_ble_eq_true rfl) de_W_tie_8 (fun v_ M_ hK_ hl_ hv_ => ?_)
    obtain ⟨rfl, hm_⟩ := hK_
    have hm_ := hm_.symm
    subst hm_
    change ab_G _ _ _ _ _ _ _ [(0, .ref 0), (1, .int (nI xn)), (2, .int y), (3, .int z), (4, .int w)] [.int (ab_bz (sp_pt y))] (ab_S nr h g rr) _
    refine ab_if_eq (tgt := 21) de_W_tie_11 rfl (fun c_11_2 => ?_) (fun c_11_2 => ?_)
    · refine ab_aload_n de_W_tie_21 0 rfl ?_
      refine ab_iconst (v := -1) de_W_tie_22 rfl ?_
      refine ab_cV (as := [.int (-1 : Int32)]) (st := []) (ct_W_refuse l _ nr h g rr (r := (-1 : Int32)) (k := 1) (by decide) (by decide)) mo_W_refuse mi_W_refuse ml_W_88 rfl (by decide) rfl rfl rfl (Nat.le_of_ble_eq_true rfl) de_W_tie_23 (fun v_ M_ hK_ hl_ hv_ => ?_)
      obtain ⟨rfl, hm_⟩ := hK_
      have hm_ := hm_.symm
      subst hm_
      change ab_G _ _ _ _ _ _ _ [(0, .ref 0), (1, .int (nI xn)), (2, .int y), (3, .int z), (4, .int w)] [.int (-1 : Int32)] (ab_S nr (ab_u2 h 28 1 (h 28 1 + 1)) g rr) _
      exact ab_ret (v := some (.int (-1 : Int32))) de_W_tie_26 ⟨_, rfl⟩ (by unfold fx_W_tie; try simp only [ab_tn (show xn < 2 ^ 31 by omega)]; rw [if_neg c_4_1, if_pos c_11_2])
    · obtain ⟨yn, hyn, rfl⟩ := sp_pt__n c_11_2
      refine ab_iload_n de_W_tie_14 3 rfl ?_
      refine ab_cS (as := [.int z]) (st := []) (ct_W_isTieKind l _ (ab_S nr h g rr) (z)) mo_W_isTieKind ms_W_isTieKind ml_W_133 rfl rfl (Nat.le_of_ble_eq_true rfl) de_W_tie_15 (fun v_ M_ hK_ hl_ hv_ => ?_)
      obtain ⟨rfl, hm_⟩ := hK_
      have hm_ := hm_.symm
      subst hm_
      change ab_G _ _ _ _ _ _ _ [(0, .ref 0), (1, .int (nI xn)), (2, .int (nI yn)), (3, .int z), (4, .int w)] [.int (ab_bz (sp_tk3 z))] (ab_S nr h g rr) _
      refine ab_if_ne (tgt := 27) de_W_tie_18 rfl (fun c_18_3 => ?_) (fun c_18_3 => ?_)
      · obtain ⟨zn, hzn, rfl⟩ := sp_tk3_n c_18_3
        refine ab_iload_n de_W_tie_27 1 rfl ?_
        refine ab_iload_n de_W_tie_28 2 rfl ?_
        refine ab_icmp_ne (tgt := 39) de_W_tie_29 rfl (fun c_29_4 => ?_) (fun c_29_4 => ?_)
        · refine ab_aload_n de_W_tie_39 0 rfl ?_
          refine ab_get (v := .ref 16) fl_W_55 rfl rfl de_W_tie_40 ?_
          refine ab_iload_n de_W_tie_43 1 rfl ?_
          refine ab_iload_n de_W_tie_44 2 rfl ?_
          refine ab_iload_n de_W_tie_45 3 rfl ?_
          refine ab_cV (as := [.int (nI xn), .int (nI yn), .int (nI zn)]) (st := []) (ct_B_areTied l _ nr h g rr hT hO (p := xn) (q := yn) (k := zn) (by omega) (by omega) (by omega)) mo_B_areTied mi_B_areTied ml_W_136 rfl (by decide) rfl rfl rfl (Nat.le_of_ble_eq_true rfl) de_W_tie_46 (fun v_ M_ hK_ hl_ hv_ => ?_)
          obtain ⟨rfl, hm_⟩ := hK_
          have hm_ := hm_.symm
          subst hm_
          change ab_G _ _ _ _ _ _ _ [(0, .ref 0), (1, .int (nI xn)), (2, .int (nI yn)), (3, .int (nI zn)), (4, .int w)] [.int (ab_bz ((T zn xn).testBit yn))] (ab_S nr h g rr) _
          refine ab_iload de_W_tie_49 4 rfl ?_
          refine ab_icmp_ne (tgt := 56) de_W_tie_51 rfl (fun c_51_5 => ?_) (fun c_51_5 => ?_)
          · refine ab_aload_n de_W_tie_56 0 rfl ?_
            refine ab_get (v := .ref 16) fl_W_55 rfl rfl de_W_tie_57 ?_
            refine ab_iload_n de_W_tie_60 1 rfl ?_
            refine ab_iload_n de_W_tie_61 2 rfl ?_
            refine ab_iload_n de_W_tie_62 3 rfl ?_
            refine ab_cV (as := [.int (nI xn), .int (nI yn), .int (nI zn)]) (st := []) (ct_B_turnTie l _ nr h g rr hT hO (p := xn) (q := yn) (k := zn) (by omega) (by omega) (by omega) (fun e => c_29_4 (by rw [e]))) mo_B_turnTie mi_B_turnTie ml_W_142 rfl (by decide) rfl rfl rfl (Nat.le_of_ble_eq_true rfl) de_W_tie_63 (fun v_ M_ hK_ hl_ hv_ => ?_)
            obtain ⟨rfl, hm_⟩ := hK_
            have hm_ := hm_.symm
            subst hm_
            change ab_G _ _ _ _ _ _ _ [(0, .ref 0), (1, .int (nI xn)), (2, .int (nI yn)), (3, .int (nI zn)), (4, .int w)] [] (ab_S nr (ab_u2 (ab_u2 h 17 (12 * zn + xn) (nI (T zn xn ^^^ 2 ^ yn))) 17 (12 * zn + yn) (nI (T zn yn ^^^ 2 ^ xn))) g rr) _
            refine ab_aload_n de_W_tie_66 0 rfl ?_
            refine ab_get (v := .ref 14) fl_W_40 rfl rfl de_W_tie_67 ?_
            refine ab_cV (as := []) (st := []) (ct_F_forget l _ nr (ab_u2 (ab_u2 h 17 (12 * zn + xn) (nI (T zn xn ^^^ 2 ^ yn))) 17 (12 * zn + yn) (nI (T zn yn ^^^ 2 ^ xn))) g rr) mo_F_forget mi_F_forget ml_W_146 rfl (by decide) rfl rfl rfl (Nat.le_of_ble_eq_true rfl) de_W_tie_70 (fun v_ M_ hK_ hl_ hv_ => ?_)
            obtain ⟨rfl, hm_⟩ := hK_
            have hm_ := hm_.symm
            subst hm_
            change ab_G _ _ _ _ _ _ _ [(0, .ref 0), (1, .int (nI xn)), (2, .int (nI yn)), (3, .int (nI zn)), (4, .int w)] [] (ab_S nr (ab_u2 (ab_u2 (ab_u2 (ab_u2 (ab_u2 h 17 (12 * zn + xn) (nI (T zn xn ^^^ 2 ^ yn))) 17 (12 * zn + yn) (nI (T zn yn ^^^ 2 ^ xn))) 14 9 (0 : Int32)) 14 10 (-1 : Int32)) 14 11 (-1 : Int32)) g rr) _
            refine ab_iconst (v := 1) de_W_tie_73 rfl ?_
            exact ab_ret (v := some (.int (1 : Int32))) de_W_tie_74 ⟨_, rfl⟩ (by unfold fx_W_tie; try simp only [ab_tn (show xn < 2 ^ 31 by omega), ab_tn (show yn < 2 ^ 31 by omega), ab_tn (show zn < 2 ^ 31 by omega)]; rw [if_neg c_4_1, if_neg c_11_2, if_neg c_18_3, if_neg c_29_4, if_neg c_51_5])
          · refine ab_iconst (v := 0) de_W_tie_54 rfl ?_
            exact ab_ret (v := some (.int (0 : Int32))) de_W_tie_55 ⟨_, rfl⟩ (by unfold fx_W_tie; try simp only [ab_tn (show xn < 2 ^ 31 by omega), ab_tn (show yn < 2 ^ 31 by omega), ab_tn (show zn < 2 ^ 31 by omega)]; rw [if_neg c_4_1, if_neg c_11_2, if_neg c_18_3, if_neg c_29_4, if_pos c_51_5])
        · refine ab_aload_n de_W_tie_32 0 rfl ?_
          refine ab_bipush (v := -6) de_W_tie_33 rfl ?_
          refine ab_cV (as := [.int (-6 : Int32)]) (st := []) (ct_W_refuse l _ nr h g rr (r := (-6 : Int32)) (k := 6) (by decide) (by decide)) mo_W_refuse mi_W_refuse ml_W_88 rfl (by decide) rfl rfl rfl (Nat.le_of_ble_eq_true rfl) de_W_tie_35 (fun v_ M_ hK_ hl_ hv_ => ?_)
          obtain ⟨rfl, hm_⟩ := hK_
          have hm_ := hm_.symm
          subst hm_
          change ab_G _ _ _ _ _ _ _ [(0, .ref 0), (1, .int (nI xn)), (2, .int (nI yn)), (3, .int (nI zn)), (4, .int w)] [.int (-6 : Int32)] (ab_S nr (ab_u2 h 28 6 (h 28 6 + 1)) g rr) _
          exact ab_ret (v := some (.int (-6 : Int32))) de_W_tie_38 ⟨_, rfl⟩ (by unfold fx_W_tie; try simp only [ab_tn (show xn < 2 ^ 31 by omega), ab_tn (show yn < 2 ^ 31 by omega), ab_tn (show zn < 2 ^ 31 by omega)]; rw [if_neg c_4_1, if_neg c_11_2, if_neg c_18_3, if_pos c_29_4])
      · refine ab_aload_n de_W_tie_21 0 rfl ?_
        refine ab_iconst (v := -1) de_W_tie_22 rfl ?_
        refine ab_cV (as := [.int (-1 : Int32)]) (st := []) (ct_W_refuse l _ nr h g rr (r := (-1 : Int32)) (k := 1) (by decide) (by decide)) mo_W_refuse mi_W_refuse ml_W_88 rfl (by decide) rfl rfl rfl (Nat.le_of_ble_eq_true rfl) de_W_tie_23 (fun v_ M_ hK_ hl_ hv_ => ?_)
        obtain ⟨rfl, hm_⟩ := hK_
        have hm_ := hm_.symm
        subst hm_
        change ab_G _ _ _ _ _ _ _ [(0, .ref 0), (1, .int (nI xn)), (2, .int (nI yn)), (3, .int z), (4, .int w)] [.int (-1 : Int32)] (ab_S nr (ab_u2 h 28 1 (h 28 1 + 1)) g rr) _
        exact ab_ret (v := some (.int (-1 : Int32))) de_W_tie_26 ⟨_, rfl⟩ (by unfold fx_W_tie; try simp only [ab_tn (show xn < 2 ^ 31 by omega), ab_tn (show yn < 2 ^ 31 by omega)]; rw [if_neg c_4_1, if_neg c_11_2, if_pos c_18_3])
def fx_W_point (nr : Nat) (h : Nat → Nat → Int32) (g : Nat → Nat → Int64) (rr : Nat → Option Nat) (m i t : Nat)  (x y : Int32) : Option Value × ab_Me :=
  if (ab_bz (sp_pt x)) = 0 then
    (some (.int (-1 : Int32)), (ab_S nr (ab_u2 h 28 1 (h 28 1 + 1)) g rr))
  else
    if y < 0 then
      (some (.int (-6 : Int32)), (ab_S nr (ab_u2 h 28 6 (h 28 6 + 1)) g rr))
    else
      if y ≤ (2 : Int32) then
        (some (.int (nI (sp_wv (sp_who m i x.toNatClampNeg) t))), (ab_S nr (ab_u2 h 0 10 (nI (sp_en (if sp_wv y.toNatClampNeg t = 1 then sp_set m x.toNatClampNeg else sp_clr m x.toNatClampNeg) (if sp_wv y.toNatClampNeg t = 2 then sp_set i x.toNatClampNeg else sp_clr i x.toNatClampNeg) t))) g rr))
      else
        (some (.int (-6 : Int32)), (ab_S nr (ab_u2 h 28 6 (h 28 6 + 1)) g rr))
set_option maxHeartbeats 1000000 in
set_option maxRecDepth 10000 in
theorem ct_W_point (l : Launch) (d : Nat) (nr : Nat) (h : Nat → Nat → Int32) (g : Nat → Nat → Int64) (rr : Nat → Option Nat) {m i t : Nat} (hm : m < 4096) (hi : i < 4096) (ht : t < 2) (hdj : sp_dj m i) (hN : h 0 10 = nI (sp_en m i t))  (x y : Int32) : ab_C l am_W_point (d + 2) 0 0 [.ref 0, .int x, .int y] (ab_S nr h g rr) (fun r_ M' => (r_, M') = fx_W_point nr h g rr m i t x y) := by
  refine ab_C_of (by decide +kernel) rfl (Nat.le_of_ble_eq_true rfl) ?_
  refine ab_iload_n de_W_point_0 1 rfl ?_
  refine ab_cS (as := [.int x]) (st := []) (ct_W_isPoint l _ (ab_S nr h g rr) (x)) mo_W_isPoint ms_W_isPoint ml_W_130 rfl rfl (Nat.le_of_ble_eq_true rfl) de_W_point_1 (fun v_ M_ hK_ hl_ hv_ => ?_)
  obtain ⟨rfl, hm_⟩ := hK_
  have hm_ := hm_.symm
  subst hm_
  change ab_G _ _ _ _ _ _ _ [(0, .ref 0), (1, .int x), (2, .int y)] [.int (ab_bz (sp_pt x))] (ab_S nr h g rr) _
  refine ab_if_ne (tgt := 13) de_W_point_4 rfl (fun c_4_1 => ?_) (fun c_4_1 => ?_)
  · obtain ⟨xn, hxn, rfl⟩ := sp_pt__n c_4_1
    refine ab_iload_n de_W_point_13 2 rfl ?_
    refine ab_if_lt (tgt := 22) de_W_point_14 rfl (fun c_14_2 => ?_) (fun c_14_2 => ?_)
    · refine ab_aload_n de_W_point_22 0 rfl ?_
      refine ab_bipush (v := -6) de_W_point_23 rfl ?_
      refine ab_cV (as := [.int (-6 : Int32)]) (st := []) (ct_W_refuse l _ nr h g rr (r := (-6 : Int32)) (k := 6) (by decide) (by decide)) mo_W_refuse mi_W_refuse ml_W_88 rfl (by decide) rfl rfl rfl (Nat.le_of_ble_eq_true rfl) de_W_point_25 (fun v_ M_ hK_ hl_ hv_ => ?_)
      obtain ⟨rfl, hm_⟩ := hK_
      have hm_ := hm_.symm
      subst hm_
      change ab_G _ _ _ _ _ _ _ [(0, .ref 0), (1, .int (nI xn)), (2, .int y)] [.int (-6 : Int32)] (ab_S nr (ab_u2 h 28 6 (h 28 6 + 1)) g rr) _
      exact ab_ret (v := some (.int (-6 : Int32))) de_W_point_28 ⟨_, rfl⟩ (by unfold fx_W_point; try simp only [ab_tn (show xn < 2 ^ 31 by omega)]; rw [if_neg c_4_1, if_pos c_14_2])
    · have c14 := c_14_2
      refine ab_iload_n de_W_point_17 2 rfl ?_
      refine ab_iconst (v := 2) de_W_point_18 rfl ?_
      refine ab_icmp_le (tgt := 29) de_W_point_19 rfl (fun c_19_3 => ?_) (fun c_19_3 => ?_)
      · obtain ⟨yn, hyn, rfl⟩ := sp_bt2_n (N := 2) (by omega) c14 c_19_3
        refine ab_aload_n de_W_point_29 0 rfl ?_
        refine ab_get (v := .int (h 0 10)) fl_W_56 rfl rfl de_W_point_30 ?_
        refine ab_top (v' := nI (sp_en m i t)) (hN) ?_
        refine ab_iload_n de_W_point_33 1 rfl ?_
        refine ab_cS (as := [.int (nI (sp_en m i t)), .int (nI xn)]) (st := []) (ct_B_on l _ (ab_S nr h g rr) hm hi ht (p := xn) (by omega) (hdj _)) mo_B_on ms_B_on ml_W_174 rfl rfl (Nat.le_of_ble_eq_true rfl) de_W_point_34 (fun v_ M_ hK_ hl_ hv_ => ?_)
        obtain ⟨rfl, hm_⟩ := hK_
        have hm_ := hm_.symm
        subst hm_
        change ab_G _ _ _ _ _ _ _ [(0, .ref 0), (1, .int (nI xn)), (2, .int (nI yn))] [.int (nI (sp_wv (sp_who m i xn) t))] (ab_S nr h g rr) _
        refine ab_istore_n (L' := [(3, .int (nI (sp_wv (sp_who m i xn) t))), (0, .ref 0), (1, .int (nI xn)), (2, .int (nI yn))]) de_W_point_37 (by decide) rfl ?_
        refine ab_aload_n de_W_point_38 1 rfl ?_
        refine ab_aload_n de_W_point_39 1 rfl ?_
        refine ab_get (v := .int (h 0 10)) fl_W_56 rfl rfl de_W_point_40 ?_
        refine ab_top (v' := nI (sp_en m i t)) (hN) ?_
        refine ab_iload_n de_W_point_43 2 rfl ?_
        refine ab_iload_n de_W_point_44 3 rfl ?_
        refine ab_top (v' := nI (sp_wv (sp_wv yn t) t)) (sp_wvv (by omega) ht) ?_
        refine ab_cS (as := [.int (nI (sp_en m i t)), .int (nI xn), .int (nI (sp_wv (sp_wv yn t) t))]) (st := [.ref 0]) (ct_B_with l _ (ab_S nr h g rr) hm hi ht (p := xn) (w := sp_wv yn t) (by omega) (sp_wv_lt _ _ ht)) mo_B_with ms_B_with ml_W_177 rfl rfl (Nat.le_of_ble_eq_true rfl) de_W_point_45 (fun v_ M_ hK_ hl_ hv_ => ?_)
        obtain ⟨rfl, hm_⟩ := hK_
        have hm_ := hm_.symm
        subst hm_
        change ab_G _ _ _ _ _ _ _ [(3, .int (nI (sp_wv (sp_who m i xn) t))), (0, .ref 0), (1, .int (nI xn)), (2, .int (nI yn))] [.int (nI (sp_en (if sp_wv yn t = 1 then sp_set m xn else sp_clr m xn) (if sp_wv yn t = 2 then sp_set i xn else sp_clr i xn) t)), .ref 0] (ab_S nr h g rr) _
        refine ab_putI (x := 0) (j := 10) fl_W_56 rfl (Or.inl rfl) rfl rfl rfl de_W_point_48 ?_
        change ab_G _ _ _ _ _ _ _ _ _ (ab_S nr (ab_u2 h 0 10 (nI (sp_en (if sp_wv yn t = 1 then sp_set m xn else sp_clr m xn) (if sp_wv yn t = 2 then sp_set i xn else sp_clr i xn) t))) g rr) _
        refine ab_iload_n de_W_point_51 0 rfl ?_
        exact ab_ret (v := some (.int (nI (sp_wv (sp_who m i xn) t)))) de_W_point_52 ⟨_, rfl⟩ (by unfold fx_W_point; try simp only [ab_tn (show xn < 2 ^ 31 by omega), ab_tn (show yn < 2 ^ 31 by omega)]; rw [if_neg c_4_1, if_neg c_14_2, if_pos c_19_3])
      · refine ab_aload_n de_W_point_22 0 rfl ?_
        refine ab_bipush (v := -6) de_W_point_23 rfl ?_
        refine ab_cV (as := [.int (-6 : Int32)]) (st := []) (ct_W_refuse l _ nr h g rr (r := (-6 : Int32)) (k := 6) (by decide) (by decide)) mo_W_refuse mi_W_refuse ml_W_88 rfl (by decide) rfl rfl rfl (Nat.le_of_ble_eq_true rfl) de_W_point_25 (fun v_ M_ hK_ hl_ hv_ => ?_)
        obtain ⟨rfl, hm_⟩ := hK_
        have hm_ := hm_.symm
        subst hm_
        change ab_G _ _ _ _ _ _ _ [(0, .ref 0), (1, .int (nI xn)), (2, .int y)] [.int (-6 : Int32)] (ab_S nr (ab_u2 h 28 6 (h 28 6 + 1)) g rr) _
        exact ab_ret (v := some (.int (-6 : Int32))) de_W_point_28 ⟨_, rfl⟩ (by unfold fx_W_point; try simp only [ab_tn (show xn < 2 ^ 31 by omega)]; rw [if_neg c_4_1, if_neg c_14_2, if_neg c_19_3])
  · refine ab_aload_n de_W_point_7 0 rfl ?_
    refine ab_iconst (v := -1) de_W_point_8 rfl ?_
    refine ab_cV (as := [.int (-1 : Int32)]) (st := []) (ct_W_refuse l _ nr h g rr (r := (-1 : Int32)) (k := 1) (by decide) (by decide)) mo_W_refuse mi_W_refuse ml_W_88 rfl (by decide) rfl rfl rfl (Nat.le_of_ble_eq_true rfl) de_W_point_9 (fun v_ M_ hK_ hl_ hv_ => ?_)
    obtain ⟨rfl, hm_⟩ := hK_
    have hm_ := hm_.symm
    subst hm_
    change ab_G _ _ _ _ _ _ _ [(0, .ref 0), (1, .int x), (2, .int y)] [.int (-1 : Int32)] (ab_S nr (ab_u2 h 28 1 (h 28 1 + 1)) g rr) _
    exact ab_ret (v := some (.int (-1 : Int32))) de_W_point_12 ⟨_, rfl⟩ (by unfold fx_W_point; rw [if_pos c_4_1])
def fx_W_turn (nr : Nat) (h : Nat → Nat → Int32) (g : Nat → Nat → Int64) (rr : Nat → Option Nat) (m i t : Nat)  (x : Int32) : Option Value × ab_Me :=
  if x < 0 then
    (some (.int (-6 : Int32)), (ab_S nr (ab_u2 h 28 6 (h 28 6 + 1)) g rr))
  else
    if x ≤ (1 : Int32) then
      if (nI t) = x then
        (some (.int (nI t)), (ab_S nr h g rr))
      else
        (some (.int (nI t)), (ab_S nr (ab_u2 h 0 10 (nI (sp_en i m (1 - t)))) g rr))
    else
      (some (.int (-6 : Int32)), (ab_S nr (ab_u2 h 28 6 (h 28 6 + 1)) g rr))
set_option maxHeartbeats 1000000 in
set_option maxRecDepth 10000 in
theorem ct_W_turn (l : Launch) (d : Nat) (nr : Nat) (h : Nat → Nat → Int32) (g : Nat → Nat → Int64) (rr : Nat → Option Nat) {m i t : Nat} (hm : m < 4096) (hi : i < 4096) (ht : t < 2) (hdj : sp_dj m i) (hN : h 0 10 = nI (sp_en m i t))  (x : Int32) : ab_C l am_W_turn (d + 2) 0 0 [.ref 0, .int x] (ab_S nr h g rr) (fun r_ M' => (r_, M') = fx_W_turn nr h g rr m i t x) := by
  refine ab_C_of (by decide +kernel) rfl (Nat.le_of_ble_eq_true rfl) ?_
  refine ab_iload_n de_W_turn_0 1 rfl ?_
  refine ab_if_lt (tgt := 9) de_W_turn_1 rfl (fun c_1_1 => ?_) (fun c_1_1 => ?_)
  · refine ab_aload_n de_W_turn_9 0 rfl ?_
    refine ab_bipush (v := -6) de_W_turn_10 rfl ?_
    refine ab_cV (as := [.int (-6 : Int32)]) (st := []) (ct_W_refuse l _ nr h g rr (r := (-6 : Int32)) (k := 6) (by decide) (by decide)) mo_W_refuse mi_W_refuse ml_W_88 rfl (by decide) rfl rfl rfl (Nat.le_of_ble_eq_true rfl) de_W_turn_12 (fun v_ M_ hK_ hl_ hv_ => ?_)
    obtain ⟨rfl, hm_⟩ := hK_
    have hm_ := hm_.symm
    subst hm_
    change ab_G _ _ _ _ _ _ _ [(0, .ref 0), (1, .int x)] [.int (-6 : Int32)] (ab_S nr (ab_u2 h 28 6 (h 28 6 + 1)) g rr) _
    exact ab_ret (v := some (.int (-6 : Int32))) de_W_turn_15 ⟨_, rfl⟩ (by unfold fx_W_turn; rw [if_pos c_1_1])
  · refine ab_iload_n de_W_turn_4 1 rfl ?_
    refine ab_iconst (v := 1) de_W_turn_5 rfl ?_
    refine ab_icmp_le (tgt := 16) de_W_turn_6 rfl (fun c_6_2 => ?_) (fun c_6_2 => ?_)
    · refine ab_aload_n de_W_turn_16 0 rfl ?_
      refine ab_get (v := .int (h 0 10)) fl_W_56 rfl rfl de_W_turn_17 ?_
      refine ab_top (v' := nI (sp_en m i t)) (hN) ?_
      refine ab_cS (as := [.int (nI (sp_en m i t))]) (st := []) (ct_B_side l _ (ab_S nr h g rr) hm hi ht) mo_B_side ms_B_side ml_W_181 rfl rfl (Nat.le_of_ble_eq_true rfl) de_W_turn_20 (fun v_ M_ hK_ hl_ hv_ => ?_)
      obtain ⟨rfl, hm_⟩ := hK_
      have hm_ := hm_.symm
      subst hm_
      change ab_G _ _ _ _ _ _ _ [(0, .ref 0), (1, .int x)] [.int (nI t)] (ab_S nr h g rr) _
      refine ab_istore_n (L' := [(2, .int (nI t)), (0, .ref 0), (1, .int x)]) de_W_turn_23 (by decide) rfl ?_
      refine ab_iload_n de_W_turn_24 0 rfl ?_
      refine ab_iload_n de_W_turn_25 2 rfl ?_
      refine ab_icmp_eq (tgt := 40) de_W_turn_26 rfl (fun c_26_3 => ?_) (fun c_26_3 => ?_)
      · refine ab_iload_n de_W_turn_40 0 rfl ?_
        exact ab_ret (v := some (.int (nI t))) de_W_turn_41 ⟨_, rfl⟩ (by unfold fx_W_turn; rw [if_neg c_1_1, if_pos c_6_2, if_pos c_26_3])
      · refine ab_aload_n de_W_turn_29 1 rfl ?_
        refine ab_aload_n de_W_turn_30 1 rfl ?_
        refine ab_get (v := .int (h 0 10)) fl_W_56 rfl rfl de_W_turn_31 ?_
        refine ab_top (v' := nI (sp_en m i t)) (hN) ?_
        refine ab_cS (as := [.int (nI (sp_en m i t))]) (st := [.ref 0]) (ct_B_turned l _ (ab_S nr h g rr) hm hi ht) mo_B_turned ms_B_turned ml_W_184 rfl rfl (Nat.le_of_ble_eq_true rfl) de_W_turn_34 (fun v_ M_ hK_ hl_ hv_ => ?_)
        obtain ⟨rfl, hm_⟩ := hK_
        have hm_ := hm_.symm
        subst hm_
        change ab_G _ _ _ _ _ _ _ [(2, .int (nI t)), (0, .ref 0), (1, .int x)] [.int (nI (sp_en i m (1 - t))), .ref 0] (ab_S nr h g rr) _
        refine ab_putI (x := 0) (j := 10) fl_W_56 rfl (Or.inl rfl) rfl rfl rfl de_W_turn_37 ?_
        change ab_G _ _ _ _ _ _ _ _ _ (ab_S nr (ab_u2 h 0 10 (nI (sp_en i m (1 - t)))) g rr) _
        refine ab_iload_n de_W_turn_40 0 rfl ?_
        exact ab_ret (v := some (.int (nI t))) de_W_turn_41 ⟨_, rfl⟩ (by unfold fx_W_turn; rw [if_neg c_1_1, if_pos c_6_2, if_neg c_26_3])
    · refine ab_aload_n de_W_turn_9 0 rfl ?_
      refine ab_bipush (v := -6) de_W_turn_10 rfl ?_
      refine ab_cV (as := [.int (-6 : Int32)]) (st := []) (ct_W_refuse l _ nr h g rr (r := (-6 : Int32)) (k := 6) (by decide) (by decide)) mo_W_refuse mi_W_refuse ml_W_88 rfl (by decide) rfl rfl rfl (Nat.le_of_ble_eq_true rfl) de_W_turn_12 (fun v_ M_ hK_ hl_ hv_ => ?_)
      obtain ⟨rfl, hm_⟩ := hK_
      have hm_ := hm_.symm
      subst hm_
      change ab_G _ _ _ _ _ _ _ [(0, .ref 0), (1, .int x)] [.int (-6 : Int32)] (ab_S nr (ab_u2 h 28 6 (h 28 6 + 1)) g rr) _
      exact ab_ret (v := some (.int (-6 : Int32))) de_W_turn_15 ⟨_, rfl⟩ (by unfold fx_W_turn; rw [if_neg c_1_1, if_neg c_6_2])
def fx_W_moves (nr : Nat) (h : Nat → Nat → Int32) (g : Nat → Nat → Int64) (rr : Nat → Option Nat) (T : Nat → Nat → Nat) (m i t : Nat)  (x : Int32) : Option Value × ab_Me :=
  if (ab_bz (sp_cd x)) = 0 then
    (some (.int (-1 : Int32)), (ab_S nr (ab_u2 h 28 1 (h 28 1 + 1)) g rr))
  else
    (some (.int (nI (sp_sum (fun p => sp_cn (sp_tg T (sp_lv T x.toNatClampNeg m i) m i p)) 16))), (ab_S nr h g rr))
set_option maxHeartbeats 1000000 in
set_option maxRecDepth 10000 in
theorem ct_W_moves (l : Launch) (d : Nat) (nr : Nat) (h : Nat → Nat → Int32) (g : Nat → Nat → Int64) (rr : Nat → Option Nat) {T : Nat → Nat → Nat} (hT : bo_T T h 17) (hO : sp_ok T) {m i t : Nat} (hm : m < 4096) (hi : i < 4096) (ht : t < 2) (hdj : sp_dj m i) (hN : h 0 10 = nI (sp_en m i t))  (x : Int32) : ab_C l am_W_moves (d + 4) 0 0 [.ref 0, .int x] (ab_S nr h g rr) (fun r_ M' => (r_, M') = fx_W_moves nr h g rr T m i t x) := by
  refine ab_C_of (by decide +kernel) rfl (Nat.le_of_ble_eq_true rfl) ?_
  refine ab_iload_n de_W_moves_0 1 rfl ?_
  refine ab_cS (as := [.int x]) (st := []) (ct_W_isCode l _ (ab_S nr h g rr) (x)) mo_W_isCode ms_W_isCode ml_W_168 rfl rfl (Nat.le_of_ble_eq_true rfl) de_W_moves_1 (fun v_ M_ hK_ hl_ hv_ => ?_)
  obtain ⟨rfl, hm_⟩ := hK_
  have hm_ := hm_.symm
  subst hm_
  change ab_G _ _ _ _ _ _ _ [(0, .ref 0), (1, .int x)] [.int (ab_bz (sp_cd x))] (ab_S nr h g rr) _
  refine ab_if_ne (tgt := 13) de_W_moves_4 rfl (fun c_4_1 => ?_) (fun c_4_1 => ?_)
  · obtain ⟨xn, hxn, rfl⟩ := sp_cd_n c_4_1
    refine ab_aload_n de_W_moves_13 0 rfl ?_
    refine ab_get (v := .ref 16) fl_W_55 rfl rfl de_W_moves_14 ?_
    refine ab_aload_n de_W_moves_17 0 rfl ?_
    refine ab_get (v := .int (h 0 10)) fl_W_56 rfl rfl de_W_moves_18 ?_
    refine ab_top (v' := nI (sp_en m i t)) (hN) ?_
    refine ab_aload_n de_W_moves_21 0 rfl ?_
    refine ab_get (v := .ref 16) fl_W_55 rfl rfl de_W_moves_22 ?_
    refine ab_aload_n de_W_moves_25 0 rfl ?_
    refine ab_get (v := .int (h 0 10)) fl_W_56 rfl rfl de_W_moves_26 ?_
    refine ab_top (v' := nI (sp_en m i t)) (hN) ?_
    refine ab_iload_n de_W_moves_29 1 rfl ?_
    refine ab_cV (as := [.int (nI (sp_en m i t)), .int (nI xn)]) (st := [.int (nI (sp_en m i t)), .ref 16]) (ct_B_live l _ nr h g rr hT hO hm hi ht (c := xn) (by omega)) mo_B_live mi_B_live ml_W_187 rfl (by decide) rfl rfl rfl (Nat.le_of_ble_eq_true rfl) de_W_moves_30 (fun v_ M_ hK_ hl_ hv_ => ?_)
    obtain ⟨rfl, hm_⟩ := hK_
    have hm_ := hm_.symm
    subst hm_
    change ab_G _ _ _ _ _ _ _ [(0, .ref 0), (1, .int (nI xn))] [.int (nI (sp_lv T xn m i)), .int (nI (sp_en m i t)), .ref 16] (ab_S nr h g rr) _
    refine ab_cV (as := [.int (nI (sp_en m i t)), .int (nI (sp_lv T xn m i))]) (st := []) (ct_B_lawfulCount l _ nr h g rr hT hO hm hi ht (sp_lv4 T _ _ _)) mo_B_lawfulCount mi_B_lawfulCount ml_W_190 rfl (by decide) rfl rfl rfl (Nat.le_of_ble_eq_true rfl) de_W_moves_33 (fun v_ M_ hK_ hl_ hv_ => ?_)
    obtain ⟨rfl, hm_⟩ := hK_
    have hm_ := hm_.symm
    subst hm_
    change ab_G _ _ _ _ _ _ _ [(0, .ref 0), (1, .int (nI xn))] [.int (nI (sp_sum (fun p => sp_cn (sp_tg T (sp_lv T xn m i) m i p)) 16))] (ab_S nr h g rr) _
    exact ab_ret (v := some (.int (nI (sp_sum (fun p => sp_cn (sp_tg T (sp_lv T xn m i) m i p)) 16)))) de_W_moves_36 ⟨_, rfl⟩ (by unfold fx_W_moves; try simp only [ab_tn (show xn < 2 ^ 31 by omega)]; rw [if_neg c_4_1])
  · refine ab_aload_n de_W_moves_7 0 rfl ?_
    refine ab_iconst (v := -1) de_W_moves_8 rfl ?_
    refine ab_cV (as := [.int (-1 : Int32)]) (st := []) (ct_W_refuse l _ nr h g rr (r := (-1 : Int32)) (k := 1) (by decide) (by decide)) mo_W_refuse mi_W_refuse ml_W_88 rfl (by decide) rfl rfl rfl (Nat.le_of_ble_eq_true rfl) de_W_moves_9 (fun v_ M_ hK_ hl_ hv_ => ?_)
    obtain ⟨rfl, hm_⟩ := hK_
    have hm_ := hm_.symm
    subst hm_
    change ab_G _ _ _ _ _ _ _ [(0, .ref 0), (1, .int x)] [.int (-1 : Int32)] (ab_S nr (ab_u2 h 28 1 (h 28 1 + 1)) g rr) _
    exact ab_ret (v := some (.int (-1 : Int32))) de_W_moves_12 ⟨_, rfl⟩ (by unfold fx_W_moves; rw [if_pos c_4_1])
def fx_W_move (nr : Nat) (h : Nat → Nat → Int32) (g : Nat → Nat → Int64) (rr : Nat → Option Nat) (T : Nat → Nat → Nat) (m i t : Nat)  (x y : Int32) : Option Value × ab_Me :=
  if (ab_bz (sp_cd x)) = 0 then
    (some (.int (-5 : Int32)), (ab_S nr (ab_u2 h 28 5 (h 28 5 + 1)) g rr))
  else
    if (sp_fd y (sp_ml T (sp_lv T x.toNatClampNeg m i) m i) 0) = (-1 : Int32) then
      (some (.int (-5 : Int32)), (ab_S nr (ab_u2 h 28 5 (h 28 5 + 1)) g rr))
    else
      (some (.int (sp_fd y (sp_ml T (sp_lv T x.toNatClampNeg m i) m i) 0)), (ab_S nr h g rr))
set_option maxHeartbeats 1000000 in
set_option maxRecDepth 10000 in
theorem ct_W_move (l : Launch) (d : Nat) (nr : Nat) (h : Nat → Nat → Int32) (g : Nat → Nat → Int64) (rr : Nat → Option Nat) {T : Nat → Nat → Nat} (hT : bo_T T h 17) (hO : sp_ok T) {m i t : Nat} (hm : m < 4096) (hi : i < 4096) (ht : t < 2) (hdj : sp_dj m i) (hN : h 0 10 = nI (sp_en m i t))  (x y : Int32) : ab_C l am_W_move (d + 4) 0 0 [.ref 0, .int x, .int y] (ab_S nr h g rr) (fun r_ M' => (r_, M') = fx_W_move nr h g rr T m i t x y) := by
  refine ab_C_of (by decide +kernel) rfl (Nat.le_of_ble_eq_true rfl) ?_
  refine ab_iload_n de_W_move_0 1 rfl ?_
  refine ab_cS (as := [.int x]) (st := []) (ct_W_isCode l _ (ab_S nr h g rr) (x)) mo_W_isCode ms_W_isCode ml_W_168 rfl rfl (Nat.le_of_ble_eq_true rfl) de_W_move_1 (fun v_ M_ hK_ hl_ hv_ => ?_)
  obtain ⟨rfl, hm_⟩ := hK_
  have hm_ := hm_.symm
  subst hm_
  change ab_G _ _ _ _ _ _ _ [(0, .ref 0), (1, .int x), (2, .int y)] [.int (ab_bz (sp_cd x))] (ab_S nr h g rr) _
  refine ab_if_ne (tgt := 14) de_W_move_4 rfl (fun c_4_1 => ?_) (fun c_4_1 => ?_)
  · obtain ⟨xn, hxn, rfl⟩ := sp_cd_n c_4_1
    refine ab_aload_n de_W_move_14 0 rfl ?_
    refine ab_get (v := .ref 16) fl_W_55 rfl rfl de_W_move_15 ?_
    refine ab_aload_n de_W_move_18 0 rfl ?_
    refine ab_get (v := .int (h 0 10)) fl_W_56 rfl rfl de_W_move_19 ?_
    refine ab_top (v' := nI (sp_en m i t)) (hN) ?_
    refine ab_aload_n de_W_move_22 0 rfl ?_
    refine ab_get (v := .ref 16) fl_W_55 rfl rfl de_W_move_23 ?_
    refine ab_aload_n de_W_move_26 0 rfl ?_
    refine ab_get (v := .int (h 0 10)) fl_W_56 rfl rfl de_W_move_27 ?_
    refine ab_top (v' := nI (sp_en m i t)) (hN) ?_
    refine ab_iload_n de_W_move_30 1 rfl ?_
    refine ab_cV (as := [.int (nI (sp_en m i t)), .int (nI xn)]) (st := [.int (nI (sp_en m i t)), .ref 16]) (ct_B_live l _ nr h g rr hT hO hm hi ht (c := xn) (by omega)) mo_B_live mi_B_live ml_W_187 rfl (by decide) rfl rfl rfl (Nat.le_of_ble_eq_true rfl) de_W_move_31 (fun v_ M_ hK_ hl_ hv_ => ?_)
    obtain ⟨rfl, hm_⟩ := hK_
    have hm_ := hm_.symm
    subst hm_
    change ab_G _ _ _ _ _ _ _ [(0, .ref 0), (1, .int (nI xn)), (2, .int y)] [.int (nI (sp_lv T xn m i)), .int (nI (sp_en m i t)), .ref 16] (ab_S nr h g rr) _
    refine ab_iload_n de_W_move_34 2 rfl ?_
    refine ab_cV (as := [.int (nI (sp_en m i t)), .int (nI (sp_lv T xn m i)), .int y]) (st := []) (ct_B_lawfulAt l _ nr h g rr hT hO hm hi ht (sp_lv4 T _ _ _) y) mo_B_lawfulAt mi_B_lawfulAt ml_W_193 rfl (by decide) rfl rfl rfl (Nat.le_of_ble_eq_true rfl) de_W_move_35 (fun v_ M_ hK_ hl_ hv_ => ?_)
    obtain ⟨rfl, hm_⟩ := hK_
    have hm_ := hm_.symm
    subst hm_
    change ab_G _ _ _ _ _ _ _ [(0, .ref 0), (1, .int (nI xn)), (2, .int y)] [.int (sp_fd y (sp_ml T (sp_lv T xn m i) m i) 0)] (ab_S nr h g rr) _
    refine ab_istore_n (L' := [(3, .int (sp_fd y (sp_ml T (sp_lv T xn m i) m i) 0)), (0, .ref 0), (1, .int (nI xn)), (2, .int y)]) de_W_move_38 (by decide) rfl ?_
    refine ab_iload_n de_W_move_39 0 rfl ?_
    refine ab_iconst (v := -1) de_W_move_40 rfl ?_
    refine ab_icmp_ne (tgt := 53) de_W_move_41 rfl (fun c_41_2 => ?_) (fun c_41_2 => ?_)
    · refine ab_iload_n de_W_move_53 0 rfl ?_
      exact ab_ret (v := some (.int (sp_fd y (sp_ml T (sp_lv T xn m i) m i) 0))) de_W_move_54 ⟨_, rfl⟩ (by unfold fx_W_move; try simp only [ab_tn (show xn < 2 ^ 31 by omega)]; rw [if_neg c_4_1, if_neg c_41_2])
    · refine ab_aload_n de_W_move_44 1 rfl ?_
      refine ab_bipush (v := -5) de_W_move_45 rfl ?_
      refine ab_cV (as := [.int (-5 : Int32)]) (st := []) (ct_W_refuse l _ nr h g rr (r := (-5 : Int32)) (k := 5) (by decide) (by decide)) mo_W_refuse mi_W_refuse ml_W_88 rfl (by decide) rfl rfl rfl (Nat.le_of_ble_eq_true rfl) de_W_move_47 (fun v_ M_ hK_ hl_ hv_ => ?_)
      obtain ⟨rfl, hm_⟩ := hK_
      have hm_ := hm_.symm
      subst hm_
      change ab_G _ _ _ _ _ _ _ [(3, .int (sp_fd y (sp_ml T (sp_lv T xn m i) m i) 0)), (0, .ref 0), (1, .int (nI xn)), (2, .int y)] [.int (-5 : Int32)] (ab_S nr (ab_u2 h 28 5 (h 28 5 + 1)) g rr) _
      refine ab_goto (tgt := 54) de_W_move_50 rfl ?_
      exact ab_ret (v := some (.int (-5 : Int32))) de_W_move_54 ⟨_, rfl⟩ (by unfold fx_W_move; try simp only [ab_tn (show xn < 2 ^ 31 by omega)]; rw [if_neg c_4_1, if_pos c_41_2])
  · refine ab_aload_n de_W_move_7 0 rfl ?_
    refine ab_bipush (v := -5) de_W_move_8 rfl ?_
    refine ab_cV (as := [.int (-5 : Int32)]) (st := []) (ct_W_refuse l _ nr h g rr (r := (-5 : Int32)) (k := 5) (by decide) (by decide)) mo_W_refuse mi_W_refuse ml_W_88 rfl (by decide) rfl rfl rfl (Nat.le_of_ble_eq_true rfl) de_W_move_10 (fun v_ M_ hK_ hl_ hv_ => ?_)
    obtain ⟨rfl, hm_⟩ := hK_
    have hm_ := hm_.symm
    subst hm_
    change ab_G _ _ _ _ _ _ _ [(0, .ref 0), (1, .int x), (2, .int y)] [.int (-5 : Int32)] (ab_S nr (ab_u2 h 28 5 (h 28 5 + 1)) g rr) _
    exact ab_ret (v := some (.int (-5 : Int32))) de_W_move_13 ⟨_, rfl⟩ (by unfold fx_W_move; rw [if_pos c_4_1])
def fx_W_over (nr : Nat) (h : Nat → Nat → Int32) (g : Nat → Nat → Int64) (rr : Nat → Option Nat) (T : Nat → Nat → Nat) (m i t : Nat)  (x : Int32) : Option Value × ab_Me :=
  if (ab_bz (sp_cd x)) = 0 then
    (some (.int (-11 : Int32)), (ab_S nr (ab_u2 h 28 1 (h 28 1 + 1)) g rr))
  else
    (some (.int (sp_wn T x.toNatClampNeg m i t)), (ab_S nr h g rr))
set_option maxHeartbeats 1000000 in
set_option maxRecDepth 10000 in
theorem ct_W_over (l : Launch) (d : Nat) (nr : Nat) (h : Nat → Nat → Int32) (g : Nat → Nat → Int64) (rr : Nat → Option Nat) {T : Nat → Nat → Nat} (hT : bo_T T h 17) (hO : sp_ok T) {m i t : Nat} (hm : m < 4096) (hi : i < 4096) (ht : t < 2) (hdj : sp_dj m i) (hN : h 0 10 = nI (sp_en m i t))  (x : Int32) : ab_C l am_W_over (d + 5) 0 0 [.ref 0, .int x] (ab_S nr h g rr) (fun r_ M' => (r_, M') = fx_W_over nr h g rr T m i t x) := by
  refine ab_C_of (by decide +kernel) rfl (Nat.le_of_ble_eq_true rfl) ?_
  refine ab_iload_n de_W_over_0 1 rfl ?_
  refine ab_cS (as := [.int x]) (st := []) (ct_W_isCode l _ (ab_S nr h g rr) (x)) mo_W_isCode ms_W_isCode ml_W_168 rfl rfl (Nat.le_of_ble_eq_true rfl) de_W_over_1 (fun v_ M_ hK_ hl_ hv_ => ?_)
  obtain ⟨rfl, hm_⟩ := hK_
  have hm_ := hm_.symm
  subst hm_
  change ab_G _ _ _ _ _ _ _ [(0, .ref 0), (1, .int x)] [.int (ab_bz (sp_cd x))] (ab_S nr h g rr) _
  refine ab_if_eq (tgt := 22) de_W_over_4 rfl (fun c_4_1 => ?_) (fun c_4_1 => ?_)
  · refine ab_aload_n de_W_over_22 0 rfl ?_
    refine ab_iconst (v := -1) de_W_over_23 rfl ?_
    refine ab_bipush (v := -11) de_W_over_24 rfl ?_
    refine ab_cV (as := [.int (-1 : Int32), .int (-11 : Int32)]) (st := []) (ct_W_refuseTold l _ nr h g rr (r := (-1 : Int32)) (k := 1) (by decide) (by decide) ((-11 : Int32))) mo_W_refuseTold mi_W_refuseTold ml_W_199 rfl (by decide) rfl rfl rfl (Nat.le_of_ble_eq_true rfl) de_W_over_26 (fun v_ M_ hK_ hl_ hv_ => ?_)
    obtain ⟨rfl, hm_⟩ := hK_
    have hm_ := hm_.symm
    subst hm_
    change ab_G _ _ _ _ _ _ _ [(0, .ref 0), (1, .int x)] [.int (-11 : Int32)] (ab_S nr (ab_u2 h 28 1 (h 28 1 + 1)) g rr) _
    exact ab_ret (v := some (.int (-11 : Int32))) de_W_over_29 ⟨_, rfl⟩ (by unfold fx_W_over; rw [if_pos c_4_1])
  · obtain ⟨xn, hxn, rfl⟩ := sp_cd_n c_4_1
    refine ab_aload_n de_W_over_7 0 rfl ?_
    refine ab_get (v := .ref 16) fl_W_55 rfl rfl de_W_over_8 ?_
    refine ab_aload_n de_W_over_11 0 rfl ?_
    refine ab_get (v := .int (h 0 10)) fl_W_56 rfl rfl de_W_over_12 ?_
    refine ab_top (v' := nI (sp_en m i t)) (hN) ?_
    refine ab_iload_n de_W_over_15 1 rfl ?_
    refine ab_cV (as := [.int (nI (sp_en m i t)), .int (nI xn)]) (st := []) (ct_B_winner l _ nr h g rr hT hO hm hi ht (c := xn) (by omega)) mo_B_winner mi_B_winner ml_W_196 rfl (by decide) rfl rfl rfl (Nat.le_of_ble_eq_true rfl) de_W_over_16 (fun v_ M_ hK_ hl_ hv_ => ?_)
    obtain ⟨rfl, hm_⟩ := hK_
    have hm_ := hm_.symm
    subst hm_
    change ab_G _ _ _ _ _ _ _ [(0, .ref 0), (1, .int (nI xn))] [.int (sp_wn T xn m i t)] (ab_S nr h g rr) _
    refine ab_goto (tgt := 29) de_W_over_19 rfl ?_
    exact ab_ret (v := some (.int (sp_wn T xn m i t))) de_W_over_29 ⟨_, rfl⟩ (by unfold fx_W_over; try simp only [ab_tn (show xn < 2 ^ 31 by omega)]; rw [if_neg c_4_1])
def fx_W_play (nr : Nat) (h : Nat → Nat → Int32) (g : Nat → Nat → Int64) (rr : Nat → Option Nat) (T : Nat → Nat → Nat) (m i t : Nat)  (x y : Int32) : Option Value × ab_Me :=
  if (ab_bz (sp_cd x)) = 0 then
    (some (.int (-1 : Int32)), (ab_S nr (ab_u2 h 28 1 (h 28 1 + 1)) g rr))
  else
    if (ab_bz (sp_im y)) = 0 then
      (some (.int (-6 : Int32)), (ab_S nr (ab_u2 h 28 6 (h 28 6 + 1)) g rr))
    else
      if (ab_bz (sp_al T (sp_lv T x.toNatClampNeg m i) m i y.toNatClampNeg)) = 0 then
        (some (.int (-6 : Int32)), (ab_S nr (ab_u2 h 28 6 (h 28 6 + 1)) g rr))
      else
        (some (.int (nI (sp_cn (sp_d2 T (sp_lv T x.toNatClampNeg m i) m i y.toNatClampNeg ||| sp_d1 T (sp_lv T x.toNatClampNeg m i) m i y.toNatClampNeg)))), (ab_S nr (ab_u2 h 0 10 (nI (sp_en (sp_d2 T (sp_lv T x.toNatClampNeg m i) m i y.toNatClampNeg) (sp_d1 T (sp_lv T x.toNatClampNeg m i) m i y.toNatClampNeg) (1 - t)))) g rr))
set_option maxHeartbeats 1000000 in
set_option maxRecDepth 10000 in
theorem ct_W_play (l : Launch) (d : Nat) (nr : Nat) (h : Nat → Nat → Int32) (g : Nat → Nat → Int64) (rr : Nat → Option Nat) {T : Nat → Nat → Nat} (hT : bo_T T h 17) (hO : sp_ok T) {m i t : Nat} (hm : m < 4096) (hi : i < 4096) (ht : t < 2) (hdj : sp_dj m i) (hN : h 0 10 = nI (sp_en m i t))  (x y : Int32) : ab_C l am_W_play (d + 4) 0 0 [.ref 0, .int x, .int y] (ab_S nr h g rr) (fun r_ M' => (r_, M') = fx_W_play nr h g rr T m i t x y) := by
  refine ab_C_of (by decide +kernel) rfl (Nat.le_of_ble_eq_true rfl) ?_
  refine ab_iload_n de_W_play_0 1 rfl ?_
  refine ab_cS (as := [.int x]) (st := []) (ct_W_isCode l _ (ab_S nr h g rr) (x)) mo_W_isCode ms_W_isCode ml_W_168 rfl rfl (Nat.le_of_ble_eq_true rfl) de_W_play_1 (fun v_ M_ hK_ hl_ hv_ => ?_)
  obtain ⟨rfl, hm_⟩ := hK_
  have hm_ := hm_.symm
  subst hm_
  change ab_G _ _ _ _ _ _ _ [(0, .ref 0), (1, .int x), (2, .int y)] [.int (ab_bz (sp_cd x))] (ab_S nr h g rr) _
  refine ab_if_ne (tgt := 13) de_W_play_4 rfl (fun c_4_1 => ?_) (fun c_4_1 => ?_)
  · obtain ⟨xn, hxn, rfl⟩ := sp_cd_n c_4_1
    refine ab_aload_n de_W_play_13 0 rfl ?_
    refine ab_get (v := .ref 16) fl_W_55 rfl rfl de_W_play_14 ?_
    refine ab_aload_n de_W_play_17 0 rfl ?_
    refine ab_get (v := .int (h 0 10)) fl_W_56 rfl rfl de_W_play_18 ?_
    refine ab_top (v' := nI (sp_en m i t)) (hN) ?_
    refine ab_iload_n de_W_play_21 1 rfl ?_
    refine ab_cV (as := [.int (nI (sp_en m i t)), .int (nI xn)]) (st := []) (ct_B_live l _ nr h g rr hT hO hm hi ht (c := xn) (by omega)) mo_B_live mi_B_live ml_W_187 rfl (by decide) rfl rfl rfl (Nat.le_of_ble_eq_true rfl) de_W_play_22 (fun v_ M_ hK_ hl_ hv_ => ?_)
    obtain ⟨rfl, hm_⟩ := hK_
    have hm_ := hm_.symm
    subst hm_
    change ab_G _ _ _ _ _ _ _ [(0, .ref 0), (1, .int (nI xn)), (2, .int y)] [.int (nI (sp_lv T xn m i))] (ab_S nr h g rr) _
    refine ab_istore_n (L' := [(3, .int (nI (sp_lv T xn m i))), (0, .ref 0), (1, .int (nI xn)), (2, .int y)]) de_W_play_25 (by decide) rfl ?_
    refine ab_iload_n de_W_play_26 3 rfl ?_
    refine ab_cS (as := [.int y]) (st := []) (ct_B_isMove l _ (ab_S nr h g rr) y) mo_B_isMove ms_B_isMove ml_W_202 rfl rfl (Nat.le_of_ble_eq_true rfl) de_W_play_27 (fun v_ M_ hK_ hl_ hv_ => ?_)
    obtain ⟨rfl, hm_⟩ := hK_
    have hm_ := hm_.symm
    subst hm_
    change ab_G _ _ _ _ _ _ _ [(3, .int (nI (sp_lv T xn m i))), (0, .ref 0), (1, .int (nI xn)), (2, .int y)] [.int (ab_bz (sp_im y))] (ab_S nr h g rr) _
    refine ab_if_eq (tgt := 49) de_W_play_30 rfl (fun c_30_2 => ?_) (fun c_30_2 => ?_)
    · refine ab_aload_n de_W_play_49 1 rfl ?_
      refine ab_bipush (v := -6) de_W_play_50 rfl ?_
      refine ab_cV (as := [.int (-6 : Int32)]) (st := []) (ct_W_refuse l _ nr h g rr (r := (-6 : Int32)) (k := 6) (by decide) (by decide)) mo_W_refuse mi_W_refuse ml_W_88 rfl (by decide) rfl rfl rfl (Nat.le_of_ble_eq_true rfl) de_W_play_52 (fun v_ M_ hK_ hl_ hv_ => ?_)
      obtain ⟨rfl, hm_⟩ := hK_
      have hm_ := hm_.symm
      subst hm_
      change ab_G _ _ _ _ _ _ _ [(3, .int (nI (sp_lv T xn m i))), (0, .ref 0), (1, .int (nI xn)), (2, .int y)] [.int (-6 : Int32)] (ab_S nr (ab_u2 h 28 6 (h 28 6 + 1)) g rr) _
      exact ab_ret (v := some (.int (-6 : Int32))) de_W_play_55 ⟨_, rfl⟩ (by unfold fx_W_play; try simp only [ab_tn (show xn < 2 ^ 31 by omega)]; rw [if_neg c_4_1, if_pos c_30_2])
    · obtain ⟨yn, hyn, rfl⟩ := im_n c_30_2
      refine ab_aload_n de_W_play_33 1 rfl ?_
      refine ab_get (v := .ref 16) fl_W_55 rfl rfl de_W_play_34 ?_
      refine ab_aload_n de_W_play_37 1 rfl ?_
      refine ab_get (v := .int (h 0 10)) fl_W_56 rfl rfl de_W_play_38 ?_
      refine ab_top (v' := nI (sp_en m i t)) (hN) ?_
      refine ab_iload_n de_W_play_41 0 rfl ?_
      refine ab_iload_n de_W_play_42 3 rfl ?_
      refine ab_cV (as := [.int (nI (sp_en m i t)), .int (nI (sp_lv T xn m i)), .int (nI yn)]) (st := []) (ct_B_allows l _ nr h g rr hT hO hm hi ht (sp_lv4 T _ _ _) hyn.1) mo_B_allows mi_B_allows ml_W_205 rfl (by decide) rfl rfl rfl (Nat.le_of_ble_eq_true rfl) de_W_play_43 (fun v_ M_ hK_ hl_ hv_ => ?_)
      obtain ⟨rfl, hm_⟩ := hK_
      have hm_ := hm_.symm
      subst hm_
      change ab_G _ _ _ _ _ _ _ [(3, .int (nI (sp_lv T xn m i))), (0, .ref 0), (1, .int (nI xn)), (2, .int (nI yn))] [.int (ab_bz (sp_al T (sp_lv T xn m i) m i yn))] (ab_S nr h g rr) _
      refine ab_if_ne (tgt := 56) de_W_play_46 rfl (fun c_46_3 => ?_) (fun c_46_3 => ?_)
      · refine ab_aload_n de_W_play_56 1 rfl ?_
        refine ab_aload_n de_W_play_57 1 rfl ?_
        refine ab_get (v := .ref 16) fl_W_55 rfl rfl de_W_play_58 ?_
        refine ab_aload_n de_W_play_61 1 rfl ?_
        refine ab_get (v := .int (h 0 10)) fl_W_56 rfl rfl de_W_play_62 ?_
        refine ab_top (v' := nI (sp_en m i t)) (hN) ?_
        refine ab_iload_n de_W_play_65 0 rfl ?_
        refine ab_iload_n de_W_play_66 3 rfl ?_
        refine ab_cV (as := [.int (nI (sp_en m i t)), .int (nI (sp_lv T xn m i)), .int (nI yn)]) (st := [.ref 0]) (ct_B_done l _ nr h g rr hT hO hm hi ht (sp_lv4 T _ _ _) hyn.1 hdj) mo_B_done mi_B_done ml_W_208 rfl (by decide) rfl rfl rfl (Nat.le_of_ble_eq_true rfl) de_W_play_67 (fun v_ M_ hK_ hl_ hv_ => ?_)
        obtain ⟨rfl, hm_⟩ := hK_
        have hm_ := hm_.symm
        subst hm_
        change ab_G _ _ _ _ _ _ _ [(3, .int (nI (sp_lv T xn m i))), (0, .ref 0), (1, .int (nI xn)), (2, .int (nI yn))] [.int (nI (sp_en (sp_d2 T (sp_lv T xn m i) m i yn) (sp_d1 T (sp_lv T xn m i) m i yn) (1 - t))), .ref 0] (ab_S nr h g rr) _
        refine ab_putI (x := 0) (j := 10) fl_W_56 rfl (Or.inl rfl) rfl rfl rfl de_W_play_70 ?_
        change ab_G _ _ _ _ _ _ _ _ _ (ab_S nr (ab_u2 h 0 10 (nI (sp_en (sp_d2 T (sp_lv T xn m i) m i yn) (sp_d1 T (sp_lv T xn m i) m i yn) (1 - t)))) g rr) _
        refine ab_aload_n de_W_play_73 1 rfl ?_
        refine ab_get (v := .int ((ab_u2 h 0 10 (nI (sp_en (sp_d2 T (sp_lv T xn m i) m i yn) (sp_d1 T (sp_lv T xn m i) m i yn) (1 - t)))) 0 10)) fl_W_56 rfl rfl de_W_play_74 ?_
        refine ab_top (v' := (nI (sp_en (sp_d2 T (sp_lv T xn m i) m i yn) (sp_d1 T (sp_lv T xn m i) m i yn) (1 - t)))) (ab_u2_at) ?_
        refine ab_cS (as := [.int (nI (sp_en (sp_d2 T (sp_lv T xn m i) m i yn) (sp_d1 T (sp_lv T xn m i) m i yn) (1 - t)))]) (st := []) (ct_B_pieces l _ (ab_S nr (ab_u2 h 0 10 (nI (sp_en (sp_d2 T (sp_lv T xn m i) m i yn) (sp_d1 T (sp_lv T xn m i) m i yn) (1 - t)))) g rr) (sp_d2_lt hi hyn.1.2.1) (sp_d1_lt (T := T) (v := 0) hm hyn.1.2.1) (show 1 - t < 2 by omega)) mo_B_pieces ms_B_pieces ml_W_211 rfl rfl (Nat.le_of_ble_eq_true rfl) de_W_play_77 (fun v_ M_ hK_ hl_ hv_ => ?_)
        obtain ⟨rfl, hm_⟩ := hK_
        have hm_ := hm_.symm
        subst hm_
        change ab_G _ _ _ _ _ _ _ [(3, .int (nI (sp_lv T xn m i))), (0, .ref 0), (1, .int (nI xn)), (2, .int (nI yn))] [.int (nI (sp_cn (sp_d2 T (sp_lv T xn m i) m i yn ||| sp_d1 T (sp_lv T xn m i) m i yn)))] (ab_S nr (ab_u2 h 0 10 (nI (sp_en (sp_d2 T (sp_lv T xn m i) m i yn) (sp_d1 T (sp_lv T xn m i) m i yn) (1 - t)))) g rr) _
        exact ab_ret (v := some (.int (nI (sp_cn (sp_d2 T (sp_lv T xn m i) m i yn ||| sp_d1 T (sp_lv T xn m i) m i yn))))) de_W_play_80 ⟨_, rfl⟩ (by unfold fx_W_play; try simp only [ab_tn (show xn < 2 ^ 31 by omega), ab_tn (show yn < 2 ^ 31 by omega)]; rw [if_neg c_4_1, if_neg c_30_2, if_neg c_46_3])
      · refine ab_aload_n de_W_play_49 1 rfl ?_
        refine ab_bipush (v := -6) de_W_play_50 rfl ?_
        refine ab_cV (as := [.int (-6 : Int32)]) (st := []) (ct_W_refuse l _ nr h g rr (r := (-6 : Int32)) (k := 6) (by decide) (by decide)) mo_W_refuse mi_W_refuse ml_W_88 rfl (by decide) rfl rfl rfl (Nat.le_of_ble_eq_true rfl) de_W_play_52 (fun v_ M_ hK_ hl_ hv_ => ?_)
        obtain ⟨rfl, hm_⟩ := hK_
        have hm_ := hm_.symm
        subst hm_
        change ab_G _ _ _ _ _ _ _ [(3, .int (nI (sp_lv T xn m i))), (0, .ref 0), (1, .int (nI xn)), (2, .int (nI yn))] [.int (-6 : Int32)] (ab_S nr (ab_u2 h 28 6 (h 28 6 + 1)) g rr) _
        exact ab_ret (v := some (.int (-6 : Int32))) de_W_play_55 ⟨_, rfl⟩ (by unfold fx_W_play; try simp only [ab_tn (show xn < 2 ^ 31 by omega), ab_tn (show yn < 2 ^ 31 by omega)]; rw [if_neg c_4_1, if_neg c_30_2, if_pos c_46_3])
  · refine ab_aload_n de_W_play_7 0 rfl ?_
    refine ab_iconst (v := -1) de_W_play_8 rfl ?_
    refine ab_cV (as := [.int (-1 : Int32)]) (st := []) (ct_W_refuse l _ nr h g rr (r := (-1 : Int32)) (k := 1) (by decide) (by decide)) mo_W_refuse mi_W_refuse ml_W_88 rfl (by decide) rfl rfl rfl (Nat.le_of_ble_eq_true rfl) de_W_play_9 (fun v_ M_ hK_ hl_ hv_ => ?_)
    obtain ⟨rfl, hm_⟩ := hK_
    have hm_ := hm_.symm
    subst hm_
    change ab_G _ _ _ _ _ _ _ [(0, .ref 0), (1, .int x), (2, .int y)] [.int (-1 : Int32)] (ab_S nr (ab_u2 h 28 1 (h 28 1 + 1)) g rr) _
    exact ab_ret (v := some (.int (-1 : Int32))) de_W_play_12 ⟨_, rfl⟩ (by unfold fx_W_play; rw [if_pos c_4_1])
def fx_W_value (nr : Nat) (h : Nat → Nat → Int32) (g : Nat → Nat → Int64) (rr : Nat → Option Nat) (T : Nat → Nat → Nat) (m i t : Nat)  (x y : Int32) : Option Value × ab_Me :=
  if (ab_bz (sp_cd x)) = 0 then
    (some (.int (-11 : Int32)), (ab_S nr (ab_u2 h 28 1 (h 28 1 + 1)) g rr))
  else
    if y < 0 then
      (some (.int (-16 : Int32)), (ab_S nr (ab_u2 h 28 6 (h 28 6 + 1)) g rr))
    else
      if y ≤ (3 : Int32) then
        (some (.int (sp_vl T x.toNatClampNeg y.toNatClampNeg m i)), (ab_S nr h g rr))
      else
        (some (.int (-16 : Int32)), (ab_S nr (ab_u2 h 28 6 (h 28 6 + 1)) g rr))
set_option maxHeartbeats 1000000 in
set_option maxRecDepth 10000 in
theorem ct_W_value (l : Launch) (d : Nat) (nr : Nat) (h : Nat → Nat → Int32) (g : Nat → Nat → Int64) (rr : Nat → Option Nat) {T : Nat → Nat → Nat} (hT : bo_T T h 17) (hO : sp_ok T) {m i t : Nat} (hm : m < 4096) (hi : i < 4096) (ht : t < 2) (hdj : sp_dj m i) (hN : h 0 10 = nI (sp_en m i t))  (x y : Int32) : ab_C l am_W_value (d + 12) 0 0 [.ref 0, .int x, .int y] (ab_S nr h g rr) (fun r_ M' => (r_, M') = fx_W_value nr h g rr T m i t x y) := by
  refine ab_C_of (by decide +kernel) rfl (Nat.le_of_ble_eq_true rfl) ?_
  refine ab_iload_n de_W_value_0 1 rfl ?_
  refine ab_cS (as := [.int x]) (st := []) (ct_W_isCode l _ (ab_S nr h g rr) (x)) mo_W_isCode ms_W_isCode ml_W_168 rfl rfl (Nat.le_of_ble_eq_true rfl) de_W_value_1 (fun v_ M_ hK_ hl_ hv_ => ?_)
  obtain ⟨rfl, hm_⟩ := hK_
  have hm_ := hm_.symm
  subst hm_
  change ab_G _ _ _ _ _ _ _ [(0, .ref 0), (1, .int x), (2, .int y)] [.int (ab_bz (sp_cd x))] (ab_S nr h g rr) _
  refine ab_if_ne (tgt := 15) de_W_value_4 rfl (fun c_4_1 => ?_) (fun c_4_1 => ?_)
  · obtain ⟨xn, hxn, rfl⟩ := sp_cd_n c_4_1
    refine ab_iload_n de_W_value_15 2 rfl ?_
    refine ab_if_lt (tgt := 24) de_W_value_16 rfl (fun c_16_2 => ?_) (fun c_16_2 => ?_)
    · refine ab_aload_n de_W_value_24 0 rfl ?_
      refine ab_bipush (v := -6) de_W_value_25 rfl ?_
      refine ab_bipush (v := -16) de_W_value_27 rfl ?_
      refine ab_cV (as := [.int (-6 : Int32), .int (-16 : Int32)]) (st := []) (ct_W_refuseTold l _ nr h g rr (r := (-6 : Int32)) (k := 6) (by decide) (by decide) ((-16 : Int32))) mo_W_refuseTold mi_W_refuseTold ml_W_199 rfl (by decide) rfl rfl rfl (Nat.le_of_ble_eq_true rfl) de_W_value_29 (fun v_ M_ hK_ hl_ hv_ => ?_)
      obtain ⟨rfl, hm_⟩ := hK_
      have hm_ := hm_.symm
      subst hm_
      change ab_G _ _ _ _ _ _ _ [(0, .ref 0), (1, .int (nI xn)), (2, .int y)] [.int (-16 : Int32)] (ab_S nr (ab_u2 h 28 6 (h 28 6 + 1)) g rr) _
      exact ab_ret (v := some (.int (-16 : Int32))) de_W_value_32 ⟨_, rfl⟩ (by unfold fx_W_value; try simp only [ab_tn (show xn < 2 ^ 31 by omega)]; rw [if_neg c_4_1, if_pos c_16_2])
    · have c16 := c_16_2
      refine ab_iload_n de_W_value_19 2 rfl ?_
      refine ab_iconst (v := 3) de_W_value_20 rfl ?_
      refine ab_icmp_le (tgt := 33) de_W_value_21 rfl (fun c_21_3 => ?_) (fun c_21_3 => ?_)
      · obtain ⟨yn, hyn, rfl⟩ := sp_bt2_n (N := 3) (by omega) c16 c_21_3
        refine ab_aload_n de_W_value_33 0 rfl ?_
        refine ab_get (v := .ref 16) fl_W_55 rfl rfl de_W_value_34 ?_
        refine ab_aload_n de_W_value_37 0 rfl ?_
        refine ab_get (v := .int (h 0 10)) fl_W_56 rfl rfl de_W_value_38 ?_
        refine ab_top (v' := nI (sp_en m i t)) (hN) ?_
        refine ab_iload_n de_W_value_41 1 rfl ?_
        refine ab_iload_n de_W_value_42 2 rfl ?_
        refine ab_cV (as := [.int (nI (sp_en m i t)), .int (nI xn), .int (nI yn)]) (st := []) (ct_B_valueOf l _ nr h g rr hT hO hm hi ht (c := xn) (by omega) hdj (n := yn) (by omega)) mo_B_valueOf mi_B_valueOf ml_W_214 rfl (by decide) rfl rfl rfl (Nat.le_of_ble_eq_true rfl) de_W_value_43 (fun v_ M_ hK_ hl_ hv_ => ?_)
        obtain ⟨rfl, hm_⟩ := hK_
        have hm_ := hm_.symm
        subst hm_
        change ab_G _ _ _ _ _ _ _ [(0, .ref 0), (1, .int (nI xn)), (2, .int (nI yn))] [.int (sp_vl T xn yn m i)] (ab_S nr h g rr) _
        exact ab_ret (v := some (.int (sp_vl T xn yn m i))) de_W_value_46 ⟨_, rfl⟩ (by unfold fx_W_value; try simp only [ab_tn (show xn < 2 ^ 31 by omega), ab_tn (show yn < 2 ^ 31 by omega)]; rw [if_neg c_4_1, if_neg c_16_2, if_pos c_21_3])
      · refine ab_aload_n de_W_value_24 0 rfl ?_
        refine ab_bipush (v := -6) de_W_value_25 rfl ?_
        refine ab_bipush (v := -16) de_W_value_27 rfl ?_
        refine ab_cV (as := [.int (-6 : Int32), .int (-16 : Int32)]) (st := []) (ct_W_refuseTold l _ nr h g rr (r := (-6 : Int32)) (k := 6) (by decide) (by decide) ((-16 : Int32))) mo_W_refuseTold mi_W_refuseTold ml_W_199 rfl (by decide) rfl rfl rfl (Nat.le_of_ble_eq_true rfl) de_W_value_29 (fun v_ M_ hK_ hl_ hv_ => ?_)
        obtain ⟨rfl, hm_⟩ := hK_
        have hm_ := hm_.symm
        subst hm_
        change ab_G _ _ _ _ _ _ _ [(0, .ref 0), (1, .int (nI xn)), (2, .int y)] [.int (-16 : Int32)] (ab_S nr (ab_u2 h 28 6 (h 28 6 + 1)) g rr) _
        exact ab_ret (v := some (.int (-16 : Int32))) de_W_value_32 ⟨_, rfl⟩ (by unfold fx_W_value; try simp only [ab_tn (show xn < 2 ^ 31 by omega)]; rw [if_neg c_4_1, if_neg c_16_2, if_neg c_21_3])
  · refine ab_aload_n de_W_value_7 0 rfl ?_
    refine ab_iconst (v := -1) de_W_value_8 rfl ?_
    refine ab_bipush (v := -11) de_W_value_9 rfl ?_
    refine ab_cV (as := [.int (-1 : Int32), .int (-11 : Int32)]) (st := []) (ct_W_refuseTold l _ nr h g rr (r := (-1 : Int32)) (k := 1) (by decide) (by decide) ((-11 : Int32))) mo_W_refuseTold mi_W_refuseTold ml_W_199 rfl (by decide) rfl rfl rfl (Nat.le_of_ble_eq_true rfl) de_W_value_11 (fun v_ M_ hK_ hl_ hv_ => ?_)
    obtain ⟨rfl, hm_⟩ := hK_
    have hm_ := hm_.symm
    subst hm_
    change ab_G _ _ _ _ _ _ _ [(0, .ref 0), (1, .int x), (2, .int y)] [.int (-11 : Int32)] (ab_S nr (ab_u2 h 28 1 (h 28 1 + 1)) g rr) _
    exact ab_ret (v := some (.int (-11 : Int32))) de_W_value_14 ⟨_, rfl⟩ (by unfold fx_W_value; rw [if_pos c_4_1])
