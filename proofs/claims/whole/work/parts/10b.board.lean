/-! the board: bits counted; what is let -/
set_option maxHeartbeats 1000000 in
set_option maxRecDepth 10000 in
theorem ct_B_pieces (l : Launch) (d : Nat) (M : ab_Me) {m i t : Nat} (hm : m < 4096) (hi : i < 4096) (ht : t < 2) : ab_C l am_B_pieces (d + 1) 0 0 [.int (nI (sp_en m i t))] M (fun (r_ : Option Value) (M' : ab_Me) => r_ = some (.int (nI (sp_cn (m ||| i)))) ∧ M' = M) := by
  refine ab_C_of (by decide +kernel) rfl (Nat.le_of_ble_eq_true rfl) ?_
  refine ab_bipush (v := 12) de_B_pieces_0 rfl ?_
  refine ab_iload_n de_B_pieces_2 0 rfl ?_
  refine ab_cS (as := [.int (nI (sp_en m i t))]) (st := [.int (12 : Int32)]) (ct_B_empty l _ M hm hi ht) mo_B_empty ms_B_empty ml_B_22 rfl rfl (Nat.le_of_ble_eq_true rfl) de_B_pieces_3 (fun v_ M_ hK_ hl_ hv_ => ?_)
  obtain ⟨rfl, hm_⟩ := hK_
  have hm_ := hm_.symm
  subst hm_
  change ab_G _ _ _ _ _ _ _ [(0, .int (nI (sp_en m i t)))] [.int (nI (ab_no (m ||| i))), .int (12 : Int32)] M _
  refine ab_cS (as := [.int (nI (ab_no (m ||| i)))]) (st := [.int (12 : Int32)]) (ct_I_bitCount l _ M (m := ab_no (m ||| i)) (ab_no_lt _)) mo_I_bitCount ms_I_bitCount ml_B_15 rfl rfl (Nat.le_of_ble_eq_true rfl) de_B_pieces_6 (fun v_ M_ hK_ hl_ hv_ => ?_)
  obtain ⟨rfl, hm_⟩ := hK_
  have hm_ := hm_.symm
  subst hm_
  change ab_G _ _ _ _ _ _ _ [(0, .int (nI (sp_en m i t)))] [.int (nI (sp_cn (ab_no (m ||| i)))), .int (12 : Int32)] M _
  refine ab_isub de_B_pieces_9 ?_
  exact ab_ret (v := some (.int ((12 : Int32) - (nI (sp_cn (ab_no (m ||| i))))))) de_B_pieces_10 ⟨_, rfl⟩ ⟨congrArg (fun z => some (Value.int z)) (bo_pc _ (sp_orlt hm hi)), rfl⟩
theorem bo_few {c : Nat} (hc : c < 4096) : nI c >>> ((10 : Int32) &&& 31) &&& 3 = nI (c / 1024 % 4) := by
  rw [show (10 : Int32) = nI 10 from rfl, ab_shr (by omega) (by decide), show (3 : Int32) = nI 3 from rfl, ab_and, sp_3m, sp_sr]
theorem bo_fewT {c m : Nat} (h : nI (c / 1024 % 4) ≤ nI (sp_cn m)) : ab_bz (sp_few c m) = 0 := by
  rw [ab_bz0]
  have h1 := sp_cn_le m
  have h2 := (ab_le (a := c / 1024 % 4) (by omega) (by omega)).mp h
  unfold sp_few
  rw [decide_eq_false_iff_not]
  omega
theorem bo_fewF {c m : Nat} (h : ¬ nI (c / 1024 % 4) ≤ nI (sp_cn m)) : ab_bz (sp_few c m) = 1 := by
  have h1 := sp_cn_le m
  have h2 : ¬ c / 1024 % 4 ≤ sp_cn m := fun z => h ((ab_le (a := c / 1024 % 4) (by omega) (by omega)).mpr z)
  unfold sp_few ab_bz
  rw [if_pos]
  rw [decide_eq_true_eq]
  omega
set_option maxHeartbeats 1000000 in
set_option maxRecDepth 10000 in
theorem ct_B_isTooFew (l : Launch) (d : Nat) (M : ab_Me) {m i t c : Nat} (hm : m < 4096) (hi : i < 4096) (ht : t < 2) (hc : c < 4096) : ab_C l am_B_isTooFew (d + 1) 0 0 [.int (nI (sp_en m i t)), .int (nI c)] M (fun (r_ : Option Value) (M' : ab_Me) => r_ = some (.int (ab_bz (sp_few c m))) ∧ M' = M) := by
  refine ab_C_of (by decide +kernel) rfl (Nat.le_of_ble_eq_true rfl) ?_
  refine ab_iload_n de_B_isTooFew_0 0 rfl ?_
  refine ab_cS (as := [.int (nI (sp_en m i t))]) (st := []) (ct_B_own l _ M hm hi ht) mo_B_own ms_B_own ml_B_36 rfl rfl (Nat.le_of_ble_eq_true rfl) de_B_isTooFew_1 (fun v_ M_ hK_ hl_ hv_ => ?_)
  obtain ⟨rfl, hm_⟩ := hK_
  have hm_ := hm_.symm
  subst hm_
  change ab_G _ _ _ _ _ _ _ [(0, .int (nI (sp_en m i t))), (1, .int (nI c))] [.int (nI m)] M _
  refine ab_cS (as := [.int (nI m)]) (st := []) (ct_I_bitCount l _ M (m := m) hm) mo_I_bitCount ms_I_bitCount ml_B_15 rfl rfl (Nat.le_of_ble_eq_true rfl) de_B_isTooFew_4 (fun v_ M_ hK_ hl_ hv_ => ?_)
  obtain ⟨rfl, hm_⟩ := hK_
  have hm_ := hm_.symm
  subst hm_
  change ab_G _ _ _ _ _ _ _ [(0, .int (nI (sp_en m i t))), (1, .int (nI c))] [.int (nI (sp_cn m))] M _
  refine ab_iload_n de_B_isTooFew_7 1 rfl ?_
  refine ab_bipush (v := 10) de_B_isTooFew_8 rfl ?_
  refine ab_ishr de_B_isTooFew_10 ?_
  refine ab_iconst (v := 3) de_B_isTooFew_11 rfl ?_
  refine ab_iand de_B_isTooFew_12 ?_
  refine ab_top (v' := nI (c / 1024 % 4)) (bo_few hc) ?_
  refine ab_icmp_ge (tgt := 20) de_B_isTooFew_13 rfl (fun c_13_1 => ?_) (fun c_13_1 => ?_)
  · refine ab_iconst (v := 0) de_B_isTooFew_20 rfl ?_
    exact ab_ret (v := some (.int (0 : Int32))) de_B_isTooFew_21 ⟨_, rfl, rfl⟩ ⟨congrArg (fun z => some (Value.int z)) (bo_fewT c_13_1).symm, rfl⟩
  · refine ab_iconst (v := 1) de_B_isTooFew_16 rfl ?_
    refine ab_goto (tgt := 21) de_B_isTooFew_17 rfl ?_
    exact ab_ret (v := some (.int (1 : Int32))) de_B_isTooFew_21 ⟨_, rfl, rfl⟩ ⟨congrArg (fun z => some (Value.int z)) (bo_fewF c_13_1).symm, rfl⟩
theorem sp_z {x : Nat} (hx : x < 4096) : nI x = 0 ↔ x = 0 := ab_inj (b := 0) (by omega) (by decide)
theorem sp_andlt {x y : Nat} (hx : x < 4096) : x &&& y < 4096 := Nat.lt_of_le_of_lt Nat.and_le_left hx
theorem ts_f {b : Bool} (h : ¬ nI b.toNat = 0) : b = true := by cases b <;> first | rfl | exact absurd rfl h
theorem ts_z {x : Nat} (hx : x < 4096) (h : ¬ nI x = 0) : ¬ x = 0 := fun e => h ((sp_z hx).mpr e)
set_option maxHeartbeats 1000000 in
set_option maxRecDepth 10000 in
theorem lp_B_letsJump_q (l : Launch) (d : Nat) (nr : Nat) (h : Nat → Nat → Int32) (g : Nat → Nat → Int64) (rr : Nat → Option Nat) {T : Nat → Nat → Nat} (hT : bo_T T h 17) (hO : sp_ok T) {m i t c : Nat} (hm : m < 4096) (hi : i < 4096) (ht : t < 2) (hc : c < 4096) {k : Nat} (hk : k < 3) (kx : (∀ q, q < 12 → sp_ja T c m i k q = false) → ab_G l none am_B_letsJump (d + 2) 0 0 95 [(0, .ref 16), (1, .int (nI (sp_en m i t))), (2, .int (nI c)), (3, .int (nI m)), (4, .int (nI i)), (5, .int (nI (ab_no (m ||| i)))), (6, .int (nI k))] [] (ab_S nr h g rr) (fun (r_ : Option Value) (M' : ab_Me) => r_ = some (.int (ab_bz (sp_lj T c m i))) ∧ M' = (ab_S nr h g rr))) (ky : (∃ q, q < 12 ∧ sp_ja T c m i k q = true) → (fun (r_ : Option Value) (M' : ab_Me) => r_ = some (.int (ab_bz (sp_lj T c m i))) ∧ M' = (ab_S nr h g rr)) (some (.int 1)) (ab_S nr h g rr)) : ∀ n q, q ≤ 12 → 12 < q + n → (∀ j, j < q → sp_ja T c m i k j = false) → ab_G l none am_B_letsJump (d + 2) 0 0 29 [(0, .ref 16), (1, .int (nI (sp_en m i t))), (2, .int (nI c)), (3, .int (nI m)), (4, .int (nI i)), (5, .int (nI (ab_no (m ||| i)))), (6, .int (nI k)), (7, .int (nI q))] [] (ab_S nr h g rr) (fun (r_ : Option Value) (M' : ab_Me) => r_ = some (.int (ab_bz (sp_lj T c m i))) ∧ M' = (ab_S nr h g rr)) := by
  intro n
  induction n with
  | zero => intro q h1 h2; omega
  | succ n ih =>
    intro q hq12 hqn hf
    refine ab_iload de_B_letsJump_29 7 rfl ?_
    refine ab_bipush (v := 12) de_B_letsJump_31 rfl ?_
    refine ab_icmp_ge (tgt := 95) de_B_letsJump_33 rfl (fun c_33_1 => ?_) (fun c_33_1 => ?_)
    · have hq := ab_le_of (n := 12) (by decide) (by omega) rfl c_33_1
      refine ab_sub (L' := [(0, .ref 16), (1, .int (nI (sp_en m i t))), (2, .int (nI c)), (3, .int (nI m)), (4, .int (nI i)), (5, .int (nI (ab_no (m ||| i)))), (6, .int (nI k))]) [0, 1, 2, 3, 4, 5, 6] rfl ?_
      exact kx (fun j hj => hf j (by omega))
    · have hq := ab_nle_of (n := 12) (by decide) (by omega) rfl c_33_1
      refine ab_iload_n de_B_letsJump_36 2 rfl ?_
      refine ab_iconst (v := 3) de_B_letsJump_37 rfl ?_
      refine ab_iload de_B_letsJump_38 6 rfl ?_
      refine ab_iadd de_B_letsJump_40 ?_
      refine ab_top (v' := nI (3 + k)) (by rw [show (3 : Int32) = nI 3 from rfl, ab_add]) ?_
      refine ab_ishr de_B_letsJump_41 ?_
      refine ab_iconst (v := 1) de_B_letsJump_42 rfl ?_
      refine ab_iand de_B_letsJump_43 ?_
      refine ab_top (v' := nI (c.testBit (3 + k)).toNat) (sp_bitne c (3 + k) (by omega) (by omega)) ?_
      refine ab_if_eq (tgt := 95) de_B_letsJump_44 rfl (fun c_44_2 => ?_) (fun c_44_2 => ?_)
      · refine ab_sub (L' := [(0, .ref 16), (1, .int (nI (sp_en m i t))), (2, .int (nI c)), (3, .int (nI m)), (4, .int (nI i)), (5, .int (nI (ab_no (m ||| i)))), (6, .int (nI k))]) [0, 1, 2, 3, 4, 5, 6] rfl ?_
        exact kx (fun j _ => by simp [sp_ja, (sp_b0 _).mp c_44_2])
      · refine ab_aload_n de_B_letsJump_47 0 rfl ?_
        refine ab_get (v := .ref 17) fl_B_9 rfl rfl de_B_letsJump_48 ?_
        refine ab_iload de_B_letsJump_51 6 rfl ?_
        refine ab_bipush (v := 12) de_B_letsJump_53 rfl ?_
        refine ab_imul de_B_letsJump_55 ?_
        refine ab_iload de_B_letsJump_56 7 rfl ?_
        refine ab_iadd de_B_letsJump_58 ?_
        refine ab_top (v' := nI (12 * k + q)) (by rw [show (12 : Int32) = nI 12 from rfl, ab_mul, ab_add, Nat.mul_comm]) ?_
        refine ab_iald (v := h 17 (12 * k + q)) rfl (ab_in (by omega) (by decide)) (ab_hv (ab_tn (by omega))) de_B_letsJump_59 ?_
        refine ab_top (v' := nI (T k q)) (hT k q hk hq) ?_
        refine ab_istore (L' := [(8, .int (nI (T k q))), (0, .ref 16), (1, .int (nI (sp_en m i t))), (2, .int (nI c)), (3, .int (nI m)), (4, .int (nI i)), (5, .int (nI (ab_no (m ||| i)))), (6, .int (nI k)), (7, .int (nI q))]) de_B_letsJump_60 (by decide) rfl ?_
        refine ab_iload de_B_letsJump_62 5 rfl ?_
        refine ab_iload de_B_letsJump_64 8 rfl ?_
        refine ab_ishr de_B_letsJump_66 ?_
        refine ab_iconst (v := 1) de_B_letsJump_67 rfl ?_
        refine ab_iand de_B_letsJump_68 ?_
        refine ab_top (v' := nI (i.testBit q).toNat) (sp_bitne i q (by omega) (by omega)) ?_
        refine ab_if_eq (tgt := 89) de_B_letsJump_69 rfl (fun c_69_3 => ?_) (fun c_69_3 => ?_)
        · refine ab_iinc (v := nI (q + 1)) (L' := [(7, .int (nI (q + 1))), (8, .int (nI (T k q))), (0, .ref 16), (1, .int (nI (sp_en m i t))), (2, .int (nI c)), (3, .int (nI m)), (4, .int (nI i)), (5, .int (nI (ab_no (m ||| i)))), (6, .int (nI k))]) de_B_letsJump_89 8 rfl (by rw [show Int32.ofInt 1 = nI 1 from rfl, ab_add]) (by decide) rfl ?_
          refine ab_goto (tgt := 29) de_B_letsJump_92 rfl ?_
          refine ab_sub (L' := [(0, .ref 16), (1, .int (nI (sp_en m i t))), (2, .int (nI c)), (3, .int (nI m)), (4, .int (nI i)), (5, .int (nI (ab_no (m ||| i)))), (6, .int (nI k)), (7, .int (nI (q + 1)))]) [2, 3, 4, 5, 6, 7, 8, 0] rfl ?_
          exact ih (q + 1) (by omega) (by omega) (fun j hj => by
            by_cases e : j = q
            · subst e; simp [sp_ja, (sp_b0 _).mp c_69_3]
            · exact hf j (by omega))
        · refine ab_iload de_B_letsJump_72 0 rfl ?_
          refine ab_iload_n de_B_letsJump_74 4 rfl ?_
          refine ab_iand de_B_letsJump_75 ?_
          refine ab_top (v' := nI (T k q &&& m)) (ab_and _ _) ?_
          refine ab_if_eq (tgt := 89) de_B_letsJump_76 rfl (fun c_76_4 => ?_) (fun c_76_4 => ?_)
          · refine ab_iinc (v := nI (q + 1)) (L' := [(7, .int (nI (q + 1))), (8, .int (nI (T k q))), (0, .ref 16), (1, .int (nI (sp_en m i t))), (2, .int (nI c)), (3, .int (nI m)), (4, .int (nI i)), (5, .int (nI (ab_no (m ||| i)))), (6, .int (nI k))]) de_B_letsJump_89 8 rfl (by rw [show Int32.ofInt 1 = nI 1 from rfl, ab_add]) (by decide) rfl ?_
            refine ab_goto (tgt := 29) de_B_letsJump_92 rfl ?_
            refine ab_sub (L' := [(0, .ref 16), (1, .int (nI (sp_en m i t))), (2, .int (nI c)), (3, .int (nI m)), (4, .int (nI i)), (5, .int (nI (ab_no (m ||| i)))), (6, .int (nI k)), (7, .int (nI (q + 1)))]) [2, 3, 4, 5, 6, 7, 8, 0] rfl ?_
            exact ih (q + 1) (by omega) (by omega) (fun j hj => by
              by_cases e : j = q
              · subst e; simp [sp_ja, (sp_z (sp_andlt (hO.lt hk hq))).mp c_76_4]
              · exact hf j (by omega))
          · refine ab_iload de_B_letsJump_79 0 rfl ?_
            refine ab_iload de_B_letsJump_81 6 rfl ?_
            refine ab_iand de_B_letsJump_83 ?_
            refine ab_top (v' := nI (T k q &&& ab_no (m ||| i))) (ab_and _ _) ?_
            refine ab_if_eq (tgt := 89) de_B_letsJump_84 rfl (fun c_84_5 => ?_) (fun c_84_5 => ?_)
            · refine ab_iinc (v := nI (q + 1)) (L' := [(7, .int (nI (q + 1))), (8, .int (nI (T k q))), (0, .ref 16), (1, .int (nI (sp_en m i t))), (2, .int (nI c)), (3, .int (nI m)), (4, .int (nI i)), (5, .int (nI (ab_no (m ||| i)))), (6, .int (nI k))]) de_B_letsJump_89 8 rfl (by rw [show Int32.ofInt 1 = nI 1 from rfl, ab_add]) (by decide) rfl ?_
              refine ab_goto (tgt := 29) de_B_letsJump_92 rfl ?_
              refine ab_sub (L' := [(0, .ref 16), (1, .int (nI (sp_en m i t))), (2, .int (nI c)), (3, .int (nI m)), (4, .int (nI i)), (5, .int (nI (ab_no (m ||| i)))), (6, .int (nI k)), (7, .int (nI (q + 1)))]) [2, 3, 4, 5, 6, 7, 8, 0] rfl ?_
              exact ih (q + 1) (by omega) (by omega) (fun j hj => by
                by_cases e : j = q
                · subst e; simp [sp_ja, (sp_z (sp_andlt (hO.lt hk hq))).mp c_84_5]
                · exact hf j (by omega))
            · refine ab_iconst (v := 1) de_B_letsJump_87 rfl ?_
              exact ab_ret (v := some (.int (1 : Int32))) de_B_letsJump_88 ⟨_, rfl, rfl⟩ (ky ⟨q, hq, by simp [sp_ja, ts_f c_44_2, ts_f c_69_3, ts_z (sp_andlt (hO.lt hk hq)) c_76_4, ts_z (sp_andlt (hO.lt hk hq)) c_84_5]⟩)
set_option maxHeartbeats 1000000 in
set_option maxRecDepth 10000 in
theorem lp_B_letsJump_k (l : Launch) (d : Nat) (nr : Nat) (h : Nat → Nat → Int32) (g : Nat → Nat → Int64) (rr : Nat → Option Nat) {T : Nat → Nat → Nat} (hT : bo_T T h 17) (hO : sp_ok T) {m i t c : Nat} (hm : m < 4096) (hi : i < 4096) (ht : t < 2) (hc : c < 4096) : ∀ n k, k ≤ 3 → 3 < k + n → (∀ j, j < k → sp_any (fun q => sp_ja T c m i j q) 12 = false) → ab_G l none am_B_letsJump (d + 2) 0 0 20 [(0, .ref 16), (1, .int (nI (sp_en m i t))), (2, .int (nI c)), (3, .int (nI m)), (4, .int (nI i)), (5, .int (nI (ab_no (m ||| i)))), (6, .int (nI k))] [] (ab_S nr h g rr) (fun (r_ : Option Value) (M' : ab_Me) => r_ = some (.int (ab_bz (sp_lj T c m i))) ∧ M' = (ab_S nr h g rr)) := by
  intro n
  induction n with
  | zero => intro k h1 h2; omega
  | succ n ih =>
    intro k hk3 hkn hf
    refine ab_iload de_B_letsJump_20 6 rfl ?_
    refine ab_iconst (v := 3) de_B_letsJump_22 rfl ?_
    refine ab_icmp_ge (tgt := 101) de_B_letsJump_23 rfl (fun c_23_1 => ?_) (fun c_23_1 => ?_)
    · have hk := ab_le_of (n := 3) (by decide) (by omega) rfl c_23_1
      refine ab_iconst (v := 0) de_B_letsJump_101 rfl ?_
      exact ab_ret (v := some (.int (0 : Int32))) de_B_letsJump_102 ⟨_, rfl, rfl⟩ ⟨congrArg (fun z => some (Value.int z)) (by rw [show sp_lj T c m i = false from (sp_any_no _ _).mpr (fun j hj => hf j (by omega))]; rfl), rfl⟩
    · have hk := ab_nle_of (n := 3) (by decide) (by omega) rfl c_23_1
      refine ab_iconst (v := 0) de_B_letsJump_26 rfl ?_
      refine ab_istore (L' := [(7, .int (0 : Int32)), (0, .ref 16), (1, .int (nI (sp_en m i t))), (2, .int (nI c)), (3, .int (nI m)), (4, .int (nI i)), (5, .int (nI (ab_no (m ||| i)))), (6, .int (nI k))]) de_B_letsJump_27 (by decide) rfl ?_
      refine ab_sub (L' := [(0, .ref 16), (1, .int (nI (sp_en m i t))), (2, .int (nI c)), (3, .int (nI m)), (4, .int (nI i)), (5, .int (nI (ab_no (m ||| i)))), (6, .int (nI k)), (7, .int (0 : Int32))]) [1, 2, 3, 4, 5, 6, 7, 0] rfl ?_
      refine lp_B_letsJump_q l d nr h g rr hT hO hm hi ht hc hk (fun hx => ?_) (fun hx => ?_) 13 0 (by omega) (by omega) (fun j hj => absurd hj (Nat.not_lt_zero j))
      · refine ab_iinc (v := nI (k + 1)) (L' := [(6, .int (nI (k + 1))), (0, .ref 16), (1, .int (nI (sp_en m i t))), (2, .int (nI c)), (3, .int (nI m)), (4, .int (nI i)), (5, .int (nI (ab_no (m ||| i))))]) de_B_letsJump_95 6 rfl (by rw [show Int32.ofInt 1 = nI 1 from rfl, ab_add]) (by decide) rfl ?_
        refine ab_goto (tgt := 20) de_B_letsJump_98 rfl ?_
        refine ab_sub (L' := [(0, .ref 16), (1, .int (nI (sp_en m i t))), (2, .int (nI c)), (3, .int (nI m)), (4, .int (nI i)), (5, .int (nI (ab_no (m ||| i)))), (6, .int (nI (k + 1)))]) [1, 2, 3, 4, 5, 6, 0] rfl ?_
        exact ih (k + 1) (by omega) (by omega) (fun j hj => by
          by_cases e : j = k
          · subst e; exact (sp_any_no _ _).mpr hx
          · exact hf j (by omega))
      · obtain ⟨q, hq, hx⟩ := hx
        refine ⟨congrArg (fun z => some (Value.int z)) ?_, rfl⟩
        have : sp_lj T c m i = true := (sp_any_iff _ _).mpr ⟨k, hk, (sp_any_iff _ _).mpr ⟨q, hq, hx⟩⟩
        rw [this]
        rfl
set_option maxHeartbeats 1000000 in
set_option maxRecDepth 10000 in
theorem ct_B_letsJump (l : Launch) (d : Nat) (nr : Nat) (h : Nat → Nat → Int32) (g : Nat → Nat → Int64) (rr : Nat → Option Nat) {T : Nat → Nat → Nat} (hT : bo_T T h 17) (hO : sp_ok T) {m i t c : Nat} (hm : m < 4096) (hi : i < 4096) (ht : t < 2) (hc : c < 4096) : ab_C l am_B_letsJump (d + 2) 0 0 [.ref 16, .int (nI (sp_en m i t)), .int (nI c)] (ab_S nr h g rr) (fun (r_ : Option Value) (M' : ab_Me) => r_ = some (.int (ab_bz (sp_lj T c m i))) ∧ M' = (ab_S nr h g rr)) := by
  refine ab_C_of (by decide +kernel) rfl (Nat.le_of_ble_eq_true rfl) ?_
  refine ab_iload_n de_B_letsJump_0 1 rfl ?_
  refine ab_cS (as := [.int (nI (sp_en m i t))]) (st := []) (ct_B_own l _ (ab_S nr h g rr) hm hi ht) mo_B_own ms_B_own ml_B_36 rfl rfl (Nat.le_of_ble_eq_true rfl) de_B_letsJump_1 (fun v_ M_ hK_ hl_ hv_ => ?_)
  obtain ⟨rfl, hm_⟩ := hK_
  have hm_ := hm_.symm
  subst hm_
  change ab_G _ _ _ _ _ _ _ [(0, .ref 16), (1, .int (nI (sp_en m i t))), (2, .int (nI c))] [.int (nI m)] (ab_S nr h g rr) _
  refine ab_istore_n (L' := [(3, .int (nI m)), (0, .ref 16), (1, .int (nI (sp_en m i t))), (2, .int (nI c))]) de_B_letsJump_4 (by decide) rfl ?_
  refine ab_iload_n de_B_letsJump_5 2 rfl ?_
  refine ab_cS (as := [.int (nI (sp_en m i t))]) (st := []) (ct_B_foes l _ (ab_S nr h g rr) hm hi ht) mo_B_foes ms_B_foes ml_B_39 rfl rfl (Nat.le_of_ble_eq_true rfl) de_B_letsJump_6 (fun v_ M_ hK_ hl_ hv_ => ?_)
  obtain ⟨rfl, hm_⟩ := hK_
  have hm_ := hm_.symm
  subst hm_
  change ab_G _ _ _ _ _ _ _ [(3, .int (nI m)), (0, .ref 16), (1, .int (nI (sp_en m i t))), (2, .int (nI c))] [.int (nI i)] (ab_S nr h g rr) _
  refine ab_istore (L' := [(4, .int (nI i)), (3, .int (nI m)), (0, .ref 16), (1, .int (nI (sp_en m i t))), (2, .int (nI c))]) de_B_letsJump_9 (by decide) rfl ?_
  refine ab_iload_n de_B_letsJump_11 3 rfl ?_
  refine ab_cS (as := [.int (nI (sp_en m i t))]) (st := []) (ct_B_empty l _ (ab_S nr h g rr) hm hi ht) mo_B_empty ms_B_empty ml_B_22 rfl rfl (Nat.le_of_ble_eq_true rfl) de_B_letsJump_12 (fun v_ M_ hK_ hl_ hv_ => ?_)
  obtain ⟨rfl, hm_⟩ := hK_
  have hm_ := hm_.symm
  subst hm_
  change ab_G _ _ _ _ _ _ _ [(4, .int (nI i)), (3, .int (nI m)), (0, .ref 16), (1, .int (nI (sp_en m i t))), (2, .int (nI c))] [.int (nI (ab_no (m ||| i)))] (ab_S nr h g rr) _
  refine ab_istore (L' := [(5, .int (nI (ab_no (m ||| i)))), (4, .int (nI i)), (3, .int (nI m)), (0, .ref 16), (1, .int (nI (sp_en m i t))), (2, .int (nI c))]) de_B_letsJump_15 (by decide) rfl ?_
  refine ab_iconst (v := 0) de_B_letsJump_17 rfl ?_
  refine ab_istore (L' := [(6, .int (0 : Int32)), (5, .int (nI (ab_no (m ||| i)))), (4, .int (nI i)), (3, .int (nI m)), (0, .ref 16), (1, .int (nI (sp_en m i t))), (2, .int (nI c))]) de_B_letsJump_18 (by decide) rfl ?_
  refine ab_sub (L' := [(0, .ref 16), (1, .int (nI (sp_en m i t))), (2, .int (nI c)), (3, .int (nI m)), (4, .int (nI i)), (5, .int (nI (ab_no (m ||| i)))), (6, .int (0 : Int32))]) [4, 5, 6, 3, 2, 1, 0] rfl ?_
  exact lp_B_letsJump_k l d nr h g rr hT hO hm hi ht hc 4 0 (by omega) (by omega) (fun j hj => absurd hj (Nat.not_lt_zero j))
