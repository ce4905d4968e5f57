theorem ab_lt_of {n q : Nat} (hn : n < 2 ^ 31) (hq : q < 2 ^ 31) {c : Int32} (hc : nI n = c) (h : c < nI q) : n < q := by subst hc; exact (ab_lt hn hq).mp h
theorem ab_nlt_of {n q : Nat} (hn : n < 2 ^ 31) (hq : q < 2 ^ 31) {c : Int32} (hc : nI n = c) (h : ¬ c < nI q) : q ≤ n := by subst hc; exact Nat.le_of_not_lt (fun z => h ((ab_lt hn hq).mpr z))
theorem sp_or_no {f : Nat → Nat} {q : Nat} (h : f q = 0) : sp_or f (q + 1) = sp_or f q := by rw [sp_or, h, Nat.or_zero]
theorem sp_or_0 {f : Nat → Nat} (h : ∀ j, f j = 0) : ∀ n, sp_or f n = 0
  | 0 => rfl
  | n + 1 => by rw [sp_or_no (h n), sp_or_0 h n]
theorem sp_ls_lt {T : Nat → Nat → Nat} (hO : sp_ok T) (v : Nat) {p : Nat} (hp : p < 12) : sp_st T v p < 4096 := sp_or_lt (w := 12) (fun k hk => by
  split
  · exact hO.lt hk hp
  · decide)
theorem sp_bh_lt {T : Nat → Nat → Nat} (hO : sp_ok T) {k : Nat} (hk : k < 3) (o : Nat) : sp_bh T k o < 4096 := sp_or_lt (w := 12) (fun q hq => by
  split
  · exact hO.lt hk hq
  · decide)
theorem sp_jm_lt {T : Nat → Nat → Nat} (hO : sp_ok T) (v i p : Nat) : sp_jm T v i p < 4096 := sp_or_lt (w := 12) (fun k hk => by
  split
  · exact sp_bh_lt hO hk _
  · decide)
theorem sp_tg_lt {T : Nat → Nat → Nat} (hO : sp_ok T) (v m i p : Nat) : sp_tg T v m i p < 4096 := by
  unfold sp_tg
  split
  · split
    · exact ab_no_lt _
    · decide
  · split
    · exact Nat.and_lt_two_pow (n := 12) _ (ab_no_lt _)
    · decide
set_option maxHeartbeats 1000000 in
set_option maxRecDepth 10000 in
theorem lp_B_letsStep_p (l : Launch) (d : Nat) (nr : Nat) (h : Nat → Nat → Int32) (g : Nat → Nat → Int64) (rr : Nat → Option Nat) {T : Nat → Nat → Nat} (hT : bo_T T h 17) (hO : sp_ok T) {m i t c : Nat} (hm : m < 4096) (hi : i < 4096) (ht : t < 2) (hc : c < 4096) {k : Nat} (hk : k < 3) (kx : (∀ p, p < 12 → sp_sa T c m i k p = false) → ab_G l none am_B_letsStep (d + 2) 0 0 75 [(0, .ref 16), (1, .int (nI (sp_en m i t))), (2, .int (nI c)), (3, .int (nI m)), (4, .int (nI (ab_no (m ||| i)))), (5, .int (nI k))] [] (ab_S nr h g rr) (fun (r_ : Option Value) (M' : ab_Me) => r_ = some (.int (ab_bz (sp_ls T c m i))) ∧ M' = (ab_S nr h g rr))) (ky : (∃ p, p < 12 ∧ sp_sa T c m i k p = true) → (fun (r_ : Option Value) (M' : ab_Me) => r_ = some (.int (ab_bz (sp_ls T c m i))) ∧ M' = (ab_S nr h g rr)) (some (.int 1)) (ab_S nr h g rr)) : ∀ (fu_ p : Nat), p ≤ 12 → 12 < p + fu_ → (∀ j, j < p → sp_sa T c m i k j = false) → ab_G l none am_B_letsStep (d + 2) 0 0 23 [(0, .ref 16), (1, .int (nI (sp_en m i t))), (2, .int (nI c)), (3, .int (nI m)), (4, .int (nI (ab_no (m ||| i)))), (5, .int (nI k)), (6, .int (nI p))] [] (ab_S nr h g rr) (fun (r_ : Option Value) (M' : ab_Me) => r_ = some (.int (ab_bz (sp_ls T c m i))) ∧ M' = (ab_S nr h g rr)) := by
  intro fu_
  induction fu_ with
  | zero => intro p  h1 h2; omega
  | succ fu_ ih =>
    intro p  hN_ hn_ hf0
    refine ab_iload de_B_letsStep_23 6 rfl ?_
    refine ab_bipush (v := 12) de_B_letsStep_25 rfl ?_
    refine ab_icmp_ge (tgt := 75) de_B_letsStep_27 rfl (fun c_27_1 => ?_) (fun c_27_1 => ?_)
    · have hp := ab_le_of (n := 12) (by decide) (by omega) rfl c_27_1
      refine ab_sub (L' := [(0, .ref 16), (1, .int (nI (sp_en m i t))), (2, .int (nI c)), (3, .int (nI m)), (4, .int (nI (ab_no (m ||| i)))), (5, .int (nI k))]) [0, 1, 2, 3, 4, 5] rfl ?_
      exact kx (fun j hj => hf0 j (by omega))
    · have hp := ab_nle_of (n := 12) (by decide) (by omega) rfl c_27_1
      refine ab_iload_n de_B_letsStep_30 2 rfl ?_
      refine ab_iload de_B_letsStep_31 5 rfl ?_
      refine ab_ishr de_B_letsStep_33 ?_
      refine ab_iconst (v := 1) de_B_letsStep_34 rfl ?_
      refine ab_iand de_B_letsStep_35 ?_
      refine ab_top (v' := nI (c.testBit k).toNat) (sp_bitne c k (by omega) (by omega)) ?_
      refine ab_if_eq (tgt := 75) de_B_letsStep_36 rfl (fun c_36_2 => ?_) (fun c_36_2 => ?_)
      · refine ab_sub (L' := [(0, .ref 16), (1, .int (nI (sp_en m i t))), (2, .int (nI c)), (3, .int (nI m)), (4, .int (nI (ab_no (m ||| i)))), (5, .int (nI k))]) [0, 1, 2, 3, 4, 5] rfl ?_
        exact kx (fun j _ => by simp [sp_sa, (sp_b0 _).mp c_36_2])
      · refine ab_iload_n de_B_letsStep_39 3 rfl ?_
        refine ab_iload de_B_letsStep_40 6 rfl ?_
        refine ab_ishr de_B_letsStep_42 ?_
        refine ab_iconst (v := 1) de_B_letsStep_43 rfl ?_
        refine ab_iand de_B_letsStep_44 ?_
        refine ab_top (v' := nI (m.testBit p).toNat) (sp_bitne m p (by omega) (by omega)) ?_
        refine ab_if_eq (tgt := 69) de_B_letsStep_45 rfl (fun c_45_3 => ?_) (fun c_45_3 => ?_)
        · refine ab_iinc (v := nI (p + 1)) (L' := [(6, .int (nI (p + 1))), (0, .ref 16), (1, .int (nI (sp_en m i t))), (2, .int (nI c)), (3, .int (nI m)), (4, .int (nI (ab_no (m ||| i)))), (5, .int (nI k))]) de_B_letsStep_69 6 rfl (by rw [show Int32.ofInt 1 = nI 1 from rfl, ab_add]) (by decide) rfl ?_
          refine ab_goto (tgt := 23) de_B_letsStep_72 rfl ?_
          refine ab_sub (L' := [(0, .ref 16), (1, .int (nI (sp_en m i t))), (2, .int (nI c)), (3, .int (nI m)), (4, .int (nI (ab_no (m ||| i)))), (5, .int (nI k)), (6, .int (nI (p + 1)))]) [1, 2, 3, 4, 5, 6, 0] rfl ?_
          exact ih (p + 1)  (by omega) (by omega) (fun j hj => by
            by_cases e : j = p
            · subst e; simp [sp_sa, (sp_b0 _).mp c_45_3]
            · exact hf0 j (by omega))
        · refine ab_aload_n de_B_letsStep_48 0 rfl ?_
          refine ab_get (v := .ref 17) fl_B_9 rfl rfl de_B_letsStep_49 ?_
          refine ab_iload de_B_letsStep_52 5 rfl ?_
          refine ab_bipush (v := 12) de_B_letsStep_54 rfl ?_
          refine ab_imul de_B_letsStep_56 ?_
          refine ab_iload de_B_letsStep_57 6 rfl ?_
          refine ab_iadd de_B_letsStep_59 ?_
          refine ab_top (v' := nI (12 * k + p)) (by rw [show (12 : Int32) = nI 12 from rfl, ab_mul, ab_add, Nat.mul_comm]) ?_
          refine ab_iald (v := h 17 (12 * k + p)) rfl (ab_in (by omega) (by decide)) (ab_hv (ab_tn (by omega))) de_B_letsStep_60 ?_
          refine ab_top (v' := nI (T k p)) (hT k p hk hp) ?_
          refine ab_iload de_B_letsStep_61 4 rfl ?_
          refine ab_iand de_B_letsStep_63 ?_
          refine ab_top (v' := nI (T k p &&& ab_no (m ||| i))) (ab_and _ _) ?_
          refine ab_if_eq (tgt := 69) de_B_letsStep_64 rfl (fun c_64_4 => ?_) (fun c_64_4 => ?_)
          · refine ab_iinc (v := nI (p + 1)) (L' := [(6, .int (nI (p + 1))), (0, .ref 16), (1, .int (nI (sp_en m i t))), (2, .int (nI c)), (3, .int (nI m)), (4, .int (nI (ab_no (m ||| i)))), (5, .int (nI k))]) de_B_letsStep_69 6 rfl (by rw [show Int32.ofInt 1 = nI 1 from rfl, ab_add]) (by decide) rfl ?_
            refine ab_goto (tgt := 23) de_B_letsStep_72 rfl ?_
            refine ab_sub (L' := [(0, .ref 16), (1, .int (nI (sp_en m i t))), (2, .int (nI c)), (3, .int (nI m)), (4, .int (nI (ab_no (m ||| i)))), (5, .int (nI k)), (6, .int (nI (p + 1)))]) [1, 2, 3, 4, 5, 6, 0] rfl ?_
            exact ih (p + 1)  (by omega) (by omega) (fun j hj => by
              by_cases e : j = p
              · subst e; simp [sp_sa, (sp_z (sp_andlt (hO.lt hk hp))).mp c_64_4]
              · exact hf0 j (by omega))
          · refine ab_iconst (v := 1) de_B_letsStep_67 rfl ?_
            exact ab_ret (v := some (.int (1 : Int32))) de_B_letsStep_68 ⟨_, rfl, rfl⟩ (ky ⟨p, hp, by simp [sp_sa, ts_f c_36_2, ts_f c_45_3, ts_z (sp_andlt (hO.lt hk hp)) c_64_4]⟩)
set_option maxHeartbeats 1000000 in
set_option maxRecDepth 10000 in
theorem lp_B_letsStep_k (l : Launch) (d : Nat) (nr : Nat) (h : Nat → Nat → Int32) (g : Nat → Nat → Int64) (rr : Nat → Option Nat) {T : Nat → Nat → Nat} (hT : bo_T T h 17) (hO : sp_ok T) {m i t c : Nat} (hm : m < 4096) (hi : i < 4096) (ht : t < 2) (hc : c < 4096) : ∀ (fu_ k : Nat), k ≤ 3 → 3 < k + fu_ → (∀ j, j < k → sp_any (fun q => sp_sa T c m i j q) 12 = false) → ab_G l none am_B_letsStep (d + 2) 0 0 14 [(0, .ref 16), (1, .int (nI (sp_en m i t))), (2, .int (nI c)), (3, .int (nI m)), (4, .int (nI (ab_no (m ||| i)))), (5, .int (nI k))] [] (ab_S nr h g rr) (fun (r_ : Option Value) (M' : ab_Me) => r_ = some (.int (ab_bz (sp_ls T c m i))) ∧ M' = (ab_S nr h g rr)) := by
  intro fu_
  induction fu_ with
  | zero => intro k  h1 h2; omega
  | succ fu_ ih =>
    intro k  hN_ hn_ hf0
    refine ab_iload de_B_letsStep_14 5 rfl ?_
    refine ab_iconst (v := 3) de_B_letsStep_16 rfl ?_
    refine ab_icmp_ge (tgt := 81) de_B_letsStep_17 rfl (fun c_17_1 => ?_) (fun c_17_1 => ?_)
    · have hk := ab_le_of (n := 3) (by decide) (by omega) rfl c_17_1
      refine ab_iconst (v := 0) de_B_letsStep_81 rfl ?_
      exact ab_ret (v := some (.int (0 : Int32))) de_B_letsStep_82 ⟨_, rfl, rfl⟩ ⟨congrArg (fun z => some (Value.int z)) (by rw [show sp_ls T c m i = false from (sp_any_no _ _).mpr (fun j hj => hf0 j (by omega))]; rfl), rfl⟩
    · have hk := ab_nle_of (n := 3) (by decide) (by omega) rfl c_17_1
      refine ab_iconst (v := 0) de_B_letsStep_20 rfl ?_
      refine ab_istore (L' := [(6, .int (0 : Int32)), (0, .ref 16), (1, .int (nI (sp_en m i t))), (2, .int (nI c)), (3, .int (nI m)), (4, .int (nI (ab_no (m ||| i)))), (5, .int (nI k))]) de_B_letsStep_21 (by decide) rfl ?_
      refine ab_sub (L' := [(0, .ref 16), (1, .int (nI (sp_en m i t))), (2, .int (nI c)), (3, .int (nI m)), (4, .int (nI (ab_no (m ||| i)))), (5, .int (nI k)), (6, .int (0 : Int32))]) [1, 2, 3, 4, 5, 6, 0] rfl ?_
      refine lp_B_letsStep_p l d nr h g rr hT hO hm hi ht hc hk (fun hx => ?_) (fun hx => ?_) 13 0 (by omega) (by omega) (fun j hj => absurd hj (Nat.not_lt_zero j))
      · refine ab_iinc (v := nI (k + 1)) (L' := [(5, .int (nI (k + 1))), (0, .ref 16), (1, .int (nI (sp_en m i t))), (2, .int (nI c)), (3, .int (nI m)), (4, .int (nI (ab_no (m ||| i))))]) de_B_letsStep_75 5 rfl (by rw [show Int32.ofInt 1 = nI 1 from rfl, ab_add]) (by decide) rfl ?_
        refine ab_goto (tgt := 14) de_B_letsStep_78 rfl ?_
        refine ab_sub (L' := [(0, .ref 16), (1, .int (nI (sp_en m i t))), (2, .int (nI c)), (3, .int (nI m)), (4, .int (nI (ab_no (m ||| i)))), (5, .int (nI (k + 1)))]) [1, 2, 3, 4, 5, 0] rfl ?_
        exact ih (k + 1)  (by omega) (by omega) (fun j hj => by
          by_cases e : j = k
          · subst e; exact (sp_any_no _ _).mpr hx
          · exact hf0 j (by omega))
      · obtain ⟨q, hq, hx⟩ := hx
        refine ⟨congrArg (fun z => some (Value.int z)) ?_, rfl⟩
        have : sp_ls T c m i = true := (sp_any_iff _ _).mpr ⟨k, hk, (sp_any_iff _ _).mpr ⟨q, hq, hx⟩⟩
        rw [this]
        rfl
set_option maxHeartbeats 1000000 in
set_option maxRecDepth 10000 in
theorem ct_B_letsStep (l : Launch) (d : Nat) (nr : Nat) (h : Nat → Nat → Int32) (g : Nat → Nat → Int64) (rr : Nat → Option Nat) {T : Nat → Nat → Nat} (hT : bo_T T h 17) (hO : sp_ok T) {m i t c : Nat} (hm : m < 4096) (hi : i < 4096) (ht : t < 2) (hc : c < 4096) : ab_C l am_B_letsStep (d + 2) 0 0 [.ref 16, .int (nI (sp_en m i t)), .int (nI c)] (ab_S nr h g rr) (fun (r_ : Option Value) (M' : ab_Me) => r_ = some (.int (ab_bz (sp_ls T c m i))) ∧ M' = (ab_S nr h g rr)) := by
  refine ab_C_of (by decide +kernel) rfl (Nat.le_of_ble_eq_true rfl) ?_
  refine ab_iload_n de_B_letsStep_0 1 rfl ?_
  refine ab_cS (as := [.int (nI (sp_en m i t))]) (st := []) (ct_B_own l _ (ab_S nr h g rr) hm hi ht) mo_B_own ms_B_own ml_B_36 rfl rfl (Nat.le_of_ble_eq_true rfl) de_B_letsStep_1 (fun v_ M_ hK_ hl_ hv_ => ?_)
  obtain ⟨rfl, hm_⟩ := hK_
  have hm_ := hm_.symm
  subst hm_
  change ab_G _ _ _ _ _ _ _ [(0, .ref 16), (1, .int (nI (sp_en m i t))), (2, .int (nI c))] [.int (nI m)] (ab_S nr h g rr) _
  refine ab_istore_n (L' := [(3, .int (nI m)), (0, .ref 16), (1, .int (nI (sp_en m i t))), (2, .int (nI c))]) de_B_letsStep_4 (by decide) rfl ?_
  refine ab_iload_n de_B_letsStep_5 2 rfl ?_
  refine ab_cS (as := [.int (nI (sp_en m i t))]) (st := []) (ct_B_empty l _ (ab_S nr h g rr) hm hi ht) mo_B_empty ms_B_empty ml_B_22 rfl rfl (Nat.le_of_ble_eq_true rfl) de_B_letsStep_6 (fun v_ M_ hK_ hl_ hv_ => ?_)
  obtain ⟨rfl, hm_⟩ := hK_
  have hm_ := hm_.symm
  subst hm_
  change ab_G _ _ _ _ _ _ _ [(3, .int (nI m)), (0, .ref 16), (1, .int (nI (sp_en m i t))), (2, .int (nI c))] [.int (nI (ab_no (m ||| i)))] (ab_S nr h g rr) _
  refine ab_istore (L' := [(4, .int (nI (ab_no (m ||| i)))), (3, .int (nI m)), (0, .ref 16), (1, .int (nI (sp_en m i t))), (2, .int (nI c))]) de_B_letsStep_9 (by decide) rfl ?_
  refine ab_iconst (v := 0) de_B_letsStep_11 rfl ?_
  refine ab_istore (L' := [(5, .int (0 : Int32)), (4, .int (nI (ab_no (m ||| i)))), (3, .int (nI m)), (0, .ref 16), (1, .int (nI (sp_en m i t))), (2, .int (nI c))]) de_B_letsStep_12 (by decide) rfl ?_
  refine ab_sub (L' := [(0, .ref 16), (1, .int (nI (sp_en m i t))), (2, .int (nI c)), (3, .int (nI m)), (4, .int (nI (ab_no (m ||| i)))), (5, .int (0 : Int32))]) [3, 4, 5, 2, 1, 0] rfl ?_
  exact lp_B_letsStep_k l d nr h g rr hT hO hm hi ht hc 4 0 (by omega) (by omega) (fun j hj => absurd hj (Nat.not_lt_zero j))
set_option maxHeartbeats 1000000 in
set_option maxRecDepth 10000 in
theorem lp_B_behind (l : Launch) (d : Nat) (nr : Nat) (h : Nat → Nat → Int32) (g : Nat → Nat → Int64) (rr : Nat → Option Nat) {T : Nat → Nat → Nat} (hT : bo_T T h 17) (hO : sp_ok T) {k o : Nat} (hk : k < 3) (ho : o < 4096) : ∀ (fu_ q : Nat), q ≤ 12 → 12 < q + fu_ → ab_G l none am_B_behind (d) 0 0 5 [(0, .ref 16), (1, .int (nI k)), (2, .int (nI o)), (3, .int (nI (sp_or (fun q => if o.testBit q then T k q else 0) q))), (4, .int (nI q))] [] (ab_S nr h g rr) (fun (r_ : Option Value) (M' : ab_Me) => r_ = some (.int (nI (sp_bh T k o))) ∧ M' = (ab_S nr h g rr)) := by
  intro fu_
  induction fu_ with
  | zero => intro q  h1 h2; omega
  | succ fu_ ih =>
    intro q  hN_ hn_ 
    refine ab_iload de_B_behind_5 4 rfl ?_
    refine ab_bipush (v := 12) de_B_behind_7 rfl ?_
    refine ab_icmp_ge (tgt := 46) de_B_behind_9 rfl (fun c_9_1 => ?_) (fun c_9_1 => ?_)
    · have hq := ab_le_of (n := 12) (by decide) (by omega) rfl c_9_1
      refine ab_iload_n de_B_behind_46 3 rfl ?_
      exact ab_ret (v := some (.int (nI (sp_or (fun q => if o.testBit q then T k q else 0) q)))) de_B_behind_47 ⟨_, rfl⟩ ⟨congrArg (fun z => some (Value.int z)) (congrArg nI (by rw [show q = 12 by omega]; rfl)), rfl⟩
    · have hq := ab_nle_of (n := 12) (by decide) (by omega) rfl c_9_1
      refine ab_iload_n de_B_behind_12 2 rfl ?_
      refine ab_if_eq (tgt := 46) de_B_behind_13 rfl (fun c_13_2 => ?_) (fun c_13_2 => ?_)
      · refine ab_iload_n de_B_behind_46 3 rfl ?_
        exact ab_ret (v := some (.int (nI (sp_or (fun q => if o.testBit q then T k q else 0) q)))) de_B_behind_47 ⟨_, rfl⟩ ⟨congrArg (fun z => some (Value.int z)) (congrArg nI (by rw [(sp_z ho).mp c_13_2, sp_bh, sp_or_0 (fun j => by simp) q, sp_or_0 (fun j => by simp) 12])), rfl⟩
      · refine ab_iload_n de_B_behind_16 2 rfl ?_
        refine ab_iload de_B_behind_17 4 rfl ?_
        refine ab_ishr de_B_behind_19 ?_
        refine ab_iconst (v := 1) de_B_behind_20 rfl ?_
        refine ab_iand de_B_behind_21 ?_
        refine ab_top (v' := nI (o.testBit q).toNat) (sp_bitne o q (by omega) (by omega)) ?_
        refine ab_if_eq (tgt := 40) de_B_behind_22 rfl (fun c_22_3 => ?_) (fun c_22_3 => ?_)
        · refine ab_iinc (v := nI (q + 1)) (L' := [(4, .int (nI (q + 1))), (0, .ref 16), (1, .int (nI k)), (2, .int (nI o)), (3, .int (nI (sp_or (fun q => if o.testBit q then T k q else 0) q)))]) de_B_behind_40 4 rfl (by rw [show Int32.ofInt 1 = nI 1 from rfl, ab_add]) (by decide) rfl ?_
          refine ab_goto (tgt := 5) de_B_behind_43 rfl ?_
          refine ab_sub (L' := [(0, .ref 16), (1, .int (nI k)), (2, .int (nI o)), (3, .int (nI (sp_or (fun q => if o.testBit q then T k q else 0) q))), (4, .int (nI (q + 1)))]) [1, 2, 3, 4, 0] rfl ?_
          have e_ : sp_or (fun q => if o.testBit q then T k q else 0) (q + 1) = sp_or (fun q => if o.testBit q then T k q else 0) q := sp_or_no (if_neg (by rw [(sp_b0 _).mp c_22_3]; decide))
          have w_ := ih (q + 1) (by omega) (by omega)
          rw [e_] at w_
          exact w_
        · refine ab_iload_n de_B_behind_25 3 rfl ?_
          refine ab_aload_n de_B_behind_26 0 rfl ?_
          refine ab_get (v := .ref 17) fl_B_9 rfl rfl de_B_behind_27 ?_
          refine ab_iload_n de_B_behind_30 1 rfl ?_
          refine ab_bipush (v := 12) de_B_behind_31 rfl ?_
          refine ab_imul de_B_behind_33 ?_
          refine ab_iload de_B_behind_34 4 rfl ?_
          refine ab_iadd de_B_behind_36 ?_
          refine ab_top (v' := nI (12 * k + q)) (by rw [show (12 : Int32) = nI 12 from rfl, ab_mul, ab_add, Nat.mul_comm]) ?_
          refine ab_iald (v := h 17 (12 * k + q)) rfl (ab_in (by omega) (by decide)) (ab_hv (ab_tn (by omega))) de_B_behind_37 ?_
          refine ab_top (v' := nI (T k q)) (hT k q hk hq) ?_
          refine ab_ior de_B_behind_38 ?_
          refine ab_top (v' := nI (sp_or (fun q => if o.testBit q then T k q else 0) (q + 1))) (by rw [ab_or, sp_or, if_pos (ts_f c_22_3)]) ?_
          refine ab_istore_n (L' := [(3, .int (nI (sp_or (fun q => if o.testBit q then T k q else 0) (q + 1)))), (0, .ref 16), (1, .int (nI k)), (2, .int (nI o)), (4, .int (nI q))]) de_B_behind_39 (by decide) rfl ?_
          refine ab_iinc (v := nI (q + 1)) (L' := [(4, .int (nI (q + 1))), (3, .int (nI (sp_or (fun q => if o.testBit q then T k q else 0) (q + 1)))), (0, .ref 16), (1, .int (nI k)), (2, .int (nI o))]) de_B_behind_40 4 rfl (by rw [show Int32.ofInt 1 = nI 1 from rfl, ab_add]) (by decide) rfl ?_
          refine ab_goto (tgt := 5) de_B_behind_43 rfl ?_
          refine ab_sub (L' := [(0, .ref 16), (1, .int (nI k)), (2, .int (nI o)), (3, .int (nI (sp_or (fun q => if o.testBit q then T k q else 0) (q + 1)))), (4, .int (nI (q + 1)))]) [2, 3, 4, 1, 0] rfl ?_
          exact ih (q + 1)  (by omega) (by omega) 
set_option maxHeartbeats 1000000 in
set_option maxRecDepth 10000 in
theorem ct_B_behind (l : Launch) (d : Nat) (nr : Nat) (h : Nat → Nat → Int32) (g : Nat → Nat → Int64) (rr : Nat → Option Nat) {T : Nat → Nat → Nat} (hT : bo_T T h 17) (hO : sp_ok T) {k o : Nat} (hk : k < 3) (ho : o < 4096) : ab_C l am_B_behind (d) 0 0 [.ref 16, .int (nI k), .int (nI o)] (ab_S nr h g rr) (fun (r_ : Option Value) (M' : ab_Me) => r_ = some (.int (nI (sp_bh T k o))) ∧ M' = (ab_S nr h g rr)) := by
  refine ab_C_of (by decide +kernel) rfl (Nat.le_of_ble_eq_true rfl) ?_
  refine ab_iconst (v := 0) de_B_behind_0 rfl ?_
  refine ab_istore_n (L' := [(3, .int (0 : Int32)), (0, .ref 16), (1, .int (nI k)), (2, .int (nI o))]) de_B_behind_1 (by decide) rfl ?_
  refine ab_iconst (v := 0) de_B_behind_2 rfl ?_
  refine ab_istore (L' := [(4, .int (0 : Int32)), (3, .int (0 : Int32)), (0, .ref 16), (1, .int (nI k)), (2, .int (nI o))]) de_B_behind_3 (by decide) rfl ?_
  refine ab_sub (L' := [(0, .ref 16), (1, .int (nI k)), (2, .int (nI o)), (3, .int (0 : Int32)), (4, .int (0 : Int32))]) [2, 3, 4, 1, 0] rfl ?_
  exact lp_B_behind l d nr h g rr hT hO hk ho 13 0 (by omega) (by omega)
theorem ab_bz_t {b : Bool} (h : b = true) : (1 : Int32) = ab_bz b := by rw [h]; rfl
theorem ab_bz_f {b : Bool} (h : b = false) : (0 : Int32) = ab_bz b := by rw [h]; rfl
set_option maxHeartbeats 1000000 in
set_option maxRecDepth 10000 in
theorem ct_B_areTied (l : Launch) (d : Nat) (nr : Nat) (h : Nat → Nat → Int32) (g : Nat → Nat → Int64) (rr : Nat → Option Nat) {T : Nat → Nat → Nat} (hT : bo_T T h 17) (hO : sp_ok T) {p q k : Nat} (hp : p < 12) (hq : q < 12) (hk : k < 3) : ab_C l am_B_areTied (d) 0 0 [.ref 16, .int (nI p), .int (nI q), .int (nI k)] (ab_S nr h g rr) (fun (r_ : Option Value) (M' : ab_Me) => r_ = some (.int (ab_bz ((T k p).testBit q))) ∧ M' = (ab_S nr h g rr)) := by
  refine ab_C_of (by decide +kernel) rfl (Nat.le_of_ble_eq_true rfl) ?_
  refine ab_aload_n de_B_areTied_0 0 rfl ?_
  refine ab_get (v := .ref 17) fl_B_9 rfl rfl de_B_areTied_1 ?_
  refine ab_iload_n de_B_areTied_4 3 rfl ?_
  refine ab_bipush (v := 12) de_B_areTied_5 rfl ?_
  refine ab_imul de_B_areTied_7 ?_
  refine ab_iload_n de_B_areTied_8 1 rfl ?_
  refine ab_iadd de_B_areTied_9 ?_
  refine ab_top (v' := nI (12 * k + p)) (by rw [show (12 : Int32) = nI 12 from rfl, ab_mul, ab_add, Nat.mul_comm]) ?_
  refine ab_iald (v := h 17 (12 * k + p)) rfl (ab_in (by omega) (by decide)) (ab_hv (ab_tn (by omega))) de_B_areTied_10 ?_
  refine ab_top (v' := nI (T k p)) (hT k p hk hp) ?_
  refine ab_iload_n de_B_areTied_11 2 rfl ?_
  refine ab_ishr de_B_areTied_12 ?_
  refine ab_iconst (v := 1) de_B_areTied_13 rfl ?_
  refine ab_iand de_B_areTied_14 ?_
  refine ab_top (v' := nI ((T k p).testBit q).toNat) (sp_bitne (T k p) q (by have := hO.lt hk hp; omega) (by omega)) ?_
  refine ab_if_eq (tgt := 22) de_B_areTied_15 rfl (fun c_15_1 => ?_) (fun c_15_1 => ?_)
  · refine ab_iconst (v := 0) de_B_areTied_22 rfl ?_
    exact ab_ret (v := some (.int (0 : Int32))) de_B_areTied_23 ⟨_, rfl, rfl⟩ ⟨congrArg (fun z => some (Value.int z)) (ab_bz_f ((sp_b0 _).mp c_15_1)), rfl⟩
  · refine ab_iconst (v := 1) de_B_areTied_18 rfl ?_
    refine ab_goto (tgt := 23) de_B_areTied_19 rfl ?_
    exact ab_ret (v := some (.int (1 : Int32))) de_B_areTied_23 ⟨_, rfl, rfl⟩ ⟨congrArg (fun z => some (Value.int z)) (ab_bz_t (ts_f c_15_1)), rfl⟩
set_option maxHeartbeats 1000000 in
set_option maxRecDepth 10000 in
theorem ct_B_tiesOf (l : Launch) (d : Nat) (nr : Nat) (h : Nat → Nat → Int32) (g : Nat → Nat → Int64) (rr : Nat → Option Nat) {T : Nat → Nat → Nat} (hT : bo_T T h 17) (hO : sp_ok T) {p k : Nat} (hp : p < 12) (hk : k < 3) : ab_C l am_B_tiesOf (d) 0 0 [.ref 16, .int (nI p), .int (nI k)] (ab_S nr h g rr) (fun (r_ : Option Value) (M' : ab_Me) => r_ = some (.int (nI (T k p))) ∧ M' = (ab_S nr h g rr)) := by
  refine ab_C_of (by decide +kernel) rfl (Nat.le_of_ble_eq_true rfl) ?_
  refine ab_aload_n de_B_tiesOf_0 0 rfl ?_
  refine ab_get (v := .ref 17) fl_B_9 rfl rfl de_B_tiesOf_1 ?_
  refine ab_iload_n de_B_tiesOf_4 2 rfl ?_
  refine ab_bipush (v := 12) de_B_tiesOf_5 rfl ?_
  refine ab_imul de_B_tiesOf_7 ?_
  refine ab_iload_n de_B_tiesOf_8 1 rfl ?_
  refine ab_iadd de_B_tiesOf_9 ?_
  refine ab_top (v' := nI (12 * k + p)) (by rw [show (12 : Int32) = nI 12 from rfl, ab_mul, ab_add, Nat.mul_comm]) ?_
  refine ab_iald (v := h 17 (12 * k + p)) rfl (ab_in (by omega) (by decide)) (ab_hv (ab_tn (by omega))) de_B_tiesOf_10 ?_
  refine ab_top (v' := nI (T k p)) (hT k p hk hp) ?_
  exact ab_ret (v := some (.int (nI (T k p)))) de_B_tiesOf_11 ⟨_, rfl⟩ ⟨congrArg (fun z => some (Value.int z)) (rfl), rfl⟩
theorem sp_st_bit (T : Nat → Nat → Nat) (v p q : Nat) : (sp_st T v p).testBit q = sp_any (fun k => v.testBit k && (T k p).testBit q) 3 := by
  unfold sp_st
  rw [sp_or_bit]
  apply sp_any_cong
  intro k _
  cases v.testBit k <;> simp
set_option maxHeartbeats 1000000 in
set_option maxRecDepth 10000 in
theorem lp_B_isStep (l : Launch) (d : Nat) (nr : Nat) (h : Nat → Nat → Int32) (g : Nat → Nat → Int64) (rr : Nat → Option Nat) {T : Nat → Nat → Nat} (hT : bo_T T h 17) (hO : sp_ok T) {v p q : Nat} (hv : v < 4096) (hp : p < 12) (hq : q < 12) : ∀ (fu_ k : Nat), k ≤ 3 → 3 < k + fu_ → (∀ j, j < k → (v.testBit j && (T j p).testBit q) = false) → ab_G l none am_B_isStep (d + 1) 0 0 3 [(0, .ref 16), (1, .int (nI v)), (2, .int (nI p)), (3, .int (nI q)), (4, .int (nI k))] [] (ab_S nr h g rr) (fun (r_ : Option Value) (M' : ab_Me) => r_ = some (.int (ab_bz ((sp_st T v p).testBit q))) ∧ M' = (ab_S nr h g rr)) := by
  intro fu_
  induction fu_ with
  | zero => intro k  h1 h2; omega
  | succ fu_ ih =>
    intro k  hN_ hn_ hf0
    refine ab_iload de_B_isStep_3 4 rfl ?_
    refine ab_iconst (v := 3) de_B_isStep_5 rfl ?_
    refine ab_icmp_ge (tgt := 37) de_B_isStep_6 rfl (fun c_6_1 => ?_) (fun c_6_1 => ?_)
    · have hk := ab_le_of (n := 3) (by decide) (by omega) rfl c_6_1
      refine ab_iconst (v := 0) de_B_isStep_37 rfl ?_
      exact ab_ret (v := some (.int (0 : Int32))) de_B_isStep_38 ⟨_, rfl, rfl⟩ ⟨congrArg (fun z => some (Value.int z)) (ab_bz_f (by rw [sp_st_bit]; exact (sp_any_no _ _).mpr (fun j hj => hf0 j (by omega)))), rfl⟩
    · have hk := ab_nle_of (n := 3) (by decide) (by omega) rfl c_6_1
      refine ab_iload_n de_B_isStep_9 1 rfl ?_
      refine ab_iload de_B_isStep_10 4 rfl ?_
      refine ab_ishr de_B_isStep_12 ?_
      refine ab_iconst (v := 1) de_B_isStep_13 rfl ?_
      refine ab_iand de_B_isStep_14 ?_
      refine ab_top (v' := nI (v.testBit k).toNat) (sp_bitne v k (by omega) (by omega)) ?_
      refine ab_if_eq (tgt := 31) de_B_isStep_15 rfl (fun c_15_2 => ?_) (fun c_15_2 => ?_)
      · refine ab_iinc (v := nI (k + 1)) (L' := [(4, .int (nI (k + 1))), (0, .ref 16), (1, .int (nI v)), (2, .int (nI p)), (3, .int (nI q))]) de_B_isStep_31 4 rfl (by rw [show Int32.ofInt 1 = nI 1 from rfl, ab_add]) (by decide) rfl ?_
        refine ab_goto (tgt := 3) de_B_isStep_34 rfl ?_
        refine ab_sub (L' := [(0, .ref 16), (1, .int (nI v)), (2, .int (nI p)), (3, .int (nI q)), (4, .int (nI (k + 1)))]) [1, 2, 3, 4, 0] rfl ?_
        exact ih (k + 1)  (by omega) (by omega) (fun j hj => by
          by_cases e : j = k
          · subst e; simp [(sp_b0 _).mp c_15_2]
          · exact hf0 j (by omega))
      · refine ab_aload_n de_B_isStep_18 0 rfl ?_
        refine ab_iload_n de_B_isStep_19 2 rfl ?_
        refine ab_iload_n de_B_isStep_20 3 rfl ?_
        refine ab_iload de_B_isStep_21 4 rfl ?_
        refine ab_cV (as := [.int (nI p), .int (nI q), .int (nI k)]) (st := []) (ct_B_areTied l _ nr h g rr hT hO hp hq hk) mo_B_areTied mi_B_areTied ml_B_70 rfl (by decide) rfl rfl rfl (Nat.le_of_ble_eq_true rfl) de_B_isStep_23 (fun v_ M_ hK_ hl_ hv_ => ?_)
        obtain ⟨rfl, hm_⟩ := hK_
        have hm_ := hm_.symm
        subst hm_
        change ab_G _ _ _ _ _ _ _ [(0, .ref 16), (1, .int (nI v)), (2, .int (nI p)), (3, .int (nI q)), (4, .int (nI k))] [.int (ab_bz ((T k p).testBit q))] (ab_S nr h g rr) _
        refine ab_if_eq (tgt := 31) de_B_isStep_26 rfl (fun c_26_3 => ?_) (fun c_26_3 => ?_)
        · refine ab_iinc (v := nI (k + 1)) (L' := [(4, .int (nI (k + 1))), (0, .ref 16), (1, .int (nI v)), (2, .int (nI p)), (3, .int (nI q))]) de_B_isStep_31 4 rfl (by rw [show Int32.ofInt 1 = nI 1 from rfl, ab_add]) (by decide) rfl ?_
          refine ab_goto (tgt := 3) de_B_isStep_34 rfl ?_
          refine ab_sub (L' := [(0, .ref 16), (1, .int (nI v)), (2, .int (nI p)), (3, .int (nI q)), (4, .int (nI (k + 1)))]) [1, 2, 3, 4, 0] rfl ?_
          exact ih (k + 1)  (by omega) (by omega) (fun j hj => by
            by_cases e : j = k
            · subst e; simp [(ab_bz0 _).mp c_26_3]
            · exact hf0 j (by omega))
        · refine ab_iconst (v := 1) de_B_isStep_29 rfl ?_
          exact ab_ret (v := some (.int (1 : Int32))) de_B_isStep_30 ⟨_, rfl, rfl⟩ ⟨congrArg (fun z => some (Value.int z)) (ab_bz_t (by rw [sp_st_bit]; exact (sp_any_iff _ _).mpr ⟨k, hk, by rw [ts_f c_15_2, (ab_bz1 _).mp c_26_3]; rfl⟩)), rfl⟩
set_option maxHeartbeats 1000000 in
set_option maxRecDepth 10000 in
theorem ct_B_isStep (l : Launch) (d : Nat) (nr : Nat) (h : Nat → Nat → Int32) (g : Nat → Nat → Int64) (rr : Nat → Option Nat) {T : Nat → Nat → Nat} (hT : bo_T T h 17) (hO : sp_ok T) {v p q : Nat} (hv : v < 4096) (hp : p < 12) (hq : q < 12) : ab_C l am_B_isStep (d + 1) 0 0 [.ref 16, .int (nI v), .int (nI p), .int (nI q)] (ab_S nr h g rr) (fun (r_ : Option Value) (M' : ab_Me) => r_ = some (.int (ab_bz ((sp_st T v p).testBit q))) ∧ M' = (ab_S nr h g rr)) := by
  refine ab_C_of (by decide +kernel) rfl (Nat.le_of_ble_eq_true rfl) ?_
  refine ab_iconst (v := 0) de_B_isStep_0 rfl ?_
  refine ab_istore (L' := [(4, .int (0 : Int32)), (0, .ref 16), (1, .int (nI v)), (2, .int (nI p)), (3, .int (nI q))]) de_B_isStep_1 (by decide) rfl ?_
  refine ab_sub (L' := [(0, .ref 16), (1, .int (nI v)), (2, .int (nI p)), (3, .int (nI q)), (4, .int (0 : Int32))]) [1, 2, 3, 4, 0] rfl ?_
  exact lp_B_isStep l d nr h g rr hT hO hv hp hq 4 0 (by omega) (by omega) (fun j hj => absurd hj (Nat.not_lt_zero j))
def sp_jo (T : Nat → Nat → Nat) (v i p q : Nat) : Nat := sp_or (fun k => if v.testBit (3 + k) then T k p &&& T k q else 0) 3 &&& i
theorem sp_jo_lt {T : Nat → Nat → Nat} {v i p q : Nat} (hi : i < 4096) : sp_jo T v i p q < 4096 := Nat.and_lt_two_pow (n := 12) _ hi
set_option maxHeartbeats 1000000 in
set_option maxRecDepth 10000 in
theorem lp_B_jumpedOver (l : Launch) (d : Nat) (nr : Nat) (h : Nat → Nat → Int32) (g : Nat → Nat → Int64) (rr : Nat → Option Nat) {T : Nat → Nat → Nat} (hT : bo_T T h 17) (hO : sp_ok T) {m i t v p q : Nat} (hm : m < 4096) (hi : i < 4096) (ht : t < 2) (hv : v < 4096) (hp : p < 12) (hq : q < 12) : ∀ (fu_ k : Nat), k ≤ 3 → 3 < k + fu_ → ab_G l none am_B_jumpedOver (d + 1) 0 0 6 [(0, .ref 16), (1, .int (nI (sp_en m i t))), (2, .int (nI v)), (3, .int (nI p)), (4, .int (nI q)), (5, .int (nI (sp_or (fun k => if v.testBit (3 + k) then T k p &&& T k q else 0) k))), (6, .int (nI k))] [] (ab_S nr h g rr) (fun (r_ : Option Value) (M' : ab_Me) => r_ = some (.int (nI (sp_jo T v i p q))) ∧ M' = (ab_S nr h g rr)) := by
  intro fu_
  induction fu_ with
  | zero => intro k  h1 h2; omega
  | succ fu_ ih =>
    intro k  hN_ hn_ 
    refine ab_iload de_B_jumpedOver_6 6 rfl ?_
    refine ab_iconst (v := 3) de_B_jumpedOver_8 rfl ?_
    refine ab_icmp_ge (tgt := 50) de_B_jumpedOver_9 rfl (fun c_9_1 => ?_) (fun c_9_1 => ?_)
    · have hk := ab_le_of (n := 3) (by decide) (by omega) rfl c_9_1
      refine ab_iload de_B_jumpedOver_50 5 rfl ?_
      refine ab_iload_n de_B_jumpedOver_52 1 rfl ?_
      refine ab_cS (as := [.int (nI (sp_en m i t))]) (st := [.int (nI (sp_or (fun k => if v.testBit (3 + k) then T k p &&& T k q else 0) k))]) (ct_B_foes l _ (ab_S nr h g rr) hm hi ht) mo_B_foes ms_B_foes ml_B_39 rfl rfl (Nat.le_of_ble_eq_true rfl) de_B_jumpedOver_53 (fun v_ M_ hK_ hl_ hv_ => ?_)
      obtain ⟨rfl, hm_⟩ := hK_
      have hm_ := hm_.symm
      subst hm_
      change ab_G _ _ _ _ _ _ _ [(0, .ref 16), (1, .int (nI (sp_en m i t))), (2, .int (nI v)), (3, .int (nI p)), (4, .int (nI q)), (5, .int (nI (sp_or (fun k => if v.testBit (3 + k) then T k p &&& T k q else 0) k))), (6, .int (nI k))] [.int (nI i), .int (nI (sp_or (fun k => if v.testBit (3 + k) then T k p &&& T k q else 0) k))] (ab_S nr h g rr) _
      refine ab_iand de_B_jumpedOver_56 ?_
      exact ab_ret (v := some (.int ((nI (sp_or (fun k => if v.testBit (3 + k) then T k p &&& T k q else 0) k)) &&& (nI i)))) de_B_jumpedOver_57 ⟨_, rfl⟩ ⟨congrArg (fun z => some (Value.int z)) (by rw [ab_and, show k = 3 by omega]; rfl), rfl⟩
    · have hk := ab_nle_of (n := 3) (by decide) (by omega) rfl c_9_1
      refine ab_iload_n de_B_jumpedOver_12 2 rfl ?_
      refine ab_iconst (v := 3) de_B_jumpedOver_13 rfl ?_
      refine ab_iload de_B_jumpedOver_14 6 rfl ?_
      refine ab_iadd de_B_jumpedOver_16 ?_
      refine ab_top (v' := nI (3 + k)) (by rw [show (3 : Int32) = nI 3 from rfl, ab_add]) ?_
      refine ab_ishr de_B_jumpedOver_17 ?_
      refine ab_iconst (v := 1) de_B_jumpedOver_18 rfl ?_
      refine ab_iand de_B_jumpedOver_19 ?_
      refine ab_top (v' := nI (v.testBit (3 + k)).toNat) (sp_bitne v (3 + k) (by omega) (by omega)) ?_
      refine ab_if_eq (tgt := 44) de_B_jumpedOver_20 rfl (fun c_20_2 => ?_) (fun c_20_2 => ?_)
      · refine ab_iinc (v := nI (k + 1)) (L' := [(6, .int (nI (k + 1))), (0, .ref 16), (1, .int (nI (sp_en m i t))), (2, .int (nI v)), (3, .int (nI p)), (4, .int (nI q)), (5, .int (nI (sp_or (fun k => if v.testBit (3 + k) then T k p &&& T k q else 0) k)))]) de_B_jumpedOver_44 6 rfl (by rw [show Int32.ofInt 1 = nI 1 from rfl, ab_add]) (by decide) rfl ?_
        refine ab_goto (tgt := 6) de_B_jumpedOver_47 rfl ?_
        refine ab_sub (L' := [(0, .ref 16), (1, .int (nI (sp_en m i t))), (2, .int (nI v)), (3, .int (nI p)), (4, .int (nI q)), (5, .int (nI (sp_or (fun k => if v.testBit (3 + k) then T k p &&& T k q else 0) k))), (6, .int (nI (k + 1)))]) [1, 2, 3, 4, 5, 6, 0] rfl ?_
        have e_ : sp_or (fun k => if v.testBit (3 + k) then T k p &&& T k q else 0) (k + 1) = sp_or (fun k => if v.testBit (3 + k) then T k p &&& T k q else 0) k := sp_or_no (if_neg (by rw [(sp_b0 _).mp c_20_2]; decide))
        have w_ := ih (k + 1) (by omega) (by omega)
        rw [e_] at w_
        exact w_
      · refine ab_iload de_B_jumpedOver_23 5 rfl ?_
        refine ab_aload_n de_B_jumpedOver_25 0 rfl ?_
        refine ab_iload_n de_B_jumpedOver_26 3 rfl ?_
        refine ab_iload de_B_jumpedOver_27 6 rfl ?_
        refine ab_cV (as := [.int (nI p), .int (nI k)]) (st := [.int (nI (sp_or (fun k => if v.testBit (3 + k) then T k p &&& T k q else 0) k))]) (ct_B_tiesOf l _ nr h g rr hT hO (p := p) hp hk) mo_B_tiesOf mi_B_tiesOf ml_B_73 rfl (by decide) rfl rfl rfl (Nat.le_of_ble_eq_true rfl) de_B_jumpedOver_29 (fun v_ M_ hK_ hl_ hv_ => ?_)
        obtain ⟨rfl, hm_⟩ := hK_
        have hm_ := hm_.symm
        subst hm_
        change ab_G _ _ _ _ _ _ _ [(0, .ref 16), (1, .int (nI (sp_en m i t))), (2, .int (nI v)), (3, .int (nI p)), (4, .int (nI q)), (5, .int (nI (sp_or (fun k => if v.testBit (3 + k) then T k p &&& T k q else 0) k))), (6, .int (nI k))] [.int (nI (T k p)), .int (nI (sp_or (fun k => if v.testBit (3 + k) then T k p &&& T k q else 0) k))] (ab_S nr h g rr) _
        refine ab_aload_n de_B_jumpedOver_32 0 rfl ?_
        refine ab_iload de_B_jumpedOver_33 4 rfl ?_
        refine ab_iload de_B_jumpedOver_35 6 rfl ?_
        refine ab_cV (as := [.int (nI q), .int (nI k)]) (st := [.int (nI (T k p)), .int (nI (sp_or (fun k => if v.testBit (3 + k) then T k p &&& T k q else 0) k))]) (ct_B_tiesOf l _ nr h g rr hT hO (p := q) hq hk) mo_B_tiesOf mi_B_tiesOf ml_B_73 rfl (by decide) rfl rfl rfl (Nat.le_of_ble_eq_true rfl) de_B_jumpedOver_37 (fun v_ M_ hK_ hl_ hv_ => ?_)
        obtain ⟨rfl, hm_⟩ := hK_
        have hm_ := hm_.symm
        subst hm_
        change ab_G _ _ _ _ _ _ _ [(0, .ref 16), (1, .int (nI (sp_en m i t))), (2, .int (nI v)), (3, .int (nI p)), (4, .int (nI q)), (5, .int (nI (sp_or (fun k => if v.testBit (3 + k) then T k p &&& T k q else 0) k))), (6, .int (nI k))] [.int (nI (T k q)), .int (nI (T k p)), .int (nI (sp_or (fun k => if v.testBit (3 + k) then T k p &&& T k q else 0) k))] (ab_S nr h g rr) _
        refine ab_iand de_B_jumpedOver_40 ?_
        refine ab_top (v' := nI (T k p &&& T k q)) (ab_and _ _) ?_
        refine ab_ior de_B_jumpedOver_41 ?_
        refine ab_top (v' := nI (sp_or (fun k => if v.testBit (3 + k) then T k p &&& T k q else 0) (k + 1))) (by rw [ab_or, sp_or, if_pos (ts_f c_20_2)]) ?_
        refine ab_istore (L' := [(5, .int (nI (sp_or (fun k => if v.testBit (3 + k) then T k p &&& T k q else 0) (k + 1)))), (0, .ref 16), (1, .int (nI (sp_en m i t))), (2, .int (nI v)), (3, .int (nI p)), (4, .int (nI q)), (6, .int (nI k))]) de_B_jumpedOver_42 (by decide) rfl ?_
        refine ab_iinc (v := nI (k + 1)) (L' := [(6, .int (nI (k + 1))), (5, .int (nI (sp_or (fun k => if v.testBit (3 + k) then T k p &&& T k q else 0) (k + 1)))), (0, .ref 16), (1, .int (nI (sp_en m i t))), (2, .int (nI v)), (3, .int (nI p)), (4, .int (nI q))]) de_B_jumpedOver_44 6 rfl (by rw [show Int32.ofInt 1 = nI 1 from rfl, ab_add]) (by decide) rfl ?_
        refine ab_goto (tgt := 6) de_B_jumpedOver_47 rfl ?_
        refine ab_sub (L' := [(0, .ref 16), (1, .int (nI (sp_en m i t))), (2, .int (nI v)), (3, .int (nI p)), (4, .int (nI q)), (5, .int (nI (sp_or (fun k => if v.testBit (3 + k) then T k p &&& T k q else 0) (k + 1)))), (6, .int (nI (k + 1)))]) [2, 3, 4, 5, 6, 1, 0] rfl ?_
        exact ih (k + 1)  (by omega) (by omega) 
set_option maxHeartbeats 1000000 in
set_option maxRecDepth 10000 in
theorem ct_B_jumpedOver (l : Launch) (d : Nat) (nr : Nat) (h : Nat → Nat → Int32) (g : Nat → Nat → Int64) (rr : Nat → Option Nat) {T : Nat → Nat → Nat} (hT : bo_T T h 17) (hO : sp_ok T) {m i t v p q : Nat} (hm : m < 4096) (hi : i < 4096) (ht : t < 2) (hv : v < 4096) (hp : p < 12) (hq : q < 12) : ab_C l am_B_jumpedOver (d + 1) 0 0 [.ref 16, .int (nI (sp_en m i t)), .int (nI v), .int (nI p), .int (nI q)] (ab_S nr h g rr) (fun (r_ : Option Value) (M' : ab_Me) => r_ = some (.int (nI (sp_jo T v i p q))) ∧ M' = (ab_S nr h g rr)) := by
  refine ab_C_of (by decide +kernel) rfl (Nat.le_of_ble_eq_true rfl) ?_
  refine ab_iconst (v := 0) de_B_jumpedOver_0 rfl ?_
  refine ab_istore (L' := [(5, .int (0 : Int32)), (0, .ref 16), (1, .int (nI (sp_en m i t))), (2, .int (nI v)), (3, .int (nI p)), (4, .int (nI q))]) de_B_jumpedOver_1 (by decide) rfl ?_
  refine ab_iconst (v := 0) de_B_jumpedOver_3 rfl ?_
  refine ab_istore (L' := [(6, .int (0 : Int32)), (5, .int (0 : Int32)), (0, .ref 16), (1, .int (nI (sp_en m i t))), (2, .int (nI v)), (3, .int (nI p)), (4, .int (nI q))]) de_B_jumpedOver_4 (by decide) rfl ?_
  refine ab_sub (L' := [(0, .ref 16), (1, .int (nI (sp_en m i t))), (2, .int (nI v)), (3, .int (nI p)), (4, .int (nI q)), (5, .int (0 : Int32)), (6, .int (0 : Int32))]) [2, 3, 4, 5, 6, 1, 0] rfl ?_
  exact lp_B_jumpedOver l d nr h g rr hT hO hm hi ht hv hp hq 4 0 (by omega) (by omega)
