/-! the reference: same -/
theorem md_r1 (c k w : Nat) (hk : k < 3) (hw : w < 3) : (c >>> k &&& 9) <<< w = (c >>> k &&& 1) <<< w ||| (c >>> (3 + k) &&& 1) <<< (3 + w) := by
  apply Nat.eq_of_testBit_eq
  intro j
  simp only [Nat.testBit_or, Nat.testBit_shiftLeft, Nat.testBit_and, Nat.testBit_shiftRight]
  have e9 : ∀ q, (9 : Nat).testBit q = (decide (q = 0) || decide (q = 3)) := fun q => by
    rcases (by omega : q = 0 ∨ q = 1 ∨ q = 2 ∨ q = 3 ∨ 4 ≤ q) with rfl | rfl | rfl | rfl | h
    · rfl
    · rfl
    · rfl
    · rfl
    · rw [Nat.testBit_lt_two_pow (Nat.lt_of_lt_of_le (show 9 < 2 ^ 4 by decide) (Nat.pow_le_pow_right (by decide) h)), decide_eq_false (by omega), decide_eq_false (by omega)]
      rfl
  have e1 : ∀ q, (1 : Nat).testBit q = decide (q = 0) := fun q => by
    rcases (by omega : q = 0 ∨ 1 ≤ q) with rfl | h
    · rfl
    · rw [Nat.testBit_lt_two_pow (Nat.lt_of_lt_of_le (show 1 < 2 ^ 1 by decide) (Nat.pow_le_pow_right (by decide) h)), decide_eq_false (by omega)]
  rw [e9, e1, e1]
  by_cases h0 : j = w
  · subst h0
    simp [show ¬ 3 + j ≤ j by omega]
  · by_cases h3 : j = 3 + w
    · subst h3
      have a1 : 3 + w - w = 3 := by omega
      have a2 : 3 + k + 0 = k + 3 := by omega
      rw [a1, Nat.sub_self, a2]
      simp
    · by_cases hl : w ≤ j
      · rw [decide_eq_false (show ¬ j - w = 0 by omega), decide_eq_false (show ¬ j - w = 3 by omega)]
        by_cases hm : 3 + w ≤ j
        · rw [decide_eq_false (show ¬ j - (3 + w) = 0 by omega)]
          simp
        · simp [hm]
      · simp [hl, show ¬ 3 + w ≤ j by omega]
theorem md_rn_s {c i k : Nat} (hk : k < 3) (hw : sp_wa i k < 3) : sp_rn c i (k + 1) = sp_rn c i k ||| ((c >>> k &&& 1) <<< sp_wa i k ||| (c >>> (3 + k) &&& 1) <<< (3 + sp_wa i k)) := by
  rw [sp_rn, md_r1 c k _ hk hw]
set_option maxHeartbeats 1000000 in
set_option maxRecDepth 10000 in
theorem lp_M_same_k (l : Launch) (d : Nat) (nr : Nat) (h : Nat → Nat → Int32) (g : Nat → Nat → Int64) (rr : Nat → Option Nat) (hbc : ∀ i, i < 6 → ∀ k, k < 3 → h 48 (3 * i + k) = nI (sp_wa i k)) {c e : Nat} (hc : c < 4096) (he : e < 4096) {i : Nat} (hi : i < 6) {K : Option Value → ab_Me → Prop} (kx : ab_G l none am_M_same (d + 1) 0 0 92 [(0, .ref 30), (1, .int (nI c)), (2, .int (nI e)), (3, .int (nI i)), (4, .int (nI (sp_rn c i 3)))] [] (ab_S nr h g rr) (K)) : ∀ (fu_ k : Nat), k ≤ 3 → 3 < k + fu_ → ab_G l none am_M_same (d + 1) 0 0 39 [(0, .ref 30), (1, .int (nI c)), (2, .int (nI e)), (3, .int (nI i)), (4, .int (nI (sp_rn c i k))), (5, .int (nI k))] [] (ab_S nr h g rr) (K) := by
  intro fu_
  induction fu_ with
  | zero => intro k  h1 h2; omega
  | succ fu_ ih =>
    intro k  hN_ hn_ 
    refine ab_iload de_M_same_39 5 rfl ?_
    refine ab_iconst (v := 3) de_M_same_41 rfl ?_
    refine ab_icmp_ge (tgt := 92) de_M_same_42 rfl (fun c_42_1 => ?_) (fun c_42_1 => ?_)
    · have hk := ab_le_of (n := 3) (by decide) (by omega) rfl c_42_1
      refine ab_sub (L' := [(0, .ref 30), (1, .int (nI c)), (2, .int (nI e)), (3, .int (nI i)), (4, .int (nI (sp_rn c i k)))]) [0, 1, 2, 3, 4] rfl ?_
      rw [show k = 3 by omega]
      exact kx
    · have hk := ab_nle_of (n := 3) (by decide) (by omega) rfl c_42_1
      have wa_ := sp_wa_lt i hi k hk
      have rn_ := sp_rn_lt (c := c) hc hi k (by omega)
      refine ab_aload_n de_M_same_45 0 rfl ?_
      refine ab_get (v := .ref 48) fl_M_72 rfl rfl de_M_same_46 ?_
      refine ab_iconst (v := 3) de_M_same_49 rfl ?_
      refine ab_iload_n de_M_same_50 3 rfl ?_
      refine ab_imul de_M_same_51 ?_
      refine ab_top (v' := nI (3 * i)) (ab_mul _ _) ?_
      refine ab_iload de_M_same_52 5 rfl ?_
      refine ab_iadd de_M_same_54 ?_
      refine ab_top (v' := nI ((3 * i) + k)) (ab_add _ _) ?_
      refine ab_iald (v := h 48 ((3 * i) + k)) rfl (ab_in (by omega) (by decide)) (ab_hv (ab_tn (n := ((3 * i) + k)) (by omega))) de_M_same_55 ?_
      refine ab_top (v' := nI (sp_wa i k)) (hbc i hi k hk) ?_
      refine ab_istore (L' := [(6, .int (nI (sp_wa i k))), (0, .ref 30), (1, .int (nI c)), (2, .int (nI e)), (3, .int (nI i)), (4, .int (nI (sp_rn c i k))), (5, .int (nI k))]) de_M_same_56 (by decide) rfl ?_
      refine ab_iload de_M_same_58 5 rfl ?_
      refine ab_iload_n de_M_same_60 2 rfl ?_
      refine ab_iload de_M_same_61 6 rfl ?_
      refine ab_ishr de_M_same_63 ?_
      refine ab_top (v' := nI (c >>> k)) (ab_shr (by omega) (by omega)) ?_
      refine ab_iconst (v := 1) de_M_same_64 rfl ?_
      refine ab_iand de_M_same_65 ?_
      refine ab_top (v' := nI (c.testBit k).toNat) ((ab_and _ 1).trans (congrArg nI (sp_bit1 _ _))) ?_
      refine ab_iload de_M_same_66 0 rfl ?_
      refine ab_ishl de_M_same_68 ?_
      refine ab_top (v' := nI ((c.testBit k).toNat <<< (sp_wa i k))) (ab_shl _ (by omega)) ?_
      refine ab_iload_n de_M_same_69 2 rfl ?_
      refine ab_iconst (v := 3) de_M_same_70 rfl ?_
      refine ab_iload de_M_same_71 6 rfl ?_
      refine ab_iadd de_M_same_73 ?_
      refine ab_top (v' := nI (3 + k)) (ab_add _ _) ?_
      refine ab_ishr de_M_same_74 ?_
      refine ab_top (v' := nI (c >>> (3 + k))) (ab_shr (by omega) (by omega)) ?_
      refine ab_iconst (v := 1) de_M_same_75 rfl ?_
      refine ab_iand de_M_same_76 ?_
      refine ab_top (v' := nI (c.testBit (3 + k)).toNat) ((ab_and _ 1).trans (congrArg nI (sp_bit1 _ _))) ?_
      refine ab_iconst (v := 3) de_M_same_77 rfl ?_
      refine ab_iload de_M_same_78 0 rfl ?_
      refine ab_iadd de_M_same_80 ?_
      refine ab_top (v' := nI (3 + (sp_wa i k))) (ab_add _ _) ?_
      refine ab_ishl de_M_same_81 ?_
      refine ab_top (v' := nI ((c.testBit (3 + k)).toNat <<< (3 + (sp_wa i k)))) (ab_shl _ (by omega)) ?_
      refine ab_ior de_M_same_82 ?_
      refine ab_top (v' := nI (((c.testBit k).toNat <<< (sp_wa i k)) ||| ((c.testBit (3 + k)).toNat <<< (3 + (sp_wa i k))))) (ab_or _ _) ?_
      refine ab_ior de_M_same_83 ?_
      refine ab_top (v' := nI (sp_rn c i (k + 1))) ((ab_or _ _).trans (congrArg nI (by rw [md_rn_s hk wa_, sp_bit1, sp_bit1]))) ?_
      refine ab_istore (L' := [(4, .int (nI (sp_rn c i (k + 1)))), (6, .int (nI (sp_wa i k))), (0, .ref 30), (1, .int (nI c)), (2, .int (nI e)), (3, .int (nI i)), (5, .int (nI k))]) de_M_same_84 (by decide) rfl ?_
      refine ab_iinc (v := nI (k + 1)) (L' := [(5, .int (nI (k + 1))), (4, .int (nI (sp_rn c i (k + 1)))), (6, .int (nI (sp_wa i k))), (0, .ref 30), (1, .int (nI c)), (2, .int (nI e)), (3, .int (nI i))]) de_M_same_86 6 rfl (by rw [show Int32.ofInt 1 = nI 1 from rfl, ab_add]) (by decide) rfl ?_
      refine ab_goto (tgt := 39) de_M_same_89 rfl ?_
      refine ab_sub (L' := [(0, .ref 30), (1, .int (nI c)), (2, .int (nI e)), (3, .int (nI i)), (4, .int (nI (sp_rn c i (k + 1)))), (5, .int (nI (k + 1)))]) [3, 4, 5, 6, 1, 0] rfl ?_
      exact ih (k + 1)  (by omega) (by omega) 
set_option maxHeartbeats 1000000 in
set_option maxRecDepth 10000 in
theorem lp_M_same (l : Launch) (d : Nat) (nr : Nat) (h : Nat → Nat → Int32) (g : Nat → Nat → Int64) (rr : Nat → Option Nat) (hbc : ∀ i, i < 6 → ∀ k, k < 3 → h 48 (3 * i + k) = nI (sp_wa i k)) {c e : Nat} (hc : c < 4096) (he : e < 4096) : ∀ (fu_ i : Nat), i ≤ 6 → 6 < i + fu_ → (∀ j, j < i → (fun w => decide (sp_rn c w 3 = e)) j = false) → ab_G l none am_M_same (d + 1) 0 0 24 [(0, .ref 30), (1, .int (nI c)), (2, .int (nI e)), (3, .int (nI i))] [] (ab_S nr h g rr) (fun (r_ : Option Value) (M' : ab_Me) => r_ = some (.int (sp_sa6 c e)) ∧ M' = (ab_S nr h g rr)) := by
  intro fu_
  induction fu_ with
  | zero => intro i  h1 h2; omega
  | succ fu_ ih =>
    intro i  hN_ hn_ hf0
    refine ab_iload_n de_M_same_24 3 rfl ?_
    refine ab_bipush (v := 6) de_M_same_25 rfl ?_
    refine ab_icmp_ge (tgt := 106) de_M_same_27 rfl (fun c_27_1 => ?_) (fun c_27_1 => ?_)
    · have hi := ab_le_of (n := 6) (by decide) (by omega) rfl c_27_1
      refine ab_iconst (v := -1) de_M_same_106 rfl ?_
      exact ab_ret (v := some (.int (-1 : Int32))) de_M_same_107 ⟨_, rfl⟩ ⟨by unfold sp_sa6; rw [sp_ft_no (f := (fun w => decide (sp_rn c w 3 = e))) 6 (fun j hj => hf0 j (by omega)), if_neg (Nat.lt_irrefl 6)], rfl⟩
    · have hi := ab_nle_of (n := 6) (by decide) (by omega) rfl c_27_1
      refine ab_iload_n de_M_same_30 1 rfl ?_
      refine ab_bipush (v := -64) de_M_same_31 rfl ?_
      refine ab_iand de_M_same_33 ?_
      refine ab_top (v' := nI (sp_rn c i 0)) (sp_64m hc) ?_
      refine ab_istore (L' := [(4, .int (nI (sp_rn c i 0))), (0, .ref 30), (1, .int (nI c)), (2, .int (nI e)), (3, .int (nI i))]) de_M_same_34 (by decide) rfl ?_
      refine ab_iconst (v := 0) de_M_same_36 rfl ?_
      refine ab_istore (L' := [(5, .int (0 : Int32)), (4, .int (nI (sp_rn c i 0))), (0, .ref 30), (1, .int (nI c)), (2, .int (nI e)), (3, .int (nI i))]) de_M_same_37 (by decide) rfl ?_
      refine ab_sub (L' := [(0, .ref 30), (1, .int (nI c)), (2, .int (nI e)), (3, .int (nI i)), (4, .int (nI (sp_rn c i 0))), (5, .int (nI 0))]) [2, 3, 4, 5, 1, 0] rfl ?_
      refine lp_M_same_k l d nr h g rr hbc hc he hi ?_ 4 0 (by omega) (by omega)
      have r3_ := sp_rn_lt (c := c) hc hi 3 (by decide)
      refine ab_iload de_M_same_92 4 rfl ?_
      refine ab_iload_n de_M_same_94 2 rfl ?_
      refine ab_icmp_ne (tgt := 100) de_M_same_95 rfl (fun c_95_2 => ?_) (fun c_95_2 => ?_)
      · refine ab_iinc (v := nI (i + 1)) (L' := [(3, .int (nI (i + 1))), (0, .ref 30), (1, .int (nI c)), (2, .int (nI e)), (4, .int (nI (sp_rn c i 3)))]) de_M_same_100 3 rfl (by rw [show Int32.ofInt 1 = nI 1 from rfl, ab_add]) (by decide) rfl ?_
        refine ab_goto (tgt := 24) de_M_same_103 rfl ?_
        refine ab_sub (L' := [(0, .ref 30), (1, .int (nI c)), (2, .int (nI e)), (3, .int (nI (i + 1)))]) [1, 2, 3, 0] rfl ?_
        exact ih (i + 1)  (by omega) (by omega) (fun j hj => by
          by_cases q : j = i
          · rw [q]; exact decide_eq_false (fun z => c_95_2 (by rw [z]))
          · exact hf0 j (by omega))
      · refine ab_iload_n de_M_same_98 3 rfl ?_
        exact ab_ret (v := some (.int (nI i))) de_M_same_99 ⟨_, rfl⟩ ⟨congrArg (fun z => some (Value.int z)) (by unfold sp_sa6; rw [sp_ft_at (f := (fun w => decide (sp_rn c w 3 = e))) (k := i) (decide_eq_true ((ab_inj (by omega) (by omega)).mp c_95_2)) hf0 6 hi, if_pos hi]), rfl⟩
def fx_M_same (nr : Nat) (h : Nat → Nat → Int32) (g : Nat → Nat → Int64) (rr : Nat → Option Nat) (x y : Int32) : Option Value × ab_Me :=
  if ab_bz (sp_cd x) = 0 then (some (.int (-11 : Int32)), ab_S nr (ab_u2 h 31 1 (h 31 1 + 1)) g rr) else if ab_bz (sp_cd y) = 0 then (some (.int (-11 : Int32)), ab_S nr (ab_u2 h 31 1 (h 31 1 + 1)) g rr) else (some (.int (sp_sa6 x.toNatClampNeg y.toNatClampNeg)), (ab_S nr h g rr))
set_option maxHeartbeats 1000000 in
set_option maxRecDepth 10000 in
theorem ct_M_same (l : Launch) (d : Nat) (nr : Nat) (h : Nat → Nat → Int32) (g : Nat → Nat → Int64) (rr : Nat → Option Nat) (hbc : ∀ i, i < 6 → ∀ k, k < 3 → h 48 (3 * i + k) = nI (sp_wa i k)) (x y : Int32) : ab_C l am_M_same (d + 1) 0 0 [.ref 30, .int x, .int y] (ab_S nr h g rr) (fun r_ M_ => (r_, M_) = fx_M_same nr h g rr x y) := by
  refine ab_C_of (by decide +kernel) rfl (Nat.le_of_ble_eq_true rfl) ?_
  refine ab_aload_n de_M_same_0 0 rfl ?_
  refine ab_iload_n de_M_same_1 1 rfl ?_
  refine ab_cV (as := [.int x]) (st := []) (ct_M_isCode l _ (ab_S nr h g rr) (x)) mo_M_isCode mi_M_isCode ml_M_168 rfl (by decide) rfl rfl rfl (Nat.le_of_ble_eq_true rfl) de_M_same_2 (fun v_ M_ hK_ hl_ hv_ => ?_)
  obtain ⟨rfl, hm_⟩ := hK_
  have hm_ := hm_.symm
  subst hm_
  change ab_G _ _ _ _ _ _ _ [(0, .ref 30), (1, .int x), (2, .int y)] [.int (ab_bz (sp_cd x))] (ab_S nr h g rr) _
  refine ab_if_eq (tgt := 16) de_M_same_5 rfl (fun c_5_1 => ?_) (fun c_5_1 => ?_)
  · refine ab_aload_n de_M_same_16 0 rfl ?_
    refine ab_iconst (v := -1) de_M_same_17 rfl ?_
    refine ab_cV (as := [.int (-1 : Int32)]) (st := []) (ct_M_noTen l _ nr h g rr (r := (-1 : Int32)) (k := 1) (by decide) (by decide)) mo_M_noTen mi_M_noTen ml_M_222 rfl (by decide) rfl rfl rfl (Nat.le_of_ble_eq_true rfl) de_M_same_18 (fun v_ M_ hK_ hl_ hv_ => ?_)
    obtain ⟨rfl, hm_⟩ := hK_
    have hm_ := hm_.symm
    subst hm_
    change ab_G _ _ _ _ _ _ _ [(0, .ref 30), (1, .int x), (2, .int y)] [.int (-11 : Int32)] (ab_S nr (ab_u2 h 31 1 (h 31 1 + 1)) g rr) _
    exact ab_ret (v := some (.int (-11 : Int32))) de_M_same_21 ⟨_, rfl⟩ (by unfold fx_M_same; rw [if_pos c_5_1])
  · obtain ⟨xn, hxn, rfl⟩ := sp_cd_n c_5_1
    refine ab_aload_n de_M_same_8 0 rfl ?_
    refine ab_iload_n de_M_same_9 2 rfl ?_
    refine ab_cV (as := [.int y]) (st := []) (ct_M_isCode l _ (ab_S nr h g rr) (y)) mo_M_isCode mi_M_isCode ml_M_168 rfl (by decide) rfl rfl rfl (Nat.le_of_ble_eq_true rfl) de_M_same_10 (fun v_ M_ hK_ hl_ hv_ => ?_)
    obtain ⟨rfl, hm_⟩ := hK_
    have hm_ := hm_.symm
    subst hm_
    change ab_G _ _ _ _ _ _ _ [(0, .ref 30), (1, .int (nI xn)), (2, .int y)] [.int (ab_bz (sp_cd y))] (ab_S nr h g rr) _
    refine ab_if_ne (tgt := 22) de_M_same_13 rfl (fun c_13_2 => ?_) (fun c_13_2 => ?_)
    · obtain ⟨yn, hyn, rfl⟩ := sp_cd_n c_13_2
      refine ab_iconst (v := 0) de_M_same_22 rfl ?_
      refine ab_istore_n (L' := [(3, .int (0 : Int32)), (0, .ref 30), (1, .int (nI xn)), (2, .int (nI yn))]) de_M_same_23 (by decide) rfl ?_
      refine ab_sub (L' := [(0, .ref 30), (1, .int (nI xn)), (2, .int (nI yn)), (3, .int (nI 0))]) [1, 2, 3, 0] rfl ?_
      refine ab_wk (fun r_ M_ q => ?_) (lp_M_same l d nr h g rr hbc (c := xn) (e := yn) (by omega) (by omega) 7 0 (by omega) (by omega) (fun j hj => absurd hj (Nat.not_lt_zero j)))
      unfold fx_M_same
      rw [if_neg c_5_1, if_neg c_13_2, ab_tn (show xn < 2 ^ 31 by omega), ab_tn (show yn < 2 ^ 31 by omega), q.1, q.2]
    · refine ab_aload_n de_M_same_16 0 rfl ?_
      refine ab_iconst (v := -1) de_M_same_17 rfl ?_
      refine ab_cV (as := [.int (-1 : Int32)]) (st := []) (ct_M_noTen l _ nr h g rr (r := (-1 : Int32)) (k := 1) (by decide) (by decide)) mo_M_noTen mi_M_noTen ml_M_222 rfl (by decide) rfl rfl rfl (Nat.le_of_ble_eq_true rfl) de_M_same_18 (fun v_ M_ hK_ hl_ hv_ => ?_)
      obtain ⟨rfl, hm_⟩ := hK_
      have hm_ := hm_.symm
      subst hm_
      change ab_G _ _ _ _ _ _ _ [(0, .ref 30), (1, .int (nI xn)), (2, .int y)] [.int (-11 : Int32)] (ab_S nr (ab_u2 h 31 1 (h 31 1 + 1)) g rr) _
      exact ab_ret (v := some (.int (-11 : Int32))) de_M_same_21 ⟨_, rfl⟩ (by unfold fx_M_same; rw [if_neg c_5_1, if_pos c_13_2])
