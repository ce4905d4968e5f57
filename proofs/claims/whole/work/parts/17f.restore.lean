/-! the reference: restore -/
def md_rv (n : Nat) (h : Nat → Nat → Int32) (k : Nat) : Nat → Nat → Int32 := fun a b => if a = 38 ∧ b < k ∧ h 38 b = 2 ∧ nI n ≤ h 41 b then 0 else h a b
theorem md_rv_0 (n : Nat) (h : Nat → Nat → Int32) : md_rv n h 0 = h := by
  funext a b
  exact if_neg (fun z => Nat.not_lt_zero _ z.2.1)
theorem md_rv_y {n : Nat} {h : Nat → Nat → Int32} {k : Nat} (h1 : h 38 k = 2) (h2 : nI n ≤ h 41 k) : ab_u2 (md_rv n h k) 38 k 0 = md_rv n h (k + 1) := by
  funext a b
  unfold ab_u2 md_rv
  by_cases e : a = 38 ∧ b = k
  · rw [if_pos e, if_pos ⟨e.1, by omega, by rw [e.2]; exact h1, by rw [e.2]; exact h2⟩]
  · rw [if_neg e]
    by_cases w : a = 38 ∧ b < k ∧ h 38 b = 2 ∧ nI n ≤ h 41 b
    · rw [if_pos w, if_pos ⟨w.1, by omega, w.2.2⟩]
    · rw [if_neg w, if_neg (fun z => by
        rcases Nat.lt_or_ge b k with v | v
        · exact w ⟨z.1, v, z.2.2⟩
        · exact e ⟨z.1, by omega⟩)]
theorem md_rv_n {n : Nat} {h : Nat → Nat → Int32} {k : Nat} (hn : ¬ (h 38 k = 2 ∧ nI n ≤ h 41 k)) : md_rv n h (k + 1) = md_rv n h k := by
  funext a b
  unfold md_rv
  by_cases w : a = 38 ∧ b < k ∧ h 38 b = 2 ∧ nI n ≤ h 41 b
  · rw [if_pos w, if_pos ⟨w.1, by omega, w.2.2⟩]
  · rw [if_neg w, if_neg (fun z => by
      rcases Nat.lt_or_ge b k with v | v
      · exact w ⟨z.1, v, z.2.2⟩
      · exact hn (by rw [← show b = k by omega]; exact z.2.2))]
theorem md_rv_38 (n : Nat) (h : Nat → Nat → Int32) (k : Nat) : md_rv n h k 38 k = h 38 k := if_neg (fun z => Nat.lt_irrefl _ z.2.1)
set_option maxHeartbeats 1000000 in
set_option maxRecDepth 10000 in
theorem lp_M_restore (l : Launch) (d : Nat) (nr : Nat) (h : Nat → Nat → Int32) (g : Nat → Nat → Int64) (rr : Nat → Option Nat) {n : Nat} (hMR : h 30 0 = nI n) : ∀ (fu_ k : Nat), k ≤ 8 → 8 < k + fu_ → ab_G l none am_M_restore (d + 2) 0 0 66 [(0, .ref 30), (1, .int (nI k))] [] (ab_S nr (md_rv n h k) g rr) (fun (r_ : Option Value) (M' : ab_Me) => r_ = some (.int (h 30 1)) ∧ M' = (ab_S nr (md_rv n h 8) g rr)) := by
  intro fu_
  induction fu_ with
  | zero => intro k  h1 h2; omega
  | succ fu_ ih =>
    intro k  hN_ hn_ 
    refine ab_iload_n de_M_restore_66 1 rfl ?_
    refine ab_bipush (v := 8) de_M_restore_67 rfl ?_
    refine ab_icmp_ge (tgt := 108) de_M_restore_69 rfl (fun c_69_1 => ?_) (fun c_69_1 => ?_)
    · have hk := ab_le_of (n := 8) (by decide) (by omega) rfl c_69_1
      refine ab_aload_n de_M_restore_108 0 rfl ?_
      refine ab_get (v := .int ((md_rv n h k) 30 1)) fl_M_84 rfl rfl de_M_restore_109 ?_
      refine ab_top (v' := h 30 1) (if_neg (fun z => by cases z.1)) ?_
      exact ab_ret (v := some (.int (h 30 1))) de_M_restore_112 ⟨_, rfl⟩ ⟨rfl, by rw [show k = 8 by omega]⟩
    · have hk := ab_nle_of (n := 8) (by decide) (by omega) rfl c_69_1
      refine ab_aload_n de_M_restore_72 0 rfl ?_
      refine ab_get (v := .ref 38) fl_M_35 rfl rfl de_M_restore_73 ?_
      refine ab_iload_n de_M_restore_76 1 rfl ?_
      refine ab_iald (v := (md_rv n h k) 38 k) rfl (ab_in (by omega) (by decide)) (ab_hv (ab_tn (n := k) (by omega))) de_M_restore_77 ?_
      refine ab_top (v' := h 38 k) (md_rv_38 n h k) ?_
      refine ab_iconst (v := 2) de_M_restore_78 rfl ?_
      refine ab_icmp_ne (tgt := 102) de_M_restore_79 rfl (fun c_79_2 => ?_) (fun c_79_2 => ?_)
      · refine ab_iinc (v := nI (k + 1)) (L' := [(1, .int (nI (k + 1))), (0, .ref 30)]) de_M_restore_102 1 rfl (by rw [show Int32.ofInt 1 = nI 1 from rfl, ab_add]) (by decide) rfl ?_
        refine ab_goto (tgt := 66) de_M_restore_105 rfl ?_
        refine ab_sub (L' := [(0, .ref 30), (1, .int (nI (k + 1)))]) [1, 0] rfl ?_
        have z_ := ih (k + 1) (by omega) (by omega)
        rw [md_rv_n (fun z => c_79_2 z.1)] at z_
        exact z_
      · refine ab_aload_n de_M_restore_82 0 rfl ?_
        refine ab_get (v := .ref 41) fl_M_44 rfl rfl de_M_restore_83 ?_
        refine ab_iload_n de_M_restore_86 1 rfl ?_
        refine ab_iald (v := (md_rv n h k) 41 k) rfl (ab_in (by omega) (by decide)) (ab_hv (ab_tn (n := k) (by omega))) de_M_restore_87 ?_
        refine ab_top (v' := h 41 k) (if_neg (fun z => by cases z.1)) ?_
        refine ab_aload_n de_M_restore_88 0 rfl ?_
        refine ab_get (v := .int ((md_rv n h k) 30 0)) fl_M_87 rfl rfl de_M_restore_89 ?_
        refine ab_top (v' := nI n) ((show md_rv n h k 30 0 = _ from (if_neg (fun z => by cases z.1)).trans hMR)) ?_
        refine ab_icmp_lt (tgt := 102) de_M_restore_92 rfl (fun c_92_3 => ?_) (fun c_92_3 => ?_)
        · refine ab_iinc (v := nI (k + 1)) (L' := [(1, .int (nI (k + 1))), (0, .ref 30)]) de_M_restore_102 1 rfl (by rw [show Int32.ofInt 1 = nI 1 from rfl, ab_add]) (by decide) rfl ?_
          refine ab_goto (tgt := 66) de_M_restore_105 rfl ?_
          refine ab_sub (L' := [(0, .ref 30), (1, .int (nI (k + 1)))]) [1, 0] rfl ?_
          have z_ := ih (k + 1) (by omega) (by omega)
          rw [md_rv_n (fun z => absurd z.2 (Int32.not_le.mpr c_92_3))] at z_
          exact z_
        · refine ab_aload_n de_M_restore_95 0 rfl ?_
          refine ab_get (v := .ref 38) fl_M_35 rfl rfl de_M_restore_96 ?_
          refine ab_iload_n de_M_restore_99 1 rfl ?_
          refine ab_iconst (v := 0) de_M_restore_100 rfl ?_
          refine ab_iast (x := 38) rfl (ab_in (by omega) (by decide)) de_M_restore_101 ?_
          rw [(ab_tn (n := k) (by omega))]
          change ab_G _ _ _ _ _ _ _ _ _ (ab_S nr (ab_u2 (md_rv n h k) 38 k (0 : Int32)) g rr) _
          refine ab_iinc (v := nI (k + 1)) (L' := [(1, .int (nI (k + 1))), (0, .ref 30)]) de_M_restore_102 1 rfl (by rw [show Int32.ofInt 1 = nI 1 from rfl, ab_add]) (by decide) rfl ?_
          refine ab_goto (tgt := 66) de_M_restore_105 rfl ?_
          refine ab_sub (L' := [(0, .ref 30), (1, .int (nI (k + 1)))]) [1, 0] rfl ?_
          have z_ := ih (k + 1) (by omega) (by omega)
          rw [← md_rv_y c_79_2 (Int32.not_lt.mp c_92_3)] at z_
          exact z_
set_option maxHeartbeats 1000000 in
set_option maxRecDepth 10000 in
theorem ct_M_restore_0 (l : Launch) (d : Nat) (nr : Nat) (h : Nat → Nat → Int32) (g : Nat → Nat → Int64) (rr : Nat → Option Nat) (hi0 : h 30 38 = -1) : ab_C l am_M_restore (d + 2) 0 0 [.ref 30] (ab_S nr h g rr) (fun (r_ : Option Value) (M' : ab_Me) => r_ = some (.int (-6 : Int32)) ∧ M' = (ab_S nr (ab_u2 h 31 6 (h 31 6 + 1)) g rr)) := by
  refine ab_C_of (by decide +kernel) rfl (Nat.le_of_ble_eq_true rfl) ?_
  refine ab_aload_n de_M_restore_0 0 rfl ?_
  refine ab_get (v := .int (h 30 38)) fl_M_78 rfl rfl de_M_restore_1 ?_
  refine ab_iconst (v := -1) de_M_restore_4 rfl ?_
  refine ab_icmp_ne (tgt := 15) de_M_restore_5 rfl (fun c_5_1 => ?_) (fun c_5_1 => ?_)
  · exact absurd hi0 c_5_1
  · refine ab_aload_n de_M_restore_8 0 rfl ?_
    refine ab_bipush (v := -6) de_M_restore_9 rfl ?_
    refine ab_cV (as := [.int (-6 : Int32)]) (st := []) (ct_M_no l _ nr h g rr (r := (-6 : Int32)) (k := 6) (by decide) (by decide)) mo_M_no mi_M_no ml_M_94 rfl (by decide) rfl rfl rfl (Nat.le_of_ble_eq_true rfl) de_M_restore_11 (fun v_ M_ hK_ hl_ hv_ => ?_)
    obtain ⟨rfl, hm_⟩ := hK_
    have hm_ := hm_.symm
    subst hm_
    change ab_G _ _ _ _ _ _ _ [(0, .ref 30)] [.int (-6 : Int32)] (ab_S nr (ab_u2 h 31 6 (h 31 6 + 1)) g rr) _
    exact ab_ret (v := some (.int (-6 : Int32))) de_M_restore_14 ⟨_, rfl⟩ ⟨rfl, rfl⟩
def md_rs (h : Nat → Nat → Int32) : Nat → Nat → Int32 := ab_u2 (ab_u2 (ab_u2 (md_al_1 (ab_u2 (ab_u2 (ab_u2 (ab_u2 (ab_u2 h 30 1 (h 30 38)) 30 0 (h 30 39)) 30 3 (h 30 40)) 30 4 (h 30 41)) 30 5 (h 30 42))) 30 31 (-1 : Int32)) 30 32 (0 : Int32)) 30 33 (-1 : Int32)
set_option maxHeartbeats 1000000 in
set_option maxRecDepth 10000 in
theorem ct_M_restore_1 (l : Launch) (d : Nat) (nr : Nat) (h : Nat → Nat → Int32) (g : Nat → Nat → Int64) (rr : Nat → Option Nat) (hi0 : ¬ h 30 38 = -1) {n : Nat} (hn : h 30 39 = nI n) : ab_C l am_M_restore (d + 2) 0 0 [.ref 30] (ab_S nr h g rr) (fun (r_ : Option Value) (M' : ab_Me) => r_ = some (.int (h 30 38)) ∧ M' = (ab_S nr (md_rv n (md_rs h) 8) g rr)) := by
  refine ab_C_of (by decide +kernel) rfl (Nat.le_of_ble_eq_true rfl) ?_
  refine ab_aload_n de_M_restore_0 0 rfl ?_
  refine ab_get (v := .int (h 30 38)) fl_M_78 rfl rfl de_M_restore_1 ?_
  refine ab_iconst (v := -1) de_M_restore_4 rfl ?_
  refine ab_icmp_ne (tgt := 15) de_M_restore_5 rfl (fun c_5_1 => ?_) (fun c_5_1 => ?_)
  · refine ab_aload_n de_M_restore_15 0 rfl ?_
    refine ab_aload_n de_M_restore_16 0 rfl ?_
    refine ab_get (v := .int (h 30 38)) fl_M_78 rfl rfl de_M_restore_17 ?_
    refine ab_putI (x := 30) (j := 1) fl_M_84 rfl (Or.inl rfl) rfl rfl rfl de_M_restore_20 ?_
    change ab_G _ _ _ _ _ _ _ _ _ (ab_S nr (ab_u2 h 30 1 (h 30 38)) g rr) _
    refine ab_aload_n de_M_restore_23 0 rfl ?_
    refine ab_aload_n de_M_restore_24 0 rfl ?_
    refine ab_get (v := .int ((ab_u2 h 30 1 (h 30 38)) 30 39)) fl_M_306 rfl rfl de_M_restore_25 ?_
    refine ab_putI (x := 30) (j := 0) fl_M_87 rfl (Or.inl rfl) rfl rfl rfl de_M_restore_28 ?_
    change ab_G _ _ _ _ _ _ _ _ _ (ab_S nr (ab_u2 (ab_u2 h 30 1 (h 30 38)) 30 0 ((ab_u2 h 30 1 (h 30 38)) 30 39)) g rr) _
    refine ab_aload_n de_M_restore_31 0 rfl ?_
    refine ab_aload_n de_M_restore_32 0 rfl ?_
    refine ab_get (v := .int ((ab_u2 (ab_u2 h 30 1 (h 30 38)) 30 0 ((ab_u2 h 30 1 (h 30 38)) 30 39)) 30 40)) fl_M_309 rfl rfl de_M_restore_33 ?_
    refine ab_putI (x := 30) (j := 3) fl_M_171 rfl (Or.inl rfl) rfl rfl rfl de_M_restore_36 ?_
    change ab_G _ _ _ _ _ _ _ _ _ (ab_S nr (ab_u2 (ab_u2 (ab_u2 h 30 1 (h 30 38)) 30 0 ((ab_u2 h 30 1 (h 30 38)) 30 39)) 30 3 ((ab_u2 (ab_u2 h 30 1 (h 30 38)) 30 0 ((ab_u2 h 30 1 (h 30 38)) 30 39)) 30 40)) g rr) _
    refine ab_aload_n de_M_restore_39 0 rfl ?_
    refine ab_aload_n de_M_restore_40 0 rfl ?_
    refine ab_get (v := .int ((ab_u2 (ab_u2 (ab_u2 h 30 1 (h 30 38)) 30 0 ((ab_u2 h 30 1 (h 30 38)) 30 39)) 30 3 ((ab_u2 (ab_u2 h 30 1 (h 30 38)) 30 0 ((ab_u2 h 30 1 (h 30 38)) 30 39)) 30 40)) 30 41)) fl_M_312 rfl rfl de_M_restore_41 ?_
    refine ab_putI (x := 30) (j := 4) fl_M_174 rfl (Or.inl rfl) rfl rfl rfl de_M_restore_44 ?_
    change ab_G _ _ _ _ _ _ _ _ _ (ab_S nr (ab_u2 (ab_u2 (ab_u2 (ab_u2 h 30 1 (h 30 38)) 30 0 ((ab_u2 h 30 1 (h 30 38)) 30 39)) 30 3 ((ab_u2 (ab_u2 h 30 1 (h 30 38)) 30 0 ((ab_u2 h 30 1 (h 30 38)) 30 39)) 30 40)) 30 4 ((ab_u2 (ab_u2 (ab_u2 h 30 1 (h 30 38)) 30 0 ((ab_u2 h 30 1 (h 30 38)) 30 39)) 30 3 ((ab_u2 (ab_u2 h 30 1 (h 30 38)) 30 0 ((ab_u2 h 30 1 (h 30 38)) 30 39)) 30 40)) 30 41)) g rr) _
    refine ab_aload_n de_M_restore_47 0 rfl ?_
    refine ab_aload_n de_M_restore_48 0 rfl ?_
    refine ab_get (v := .int ((ab_u2 (ab_u2 (ab_u2 (ab_u2 h 30 1 (h 30 38)) 30 0 ((ab_u2 h 30 1 (h 30 38)) 30 39)) 30 3 ((ab_u2 (ab_u2 h 30 1 (h 30 38)) 30 0 ((ab_u2 h 30 1 (h 30 38)) 30 39)) 30 40)) 30 4 ((ab_u2 (ab_u2 (ab_u2 h 30 1 (h 30 38)) 30 0 ((ab_u2 h 30 1 (h 30 38)) 30 39)) 30 3 ((ab_u2 (ab_u2 h 30 1 (h 30 38)) 30 0 ((ab_u2 h 30 1 (h 30 38)) 30 39)) 30 40)) 30 41)) 30 42)) fl_M_315 rfl rfl de_M_restore_49 ?_
    refine ab_putI (x := 30) (j := 5) fl_M_177 rfl (Or.inl rfl) rfl rfl rfl de_M_restore_52 ?_
    change ab_G _ _ _ _ _ _ _ _ _ (ab_S nr (ab_u2 (ab_u2 (ab_u2 (ab_u2 (ab_u2 h 30 1 (h 30 38)) 30 0 ((ab_u2 h 30 1 (h 30 38)) 30 39)) 30 3 ((ab_u2 (ab_u2 h 30 1 (h 30 38)) 30 0 ((ab_u2 h 30 1 (h 30 38)) 30 39)) 30 40)) 30 4 ((ab_u2 (ab_u2 (ab_u2 h 30 1 (h 30 38)) 30 0 ((ab_u2 h 30 1 (h 30 38)) 30 39)) 30 3 ((ab_u2 (ab_u2 h 30 1 (h 30 38)) 30 0 ((ab_u2 h 30 1 (h 30 38)) 30 39)) 30 40)) 30 41)) 30 5 ((ab_u2 (ab_u2 (ab_u2 (ab_u2 h 30 1 (h 30 38)) 30 0 ((ab_u2 h 30 1 (h 30 38)) 30 39)) 30 3 ((ab_u2 (ab_u2 h 30 1 (h 30 38)) 30 0 ((ab_u2 h 30 1 (h 30 38)) 30 39)) 30 40)) 30 4 ((ab_u2 (ab_u2 (ab_u2 h 30 1 (h 30 38)) 30 0 ((ab_u2 h 30 1 (h 30 38)) 30 39)) 30 3 ((ab_u2 (ab_u2 h 30 1 (h 30 38)) 30 0 ((ab_u2 h 30 1 (h 30 38)) 30 39)) 30 40)) 30 41)) 30 42)) g rr) _
    refine ab_aload_n de_M_restore_55 0 rfl ?_
    refine ab_iconst (v := 1) de_M_restore_56 rfl ?_
    refine ab_cV (as := [.int (1 : Int32)]) (st := []) (ct_M_all_1 l _ nr (ab_u2 (ab_u2 (ab_u2 (ab_u2 (ab_u2 h 30 1 (h 30 38)) 30 0 ((ab_u2 h 30 1 (h 30 38)) 30 39)) 30 3 ((ab_u2 (ab_u2 h 30 1 (h 30 38)) 30 0 ((ab_u2 h 30 1 (h 30 38)) 30 39)) 30 40)) 30 4 ((ab_u2 (ab_u2 (ab_u2 h 30 1 (h 30 38)) 30 0 ((ab_u2 h 30 1 (h 30 38)) 30 39)) 30 3 ((ab_u2 (ab_u2 h 30 1 (h 30 38)) 30 0 ((ab_u2 h 30 1 (h 30 38)) 30 39)) 30 40)) 30 41)) 30 5 ((ab_u2 (ab_u2 (ab_u2 (ab_u2 h 30 1 (h 30 38)) 30 0 ((ab_u2 h 30 1 (h 30 38)) 30 39)) 30 3 ((ab_u2 (ab_u2 h 30 1 (h 30 38)) 30 0 ((ab_u2 h 30 1 (h 30 38)) 30 39)) 30 40)) 30 4 ((ab_u2 (ab_u2 (ab_u2 h 30 1 (h 30 38)) 30 0 ((ab_u2 h 30 1 (h 30 38)) 30 39)) 30 3 ((ab_u2 (ab_u2 h 30 1 (h 30 38)) 30 0 ((ab_u2 h 30 1 (h 30 38)) 30 39)) 30 40)) 30 41)) 30 42)) g rr) mo_M_all mi_M_all ml_M_318 rfl (by decide) rfl rfl rfl (Nat.le_of_ble_eq_true rfl) de_M_restore_57 (fun v_ M_ hK_ hl_ hv_ => ?_)
    obtain ⟨rfl, hm_⟩ := hK_
    have hm_ := hm_.symm
    subst hm_
    change ab_G _ _ _ _ _ _ _ [(0, .ref 30)] [] (ab_S nr (md_al_1 (ab_u2 (ab_u2 (ab_u2 (ab_u2 (ab_u2 h 30 1 (h 30 38)) 30 0 ((ab_u2 h 30 1 (h 30 38)) 30 39)) 30 3 ((ab_u2 (ab_u2 h 30 1 (h 30 38)) 30 0 ((ab_u2 h 30 1 (h 30 38)) 30 39)) 30 40)) 30 4 ((ab_u2 (ab_u2 (ab_u2 h 30 1 (h 30 38)) 30 0 ((ab_u2 h 30 1 (h 30 38)) 30 39)) 30 3 ((ab_u2 (ab_u2 h 30 1 (h 30 38)) 30 0 ((ab_u2 h 30 1 (h 30 38)) 30 39)) 30 40)) 30 41)) 30 5 ((ab_u2 (ab_u2 (ab_u2 (ab_u2 h 30 1 (h 30 38)) 30 0 ((ab_u2 h 30 1 (h 30 38)) 30 39)) 30 3 ((ab_u2 (ab_u2 h 30 1 (h 30 38)) 30 0 ((ab_u2 h 30 1 (h 30 38)) 30 39)) 30 40)) 30 4 ((ab_u2 (ab_u2 (ab_u2 h 30 1 (h 30 38)) 30 0 ((ab_u2 h 30 1 (h 30 38)) 30 39)) 30 3 ((ab_u2 (ab_u2 h 30 1 (h 30 38)) 30 0 ((ab_u2 h 30 1 (h 30 38)) 30 39)) 30 40)) 30 41)) 30 42))) g rr) _
    refine ab_aload_n de_M_restore_60 0 rfl ?_
    refine ab_cV (as := []) (st := []) (ct_M_forgets l _ nr (md_al_1 (ab_u2 (ab_u2 (ab_u2 (ab_u2 (ab_u2 h 30 1 (h 30 38)) 30 0 ((ab_u2 h 30 1 (h 30 38)) 30 39)) 30 3 ((ab_u2 (ab_u2 h 30 1 (h 30 38)) 30 0 ((ab_u2 h 30 1 (h 30 38)) 30 39)) 30 40)) 30 4 ((ab_u2 (ab_u2 (ab_u2 h 30 1 (h 30 38)) 30 0 ((ab_u2 h 30 1 (h 30 38)) 30 39)) 30 3 ((ab_u2 (ab_u2 h 30 1 (h 30 38)) 30 0 ((ab_u2 h 30 1 (h 30 38)) 30 39)) 30 40)) 30 41)) 30 5 ((ab_u2 (ab_u2 (ab_u2 (ab_u2 h 30 1 (h 30 38)) 30 0 ((ab_u2 h 30 1 (h 30 38)) 30 39)) 30 3 ((ab_u2 (ab_u2 h 30 1 (h 30 38)) 30 0 ((ab_u2 h 30 1 (h 30 38)) 30 39)) 30 40)) 30 4 ((ab_u2 (ab_u2 (ab_u2 h 30 1 (h 30 38)) 30 0 ((ab_u2 h 30 1 (h 30 38)) 30 39)) 30 3 ((ab_u2 (ab_u2 h 30 1 (h 30 38)) 30 0 ((ab_u2 h 30 1 (h 30 38)) 30 39)) 30 40)) 30 41)) 30 42))) g rr) mo_M_forgets mi_M_forgets ml_M_122 rfl (by decide) rfl rfl rfl (Nat.le_of_ble_eq_true rfl) de_M_restore_61 (fun v_ M_ hK_ hl_ hv_ => ?_)
    obtain ⟨rfl, hm_⟩ := hK_
    have hm_ := hm_.symm
    subst hm_
    change ab_G _ _ _ _ _ _ _ [(0, .ref 30)] [] (ab_S nr (ab_u2 (ab_u2 (ab_u2 (md_al_1 (ab_u2 (ab_u2 (ab_u2 (ab_u2 (ab_u2 h 30 1 (h 30 38)) 30 0 ((ab_u2 h 30 1 (h 30 38)) 30 39)) 30 3 ((ab_u2 (ab_u2 h 30 1 (h 30 38)) 30 0 ((ab_u2 h 30 1 (h 30 38)) 30 39)) 30 40)) 30 4 ((ab_u2 (ab_u2 (ab_u2 h 30 1 (h 30 38)) 30 0 ((ab_u2 h 30 1 (h 30 38)) 30 39)) 30 3 ((ab_u2 (ab_u2 h 30 1 (h 30 38)) 30 0 ((ab_u2 h 30 1 (h 30 38)) 30 39)) 30 40)) 30 41)) 30 5 ((ab_u2 (ab_u2 (ab_u2 (ab_u2 h 30 1 (h 30 38)) 30 0 ((ab_u2 h 30 1 (h 30 38)) 30 39)) 30 3 ((ab_u2 (ab_u2 h 30 1 (h 30 38)) 30 0 ((ab_u2 h 30 1 (h 30 38)) 30 39)) 30 40)) 30 4 ((ab_u2 (ab_u2 (ab_u2 h 30 1 (h 30 38)) 30 0 ((ab_u2 h 30 1 (h 30 38)) 30 39)) 30 3 ((ab_u2 (ab_u2 h 30 1 (h 30 38)) 30 0 ((ab_u2 h 30 1 (h 30 38)) 30 39)) 30 40)) 30 41)) 30 42))) 30 31 (-1 : Int32)) 30 32 (0 : Int32)) 30 33 (-1 : Int32)) g rr) _
    refine ab_iconst (v := 0) de_M_restore_64 rfl ?_
    refine ab_istore_n (L' := [(1, .int (0 : Int32)), (0, .ref 30)]) de_M_restore_65 (by decide) rfl ?_
    refine ab_sub (L' := [(0, .ref 30), (1, .int (nI 0))]) [1, 0] rfl ?_
    have z_ := lp_M_restore l d nr (md_rs h) g rr (n := n) (by rw [show md_rs h 30 0 = h 30 39 from rfl, hn]) 9 0 (by omega) (by omega)
    rw [md_rv_0] at z_
    exact z_
  · exact absurd c_5_1 hi0
