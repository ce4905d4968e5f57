/-! the reference: what an image keeps -/
def md_cp (h : Nat → Nat → Int32) (s d o1 o2 k : Nat) : Nat → Nat → Int32 := fun a b => if a = d ∧ o2 ≤ b ∧ b < o2 + k then h s (o1 + (b - o2)) else h a b
theorem md_cp_0 (h : Nat → Nat → Int32) (s d o1 o2 : Nat) : md_cp h s d o1 o2 0 = h := by
  funext a b
  exact if_neg (fun z => by omega)
theorem md_cp_s {h : Nat → Nat → Int32} {s d o1 o2 k : Nat} (hsd : s ≠ d) : ab_u2 (md_cp h s d o1 o2 k) d (o2 + k) (md_cp h s d o1 o2 k s (o1 + k)) = md_cp h s d o1 o2 (k + 1) := by
  have e0 : md_cp h s d o1 o2 k s (o1 + k) = h s (o1 + k) := if_neg (fun z => hsd z.1)
  rw [e0]
  funext a b
  unfold ab_u2 md_cp
  by_cases e : a = d ∧ b = o2 + k
  · rw [if_pos e, if_pos ⟨e.1, by omega, by omega⟩, e.2, Nat.add_sub_cancel_left]
  · rw [if_neg e]
    by_cases w : a = d ∧ o2 ≤ b ∧ b < o2 + k
    · rw [if_pos w, if_pos ⟨w.1, by omega, by omega⟩]
    · rw [if_neg w, if_neg (fun z => by
        rcases Nat.lt_or_ge b (o2 + k) with v | v
        · exact w ⟨z.1, z.2.1, v⟩
        · exact e ⟨z.1, by omega⟩)]
set_option maxHeartbeats 1000000 in
set_option maxRecDepth 10000 in
theorem lp_M_keeps_32_0 (l : Launch) (d : Nat) (nr : Nat) (h : Nat → Nat → Int32) (g : Nat → Nat → Int64) (rr : Nat → Option Nat)  : ∀ (fu_ k : Nat), k ≤ 36 → 36 < k + fu_ → ab_G l none am_M_keeps (d) 0 0 3 [(0, .ref 30), (1, .ref 32), (2, .int (36 : Int32)), (3, .int (0 : Int32)), (4, .int (0 : Int32)), (5, .int (nI k))] [] (ab_S nr (md_cp h 32 50 0 0 k) g rr) (fun (r_ : Option Value) (M' : ab_Me) => r_ = some (.int (nI 36)) ∧ M' = (ab_S nr (md_cp h 32 50 0 0 36) g rr)) := by
  intro fu_
  induction fu_ with
  | zero => intro k  h1 h2; omega
  | succ fu_ ih =>
    intro k  hN_ hn_ 
    refine ab_iload de_M_keeps_3 5 rfl ?_
    refine ab_iload_n de_M_keeps_5 2 rfl ?_
    refine ab_icmp_ge (tgt := 49) de_M_keeps_6 rfl (fun c_6_1 => ?_) (fun c_6_1 => ?_)
    · have hk := ab_le_of (n := 36) (by decide) (by omega) rfl c_6_1
      refine ab_iload_n de_M_keeps_49 3 rfl ?_
      refine ab_iload_n de_M_keeps_50 2 rfl ?_
      refine ab_iadd de_M_keeps_51 ?_
      refine ab_top (v' := nI (0 + 36)) (ab_add _ _) ?_
      exact ab_ret (v := some (.int (nI (0 + 36)))) de_M_keeps_52 ⟨_, rfl⟩ ⟨rfl, by rw [show k = 36 by omega]⟩
    · have hk := ab_nle_of (n := 36) (by decide) (by omega) rfl c_6_1
      refine ab_iload de_M_keeps_9 4 rfl ?_
      refine ab_if_eq (tgt := 30) de_M_keeps_11 rfl (fun c_11_2 => ?_) (fun c_11_2 => ?_)
      · refine ab_aload_n de_M_keeps_30 0 rfl ?_
        refine ab_get (v := .ref 50) fl_M_81 rfl rfl de_M_keeps_31 ?_
        refine ab_iload_n de_M_keeps_34 3 rfl ?_
        refine ab_iload de_M_keeps_35 5 rfl ?_
        refine ab_iadd de_M_keeps_37 ?_
        refine ab_top (v' := nI (0 + k)) (ab_add _ _) ?_
        refine ab_aload_n de_M_keeps_38 1 rfl ?_
        refine ab_iload de_M_keeps_39 5 rfl ?_
        refine ab_iald (v := (md_cp h 32 50 0 0 k) 32 k) rfl (ab_in (by omega) (by decide)) (ab_hv (ab_tn (n := k) (by omega))) de_M_keeps_41 ?_
        refine ab_iast (x := 50) rfl (ab_in (by omega) (by decide)) de_M_keeps_42 ?_
        rw [(ab_tn (n := (0 + k)) (by omega))]
        change ab_G _ _ _ _ _ _ _ _ _ (ab_S nr (ab_u2 (md_cp h 32 50 0 0 k) 50 (0 + k) ((md_cp h 32 50 0 0 k) 32 k)) g rr) _
        refine ab_hm (h' := md_cp h 32 50 0 0 (k + 1)) ((by have z_ := md_cp_s (h := h) (s := 32) (d := 50) (o1 := 0) (o2 := 0) (k := k) (by decide); simp only [Nat.zero_add] at z_ ⊢; exact z_)) ?_
        refine ab_iinc (v := nI (k + 1)) (L' := [(5, .int (nI (k + 1))), (0, .ref 30), (1, .ref 32), (2, .int (36 : Int32)), (3, .int (0 : Int32)), (4, .int (0 : Int32))]) de_M_keeps_43 5 rfl (by rw [show Int32.ofInt 1 = nI 1 from rfl, ab_add]) (by decide) rfl ?_
        refine ab_goto (tgt := 3) de_M_keeps_46 rfl ?_
        refine ab_sub (L' := [(0, .ref 30), (1, .ref 32), (2, .int (36 : Int32)), (3, .int (0 : Int32)), (4, .int (0 : Int32)), (5, .int (nI (k + 1)))]) [1, 2, 3, 4, 5, 0] rfl ?_
        exact ih (k + 1)  (by omega) (by omega) 
      · exact absurd rfl c_11_2
set_option maxHeartbeats 1000000 in
set_option maxRecDepth 10000 in
theorem ct_M_keeps_32_0 (l : Launch) (d : Nat) (nr : Nat) (h : Nat → Nat → Int32) (g : Nat → Nat → Int64) (rr : Nat → Option Nat)  : ab_C l am_M_keeps d 0 0 [.ref 30, .ref 32, .int (36 : Int32), .int (0 : Int32), .int (0 : Int32)] (ab_S nr h g rr) (fun (r_ : Option Value) (M' : ab_Me) => r_ = some (.int (nI 36)) ∧ M' = (ab_S nr (md_cp h 32 50 0 0 36) g rr)) := by
  refine ab_C_of (by decide +kernel) rfl (Nat.le_of_ble_eq_true rfl) ?_
  refine ab_iconst (v := 0) de_M_keeps_0 rfl ?_
  refine ab_istore (L' := [(5, .int (0 : Int32)), (0, .ref 30), (1, .ref 32), (2, .int (36 : Int32)), (3, .int (0 : Int32)), (4, .int (0 : Int32))]) de_M_keeps_1 (by decide) rfl ?_
  refine ab_sub (L' := [(0, .ref 30), (1, .ref 32), (2, .int (36 : Int32)), (3, .int (0 : Int32)), (4, .int (0 : Int32)), (5, .int (nI 0))]) [1, 2, 3, 4, 5, 0] rfl ?_
  have z_ := lp_M_keeps_32_0 l d nr h g rr 37 0 (by omega) (by omega)
  rw [md_cp_0] at z_
  exact z_
set_option maxHeartbeats 1000000 in
set_option maxRecDepth 10000 in
theorem lp_M_keeps_33_0 (l : Launch) (d : Nat) (nr : Nat) (h : Nat → Nat → Int32) (g : Nat → Nat → Int64) (rr : Nat → Option Nat)  : ∀ (fu_ k : Nat), k ≤ 8 → 8 < k + fu_ → ab_G l none am_M_keeps (d) 0 0 3 [(0, .ref 30), (1, .ref 33), (2, .int (8 : Int32)), (3, .int (36 : Int32)), (4, .int (0 : Int32)), (5, .int (nI k))] [] (ab_S nr (md_cp h 33 50 0 36 k) g rr) (fun (r_ : Option Value) (M' : ab_Me) => r_ = some (.int (nI 44)) ∧ M' = (ab_S nr (md_cp h 33 50 0 36 8) g rr)) := by
  intro fu_
  induction fu_ with
  | zero => intro k  h1 h2; omega
  | succ fu_ ih =>
    intro k  hN_ hn_ 
    refine ab_iload de_M_keeps_3 5 rfl ?_
    refine ab_iload_n de_M_keeps_5 2 rfl ?_
    refine ab_icmp_ge (tgt := 49) de_M_keeps_6 rfl (fun c_6_1 => ?_) (fun c_6_1 => ?_)
    · have hk := ab_le_of (n := 8) (by decide) (by omega) rfl c_6_1
      refine ab_iload_n de_M_keeps_49 3 rfl ?_
      refine ab_iload_n de_M_keeps_50 2 rfl ?_
      refine ab_iadd de_M_keeps_51 ?_
      refine ab_top (v' := nI (36 + 8)) (ab_add _ _) ?_
      exact ab_ret (v := some (.int (nI (36 + 8)))) de_M_keeps_52 ⟨_, rfl⟩ ⟨rfl, by rw [show k = 8 by omega]⟩
    · have hk := ab_nle_of (n := 8) (by decide) (by omega) rfl c_6_1
      refine ab_iload de_M_keeps_9 4 rfl ?_
      refine ab_if_eq (tgt := 30) de_M_keeps_11 rfl (fun c_11_2 => ?_) (fun c_11_2 => ?_)
      · refine ab_aload_n de_M_keeps_30 0 rfl ?_
        refine ab_get (v := .ref 50) fl_M_81 rfl rfl de_M_keeps_31 ?_
        refine ab_iload_n de_M_keeps_34 3 rfl ?_
        refine ab_iload de_M_keeps_35 5 rfl ?_
        refine ab_iadd de_M_keeps_37 ?_
        refine ab_top (v' := nI (36 + k)) (ab_add _ _) ?_
        refine ab_aload_n de_M_keeps_38 1 rfl ?_
        refine ab_iload de_M_keeps_39 5 rfl ?_
        refine ab_iald (v := (md_cp h 33 50 0 36 k) 33 k) rfl (ab_in (by omega) (by decide)) (ab_hv (ab_tn (n := k) (by omega))) de_M_keeps_41 ?_
        refine ab_iast (x := 50) rfl (ab_in (by omega) (by decide)) de_M_keeps_42 ?_
        rw [(ab_tn (n := (36 + k)) (by omega))]
        change ab_G _ _ _ _ _ _ _ _ _ (ab_S nr (ab_u2 (md_cp h 33 50 0 36 k) 50 (36 + k) ((md_cp h 33 50 0 36 k) 33 k)) g rr) _
        refine ab_hm (h' := md_cp h 33 50 0 36 (k + 1)) ((by have z_ := md_cp_s (h := h) (s := 33) (d := 50) (o1 := 0) (o2 := 36) (k := k) (by decide); simp only [Nat.zero_add] at z_ ⊢; exact z_)) ?_
        refine ab_iinc (v := nI (k + 1)) (L' := [(5, .int (nI (k + 1))), (0, .ref 30), (1, .ref 33), (2, .int (8 : Int32)), (3, .int (36 : Int32)), (4, .int (0 : Int32))]) de_M_keeps_43 5 rfl (by rw [show Int32.ofInt 1 = nI 1 from rfl, ab_add]) (by decide) rfl ?_
        refine ab_goto (tgt := 3) de_M_keeps_46 rfl ?_
        refine ab_sub (L' := [(0, .ref 30), (1, .ref 33), (2, .int (8 : Int32)), (3, .int (36 : Int32)), (4, .int (0 : Int32)), (5, .int (nI (k + 1)))]) [1, 2, 3, 4, 5, 0] rfl ?_
        exact ih (k + 1)  (by omega) (by omega) 
      · exact absurd rfl c_11_2
set_option maxHeartbeats 1000000 in
set_option maxRecDepth 10000 in
theorem ct_M_keeps_33_0 (l : Launch) (d : Nat) (nr : Nat) (h : Nat → Nat → Int32) (g : Nat → Nat → Int64) (rr : Nat → Option Nat)  : ab_C l am_M_keeps d 0 0 [.ref 30, .ref 33, .int (8 : Int32), .int (36 : Int32), .int (0 : Int32)] (ab_S nr h g rr) (fun (r_ : Option Value) (M' : ab_Me) => r_ = some (.int (nI 44)) ∧ M' = (ab_S nr (md_cp h 33 50 0 36 8) g rr)) := by
  refine ab_C_of (by decide +kernel) rfl (Nat.le_of_ble_eq_true rfl) ?_
  refine ab_iconst (v := 0) de_M_keeps_0 rfl ?_
  refine ab_istore (L' := [(5, .int (0 : Int32)), (0, .ref 30), (1, .ref 33), (2, .int (8 : Int32)), (3, .int (36 : Int32)), (4, .int (0 : Int32))]) de_M_keeps_1 (by decide) rfl ?_
  refine ab_sub (L' := [(0, .ref 30), (1, .ref 33), (2, .int (8 : Int32)), (3, .int (36 : Int32)), (4, .int (0 : Int32)), (5, .int (nI 0))]) [1, 2, 3, 4, 5, 0] rfl ?_
  have z_ := lp_M_keeps_33_0 l d nr h g rr 9 0 (by omega) (by omega)
  rw [md_cp_0] at z_
  exact z_
set_option maxHeartbeats 1000000 in
set_option maxRecDepth 10000 in
theorem lp_M_keeps_34_0 (l : Launch) (d : Nat) (nr : Nat) (h : Nat → Nat → Int32) (g : Nat → Nat → Int64) (rr : Nat → Option Nat)  : ∀ (fu_ k : Nat), k ≤ 72 → 72 < k + fu_ → ab_G l none am_M_keeps (d) 0 0 3 [(0, .ref 30), (1, .ref 34), (2, .int (72 : Int32)), (3, .int (44 : Int32)), (4, .int (0 : Int32)), (5, .int (nI k))] [] (ab_S nr (md_cp h 34 50 0 44 k) g rr) (fun (r_ : Option Value) (M' : ab_Me) => r_ = some (.int (nI 116)) ∧ M' = (ab_S nr (md_cp h 34 50 0 44 72) g rr)) := by
  intro fu_
  induction fu_ with
  | zero => intro k  h1 h2; omega
  | succ fu_ ih =>
    intro k  hN_ hn_ 
    refine ab_iload de_M_keeps_3 5 rfl ?_
    refine ab_iload_n de_M_keeps_5 2 rfl ?_
    refine ab_icmp_ge (tgt := 49) de_M_keeps_6 rfl (fun c_6_1 => ?_) (fun c_6_1 => ?_)
    · have hk := ab_le_of (n := 72) (by decide) (by omega) rfl c_6_1
      refine ab_iload_n de_M_keeps_49 3 rfl ?_
      refine ab_iload_n de_M_keeps_50 2 rfl ?_
      refine ab_iadd de_M_keeps_51 ?_
      refine ab_top (v' := nI (44 + 72)) (ab_add _ _) ?_
      exact ab_ret (v := some (.int (nI (44 + 72)))) de_M_keeps_52 ⟨_, rfl⟩ ⟨rfl, by rw [show k = 72 by omega]⟩
    · have hk := ab_nle_of (n := 72) (by decide) (by omega) rfl c_6_1
      refine ab_iload de_M_keeps_9 4 rfl ?_
      refine ab_if_eq (tgt := 30) de_M_keeps_11 rfl (fun c_11_2 => ?_) (fun c_11_2 => ?_)
      · refine ab_aload_n de_M_keeps_30 0 rfl ?_
        refine ab_get (v := .ref 50) fl_M_81 rfl rfl de_M_keeps_31 ?_
        refine ab_iload_n de_M_keeps_34 3 rfl ?_
        refine ab_iload de_M_keeps_35 5 rfl ?_
        refine ab_iadd de_M_keeps_37 ?_
        refine ab_top (v' := nI (44 + k)) (ab_add _ _) ?_
        refine ab_aload_n de_M_keeps_38 1 rfl ?_
        refine ab_iload de_M_keeps_39 5 rfl ?_
        refine ab_iald (v := (md_cp h 34 50 0 44 k) 34 k) rfl (ab_in (by omega) (by decide)) (ab_hv (ab_tn (n := k) (by omega))) de_M_keeps_41 ?_
        refine ab_iast (x := 50) rfl (ab_in (by omega) (by decide)) de_M_keeps_42 ?_
        rw [(ab_tn (n := (44 + k)) (by omega))]
        change ab_G _ _ _ _ _ _ _ _ _ (ab_S nr (ab_u2 (md_cp h 34 50 0 44 k) 50 (44 + k) ((md_cp h 34 50 0 44 k) 34 k)) g rr) _
        refine ab_hm (h' := md_cp h 34 50 0 44 (k + 1)) ((by have z_ := md_cp_s (h := h) (s := 34) (d := 50) (o1 := 0) (o2 := 44) (k := k) (by decide); simp only [Nat.zero_add] at z_ ⊢; exact z_)) ?_
        refine ab_iinc (v := nI (k + 1)) (L' := [(5, .int (nI (k + 1))), (0, .ref 30), (1, .ref 34), (2, .int (72 : Int32)), (3, .int (44 : Int32)), (4, .int (0 : Int32))]) de_M_keeps_43 5 rfl (by rw [show Int32.ofInt 1 = nI 1 from rfl, ab_add]) (by decide) rfl ?_
        refine ab_goto (tgt := 3) de_M_keeps_46 rfl ?_
        refine ab_sub (L' := [(0, .ref 30), (1, .ref 34), (2, .int (72 : Int32)), (3, .int (44 : Int32)), (4, .int (0 : Int32)), (5, .int (nI (k + 1)))]) [1, 2, 3, 4, 5, 0] rfl ?_
        exact ih (k + 1)  (by omega) (by omega) 
      · exact absurd rfl c_11_2
set_option maxHeartbeats 1000000 in
set_option maxRecDepth 10000 in
theorem ct_M_keeps_34_0 (l : Launch) (d : Nat) (nr : Nat) (h : Nat → Nat → Int32) (g : Nat → Nat → Int64) (rr : Nat → Option Nat)  : ab_C l am_M_keeps d 0 0 [.ref 30, .ref 34, .int (72 : Int32), .int (44 : Int32), .int (0 : Int32)] (ab_S nr h g rr) (fun (r_ : Option Value) (M' : ab_Me) => r_ = some (.int (nI 116)) ∧ M' = (ab_S nr (md_cp h 34 50 0 44 72) g rr)) := by
  refine ab_C_of (by decide +kernel) rfl (Nat.le_of_ble_eq_true rfl) ?_
  refine ab_iconst (v := 0) de_M_keeps_0 rfl ?_
  refine ab_istore (L' := [(5, .int (0 : Int32)), (0, .ref 30), (1, .ref 34), (2, .int (72 : Int32)), (3, .int (44 : Int32)), (4, .int (0 : Int32))]) de_M_keeps_1 (by decide) rfl ?_
  refine ab_sub (L' := [(0, .ref 30), (1, .ref 34), (2, .int (72 : Int32)), (3, .int (44 : Int32)), (4, .int (0 : Int32)), (5, .int (nI 0))]) [1, 2, 3, 4, 5, 0] rfl ?_
  have z_ := lp_M_keeps_34_0 l d nr h g rr 73 0 (by omega) (by omega)
  rw [md_cp_0] at z_
  exact z_
set_option maxHeartbeats 1000000 in
set_option maxRecDepth 10000 in
theorem lp_M_keeps_35_0 (l : Launch) (d : Nat) (nr : Nat) (h : Nat → Nat → Int32) (g : Nat → Nat → Int64) (rr : Nat → Option Nat)  : ∀ (fu_ k : Nat), k ≤ 120 → 120 < k + fu_ → ab_G l none am_M_keeps (d) 0 0 3 [(0, .ref 30), (1, .ref 35), (2, .int (120 : Int32)), (3, .int (116 : Int32)), (4, .int (0 : Int32)), (5, .int (nI k))] [] (ab_S nr (md_cp h 35 50 0 116 k) g rr) (fun (r_ : Option Value) (M' : ab_Me) => r_ = some (.int (nI 236)) ∧ M' = (ab_S nr (md_cp h 35 50 0 116 120) g rr)) := by
  intro fu_
  induction fu_ with
  | zero => intro k  h1 h2; omega
  | succ fu_ ih =>
    intro k  hN_ hn_ 
    refine ab_iload de_M_keeps_3 5 rfl ?_
    refine ab_iload_n de_M_keeps_5 2 rfl ?_
    refine ab_icmp_ge (tgt := 49) de_M_keeps_6 rfl (fun c_6_1 => ?_) (fun c_6_1 => ?_)
    · have hk := ab_le_of (n := 120) (by decide) (by omega) rfl c_6_1
      refine ab_iload_n de_M_keeps_49 3 rfl ?_
      refine ab_iload_n de_M_keeps_50 2 rfl ?_
      refine ab_iadd de_M_keeps_51 ?_
      refine ab_top (v' := nI (116 + 120)) (ab_add _ _) ?_
      exact ab_ret (v := some (.int (nI (116 + 120)))) de_M_keeps_52 ⟨_, rfl⟩ ⟨rfl, by rw [show k = 120 by omega]⟩
    · have hk := ab_nle_of (n := 120) (by decide) (by omega) rfl c_6_1
      refine ab_iload de_M_keeps_9 4 rfl ?_
      refine ab_if_eq (tgt := 30) de_M_keeps_11 rfl (fun c_11_2 => ?_) (fun c_11_2 => ?_)
      · refine ab_aload_n de_M_keeps_30 0 rfl ?_
        refine ab_get (v := .ref 50) fl_M_81 rfl rfl de_M_keeps_31 ?_
        refine ab_iload_n de_M_keeps_34 3 rfl ?_
        refine ab_iload de_M_keeps_35 5 rfl ?_
        refine ab_iadd de_M_keeps_37 ?_
        refine ab_top (v' := nI (116 + k)) (ab_add _ _) ?_
        refine ab_aload_n de_M_keeps_38 1 rfl ?_
        refine ab_iload de_M_keeps_39 5 rfl ?_
        refine ab_iald (v := (md_cp h 35 50 0 116 k) 35 k) rfl (ab_in (by omega) (by decide)) (ab_hv (ab_tn (n := k) (by omega))) de_M_keeps_41 ?_
        refine ab_iast (x := 50) rfl (ab_in (by omega) (by decide)) de_M_keeps_42 ?_
        rw [(ab_tn (n := (116 + k)) (by omega))]
        change ab_G _ _ _ _ _ _ _ _ _ (ab_S nr (ab_u2 (md_cp h 35 50 0 116 k) 50 (116 + k) ((md_cp h 35 50 0 116 k) 35 k)) g rr) _
        refine ab_hm (h' := md_cp h 35 50 0 116 (k + 1)) ((by have z_ := md_cp_s (h := h) (s := 35) (d := 50) (o1 := 0) (o2 := 116) (k := k) (by decide); simp only [Nat.zero_add] at z_ ⊢; exact z_)) ?_
        refine ab_iinc (v := nI (k + 1)) (L' := [(5, .int (nI (k + 1))), (0, .ref 30), (1, .ref 35), (2, .int (120 : Int32)), (3, .int (116 : Int32)), (4, .int (0 : Int32))]) de_M_keeps_43 5 rfl (by rw [show Int32.ofInt 1 = nI 1 from rfl, ab_add]) (by decide) rfl ?_
        refine ab_goto (tgt := 3) de_M_keeps_46 rfl ?_
        refine ab_sub (L' := [(0, .ref 30), (1, .ref 35), (2, .int (120 : Int32)), (3, .int (116 : Int32)), (4, .int (0 : Int32)), (5, .int (nI (k + 1)))]) [1, 2, 3, 4, 5, 0] rfl ?_
        exact ih (k + 1)  (by omega) (by omega) 
      · exact absurd rfl c_11_2
set_option maxHeartbeats 1000000 in
set_option maxRecDepth 10000 in
theorem ct_M_keeps_35_0 (l : Launch) (d : Nat) (nr : Nat) (h : Nat → Nat → Int32) (g : Nat → Nat → Int64) (rr : Nat → Option Nat)  : ab_C l am_M_keeps d 0 0 [.ref 30, .ref 35, .int (120 : Int32), .int (116 : Int32), .int (0 : Int32)] (ab_S nr h g rr) (fun (r_ : Option Value) (M' : ab_Me) => r_ = some (.int (nI 236)) ∧ M' = (ab_S nr (md_cp h 35 50 0 116 120) g rr)) := by
  refine ab_C_of (by decide +kernel) rfl (Nat.le_of_ble_eq_true rfl) ?_
  refine ab_iconst (v := 0) de_M_keeps_0 rfl ?_
  refine ab_istore (L' := [(5, .int (0 : Int32)), (0, .ref 30), (1, .ref 35), (2, .int (120 : Int32)), (3, .int (116 : Int32)), (4, .int (0 : Int32))]) de_M_keeps_1 (by decide) rfl ?_
  refine ab_sub (L' := [(0, .ref 30), (1, .ref 35), (2, .int (120 : Int32)), (3, .int (116 : Int32)), (4, .int (0 : Int32)), (5, .int (nI 0))]) [1, 2, 3, 4, 5, 0] rfl ?_
  have z_ := lp_M_keeps_35_0 l d nr h g rr 121 0 (by omega) (by omega)
  rw [md_cp_0] at z_
  exact z_
set_option maxHeartbeats 1000000 in
set_option maxRecDepth 10000 in
theorem lp_M_keeps_36_0 (l : Launch) (d : Nat) (nr : Nat) (h : Nat → Nat → Int32) (g : Nat → Nat → Int64) (rr : Nat → Option Nat)  : ∀ (fu_ k : Nat), k ≤ 6 → 6 < k + fu_ → ab_G l none am_M_keeps (d) 0 0 3 [(0, .ref 30), (1, .ref 36), (2, .int (6 : Int32)), (3, .int (236 : Int32)), (4, .int (0 : Int32)), (5, .int (nI k))] [] (ab_S nr (md_cp h 36 50 0 236 k) g rr) (fun (r_ : Option Value) (M' : ab_Me) => r_ = some (.int (nI 242)) ∧ M' = (ab_S nr (md_cp h 36 50 0 236 6) g rr)) := by
  intro fu_
  induction fu_ with
  | zero => intro k  h1 h2; omega
  | succ fu_ ih =>
    intro k  hN_ hn_ 
    refine ab_iload de_M_keeps_3 5 rfl ?_
    refine ab_iload_n de_M_keeps_5 2 rfl ?_
    refine ab_icmp_ge (tgt := 49) de_M_keeps_6 rfl (fun c_6_1 => ?_) (fun c_6_1 => ?_)
    · have hk := ab_le_of (n := 6) (by decide) (by omega) rfl c_6_1
      refine ab_iload_n de_M_keeps_49 3 rfl ?_
      refine ab_iload_n de_M_keeps_50 2 rfl ?_
      refine ab_iadd de_M_keeps_51 ?_
      refine ab_top (v' := nI (236 + 6)) (ab_add _ _) ?_
      exact ab_ret (v := some (.int (nI (236 + 6)))) de_M_keeps_52 ⟨_, rfl⟩ ⟨rfl, by rw [show k = 6 by omega]⟩
    · have hk := ab_nle_of (n := 6) (by decide) (by omega) rfl c_6_1
      refine ab_iload de_M_keeps_9 4 rfl ?_
      refine ab_if_eq (tgt := 30) de_M_keeps_11 rfl (fun c_11_2 => ?_) (fun c_11_2 => ?_)
      · refine ab_aload_n de_M_keeps_30 0 rfl ?_
        refine ab_get (v := .ref 50) fl_M_81 rfl rfl de_M_keeps_31 ?_
        refine ab_iload_n de_M_keeps_34 3 rfl ?_
        refine ab_iload de_M_keeps_35 5 rfl ?_
        refine ab_iadd de_M_keeps_37 ?_
        refine ab_top (v' := nI (236 + k)) (ab_add _ _) ?_
        refine ab_aload_n de_M_keeps_38 1 rfl ?_
        refine ab_iload de_M_keeps_39 5 rfl ?_
        refine ab_iald (v := (md_cp h 36 50 0 236 k) 36 k) rfl (ab_in (by omega) (by decide)) (ab_hv (ab_tn (n := k) (by omega))) de_M_keeps_41 ?_
        refine ab_iast (x := 50) rfl (ab_in (by omega) (by decide)) de_M_keeps_42 ?_
        rw [(ab_tn (n := (236 + k)) (by omega))]
        change ab_G _ _ _ _ _ _ _ _ _ (ab_S nr (ab_u2 (md_cp h 36 50 0 236 k) 50 (236 + k) ((md_cp h 36 50 0 236 k) 36 k)) g rr) _
        refine ab_hm (h' := md_cp h 36 50 0 236 (k + 1)) ((by have z_ := md_cp_s (h := h) (s := 36) (d := 50) (o1 := 0) (o2 := 236) (k := k) (by decide); simp only [Nat.zero_add] at z_ ⊢; exact z_)) ?_
        refine ab_iinc (v := nI (k + 1)) (L' := [(5, .int (nI (k + 1))), (0, .ref 30), (1, .ref 36), (2, .int (6 : Int32)), (3, .int (236 : Int32)), (4, .int (0 : Int32))]) de_M_keeps_43 5 rfl (by rw [show Int32.ofInt 1 = nI 1 from rfl, ab_add]) (by decide) rfl ?_
        refine ab_goto (tgt := 3) de_M_keeps_46 rfl ?_
        refine ab_sub (L' := [(0, .ref 30), (1, .ref 36), (2, .int (6 : Int32)), (3, .int (236 : Int32)), (4, .int (0 : Int32)), (5, .int (nI (k + 1)))]) [1, 2, 3, 4, 5, 0] rfl ?_
        exact ih (k + 1)  (by omega) (by omega) 
      · exact absurd rfl c_11_2
set_option maxHeartbeats 1000000 in
set_option maxRecDepth 10000 in
theorem ct_M_keeps_36_0 (l : Launch) (d : Nat) (nr : Nat) (h : Nat → Nat → Int32) (g : Nat → Nat → Int64) (rr : Nat → Option Nat)  : ab_C l am_M_keeps d 0 0 [.ref 30, .ref 36, .int (6 : Int32), .int (236 : Int32), .int (0 : Int32)] (ab_S nr h g rr) (fun (r_ : Option Value) (M' : ab_Me) => r_ = some (.int (nI 242)) ∧ M' = (ab_S nr (md_cp h 36 50 0 236 6) g rr)) := by
  refine ab_C_of (by decide +kernel) rfl (Nat.le_of_ble_eq_true rfl) ?_
  refine ab_iconst (v := 0) de_M_keeps_0 rfl ?_
  refine ab_istore (L' := [(5, .int (0 : Int32)), (0, .ref 30), (1, .ref 36), (2, .int (6 : Int32)), (3, .int (236 : Int32)), (4, .int (0 : Int32))]) de_M_keeps_1 (by decide) rfl ?_
  refine ab_sub (L' := [(0, .ref 30), (1, .ref 36), (2, .int (6 : Int32)), (3, .int (236 : Int32)), (4, .int (0 : Int32)), (5, .int (nI 0))]) [1, 2, 3, 4, 5, 0] rfl ?_
  have z_ := lp_M_keeps_36_0 l d nr h g rr 7 0 (by omega) (by omega)
  rw [md_cp_0] at z_
  exact z_
set_option maxHeartbeats 1000000 in
set_option maxRecDepth 10000 in
theorem lp_M_keeps_37_0 (l : Launch) (d : Nat) (nr : Nat) (h : Nat → Nat → Int32) (g : Nat → Nat → Int64) (rr : Nat → Option Nat)  : ∀ (fu_ k : Nat), k ≤ 6 → 6 < k + fu_ → ab_G l none am_M_keeps (d) 0 0 3 [(0, .ref 30), (1, .ref 37), (2, .int (6 : Int32)), (3, .int (242 : Int32)), (4, .int (0 : Int32)), (5, .int (nI k))] [] (ab_S nr (md_cp h 37 50 0 242 k) g rr) (fun (r_ : Option Value) (M' : ab_Me) => r_ = some (.int (nI 248)) ∧ M' = (ab_S nr (md_cp h 37 50 0 242 6) g rr)) := by
  intro fu_
  induction fu_ with
  | zero => intro k  h1 h2; omega
  | succ fu_ ih =>
    intro k  hN_ hn_ 
    refine ab_iload de_M_keeps_3 5 rfl ?_
    refine ab_iload_n de_M_keeps_5 2 rfl ?_
    refine ab_icmp_ge (tgt := 49) de_M_keeps_6 rfl (fun c_6_1 => ?_) (fun c_6_1 => ?_)
    · have hk := ab_le_of (n := 6) (by decide) (by omega) rfl c_6_1
      refine ab_iload_n de_M_keeps_49 3 rfl ?_
      refine ab_iload_n de_M_keeps_50 2 rfl ?_
      refine ab_iadd de_M_keeps_51 ?_
      refine ab_top (v' := nI (242 + 6)) (ab_add _ _) ?_
      exact ab_ret (v := some (.int (nI (242 + 6)))) de_M_keeps_52 ⟨_, rfl⟩ ⟨rfl, by rw [show k = 6 by omega]⟩
    · have hk := ab_nle_of (n := 6) (by decide) (by omega) rfl c_6_1
      refine ab_iload de_M_keeps_9 4 rfl ?_
      refine ab_if_eq (tgt := 30) de_M_keeps_11 rfl (fun c_11_2 => ?_) (fun c_11_2 => ?_)
      · refine ab_aload_n de_M_keeps_30 0 rfl ?_
        refine ab_get (v := .ref 50) fl_M_81 rfl rfl de_M_keeps_31 ?_
        refine ab_iload_n de_M_keeps_34 3 rfl ?_
        refine ab_iload de_M_keeps_35 5 rfl ?_
        refine ab_iadd de_M_keeps_37 ?_
        refine ab_top (v' := nI (242 + k)) (ab_add _ _) ?_
        refine ab_aload_n de_M_keeps_38 1 rfl ?_
        refine ab_iload de_M_keeps_39 5 rfl ?_
        refine ab_iald (v := (md_cp h 37 50 0 242 k) 37 k) rfl (ab_in (by omega) (by decide)) (ab_hv (ab_tn (n := k) (by omega))) de_M_keeps_41 ?_
        refine ab_iast (x := 50) rfl (ab_in (by omega) (by decide)) de_M_keeps_42 ?_
        rw [(ab_tn (n := (242 + k)) (by omega))]
        change ab_G _ _ _ _ _ _ _ _ _ (ab_S nr (ab_u2 (md_cp h 37 50 0 242 k) 50 (242 + k) ((md_cp h 37 50 0 242 k) 37 k)) g rr) _
        refine ab_hm (h' := md_cp h 37 50 0 242 (k + 1)) ((by have z_ := md_cp_s (h := h) (s := 37) (d := 50) (o1 := 0) (o2 := 242) (k := k) (by decide); simp only [Nat.zero_add] at z_ ⊢; exact z_)) ?_
        refine ab_iinc (v := nI (k + 1)) (L' := [(5, .int (nI (k + 1))), (0, .ref 30), (1, .ref 37), (2, .int (6 : Int32)), (3, .int (242 : Int32)), (4, .int (0 : Int32))]) de_M_keeps_43 5 rfl (by rw [show Int32.ofInt 1 = nI 1 from rfl, ab_add]) (by decide) rfl ?_
        refine ab_goto (tgt := 3) de_M_keeps_46 rfl ?_
        refine ab_sub (L' := [(0, .ref 30), (1, .ref 37), (2, .int (6 : Int32)), (3, .int (242 : Int32)), (4, .int (0 : Int32)), (5, .int (nI (k + 1)))]) [1, 2, 3, 4, 5, 0] rfl ?_
        exact ih (k + 1)  (by omega) (by omega) 
      · exact absurd rfl c_11_2
set_option maxHeartbeats 1000000 in
set_option maxRecDepth 10000 in
theorem ct_M_keeps_37_0 (l : Launch) (d : Nat) (nr : Nat) (h : Nat → Nat → Int32) (g : Nat → Nat → Int64) (rr : Nat → Option Nat)  : ab_C l am_M_keeps d 0 0 [.ref 30, .ref 37, .int (6 : Int32), .int (242 : Int32), .int (0 : Int32)] (ab_S nr h g rr) (fun (r_ : Option Value) (M' : ab_Me) => r_ = some (.int (nI 248)) ∧ M' = (ab_S nr (md_cp h 37 50 0 242 6) g rr)) := by
  refine ab_C_of (by decide +kernel) rfl (Nat.le_of_ble_eq_true rfl) ?_
  refine ab_iconst (v := 0) de_M_keeps_0 rfl ?_
  refine ab_istore (L' := [(5, .int (0 : Int32)), (0, .ref 30), (1, .ref 37), (2, .int (6 : Int32)), (3, .int (242 : Int32)), (4, .int (0 : Int32))]) de_M_keeps_1 (by decide) rfl ?_
  refine ab_sub (L' := [(0, .ref 30), (1, .ref 37), (2, .int (6 : Int32)), (3, .int (242 : Int32)), (4, .int (0 : Int32)), (5, .int (nI 0))]) [1, 2, 3, 4, 5, 0] rfl ?_
  have z_ := lp_M_keeps_37_0 l d nr h g rr 7 0 (by omega) (by omega)
  rw [md_cp_0] at z_
  exact z_
set_option maxHeartbeats 1000000 in
set_option maxRecDepth 10000 in
theorem lp_M_keeps_32_1 (l : Launch) (d : Nat) (nr : Nat) (h : Nat → Nat → Int32) (g : Nat → Nat → Int64) (rr : Nat → Option Nat)  : ∀ (fu_ k : Nat), k ≤ 36 → 36 < k + fu_ → ab_G l none am_M_keeps (d) 0 0 3 [(0, .ref 30), (1, .ref 32), (2, .int (36 : Int32)), (3, .int (0 : Int32)), (4, .int (1 : Int32)), (5, .int (nI k))] [] (ab_S nr (md_cp h 50 32 0 0 k) g rr) (fun (r_ : Option Value) (M' : ab_Me) => r_ = some (.int (nI 36)) ∧ M' = (ab_S nr (md_cp h 50 32 0 0 36) g rr)) := by
  intro fu_
  induction fu_ with
  | zero => intro k  h1 h2; omega
  | succ fu_ ih =>
    intro k  hN_ hn_ 
    refine ab_iload de_M_keeps_3 5 rfl ?_
    refine ab_iload_n de_M_keeps_5 2 rfl ?_
    refine ab_icmp_ge (tgt := 49) de_M_keeps_6 rfl (fun c_6_1 => ?_) (fun c_6_1 => ?_)
    · have hk := ab_le_of (n := 36) (by decide) (by omega) rfl c_6_1
      refine ab_iload_n de_M_keeps_49 3 rfl ?_
      refine ab_iload_n de_M_keeps_50 2 rfl ?_
      refine ab_iadd de_M_keeps_51 ?_
      refine ab_top (v' := nI (0 + 36)) (ab_add _ _) ?_
      exact ab_ret (v := some (.int (nI (0 + 36)))) de_M_keeps_52 ⟨_, rfl⟩ ⟨rfl, by rw [show k = 36 by omega]⟩
    · have hk := ab_nle_of (n := 36) (by decide) (by omega) rfl c_6_1
      refine ab_iload de_M_keeps_9 4 rfl ?_
      refine ab_if_eq (tgt := 30) de_M_keeps_11 rfl (fun c_11_2 => ?_) (fun c_11_2 => ?_)
      · exact absurd c_11_2 (by decide)
      · refine ab_aload_n de_M_keeps_14 1 rfl ?_
        refine ab_iload de_M_keeps_15 5 rfl ?_
        refine ab_aload_n de_M_keeps_17 0 rfl ?_
        refine ab_get (v := .ref 50) fl_M_81 rfl rfl de_M_keeps_18 ?_
        refine ab_iload_n de_M_keeps_21 3 rfl ?_
        refine ab_iload de_M_keeps_22 5 rfl ?_
        refine ab_iadd de_M_keeps_24 ?_
        refine ab_top (v' := nI (0 + k)) (ab_add _ _) ?_
        refine ab_iald (v := (md_cp h 50 32 0 0 k) 50 (0 + k)) rfl (ab_in (by omega) (by decide)) (ab_hv (ab_tn (n := (0 + k)) (by omega))) de_M_keeps_25 ?_
        refine ab_iast (x := 32) rfl (ab_in (by omega) (by decide)) de_M_keeps_26 ?_
        rw [(ab_tn (n := k) (by omega))]
        change ab_G _ _ _ _ _ _ _ _ _ (ab_S nr (ab_u2 (md_cp h 50 32 0 0 k) 32 k ((md_cp h 50 32 0 0 k) 50 (0 + k))) g rr) _
        refine ab_hm (h' := md_cp h 50 32 0 0 (k + 1)) ((by have z_ := md_cp_s (h := h) (s := 50) (d := 32) (o1 := 0) (o2 := 0) (k := k) (by decide); simp only [Nat.zero_add] at z_ ⊢; exact z_)) ?_
        refine ab_goto (tgt := 43) de_M_keeps_27 rfl ?_
        refine ab_iinc (v := nI (k + 1)) (L' := [(5, .int (nI (k + 1))), (0, .ref 30), (1, .ref 32), (2, .int (36 : Int32)), (3, .int (0 : Int32)), (4, .int (1 : Int32))]) de_M_keeps_43 5 rfl (by rw [show Int32.ofInt 1 = nI 1 from rfl, ab_add]) (by decide) rfl ?_
        refine ab_goto (tgt := 3) de_M_keeps_46 rfl ?_
        refine ab_sub (L' := [(0, .ref 30), (1, .ref 32), (2, .int (36 : Int32)), (3, .int (0 : Int32)), (4, .int (1 : Int32)), (5, .int (nI (k + 1)))]) [1, 2, 3, 4, 5, 0] rfl ?_
        exact ih (k + 1)  (by omega) (by omega) 
set_option maxHeartbeats 1000000 in
set_option maxRecDepth 10000 in
theorem ct_M_keeps_32_1 (l : Launch) (d : Nat) (nr : Nat) (h : Nat → Nat → Int32) (g : Nat → Nat → Int64) (rr : Nat → Option Nat)  : ab_C l am_M_keeps d 0 0 [.ref 30, .ref 32, .int (36 : Int32), .int (0 : Int32), .int (1 : Int32)] (ab_S nr h g rr) (fun (r_ : Option Value) (M' : ab_Me) => r_ = some (.int (nI 36)) ∧ M' = (ab_S nr (md_cp h 50 32 0 0 36) g rr)) := by
  refine ab_C_of (by decide +kernel) rfl (Nat.le_of_ble_eq_true rfl) ?_
  refine ab_iconst (v := 0) de_M_keeps_0 rfl ?_
  refine ab_istore (L' := [(5, .int (0 : Int32)), (0, .ref 30), (1, .ref 32), (2, .int (36 : Int32)), (3, .int (0 : Int32)), (4, .int (1 : Int32))]) de_M_keeps_1 (by decide) rfl ?_
  refine ab_sub (L' := [(0, .ref 30), (1, .ref 32), (2, .int (36 : Int32)), (3, .int (0 : Int32)), (4, .int (1 : Int32)), (5, .int (nI 0))]) [1, 2, 3, 4, 5, 0] rfl ?_
  have z_ := lp_M_keeps_32_1 l d nr h g rr 37 0 (by omega) (by omega)
  rw [md_cp_0] at z_
  exact z_
set_option maxHeartbeats 1000000 in
set_option maxRecDepth 10000 in
theorem lp_M_keeps_33_1 (l : Launch) (d : Nat) (nr : Nat) (h : Nat → Nat → Int32) (g : Nat → Nat → Int64) (rr : Nat → Option Nat)  : ∀ (fu_ k : Nat), k ≤ 8 → 8 < k + fu_ → ab_G l none am_M_keeps (d) 0 0 3 [(0, .ref 30), (1, .ref 33), (2, .int (8 : Int32)), (3, .int (36 : Int32)), (4, .int (1 : Int32)), (5, .int (nI k))] [] (ab_S nr (md_cp h 50 33 36 0 k) g rr) (fun (r_ : Option Value) (M' : ab_Me) => r_ = some (.int (nI 44)) ∧ M' = (ab_S nr (md_cp h 50 33 36 0 8) g rr)) := by
  intro fu_
  induction fu_ with
  | zero => intro k  h1 h2; omega
  | succ fu_ ih =>
    intro k  hN_ hn_ 
    refine ab_iload de_M_keeps_3 5 rfl ?_
    refine ab_iload_n de_M_keeps_5 2 rfl ?_
    refine ab_icmp_ge (tgt := 49) de_M_keeps_6 rfl (fun c_6_1 => ?_) (fun c_6_1 => ?_)
    · have hk := ab_le_of (n := 8) (by decide) (by omega) rfl c_6_1
      refine ab_iload_n de_M_keeps_49 3 rfl ?_
      refine ab_iload_n de_M_keeps_50 2 rfl ?_
      refine ab_iadd de_M_keeps_51 ?_
      refine ab_top (v' := nI (36 + 8)) (ab_add _ _) ?_
      exact ab_ret (v := some (.int (nI (36 + 8)))) de_M_keeps_52 ⟨_, rfl⟩ ⟨rfl, by rw [show k = 8 by omega]⟩
    · have hk := ab_nle_of (n := 8) (by decide) (by omega) rfl c_6_1
      refine ab_iload de_M_keeps_9 4 rfl ?_
      refine ab_if_eq (tgt := 30) de_M_keeps_11 rfl (fun c_11_2 => ?_) (fun c_11_2 => ?_)
      · exact absurd c_11_2 (by decide)
      · refine ab_aload_n de_M_keeps_14 1 rfl ?_
        refine ab_iload de_M_keeps_15 5 rfl ?_
        refine ab_aload_n de_M_keeps_17 0 rfl ?_
        refine ab_get (v := .ref 50) fl_M_81 rfl rfl de_M_keeps_18 ?_
        refine ab_iload_n de_M_keeps_21 3 rfl ?_
        refine ab_iload de_M_keeps_22 5 rfl ?_
        refine ab_iadd de_M_keeps_24 ?_
        refine ab_top (v' := nI (36 + k)) (ab_add _ _) ?_
        refine ab_iald (v := (md_cp h 50 33 36 0 k) 50 (36 + k)) rfl (ab_in (by omega) (by decide)) (ab_hv (ab_tn (n := (36 + k)) (by omega))) de_M_keeps_25 ?_
        refine ab_iast (x := 33) rfl (ab_in (by omega) (by decide)) de_M_keeps_26 ?_
        rw [(ab_tn (n := k) (by omega))]
        change ab_G _ _ _ _ _ _ _ _ _ (ab_S nr (ab_u2 (md_cp h 50 33 36 0 k) 33 k ((md_cp h 50 33 36 0 k) 50 (36 + k))) g rr) _
        refine ab_hm (h' := md_cp h 50 33 36 0 (k + 1)) ((by have z_ := md_cp_s (h := h) (s := 50) (d := 33) (o1 := 36) (o2 := 0) (k := k) (by decide); simp only [Nat.zero_add] at z_ ⊢; exact z_)) ?_
        refine ab_goto (tgt := 43) de_M_keeps_27 rfl ?_
        refine ab_iinc (v := nI (k + 1)) (L' := [(5, .int (nI (k + 1))), (0, .ref 30), (1, .ref 33), (2, .int (8 : Int32)), (3, .int (36 : Int32)), (4, .int (1 : Int32))]) de_M_keeps_43 5 rfl (by rw [show Int32.ofInt 1 = nI 1 from rfl, ab_add]) (by decide) rfl ?_
        refine ab_goto (tgt := 3) de_M_keeps_46 rfl ?_
        refine ab_sub (L' := [(0, .ref 30), (1, .ref 33), (2, .int (8 : Int32)), (3, .int (36 : Int32)), (4, .int (1 : Int32)), (5, .int (nI (k + 1)))]) [1, 2, 3, 4, 5, 0] rfl ?_
        exact ih (k + 1)  (by omega) (by omega) 
set_option maxHeartbeats 1000000 in
set_option maxRecDepth 10000 in
theorem ct_M_keeps_33_1 (l : Launch) (d : Nat) (nr : Nat) (h : Nat → Nat → Int32) (g : Nat → Nat → Int64) (rr : Nat → Option Nat)  : ab_C l am_M_keeps d 0 0 [.ref 30, .ref 33, .int (8 : Int32), .int (36 : Int32), .int (1 : Int32)] (ab_S nr h g rr) (fun (r_ : Option Value) (M' : ab_Me) => r_ = some (.int (nI 44)) ∧ M' = (ab_S nr (md_cp h 50 33 36 0 8) g rr)) := by
  refine ab_C_of (by decide +kernel) rfl (Nat.le_of_ble_eq_true rfl) ?_
  refine ab_iconst (v := 0) de_M_keeps_0 rfl ?_
  refine ab_istore (L' := [(5, .int (0 : Int32)), (0, .ref 30), (1, .ref 33), (2, .int (8 : Int32)), (3, .int (36 : Int32)), (4, .int (1 : Int32))]) de_M_keeps_1 (by decide) rfl ?_
  refine ab_sub (L' := [(0, .ref 30), (1, .ref 33), (2, .int (8 : Int32)), (3, .int (36 : Int32)), (4, .int (1 : Int32)), (5, .int (nI 0))]) [1, 2, 3, 4, 5, 0] rfl ?_
  have z_ := lp_M_keeps_33_1 l d nr h g rr 9 0 (by omega) (by omega)
  rw [md_cp_0] at z_
  exact z_
set_option maxHeartbeats 1000000 in
set_option maxRecDepth 10000 in
theorem lp_M_keeps_34_1 (l : Launch) (d : Nat) (nr : Nat) (h : Nat → Nat → Int32) (g : Nat → Nat → Int64) (rr : Nat → Option Nat)  : ∀ (fu_ k : Nat), k ≤ 72 → 72 < k + fu_ → ab_G l none am_M_keeps (d) 0 0 3 [(0, .ref 30), (1, .ref 34), (2, .int (72 : Int32)), (3, .int (44 : Int32)), (4, .int (1 : Int32)), (5, .int (nI k))] [] (ab_S nr (md_cp h 50 34 44 0 k) g rr) (fun (r_ : Option Value) (M' : ab_Me) => r_ = some (.int (nI 116)) ∧ M' = (ab_S nr (md_cp h 50 34 44 0 72) g rr)) := by
  intro fu_
  induction fu_ with
  | zero => intro k  h1 h2; omega
  | succ fu_ ih =>
    intro k  hN_ hn_ 
    refine ab_iload de_M_keeps_3 5 rfl ?_
    refine ab_iload_n de_M_keeps_5 2 rfl ?_
    refine ab_icmp_ge (tgt := 49) de_M_keeps_6 rfl (fun c_6_1 => ?_) (fun c_6_1 => ?_)
    · have hk := ab_le_of (n := 72) (by decide) (by omega) rfl c_6_1
      refine ab_iload_n de_M_keeps_49 3 rfl ?_
      refine ab_iload_n de_M_keeps_50 2 rfl ?_
      refine ab_iadd de_M_keeps_51 ?_
      refine ab_top (v' := nI (44 + 72)) (ab_add _ _) ?_
      exact ab_ret (v := some (.int (nI (44 + 72)))) de_M_keeps_52 ⟨_, rfl⟩ ⟨rfl, by rw [show k = 72 by omega]⟩
    · have hk := ab_nle_of (n := 72) (by decide) (by omega) rfl c_6_1
      refine ab_iload de_M_keeps_9 4 rfl ?_
      refine ab_if_eq (tgt := 30) de_M_keeps_11 rfl (fun c_11_2 => ?_) (fun c_11_2 => ?_)
      · exact absurd c_11_2 (by decide)
      · refine ab_aload_n de_M_keeps_14 1 rfl ?_
        refine ab_iload de_M_keeps_15 5 rfl ?_
        refine ab_aload_n de_M_keeps_17 0 rfl ?_
        refine ab_get (v := .ref 50) fl_M_81 rfl rfl de_M_keeps_18 ?_
        refine ab_iload_n de_M_keeps_21 3 rfl ?_
        refine ab_iload de_M_keeps_22 5 rfl ?_
        refine ab_iadd de_M_keeps_24 ?_
        refine ab_top (v' := nI (44 + k)) (ab_add _ _) ?_
        refine ab_iald (v := (md_cp h 50 34 44 0 k) 50 (44 + k)) rfl (ab_in (by omega) (by decide)) (ab_hv (ab_tn (n := (44 + k)) (by omega))) de_M_keeps_25 ?_
        refine ab_iast (x := 34) rfl (ab_in (by omega) (by decide)) de_M_keeps_26 ?_
        rw [(ab_tn (n := k) (by omega))]
        change ab_G _ _ _ _ _ _ _ _ _ (ab_S nr (ab_u2 (md_cp h 50 34 44 0 k) 34 k ((md_cp h 50 34 44 0 k) 50 (44 + k))) g rr) _
        refine ab_hm (h' := md_cp h 50 34 44 0 (k + 1)) ((by have z_ := md_cp_s (h := h) (s := 50) (d := 34) (o1 := 44) (o2 := 0) (k := k) (by decide); simp only [Nat.zero_add] at z_ ⊢; exact z_)) ?_
        refine ab_goto (tgt := 43) de_M_keeps_27 rfl ?_
        refine ab_iinc (v := nI (k + 1)) (L' := [(5, .int (nI (k + 1))), (0, .ref 30), (1, .ref 34), (2, .int (72 : Int32)), (3, .int (44 : Int32)), (4, .int (1 : Int32))]) de_M_keeps_43 5 rfl (by rw [show Int32.ofInt 1 = nI 1 from rfl, ab_add]) (by decide) rfl ?_
        refine ab_goto (tgt := 3) de_M_keeps_46 rfl ?_
        refine ab_sub (L' := [(0, .ref 30), (1, .ref 34), (2, .int (72 : Int32)), (3, .int (44 : Int32)), (4, .int (1 : Int32)), (5, .int (nI (k + 1)))]) [1, 2, 3, 4, 5, 0] rfl ?_
        exact ih (k + 1)  (by omega) (by omega) 
set_option maxHeartbeats 1000000 in
set_option maxRecDepth 10000 in
theorem ct_M_keeps_34_1 (l : Launch) (d : Nat) (nr : Nat) (h : Nat → Nat → Int32) (g : Nat → Nat → Int64) (rr : Nat → Option Nat)  : ab_C l am_M_keeps d 0 0 [.ref 30, .ref 34, .int (72 : Int32), .int (44 : Int32), .int (1 : Int32)] (ab_S nr h g rr) (fun (r_ : Option Value) (M' : ab_Me) => r_ = some (.int (nI 116)) ∧ M' = (ab_S nr (md_cp h 50 34 44 0 72) g rr)) := by
  refine ab_C_of (by decide +kernel) rfl (Nat.le_of_ble_eq_true rfl) ?_
  refine ab_iconst (v := 0) de_M_keeps_0 rfl ?_
  refine ab_istore (L' := [(5, .int (0 : Int32)), (0, .ref 30), (1, .ref 34), (2, .int (72 : Int32)), (3, .int (44 : Int32)), (4, .int (1 : Int32))]) de_M_keeps_1 (by decide) rfl ?_
  refine ab_sub (L' := [(0, .ref 30), (1, .ref 34), (2, .int (72 : Int32)), (3, .int (44 : Int32)), (4, .int (1 : Int32)), (5, .int (nI 0))]) [1, 2, 3, 4, 5, 0] rfl ?_
  have z_ := lp_M_keeps_34_1 l d nr h g rr 73 0 (by omega) (by omega)
  rw [md_cp_0] at z_
  exact z_
set_option maxHeartbeats 1000000 in
set_option maxRecDepth 10000 in
theorem lp_M_keeps_35_1 (l : Launch) (d : Nat) (nr : Nat) (h : Nat → Nat → Int32) (g : Nat → Nat → Int64) (rr : Nat → Option Nat)  : ∀ (fu_ k : Nat), k ≤ 120 → 120 < k + fu_ → ab_G l none am_M_keeps (d) 0 0 3 [(0, .ref 30), (1, .ref 35), (2, .int (120 : Int32)), (3, .int (116 : Int32)), (4, .int (1 : Int32)), (5, .int (nI k))] [] (ab_S nr (md_cp h 50 35 116 0 k) g rr) (fun (r_ : Option Value) (M' : ab_Me) => r_ = some (.int (nI 236)) ∧ M' = (ab_S nr (md_cp h 50 35 116 0 120) g rr)) := by
  intro fu_
  induction fu_ with
  | zero => intro k  h1 h2; omega
  | succ fu_ ih =>
    intro k  hN_ hn_ 
    refine ab_iload de_M_keeps_3 5 rfl ?_
    refine ab_iload_n de_M_keeps_5 2 rfl ?_
    refine ab_icmp_ge (tgt := 49) de_M_keeps_6 rfl (fun c_6_1 => ?_) (fun c_6_1 => ?_)
    · have hk := ab_le_of (n := 120) (by decide) (by omega) rfl c_6_1
      refine ab_iload_n de_M_keeps_49 3 rfl ?_
      refine ab_iload_n de_M_keeps_50 2 rfl ?_
      refine ab_iadd de_M_keeps_51 ?_
      refine ab_top (v' := nI (116 + 120)) (ab_add _ _) ?_
      exact ab_ret (v := some (.int (nI (116 + 120)))) de_M_keeps_52 ⟨_, rfl⟩ ⟨rfl, by rw [show k = 120 by omega]⟩
    · have hk := ab_nle_of (n := 120) (by decide) (by omega) rfl c_6_1
      refine ab_iload de_M_keeps_9 4 rfl ?_
      refine ab_if_eq (tgt := 30) de_M_keeps_11 rfl (fun c_11_2 => ?_) (fun c_11_2 => ?_)
      · exact absurd c_11_2 (by decide)
      · refine ab_aload_n de_M_keeps_14 1 rfl ?_
        refine ab_iload de_M_keeps_15 5 rfl ?_
        refine ab_aload_n de_M_keeps_17 0 rfl ?_
        refine ab_get (v := .ref 50) fl_M_81 rfl rfl de_M_keeps_18 ?_
        refine ab_iload_n de_M_keeps_21 3 rfl ?_
        refine ab_iload de_M_keeps_22 5 rfl ?_
        refine ab_iadd de_M_keeps_24 ?_
        refine ab_top (v' := nI (116 + k)) (ab_add _ _) ?_
        refine ab_iald (v := (md_cp h 50 35 116 0 k) 50 (116 + k)) rfl (ab_in (by omega) (by decide)) (ab_hv (ab_tn (n := (116 + k)) (by omega))) de_M_keeps_25 ?_
        refine ab_iast (x := 35) rfl (ab_in (by omega) (by decide)) de_M_keeps_26 ?_
        rw [(ab_tn (n := k) (by omega))]
        change ab_G _ _ _ _ _ _ _ _ _ (ab_S nr (ab_u2 (md_cp h 50 35 116 0 k) 35 k ((md_cp h 50 35 116 0 k) 50 (116 + k))) g rr) _
        refine ab_hm (h' := md_cp h 50 35 116 0 (k + 1)) ((by have z_ := md_cp_s (h := h) (s := 50) (d := 35) (o1 := 116) (o2 := 0) (k := k) (by decide); simp only [Nat.zero_add] at z_ ⊢; exact z_)) ?_
        refine ab_goto (tgt := 43) de_M_keeps_27 rfl ?_
        refine ab_iinc (v := nI (k + 1)) (L' := [(5, .int (nI (k + 1))), (0, .ref 30), (1, .ref 35), (2, .int (120 : Int32)), (3, .int (116 : Int32)), (4, .int (1 : Int32))]) de_M_keeps_43 5 rfl (by rw [show Int32.ofInt 1 = nI 1 from rfl, ab_add]) (by decide) rfl ?_
        refine ab_goto (tgt := 3) de_M_keeps_46 rfl ?_
        refine ab_sub (L' := [(0, .ref 30), (1, .ref 35), (2, .int (120 : Int32)), (3, .int (116 : Int32)), (4, .int (1 : Int32)), (5, .int (nI (k + 1)))]) [1, 2, 3, 4, 5, 0] rfl ?_
        exact ih (k + 1)  (by omega) (by omega) 
set_option maxHeartbeats 1000000 in
set_option maxRecDepth 10000 in
theorem ct_M_keeps_35_1 (l : Launch) (d : Nat) (nr : Nat) (h : Nat → Nat → Int32) (g : Nat → Nat → Int64) (rr : Nat → Option Nat)  : ab_C l am_M_keeps d 0 0 [.ref 30, .ref 35, .int (120 : Int32), .int (116 : Int32), .int (1 : Int32)] (ab_S nr h g rr) (fun (r_ : Option Value) (M' : ab_Me) => r_ = some (.int (nI 236)) ∧ M' = (ab_S nr (md_cp h 50 35 116 0 120) g rr)) := by
  refine ab_C_of (by decide +kernel) rfl (Nat.le_of_ble_eq_true rfl) ?_
  refine ab_iconst (v := 0) de_M_keeps_0 rfl ?_
  refine ab_istore (L' := [(5, .int (0 : Int32)), (0, .ref 30), (1, .ref 35), (2, .int (120 : Int32)), (3, .int (116 : Int32)), (4, .int (1 : Int32))]) de_M_keeps_1 (by decide) rfl ?_
  refine ab_sub (L' := [(0, .ref 30), (1, .ref 35), (2, .int (120 : Int32)), (3, .int (116 : Int32)), (4, .int (1 : Int32)), (5, .int (nI 0))]) [1, 2, 3, 4, 5, 0] rfl ?_
  have z_ := lp_M_keeps_35_1 l d nr h g rr 121 0 (by omega) (by omega)
  rw [md_cp_0] at z_
  exact z_
set_option maxHeartbeats 1000000 in
set_option maxRecDepth 10000 in
theorem lp_M_keeps_36_1 (l : Launch) (d : Nat) (nr : Nat) (h : Nat → Nat → Int32) (g : Nat → Nat → Int64) (rr : Nat → Option Nat)  : ∀ (fu_ k : Nat), k ≤ 6 → 6 < k + fu_ → ab_G l none am_M_keeps (d) 0 0 3 [(0, .ref 30), (1, .ref 36), (2, .int (6 : Int32)), (3, .int (236 : Int32)), (4, .int (1 : Int32)), (5, .int (nI k))] [] (ab_S nr (md_cp h 50 36 236 0 k) g rr) (fun (r_ : Option Value) (M' : ab_Me) => r_ = some (.int (nI 242)) ∧ M' = (ab_S nr (md_cp h 50 36 236 0 6) g rr)) := by
  intro fu_
  induction fu_ with
  | zero => intro k  h1 h2; omega
  | succ fu_ ih =>
    intro k  hN_ hn_ 
    refine ab_iload de_M_keeps_3 5 rfl ?_
    refine ab_iload_n de_M_keeps_5 2 rfl ?_
    refine ab_icmp_ge (tgt := 49) de_M_keeps_6 rfl (fun c_6_1 => ?_) (fun c_6_1 => ?_)
    · have hk := ab_le_of (n := 6) (by decide) (by omega) rfl c_6_1
      refine ab_iload_n de_M_keeps_49 3 rfl ?_
      refine ab_iload_n de_M_keeps_50 2 rfl ?_
      refine ab_iadd de_M_keeps_51 ?_
      refine ab_top (v' := nI (236 + 6)) (ab_add _ _) ?_
      exact ab_ret (v := some (.int (nI (236 + 6)))) de_M_keeps_52 ⟨_, rfl⟩ ⟨rfl, by rw [show k = 6 by omega]⟩
    · have hk := ab_nle_of (n := 6) (by decide) (by omega) rfl c_6_1
      refine ab_iload de_M_keeps_9 4 rfl ?_
      refine ab_if_eq (tgt := 30) de_M_keeps_11 rfl (fun c_11_2 => ?_) (fun c_11_2 => ?_)
      · exact absurd c_11_2 (by decide)
      · refine ab_aload_n de_M_keeps_14 1 rfl ?_
        refine ab_iload de_M_keeps_15 5 rfl ?_
        refine ab_aload_n de_M_keeps_17 0 rfl ?_
        refine ab_get (v := .ref 50) fl_M_81 rfl rfl de_M_keeps_18 ?_
        refine ab_iload_n de_M_keeps_21 3 rfl ?_
        refine ab_iload de_M_keeps_22 5 rfl ?_
        refine ab_iadd de_M_keeps_24 ?_
        refine ab_top (v' := nI (236 + k)) (ab_add _ _) ?_
        refine ab_iald (v := (md_cp h 50 36 236 0 k) 50 (236 + k)) rfl (ab_in (by omega) (by decide)) (ab_hv (ab_tn (n := (236 + k)) (by omega))) de_M_keeps_25 ?_
        refine ab_iast (x := 36) rfl (ab_in (by omega) (by decide)) de_M_keeps_26 ?_
        rw [(ab_tn (n := k) (by omega))]
        change ab_G _ _ _ _ _ _ _ _ _ (ab_S nr (ab_u2 (md_cp h 50 36 236 0 k) 36 k ((md_cp h 50 36 236 0 k) 50 (236 + k))) g rr) _
        refine ab_hm (h' := md_cp h 50 36 236 0 (k + 1)) ((by have z_ := md_cp_s (h := h) (s := 50) (d := 36) (o1 := 236) (o2 := 0) (k := k) (by decide); simp only [Nat.zero_add] at z_ ⊢; exact z_)) ?_
        refine ab_goto (tgt := 43) de_M_keeps_27 rfl ?_
        refine ab_iinc (v := nI (k + 1)) (L' := [(5, .int (nI (k + 1))), (0, .ref 30), (1, .ref 36), (2, .int (6 : Int32)), (3, .int (236 : Int32)), (4, .int (1 : Int32))]) de_M_keeps_43 5 rfl (by rw [show Int32.ofInt 1 = nI 1 from rfl, ab_add]) (by decide) rfl ?_
        refine ab_goto (tgt := 3) de_M_keeps_46 rfl ?_
        refine ab_sub (L' := [(0, .ref 30), (1, .ref 36), (2, .int (6 : Int32)), (3, .int (236 : Int32)), (4, .int (1 : Int32)), (5, .int (nI (k + 1)))]) [1, 2, 3, 4, 5, 0] rfl ?_
        exact ih (k + 1)  (by omega) (by omega) 
set_option maxHeartbeats 1000000 in
set_option maxRecDepth 10000 in
theorem ct_M_keeps_36_1 (l : Launch) (d : Nat) (nr : Nat) (h : Nat → Nat → Int32) (g : Nat → Nat → Int64) (rr : Nat → Option Nat)  : ab_C l am_M_keeps d 0 0 [.ref 30, .ref 36, .int (6 : Int32), .int (236 : Int32), .int (1 : Int32)] (ab_S nr h g rr) (fun (r_ : Option Value) (M' : ab_Me) => r_ = some (.int (nI 242)) ∧ M' = (ab_S nr (md_cp h 50 36 236 0 6) g rr)) := by
  refine ab_C_of (by decide +kernel) rfl (Nat.le_of_ble_eq_true rfl) ?_
  refine ab_iconst (v := 0) de_M_keeps_0 rfl ?_
  refine ab_istore (L' := [(5, .int (0 : Int32)), (0, .ref 30), (1, .ref 36), (2, .int (6 : Int32)), (3, .int (236 : Int32)), (4, .int (1 : Int32))]) de_M_keeps_1 (by decide) rfl ?_
  refine ab_sub (L' := [(0, .ref 30), (1, .ref 36), (2, .int (6 : Int32)), (3, .int (236 : Int32)), (4, .int (1 : Int32)), (5, .int (nI 0))]) [1, 2, 3, 4, 5, 0] rfl ?_
  have z_ := lp_M_keeps_36_1 l d nr h g rr 7 0 (by omega) (by omega)
  rw [md_cp_0] at z_
  exact z_
set_option maxHeartbeats 1000000 in
set_option maxRecDepth 10000 in
theorem lp_M_keeps_37_1 (l : Launch) (d : Nat) (nr : Nat) (h : Nat → Nat → Int32) (g : Nat → Nat → Int64) (rr : Nat → Option Nat)  : ∀ (fu_ k : Nat), k ≤ 6 → 6 < k + fu_ → ab_G l none am_M_keeps (d) 0 0 3 [(0, .ref 30), (1, .ref 37), (2, .int (6 : Int32)), (3, .int (242 : Int32)), (4, .int (1 : Int32)), (5, .int (nI k))] [] (ab_S nr (md_cp h 50 37 242 0 k) g rr) (fun (r_ : Option Value) (M' : ab_Me) => r_ = some (.int (nI 248)) ∧ M' = (ab_S nr (md_cp h 50 37 242 0 6) g rr)) := by
  intro fu_
  induction fu_ with
  | zero => intro k  h1 h2; omega
  | succ fu_ ih =>
    intro k  hN_ hn_ 
    refine ab_iload de_M_keeps_3 5 rfl ?_
    refine ab_iload_n de_M_keeps_5 2 rfl ?_
    refine ab_icmp_ge (tgt := 49) de_M_keeps_6 rfl (fun c_6_1 => ?_) (fun c_6_1 => ?_)
    · have hk := ab_le_of (n := 6) (by decide) (by omega) rfl c_6_1
      refine ab_iload_n de_M_keeps_49 3 rfl ?_
      refine ab_iload_n de_M_keeps_50 2 rfl ?_
      refine ab_iadd de_M_keeps_51 ?_
      refine ab_top (v' := nI (242 + 6)) (ab_add _ _) ?_
      exact ab_ret (v := some (.int (nI (242 + 6)))) de_M_keeps_52 ⟨_, rfl⟩ ⟨rfl, by rw [show k = 6 by omega]⟩
    · have hk := ab_nle_of (n := 6) (by decide) (by omega) rfl c_6_1
      refine ab_iload de_M_keeps_9 4 rfl ?_
      refine ab_if_eq (tgt := 30) de_M_keeps_11 rfl (fun c_11_2 => ?_) (fun c_11_2 => ?_)
      · exact absurd c_11_2 (by decide)
      · refine ab_aload_n de_M_keeps_14 1 rfl ?_
        refine ab_iload de_M_keeps_15 5 rfl ?_
        refine ab_aload_n de_M_keeps_17 0 rfl ?_
        refine ab_get (v := .ref 50) fl_M_81 rfl rfl de_M_keeps_18 ?_
        refine ab_iload_n de_M_keeps_21 3 rfl ?_
        refine ab_iload de_M_keeps_22 5 rfl ?_
        refine ab_iadd de_M_keeps_24 ?_
        refine ab_top (v' := nI (242 + k)) (ab_add _ _) ?_
        refine ab_iald (v := (md_cp h 50 37 242 0 k) 50 (242 + k)) rfl (ab_in (by omega) (by decide)) (ab_hv (ab_tn (n := (242 + k)) (by omega))) de_M_keeps_25 ?_
        refine ab_iast (x := 37) rfl (ab_in (by omega) (by decide)) de_M_keeps_26 ?_
        rw [(ab_tn (n := k) (by omega))]
        change ab_G _ _ _ _ _ _ _ _ _ (ab_S nr (ab_u2 (md_cp h 50 37 242 0 k) 37 k ((md_cp h 50 37 242 0 k) 50 (242 + k))) g rr) _
        refine ab_hm (h' := md_cp h 50 37 242 0 (k + 1)) ((by have z_ := md_cp_s (h := h) (s := 50) (d := 37) (o1 := 242) (o2 := 0) (k := k) (by decide); simp only [Nat.zero_add] at z_ ⊢; exact z_)) ?_
        refine ab_goto (tgt := 43) de_M_keeps_27 rfl ?_
        refine ab_iinc (v := nI (k + 1)) (L' := [(5, .int (nI (k + 1))), (0, .ref 30), (1, .ref 37), (2, .int (6 : Int32)), (3, .int (242 : Int32)), (4, .int (1 : Int32))]) de_M_keeps_43 5 rfl (by rw [show Int32.ofInt 1 = nI 1 from rfl, ab_add]) (by decide) rfl ?_
        refine ab_goto (tgt := 3) de_M_keeps_46 rfl ?_
        refine ab_sub (L' := [(0, .ref 30), (1, .ref 37), (2, .int (6 : Int32)), (3, .int (242 : Int32)), (4, .int (1 : Int32)), (5, .int (nI (k + 1)))]) [1, 2, 3, 4, 5, 0] rfl ?_
        exact ih (k + 1)  (by omega) (by omega) 
set_option maxHeartbeats 1000000 in
set_option maxRecDepth 10000 in
theorem ct_M_keeps_37_1 (l : Launch) (d : Nat) (nr : Nat) (h : Nat → Nat → Int32) (g : Nat → Nat → Int64) (rr : Nat → Option Nat)  : ab_C l am_M_keeps d 0 0 [.ref 30, .ref 37, .int (6 : Int32), .int (242 : Int32), .int (1 : Int32)] (ab_S nr h g rr) (fun (r_ : Option Value) (M' : ab_Me) => r_ = some (.int (nI 248)) ∧ M' = (ab_S nr (md_cp h 50 37 242 0 6) g rr)) := by
  refine ab_C_of (by decide +kernel) rfl (Nat.le_of_ble_eq_true rfl) ?_
  refine ab_iconst (v := 0) de_M_keeps_0 rfl ?_
  refine ab_istore (L' := [(5, .int (0 : Int32)), (0, .ref 30), (1, .ref 37), (2, .int (6 : Int32)), (3, .int (242 : Int32)), (4, .int (1 : Int32))]) de_M_keeps_1 (by decide) rfl ?_
  refine ab_sub (L' := [(0, .ref 30), (1, .ref 37), (2, .int (6 : Int32)), (3, .int (242 : Int32)), (4, .int (1 : Int32)), (5, .int (nI 0))]) [1, 2, 3, 4, 5, 0] rfl ?_
  have z_ := lp_M_keeps_37_1 l d nr h g rr 7 0 (by omega) (by omega)
  rw [md_cp_0] at z_
  exact z_
