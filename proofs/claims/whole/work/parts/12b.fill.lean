theorem ab_gm {l : Launch} {X : Option (Nat × (Nat → Int32))} {y : ab_M} {d kc ks : Nat} {K : Option Value → ab_Me → Prop} {pc : Nat} {L : List (Nat × Value)} {st : List Value} {nr : Nat} {h : Nat → Nat → Int32} {g g' : Nat → Nat → Int64} {rr : Nat → Option Nat} (e : g = g') (k : ab_G l X y d kc ks pc L st (ab_S nr h g' rr) K) : ab_G l X y d kc ks pc L st (ab_S nr h g rr) K := e ▸ k
/-- the first n of a row are v -/
def fl_i {α : Type} (h : Nat → Nat → α) (x n : Nat) (v : α) : Nat → Nat → α := fun a b => if a = x ∧ b < n then v else h a b
theorem fl_0 {α : Type} (h : Nat → Nat → α) (x : Nat) (v : α) : fl_i h x 0 v = h := by
  funext a b
  exact if_neg (by omega)
theorem fl_s {α : Type} (h : Nat → Nat → α) (x k : Nat) (v : α) : ab_u2 (fl_i h x k v) x k v = fl_i h x (k + 1) v := by
  funext a b
  unfold ab_u2 fl_i
  by_cases h1 : a = x ∧ b = k
  · rw [if_pos h1, if_pos ⟨h1.1, by omega⟩]
  · rw [if_neg h1]
    by_cases h2 : a = x ∧ b < k
    · rw [if_pos h2, if_pos ⟨h2.1, by omega⟩]
    · rw [if_neg h2, if_neg (by omega)]
theorem fl_k {α : Type} {h : Nat → Nat → α} {x n a b : Nat} {v : α} (ha : a ≠ x) : fl_i h x n v a b = h a b := if_neg (fun z => ha z.1)
theorem fl_at {α : Type} {h : Nat → Nat → α} {x n b : Nat} {v : α} (hb : b < n) : fl_i h x n v x b = v := if_pos ⟨rfl, hb⟩
set_option maxHeartbeats 1000000 in
set_option maxRecDepth 10000 in
theorem lp_A_fillI (l : Launch) (d : Nat) (nr : Nat) (h : Nat → Nat → Int32) (g : Nat → Nat → Int64) (rr : Nat → Option Nat) {x n : Nat} (hk_ : (ab_K0 ++ List.replicate nr (0, 3))[x]? = some (1, n)) (hn : n < 2 ^ 31) (v : Int32) : ∀ (fu_ k : Nat), k ≤ n → n < k + fu_ → ab_G l none am_A_fillI (d) 0 0 5 [(0, .ref x), (1, .int v), (2, .int (nI k)), (3, .int (nI n))] [] (ab_S nr (fl_i h x k v) g rr) (fun (r_ : Option Value) (M' : ab_Me) => r_ = none ∧ M' = ab_S nr (fl_i h x n v) g rr) := by
  intro fu_
  induction fu_ with
  | zero => intro k h1 h2; omega
  | succ fu_ ih =>
    intro k hN_ hn_
    refine ab_iload_n de_A_fillI_5 2 rfl ?_
    refine ab_iload_n de_A_fillI_6 3 rfl ?_
    refine ab_icmp_ge (tgt := 20) de_A_fillI_7 rfl (fun c_7_1 => ?_) (fun c_7_1 => ?_)
    · have hk := ab_le_of (n := n) (by omega) (by omega) rfl c_7_1
      exact ab_ret (v := none) de_A_fillI_20 rfl ⟨rfl, by rw [show k = n by omega]⟩
    · have hk := ab_nle_of (n := n) (by omega) (by omega) rfl c_7_1
      refine ab_aload_n de_A_fillI_10 0 rfl ?_
      refine ab_iload_n de_A_fillI_11 2 rfl ?_
      refine ab_iload_n de_A_fillI_12 1 rfl ?_
      refine ab_iast (x := x) hk_ (ab_in (by omega) (by omega)) de_A_fillI_13 ?_
      rw [ab_tn (n := k) (by omega)]
      change ab_G _ _ _ _ _ _ _ _ _ (ab_S nr (ab_u2 (fl_i h x k v) x k v) g rr) _
      refine ab_hm (h' := fl_i h x (k + 1) v) (fl_s h x k v) ?_
      refine ab_iinc (v := nI (k + 1)) (L' := [(2, .int (nI (k + 1))), (0, .ref x), (1, .int v), (3, .int (nI n))]) de_A_fillI_14 2 rfl (by rw [show Int32.ofInt 1 = nI 1 from rfl, ab_add]) (by decide) rfl ?_
      refine ab_goto (tgt := 5) de_A_fillI_17 rfl ?_
      refine ab_sub (L' := [(0, .ref x), (1, .int v), (2, .int (nI (k + 1))), (3, .int (nI n))]) [1, 2, 0, 3] rfl ?_
      exact ih (k + 1) (by omega) (by omega)
set_option maxHeartbeats 1000000 in
set_option maxRecDepth 10000 in
theorem ct_A_fillI (l : Launch) (d : Nat) (nr : Nat) (h : Nat → Nat → Int32) (g : Nat → Nat → Int64) (rr : Nat → Option Nat) {x n : Nat} (hk_ : (ab_K0 ++ List.replicate nr (0, 3))[x]? = some (1, n)) (hn : n < 2 ^ 31) (v : Int32) : ab_C l am_A_fillI d 0 0 [.ref x, .int v] (ab_S nr h g rr) (fun (r_ : Option Value) (M' : ab_Me) => r_ = none ∧ M' = ab_S nr (fl_i h x n v) g rr) := by
  refine ab_C_of (by decide +kernel) rfl (Nat.le_of_ble_eq_true rfl) ?_
  refine ab_iconst (v := 0) de_A_fillI_0 rfl ?_
  refine ab_istore_n (L' := [(2, .int (0 : Int32)), (0, .ref x), (1, .int v)]) de_A_fillI_1 (by decide) rfl ?_
  refine ab_aload_n de_A_fillI_2 1 rfl ?_
  refine ab_alen (v := nI n) hk_ rfl de_A_fillI_3 ?_
  refine ab_istore_n (L' := [(3, .int (nI n)), (2, .int (0 : Int32)), (0, .ref x), (1, .int v)]) de_A_fillI_4 (by decide) rfl ?_
  refine ab_sub (L' := [(0, .ref x), (1, .int v), (2, .int (nI 0)), (3, .int (nI n))]) [2, 3, 1, 0] rfl ?_
  have z := lp_A_fillI l d nr h g rr hk_ hn v (n + 1) 0 (by omega) (by omega)
  rw [fl_0] at z
  exact z
set_option maxHeartbeats 1000000 in
set_option maxRecDepth 10000 in
theorem lp_A_fillJ (l : Launch) (d : Nat) (nr : Nat) (h : Nat → Nat → Int32) (g : Nat → Nat → Int64) (rr : Nat → Option Nat) {x n : Nat} (hk_ : (ab_K0 ++ List.replicate nr (0, 3))[x]? = some (2, n)) (hn : n < 2 ^ 31) (v : Int64) : ∀ (fu_ k : Nat), k ≤ n → n < k + fu_ → ab_G l none am_A_fillJ (d) 0 0 6 [(0, .ref x), (1, .long v), (3, .int (nI k)), (4, .int (nI n))] [] (ab_S nr h (fl_i g x k v) rr) (fun (r_ : Option Value) (M' : ab_Me) => r_ = none ∧ M' = ab_S nr h (fl_i g x n v) rr) := by
  intro fu_
  induction fu_ with
  | zero => intro k h1 h2; omega
  | succ fu_ ih =>
    intro k hN_ hn_
    refine ab_iload_n de_A_fillJ_6 2 rfl ?_
    refine ab_iload de_A_fillJ_7 3 rfl ?_
    refine ab_icmp_ge (tgt := 22) de_A_fillJ_9 rfl (fun c_9_1 => ?_) (fun c_9_1 => ?_)
    · have hk := ab_le_of (n := n) (by omega) (by omega) rfl c_9_1
      exact ab_ret (v := none) de_A_fillJ_22 rfl ⟨rfl, by rw [show k = n by omega]⟩
    · have hk := ab_nle_of (n := n) (by omega) (by omega) rfl c_9_1
      refine ab_aload_n de_A_fillJ_12 0 rfl ?_
      refine ab_iload_n de_A_fillJ_13 2 rfl ?_
      refine ab_lload_n de_A_fillJ_14 1 rfl ?_
      refine ab_last (x := x) hk_ (ab_in (by omega) (by omega)) de_A_fillJ_15 ?_
      rw [ab_tn (n := k) (by omega)]
      change ab_G _ _ _ _ _ _ _ _ _ (ab_S nr h (ab_u2 (fl_i g x k v) x k v) rr) _
      refine ab_gm (g' := fl_i g x (k + 1) v) (fl_s g x k v) ?_
      refine ab_iinc (v := nI (k + 1)) (L' := [(3, .int (nI (k + 1))), (0, .ref x), (1, .long v), (4, .int (nI n))]) de_A_fillJ_16 2 rfl (by rw [show Int32.ofInt 1 = nI 1 from rfl, ab_add]) (by decide) rfl ?_
      refine ab_goto (tgt := 6) de_A_fillJ_19 rfl ?_
      refine ab_sub (L' := [(0, .ref x), (1, .long v), (3, .int (nI (k + 1))), (4, .int (nI n))]) [1, 2, 0, 3] rfl ?_
      exact ih (k + 1) (by omega) (by omega)
set_option maxHeartbeats 1000000 in
set_option maxRecDepth 10000 in
theorem ct_A_fillJ (l : Launch) (d : Nat) (nr : Nat) (h : Nat → Nat → Int32) (g : Nat → Nat → Int64) (rr : Nat → Option Nat) {x n : Nat} (hk_ : (ab_K0 ++ List.replicate nr (0, 3))[x]? = some (2, n)) (hn : n < 2 ^ 31) (v : Int64) : ab_C l am_A_fillJ d 0 0 [.ref x, .long v] (ab_S nr h g rr) (fun (r_ : Option Value) (M' : ab_Me) => r_ = none ∧ M' = ab_S nr h (fl_i g x n v) rr) := by
  refine ab_C_of (by decide +kernel) rfl (Nat.le_of_ble_eq_true rfl) ?_
  refine ab_iconst (v := 0) de_A_fillJ_0 rfl ?_
  refine ab_istore_n (L' := [(3, .int (0 : Int32)), (0, .ref x), (1, .long v)]) de_A_fillJ_1 (by decide) rfl ?_
  refine ab_aload_n de_A_fillJ_2 1 rfl ?_
  refine ab_alen (v := nI n) hk_ rfl de_A_fillJ_3 ?_
  refine ab_istore (L' := [(4, .int (nI n)), (3, .int (0 : Int32)), (0, .ref x), (1, .long v)]) de_A_fillJ_4 (by decide) rfl ?_
  refine ab_sub (L' := [(0, .ref x), (1, .long v), (3, .int (nI 0)), (4, .int (nI n))]) [2, 3, 1, 0] rfl ?_
  have z := lp_A_fillJ l d nr h g rr hk_ hn v (n + 1) 0 (by omega) (by omega)
  rw [fl_0] at z
  exact z
def sp_of (w kd : Int32) : Bool := decide (w = 0 ∨ w = kd ∨ (w = 1 ∧ kd = 2))
set_option maxHeartbeats 1000000 in
set_option maxRecDepth 10000 in
theorem ct_R_isOf (l : Launch) (d : Nat) (nr : Nat) (h : Nat → Nat → Int32) (g : Nat → Nat → Int64) (rr : Nat → Option Nat) {j : Nat} (hj : j < nr) {kd : Int32} (e2 : h (51 + j) 2 = kd) (w : Int32) : ab_C l am_R_isOf d 0 0 [.ref (51 + j), .int w] (ab_S nr h g rr) (fun (r_ : Option Value) (M' : ab_Me) => r_ = some (.int (ab_bz (sp_of w kd))) ∧ M' = (ab_S nr h g rr)) := by
  have hk_ := ab_rk hj
  have hk_r := ab_rkr hj h g rr
  refine ab_C_of (by decide +kernel) rfl (Nat.le_of_ble_eq_true rfl) ?_
  refine ab_iload_n de_R_isOf_0 1 rfl ?_
  refine ab_if_eq (tgt := 25) de_R_isOf_1 rfl (fun c_1_1 => ?_) (fun c_1_1 => ?_)
  · refine ab_iconst (v := 1) de_R_isOf_25 rfl ?_
    refine ab_goto (tgt := 30) de_R_isOf_26 rfl ?_
    exact ab_ret (v := some (.int (1 : Int32))) de_R_isOf_30 ⟨_, rfl, rfl⟩ ⟨congrArg (fun z => some (Value.int z)) (ab_bz_t (decide_eq_true (Or.inl c_1_1))), rfl⟩
  · refine ab_iload_n de_R_isOf_4 1 rfl ?_
    refine ab_aload_n de_R_isOf_5 0 rfl ?_
    refine ab_get (v := .int (h (51 + j) 2)) fl_R_22 hk_ rfl de_R_isOf_6 ?_
    refine ab_top (v' := kd) (e2) ?_
    refine ab_icmp_eq (tgt := 25) de_R_isOf_9 rfl (fun c_9_2 => ?_) (fun c_9_2 => ?_)
    · refine ab_iconst (v := 1) de_R_isOf_25 rfl ?_
      refine ab_goto (tgt := 30) de_R_isOf_26 rfl ?_
      exact ab_ret (v := some (.int (1 : Int32))) de_R_isOf_30 ⟨_, rfl, rfl⟩ ⟨congrArg (fun z => some (Value.int z)) (ab_bz_t (decide_eq_true (Or.inr (Or.inl c_9_2)))), rfl⟩
    · refine ab_iload_n de_R_isOf_12 1 rfl ?_
      refine ab_iconst (v := 1) de_R_isOf_13 rfl ?_
      refine ab_icmp_ne (tgt := 29) de_R_isOf_14 rfl (fun c_14_3 => ?_) (fun c_14_3 => ?_)
      · refine ab_iconst (v := 0) de_R_isOf_29 rfl ?_
        exact ab_ret (v := some (.int (0 : Int32))) de_R_isOf_30 ⟨_, rfl, rfl⟩ ⟨congrArg (fun z => some (Value.int z)) (ab_bz_f (decide_eq_false (fun z => z.elim c_1_1 (fun z => z.elim c_9_2 (fun z => c_14_3 z.1))))), rfl⟩
      · refine ab_aload_n de_R_isOf_17 0 rfl ?_
        refine ab_get (v := .int (h (51 + j) 2)) fl_R_22 hk_ rfl de_R_isOf_18 ?_
        refine ab_top (v' := kd) (e2) ?_
        refine ab_iconst (v := 2) de_R_isOf_21 rfl ?_
        refine ab_icmp_ne (tgt := 29) de_R_isOf_22 rfl (fun c_22_4 => ?_) (fun c_22_4 => ?_)
        · refine ab_iconst (v := 0) de_R_isOf_29 rfl ?_
          exact ab_ret (v := some (.int (0 : Int32))) de_R_isOf_30 ⟨_, rfl, rfl⟩ ⟨congrArg (fun z => some (Value.int z)) (ab_bz_f (decide_eq_false (fun z => z.elim c_1_1 (fun z => z.elim c_9_2 (fun z => c_22_4 z.2))))), rfl⟩
        · refine ab_iconst (v := 1) de_R_isOf_25 rfl ?_
          refine ab_goto (tgt := 30) de_R_isOf_26 rfl ?_
          exact ab_ret (v := some (.int (1 : Int32))) de_R_isOf_30 ⟨_, rfl, rfl⟩ ⟨congrArg (fun z => some (Value.int z)) (ab_bz_t (decide_eq_true (Or.inr (Or.inr ⟨c_14_3, c_22_4⟩)))), rfl⟩
def sp_th (c b : Nat) : Bool := decide (¬ c &&& b = 0 ∨ (¬ c / 1024 = 0 ∧ ¬ b / 1024 = 0))
theorem sp_zand {c b : Nat} (hc : c < 4096) : nI (c &&& b) = 0 ↔ c &&& b = 0 := sp_z (sp_andlt hc)
set_option maxHeartbeats 1000000 in
set_option maxRecDepth 10000 in
theorem ct_R_isThere (l : Launch) (d : Nat) (M : ab_Me) {c b : Nat} (hc : c < 4096) (hb : b < 4096) : ab_C l am_R_isThere d 0 0 [.int (nI c), .int (nI b)] M (fun (r_ : Option Value) (M' : ab_Me) => r_ = some (.int (ab_bz (sp_th c b))) ∧ M' = M) := by
  refine ab_C_of (by decide +kernel) rfl (Nat.le_of_ble_eq_true rfl) ?_
  refine ab_iload_n de_R_isThere_0 0 rfl ?_
  refine ab_iload_n de_R_isThere_1 1 rfl ?_
  refine ab_iand de_R_isThere_2 ?_
  refine ab_top (v' := nI (c &&& b)) (ab_and c b) ?_
  refine ab_if_ne (tgt := 20) de_R_isThere_3 rfl (fun c_3_1 => ?_) (fun c_3_1 => ?_)
  · refine ab_iconst (v := 1) de_R_isThere_20 rfl ?_
    refine ab_goto (tgt := 25) de_R_isThere_21 rfl ?_
    exact ab_ret (v := some (.int (1 : Int32))) de_R_isThere_25 ⟨_, rfl, rfl⟩ ⟨congrArg (fun z => some (Value.int z)) (ab_bz_t (decide_eq_true (Or.inl (fun e => c_3_1 ((sp_zand hc).mpr e))))), rfl⟩
  · refine ab_iload_n de_R_isThere_6 0 rfl ?_
    refine ab_bipush (v := 10) de_R_isThere_7 rfl ?_
    refine ab_ishr de_R_isThere_9 ?_
    refine ab_top (v' := nI (c / 1024)) (sp_10 hc) ?_
    refine ab_if_eq (tgt := 24) de_R_isThere_10 rfl (fun c_10_2 => ?_) (fun c_10_2 => ?_)
    · refine ab_iconst (v := 0) de_R_isThere_24 rfl ?_
      exact ab_ret (v := some (.int (0 : Int32))) de_R_isThere_25 ⟨_, rfl, rfl⟩ ⟨congrArg (fun z => some (Value.int z)) (ab_bz_f (decide_eq_false (fun z => z.elim (fun z => z ((sp_zand hc).mp c_3_1)) (fun z => z.1 ((sp_z10 hc).mp c_10_2))))), rfl⟩
    · refine ab_iload_n de_R_isThere_13 1 rfl ?_
      refine ab_bipush (v := 10) de_R_isThere_14 rfl ?_
      refine ab_ishr de_R_isThere_16 ?_
      refine ab_top (v' := nI (b / 1024)) (sp_10 hb) ?_
      refine ab_if_eq (tgt := 24) de_R_isThere_17 rfl (fun c_17_3 => ?_) (fun c_17_3 => ?_)
      · refine ab_iconst (v := 0) de_R_isThere_24 rfl ?_
        exact ab_ret (v := some (.int (0 : Int32))) de_R_isThere_25 ⟨_, rfl, rfl⟩ ⟨congrArg (fun z => some (Value.int z)) (ab_bz_f (decide_eq_false (fun z => z.elim (fun z => z ((sp_zand hc).mp c_3_1)) (fun z => z.2 ((sp_z10 hb).mp c_17_3))))), rfl⟩
      · refine ab_iconst (v := 1) de_R_isThere_20 rfl ?_
        refine ab_goto (tgt := 25) de_R_isThere_21 rfl ?_
        exact ab_ret (v := some (.int (1 : Int32))) de_R_isThere_25 ⟨_, rfl, rfl⟩ ⟨congrArg (fun z => some (Value.int z)) (ab_bz_t (decide_eq_true (Or.inr ⟨(fun e => c_10_2 ((sp_z10 hc).mpr e)), (fun e => c_17_3 ((sp_z10 hb).mpr e))⟩))), rfl⟩
