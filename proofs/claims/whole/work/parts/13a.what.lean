def sp_sh (x : Int32) : Bool := decide (0 ≤ x ∧ x < 8)
def sp_tk3 (x : Int32) : Bool := decide (0 ≤ x ∧ x < 3)
def sp_cd (x : Int32) : Bool := decide (1 ≤ x ∧ x < 4096)
def sp_x9 (x : Int32) : Bool := decide (0 ≤ x ∧ x ≤ 9)
set_option maxHeartbeats 1000000 in
set_option maxRecDepth 10000 in
theorem ct_W_isShelf (l : Launch) (d : Nat) (M : ab_Me) (x : Int32) : ab_C l am_W_isShelf d 0 0 [.int x] M (fun (r_ : Option Value) (M' : ab_Me) => r_ = some (.int (ab_bz (sp_sh x))) ∧ M' = M) := by
  refine ab_C_of (by decide +kernel) rfl (Nat.le_of_ble_eq_true rfl) ?_
  refine ab_iload_n de_W_isShelf_0 0 rfl ?_
  refine ab_if_lt (tgt := 14) de_W_isShelf_1 rfl (fun c_1_1 => ?_) (fun c_1_1 => ?_)
  · refine ab_iconst (v := 0) de_W_isShelf_14 rfl ?_
    exact ab_ret (v := some (.int (0 : Int32))) de_W_isShelf_15 ⟨_, rfl, rfl⟩ ⟨congrArg (fun z => some (Value.int z)) (ab_bz_f (decide_eq_false (fun z => absurd c_1_1 (Int32.not_lt.mpr z.1)))), rfl⟩
  · refine ab_iload_n de_W_isShelf_4 0 rfl ?_
    refine ab_bipush (v := 8) de_W_isShelf_5 rfl ?_
    refine ab_icmp_ge (tgt := 14) de_W_isShelf_7 rfl (fun c_7_2 => ?_) (fun c_7_2 => ?_)
    · refine ab_iconst (v := 0) de_W_isShelf_14 rfl ?_
      exact ab_ret (v := some (.int (0 : Int32))) de_W_isShelf_15 ⟨_, rfl, rfl⟩ ⟨congrArg (fun z => some (Value.int z)) (ab_bz_f (decide_eq_false (fun z => absurd z.2 (Int32.not_lt.mpr c_7_2)))), rfl⟩
    · refine ab_iconst (v := 1) de_W_isShelf_10 rfl ?_
      refine ab_goto (tgt := 15) de_W_isShelf_11 rfl ?_
      exact ab_ret (v := some (.int (1 : Int32))) de_W_isShelf_15 ⟨_, rfl, rfl⟩ ⟨congrArg (fun z => some (Value.int z)) (ab_bz_t (decide_eq_true ⟨Int32.not_lt.mp c_1_1, Int32.not_le.mp c_7_2⟩)), rfl⟩
set_option maxHeartbeats 1000000 in
set_option maxRecDepth 10000 in
theorem ct_W_isTieKind (l : Launch) (d : Nat) (M : ab_Me) (x : Int32) : ab_C l am_W_isTieKind d 0 0 [.int x] M (fun (r_ : Option Value) (M' : ab_Me) => r_ = some (.int (ab_bz (sp_tk3 x))) ∧ M' = M) := by
  refine ab_C_of (by decide +kernel) rfl (Nat.le_of_ble_eq_true rfl) ?_
  refine ab_iload_n de_W_isTieKind_0 0 rfl ?_
  refine ab_if_lt (tgt := 13) de_W_isTieKind_1 rfl (fun c_1_1 => ?_) (fun c_1_1 => ?_)
  · refine ab_iconst (v := 0) de_W_isTieKind_13 rfl ?_
    exact ab_ret (v := some (.int (0 : Int32))) de_W_isTieKind_14 ⟨_, rfl, rfl⟩ ⟨congrArg (fun z => some (Value.int z)) (ab_bz_f (decide_eq_false (fun z => absurd c_1_1 (Int32.not_lt.mpr z.1)))), rfl⟩
  · refine ab_iload_n de_W_isTieKind_4 0 rfl ?_
    refine ab_iconst (v := 3) de_W_isTieKind_5 rfl ?_
    refine ab_icmp_ge (tgt := 13) de_W_isTieKind_6 rfl (fun c_6_2 => ?_) (fun c_6_2 => ?_)
    · refine ab_iconst (v := 0) de_W_isTieKind_13 rfl ?_
      exact ab_ret (v := some (.int (0 : Int32))) de_W_isTieKind_14 ⟨_, rfl, rfl⟩ ⟨congrArg (fun z => some (Value.int z)) (ab_bz_f (decide_eq_false (fun z => absurd z.2 (Int32.not_lt.mpr c_6_2)))), rfl⟩
    · refine ab_iconst (v := 1) de_W_isTieKind_9 rfl ?_
      refine ab_goto (tgt := 14) de_W_isTieKind_10 rfl ?_
      exact ab_ret (v := some (.int (1 : Int32))) de_W_isTieKind_14 ⟨_, rfl, rfl⟩ ⟨congrArg (fun z => some (Value.int z)) (ab_bz_t (decide_eq_true ⟨Int32.not_lt.mp c_1_1, Int32.not_le.mp c_6_2⟩)), rfl⟩
set_option maxHeartbeats 1000000 in
set_option maxRecDepth 10000 in
theorem ct_W_isCode (l : Launch) (d : Nat) (M : ab_Me) (x : Int32) : ab_C l am_W_isCode d 0 0 [.int x] M (fun (r_ : Option Value) (M' : ab_Me) => r_ = some (.int (ab_bz (sp_cd x))) ∧ M' = M) := by
  refine ab_C_of (by decide +kernel) rfl (Nat.le_of_ble_eq_true rfl) ?_
  refine ab_iload_n de_W_isCode_0 0 rfl ?_
  refine ab_iconst (v := 1) de_W_isCode_1 rfl ?_
  refine ab_icmp_lt (tgt := 16) de_W_isCode_2 rfl (fun c_2_1 => ?_) (fun c_2_1 => ?_)
  · refine ab_iconst (v := 0) de_W_isCode_16 rfl ?_
    exact ab_ret (v := some (.int (0 : Int32))) de_W_isCode_17 ⟨_, rfl, rfl⟩ ⟨congrArg (fun z => some (Value.int z)) (ab_bz_f (decide_eq_false (fun z => absurd c_2_1 (Int32.not_lt.mpr z.1)))), rfl⟩
  · refine ab_iload_n de_W_isCode_5 0 rfl ?_
    refine ab_sipush (v := 4096) de_W_isCode_6 rfl ?_
    refine ab_icmp_ge (tgt := 16) de_W_isCode_9 rfl (fun c_9_2 => ?_) (fun c_9_2 => ?_)
    · refine ab_iconst (v := 0) de_W_isCode_16 rfl ?_
      exact ab_ret (v := some (.int (0 : Int32))) de_W_isCode_17 ⟨_, rfl, rfl⟩ ⟨congrArg (fun z => some (Value.int z)) (ab_bz_f (decide_eq_false (fun z => absurd z.2 (Int32.not_lt.mpr c_9_2)))), rfl⟩
    · refine ab_iconst (v := 1) de_W_isCode_12 rfl ?_
      refine ab_goto (tgt := 17) de_W_isCode_13 rfl ?_
      exact ab_ret (v := some (.int (1 : Int32))) de_W_isCode_17 ⟨_, rfl, rfl⟩ ⟨congrArg (fun z => some (Value.int z)) (ab_bz_t (decide_eq_true ⟨Int32.not_lt.mp c_2_1, Int32.not_le.mp c_9_2⟩)), rfl⟩
set_option maxHeartbeats 1000000 in
set_option maxRecDepth 10000 in
theorem ct_W_isX (l : Launch) (d : Nat) (M : ab_Me) (x : Int32) : ab_C l am_W_isX d 0 0 [.int x] M (fun (r_ : Option Value) (M' : ab_Me) => r_ = some (.int (ab_bz (sp_x9 x))) ∧ M' = M) := by
  refine ab_C_of (by decide +kernel) rfl (Nat.le_of_ble_eq_true rfl) ?_
  refine ab_iload_n de_W_isX_0 0 rfl ?_
  refine ab_if_lt (tgt := 14) de_W_isX_1 rfl (fun c_1_1 => ?_) (fun c_1_1 => ?_)
  · refine ab_iconst (v := 0) de_W_isX_14 rfl ?_
    exact ab_ret (v := some (.int (0 : Int32))) de_W_isX_15 ⟨_, rfl, rfl⟩ ⟨congrArg (fun z => some (Value.int z)) (ab_bz_f (decide_eq_false (fun z => absurd c_1_1 (Int32.not_lt.mpr z.1)))), rfl⟩
  · refine ab_iload_n de_W_isX_4 0 rfl ?_
    refine ab_bipush (v := 9) de_W_isX_5 rfl ?_
    refine ab_icmp_gt (tgt := 14) de_W_isX_7 rfl (fun c_7_2 => ?_) (fun c_7_2 => ?_)
    · refine ab_iconst (v := 0) de_W_isX_14 rfl ?_
      exact ab_ret (v := some (.int (0 : Int32))) de_W_isX_15 ⟨_, rfl, rfl⟩ ⟨congrArg (fun z => some (Value.int z)) (ab_bz_f (decide_eq_false (fun z => absurd z.2 (Int32.not_le.mpr c_7_2)))), rfl⟩
    · refine ab_iconst (v := 1) de_W_isX_10 rfl ?_
      refine ab_goto (tgt := 15) de_W_isX_11 rfl ?_
      exact ab_ret (v := some (.int (1 : Int32))) de_W_isX_15 ⟨_, rfl, rfl⟩ ⟨congrArg (fun z => some (Value.int z)) (ab_bz_t (decide_eq_true ⟨Int32.not_lt.mp c_1_1, Int32.not_lt.mp c_7_2⟩)), rfl⟩
theorem sp_sh_in {x : Int32} (h : ¬ ab_bz (sp_sh x) = 0) : vp_in x 8 := by
  have h1 := of_decide_eq_true ((ab_bz1 _).mp h)
  obtain ⟨n, hn, rfl⟩ := sp_nn (Int32.not_lt.mpr h1.1)
  exact ab_in ((ab_lt (b := 8) hn (by decide)).mp h1.2) (by decide)
theorem sp_sh_t {x : Int32} (h : ¬ ab_bz (sp_sh x) = 0) : x.toNatClampNeg < 8 := by
  have h1 := of_decide_eq_true ((ab_bz1 _).mp h)
  obtain ⟨n, hn, rfl⟩ := sp_nn (Int32.not_lt.mpr h1.1)
  rw [ab_tn hn]
  exact (ab_lt (b := 8) hn (by decide)).mp h1.2
theorem ab_rald' {l : Launch} {X : Option (Nat × (Nat → Int32))} {y : ab_M} {d kc ks : Nat} {K : Option Value → ab_Me → Prop} {pc : Nat} {L : List (Nat × Value)} {st : List Value} {nr j : Nat} {h : Nat → Nat → Int32} {g : Nat → Nat → Int64} {rr : Nat → Option Nat} {i : Int32} (hin : vp_in i 8) (hj : i.toNatClampNeg = j) (hd : decode y.2.1 pc = .ok (.aaload, 1)) (k : ab_G l X y d kc ks (pc + 1) L (.ref (4 + j) :: st) (ab_S nr h g rr) K) : ab_G l X y d kc ks pc L (.int i :: .ref 3 :: st) (ab_S nr h g rr) K :=
  ab_rald (M := ab_S nr h g rr) (n := 8) rfl hin (by
    subst hj
    have hlt : i.toNatClampNeg < 8 := Nat.not_le.mp fun q => hin (Or.inr q)
    show va_rf (if i.toNatClampNeg < 8 then some (4 + i.toNatClampNeg) else none) = _
    rw [if_pos hlt]
    rfl) hd k
set_option maxHeartbeats 1000000 in
set_option maxRecDepth 10000 in
theorem ct_W_refuseTold (l : Launch) (d : Nat) (nr : Nat) (h : Nat → Nat → Int32) (g : Nat → Nat → Int64) (rr : Nat → Option Nat) {r : Int32} {k : Nat} (hr : -r = nI k) (hk : k < 8) (t : Int32) : ab_C l am_W_refuseTold d 0 0 [.ref 0, .int r, .int t] (ab_S nr h g rr) (fun (r_ : Option Value) (M' : ab_Me) => r_ = some (.int t) ∧ M' = (ab_S nr (ab_u2 h 28 k (h 28 k + 1)) g rr)) := by
  refine ab_C_of (by decide +kernel) rfl (Nat.le_of_ble_eq_true rfl) ?_
  refine ab_aload_n de_W_refuseTold_0 0 rfl ?_
  refine ab_get (v := .ref 28) fl_W_59 rfl rfl de_W_refuseTold_1 ?_
  refine ab_iload_n de_W_refuseTold_4 1 rfl ?_
  refine ab_ineg de_W_refuseTold_5 ?_
  refine ab_top (v' := nI k) (hr) ?_
  refine ab_dup2 de_W_refuseTold_6 rfl rfl ?_
  refine ab_iald (v := h 28 k) rfl (ab_in (n := k) (by omega) (by decide)) (ab_hv (ab_tn (n := k) (by omega))) de_W_refuseTold_7 ?_
  refine ab_iconst (v := 1) de_W_refuseTold_8 rfl ?_
  refine ab_iadd de_W_refuseTold_9 ?_
  refine ab_iast (x := 28) rfl (ab_in (n := k) (by omega) (by decide)) de_W_refuseTold_10 ?_
  rw [ab_tn (n := k) (by omega)]
  change ab_G _ _ _ _ _ _ _ _ _ (ab_S nr (ab_u2 h 28 k ((h 28 k) + (1 : Int32))) g rr) _
  refine ab_iload_n de_W_refuseTold_11 2 rfl ?_
  exact ab_ret (v := some (.int t)) de_W_refuseTold_12 ⟨_, rfl⟩ ⟨rfl, rfl⟩
set_option maxHeartbeats 1000000 in
set_option maxRecDepth 10000 in
theorem ct_W_refuse (l : Launch) (d : Nat) (nr : Nat) (h : Nat → Nat → Int32) (g : Nat → Nat → Int64) (rr : Nat → Option Nat) {r : Int32} {k : Nat} (hr : -r = nI k) (hk : k < 8) : ab_C l am_W_refuse (d + 1) 0 0 [.ref 0, .int r] (ab_S nr h g rr) (fun (r_ : Option Value) (M' : ab_Me) => r_ = some (.int r) ∧ M' = (ab_S nr (ab_u2 h 28 k (h 28 k + 1)) g rr)) := by
  refine ab_C_of (by decide +kernel) rfl (Nat.le_of_ble_eq_true rfl) ?_
  refine ab_aload_n de_W_refuse_0 0 rfl ?_
  refine ab_iload_n de_W_refuse_1 1 rfl ?_
  refine ab_iload_n de_W_refuse_2 1 rfl ?_
  refine ab_cV (as := [.int r, .int r]) (st := []) (ct_W_refuseTold l _ nr h g rr hr hk r) mo_W_refuseTold mi_W_refuseTold ml_W_199 rfl (by decide) rfl rfl rfl (Nat.le_of_ble_eq_true rfl) de_W_refuse_3 (fun v_ M_ hK_ hl_ hv_ => ?_)
  obtain ⟨rfl, hm_⟩ := hK_
  have hm_ := hm_.symm
  subst hm_
  change ab_G _ _ _ _ _ _ _ [(0, .ref 0), (1, .int r)] [.int r] (ab_S nr (ab_u2 h 28 k (h 28 k + 1)) g rr) _
  exact ab_ret (v := some (.int r)) de_W_refuse_6 ⟨_, rfl⟩ ⟨rfl, rfl⟩
def fv_W_rowRefusal (h : Nat → Nat → Int32) (s : Int32) : Int32 :=
  if (ab_bz (sp_sh s)) = 0 then
    (-1 : Int32)
  else
    if (h 1 s.toNatClampNeg) = (-1 : Int32) then
      (-3 : Int32)
    else
      if (100 : Int32) ≤ (h 1 s.toNatClampNeg) then
        (0 : Int32)
      else
        (-2 : Int32)
set_option maxHeartbeats 1000000 in
set_option maxRecDepth 10000 in
theorem ct_W_rowRefusal (l : Launch) (d : Nat) (nr : Nat) (h : Nat → Nat → Int32) (g : Nat → Nat → Int64) (rr : Nat → Option Nat) (s : Int32) : ab_C l am_W_rowRefusal (d + 1) 0 0 [.ref 0, .int s] (ab_S nr h g rr) (fun (r_ : Option Value) (M' : ab_Me) => r_ = some (.int (fv_W_rowRefusal h s)) ∧ M' = (ab_S nr h g rr)) := by
  refine ab_C_of (by decide +kernel) rfl (Nat.le_of_ble_eq_true rfl) ?_
  refine ab_iload_n de_W_rowRefusal_0 1 rfl ?_
  refine ab_cS (as := [.int s]) (st := []) (ct_W_isShelf l _ (ab_S nr h g rr) (s)) mo_W_isShelf ms_W_isShelf ml_W_84 rfl rfl (Nat.le_of_ble_eq_true rfl) de_W_rowRefusal_1 (fun v_ M_ hK_ hl_ hv_ => ?_)
  obtain ⟨rfl, hm_⟩ := hK_
  have hm_ := hm_.symm
  subst hm_
  change ab_G _ _ _ _ _ _ _ [(0, .ref 0), (1, .int s)] [.int (ab_bz (sp_sh s))] (ab_S nr h g rr) _
  refine ab_if_ne (tgt := 9) de_W_rowRefusal_4 rfl (fun c_4_1 => ?_) (fun c_4_1 => ?_)
  · refine ab_aload_n de_W_rowRefusal_9 0 rfl ?_
    refine ab_get (v := .ref 1) fl_W_9 rfl rfl de_W_rowRefusal_10 ?_
    refine ab_iload_n de_W_rowRefusal_13 1 rfl ?_
    refine ab_iald (v := h 1 s.toNatClampNeg) rfl (sp_sh_in c_4_1) rfl de_W_rowRefusal_14 ?_
    refine ab_iconst (v := -1) de_W_rowRefusal_15 rfl ?_
    refine ab_icmp_ne (tgt := 22) de_W_rowRefusal_16 rfl (fun c_16_2 => ?_) (fun c_16_2 => ?_)
    · refine ab_aload_n de_W_rowRefusal_22 0 rfl ?_
      refine ab_get (v := .ref 1) fl_W_9 rfl rfl de_W_rowRefusal_23 ?_
      refine ab_iload_n de_W_rowRefusal_26 1 rfl ?_
      refine ab_iald (v := h 1 s.toNatClampNeg) rfl (sp_sh_in c_4_1) rfl de_W_rowRefusal_27 ?_
      refine ab_bipush (v := 100) de_W_rowRefusal_28 rfl ?_
      refine ab_icmp_ge (tgt := 38) de_W_rowRefusal_30 rfl (fun c_30_3 => ?_) (fun c_30_3 => ?_)
      · refine ab_iconst (v := 0) de_W_rowRefusal_38 rfl ?_
        exact ab_ret (v := some (.int (0 : Int32))) de_W_rowRefusal_39 ⟨_, rfl⟩ ⟨congrArg (fun z => some (Value.int z)) (by unfold fv_W_rowRefusal; rw [if_neg c_4_1, if_neg c_16_2, if_pos c_30_3]), rfl⟩
      · refine ab_bipush (v := -2) de_W_rowRefusal_33 rfl ?_
        refine ab_goto (tgt := 39) de_W_rowRefusal_35 rfl ?_
        exact ab_ret (v := some (.int (-2 : Int32))) de_W_rowRefusal_39 ⟨_, rfl⟩ ⟨congrArg (fun z => some (Value.int z)) (by unfold fv_W_rowRefusal; rw [if_neg c_4_1, if_neg c_16_2, if_neg c_30_3]), rfl⟩
    · refine ab_bipush (v := -3) de_W_rowRefusal_19 rfl ?_
      exact ab_ret (v := some (.int (-3 : Int32))) de_W_rowRefusal_21 ⟨_, rfl⟩ ⟨congrArg (fun z => some (Value.int z)) (by unfold fv_W_rowRefusal; rw [if_neg c_4_1, if_pos c_16_2]), rfl⟩
  · refine ab_iconst (v := -1) de_W_rowRefusal_7 rfl ?_
    exact ab_ret (v := some (.int (-1 : Int32))) de_W_rowRefusal_8 ⟨_, rfl⟩ ⟨congrArg (fun z => some (Value.int z)) (by unfold fv_W_rowRefusal; rw [if_pos c_4_1]), rfl⟩
def fv_W_twoRowsRefusal (h : Nat → Nat → Int32) (p q : Int32) : Int32 :=
  if (fv_W_rowRefusal h p) = 0 then
    ((fv_W_rowRefusal h p) + (fv_W_rowRefusal h q))
  else
    if (fv_W_rowRefusal h q) = 0 then
      ((fv_W_rowRefusal h p) + (fv_W_rowRefusal h q))
    else
      (if (fv_W_rowRefusal h p) < (fv_W_rowRefusal h q) then (fv_W_rowRefusal h q) else (fv_W_rowRefusal h p))
set_option maxHeartbeats 1000000 in
set_option maxRecDepth 10000 in
theorem ct_W_twoRowsRefusal (l : Launch) (d : Nat) (nr : Nat) (h : Nat → Nat → Int32) (g : Nat → Nat → Int64) (rr : Nat → Option Nat) (p q : Int32) : ab_C l am_W_twoRowsRefusal (d + 2) 0 0 [.ref 0, .int p, .int q] (ab_S nr h g rr) (fun (r_ : Option Value) (M' : ab_Me) => r_ = some (.int (fv_W_twoRowsRefusal h p q)) ∧ M' = (ab_S nr h g rr)) := by
  refine ab_C_of (by decide +kernel) rfl (Nat.le_of_ble_eq_true rfl) ?_
  refine ab_aload_n de_W_twoRowsRefusal_0 0 rfl ?_
  refine ab_iload_n de_W_twoRowsRefusal_1 1 rfl ?_
  refine ab_cV (as := [.int p]) (st := []) (ct_W_rowRefusal l _ nr h g rr (p)) mo_W_rowRefusal mi_W_rowRefusal ml_W_95 rfl (by decide) rfl rfl rfl (Nat.le_of_ble_eq_true rfl) de_W_twoRowsRefusal_2 (fun v_ M_ hK_ hl_ hv_ => ?_)
  obtain ⟨rfl, hm_⟩ := hK_
  have hm_ := hm_.symm
  subst hm_
  change ab_G _ _ _ _ _ _ _ [(0, .ref 0), (1, .int p), (2, .int q)] [.int (fv_W_rowRefusal h p)] (ab_S nr h g rr) _
  refine ab_istore_n (L' := [(3, .int (fv_W_rowRefusal h p)), (0, .ref 0), (1, .int p), (2, .int q)]) de_W_twoRowsRefusal_5 (by decide) rfl ?_
  refine ab_aload_n de_W_twoRowsRefusal_6 1 rfl ?_
  refine ab_iload_n de_W_twoRowsRefusal_7 3 rfl ?_
  refine ab_cV (as := [.int q]) (st := []) (ct_W_rowRefusal l _ nr h g rr (q)) mo_W_rowRefusal mi_W_rowRefusal ml_W_95 rfl (by decide) rfl rfl rfl (Nat.le_of_ble_eq_true rfl) de_W_twoRowsRefusal_8 (fun v_ M_ hK_ hl_ hv_ => ?_)
  obtain ⟨rfl, hm_⟩ := hK_
  have hm_ := hm_.symm
  subst hm_
  change ab_G _ _ _ _ _ _ _ [(3, .int (fv_W_rowRefusal h p)), (0, .ref 0), (1, .int p), (2, .int q)] [.int (fv_W_rowRefusal h q)] (ab_S nr h g rr) _
  refine ab_istore (L' := [(4, .int (fv_W_rowRefusal h q)), (3, .int (fv_W_rowRefusal h p)), (0, .ref 0), (1, .int p), (2, .int q)]) de_W_twoRowsRefusal_11 (by decide) rfl ?_
  refine ab_iload_n de_W_twoRowsRefusal_13 1 rfl ?_
  refine ab_if_eq (tgt := 22) de_W_twoRowsRefusal_14 rfl (fun c_14_1 => ?_) (fun c_14_1 => ?_)
  · refine ab_iload_n de_W_twoRowsRefusal_22 1 rfl ?_
    refine ab_iload de_W_twoRowsRefusal_23 0 rfl ?_
    refine ab_iadd de_W_twoRowsRefusal_25 ?_
    exact ab_ret (v := some (.int ((fv_W_rowRefusal h p) + (fv_W_rowRefusal h q)))) de_W_twoRowsRefusal_26 ⟨_, rfl⟩ ⟨congrArg (fun z => some (Value.int z)) (by unfold fv_W_twoRowsRefusal; rw [if_pos c_14_1]), rfl⟩
  · refine ab_iload de_W_twoRowsRefusal_17 0 rfl ?_
    refine ab_if_ne (tgt := 27) de_W_twoRowsRefusal_19 rfl (fun c_19_2 => ?_) (fun c_19_2 => ?_)
    · refine ab_iload_n de_W_twoRowsRefusal_27 1 rfl ?_
      refine ab_iload de_W_twoRowsRefusal_28 0 rfl ?_
      refine ab_max (ab_w1 213 rfl rfl) (Nat.le_of_ble_eq_true rfl) de_W_twoRowsRefusal_30 ?_
      exact ab_ret (v := some (.int (if (fv_W_rowRefusal h p) < (fv_W_rowRefusal h q) then (fv_W_rowRefusal h q) else (fv_W_rowRefusal h p)))) de_W_twoRowsRefusal_33 ⟨_, rfl⟩ ⟨congrArg (fun z => some (Value.int z)) (by unfold fv_W_twoRowsRefusal; rw [if_neg c_14_1, if_neg c_19_2]), rfl⟩
    · refine ab_iload_n de_W_twoRowsRefusal_22 1 rfl ?_
      refine ab_iload de_W_twoRowsRefusal_23 0 rfl ?_
      refine ab_iadd de_W_twoRowsRefusal_25 ?_
      exact ab_ret (v := some (.int ((fv_W_rowRefusal h p) + (fv_W_rowRefusal h q)))) de_W_twoRowsRefusal_26 ⟨_, rfl⟩ ⟨congrArg (fun z => some (Value.int z)) (by unfold fv_W_twoRowsRefusal; rw [if_neg c_14_1, if_pos c_19_2]), rfl⟩
