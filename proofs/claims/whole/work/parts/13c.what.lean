theorem ab_r3 {nr n : Nat} {h : Nat → Nat → Int32} {g : Nat → Nat → Int64} {rr : Nat → Option Nat} (hn : n < 8) : va_rf ((ab_S nr h g rr).2.2.2 3 (nI n).toNatClampNeg) = .ref (4 + n) := by
  rw [ab_tn (by omega)]
  show va_rf (if n < 8 then some (4 + n) else none) = _
  rw [if_pos hn]
  rfl
/-- a test, written or not -/
theorem ab_bzd (p : Prop) [Decidable p] : ab_bz (decide p) = if p then 1 else 0 := by unfold ab_bz; by_cases h : p <;> simp [h]
set_option maxHeartbeats 1000000 in
set_option maxRecDepth 10000 in
theorem ct_W_isRule (l : Launch) (d : Nat) (nr : Nat) (h : Nat → Nat → Int32) (g : Nat → Nat → Int64) (rr : Nat → Option Nat) {n_ : Nat} (hR0 : h 0 4 = nI n_) (x : Int32) : ab_C l am_W_isRule d 0 0 [.ref 0, .int x] (ab_S nr h g rr) (fun (r_ : Option Value) (M' : ab_Me) => r_ = some (.int (ab_bz (decide (0 ≤ x ∧ x < nI n_)))) ∧ M' = (ab_S nr h g rr)) := by
  refine ab_C_of (by decide +kernel) rfl (Nat.le_of_ble_eq_true rfl) ?_
  refine ab_iload_n de_W_isRule_0 1 rfl ?_
  refine ab_if_lt (tgt := 16) de_W_isRule_1 rfl (fun c_1_1 => ?_) (fun c_1_1 => ?_)
  · refine ab_iconst (v := 0) de_W_isRule_16 rfl ?_
    exact ab_ret (v := some (.int (0 : Int32))) de_W_isRule_17 ⟨_, rfl, rfl⟩ ⟨congrArg (fun z => some (Value.int z)) (ab_bz_f (decide_eq_false (fun z => absurd c_1_1 (Int32.not_lt.mpr z.1)))), rfl⟩
  · refine ab_iload_n de_W_isRule_4 1 rfl ?_
    refine ab_aload_n de_W_isRule_5 0 rfl ?_
    refine ab_get (v := .int (h 0 4)) fl_W_27 rfl rfl de_W_isRule_6 ?_
    refine ab_top (v' := nI n_) (hR0) ?_
    refine ab_icmp_ge (tgt := 16) de_W_isRule_9 rfl (fun c_9_2 => ?_) (fun c_9_2 => ?_)
    · refine ab_iconst (v := 0) de_W_isRule_16 rfl ?_
      exact ab_ret (v := some (.int (0 : Int32))) de_W_isRule_17 ⟨_, rfl, rfl⟩ ⟨congrArg (fun z => some (Value.int z)) (ab_bz_f (decide_eq_false (fun z => absurd z.2 (Int32.not_lt.mpr c_9_2)))), rfl⟩
    · refine ab_iconst (v := 1) de_W_isRule_12 rfl ?_
      refine ab_goto (tgt := 17) de_W_isRule_13 rfl ?_
      exact ab_ret (v := some (.int (1 : Int32))) de_W_isRule_17 ⟨_, rfl, rfl⟩ ⟨congrArg (fun z => some (Value.int z)) (ab_bz_t (decide_eq_true ⟨Int32.not_lt.mp c_1_1, Int32.not_le.mp c_9_2⟩)), rfl⟩
def fx_W_row (nr : Nat) (h : Nat → Nat → Int32) (g : Nat → Nat → Int64) (rr : Nat → Option Nat)   (s x y : Int32) : Option Value × ab_Me :=
  if (ab_bz (sp_sh s)) = 0 then
    (some (.int (-1 : Int32)), (ab_S nr (ab_u2 h 28 1 (h 28 1 + 1)) g rr))
  else
    if 0 ≤ y then
      if x < 0 then
        (some (.int (-6 : Int32)), (ab_S nr (ab_u2 h 28 6 (h 28 6 + 1)) g rr))
      else
        if x < (4 : Int32) then
          if y ≤ (60 : Int32) then
            (some (.int (1 : Int32)), (ab_S nr (ab_u2 (ab_u2 h 1 s.toNatClampNeg ((100 : Int32) + x)) 2 s.toNatClampNeg y) (fl_i g (4 + s.toNatClampNeg) 60 (0 : Int64)) rr))
          else
            (some (.int (-7 : Int32)), (ab_S nr (ab_u2 h 28 7 (h 28 7 + 1)) g rr))
        else
          (some (.int (-6 : Int32)), (ab_S nr (ab_u2 h 28 6 (h 28 6 + 1)) g rr))
    else
      (some (.int (-4 : Int32)), (ab_S nr (ab_u2 h 28 4 (h 28 4 + 1)) g rr))
set_option maxHeartbeats 1000000 in
set_option maxRecDepth 10000 in
theorem ct_W_row (l : Launch) (d : Nat) (nr : Nat) (h : Nat → Nat → Int32) (g : Nat → Nat → Int64) (rr : Nat → Option Nat)   (s x y : Int32) : ab_C l am_W_row (d + 2) 0 0 [.ref 0, .int s, .int x, .int y] (ab_S nr h g rr) (fun r_ M' => (r_, M') = fx_W_row nr h g rr s x y) := by
  refine ab_C_of (by decide +kernel) rfl (Nat.le_of_ble_eq_true rfl) ?_
  refine ab_iload_n de_W_row_0 1 rfl ?_
  refine ab_cS (as := [.int s]) (st := []) (ct_W_isShelf l _ (ab_S nr h g rr) (s)) mo_W_isShelf ms_W_isShelf ml_W_84 rfl rfl (Nat.le_of_ble_eq_true rfl) de_W_row_1 (fun v_ M_ hK_ hl_ hv_ => ?_)
  obtain ⟨rfl, hm_⟩ := hK_
  have hm_ := hm_.symm
  subst hm_
  change ab_G _ _ _ _ _ _ _ [(0, .ref 0), (1, .int s), (2, .int x), (3, .int y)] [.int (ab_bz (sp_sh s))] (ab_S nr h g rr) _
  refine ab_if_ne (tgt := 13) de_W_row_4 rfl (fun c_4_1 => ?_) (fun c_4_1 => ?_)
  · obtain ⟨sn, hsn, rfl⟩ := sp_sh_n c_4_1
    refine ab_iload_n de_W_row_13 3 rfl ?_
    refine ab_if_ge (tgt := 24) de_W_row_14 rfl (fun c_14_2 => ?_) (fun c_14_2 => ?_)
    · refine ab_iload_n de_W_row_24 2 rfl ?_
      refine ab_if_lt (tgt := 33) de_W_row_25 rfl (fun c_25_3 => ?_) (fun c_25_3 => ?_)
      · refine ab_aload_n de_W_row_33 0 rfl ?_
        refine ab_bipush (v := -6) de_W_row_34 rfl ?_
        refine ab_cV (as := [.int (-6 : Int32)]) (st := []) (ct_W_refuse l _ nr h g rr (r := (-6 : Int32)) (k := 6) (by decide) (by decide)) mo_W_refuse mi_W_refuse ml_W_88 rfl (by decide) rfl rfl rfl (Nat.le_of_ble_eq_true rfl) de_W_row_36 (fun v_ M_ hK_ hl_ hv_ => ?_)
        obtain ⟨rfl, hm_⟩ := hK_
        have hm_ := hm_.symm
        subst hm_
        change ab_G _ _ _ _ _ _ _ [(0, .ref 0), (1, .int (nI sn)), (2, .int x), (3, .int y)] [.int (-6 : Int32)] (ab_S nr (ab_u2 h 28 6 (h 28 6 + 1)) g rr) _
        exact ab_ret (v := some (.int (-6 : Int32))) de_W_row_39 ⟨_, rfl⟩ (by unfold fx_W_row; try simp only [ab_tn (show sn < 2 ^ 31 by omega)]; rw [if_neg c_4_1, if_pos c_14_2, if_pos c_25_3])
      · refine ab_iload_n de_W_row_28 2 rfl ?_
        refine ab_iconst (v := 4) de_W_row_29 rfl ?_
        refine ab_icmp_lt (tgt := 40) de_W_row_30 rfl (fun c_30_4 => ?_) (fun c_30_4 => ?_)
        · refine ab_iload_n de_W_row_40 3 rfl ?_
          refine ab_bipush (v := 60) de_W_row_41 rfl ?_
          refine ab_icmp_le (tgt := 53) de_W_row_43 rfl (fun c_43_5 => ?_) (fun c_43_5 => ?_)
          · refine ab_aload_n de_W_row_53 0 rfl ?_
            refine ab_get (v := .ref 1) fl_W_9 rfl rfl de_W_row_54 ?_
            refine ab_iload_n de_W_row_57 1 rfl ?_
            refine ab_bipush (v := 100) de_W_row_58 rfl ?_
            refine ab_iload_n de_W_row_60 2 rfl ?_
            refine ab_iadd de_W_row_61 ?_
            refine ab_iast (x := 1) rfl (ab_in (by omega) (by decide)) de_W_row_62 ?_
            rw [(ab_tn (n := sn) (by omega))]
            change ab_G _ _ _ _ _ _ _ _ _ (ab_S nr (ab_u2 h 1 sn ((100 : Int32) + x)) g rr) _
            refine ab_aload_n de_W_row_63 0 rfl ?_
            refine ab_get (v := .ref 2) fl_W_13 rfl rfl de_W_row_64 ?_
            refine ab_iload_n de_W_row_67 1 rfl ?_
            refine ab_iload_n de_W_row_68 3 rfl ?_
            refine ab_iast (x := 2) rfl (ab_in (by omega) (by decide)) de_W_row_69 ?_
            rw [(ab_tn (n := sn) (by omega))]
            change ab_G _ _ _ _ _ _ _ _ _ (ab_S nr (ab_u2 (ab_u2 h 1 sn ((100 : Int32) + x)) 2 sn y) g rr) _
            refine ab_aload_n de_W_row_70 0 rfl ?_
            refine ab_get (v := .ref 3) fl_W_18 rfl rfl de_W_row_71 ?_
            refine ab_iload_n de_W_row_74 1 rfl ?_
            refine ab_rald (v := .ref (4 + sn)) rfl (ab_in (by omega) (by decide)) (ab_r3 (by omega)) de_W_row_75 ?_
            refine ab_lconst (v := 0) de_W_row_76 rfl ?_
            refine ab_cS (as := [.ref (4 + sn), .long (0 : Int64)]) (st := []) (ct_A_fillJ l _ nr (ab_u2 (ab_u2 h 1 sn ((100 : Int32) + x)) 2 sn y) g rr (ab_rk4 (j := sn) (by omega)) (by decide) (0 : Int64)) mo_A_fillJ ms_A_fillJ ml_W_92 rfl rfl (Nat.le_of_ble_eq_true rfl) de_W_row_77 (fun v_ M_ hK_ hl_ hv_ => ?_)
            obtain ⟨rfl, hm_⟩ := hK_
            have hm_ := hm_.symm
            subst hm_
            change ab_G _ _ _ _ _ _ _ [(0, .ref 0), (1, .int (nI sn)), (2, .int x), (3, .int y)] [] (ab_S nr (ab_u2 (ab_u2 h 1 sn ((100 : Int32) + x)) 2 sn y) (fl_i g (4 + sn) 60 (0 : Int64)) rr) _
            refine ab_iconst (v := 1) de_W_row_80 rfl ?_
            exact ab_ret (v := some (.int (1 : Int32))) de_W_row_81 ⟨_, rfl⟩ (by unfold fx_W_row; try simp only [ab_tn (show sn < 2 ^ 31 by omega)]; rw [if_neg c_4_1, if_pos c_14_2, if_neg c_25_3, if_pos c_30_4, if_pos c_43_5])
          · refine ab_aload_n de_W_row_46 0 rfl ?_
            refine ab_bipush (v := -7) de_W_row_47 rfl ?_
            refine ab_cV (as := [.int (-7 : Int32)]) (st := []) (ct_W_refuse l _ nr h g rr (r := (-7 : Int32)) (k := 7) (by decide) (by decide)) mo_W_refuse mi_W_refuse ml_W_88 rfl (by decide) rfl rfl rfl (Nat.le_of_ble_eq_true rfl) de_W_row_49 (fun v_ M_ hK_ hl_ hv_ => ?_)
            obtain ⟨rfl, hm_⟩ := hK_
            have hm_ := hm_.symm
            subst hm_
            change ab_G _ _ _ _ _ _ _ [(0, .ref 0), (1, .int (nI sn)), (2, .int x), (3, .int y)] [.int (-7 : Int32)] (ab_S nr (ab_u2 h 28 7 (h 28 7 + 1)) g rr) _
            exact ab_ret (v := some (.int (-7 : Int32))) de_W_row_52 ⟨_, rfl⟩ (by unfold fx_W_row; try simp only [ab_tn (show sn < 2 ^ 31 by omega)]; rw [if_neg c_4_1, if_pos c_14_2, if_neg c_25_3, if_pos c_30_4, if_neg c_43_5])
        · refine ab_aload_n de_W_row_33 0 rfl ?_
          refine ab_bipush (v := -6) de_W_row_34 rfl ?_
          refine ab_cV (as := [.int (-6 : Int32)]) (st := []) (ct_W_refuse l _ nr h g rr (r := (-6 : Int32)) (k := 6) (by decide) (by decide)) mo_W_refuse mi_W_refuse ml_W_88 rfl (by decide) rfl rfl rfl (Nat.le_of_ble_eq_true rfl) de_W_row_36 (fun v_ M_ hK_ hl_ hv_ => ?_)
          obtain ⟨rfl, hm_⟩ := hK_
          have hm_ := hm_.symm
          subst hm_
          change ab_G _ _ _ _ _ _ _ [(0, .ref 0), (1, .int (nI sn)), (2, .int x), (3, .int y)] [.int (-6 : Int32)] (ab_S nr (ab_u2 h 28 6 (h 28 6 + 1)) g rr) _
          exact ab_ret (v := some (.int (-6 : Int32))) de_W_row_39 ⟨_, rfl⟩ (by unfold fx_W_row; try simp only [ab_tn (show sn < 2 ^ 31 by omega)]; rw [if_neg c_4_1, if_pos c_14_2, if_neg c_25_3, if_neg c_30_4])
    · refine ab_aload_n de_W_row_17 0 rfl ?_
      refine ab_bipush (v := -4) de_W_row_18 rfl ?_
      refine ab_cV (as := [.int (-4 : Int32)]) (st := []) (ct_W_refuse l _ nr h g rr (r := (-4 : Int32)) (k := 4) (by decide) (by decide)) mo_W_refuse mi_W_refuse ml_W_88 rfl (by decide) rfl rfl rfl (Nat.le_of_ble_eq_true rfl) de_W_row_20 (fun v_ M_ hK_ hl_ hv_ => ?_)
      obtain ⟨rfl, hm_⟩ := hK_
      have hm_ := hm_.symm
      subst hm_
      change ab_G _ _ _ _ _ _ _ [(0, .ref 0), (1, .int (nI sn)), (2, .int x), (3, .int y)] [.int (-4 : Int32)] (ab_S nr (ab_u2 h 28 4 (h 28 4 + 1)) g rr) _
      exact ab_ret (v := some (.int (-4 : Int32))) de_W_row_23 ⟨_, rfl⟩ (by unfold fx_W_row; try simp only [ab_tn (show sn < 2 ^ 31 by omega)]; rw [if_neg c_4_1, if_neg c_14_2])
  · refine ab_aload_n de_W_row_7 0 rfl ?_
    refine ab_iconst (v := -1) de_W_row_8 rfl ?_
    refine ab_cV (as := [.int (-1 : Int32)]) (st := []) (ct_W_refuse l _ nr h g rr (r := (-1 : Int32)) (k := 1) (by decide) (by decide)) mo_W_refuse mi_W_refuse ml_W_88 rfl (by decide) rfl rfl rfl (Nat.le_of_ble_eq_true rfl) de_W_row_9 (fun v_ M_ hK_ hl_ hv_ => ?_)
    obtain ⟨rfl, hm_⟩ := hK_
    have hm_ := hm_.symm
    subst hm_
    change ab_G _ _ _ _ _ _ _ [(0, .ref 0), (1, .int s), (2, .int x), (3, .int y)] [.int (-1 : Int32)] (ab_S nr (ab_u2 h 28 1 (h 28 1 + 1)) g rr) _
    exact ab_ret (v := some (.int (-1 : Int32))) de_W_row_12 ⟨_, rfl⟩ (by unfold fx_W_row; rw [if_pos c_4_1])
def fv_lb (x : Int32) (v : Int64) : Int64 :=
  if x = 0 then
    v.toInt32.toInt8.toInt32.toInt64
  else
    if x = 1 then
      v.toInt32.toInt16.toInt32.toInt64
    else
      if x = 2 then
        v.toInt32.toInt64
      else
        v
set_option maxHeartbeats 1000000 in
set_option maxRecDepth 10000 in
theorem ct_W_lowestBits (l : Launch) (d : Nat) (nr : Nat) (h : Nat → Nat → Int32) (g : Nat → Nat → Int64) (rr : Nat → Option Nat) (x : Int32) (v : Int64) : ab_C l am_W_lowestBits d 0 0 [.int x, .long v] (ab_S nr h g rr) (fun (r_ : Option Value) (M' : ab_Me) => r_ = some (.long (fv_lb x v)) ∧ M' = (ab_S nr h g rr)) := by
  refine ab_C_of (by decide +kernel) rfl (Nat.le_of_ble_eq_true rfl) ?_
  refine ab_iload_n de_W_lowestBits_0 0 rfl ?_
  by_cases c_1_1_0 : x = 0
  · refine ab_tableIn (tgt := 28) de_W_lowestBits_1 (by rw [c_1_1_0]; decide) (by rw [c_1_1_0]; decide) (off := 27) (by rw [c_1_1_0]; rfl) rfl ?_
    refine ab_lload_n de_W_lowestBits_28 1 rfl ?_
    refine ab_l2i de_W_lowestBits_29 rfl ?_
    refine ab_i2b de_W_lowestBits_30 rfl ?_
    refine ab_i2l de_W_lowestBits_31 rfl ?_
    exact ab_ret (v := some (.long v.toInt32.toInt8.toInt32.toInt64)) de_W_lowestBits_32 ⟨_, rfl⟩ ⟨congrArg (fun z => some (Value.long z)) (by unfold fv_lb; rw [if_pos c_1_1_0]), rfl⟩
  by_cases c_1_1_1 : x = 1
  · refine ab_tableIn (tgt := 33) de_W_lowestBits_1 (by rw [c_1_1_1]; decide) (by rw [c_1_1_1]; decide) (off := 32) (by rw [c_1_1_1]; rfl) rfl ?_
    refine ab_lload_n de_W_lowestBits_33 1 rfl ?_
    refine ab_l2i de_W_lowestBits_34 rfl ?_
    refine ab_i2s de_W_lowestBits_35 rfl ?_
    refine ab_i2l de_W_lowestBits_36 rfl ?_
    exact ab_ret (v := some (.long v.toInt32.toInt16.toInt32.toInt64)) de_W_lowestBits_37 ⟨_, rfl⟩ ⟨congrArg (fun z => some (Value.long z)) (by unfold fv_lb; rw [if_neg c_1_1_0, if_pos c_1_1_1]), rfl⟩
  by_cases c_1_1_2 : x = 2
  · refine ab_tableIn (tgt := 38) de_W_lowestBits_1 (by rw [c_1_1_2]; decide) (by rw [c_1_1_2]; decide) (off := 37) (by rw [c_1_1_2]; rfl) rfl ?_
    refine ab_lload_n de_W_lowestBits_38 1 rfl ?_
    refine ab_l2i de_W_lowestBits_39 rfl ?_
    refine ab_i2l de_W_lowestBits_40 rfl ?_
    exact ab_ret (v := some (.long v.toInt32.toInt64)) de_W_lowestBits_41 ⟨_, rfl⟩ ⟨congrArg (fun z => some (Value.long z)) (by unfold fv_lb; rw [if_neg c_1_1_0, if_neg c_1_1_1, if_pos c_1_1_2]), rfl⟩
  refine ab_tableOut (tgt := 42) de_W_lowestBits_1 (ab_out3 c_1_1_0 c_1_1_1 c_1_1_2) rfl ?_
  refine ab_lload_n de_W_lowestBits_42 1 rfl ?_
  exact ab_ret (v := some (.long v)) de_W_lowestBits_43 ⟨_, rfl⟩ ⟨congrArg (fun z => some (Value.long z)) (by unfold fv_lb; rw [if_neg c_1_1_0, if_neg c_1_1_1, if_neg c_1_1_2]), rfl⟩
def fx_W_set (nr : Nat) (h : Nat → Nat → Int32) (g : Nat → Nat → Int64) (rr : Nat → Option Nat) (zs : Nat → Nat)  (s x : Int32) (v : Int64) : Option Value × ab_Me :=
  if (fv_W_rowRefusal h s) = 0 then
    if x < 0 then
      (some (.int (-5 : Int32)), (ab_S nr (ab_u2 h 28 5 (h 28 5 + 1)) g rr))
    else
      if x < (nI (zs s.toNatClampNeg)) then
        (some (.int (1 : Int32)), (ab_S nr h (ab_u2 g (4 + s.toNatClampNeg) x.toNatClampNeg (fv_lb ((h 1 s.toNatClampNeg) - (100 : Int32)) v)) rr))
      else
        (some (.int (-5 : Int32)), (ab_S nr (ab_u2 h 28 5 (h 28 5 + 1)) g rr))
  else
    (some (.int (fv_W_rowRefusal h s)), (ab_S nr (ab_u2 h 28 (-(fv_W_rowRefusal h s)).toNatClampNeg (h 28 (-(fv_W_rowRefusal h s)).toNatClampNeg + 1)) g rr))
set_option maxHeartbeats 1000000 in
set_option maxRecDepth 10000 in
theorem ct_W_set (l : Launch) (d : Nat) (nr : Nat) (h : Nat → Nat → Int32) (g : Nat → Nat → Int64) (rr : Nat → Option Nat) {zs : Nat → Nat} (hzs : ∀ s, s < 8 → zs s ≤ 60 ∧ h 2 s = nI (zs s))  (s x : Int32) (v : Int64) : ab_C l am_W_set (d + 2) 0 0 [.ref 0, .int s, .int x, .long v] (ab_S nr h g rr) (fun r_ M' => (r_, M') = fx_W_set nr h g rr zs s x v) := by
  refine ab_C_of (by decide +kernel) rfl (Nat.le_of_ble_eq_true rfl) ?_
  refine ab_aload_n de_W_set_0 0 rfl ?_
  refine ab_iload_n de_W_set_1 1 rfl ?_
  refine ab_cV (as := [.int s]) (st := []) (ct_W_rowRefusal l _ nr h g rr (s)) mo_W_rowRefusal mi_W_rowRefusal ml_W_95 rfl (by decide) rfl rfl rfl (Nat.le_of_ble_eq_true rfl) de_W_set_2 (fun v_ M_ hK_ hl_ hv_ => ?_)
  obtain ⟨rfl, hm_⟩ := hK_
  have hm_ := hm_.symm
  subst hm_
  change ab_G _ _ _ _ _ _ _ [(0, .ref 0), (1, .int s), (2, .int x), (3, .long v)] [.int (fv_W_rowRefusal h s)] (ab_S nr h g rr) _
  refine ab_istore (L' := [(5, .int (fv_W_rowRefusal h s)), (0, .ref 0), (1, .int s), (2, .int x), (3, .long v)]) de_W_set_5 (by decide) rfl ?_
  refine ab_iload de_W_set_7 0 rfl ?_
  refine ab_if_eq (tgt := 19) de_W_set_9 rfl (fun c_9_1 => ?_) (fun c_9_1 => ?_)
  · obtain ⟨sn, hsn, rfl⟩ := rf_row0 c_9_1
    refine ab_iload_n de_W_set_19 3 rfl ?_
    refine ab_if_lt (tgt := 33) de_W_set_20 rfl (fun c_20_2 => ?_) (fun c_20_2 => ?_)
    · refine ab_aload_n de_W_set_33 1 rfl ?_
      refine ab_bipush (v := -5) de_W_set_34 rfl ?_
      refine ab_cV (as := [.int (-5 : Int32)]) (st := []) (ct_W_refuse l _ nr h g rr (r := (-5 : Int32)) (k := 5) (by decide) (by decide)) mo_W_refuse mi_W_refuse ml_W_88 rfl (by decide) rfl rfl rfl (Nat.le_of_ble_eq_true rfl) de_W_set_36 (fun v_ M_ hK_ hl_ hv_ => ?_)
      obtain ⟨rfl, hm_⟩ := hK_
      have hm_ := hm_.symm
      subst hm_
      change ab_G _ _ _ _ _ _ _ [(5, .int (fv_W_rowRefusal h (nI sn))), (0, .ref 0), (1, .int (nI sn)), (2, .int x), (3, .long v)] [.int (-5 : Int32)] (ab_S nr (ab_u2 h 28 5 (h 28 5 + 1)) g rr) _
      exact ab_ret (v := some (.int (-5 : Int32))) de_W_set_39 ⟨_, rfl⟩ (by unfold fx_W_set; try simp only [ab_tn (show sn < 2 ^ 31 by omega)]; rw [if_pos c_9_1, if_pos c_20_2])
    · have c20 := c_20_2
      refine ab_iload_n de_W_set_23 3 rfl ?_
      refine ab_aload_n de_W_set_24 1 rfl ?_
      refine ab_get (v := .ref 2) fl_W_13 rfl rfl de_W_set_25 ?_
      refine ab_iload_n de_W_set_28 2 rfl ?_
      refine ab_iald (v := h 2 sn) rfl (ab_in (by omega) (by decide)) (ab_hv (ab_tn (n := sn) (by omega))) de_W_set_29 ?_
      refine ab_top (v' := nI (zs sn)) ((hzs sn (by omega)).2) ?_
      refine ab_icmp_lt (tgt := 40) de_W_set_30 rfl (fun c_30_3 => ?_) (fun c_30_3 => ?_)
      · have hz60 := (hzs sn (by omega)).1
        obtain ⟨xn, hxn, rfl⟩ := sp_bt_n (by omega) c20 c_30_3
        refine ab_aload_n de_W_set_40 1 rfl ?_
        refine ab_get (v := .ref 3) fl_W_18 rfl rfl de_W_set_41 ?_
        refine ab_iload_n de_W_set_44 2 rfl ?_
        refine ab_rald (v := .ref (4 + sn)) rfl (ab_in (by omega) (by decide)) (ab_r3 (by omega)) de_W_set_45 ?_
        refine ab_iload_n de_W_set_46 3 rfl ?_
        refine ab_aload_n de_W_set_47 1 rfl ?_
        refine ab_get (v := .ref 1) fl_W_9 rfl rfl de_W_set_48 ?_
        refine ab_iload_n de_W_set_51 2 rfl ?_
        refine ab_iald (v := h 1 sn) rfl (ab_in (by omega) (by decide)) (ab_hv (ab_tn (n := sn) (by omega))) de_W_set_52 ?_
        refine ab_bipush (v := 100) de_W_set_53 rfl ?_
        refine ab_isub de_W_set_55 ?_
        refine ab_lload_n de_W_set_56 4 rfl ?_
        refine ab_cS (as := [.int ((h 1 sn) - (100 : Int32)), .long v]) (st := [.int (nI xn), .ref (4 + sn)]) (ct_W_lowestBits l _ nr h g rr ((h 1 sn) - (100 : Int32)) v) mo_W_lowestBits ms_W_lowestBits ml_W_98 rfl rfl (Nat.le_of_ble_eq_true rfl) de_W_set_57 (fun v_ M_ hK_ hl_ hv_ => ?_)
        obtain ⟨rfl, hm_⟩ := hK_
        have hm_ := hm_.symm
        subst hm_
        change ab_G _ _ _ _ _ _ _ [(5, .int (fv_W_rowRefusal h (nI sn))), (0, .ref 0), (1, .int (nI sn)), (2, .int (nI xn)), (3, .long v)] [.long (fv_lb ((h 1 sn) - (100 : Int32)) v), .int (nI xn), .ref (4 + sn)] (ab_S nr h g rr) _
        refine ab_last (x := 4 + sn) (ab_rk4 (j := sn) (by omega)) (ab_in (by omega) (by decide)) de_W_set_60 ?_
        rw [(ab_tn (n := xn) (by omega))]
        change ab_G _ _ _ _ _ _ _ _ _ (ab_S nr h (ab_u2 g (4 + sn) xn (fv_lb ((h 1 sn) - (100 : Int32)) v)) rr) _
        refine ab_iconst (v := 1) de_W_set_61 rfl ?_
        exact ab_ret (v := some (.int (1 : Int32))) de_W_set_62 ⟨_, rfl⟩ (by unfold fx_W_set; try simp only [ab_tn (show sn < 2 ^ 31 by omega), ab_tn (show xn < 2 ^ 31 by omega)]; rw [if_pos c_9_1, if_neg c_20_2, if_pos c_30_3])
      · refine ab_aload_n de_W_set_33 1 rfl ?_
        refine ab_bipush (v := -5) de_W_set_34 rfl ?_
        refine ab_cV (as := [.int (-5 : Int32)]) (st := []) (ct_W_refuse l _ nr h g rr (r := (-5 : Int32)) (k := 5) (by decide) (by decide)) mo_W_refuse mi_W_refuse ml_W_88 rfl (by decide) rfl rfl rfl (Nat.le_of_ble_eq_true rfl) de_W_set_36 (fun v_ M_ hK_ hl_ hv_ => ?_)
        obtain ⟨rfl, hm_⟩ := hK_
        have hm_ := hm_.symm
        subst hm_
        change ab_G _ _ _ _ _ _ _ [(5, .int (fv_W_rowRefusal h (nI sn))), (0, .ref 0), (1, .int (nI sn)), (2, .int x), (3, .long v)] [.int (-5 : Int32)] (ab_S nr (ab_u2 h 28 5 (h 28 5 + 1)) g rr) _
        exact ab_ret (v := some (.int (-5 : Int32))) de_W_set_39 ⟨_, rfl⟩ (by unfold fx_W_set; try simp only [ab_tn (show sn < 2 ^ 31 by omega)]; rw [if_pos c_9_1, if_neg c_20_2, if_neg c_30_3])
  · refine ab_aload_n de_W_set_12 1 rfl ?_
    refine ab_iload de_W_set_13 0 rfl ?_
    refine ab_cV (as := [.int (fv_W_rowRefusal h s)]) (st := []) (ct_W_refuse l _ nr h g rr (r := fv_W_rowRefusal h s) (k := (-(fv_W_rowRefusal h s)).toNatClampNeg) (rf_v (rf_row h s)).1 (rf_v (rf_row h s)).2) mo_W_refuse mi_W_refuse ml_W_88 rfl (by decide) rfl rfl rfl (Nat.le_of_ble_eq_true rfl) de_W_set_15 (fun v_ M_ hK_ hl_ hv_ => ?_)
    obtain ⟨rfl, hm_⟩ := hK_
    have hm_ := hm_.symm
    subst hm_
    change ab_G _ _ _ _ _ _ _ [(5, .int (fv_W_rowRefusal h s)), (0, .ref 0), (1, .int s), (2, .int x), (3, .long v)] [.int (fv_W_rowRefusal h s)] (ab_S nr (ab_u2 h 28 (-(fv_W_rowRefusal h s)).toNatClampNeg (h 28 (-(fv_W_rowRefusal h s)).toNatClampNeg + 1)) g rr) _
    exact ab_ret (v := some (.int (fv_W_rowRefusal h s))) de_W_set_18 ⟨_, rfl⟩ (by unfold fx_W_set; rw [if_neg c_9_1])
def fx_W_element (nr : Nat) (h : Nat → Nat → Int32) (g : Nat → Nat → Int64) (rr : Nat → Option Nat) (zs : Nat → Nat)  (s x : Int32) : Option Value × ab_Me :=
  if (fv_W_rowRefusal h s) = 0 then
    if x < 0 then
      (some (.long (0 : Int64)), (ab_S nr h g rr))
    else
      if x < (nI (zs s.toNatClampNeg)) then
        (some (.long (g (4 + s.toNatClampNeg) x.toNatClampNeg)), (ab_S nr h g rr))
      else
        (some (.long (0 : Int64)), (ab_S nr h g rr))
  else
    (some (.long (0 : Int64)), (ab_S nr h g rr))
set_option maxHeartbeats 1000000 in
set_option maxRecDepth 10000 in
theorem ct_W_element (l : Launch) (d : Nat) (nr : Nat) (h : Nat → Nat → Int32) (g : Nat → Nat → Int64) (rr : Nat → Option Nat) {zs : Nat → Nat} (hzs : ∀ s, s < 8 → zs s ≤ 60 ∧ h 2 s = nI (zs s))  (s x : Int32) : ab_C l am_W_element (d + 2) 0 0 [.ref 0, .int s, .int x] (ab_S nr h g rr) (fun r_ M' => (r_, M') = fx_W_element nr h g rr zs s x) := by
  refine ab_C_of (by decide +kernel) rfl (Nat.le_of_ble_eq_true rfl) ?_
  refine ab_aload_n de_W_element_0 0 rfl ?_
  refine ab_iload_n de_W_element_1 1 rfl ?_
  refine ab_cV (as := [.int s]) (st := []) (ct_W_rowRefusal l _ nr h g rr (s)) mo_W_rowRefusal mi_W_rowRefusal ml_W_95 rfl (by decide) rfl rfl rfl (Nat.le_of_ble_eq_true rfl) de_W_element_2 (fun v_ M_ hK_ hl_ hv_ => ?_)
  obtain ⟨rfl, hm_⟩ := hK_
  have hm_ := hm_.symm
  subst hm_
  change ab_G _ _ _ _ _ _ _ [(0, .ref 0), (1, .int s), (2, .int x)] [.int (fv_W_rowRefusal h s)] (ab_S nr h g rr) _
  refine ab_if_ne (tgt := 22) de_W_element_5 rfl (fun c_5_1 => ?_) (fun c_5_1 => ?_)
  · refine ab_lconst (v := 0) de_W_element_22 rfl ?_
    exact ab_ret (v := some (.long (0 : Int64))) de_W_element_23 ⟨_, rfl⟩ (by unfold fx_W_element; rw [if_neg c_5_1])
  · obtain ⟨sn, hsn, rfl⟩ := rf_row0 c_5_1
    refine ab_iload_n de_W_element_8 2 rfl ?_
    refine ab_if_lt (tgt := 22) de_W_element_9 rfl (fun c_9_2 => ?_) (fun c_9_2 => ?_)
    · refine ab_lconst (v := 0) de_W_element_22 rfl ?_
      exact ab_ret (v := some (.long (0 : Int64))) de_W_element_23 ⟨_, rfl⟩ (by unfold fx_W_element; try simp only [ab_tn (show sn < 2 ^ 31 by omega)]; rw [if_pos c_5_1, if_pos c_9_2])
    · have c9 := c_9_2
      refine ab_iload_n de_W_element_12 2 rfl ?_
      refine ab_aload_n de_W_element_13 0 rfl ?_
      refine ab_get (v := .ref 2) fl_W_13 rfl rfl de_W_element_14 ?_
      refine ab_iload_n de_W_element_17 1 rfl ?_
      refine ab_iald (v := h 2 sn) rfl (ab_in (by omega) (by decide)) (ab_hv (ab_tn (n := sn) (by omega))) de_W_element_18 ?_
      refine ab_top (v' := nI (zs sn)) ((hzs sn (by omega)).2) ?_
      refine ab_icmp_lt (tgt := 24) de_W_element_19 rfl (fun c_19_3 => ?_) (fun c_19_3 => ?_)
      · have hz60 := (hzs sn (by omega)).1
        obtain ⟨xn, hxn, rfl⟩ := sp_bt_n (by omega) c9 c_19_3
        refine ab_aload_n de_W_element_24 0 rfl ?_
        refine ab_get (v := .ref 3) fl_W_18 rfl rfl de_W_element_25 ?_
        refine ab_iload_n de_W_element_28 1 rfl ?_
        refine ab_rald (v := .ref (4 + sn)) rfl (ab_in (by omega) (by decide)) (ab_r3 (by omega)) de_W_element_29 ?_
        refine ab_iload_n de_W_element_30 2 rfl ?_
        refine ab_lald (v := g (4 + sn) xn) (ab_rk4 (j := sn) (by omega)) (ab_in (by omega) (by decide)) (ab_gv (ab_tn (n := xn) (by omega))) de_W_element_31 ?_
        exact ab_ret (v := some (.long (g (4 + sn) xn))) de_W_element_32 ⟨_, rfl⟩ (by unfold fx_W_element; try simp only [ab_tn (show sn < 2 ^ 31 by omega), ab_tn (show xn < 2 ^ 31 by omega)]; rw [if_pos c_5_1, if_neg c_9_2, if_pos c_19_3])
      · refine ab_lconst (v := 0) de_W_element_22 rfl ?_
        exact ab_ret (v := some (.long (0 : Int64))) de_W_element_23 ⟨_, rfl⟩ (by unfold fx_W_element; try simp only [ab_tn (show sn < 2 ^ 31 by omega)]; rw [if_pos c_5_1, if_neg c_9_2, if_neg c_19_3])
def fx_W_show (nr : Nat) (h : Nat → Nat → Int32) (g : Nat → Nat → Int64) (rr : Nat → Option Nat) (n_ : Nat) (q cs : Nat → Nat)  (s x : Int32) : Option Value × ab_Me :=
  if (ab_bz (sp_sh s)) = 0 then
    (some (.int (-1 : Int32)), (ab_S nr (ab_u2 h 28 1 (h 28 1 + 1)) g rr))
  else
    if x = (-1 : Int32) then
      if x = (-1 : Int32) then
        (some (.int (0 : Int32)), (ab_S nr (ab_u2 h 1 s.toNatClampNeg x) g rr))
      else
        (some (.int (1 : Int32)), (ab_S nr (ab_u2 h 1 s.toNatClampNeg x) g rr))
    else
      if (ab_bz (decide (0 ≤ x ∧ x < nI n_))) = 0 then
        (some (.int (-1 : Int32)), (ab_S nr (ab_u2 h 28 1 (h 28 1 + 1)) g rr))
      else
        if (nI (x.toNatClampNeg)) = (-1 : Int32) then
          (some (.int (0 : Int32)), (ab_S nr (ab_u2 h 1 s.toNatClampNeg (nI (x.toNatClampNeg))) g rr))
        else
          (some (.int (1 : Int32)), (ab_S nr (ab_u2 h 1 s.toNatClampNeg (nI (x.toNatClampNeg))) g rr))
set_option maxHeartbeats 1000000 in
set_option maxRecDepth 10000 in
theorem ct_W_show (l : Launch) (d : Nat) (nr : Nat) (h : Nat → Nat → Int32) (g : Nat → Nat → Int64) (rr : Nat → Option Nat) {n_ : Nat} (hn8 : n_ ≤ 8) (hR0 : h 0 4 = nI n_) {q cs : Nat → Nat} (hR : ru_ok nr n_ q cs h rr)  (s x : Int32) : ab_C l am_W_show (d + 2) 0 0 [.ref 0, .int s, .int x] (ab_S nr h g rr) (fun r_ M' => (r_, M') = fx_W_show nr h g rr n_ q cs s x) := by
  refine ab_C_of (by decide +kernel) rfl (Nat.le_of_ble_eq_true rfl) ?_
  refine ab_iload_n de_W_show_0 1 rfl ?_
  refine ab_cS (as := [.int s]) (st := []) (ct_W_isShelf l _ (ab_S nr h g rr) (s)) mo_W_isShelf ms_W_isShelf ml_W_84 rfl rfl (Nat.le_of_ble_eq_true rfl) de_W_show_1 (fun v_ M_ hK_ hl_ hv_ => ?_)
  obtain ⟨rfl, hm_⟩ := hK_
  have hm_ := hm_.symm
  subst hm_
  change ab_G _ _ _ _ _ _ _ [(0, .ref 0), (1, .int s), (2, .int x)] [.int (ab_bz (sp_sh s))] (ab_S nr h g rr) _
  refine ab_if_eq (tgt := 20) de_W_show_4 rfl (fun c_4_1 => ?_) (fun c_4_1 => ?_)
  · refine ab_aload_n de_W_show_20 0 rfl ?_
    refine ab_iconst (v := -1) de_W_show_21 rfl ?_
    refine ab_cV (as := [.int (-1 : Int32)]) (st := []) (ct_W_refuse l _ nr h g rr (r := (-1 : Int32)) (k := 1) (by decide) (by decide)) mo_W_refuse mi_W_refuse ml_W_88 rfl (by decide) rfl rfl rfl (Nat.le_of_ble_eq_true rfl) de_W_show_22 (fun v_ M_ hK_ hl_ hv_ => ?_)
    obtain ⟨rfl, hm_⟩ := hK_
    have hm_ := hm_.symm
    subst hm_
    change ab_G _ _ _ _ _ _ _ [(0, .ref 0), (1, .int s), (2, .int x)] [.int (-1 : Int32)] (ab_S nr (ab_u2 h 28 1 (h 28 1 + 1)) g rr) _
    exact ab_ret (v := some (.int (-1 : Int32))) de_W_show_25 ⟨_, rfl⟩ (by unfold fx_W_show; rw [if_pos c_4_1])
  · obtain ⟨sn, hsn, rfl⟩ := sp_sh_n c_4_1
    refine ab_iload_n de_W_show_7 2 rfl ?_
    refine ab_iconst (v := -1) de_W_show_8 rfl ?_
    refine ab_icmp_eq (tgt := 26) de_W_show_9 rfl (fun c_9_2 => ?_) (fun c_9_2 => ?_)
    · refine ab_aload_n de_W_show_26 0 rfl ?_
      refine ab_get (v := .ref 1) fl_W_9 rfl rfl de_W_show_27 ?_
      refine ab_iload_n de_W_show_30 1 rfl ?_
      refine ab_iload_n de_W_show_31 2 rfl ?_
      refine ab_iast (x := 1) rfl (ab_in (by omega) (by decide)) de_W_show_32 ?_
      rw [(ab_tn (n := sn) (by omega))]
      change ab_G _ _ _ _ _ _ _ _ _ (ab_S nr (ab_u2 h 1 sn x) g rr) _
      refine ab_iload_n de_W_show_33 2 rfl ?_
      refine ab_iconst (v := -1) de_W_show_34 rfl ?_
      refine ab_icmp_ne (tgt := 42) de_W_show_35 rfl (fun c_35_3 => ?_) (fun c_35_3 => ?_)
      · refine ab_iconst (v := 1) de_W_show_42 rfl ?_
        exact ab_ret (v := some (.int (1 : Int32))) de_W_show_43 ⟨_, rfl⟩ (by unfold fx_W_show; try simp only [ab_tn (show sn < 2 ^ 31 by omega)]; rw [if_neg c_4_1, if_pos c_9_2, if_neg c_35_3])
      · refine ab_iconst (v := 0) de_W_show_38 rfl ?_
        refine ab_goto (tgt := 43) de_W_show_39 rfl ?_
        exact ab_ret (v := some (.int (0 : Int32))) de_W_show_43 ⟨_, rfl⟩ (by unfold fx_W_show; try simp only [ab_tn (show sn < 2 ^ 31 by omega)]; rw [if_neg c_4_1, if_pos c_9_2, if_pos c_35_3])
    · refine ab_aload_n de_W_show_12 0 rfl ?_
      refine ab_iload_n de_W_show_13 2 rfl ?_
      refine ab_cV (as := [.int x]) (st := []) (ct_W_isRule l _ nr h g rr hR0 x) mo_W_isRule mi_W_isRule ml_W_112 rfl (by decide) rfl rfl rfl (Nat.le_of_ble_eq_true rfl) de_W_show_14 (fun v_ M_ hK_ hl_ hv_ => ?_)
      obtain ⟨rfl, hm_⟩ := hK_
      have hm_ := hm_.symm
      subst hm_
      change ab_G _ _ _ _ _ _ _ [(0, .ref 0), (1, .int (nI sn)), (2, .int x)] [.int (ab_bz (decide (0 ≤ x ∧ x < nI n_)))] (ab_S nr h g rr) _
      refine ab_if_ne (tgt := 26) de_W_show_17 rfl (fun c_17_4 => ?_) (fun c_17_4 => ?_)
      · obtain ⟨xn, hxn, rfl⟩ := sp_ra_n (by omega) c_17_4
        refine ab_aload_n de_W_show_26 0 rfl ?_
        refine ab_get (v := .ref 1) fl_W_9 rfl rfl de_W_show_27 ?_
        refine ab_iload_n de_W_show_30 1 rfl ?_
        refine ab_iload_n de_W_show_31 2 rfl ?_
        refine ab_iast (x := 1) rfl (ab_in (by omega) (by decide)) de_W_show_32 ?_
        rw [(ab_tn (n := sn) (by omega))]
        change ab_G _ _ _ _ _ _ _ _ _ (ab_S nr (ab_u2 h 1 sn (nI xn)) g rr) _
        refine ab_iload_n de_W_show_33 2 rfl ?_
        refine ab_iconst (v := -1) de_W_show_34 rfl ?_
        refine ab_icmp_ne (tgt := 42) de_W_show_35 rfl (fun c_35_5 => ?_) (fun c_35_5 => ?_)
        · refine ab_iconst (v := 1) de_W_show_42 rfl ?_
          exact ab_ret (v := some (.int (1 : Int32))) de_W_show_43 ⟨_, rfl⟩ (by unfold fx_W_show; try simp only [ab_tn (show sn < 2 ^ 31 by omega), ab_tn (show xn < 2 ^ 31 by omega)]; rw [if_neg c_4_1, if_neg c_9_2, if_neg c_17_4, if_neg c_35_5])
        · refine ab_iconst (v := 0) de_W_show_38 rfl ?_
          refine ab_goto (tgt := 43) de_W_show_39 rfl ?_
          exact ab_ret (v := some (.int (0 : Int32))) de_W_show_43 ⟨_, rfl⟩ (by unfold fx_W_show; try simp only [ab_tn (show sn < 2 ^ 31 by omega), ab_tn (show xn < 2 ^ 31 by omega)]; rw [if_neg c_4_1, if_neg c_9_2, if_neg c_17_4, if_pos c_35_5])
      · refine ab_aload_n de_W_show_20 0 rfl ?_
        refine ab_iconst (v := -1) de_W_show_21 rfl ?_
        refine ab_cV (as := [.int (-1 : Int32)]) (st := []) (ct_W_refuse l _ nr h g rr (r := (-1 : Int32)) (k := 1) (by decide) (by decide)) mo_W_refuse mi_W_refuse ml_W_88 rfl (by decide) rfl rfl rfl (Nat.le_of_ble_eq_true rfl) de_W_show_22 (fun v_ M_ hK_ hl_ hv_ => ?_)
        obtain ⟨rfl, hm_⟩ := hK_
        have hm_ := hm_.symm
        subst hm_
        change ab_G _ _ _ _ _ _ _ [(0, .ref 0), (1, .int (nI sn)), (2, .int x)] [.int (-1 : Int32)] (ab_S nr (ab_u2 h 28 1 (h 28 1 + 1)) g rr) _
        exact ab_ret (v := some (.int (-1 : Int32))) de_W_show_25 ⟨_, rfl⟩ (by unfold fx_W_show; try simp only [ab_tn (show sn < 2 ^ 31 by omega)]; rw [if_neg c_4_1, if_neg c_9_2, if_pos c_17_4])
def fx_W_holds (nr : Nat) (h : Nat → Nat → Int32) (g : Nat → Nat → Int64) (rr : Nat → Option Nat)   (s : Int32) : Option Value × ab_Me :=
  if (ab_bz (sp_sh s)) = 0 then
    (some (.int (-1 : Int32)), (ab_S nr h g rr))
  else
    (some (.int (h 1 s.toNatClampNeg)), (ab_S nr h g rr))
set_option maxHeartbeats 1000000 in
set_option maxRecDepth 10000 in
theorem ct_W_holds (l : Launch) (d : Nat) (nr : Nat) (h : Nat → Nat → Int32) (g : Nat → Nat → Int64) (rr : Nat → Option Nat)   (s : Int32) : ab_C l am_W_holds (d + 1) 0 0 [.ref 0, .int s] (ab_S nr h g rr) (fun r_ M' => (r_, M') = fx_W_holds nr h g rr s) := by
  refine ab_C_of (by decide +kernel) rfl (Nat.le_of_ble_eq_true rfl) ?_
  refine ab_iload_n de_W_holds_0 1 rfl ?_
  refine ab_cS (as := [.int s]) (st := []) (ct_W_isShelf l _ (ab_S nr h g rr) (s)) mo_W_isShelf ms_W_isShelf ml_W_84 rfl rfl (Nat.le_of_ble_eq_true rfl) de_W_holds_1 (fun v_ M_ hK_ hl_ hv_ => ?_)
  obtain ⟨rfl, hm_⟩ := hK_
  have hm_ := hm_.symm
  subst hm_
  change ab_G _ _ _ _ _ _ _ [(0, .ref 0), (1, .int s)] [.int (ab_bz (sp_sh s))] (ab_S nr h g rr) _
  refine ab_if_eq (tgt := 16) de_W_holds_4 rfl (fun c_4_1 => ?_) (fun c_4_1 => ?_)
  · refine ab_iconst (v := -1) de_W_holds_16 rfl ?_
    exact ab_ret (v := some (.int (-1 : Int32))) de_W_holds_17 ⟨_, rfl⟩ (by unfold fx_W_holds; rw [if_pos c_4_1])
  · obtain ⟨sn, hsn, rfl⟩ := sp_sh_n c_4_1
    refine ab_aload_n de_W_holds_7 0 rfl ?_
    refine ab_get (v := .ref 1) fl_W_9 rfl rfl de_W_holds_8 ?_
    refine ab_iload_n de_W_holds_11 1 rfl ?_
    refine ab_iald (v := h 1 sn) rfl (ab_in (by omega) (by decide)) (ab_hv (ab_tn (n := sn) (by omega))) de_W_holds_12 ?_
    refine ab_goto (tgt := 17) de_W_holds_13 rfl ?_
    exact ab_ret (v := some (.int (h 1 sn))) de_W_holds_17 ⟨_, rfl⟩ (by unfold fx_W_holds; try simp only [ab_tn (show sn < 2 ^ 31 by omega)]; rw [if_neg c_4_1])
