/-! the reference: small answers -/
theorem md_kr_u2 {h h' : Nat → Nat → Int32} (H : md_kr h h') (a b : Nat) (v : Int32) : md_kr (ab_u2 h a b v) (ab_u2 h' a b v) := fun x y n => by
  unfold ab_u2
  rw [H x y n]
theorem md_mv_len (T : Nat → Nat → Nat) (v m i : Nat) : nI (sp_ml T v m i).length = nI (sp_sum (fun p => sp_cn (sp_tg T v m i p)) 16) := by rw [md_ml_len]
def fx_M_price (h : Nat → Nat → Int32)  (x : Int32) : Option Value × (Nat → Nat → Int32) :=
  if (ab_bz (sp_cd x)) = 0 then
    (some (.int (-1 : Int32)), (ab_u2 h 31 1 (h 31 1 + 1)))
  else
    (some (.int (nI (sp_pr x.toNatClampNeg))), h)
set_option maxHeartbeats 1000000 in
set_option maxRecDepth 10000 in
theorem ct_M_price (l : Launch) (d : Nat) (nr : Nat) (h : Nat → Nat → Int32) (g : Nat → Nat → Int64) (rr : Nat → Option Nat)  {T0_ : Nat → Nat → Nat} {Z0_ : sp_G} (hK : md_K T0_ Z0_ h) (x : Int32) : ab_C l am_M_price (d + 2) 0 0 [.ref 30, .int x] (ab_S nr h g rr) (fun r_ M' => ∃ X h', (r_, X) = fx_M_price h x ∧ M' = ab_S nr h' g rr ∧ md_K T0_ Z0_ h' ∧ md_kr X h') := by
  have ff_h := md_kr_rf h
  have kk_h := hK
  refine ab_C_of (by decide +kernel) rfl (Nat.le_of_ble_eq_true rfl) ?_
  refine ab_aload_n de_M_price_0 0 rfl ?_
  refine ab_iload_n de_M_price_1 1 rfl ?_
  refine ab_cV (as := [.int x]) (st := []) (ct_M_isCode l _ (ab_S nr h g rr) (x)) mo_M_isCode mi_M_isCode ml_M_168 rfl (by decide) rfl rfl rfl (Nat.le_of_ble_eq_true rfl) de_M_price_2 (fun v_ M_ hK_ hl_ hv_ => ?_)
  obtain ⟨rfl, hm_⟩ := hK_
  have hm_ := hm_.symm
  subst hm_
  change ab_G _ _ _ _ _ _ _ [(0, .ref 30), (1, .int x)] [.int (ab_bz (sp_cd x))] (ab_S nr h g rr) _
  refine ab_if_eq (tgt := 16) de_M_price_5 rfl (fun c_5_1 => ?_) (fun c_5_1 => ?_)
  · refine ab_aload_n de_M_price_16 0 rfl ?_
    refine ab_iconst (v := -1) de_M_price_17 rfl ?_
    refine ab_cV (as := [.int (-1 : Int32)]) (st := []) (ct_M_no l _ nr h g rr (r := (-1 : Int32)) (k := 1) (by decide) (by decide)) mo_M_no mi_M_no ml_M_94 rfl (by decide) rfl rfl rfl (Nat.le_of_ble_eq_true rfl) de_M_price_18 (fun v_ M_ hK_ hl_ hv_ => ?_)
    obtain ⟨rfl, hm_⟩ := hK_
    have hm_ := hm_.symm
    subst hm_
    change ab_G _ _ _ _ _ _ _ [(0, .ref 30), (1, .int x)] [.int (-1 : Int32)] (ab_S nr (ab_u2 h 31 1 (h 31 1 + 1)) g rr) _
    exact ab_ret (v := some (.int (-1 : Int32))) de_M_price_21 ⟨_, rfl⟩ ⟨_, _, (by unfold fx_M_price; rw [if_pos c_5_1]), rfl, (md_K_31 kk_h _ _), (md_kr_31 ff_h _)⟩
  · obtain ⟨xn, hxn, rfl⟩ := sp_cd_n c_5_1
    refine ab_aload_n de_M_price_8 0 rfl ?_
    refine ab_iload_n de_M_price_9 1 rfl ?_
    refine ab_cV (as := [.int (nI xn)]) (st := []) (ct_M_priceOf l _ nr h g rr (c := xn) (by omega)) mo_M_priceOf mi_M_priceOf ml_M_116 rfl (by decide) rfl rfl rfl (Nat.le_of_ble_eq_true rfl) de_M_price_10 (fun v_ M_ hK_ hl_ hv_ => ?_)
    obtain ⟨rfl, hm_⟩ := hK_
    have hm_ := hm_.symm
    subst hm_
    change ab_G _ _ _ _ _ _ _ [(0, .ref 30), (1, .int (nI xn))] [.int (nI (sp_pr xn))] (ab_S nr h g rr) _
    refine ab_goto (tgt := 21) de_M_price_13 rfl ?_
    exact ab_ret (v := some (.int (nI (sp_pr xn)))) de_M_price_21 ⟨_, rfl⟩ ⟨_, _, (by unfold fx_M_price; try simp only [ab_tn (show xn < 2 ^ 31 by omega)]; rw [if_neg c_5_1]), rfl, kk_h, ff_h⟩
def fx_M_fault (h : Nat → Nat → Int32)   : Option Value × (Nat → Nat → Int32) :=
  (some (.int (h 30 2)), h)
set_option maxHeartbeats 1000000 in
set_option maxRecDepth 10000 in
theorem ct_M_fault (l : Launch) (d : Nat) (nr : Nat) (h : Nat → Nat → Int32) (g : Nat → Nat → Int64) (rr : Nat → Option Nat)  {T0_ : Nat → Nat → Nat} {Z0_ : sp_G} (hK : md_K T0_ Z0_ h)  : ab_C l am_M_fault (d + 0) 0 0 [.ref 30] (ab_S nr h g rr) (fun r_ M' => ∃ X h', (r_, X) = fx_M_fault h  ∧ M' = ab_S nr h' g rr ∧ md_K T0_ Z0_ h' ∧ md_kr X h') := by
  have ff_h := md_kr_rf h
  have kk_h := hK
  refine ab_C_of (by decide +kernel) rfl (Nat.le_of_ble_eq_true rfl) ?_
  refine ab_aload_n de_M_fault_0 0 rfl ?_
  refine ab_get (v := .int (h 30 2)) fl_M_9 rfl rfl de_M_fault_1 ?_
  exact ab_ret (v := some (.int (h 30 2))) de_M_fault_4 ⟨_, rfl⟩ ⟨_, _, (by unfold fx_M_fault; rfl), rfl, kk_h, ff_h⟩
def fx_M_turn (h : Nat → Nat → Int32) (m i t : Nat) (x : Int32) : Option Value × (Nat → Nat → Int32) :=
  if x < 0 then
    (some (.int (-6 : Int32)), (ab_u2 h 31 6 (h 31 6 + 1)))
  else
    if x ≤ (1 : Int32) then
      (some (.int (nI t)), (ab_u2 h 30 5 x))
    else
      (some (.int (-6 : Int32)), (ab_u2 h 31 6 (h 31 6 + 1)))
set_option maxHeartbeats 1000000 in
set_option maxRecDepth 10000 in
theorem ct_M_turn (l : Launch) (d : Nat) (nr : Nat) (h : Nat → Nat → Int32) (g : Nat → Nat → Int64) (rr : Nat → Option Nat) {m i t : Nat} (hm : m < 4096) (hi : i < 4096) (ht : t < 2) (hB : md_bd m i t h) {T0_ : Nat → Nat → Nat} {Z0_ : sp_G} (hK : md_K T0_ Z0_ h) (x : Int32) : ab_C l am_M_turn (d + 1) 0 0 [.ref 30, .int x] (ab_S nr h g rr) (fun r_ M' => ∃ X h', (r_, X) = fx_M_turn h m i t x ∧ M' = ab_S nr h' g rr ∧ md_K T0_ Z0_ h' ∧ md_kr X h') := by
  have ff_h := md_kr_rf h
  have kk_h := hK
  refine ab_C_of (by decide +kernel) rfl (Nat.le_of_ble_eq_true rfl) ?_
  refine ab_iload_n de_M_turn_0 1 rfl ?_
  refine ab_if_lt (tgt := 9) de_M_turn_1 rfl (fun c_1_1 => ?_) (fun c_1_1 => ?_)
  · refine ab_aload_n de_M_turn_9 0 rfl ?_
    refine ab_bipush (v := -6) de_M_turn_10 rfl ?_
    refine ab_cV (as := [.int (-6 : Int32)]) (st := []) (ct_M_no l _ nr h g rr (r := (-6 : Int32)) (k := 6) (by decide) (by decide)) mo_M_no mi_M_no ml_M_94 rfl (by decide) rfl rfl rfl (Nat.le_of_ble_eq_true rfl) de_M_turn_12 (fun v_ M_ hK_ hl_ hv_ => ?_)
    obtain ⟨rfl, hm_⟩ := hK_
    have hm_ := hm_.symm
    subst hm_
    change ab_G _ _ _ _ _ _ _ [(0, .ref 30), (1, .int x)] [.int (-6 : Int32)] (ab_S nr (ab_u2 h 31 6 (h 31 6 + 1)) g rr) _
    exact ab_ret (v := some (.int (-6 : Int32))) de_M_turn_15 ⟨_, rfl⟩ ⟨_, _, (by unfold fx_M_turn; rw [if_pos c_1_1]), rfl, (md_K_31 kk_h _ _), (md_kr_31 ff_h _)⟩
  · refine ab_iload_n de_M_turn_4 1 rfl ?_
    refine ab_iconst (v := 1) de_M_turn_5 rfl ?_
    refine ab_icmp_le (tgt := 16) de_M_turn_6 rfl (fun c_6_2 => ?_) (fun c_6_2 => ?_)
    · refine ab_aload_n de_M_turn_16 0 rfl ?_
      refine ab_get (v := .int (h 30 5)) fl_M_177 rfl rfl de_M_turn_17 ?_
      refine ab_top (v' := nI t) (hB.1) ?_
      refine ab_istore_n (L' := [(2, .int (nI t)), (0, .ref 30), (1, .int x)]) de_M_turn_20 (by decide) rfl ?_
      refine ab_aload_n de_M_turn_21 1 rfl ?_
      refine ab_iload_n de_M_turn_22 2 rfl ?_
      refine ab_putI (x := 30) (j := 5) fl_M_177 rfl (Or.inl rfl) rfl rfl rfl de_M_turn_23 ?_
      change ab_G _ _ _ _ _ _ _ _ _ (ab_S nr (ab_u2 h 30 5 x) g rr) _
      refine ab_iload_n de_M_turn_26 0 rfl ?_
      exact ab_ret (v := some (.int (nI t))) de_M_turn_27 ⟨_, rfl⟩ ⟨_, _, (by unfold fx_M_turn; rw [if_neg c_1_1, if_pos c_6_2]), rfl, (md_K_fr (h := h) rfl rfl rfl rfl rfl kk_h), (md_kr_u2 ff_h _ _ _)⟩
    · refine ab_aload_n de_M_turn_9 0 rfl ?_
      refine ab_bipush (v := -6) de_M_turn_10 rfl ?_
      refine ab_cV (as := [.int (-6 : Int32)]) (st := []) (ct_M_no l _ nr h g rr (r := (-6 : Int32)) (k := 6) (by decide) (by decide)) mo_M_no mi_M_no ml_M_94 rfl (by decide) rfl rfl rfl (Nat.le_of_ble_eq_true rfl) de_M_turn_12 (fun v_ M_ hK_ hl_ hv_ => ?_)
      obtain ⟨rfl, hm_⟩ := hK_
      have hm_ := hm_.symm
      subst hm_
      change ab_G _ _ _ _ _ _ _ [(0, .ref 30), (1, .int x)] [.int (-6 : Int32)] (ab_S nr (ab_u2 h 31 6 (h 31 6 + 1)) g rr) _
      exact ab_ret (v := some (.int (-6 : Int32))) de_M_turn_15 ⟨_, rfl⟩ ⟨_, _, (by unfold fx_M_turn; rw [if_neg c_1_1, if_neg c_6_2]), rfl, (md_K_31 kk_h _ _), (md_kr_31 ff_h _)⟩
def fx_M_over (h : Nat → Nat → Int32) (T : Nat → Nat → Nat) (m i t : Nat) (x : Int32) : Option Value × (Nat → Nat → Int32) :=
  if (ab_bz (sp_cd x)) = 0 then
    (some (.int (-11 : Int32)), (ab_u2 h 31 1 (h 31 1 + 1)))
  else
    if (ab_bz (sp_ov T x.toNatClampNeg m i)) = 0 then
      (some (.int (-1 : Int32)), h)
    else
      (some (.int (nI (1 - t))), h)
set_option maxHeartbeats 1000000 in
set_option maxRecDepth 10000 in
theorem ct_M_over (l : Launch) (d : Nat) (nr : Nat) (h : Nat → Nat → Int32) (g : Nat → Nat → Int64) (rr : Nat → Option Nat) {T : Nat → Nat → Nat} (hTM : bo_T T h 32) (hO : sp_ok T) {m i t : Nat} (hm : m < 4096) (hi : i < 4096) (ht : t < 2) (hd : sp_dj m i) (hB : md_bd m i t h) {Z0_ : sp_G} (hK : md_K T Z0_ h) (x : Int32) : ab_C l am_M_over (d + 4) 0 0 [.ref 30, .int x] (ab_S nr h g rr) (fun r_ M' => ∃ X h', (r_, X) = fx_M_over h T m i t x ∧ M' = ab_S nr h' g rr ∧ md_K T Z0_ h' ∧ md_kr X h') := by
  have ff_h := md_kr_rf h
  have kk_h := hK
  refine ab_C_of (by decide +kernel) rfl (Nat.le_of_ble_eq_true rfl) ?_
  refine ab_aload_n de_M_over_0 0 rfl ?_
  refine ab_iload_n de_M_over_1 1 rfl ?_
  refine ab_cV (as := [.int x]) (st := []) (ct_M_isCode l _ (ab_S nr h g rr) (x)) mo_M_isCode mi_M_isCode ml_M_168 rfl (by decide) rfl rfl rfl (Nat.le_of_ble_eq_true rfl) de_M_over_2 (fun v_ M_ hK_ hl_ hv_ => ?_)
  obtain ⟨rfl, hm_⟩ := hK_
  have hm_ := hm_.symm
  subst hm_
  change ab_G _ _ _ _ _ _ _ [(0, .ref 30), (1, .int x)] [.int (ab_bz (sp_cd x))] (ab_S nr h g rr) _
  refine ab_if_ne (tgt := 14) de_M_over_5 rfl (fun c_5_1 => ?_) (fun c_5_1 => ?_)
  · obtain ⟨xn, hxn, rfl⟩ := sp_cd_n c_5_1
    refine ab_aload_n de_M_over_14 0 rfl ?_
    refine ab_iload_n de_M_over_15 1 rfl ?_
    refine ab_aload_n de_M_over_16 0 rfl ?_
    refine ab_cV (as := []) (st := [.int (nI xn), .ref 30]) (ct_M_mineNow l _ nr h g rr hB ht) mo_M_mineNow mi_M_mineNow ml_M_213 rfl (by decide) rfl rfl rfl (Nat.le_of_ble_eq_true rfl) de_M_over_17 (fun v_ M_ hK_ hl_ hv_ => ?_)
    obtain ⟨rfl, hm_⟩ := hK_
    have hm_ := hm_.symm
    subst hm_
    change ab_G _ _ _ _ _ _ _ [(0, .ref 30), (1, .int (nI xn))] [.int (nI m), .int (nI xn), .ref 30] (ab_S nr h g rr) _
    refine ab_aload_n de_M_over_20 0 rfl ?_
    refine ab_cV (as := []) (st := [.int (nI m), .int (nI xn), .ref 30]) (ct_M_itsNow l _ nr h g rr hB ht) mo_M_itsNow mi_M_itsNow ml_M_216 rfl (by decide) rfl rfl rfl (Nat.le_of_ble_eq_true rfl) de_M_over_21 (fun v_ M_ hK_ hl_ hv_ => ?_)
    obtain ⟨rfl, hm_⟩ := hK_
    have hm_ := hm_.symm
    subst hm_
    change ab_G _ _ _ _ _ _ _ [(0, .ref 30), (1, .int (nI xn))] [.int (nI i), .int (nI m), .int (nI xn), .ref 30] (ab_S nr h g rr) _
    refine ab_cV (as := [.int (nI xn), .int (nI m), .int (nI i)]) (st := []) (ct_M_isOver l _ nr h g rr hTM hO (c := xn) (by omega) hm hi) mo_M_isOver mi_M_isOver ml_M_225 rfl (by decide) rfl rfl rfl (Nat.le_of_ble_eq_true rfl) de_M_over_24 (fun v_ M_ hK_ hl_ hv_ => ?_)
    obtain ⟨rfl, hm_⟩ := hK_
    have hm_ := hm_.symm
    subst hm_
    change ab_G _ _ _ _ _ _ _ [(0, .ref 30), (1, .int (nI xn))] [.int (ab_bz (sp_ov T xn m i))] (ab_S nr h g rr) _
    refine ab_if_eq (tgt := 39) de_M_over_27 rfl (fun c_27_2 => ?_) (fun c_27_2 => ?_)
    · refine ab_iconst (v := -1) de_M_over_39 rfl ?_
      exact ab_ret (v := some (.int (-1 : Int32))) de_M_over_40 ⟨_, rfl⟩ ⟨_, _, (by unfold fx_M_over; try simp only [ab_tn (show xn < 2 ^ 31 by omega)]; rw [if_neg c_5_1, if_pos c_27_2]), rfl, kk_h, ff_h⟩
    · refine ab_iconst (v := 1) de_M_over_30 rfl ?_
      refine ab_aload_n de_M_over_31 0 rfl ?_
      refine ab_get (v := .int (h 30 5)) fl_M_177 rfl rfl de_M_over_32 ?_
      refine ab_top (v' := nI t) (hB.1) ?_
      refine ab_isub de_M_over_35 ?_
      refine ab_top (v' := nI (1 - t)) (ab_sub_k (a := 1) (by omega)) ?_
      refine ab_goto (tgt := 40) de_M_over_36 rfl ?_
      exact ab_ret (v := some (.int (nI (1 - t)))) de_M_over_40 ⟨_, rfl⟩ ⟨_, _, (by unfold fx_M_over; try simp only [ab_tn (show xn < 2 ^ 31 by omega)]; rw [if_neg c_5_1, if_neg c_27_2]), rfl, kk_h, ff_h⟩
  · refine ab_aload_n de_M_over_8 0 rfl ?_
    refine ab_iconst (v := -1) de_M_over_9 rfl ?_
    refine ab_cV (as := [.int (-1 : Int32)]) (st := []) (ct_M_noTen l _ nr h g rr (r := (-1 : Int32)) (k := 1) (by decide) (by decide)) mo_M_noTen mi_M_noTen ml_M_222 rfl (by decide) rfl rfl rfl (Nat.le_of_ble_eq_true rfl) de_M_over_10 (fun v_ M_ hK_ hl_ hv_ => ?_)
    obtain ⟨rfl, hm_⟩ := hK_
    have hm_ := hm_.symm
    subst hm_
    change ab_G _ _ _ _ _ _ _ [(0, .ref 30), (1, .int x)] [.int (-11 : Int32)] (ab_S nr (ab_u2 h 31 1 (h 31 1 + 1)) g rr) _
    exact ab_ret (v := some (.int (-11 : Int32))) de_M_over_13 ⟨_, rfl⟩ ⟨_, _, (by unfold fx_M_over; rw [if_pos c_5_1]), rfl, (md_K_31 kk_h _ _), (md_kr_31 ff_h _)⟩
def fx_M_moves (h : Nat → Nat → Int32) (T : Nat → Nat → Nat) (m i t : Nat) (x : Int32) : Option Value × (Nat → Nat → Int32) :=
  if (ab_bz (sp_cd x)) = 0 then
    (some (.int (-1 : Int32)), (ab_u2 h 31 1 (h 31 1 + 1)))
  else
    (some (.int (nI (sp_ml T (sp_lv T x.toNatClampNeg m i) m i).length)), h)
set_option maxHeartbeats 1000000 in
set_option maxRecDepth 10000 in
theorem ct_M_moves (l : Launch) (d : Nat) (nr : Nat) (h : Nat → Nat → Int32) (g : Nat → Nat → Int64) (rr : Nat → Option Nat) {T : Nat → Nat → Nat} (hTM : bo_T T h 32) (hO : sp_ok T) {m i t : Nat} (hm : m < 4096) (hi : i < 4096) (ht : t < 2) (hd : sp_dj m i) (hB : md_bd m i t h) {Z0_ : sp_G} (hK : md_K T Z0_ h) (x : Int32) : ab_C l am_M_moves (d + 4) 0 0 [.ref 30, .int x] (ab_S nr h g rr) (fun r_ M' => ∃ X h', (r_, X) = fx_M_moves h T m i t x ∧ M' = ab_S nr h' g rr ∧ md_K T Z0_ h' ∧ md_kr X h') := by
  have ff_h := md_kr_rf h
  have kk_h := hK
  refine ab_C_of (by decide +kernel) rfl (Nat.le_of_ble_eq_true rfl) ?_
  refine ab_aload_n de_M_moves_0 0 rfl ?_
  refine ab_iload_n de_M_moves_1 1 rfl ?_
  refine ab_cV (as := [.int x]) (st := []) (ct_M_isCode l _ (ab_S nr h g rr) (x)) mo_M_isCode mi_M_isCode ml_M_168 rfl (by decide) rfl rfl rfl (Nat.le_of_ble_eq_true rfl) de_M_moves_2 (fun v_ M_ hK_ hl_ hv_ => ?_)
  obtain ⟨rfl, hm_⟩ := hK_
  have hm_ := hm_.symm
  subst hm_
  change ab_G _ _ _ _ _ _ _ [(0, .ref 30), (1, .int x)] [.int (ab_bz (sp_cd x))] (ab_S nr h g rr) _
  refine ab_if_eq (tgt := 25) de_M_moves_5 rfl (fun c_5_1 => ?_) (fun c_5_1 => ?_)
  · refine ab_aload_n de_M_moves_25 0 rfl ?_
    refine ab_iconst (v := -1) de_M_moves_26 rfl ?_
    refine ab_cV (as := [.int (-1 : Int32)]) (st := []) (ct_M_no l _ nr h g rr (r := (-1 : Int32)) (k := 1) (by decide) (by decide)) mo_M_no mi_M_no ml_M_94 rfl (by decide) rfl rfl rfl (Nat.le_of_ble_eq_true rfl) de_M_moves_27 (fun v_ M_ hK_ hl_ hv_ => ?_)
    obtain ⟨rfl, hm_⟩ := hK_
    have hm_ := hm_.symm
    subst hm_
    change ab_G _ _ _ _ _ _ _ [(0, .ref 30), (1, .int x)] [.int (-1 : Int32)] (ab_S nr (ab_u2 h 31 1 (h 31 1 + 1)) g rr) _
    exact ab_ret (v := some (.int (-1 : Int32))) de_M_moves_30 ⟨_, rfl⟩ ⟨_, _, (by unfold fx_M_moves; rw [if_pos c_5_1]), rfl, (md_K_31 kk_h _ _), (md_kr_31 ff_h _)⟩
  · obtain ⟨xn, hxn, rfl⟩ := sp_cd_n c_5_1
    refine ab_aload_n de_M_moves_8 0 rfl ?_
    refine ab_iload_n de_M_moves_9 1 rfl ?_
    refine ab_aload_n de_M_moves_10 0 rfl ?_
    refine ab_cV (as := []) (st := [.int (nI xn), .ref 30]) (ct_M_mineNow l _ nr h g rr hB ht) mo_M_mineNow mi_M_mineNow ml_M_213 rfl (by decide) rfl rfl rfl (Nat.le_of_ble_eq_true rfl) de_M_moves_11 (fun v_ M_ hK_ hl_ hv_ => ?_)
    obtain ⟨rfl, hm_⟩ := hK_
    have hm_ := hm_.symm
    subst hm_
    change ab_G _ _ _ _ _ _ _ [(0, .ref 30), (1, .int (nI xn))] [.int (nI m), .int (nI xn), .ref 30] (ab_S nr h g rr) _
    refine ab_aload_n de_M_moves_14 0 rfl ?_
    refine ab_cV (as := []) (st := [.int (nI m), .int (nI xn), .ref 30]) (ct_M_itsNow l _ nr h g rr hB ht) mo_M_itsNow mi_M_itsNow ml_M_216 rfl (by decide) rfl rfl rfl (Nat.le_of_ble_eq_true rfl) de_M_moves_15 (fun v_ M_ hK_ hl_ hv_ => ?_)
    obtain ⟨rfl, hm_⟩ := hK_
    have hm_ := hm_.symm
    subst hm_
    change ab_G _ _ _ _ _ _ _ [(0, .ref 30), (1, .int (nI xn))] [.int (nI i), .int (nI m), .int (nI xn), .ref 30] (ab_S nr h g rr) _
    refine ab_iconst (v := 0) de_M_moves_18 rfl ?_
    refine ab_cV (as := [.int (nI xn), .int (nI m), .int (nI i), .int (0 : Int32)]) (st := []) (ct_M_lists l _ nr h g rr hTM hO (c := xn) (by omega) hm hi (p0 := 0) (by omega)) mo_M_lists mi_M_lists ml_M_219 rfl (by decide) rfl rfl rfl (Nat.le_of_ble_eq_true rfl) de_M_moves_19 (fun v_ M_ hK_ hl_ hv_ => ?_)
    obtain ⟨rfl, h1_, rfl, s1_, s2_⟩ := hK_
    change ab_G _ _ _ _ _ _ _ [(0, .ref 30), (1, .int (nI xn))] [.int (nI (sp_ml T (sp_lv T xn m i) m i).length)] (ab_S nr h1_ g rr) _
    have ff_h1_ := md_kr_sc (md_sc_44 s1_)
    have kk_h1_ := md_K_sc (md_sc_44 s1_) hK
    have ln_ := md_ml_le T (sp_lv T xn m i) m i
    refine ab_goto (tgt := 30) de_M_moves_22 rfl ?_
    exact ab_ret (v := some (.int (nI (sp_ml T (sp_lv T xn m i) m i).length))) de_M_moves_30 ⟨_, rfl⟩ ⟨_, _, (by unfold fx_M_moves; try simp only [ab_tn (show xn < 2 ^ 31 by omega)]; rw [if_neg c_5_1]), rfl, kk_h1_, ff_h1_⟩
def fx_M_ruleOf (h : Nat → Nat → Int32) (n_ : Nat) (cs : Nat → Nat) (x y : Int32) : Option Value × (Nat → Nat → Int32) :=
  if (ab_bz (decide (0 ≤ x ∧ x < nI n_))) = 0 then
    (some (.int (-5 : Int32)), (ab_u2 h 31 5 (h 31 5 + 1)))
  else
    if y < 0 then
      (some (.int (-5 : Int32)), (ab_u2 h 31 5 (h 31 5 + 1)))
    else
      if y ≤ (2 : Int32) then
        if y = 0 then
          (some (.int (nI (cs x.toNatClampNeg))), h)
        else
          if y = (1 : Int32) then
            (some (.int (nI (sp_kd (cs x.toNatClampNeg)))), h)
          else
            (some (.int (nI (sp_pr (cs x.toNatClampNeg)))), h)
      else
        (some (.int (-5 : Int32)), (ab_u2 h 31 5 (h 31 5 + 1)))
set_option maxHeartbeats 1000000 in
set_option maxRecDepth 10000 in
theorem ct_M_ruleOf (l : Launch) (d : Nat) (nr : Nat) (h : Nat → Nat → Int32) (g : Nat → Nat → Int64) (rr : Nat → Option Nat) {n_ : Nat} (hMR : h 30 0 = nI n_) (hn5 : n_ ≤ 8) {cs : Nat → Nat} (hcs : ∀ k, k < n_ → h 33 k = nI (cs k) ∧ 1 ≤ cs k ∧ cs k < 4096) {T0_ : Nat → Nat → Nat} {Z0_ : sp_G} (hK : md_K T0_ Z0_ h) (x y : Int32) : ab_C l am_M_ruleOf (d + 3) 0 0 [.ref 30, .int x, .int y] (ab_S nr h g rr) (fun r_ M' => ∃ X h', (r_, X) = fx_M_ruleOf h n_ cs x y ∧ M' = ab_S nr h' g rr ∧ md_K T0_ Z0_ h' ∧ md_kr X h') := by
  have ff_h := md_kr_rf h
  have kk_h := hK
  refine ab_C_of (by decide +kernel) rfl (Nat.le_of_ble_eq_true rfl) ?_
  refine ab_aload_n de_M_ruleOf_0 0 rfl ?_
  refine ab_iload_n de_M_ruleOf_1 1 rfl ?_
  refine ab_cV (as := [.int x]) (st := []) (ct_M_isRule l _ nr h g rr hMR x) mo_M_isRule mi_M_isRule ml_M_98 rfl (by decide) rfl rfl rfl (Nat.le_of_ble_eq_true rfl) de_M_ruleOf_2 (fun v_ M_ hK_ hl_ hv_ => ?_)
  obtain ⟨rfl, hm_⟩ := hK_
  have hm_ := hm_.symm
  subst hm_
  change ab_G _ _ _ _ _ _ _ [(0, .ref 30), (1, .int x), (2, .int y)] [.int (ab_bz (decide (0 ≤ x ∧ x < nI n_)))] (ab_S nr h g rr) _
  refine ab_if_eq (tgt := 17) de_M_ruleOf_5 rfl (fun c_5_1 => ?_) (fun c_5_1 => ?_)
  · refine ab_aload_n de_M_ruleOf_17 0 rfl ?_
    refine ab_bipush (v := -5) de_M_ruleOf_18 rfl ?_
    refine ab_cV (as := [.int (-5 : Int32)]) (st := []) (ct_M_no l _ nr h g rr (r := (-5 : Int32)) (k := 5) (by decide) (by decide)) mo_M_no mi_M_no ml_M_94 rfl (by decide) rfl rfl rfl (Nat.le_of_ble_eq_true rfl) de_M_ruleOf_20 (fun v_ M_ hK_ hl_ hv_ => ?_)
    obtain ⟨rfl, hm_⟩ := hK_
    have hm_ := hm_.symm
    subst hm_
    change ab_G _ _ _ _ _ _ _ [(0, .ref 30), (1, .int x), (2, .int y)] [.int (-5 : Int32)] (ab_S nr (ab_u2 h 31 5 (h 31 5 + 1)) g rr) _
    exact ab_ret (v := some (.int (-5 : Int32))) de_M_ruleOf_23 ⟨_, rfl⟩ ⟨_, _, (by unfold fx_M_ruleOf; rw [if_pos c_5_1]), rfl, (md_K_31 kk_h _ _), (md_kr_31 ff_h _)⟩
  · obtain ⟨xn, hxn, rfl⟩ := sp_ra_n (by omega) c_5_1
    refine ab_iload_n de_M_ruleOf_8 2 rfl ?_
    refine ab_if_lt (tgt := 17) de_M_ruleOf_9 rfl (fun c_9_2 => ?_) (fun c_9_2 => ?_)
    · refine ab_aload_n de_M_ruleOf_17 0 rfl ?_
      refine ab_bipush (v := -5) de_M_ruleOf_18 rfl ?_
      refine ab_cV (as := [.int (-5 : Int32)]) (st := []) (ct_M_no l _ nr h g rr (r := (-5 : Int32)) (k := 5) (by decide) (by decide)) mo_M_no mi_M_no ml_M_94 rfl (by decide) rfl rfl rfl (Nat.le_of_ble_eq_true rfl) de_M_ruleOf_20 (fun v_ M_ hK_ hl_ hv_ => ?_)
      obtain ⟨rfl, hm_⟩ := hK_
      have hm_ := hm_.symm
      subst hm_
      change ab_G _ _ _ _ _ _ _ [(0, .ref 30), (1, .int (nI xn)), (2, .int y)] [.int (-5 : Int32)] (ab_S nr (ab_u2 h 31 5 (h 31 5 + 1)) g rr) _
      exact ab_ret (v := some (.int (-5 : Int32))) de_M_ruleOf_23 ⟨_, rfl⟩ ⟨_, _, (by unfold fx_M_ruleOf; try simp only [ab_tn (show xn < 2 ^ 31 by omega)]; rw [if_neg c_5_1, if_pos c_9_2]), rfl, (md_K_31 kk_h _ _), (md_kr_31 ff_h _)⟩
    · refine ab_iload_n de_M_ruleOf_12 2 rfl ?_
      refine ab_iconst (v := 2) de_M_ruleOf_13 rfl ?_
      refine ab_icmp_le (tgt := 24) de_M_ruleOf_14 rfl (fun c_14_3 => ?_) (fun c_14_3 => ?_)
      · refine ab_iload_n de_M_ruleOf_24 2 rfl ?_
        refine ab_if_ne (tgt := 37) de_M_ruleOf_25 rfl (fun c_25_4 => ?_) (fun c_25_4 => ?_)
        · refine ab_iload_n de_M_ruleOf_37 2 rfl ?_
          refine ab_iconst (v := 1) de_M_ruleOf_38 rfl ?_
          refine ab_icmp_ne (tgt := 55) de_M_ruleOf_39 rfl (fun c_39_5 => ?_) (fun c_39_5 => ?_)
          · refine ab_aload_n de_M_ruleOf_55 0 rfl ?_
            refine ab_aload_n de_M_ruleOf_56 0 rfl ?_
            refine ab_get (v := .ref 33) fl_M_20 rfl rfl de_M_ruleOf_57 ?_
            refine ab_iload_n de_M_ruleOf_60 1 rfl ?_
            refine ab_iald (v := h 33 xn) rfl (ab_in (by omega) (by decide)) (ab_hv (ab_tn (n := xn) (by omega))) de_M_ruleOf_61 ?_
            refine ab_top (v' := nI (cs xn)) ((hcs xn (by omega)).1) ?_
            refine ab_cV (as := [.int (nI (cs xn))]) (st := []) (ct_M_priceOf l _ nr h g rr (c := cs xn) (hcs xn (by omega)).2.2) mo_M_priceOf mi_M_priceOf ml_M_116 rfl (by decide) rfl rfl rfl (Nat.le_of_ble_eq_true rfl) de_M_ruleOf_62 (fun v_ M_ hK_ hl_ hv_ => ?_)
            obtain ⟨rfl, hm_⟩ := hK_
            have hm_ := hm_.symm
            subst hm_
            change ab_G _ _ _ _ _ _ _ [(0, .ref 30), (1, .int (nI xn)), (2, .int y)] [.int (nI (sp_pr (cs xn)))] (ab_S nr h g rr) _
            exact ab_ret (v := some (.int (nI (sp_pr (cs xn))))) de_M_ruleOf_65 ⟨_, rfl⟩ ⟨_, _, (by unfold fx_M_ruleOf; try simp only [ab_tn (show xn < 2 ^ 31 by omega)]; rw [if_neg c_5_1, if_neg c_9_2, if_pos c_14_3, if_neg c_25_4, if_neg c_39_5]), rfl, kk_h, ff_h⟩
          · refine ab_aload_n de_M_ruleOf_42 0 rfl ?_
            refine ab_aload_n de_M_ruleOf_43 0 rfl ?_
            refine ab_get (v := .ref 33) fl_M_20 rfl rfl de_M_ruleOf_44 ?_
            refine ab_iload_n de_M_ruleOf_47 1 rfl ?_
            refine ab_iald (v := h 33 xn) rfl (ab_in (by omega) (by decide)) (ab_hv (ab_tn (n := xn) (by omega))) de_M_ruleOf_48 ?_
            refine ab_top (v' := nI (cs xn)) ((hcs xn (by omega)).1) ?_
            refine ab_cV (as := [.int (nI (cs xn))]) (st := []) (ct_M_kindOf l _ nr h g rr (c := cs xn) (hcs xn (by omega)).2.2 (hcs xn (by omega)).2.1) mo_M_kindOf mi_M_kindOf ml_M_110 rfl (by decide) rfl rfl rfl (Nat.le_of_ble_eq_true rfl) de_M_ruleOf_49 (fun v_ M_ hK_ hl_ hv_ => ?_)
            obtain ⟨rfl, hm_⟩ := hK_
            have hm_ := hm_.symm
            subst hm_
            change ab_G _ _ _ _ _ _ _ [(0, .ref 30), (1, .int (nI xn)), (2, .int y)] [.int (nI (sp_kd (cs xn)))] (ab_S nr h g rr) _
            refine ab_goto (tgt := 65) de_M_ruleOf_52 rfl ?_
            exact ab_ret (v := some (.int (nI (sp_kd (cs xn))))) de_M_ruleOf_65 ⟨_, rfl⟩ ⟨_, _, (by unfold fx_M_ruleOf; try simp only [ab_tn (show xn < 2 ^ 31 by omega)]; rw [if_neg c_5_1, if_neg c_9_2, if_pos c_14_3, if_neg c_25_4, if_pos c_39_5]), rfl, kk_h, ff_h⟩
        · refine ab_aload_n de_M_ruleOf_28 0 rfl ?_
          refine ab_get (v := .ref 33) fl_M_20 rfl rfl de_M_ruleOf_29 ?_
          refine ab_iload_n de_M_ruleOf_32 1 rfl ?_
          refine ab_iald (v := h 33 xn) rfl (ab_in (by omega) (by decide)) (ab_hv (ab_tn (n := xn) (by omega))) de_M_ruleOf_33 ?_
          refine ab_top (v' := nI (cs xn)) ((hcs xn (by omega)).1) ?_
          refine ab_goto (tgt := 65) de_M_ruleOf_34 rfl ?_
          exact ab_ret (v := some (.int (nI (cs xn)))) de_M_ruleOf_65 ⟨_, rfl⟩ ⟨_, _, (by unfold fx_M_ruleOf; try simp only [ab_tn (show xn < 2 ^ 31 by omega)]; rw [if_neg c_5_1, if_neg c_9_2, if_pos c_14_3, if_pos c_25_4]), rfl, kk_h, ff_h⟩
      · refine ab_aload_n de_M_ruleOf_17 0 rfl ?_
        refine ab_bipush (v := -5) de_M_ruleOf_18 rfl ?_
        refine ab_cV (as := [.int (-5 : Int32)]) (st := []) (ct_M_no l _ nr h g rr (r := (-5 : Int32)) (k := 5) (by decide) (by decide)) mo_M_no mi_M_no ml_M_94 rfl (by decide) rfl rfl rfl (Nat.le_of_ble_eq_true rfl) de_M_ruleOf_20 (fun v_ M_ hK_ hl_ hv_ => ?_)
        obtain ⟨rfl, hm_⟩ := hK_
        have hm_ := hm_.symm
        subst hm_
        change ab_G _ _ _ _ _ _ _ [(0, .ref 30), (1, .int (nI xn)), (2, .int y)] [.int (-5 : Int32)] (ab_S nr (ab_u2 h 31 5 (h 31 5 + 1)) g rr) _
        exact ab_ret (v := some (.int (-5 : Int32))) de_M_ruleOf_23 ⟨_, rfl⟩ ⟨_, _, (by unfold fx_M_ruleOf; try simp only [ab_tn (show xn < 2 ^ 31 by omega)]; rw [if_neg c_5_1, if_neg c_9_2, if_neg c_14_3]), rfl, (md_K_31 kk_h _ _), (md_kr_31 ff_h _)⟩
