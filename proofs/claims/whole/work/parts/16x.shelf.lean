/-! the reference: shelves, TIES -/
def fx_M_tied (nr : Nat) (h : Nat → Nat → Int32) (g : Nat → Nat → Int64) (rr : Nat → Option Nat)  (T : Nat → Nat → Nat) (x y : Int32) : Option Value × ab_Me :=
  if (ab_bz (sp_pt x)) = 0 then
    (some (.int (-1 : Int32)), (ab_S nr (ab_u2 h 31 1 (h 31 1 + 1)) g rr))
  else
    if y < 0 then
      (some (.int (-1 : Int32)), (ab_S nr (ab_u2 h 31 1 (h 31 1 + 1)) g rr))
    else
      if (3 : Int32) ≤ y then
        (some (.int (-1 : Int32)), (ab_S nr (ab_u2 h 31 1 (h 31 1 + 1)) g rr))
      else
        (some (.int (nI (T y.toNatClampNeg x.toNatClampNeg))), (ab_S nr h g rr))
set_option maxHeartbeats 1000000 in
set_option maxRecDepth 10000 in
theorem ct_M_tied (l : Launch) (d : Nat) (nr : Nat) (h : Nat → Nat → Int32) (g : Nat → Nat → Int64) (rr : Nat → Option Nat)  {T : Nat → Nat → Nat} (hTM : bo_T T h 32) (hO : sp_ok T) (x y : Int32) : ab_C l am_M_tied (d + 1) 0 0 [.ref 30, .int x, .int y] (ab_S nr h g rr) (fun r_ M' => (r_, M') = fx_M_tied nr h g rr T x y) := by
  refine ab_C_of (by decide +kernel) rfl (Nat.le_of_ble_eq_true rfl) ?_
  refine ab_aload_n de_M_tied_0 0 rfl ?_
  refine ab_iload_n de_M_tied_1 1 rfl ?_
  refine ab_cV (as := [.int x]) (st := []) (ct_M_isPoint l _ (ab_S nr h g rr) (x)) mo_M_isPoint mi_M_isPoint ml_M_119 rfl (by decide) rfl rfl rfl (Nat.le_of_ble_eq_true rfl) de_M_tied_2 (fun v_ M_ hK_ hl_ hv_ => ?_)
  obtain ⟨rfl, hm_⟩ := hK_
  have hm_ := hm_.symm
  subst hm_
  change ab_G _ _ _ _ _ _ _ [(0, .ref 30), (1, .int x), (2, .int y)] [.int (ab_bz (sp_pt x))] (ab_S nr h g rr) _
  refine ab_if_eq (tgt := 31) de_M_tied_5 rfl (fun c_5_1 => ?_) (fun c_5_1 => ?_)
  · refine ab_aload_n de_M_tied_31 0 rfl ?_
    refine ab_iconst (v := -1) de_M_tied_32 rfl ?_
    refine ab_cV (as := [.int (-1 : Int32)]) (st := []) (ct_M_no l _ nr h g rr (r := (-1 : Int32)) (k := 1) (by decide) (by decide)) mo_M_no mi_M_no ml_M_94 rfl (by decide) rfl rfl rfl (Nat.le_of_ble_eq_true rfl) de_M_tied_33 (fun v_ M_ hK_ hl_ hv_ => ?_)
    obtain ⟨rfl, hm_⟩ := hK_
    have hm_ := hm_.symm
    subst hm_
    change ab_G _ _ _ _ _ _ _ [(0, .ref 30), (1, .int x), (2, .int y)] [.int (-1 : Int32)] (ab_S nr (ab_u2 h 31 1 (h 31 1 + 1)) g rr) _
    exact ab_ret (v := some (.int (-1 : Int32))) de_M_tied_36 ⟨_, rfl⟩ (by unfold fx_M_tied; rw [if_pos c_5_1])
  · obtain ⟨xn, hxn, rfl⟩ := sp_pt__n c_5_1
    refine ab_iload_n de_M_tied_8 2 rfl ?_
    refine ab_if_lt (tgt := 31) de_M_tied_9 rfl (fun c_9_2 => ?_) (fun c_9_2 => ?_)
    · refine ab_aload_n de_M_tied_31 0 rfl ?_
      refine ab_iconst (v := -1) de_M_tied_32 rfl ?_
      refine ab_cV (as := [.int (-1 : Int32)]) (st := []) (ct_M_no l _ nr h g rr (r := (-1 : Int32)) (k := 1) (by decide) (by decide)) mo_M_no mi_M_no ml_M_94 rfl (by decide) rfl rfl rfl (Nat.le_of_ble_eq_true rfl) de_M_tied_33 (fun v_ M_ hK_ hl_ hv_ => ?_)
      obtain ⟨rfl, hm_⟩ := hK_
      have hm_ := hm_.symm
      subst hm_
      change ab_G _ _ _ _ _ _ _ [(0, .ref 30), (1, .int (nI xn)), (2, .int y)] [.int (-1 : Int32)] (ab_S nr (ab_u2 h 31 1 (h 31 1 + 1)) g rr) _
      exact ab_ret (v := some (.int (-1 : Int32))) de_M_tied_36 ⟨_, rfl⟩ (by unfold fx_M_tied; try simp only [ab_tn (show xn < 2 ^ 31 by omega)]; rw [if_neg c_5_1, if_pos c_9_2])
    · have c9_ := c_9_2
      refine ab_iload_n de_M_tied_12 2 rfl ?_
      refine ab_iconst (v := 3) de_M_tied_13 rfl ?_
      refine ab_icmp_ge (tgt := 31) de_M_tied_14 rfl (fun c_14_3 => ?_) (fun c_14_3 => ?_)
      · refine ab_aload_n de_M_tied_31 0 rfl ?_
        refine ab_iconst (v := -1) de_M_tied_32 rfl ?_
        refine ab_cV (as := [.int (-1 : Int32)]) (st := []) (ct_M_no l _ nr h g rr (r := (-1 : Int32)) (k := 1) (by decide) (by decide)) mo_M_no mi_M_no ml_M_94 rfl (by decide) rfl rfl rfl (Nat.le_of_ble_eq_true rfl) de_M_tied_33 (fun v_ M_ hK_ hl_ hv_ => ?_)
        obtain ⟨rfl, hm_⟩ := hK_
        have hm_ := hm_.symm
        subst hm_
        change ab_G _ _ _ _ _ _ _ [(0, .ref 30), (1, .int (nI xn)), (2, .int y)] [.int (-1 : Int32)] (ab_S nr (ab_u2 h 31 1 (h 31 1 + 1)) g rr) _
        exact ab_ret (v := some (.int (-1 : Int32))) de_M_tied_36 ⟨_, rfl⟩ (by unfold fx_M_tied; try simp only [ab_tn (show xn < 2 ^ 31 by omega)]; rw [if_neg c_5_1, if_neg c_9_2, if_pos c_14_3])
      · obtain ⟨yn, hyn, rfl⟩ := sp_bt_n (N := 3) (by decide) c9_ (Int32.not_le.mp c_14_3)
        refine ab_aload_n de_M_tied_17 0 rfl ?_
        refine ab_get (v := .ref 32) fl_M_17 rfl rfl de_M_tied_18 ?_
        refine ab_bipush (v := 12) de_M_tied_21 rfl ?_
        refine ab_iload_n de_M_tied_23 2 rfl ?_
        refine ab_imul de_M_tied_24 ?_
        refine ab_top (v' := nI (12 * yn)) (ab_mul _ _) ?_
        refine ab_iload_n de_M_tied_25 1 rfl ?_
        refine ab_iadd de_M_tied_26 ?_
        refine ab_top (v' := nI ((12 * yn) + xn)) (ab_add _ _) ?_
        refine ab_iald (v := h 32 ((12 * yn) + xn)) rfl (ab_in (by omega) (by decide)) (ab_hv (ab_tn (n := ((12 * yn) + xn)) (by omega))) de_M_tied_27 ?_
        refine ab_top (v' := nI (T yn xn)) (hTM yn xn (by omega) (by omega)) ?_
        refine ab_goto (tgt := 36) de_M_tied_28 rfl ?_
        exact ab_ret (v := some (.int (nI (T yn xn)))) de_M_tied_36 ⟨_, rfl⟩ (by unfold fx_M_tied; try simp only [ab_tn (show xn < 2 ^ 31 by omega), ab_tn (show yn < 2 ^ 31 by omega)]; rw [if_neg c_5_1, if_neg c_9_2, if_neg c_14_3])
def fx_M_holds (nr : Nat) (h : Nat → Nat → Int32) (g : Nat → Nat → Int64) (rr : Nat → Option Nat)   (s : Int32) : Option Value × ab_Me :=
  if (ab_bz (sp_sh s)) = 0 then
    (some (.int (-1 : Int32)), (ab_S nr h g rr))
  else
    if (h 38 s.toNatClampNeg) = 0 then
      (some (.int (-1 : Int32)), (ab_S nr h g rr))
    else
      if (h 38 s.toNatClampNeg) = (1 : Int32) then
        (some (.int ((100 : Int32) + (h 39 s.toNatClampNeg))), (ab_S nr h g rr))
      else
        (some (.int (h 41 s.toNatClampNeg)), (ab_S nr h g rr))
set_option maxHeartbeats 1000000 in
set_option maxRecDepth 10000 in
theorem ct_M_holds (l : Launch) (d : Nat) (nr : Nat) (h : Nat → Nat → Int32) (g : Nat → Nat → Int64) (rr : Nat → Option Nat)   (s : Int32) : ab_C l am_M_holds (d + 1) 0 0 [.ref 30, .int s] (ab_S nr h g rr) (fun r_ M' => (r_, M') = fx_M_holds nr h g rr s) := by
  refine ab_C_of (by decide +kernel) rfl (Nat.le_of_ble_eq_true rfl) ?_
  refine ab_aload_n de_M_holds_0 0 rfl ?_
  refine ab_iload_n de_M_holds_1 1 rfl ?_
  refine ab_cV (as := [.int s]) (st := []) (ct_M_isShelf l _ (ab_S nr h g rr) (s)) mo_M_isShelf mi_M_isShelf ml_M_90 rfl (by decide) rfl rfl rfl (Nat.le_of_ble_eq_true rfl) de_M_holds_2 (fun v_ M_ hK_ hl_ hv_ => ?_)
  obtain ⟨rfl, hm_⟩ := hK_
  have hm_ := hm_.symm
  subst hm_
  change ab_G _ _ _ _ _ _ _ [(0, .ref 30), (1, .int s)] [.int (ab_bz (sp_sh s))] (ab_S nr h g rr) _
  refine ab_if_eq (tgt := 17) de_M_holds_5 rfl (fun c_5_1 => ?_) (fun c_5_1 => ?_)
  · refine ab_iconst (v := -1) de_M_holds_17 rfl ?_
    exact ab_ret (v := some (.int (-1 : Int32))) de_M_holds_18 ⟨_, rfl⟩ (by unfold fx_M_holds; rw [if_pos c_5_1])
  · obtain ⟨sn, hsn, rfl⟩ := sp_sh_n c_5_1
    refine ab_aload_n de_M_holds_8 0 rfl ?_
    refine ab_get (v := .ref 38) fl_M_35 rfl rfl de_M_holds_9 ?_
    refine ab_iload_n de_M_holds_12 1 rfl ?_
    refine ab_iald (v := h 38 sn) rfl (ab_in (by omega) (by decide)) (ab_hv (ab_tn (n := sn) (by omega))) de_M_holds_13 ?_
    refine ab_if_ne (tgt := 19) de_M_holds_14 rfl (fun c_14_2 => ?_) (fun c_14_2 => ?_)
    · refine ab_aload_n de_M_holds_19 0 rfl ?_
      refine ab_get (v := .ref 38) fl_M_35 rfl rfl de_M_holds_20 ?_
      refine ab_iload_n de_M_holds_23 1 rfl ?_
      refine ab_iald (v := h 38 sn) rfl (ab_in (by omega) (by decide)) (ab_hv (ab_tn (n := sn) (by omega))) de_M_holds_24 ?_
      refine ab_iconst (v := 1) de_M_holds_25 rfl ?_
      refine ab_icmp_ne (tgt := 41) de_M_holds_26 rfl (fun c_26_3 => ?_) (fun c_26_3 => ?_)
      · refine ab_aload_n de_M_holds_41 0 rfl ?_
        refine ab_get (v := .ref 41) fl_M_44 rfl rfl de_M_holds_42 ?_
        refine ab_iload_n de_M_holds_45 1 rfl ?_
        refine ab_iald (v := h 41 sn) rfl (ab_in (by omega) (by decide)) (ab_hv (ab_tn (n := sn) (by omega))) de_M_holds_46 ?_
        exact ab_ret (v := some (.int (h 41 sn))) de_M_holds_47 ⟨_, rfl⟩ (by unfold fx_M_holds; try simp only [ab_tn (show sn < 2 ^ 31 by omega)]; rw [if_neg c_5_1, if_neg c_14_2, if_neg c_26_3])
      · refine ab_bipush (v := 100) de_M_holds_29 rfl ?_
        refine ab_aload_n de_M_holds_31 0 rfl ?_
        refine ab_get (v := .ref 39) fl_M_38 rfl rfl de_M_holds_32 ?_
        refine ab_iload_n de_M_holds_35 1 rfl ?_
        refine ab_iald (v := h 39 sn) rfl (ab_in (by omega) (by decide)) (ab_hv (ab_tn (n := sn) (by omega))) de_M_holds_36 ?_
        refine ab_iadd de_M_holds_37 ?_
        refine ab_goto (tgt := 47) de_M_holds_38 rfl ?_
        exact ab_ret (v := some (.int ((100 : Int32) + (h 39 sn)))) de_M_holds_47 ⟨_, rfl⟩ (by unfold fx_M_holds; try simp only [ab_tn (show sn < 2 ^ 31 by omega)]; rw [if_neg c_5_1, if_neg c_14_2, if_pos c_26_3])
    · refine ab_iconst (v := -1) de_M_holds_17 rfl ?_
      exact ab_ret (v := some (.int (-1 : Int32))) de_M_holds_18 ⟨_, rfl⟩ (by unfold fx_M_holds; try simp only [ab_tn (show sn < 2 ^ 31 by omega)]; rw [if_neg c_5_1, if_pos c_14_2])
def fx_M_wants (nr : Nat) (h : Nat → Nat → Int32) (g : Nat → Nat → Int64) (rr : Nat → Option Nat)   (s : Int32) : Option Value × ab_Me :=
  if (ab_bz (sp_sh s)) = 0 then
    (some (.int (-1 : Int32)), (ab_S nr h g rr))
  else
    if (h 38 s.toNatClampNeg) = (2 : Int32) then
      (some (.int (-2 : Int32)), (ab_S nr h g rr))
    else
      if (h 38 s.toNatClampNeg) = 0 then
        (some (.int (-3 : Int32)), (ab_S nr h g rr))
      else
        (some (.int (0 : Int32)), (ab_S nr h g rr))
set_option maxHeartbeats 1000000 in
set_option maxRecDepth 10000 in
theorem ct_M_wants (l : Launch) (d : Nat) (nr : Nat) (h : Nat → Nat → Int32) (g : Nat → Nat → Int64) (rr : Nat → Option Nat)   (s : Int32) : ab_C l am_M_wants (d + 1) 0 0 [.ref 30, .int s] (ab_S nr h g rr) (fun r_ M' => (r_, M') = fx_M_wants nr h g rr s) := by
  refine ab_C_of (by decide +kernel) rfl (Nat.le_of_ble_eq_true rfl) ?_
  refine ab_aload_n de_M_wants_0 0 rfl ?_
  refine ab_iload_n de_M_wants_1 1 rfl ?_
  refine ab_cV (as := [.int s]) (st := []) (ct_M_isShelf l _ (ab_S nr h g rr) (s)) mo_M_isShelf mi_M_isShelf ml_M_90 rfl (by decide) rfl rfl rfl (Nat.le_of_ble_eq_true rfl) de_M_wants_2 (fun v_ M_ hK_ hl_ hv_ => ?_)
  obtain ⟨rfl, hm_⟩ := hK_
  have hm_ := hm_.symm
  subst hm_
  change ab_G _ _ _ _ _ _ _ [(0, .ref 30), (1, .int s)] [.int (ab_bz (sp_sh s))] (ab_S nr h g rr) _
  refine ab_if_ne (tgt := 12) de_M_wants_5 rfl (fun c_5_1 => ?_) (fun c_5_1 => ?_)
  · obtain ⟨sn, hsn, rfl⟩ := sp_sh_n c_5_1
    refine ab_aload_n de_M_wants_12 0 rfl ?_
    refine ab_get (v := .ref 38) fl_M_35 rfl rfl de_M_wants_13 ?_
    refine ab_iload_n de_M_wants_16 1 rfl ?_
    refine ab_iald (v := h 38 sn) rfl (ab_in (by omega) (by decide)) (ab_hv (ab_tn (n := sn) (by omega))) de_M_wants_17 ?_
    refine ab_iconst (v := 2) de_M_wants_18 rfl ?_
    refine ab_icmp_ne (tgt := 27) de_M_wants_19 rfl (fun c_19_2 => ?_) (fun c_19_2 => ?_)
    · refine ab_aload_n de_M_wants_27 0 rfl ?_
      refine ab_get (v := .ref 38) fl_M_35 rfl rfl de_M_wants_28 ?_
      refine ab_iload_n de_M_wants_31 1 rfl ?_
      refine ab_iald (v := h 38 sn) rfl (ab_in (by omega) (by decide)) (ab_hv (ab_tn (n := sn) (by omega))) de_M_wants_32 ?_
      refine ab_if_ne (tgt := 41) de_M_wants_33 rfl (fun c_33_3 => ?_) (fun c_33_3 => ?_)
      · refine ab_iconst (v := 0) de_M_wants_41 rfl ?_
        exact ab_ret (v := some (.int (0 : Int32))) de_M_wants_42 ⟨_, rfl⟩ (by unfold fx_M_wants; try simp only [ab_tn (show sn < 2 ^ 31 by omega)]; rw [if_neg c_5_1, if_neg c_19_2, if_neg c_33_3])
      · refine ab_bipush (v := -3) de_M_wants_36 rfl ?_
        refine ab_goto (tgt := 42) de_M_wants_38 rfl ?_
        exact ab_ret (v := some (.int (-3 : Int32))) de_M_wants_42 ⟨_, rfl⟩ (by unfold fx_M_wants; try simp only [ab_tn (show sn < 2 ^ 31 by omega)]; rw [if_neg c_5_1, if_neg c_19_2, if_pos c_33_3])
    · refine ab_bipush (v := -2) de_M_wants_22 rfl ?_
      refine ab_goto (tgt := 42) de_M_wants_24 rfl ?_
      exact ab_ret (v := some (.int (-2 : Int32))) de_M_wants_42 ⟨_, rfl⟩ (by unfold fx_M_wants; try simp only [ab_tn (show sn < 2 ^ 31 by omega)]; rw [if_neg c_5_1, if_pos c_19_2])
  · refine ab_iconst (v := -1) de_M_wants_8 rfl ?_
    refine ab_goto (tgt := 42) de_M_wants_9 rfl ?_
    exact ab_ret (v := some (.int (-1 : Int32))) de_M_wants_42 ⟨_, rfl⟩ (by unfold fx_M_wants; rw [if_pos c_5_1])
def fx_M_show (nr : Nat) (h : Nat → Nat → Int32) (g : Nat → Nat → Int64) (rr : Nat → Option Nat)  (n_ : Nat) (s x : Int32) : Option Value × ab_Me :=
  if (ab_bz (sp_sh s)) = 0 then
    (some (.int (-1 : Int32)), (ab_S nr (ab_u2 h 31 1 (h 31 1 + 1)) g rr))
  else
    if x = (-1 : Int32) then
      if x = (-1 : Int32) then
        if x = (-1 : Int32) then
          (some (.int (0 : Int32)), (ab_S nr (ab_u2 (ab_u2 h 38 s.toNatClampNeg (0 : Int32)) 41 s.toNatClampNeg x) g rr))
        else
          (some (.int (1 : Int32)), (ab_S nr (ab_u2 (ab_u2 h 38 s.toNatClampNeg (0 : Int32)) 41 s.toNatClampNeg x) g rr))
      else
        if x = (-1 : Int32) then
          (some (.int (0 : Int32)), (ab_S nr (ab_u2 (ab_u2 h 38 s.toNatClampNeg (2 : Int32)) 41 s.toNatClampNeg x) g rr))
        else
          (some (.int (1 : Int32)), (ab_S nr (ab_u2 (ab_u2 h 38 s.toNatClampNeg (2 : Int32)) 41 s.toNatClampNeg x) g rr))
    else
      if (ab_bz (decide (0 ≤ x ∧ x < nI n_))) = 0 then
        (some (.int (-1 : Int32)), (ab_S nr (ab_u2 h 31 1 (h 31 1 + 1)) g rr))
      else
        if (nI (x.toNatClampNeg)) = (-1 : Int32) then
          if (nI (x.toNatClampNeg)) = (-1 : Int32) then
            (some (.int (0 : Int32)), (ab_S nr (ab_u2 (ab_u2 h 38 s.toNatClampNeg (0 : Int32)) 41 s.toNatClampNeg (nI (x.toNatClampNeg))) g rr))
          else
            (some (.int (1 : Int32)), (ab_S nr (ab_u2 (ab_u2 h 38 s.toNatClampNeg (0 : Int32)) 41 s.toNatClampNeg (nI (x.toNatClampNeg))) g rr))
        else
          if (nI (x.toNatClampNeg)) = (-1 : Int32) then
            (some (.int (0 : Int32)), (ab_S nr (ab_u2 (ab_u2 h 38 s.toNatClampNeg (2 : Int32)) 41 s.toNatClampNeg (nI (x.toNatClampNeg))) g rr))
          else
            (some (.int (1 : Int32)), (ab_S nr (ab_u2 (ab_u2 h 38 s.toNatClampNeg (2 : Int32)) 41 s.toNatClampNeg (nI (x.toNatClampNeg))) g rr))
set_option maxHeartbeats 1000000 in
set_option maxRecDepth 10000 in
theorem ct_M_show (l : Launch) (d : Nat) (nr : Nat) (h : Nat → Nat → Int32) (g : Nat → Nat → Int64) (rr : Nat → Option Nat)  {n_ : Nat} (hMR : h 30 0 = nI n_) (hn5 : n_ ≤ 8) (s x : Int32) : ab_C l am_M_show (d + 1) 0 0 [.ref 30, .int s, .int x] (ab_S nr h g rr) (fun r_ M' => (r_, M') = fx_M_show nr h g rr n_ s x) := by
  refine ab_C_of (by decide +kernel) rfl (Nat.le_of_ble_eq_true rfl) ?_
  refine ab_aload_n de_M_show_0 0 rfl ?_
  refine ab_iload_n de_M_show_1 1 rfl ?_
  refine ab_cV (as := [.int s]) (st := []) (ct_M_isShelf l _ (ab_S nr h g rr) (s)) mo_M_isShelf mi_M_isShelf ml_M_90 rfl (by decide) rfl rfl rfl (Nat.le_of_ble_eq_true rfl) de_M_show_2 (fun v_ M_ hK_ hl_ hv_ => ?_)
  obtain ⟨rfl, hm_⟩ := hK_
  have hm_ := hm_.symm
  subst hm_
  change ab_G _ _ _ _ _ _ _ [(0, .ref 30), (1, .int s), (2, .int x)] [.int (ab_bz (sp_sh s))] (ab_S nr h g rr) _
  refine ab_if_eq (tgt := 21) de_M_show_5 rfl (fun c_5_1 => ?_) (fun c_5_1 => ?_)
  · refine ab_aload_n de_M_show_21 0 rfl ?_
    refine ab_iconst (v := -1) de_M_show_22 rfl ?_
    refine ab_cV (as := [.int (-1 : Int32)]) (st := []) (ct_M_no l _ nr h g rr (r := (-1 : Int32)) (k := 1) (by decide) (by decide)) mo_M_no mi_M_no ml_M_94 rfl (by decide) rfl rfl rfl (Nat.le_of_ble_eq_true rfl) de_M_show_23 (fun v_ M_ hK_ hl_ hv_ => ?_)
    obtain ⟨rfl, hm_⟩ := hK_
    have hm_ := hm_.symm
    subst hm_
    change ab_G _ _ _ _ _ _ _ [(0, .ref 30), (1, .int s), (2, .int x)] [.int (-1 : Int32)] (ab_S nr (ab_u2 h 31 1 (h 31 1 + 1)) g rr) _
    exact ab_ret (v := some (.int (-1 : Int32))) de_M_show_26 ⟨_, rfl⟩ (by unfold fx_M_show; rw [if_pos c_5_1])
  · obtain ⟨sn, hsn, rfl⟩ := sp_sh_n c_5_1
    refine ab_iload_n de_M_show_8 2 rfl ?_
    refine ab_iconst (v := -1) de_M_show_9 rfl ?_
    refine ab_icmp_eq (tgt := 27) de_M_show_10 rfl (fun c_10_2 => ?_) (fun c_10_2 => ?_)
    · refine ab_aload_n de_M_show_27 0 rfl ?_
      refine ab_get (v := .ref 38) fl_M_35 rfl rfl de_M_show_28 ?_
      refine ab_iload_n de_M_show_31 1 rfl ?_
      refine ab_iload_n de_M_show_32 2 rfl ?_
      refine ab_iconst (v := -1) de_M_show_33 rfl ?_
      refine ab_icmp_ne (tgt := 41) de_M_show_34 rfl (fun c_34_3 => ?_) (fun c_34_3 => ?_)
      · refine ab_iconst (v := 2) de_M_show_41 rfl ?_
        refine ab_iast (x := 38) rfl (ab_in (by omega) (by decide)) de_M_show_42 ?_
        rw [(ab_tn (n := sn) (by omega))]
        change ab_G _ _ _ _ _ _ _ _ _ (ab_S nr (ab_u2 h 38 sn (2 : Int32)) g rr) _
        refine ab_aload_n de_M_show_43 0 rfl ?_
        refine ab_get (v := .ref 41) fl_M_44 rfl rfl de_M_show_44 ?_
        refine ab_iload_n de_M_show_47 1 rfl ?_
        refine ab_iload_n de_M_show_48 2 rfl ?_
        refine ab_iast (x := 41) rfl (ab_in (by omega) (by decide)) de_M_show_49 ?_
        rw [(ab_tn (n := sn) (by omega))]
        change ab_G _ _ _ _ _ _ _ _ _ (ab_S nr (ab_u2 (ab_u2 h 38 sn (2 : Int32)) 41 sn x) g rr) _
        refine ab_iload_n de_M_show_50 2 rfl ?_
        refine ab_iconst (v := -1) de_M_show_51 rfl ?_
        refine ab_icmp_ne (tgt := 59) de_M_show_52 rfl (fun c_52_4 => ?_) (fun c_52_4 => ?_)
        · refine ab_iconst (v := 1) de_M_show_59 rfl ?_
          exact ab_ret (v := some (.int (1 : Int32))) de_M_show_60 ⟨_, rfl⟩ (by unfold fx_M_show; try simp only [ab_tn (show sn < 2 ^ 31 by omega)]; rw [if_neg c_5_1, if_pos c_10_2, if_neg c_34_3, if_neg c_52_4])
        · refine ab_iconst (v := 0) de_M_show_55 rfl ?_
          refine ab_goto (tgt := 60) de_M_show_56 rfl ?_
          exact ab_ret (v := some (.int (0 : Int32))) de_M_show_60 ⟨_, rfl⟩ (by unfold fx_M_show; try simp only [ab_tn (show sn < 2 ^ 31 by omega)]; rw [if_neg c_5_1, if_pos c_10_2, if_neg c_34_3, if_pos c_52_4])
      · refine ab_iconst (v := 0) de_M_show_37 rfl ?_
        refine ab_goto (tgt := 42) de_M_show_38 rfl ?_
        refine ab_iast (x := 38) rfl (ab_in (by omega) (by decide)) de_M_show_42 ?_
        rw [(ab_tn (n := sn) (by omega))]
        change ab_G _ _ _ _ _ _ _ _ _ (ab_S nr (ab_u2 h 38 sn (0 : Int32)) g rr) _
        refine ab_aload_n de_M_show_43 0 rfl ?_
        refine ab_get (v := .ref 41) fl_M_44 rfl rfl de_M_show_44 ?_
        refine ab_iload_n de_M_show_47 1 rfl ?_
        refine ab_iload_n de_M_show_48 2 rfl ?_
        refine ab_iast (x := 41) rfl (ab_in (by omega) (by decide)) de_M_show_49 ?_
        rw [(ab_tn (n := sn) (by omega))]
        change ab_G _ _ _ _ _ _ _ _ _ (ab_S nr (ab_u2 (ab_u2 h 38 sn (0 : Int32)) 41 sn x) g rr) _
        refine ab_iload_n de_M_show_50 2 rfl ?_
        refine ab_iconst (v := -1) de_M_show_51 rfl ?_
        refine ab_icmp_ne (tgt := 59) de_M_show_52 rfl (fun c_52_5 => ?_) (fun c_52_5 => ?_)
        · refine ab_iconst (v := 1) de_M_show_59 rfl ?_
          exact ab_ret (v := some (.int (1 : Int32))) de_M_show_60 ⟨_, rfl⟩ (by unfold fx_M_show; try simp only [ab_tn (show sn < 2 ^ 31 by omega)]; rw [if_neg c_5_1, if_pos c_10_2, if_pos c_34_3, if_neg c_52_5])
        · refine ab_iconst (v := 0) de_M_show_55 rfl ?_
          refine ab_goto (tgt := 60) de_M_show_56 rfl ?_
          exact ab_ret (v := some (.int (0 : Int32))) de_M_show_60 ⟨_, rfl⟩ (by unfold fx_M_show; try simp only [ab_tn (show sn < 2 ^ 31 by omega)]; rw [if_neg c_5_1, if_pos c_10_2, if_pos c_34_3, if_pos c_52_5])
    · refine ab_aload_n de_M_show_13 0 rfl ?_
      refine ab_iload_n de_M_show_14 2 rfl ?_
      refine ab_cV (as := [.int x]) (st := []) (ct_M_isRule l _ nr h g rr hMR x) mo_M_isRule mi_M_isRule ml_M_98 rfl (by decide) rfl rfl rfl (Nat.le_of_ble_eq_true rfl) de_M_show_15 (fun v_ M_ hK_ hl_ hv_ => ?_)
      obtain ⟨rfl, hm_⟩ := hK_
      have hm_ := hm_.symm
      subst hm_
      change ab_G _ _ _ _ _ _ _ [(0, .ref 30), (1, .int (nI sn)), (2, .int x)] [.int (ab_bz (decide (0 ≤ x ∧ x < nI n_)))] (ab_S nr h g rr) _
      refine ab_if_ne (tgt := 27) de_M_show_18 rfl (fun c_18_6 => ?_) (fun c_18_6 => ?_)
      · obtain ⟨xn, hxn, rfl⟩ := sp_ra_n (by omega) c_18_6
        refine ab_aload_n de_M_show_27 0 rfl ?_
        refine ab_get (v := .ref 38) fl_M_35 rfl rfl de_M_show_28 ?_
        refine ab_iload_n de_M_show_31 1 rfl ?_
        refine ab_iload_n de_M_show_32 2 rfl ?_
        refine ab_iconst (v := -1) de_M_show_33 rfl ?_
        refine ab_icmp_ne (tgt := 41) de_M_show_34 rfl (fun c_34_7 => ?_) (fun c_34_7 => ?_)
        · refine ab_iconst (v := 2) de_M_show_41 rfl ?_
          refine ab_iast (x := 38) rfl (ab_in (by omega) (by decide)) de_M_show_42 ?_
          rw [(ab_tn (n := sn) (by omega))]
          change ab_G _ _ _ _ _ _ _ _ _ (ab_S nr (ab_u2 h 38 sn (2 : Int32)) g rr) _
          refine ab_aload_n de_M_show_43 0 rfl ?_
          refine ab_get (v := .ref 41) fl_M_44 rfl rfl de_M_show_44 ?_
          refine ab_iload_n de_M_show_47 1 rfl ?_
          refine ab_iload_n de_M_show_48 2 rfl ?_
          refine ab_iast (x := 41) rfl (ab_in (by omega) (by decide)) de_M_show_49 ?_
          rw [(ab_tn (n := sn) (by omega))]
          change ab_G _ _ _ _ _ _ _ _ _ (ab_S nr (ab_u2 (ab_u2 h 38 sn (2 : Int32)) 41 sn (nI xn)) g rr) _
          refine ab_iload_n de_M_show_50 2 rfl ?_
          refine ab_iconst (v := -1) de_M_show_51 rfl ?_
          refine ab_icmp_ne (tgt := 59) de_M_show_52 rfl (fun c_52_8 => ?_) (fun c_52_8 => ?_)
          · refine ab_iconst (v := 1) de_M_show_59 rfl ?_
            exact ab_ret (v := some (.int (1 : Int32))) de_M_show_60 ⟨_, rfl⟩ (by unfold fx_M_show; try simp only [ab_tn (show sn < 2 ^ 31 by omega), ab_tn (show xn < 2 ^ 31 by omega)]; rw [if_neg c_5_1, if_neg c_10_2, if_neg c_18_6, if_neg c_34_7, if_neg c_52_8])
          · refine ab_iconst (v := 0) de_M_show_55 rfl ?_
            refine ab_goto (tgt := 60) de_M_show_56 rfl ?_
            exact ab_ret (v := some (.int (0 : Int32))) de_M_show_60 ⟨_, rfl⟩ (by unfold fx_M_show; try simp only [ab_tn (show sn < 2 ^ 31 by omega), ab_tn (show xn < 2 ^ 31 by omega)]; rw [if_neg c_5_1, if_neg c_10_2, if_neg c_18_6, if_neg c_34_7, if_pos c_52_8])
        · refine ab_iconst (v := 0) de_M_show_37 rfl ?_
          refine ab_goto (tgt := 42) de_M_show_38 rfl ?_
          refine ab_iast (x := 38) rfl (ab_in (by omega) (by decide)) de_M_show_42 ?_
          rw [(ab_tn (n := sn) (by omega))]
          change ab_G _ _ _ _ _ _ _ _ _ (ab_S nr (ab_u2 h 38 sn (0 : Int32)) g rr) _
          refine ab_aload_n de_M_show_43 0 rfl ?_
          refine ab_get (v := .ref 41) fl_M_44 rfl rfl de_M_show_44 ?_
          refine ab_iload_n de_M_show_47 1 rfl ?_
          refine ab_iload_n de_M_show_48 2 rfl ?_
          refine ab_iast (x := 41) rfl (ab_in (by omega) (by decide)) de_M_show_49 ?_
          rw [(ab_tn (n := sn) (by omega))]
          change ab_G _ _ _ _ _ _ _ _ _ (ab_S nr (ab_u2 (ab_u2 h 38 sn (0 : Int32)) 41 sn (nI xn)) g rr) _
          refine ab_iload_n de_M_show_50 2 rfl ?_
          refine ab_iconst (v := -1) de_M_show_51 rfl ?_
          refine ab_icmp_ne (tgt := 59) de_M_show_52 rfl (fun c_52_9 => ?_) (fun c_52_9 => ?_)
          · refine ab_iconst (v := 1) de_M_show_59 rfl ?_
            exact ab_ret (v := some (.int (1 : Int32))) de_M_show_60 ⟨_, rfl⟩ (by unfold fx_M_show; try simp only [ab_tn (show sn < 2 ^ 31 by omega), ab_tn (show xn < 2 ^ 31 by omega)]; rw [if_neg c_5_1, if_neg c_10_2, if_neg c_18_6, if_pos c_34_7, if_neg c_52_9])
          · refine ab_iconst (v := 0) de_M_show_55 rfl ?_
            refine ab_goto (tgt := 60) de_M_show_56 rfl ?_
            exact ab_ret (v := some (.int (0 : Int32))) de_M_show_60 ⟨_, rfl⟩ (by unfold fx_M_show; try simp only [ab_tn (show sn < 2 ^ 31 by omega), ab_tn (show xn < 2 ^ 31 by omega)]; rw [if_neg c_5_1, if_neg c_10_2, if_neg c_18_6, if_pos c_34_7, if_pos c_52_9])
      · refine ab_aload_n de_M_show_21 0 rfl ?_
        refine ab_iconst (v := -1) de_M_show_22 rfl ?_
        refine ab_cV (as := [.int (-1 : Int32)]) (st := []) (ct_M_no l _ nr h g rr (r := (-1 : Int32)) (k := 1) (by decide) (by decide)) mo_M_no mi_M_no ml_M_94 rfl (by decide) rfl rfl rfl (Nat.le_of_ble_eq_true rfl) de_M_show_23 (fun v_ M_ hK_ hl_ hv_ => ?_)
        obtain ⟨rfl, hm_⟩ := hK_
        have hm_ := hm_.symm
        subst hm_
        change ab_G _ _ _ _ _ _ _ [(0, .ref 30), (1, .int (nI sn)), (2, .int x)] [.int (-1 : Int32)] (ab_S nr (ab_u2 h 31 1 (h 31 1 + 1)) g rr) _
        exact ab_ret (v := some (.int (-1 : Int32))) de_M_show_26 ⟨_, rfl⟩ (by unfold fx_M_show; try simp only [ab_tn (show sn < 2 ^ 31 by omega)]; rw [if_neg c_5_1, if_neg c_10_2, if_pos c_18_6])
def fx_M_element (nr : Nat) (h : Nat → Nat → Int32) (g : Nat → Nat → Int64) (rr : Nat → Option Nat)  (zs : Nat → Nat) (s x : Int32) : Option Value × ab_Me :=
  if (ab_bz (sp_sh s)) = 0 then
    (some (.long (0 : Int64)), (ab_S nr h g rr))
  else
    if (h 38 s.toNatClampNeg) = (1 : Int32) then
      if x < 0 then
        (some (.long (0 : Int64)), (ab_S nr h g rr))
      else
        if (nI (zs s.toNatClampNeg)) ≤ x then
          (some (.long (0 : Int64)), (ab_S nr h g rr))
        else
          (some (.long (g 42 ((60 * s.toNatClampNeg) + x.toNatClampNeg))), (ab_S nr h g rr))
    else
      (some (.long (0 : Int64)), (ab_S nr h g rr))
set_option maxHeartbeats 1000000 in
set_option maxRecDepth 10000 in
theorem ct_M_element (l : Launch) (d : Nat) (nr : Nat) (h : Nat → Nat → Int32) (g : Nat → Nat → Int64) (rr : Nat → Option Nat)  {zs : Nat → Nat} (hzs : ∀ s, s < 8 → zs s ≤ 60 ∧ h 40 s = nI (zs s)) (s x : Int32) : ab_C l am_M_element (d + 1) 0 0 [.ref 30, .int s, .int x] (ab_S nr h g rr) (fun r_ M' => (r_, M') = fx_M_element nr h g rr zs s x) := by
  refine ab_C_of (by decide +kernel) rfl (Nat.le_of_ble_eq_true rfl) ?_
  refine ab_aload_n de_M_element_0 0 rfl ?_
  refine ab_iload_n de_M_element_1 1 rfl ?_
  refine ab_cV (as := [.int s]) (st := []) (ct_M_isShelf l _ (ab_S nr h g rr) (s)) mo_M_isShelf mi_M_isShelf ml_M_90 rfl (by decide) rfl rfl rfl (Nat.le_of_ble_eq_true rfl) de_M_element_2 (fun v_ M_ hK_ hl_ hv_ => ?_)
  obtain ⟨rfl, hm_⟩ := hK_
  have hm_ := hm_.symm
  subst hm_
  change ab_G _ _ _ _ _ _ _ [(0, .ref 30), (1, .int s), (2, .int x)] [.int (ab_bz (sp_sh s))] (ab_S nr h g rr) _
  refine ab_if_eq (tgt := 46) de_M_element_5 rfl (fun c_5_1 => ?_) (fun c_5_1 => ?_)
  · refine ab_lconst (v := 0) de_M_element_46 rfl ?_
    exact ab_ret (v := some (.long (0 : Int64))) de_M_element_47 ⟨_, rfl⟩ (by unfold fx_M_element; rw [if_pos c_5_1])
  · obtain ⟨sn, hsn, rfl⟩ := sp_sh_n c_5_1
    refine ab_aload_n de_M_element_8 0 rfl ?_
    refine ab_get (v := .ref 38) fl_M_35 rfl rfl de_M_element_9 ?_
    refine ab_iload_n de_M_element_12 1 rfl ?_
    refine ab_iald (v := h 38 sn) rfl (ab_in (by omega) (by decide)) (ab_hv (ab_tn (n := sn) (by omega))) de_M_element_13 ?_
    refine ab_iconst (v := 1) de_M_element_14 rfl ?_
    refine ab_icmp_ne (tgt := 46) de_M_element_15 rfl (fun c_15_2 => ?_) (fun c_15_2 => ?_)
    · refine ab_lconst (v := 0) de_M_element_46 rfl ?_
      exact ab_ret (v := some (.long (0 : Int64))) de_M_element_47 ⟨_, rfl⟩ (by unfold fx_M_element; try simp only [ab_tn (show sn < 2 ^ 31 by omega)]; rw [if_neg c_5_1, if_neg c_15_2])
    · refine ab_iload_n de_M_element_18 2 rfl ?_
      refine ab_if_lt (tgt := 46) de_M_element_19 rfl (fun c_19_3 => ?_) (fun c_19_3 => ?_)
      · refine ab_lconst (v := 0) de_M_element_46 rfl ?_
        exact ab_ret (v := some (.long (0 : Int64))) de_M_element_47 ⟨_, rfl⟩ (by unfold fx_M_element; try simp only [ab_tn (show sn < 2 ^ 31 by omega)]; rw [if_neg c_5_1, if_pos c_15_2, if_pos c_19_3])
      · have c19_ := c_19_3
        refine ab_iload_n de_M_element_22 2 rfl ?_
        refine ab_aload_n de_M_element_23 0 rfl ?_
        refine ab_get (v := .ref 40) fl_M_41 rfl rfl de_M_element_24 ?_
        refine ab_iload_n de_M_element_27 1 rfl ?_
        refine ab_iald (v := h 40 sn) rfl (ab_in (by omega) (by decide)) (ab_hv (ab_tn (n := sn) (by omega))) de_M_element_28 ?_
        refine ab_top (v' := nI (zs sn)) ((hzs sn (by omega)).2) ?_
        refine ab_icmp_ge (tgt := 46) de_M_element_29 rfl (fun c_29_4 => ?_) (fun c_29_4 => ?_)
        · refine ab_lconst (v := 0) de_M_element_46 rfl ?_
          exact ab_ret (v := some (.long (0 : Int64))) de_M_element_47 ⟨_, rfl⟩ (by unfold fx_M_element; try simp only [ab_tn (show sn < 2 ^ 31 by omega)]; rw [if_neg c_5_1, if_pos c_15_2, if_neg c_19_3, if_pos c_29_4])
        · have hz60 := (hzs sn (by omega)).1
          obtain ⟨xn, hxn, rfl⟩ := sp_bt_n (by omega) c19_ (Int32.not_le.mp c_29_4)
          refine ab_aload_n de_M_element_32 0 rfl ?_
          refine ab_get (v := .ref 42) fl_M_47 rfl rfl de_M_element_33 ?_
          refine ab_bipush (v := 60) de_M_element_36 rfl ?_
          refine ab_iload_n de_M_element_38 1 rfl ?_
          refine ab_imul de_M_element_39 ?_
          refine ab_top (v' := nI (60 * sn)) (ab_mul _ _) ?_
          refine ab_iload_n de_M_element_40 2 rfl ?_
          refine ab_iadd de_M_element_41 ?_
          refine ab_top (v' := nI ((60 * sn) + xn)) (ab_add _ _) ?_
          refine ab_lald (v := g 42 ((60 * sn) + xn)) rfl (ab_in (by omega) (by decide)) (ab_gv (ab_tn (n := ((60 * sn) + xn)) (by omega))) de_M_element_42 ?_
          refine ab_goto (tgt := 47) de_M_element_43 rfl ?_
          exact ab_ret (v := some (.long (g 42 ((60 * sn) + xn)))) de_M_element_47 ⟨_, rfl⟩ (by unfold fx_M_element; try simp only [ab_tn (show sn < 2 ^ 31 by omega), ab_tn (show xn < 2 ^ 31 by omega)]; rw [if_neg c_5_1, if_pos c_15_2, if_neg c_19_3, if_neg c_29_4])
def fx_M_set (nr : Nat) (h : Nat → Nat → Int32) (g : Nat → Nat → Int64) (rr : Nat → Option Nat)  (zs : Nat → Nat) (s x : Int32) (v : Int64) : Option Value × ab_Me :=
  if (ab_bz (sp_sh s)) = 0 then
    (some (.int (-1 : Int32)), (ab_S nr (ab_u2 h 31 1 (h 31 1 + 1)) g rr))
  else
    if (h 38 s.toNatClampNeg) = (2 : Int32) then
      (some (.int (-2 : Int32)), (ab_S nr (ab_u2 h 31 2 (h 31 2 + 1)) g rr))
    else
      if (h 38 s.toNatClampNeg) = 0 then
        (some (.int (-3 : Int32)), (ab_S nr (ab_u2 h 31 3 (h 31 3 + 1)) g rr))
      else
        if x < 0 then
          (some (.int (-5 : Int32)), (ab_S nr (ab_u2 h 31 5 (h 31 5 + 1)) g rr))
        else
          if x < (nI (zs s.toNatClampNeg)) then
            if (h 39 s.toNatClampNeg) = 0 then
              (some (.int (1 : Int32)), (ab_S nr h (ab_u2 g 42 ((60 * s.toNatClampNeg) + x.toNatClampNeg) v.toInt32.toInt8.toInt32.toInt64) rr))
            else
              if (h 39 s.toNatClampNeg) = (1 : Int32) then
                (some (.int (1 : Int32)), (ab_S nr h (ab_u2 g 42 ((60 * s.toNatClampNeg) + x.toNatClampNeg) v.toInt32.toInt16.toInt32.toInt64) rr))
              else
                if (h 39 s.toNatClampNeg) = (2 : Int32) then
                  (some (.int (1 : Int32)), (ab_S nr h (ab_u2 g 42 ((60 * s.toNatClampNeg) + x.toNatClampNeg) v.toInt32.toInt64) rr))
                else
                  (some (.int (1 : Int32)), (ab_S nr h (ab_u2 g 42 ((60 * s.toNatClampNeg) + x.toNatClampNeg) v) rr))
          else
            (some (.int (-5 : Int32)), (ab_S nr (ab_u2 h 31 5 (h 31 5 + 1)) g rr))
set_option maxHeartbeats 1000000 in
set_option maxRecDepth 10000 in
theorem ct_M_set (l : Launch) (d : Nat) (nr : Nat) (h : Nat → Nat → Int32) (g : Nat → Nat → Int64) (rr : Nat → Option Nat)  {zs : Nat → Nat} (hzs : ∀ s, s < 8 → zs s ≤ 60 ∧ h 40 s = nI (zs s)) (s x : Int32) (v : Int64) : ab_C l am_M_set (d + 1) 0 0 [.ref 30, .int s, .int x, .long v] (ab_S nr h g rr) (fun r_ M' => (r_, M') = fx_M_set nr h g rr zs s x v) := by
  refine ab_C_of (by decide +kernel) rfl (Nat.le_of_ble_eq_true rfl) ?_
  refine ab_aload_n de_M_set_0 0 rfl ?_
  refine ab_iload_n de_M_set_1 1 rfl ?_
  refine ab_cV (as := [.int s]) (st := []) (ct_M_isShelf l _ (ab_S nr h g rr) (s)) mo_M_isShelf mi_M_isShelf ml_M_90 rfl (by decide) rfl rfl rfl (Nat.le_of_ble_eq_true rfl) de_M_set_2 (fun v_ M_ hK_ hl_ hv_ => ?_)
  obtain ⟨rfl, hm_⟩ := hK_
  have hm_ := hm_.symm
  subst hm_
  change ab_G _ _ _ _ _ _ _ [(0, .ref 30), (1, .int s), (2, .int x), (3, .long v)] [.int (ab_bz (sp_sh s))] (ab_S nr h g rr) _
  refine ab_if_ne (tgt := 14) de_M_set_5 rfl (fun c_5_1 => ?_) (fun c_5_1 => ?_)
  · obtain ⟨sn, hsn, rfl⟩ := sp_sh_n c_5_1
    refine ab_aload_n de_M_set_14 0 rfl ?_
    refine ab_get (v := .ref 38) fl_M_35 rfl rfl de_M_set_15 ?_
    refine ab_iload_n de_M_set_18 1 rfl ?_
    refine ab_iald (v := h 38 sn) rfl (ab_in (by omega) (by decide)) (ab_hv (ab_tn (n := sn) (by omega))) de_M_set_19 ?_
    refine ab_iconst (v := 2) de_M_set_20 rfl ?_
    refine ab_icmp_ne (tgt := 31) de_M_set_21 rfl (fun c_21_2 => ?_) (fun c_21_2 => ?_)
    · refine ab_aload_n de_M_set_31 0 rfl ?_
      refine ab_get (v := .ref 38) fl_M_35 rfl rfl de_M_set_32 ?_
      refine ab_iload_n de_M_set_35 1 rfl ?_
      refine ab_iald (v := h 38 sn) rfl (ab_in (by omega) (by decide)) (ab_hv (ab_tn (n := sn) (by omega))) de_M_set_36 ?_
      refine ab_if_ne (tgt := 47) de_M_set_37 rfl (fun c_37_3 => ?_) (fun c_37_3 => ?_)
      · refine ab_iload_n de_M_set_47 2 rfl ?_
        refine ab_if_lt (tgt := 61) de_M_set_48 rfl (fun c_48_4 => ?_) (fun c_48_4 => ?_)
        · refine ab_aload_n de_M_set_61 0 rfl ?_
          refine ab_bipush (v := -5) de_M_set_62 rfl ?_
          refine ab_cV (as := [.int (-5 : Int32)]) (st := []) (ct_M_no l _ nr h g rr (r := (-5 : Int32)) (k := 5) (by decide) (by decide)) mo_M_no mi_M_no ml_M_94 rfl (by decide) rfl rfl rfl (Nat.le_of_ble_eq_true rfl) de_M_set_64 (fun v_ M_ hK_ hl_ hv_ => ?_)
          obtain ⟨rfl, hm_⟩ := hK_
          have hm_ := hm_.symm
          subst hm_
          change ab_G _ _ _ _ _ _ _ [(0, .ref 30), (1, .int (nI sn)), (2, .int x), (3, .long v)] [.int (-5 : Int32)] (ab_S nr (ab_u2 h 31 5 (h 31 5 + 1)) g rr) _
          exact ab_ret (v := some (.int (-5 : Int32))) de_M_set_67 ⟨_, rfl⟩ (by unfold fx_M_set; try simp only [ab_tn (show sn < 2 ^ 31 by omega)]; rw [if_neg c_5_1, if_neg c_21_2, if_neg c_37_3, if_pos c_48_4])
        · have c48_ := c_48_4
          refine ab_iload_n de_M_set_51 2 rfl ?_
          refine ab_aload_n de_M_set_52 0 rfl ?_
          refine ab_get (v := .ref 40) fl_M_41 rfl rfl de_M_set_53 ?_
          refine ab_iload_n de_M_set_56 1 rfl ?_
          refine ab_iald (v := h 40 sn) rfl (ab_in (by omega) (by decide)) (ab_hv (ab_tn (n := sn) (by omega))) de_M_set_57 ?_
          refine ab_top (v' := nI (zs sn)) ((hzs sn (by omega)).2) ?_
          refine ab_icmp_lt (tgt := 68) de_M_set_58 rfl (fun c_58_5 => ?_) (fun c_58_5 => ?_)
          · have hz60 := (hzs sn (by omega)).1
            obtain ⟨xn, hxn, rfl⟩ := sp_bt_n (by omega) c48_ c_58_5
            refine ab_aload_n de_M_set_68 0 rfl ?_
            refine ab_get (v := .ref 42) fl_M_47 rfl rfl de_M_set_69 ?_
            refine ab_bipush (v := 60) de_M_set_72 rfl ?_
            refine ab_iload_n de_M_set_74 1 rfl ?_
            refine ab_imul de_M_set_75 ?_
            refine ab_top (v' := nI (60 * sn)) (ab_mul _ _) ?_
            refine ab_iload_n de_M_set_76 2 rfl ?_
            refine ab_iadd de_M_set_77 ?_
            refine ab_top (v' := nI ((60 * sn) + xn)) (ab_add _ _) ?_
            refine ab_aload_n de_M_set_78 0 rfl ?_
            refine ab_get (v := .ref 39) fl_M_38 rfl rfl de_M_set_79 ?_
            refine ab_iload_n de_M_set_82 1 rfl ?_
            refine ab_iald (v := h 39 sn) rfl (ab_in (by omega) (by decide)) (ab_hv (ab_tn (n := sn) (by omega))) de_M_set_83 ?_
            refine ab_if_ne (tgt := 94) de_M_set_84 rfl (fun c_84_6 => ?_) (fun c_84_6 => ?_)
            · refine ab_aload_n de_M_set_94 0 rfl ?_
              refine ab_get (v := .ref 39) fl_M_38 rfl rfl de_M_set_95 ?_
              refine ab_iload_n de_M_set_98 1 rfl ?_
              refine ab_iald (v := h 39 sn) rfl (ab_in (by omega) (by decide)) (ab_hv (ab_tn (n := sn) (by omega))) de_M_set_99 ?_
              refine ab_iconst (v := 1) de_M_set_100 rfl ?_
              refine ab_icmp_ne (tgt := 111) de_M_set_101 rfl (fun c_101_7 => ?_) (fun c_101_7 => ?_)
              · refine ab_aload_n de_M_set_111 0 rfl ?_
                refine ab_get (v := .ref 39) fl_M_38 rfl rfl de_M_set_112 ?_
                refine ab_iload_n de_M_set_115 1 rfl ?_
                refine ab_iald (v := h 39 sn) rfl (ab_in (by omega) (by decide)) (ab_hv (ab_tn (n := sn) (by omega))) de_M_set_116 ?_
                refine ab_iconst (v := 2) de_M_set_117 rfl ?_
                refine ab_icmp_ne (tgt := 127) de_M_set_118 rfl (fun c_118_8 => ?_) (fun c_118_8 => ?_)
                · refine ab_lload_n de_M_set_127 3 rfl ?_
                  refine ab_last (x := 42) rfl (ab_in (by omega) (by decide)) de_M_set_128 ?_
                  rw [(ab_tn (n := ((60 * sn) + xn)) (by omega))]
                  change ab_G _ _ _ _ _ _ _ _ _ (ab_S nr h (ab_u2 g 42 ((60 * sn) + xn) v) rr) _
                  refine ab_iconst (v := 1) de_M_set_129 rfl ?_
                  exact ab_ret (v := some (.int (1 : Int32))) de_M_set_130 ⟨_, rfl⟩ (by unfold fx_M_set; try simp only [ab_tn (show sn < 2 ^ 31 by omega), ab_tn (show xn < 2 ^ 31 by omega)]; rw [if_neg c_5_1, if_neg c_21_2, if_neg c_37_3, if_neg c_48_4, if_pos c_58_5, if_neg c_84_6, if_neg c_101_7, if_neg c_118_8])
                · refine ab_lload_n de_M_set_121 3 rfl ?_
                  refine ab_l2i de_M_set_122 rfl ?_
                  refine ab_i2l de_M_set_123 rfl ?_
                  refine ab_goto (tgt := 128) de_M_set_124 rfl ?_
                  refine ab_last (x := 42) rfl (ab_in (by omega) (by decide)) de_M_set_128 ?_
                  rw [(ab_tn (n := ((60 * sn) + xn)) (by omega))]
                  change ab_G _ _ _ _ _ _ _ _ _ (ab_S nr h (ab_u2 g 42 ((60 * sn) + xn) v.toInt32.toInt64) rr) _
                  refine ab_iconst (v := 1) de_M_set_129 rfl ?_
                  exact ab_ret (v := some (.int (1 : Int32))) de_M_set_130 ⟨_, rfl⟩ (by unfold fx_M_set; try simp only [ab_tn (show sn < 2 ^ 31 by omega), ab_tn (show xn < 2 ^ 31 by omega)]; rw [if_neg c_5_1, if_neg c_21_2, if_neg c_37_3, if_neg c_48_4, if_pos c_58_5, if_neg c_84_6, if_neg c_101_7, if_pos c_118_8])
              · refine ab_lload_n de_M_set_104 3 rfl ?_
                refine ab_l2i de_M_set_105 rfl ?_
                refine ab_i2s de_M_set_106 rfl ?_
                refine ab_i2l de_M_set_107 rfl ?_
                refine ab_goto (tgt := 128) de_M_set_108 rfl ?_
                refine ab_last (x := 42) rfl (ab_in (by omega) (by decide)) de_M_set_128 ?_
                rw [(ab_tn (n := ((60 * sn) + xn)) (by omega))]
                change ab_G _ _ _ _ _ _ _ _ _ (ab_S nr h (ab_u2 g 42 ((60 * sn) + xn) v.toInt32.toInt16.toInt32.toInt64) rr) _
                refine ab_iconst (v := 1) de_M_set_129 rfl ?_
                exact ab_ret (v := some (.int (1 : Int32))) de_M_set_130 ⟨_, rfl⟩ (by unfold fx_M_set; try simp only [ab_tn (show sn < 2 ^ 31 by omega), ab_tn (show xn < 2 ^ 31 by omega)]; rw [if_neg c_5_1, if_neg c_21_2, if_neg c_37_3, if_neg c_48_4, if_pos c_58_5, if_neg c_84_6, if_pos c_101_7])
            · refine ab_lload_n de_M_set_87 3 rfl ?_
              refine ab_l2i de_M_set_88 rfl ?_
              refine ab_i2b de_M_set_89 rfl ?_
              refine ab_i2l de_M_set_90 rfl ?_
              refine ab_goto (tgt := 128) de_M_set_91 rfl ?_
              refine ab_last (x := 42) rfl (ab_in (by omega) (by decide)) de_M_set_128 ?_
              rw [(ab_tn (n := ((60 * sn) + xn)) (by omega))]
              change ab_G _ _ _ _ _ _ _ _ _ (ab_S nr h (ab_u2 g 42 ((60 * sn) + xn) v.toInt32.toInt8.toInt32.toInt64) rr) _
              refine ab_iconst (v := 1) de_M_set_129 rfl ?_
              exact ab_ret (v := some (.int (1 : Int32))) de_M_set_130 ⟨_, rfl⟩ (by unfold fx_M_set; try simp only [ab_tn (show sn < 2 ^ 31 by omega), ab_tn (show xn < 2 ^ 31 by omega)]; rw [if_neg c_5_1, if_neg c_21_2, if_neg c_37_3, if_neg c_48_4, if_pos c_58_5, if_pos c_84_6])
          · refine ab_aload_n de_M_set_61 0 rfl ?_
            refine ab_bipush (v := -5) de_M_set_62 rfl ?_
            refine ab_cV (as := [.int (-5 : Int32)]) (st := []) (ct_M_no l _ nr h g rr (r := (-5 : Int32)) (k := 5) (by decide) (by decide)) mo_M_no mi_M_no ml_M_94 rfl (by decide) rfl rfl rfl (Nat.le_of_ble_eq_true rfl) de_M_set_64 (fun v_ M_ hK_ hl_ hv_ => ?_)
            obtain ⟨rfl, hm_⟩ := hK_
            have hm_ := hm_.symm
            subst hm_
            change ab_G _ _ _ _ _ _ _ [(0, .ref 30), (1, .int (nI sn)), (2, .int x), (3, .long v)] [.int (-5 : Int32)] (ab_S nr (ab_u2 h 31 5 (h 31 5 + 1)) g rr) _
            exact ab_ret (v := some (.int (-5 : Int32))) de_M_set_67 ⟨_, rfl⟩ (by unfold fx_M_set; try simp only [ab_tn (show sn < 2 ^ 31 by omega)]; rw [if_neg c_5_1, if_neg c_21_2, if_neg c_37_3, if_neg c_48_4, if_neg c_58_5])
      · refine ab_aload_n de_M_set_40 0 rfl ?_
        refine ab_bipush (v := -3) de_M_set_41 rfl ?_
        refine ab_cV (as := [.int (-3 : Int32)]) (st := []) (ct_M_no l _ nr h g rr (r := (-3 : Int32)) (k := 3) (by decide) (by decide)) mo_M_no mi_M_no ml_M_94 rfl (by decide) rfl rfl rfl (Nat.le_of_ble_eq_true rfl) de_M_set_43 (fun v_ M_ hK_ hl_ hv_ => ?_)
        obtain ⟨rfl, hm_⟩ := hK_
        have hm_ := hm_.symm
        subst hm_
        change ab_G _ _ _ _ _ _ _ [(0, .ref 30), (1, .int (nI sn)), (2, .int x), (3, .long v)] [.int (-3 : Int32)] (ab_S nr (ab_u2 h 31 3 (h 31 3 + 1)) g rr) _
        exact ab_ret (v := some (.int (-3 : Int32))) de_M_set_46 ⟨_, rfl⟩ (by unfold fx_M_set; try simp only [ab_tn (show sn < 2 ^ 31 by omega)]; rw [if_neg c_5_1, if_neg c_21_2, if_pos c_37_3])
    · refine ab_aload_n de_M_set_24 0 rfl ?_
      refine ab_bipush (v := -2) de_M_set_25 rfl ?_
      refine ab_cV (as := [.int (-2 : Int32)]) (st := []) (ct_M_no l _ nr h g rr (r := (-2 : Int32)) (k := 2) (by decide) (by decide)) mo_M_no mi_M_no ml_M_94 rfl (by decide) rfl rfl rfl (Nat.le_of_ble_eq_true rfl) de_M_set_27 (fun v_ M_ hK_ hl_ hv_ => ?_)
      obtain ⟨rfl, hm_⟩ := hK_
      have hm_ := hm_.symm
      subst hm_
      change ab_G _ _ _ _ _ _ _ [(0, .ref 30), (1, .int (nI sn)), (2, .int x), (3, .long v)] [.int (-2 : Int32)] (ab_S nr (ab_u2 h 31 2 (h 31 2 + 1)) g rr) _
      exact ab_ret (v := some (.int (-2 : Int32))) de_M_set_30 ⟨_, rfl⟩ (by unfold fx_M_set; try simp only [ab_tn (show sn < 2 ^ 31 by omega)]; rw [if_neg c_5_1, if_pos c_21_2])
  · refine ab_aload_n de_M_set_8 0 rfl ?_
    refine ab_iconst (v := -1) de_M_set_9 rfl ?_
    refine ab_cV (as := [.int (-1 : Int32)]) (st := []) (ct_M_no l _ nr h g rr (r := (-1 : Int32)) (k := 1) (by decide) (by decide)) mo_M_no mi_M_no ml_M_94 rfl (by decide) rfl rfl rfl (Nat.le_of_ble_eq_true rfl) de_M_set_10 (fun v_ M_ hK_ hl_ hv_ => ?_)
    obtain ⟨rfl, hm_⟩ := hK_
    have hm_ := hm_.symm
    subst hm_
    change ab_G _ _ _ _ _ _ _ [(0, .ref 30), (1, .int s), (2, .int x), (3, .long v)] [.int (-1 : Int32)] (ab_S nr (ab_u2 h 31 1 (h 31 1 + 1)) g rr) _
    exact ab_ret (v := some (.int (-1 : Int32))) de_M_set_13 ⟨_, rfl⟩ (by unfold fx_M_set; rw [if_pos c_5_1])
def md_cl (g : Nat → Nat → Int64) (s k : Nat) : Nat → Nat → Int64 := fun a b => if a = 42 ∧ 60 * s ≤ b ∧ b < 60 * s + k then 0 else g a b
theorem md_cl_0 (g : Nat → Nat → Int64) (s : Nat) : md_cl g s 0 = g := by
  funext a b
  exact if_neg (fun z => by omega)
theorem md_cl_s (g : Nat → Nat → Int64) (s k : Nat) : ab_u2 (md_cl g s k) 42 (60 * s + k) 0 = md_cl g s (k + 1) := by
  funext a b
  unfold ab_u2 md_cl
  by_cases e : a = 42 ∧ b = 60 * s + k
  · rw [if_pos e, if_pos ⟨e.1, by omega, by omega⟩]
  · rw [if_neg e]
    by_cases c : a = 42 ∧ 60 * s ≤ b ∧ b < 60 * s + k
    · rw [if_pos c, if_pos ⟨c.1, by omega, by omega⟩]
    · rw [if_neg c, if_neg (fun z => by
        rcases Nat.lt_or_ge b (60 * s + k) with w | w
        · exact c ⟨z.1, z.2.1, w⟩
        · exact e ⟨z.1, by omega⟩)]
set_option maxHeartbeats 1000000 in
set_option maxRecDepth 10000 in
theorem lp_M_row (l : Launch) (d : Nat) (nr : Nat) (h : Nat → Nat → Int32) (g : Nat → Nat → Int64) (rr : Nat → Option Nat) {s : Nat} (hs : s < 8) : ∀ (fu_ k : Nat), k ≤ 60 → 60 < k + fu_ → ab_G l none am_M_row (d) 0 0 78 [(0, .ref 30), (1, .int (nI s)), (4, .int (nI k))] [] (ab_S nr h (md_cl g s k) rr) (fun (r_ : Option Value) (M' : ab_Me) => r_ = some (.int (1 : Int32)) ∧ M' = (ab_S nr h (md_cl g s 60) rr)) := by
  intro fu_
  induction fu_ with
  | zero => intro k  h1 h2; omega
  | succ fu_ ih =>
    intro k  hN_ hn_ 
    refine ab_iload de_M_row_78 2 rfl ?_
    refine ab_bipush (v := 60) de_M_row_80 rfl ?_
    refine ab_icmp_ge (tgt := 104) de_M_row_82 rfl (fun c_82_1 => ?_) (fun c_82_1 => ?_)
    · have hk := ab_le_of (n := 60) (by decide) (by omega) rfl c_82_1
      refine ab_iconst (v := 1) de_M_row_104 rfl ?_
      exact ab_ret (v := some (.int (1 : Int32))) de_M_row_105 ⟨_, rfl⟩ ⟨rfl, by rw [show k = 60 by omega]⟩
    · have hk := ab_nle_of (n := 60) (by decide) (by omega) rfl c_82_1
      refine ab_aload_n de_M_row_85 0 rfl ?_
      refine ab_get (v := .ref 42) fl_M_47 rfl rfl de_M_row_86 ?_
      refine ab_bipush (v := 60) de_M_row_89 rfl ?_
      refine ab_iload_n de_M_row_91 1 rfl ?_
      refine ab_imul de_M_row_92 ?_
      refine ab_top (v' := nI (60 * s)) (ab_mul _ _) ?_
      refine ab_iload de_M_row_93 2 rfl ?_
      refine ab_iadd de_M_row_95 ?_
      refine ab_top (v' := nI ((60 * s) + k)) (ab_add _ _) ?_
      refine ab_lconst (v := 0) de_M_row_96 rfl ?_
      refine ab_last (x := 42) rfl (ab_in (by omega) (by decide)) de_M_row_97 ?_
      rw [(ab_tn (n := ((60 * s) + k)) (by omega))]
      change ab_G _ _ _ _ _ _ _ _ _ (ab_S nr h (ab_u2 (md_cl g s k) 42 ((60 * s) + k) (0 : Int64)) rr) _
      refine ab_gm (g' := md_cl g s (k + 1)) (md_cl_s g s k) ?_
      refine ab_iinc (v := nI (k + 1)) (L' := [(4, .int (nI (k + 1))), (0, .ref 30), (1, .int (nI s))]) de_M_row_98 2 rfl (by rw [show Int32.ofInt 1 = nI 1 from rfl, ab_add]) (by decide) rfl ?_
      refine ab_goto (tgt := 78) de_M_row_101 rfl ?_
      refine ab_sub (L' := [(0, .ref 30), (1, .int (nI s)), (4, .int (nI (k + 1)))]) [1, 2, 0] rfl ?_
      exact ih (k + 1)  (by omega) (by omega) 
def fx_M_row (nr : Nat) (h : Nat → Nat → Int32) (g : Nat → Nat → Int64) (rr : Nat → Option Nat) (s x y : Int32) : Option Value × ab_Me :=
  if ab_bz (sp_sh s) = 0 then (some (.int (-1 : Int32)), ab_S nr (ab_u2 h 31 1 (h 31 1 + 1)) g rr)
  else if 0 ≤ y then (if x < 0 then (some (.int (-6 : Int32)), ab_S nr (ab_u2 h 31 6 (h 31 6 + 1)) g rr) else if x ≤ 3 then (if y ≤ 60 then (some (.int (1 : Int32)), ab_S nr (ab_u2 (ab_u2 (ab_u2 h 38 s.toNatClampNeg 1) 39 s.toNatClampNeg x) 40 s.toNatClampNeg y) (md_cl g s.toNatClampNeg 60) rr) else (some (.int (-7 : Int32)), ab_S nr (ab_u2 h 31 7 (h 31 7 + 1)) g rr)) else (some (.int (-6 : Int32)), ab_S nr (ab_u2 h 31 6 (h 31 6 + 1)) g rr))
  else (some (.int (-4 : Int32)), ab_S nr (ab_u2 h 31 4 (h 31 4 + 1)) g rr)
set_option maxHeartbeats 1000000 in
set_option maxRecDepth 10000 in
theorem ct_M_row (l : Launch) (d : Nat) (nr : Nat) (h : Nat → Nat → Int32) (g : Nat → Nat → Int64) (rr : Nat → Option Nat) (s x y : Int32) : ab_C l am_M_row (d + 1) 0 0 [.ref 30, .int s, .int x, .int y] (ab_S nr h g rr) (fun r_ M_ => (r_, M_) = fx_M_row nr h g rr s x y) := by
  refine ab_C_of (by decide +kernel) rfl (Nat.le_of_ble_eq_true rfl) ?_
  refine ab_aload_n de_M_row_0 0 rfl ?_
  refine ab_iload_n de_M_row_1 1 rfl ?_
  refine ab_cV (as := [.int s]) (st := []) (ct_M_isShelf l _ (ab_S nr h g rr) (s)) mo_M_isShelf mi_M_isShelf ml_M_90 rfl (by decide) rfl rfl rfl (Nat.le_of_ble_eq_true rfl) de_M_row_2 (fun v_ M_ hK_ hl_ hv_ => ?_)
  obtain ⟨rfl, hm_⟩ := hK_
  have hm_ := hm_.symm
  subst hm_
  change ab_G _ _ _ _ _ _ _ [(0, .ref 30), (1, .int s), (2, .int x), (3, .int y)] [.int (ab_bz (sp_sh s))] (ab_S nr h g rr) _
  refine ab_if_ne (tgt := 14) de_M_row_5 rfl (fun c_5_1 => ?_) (fun c_5_1 => ?_)
  · obtain ⟨sn, hsn, rfl⟩ := sp_sh_n c_5_1
    refine ab_iload_n de_M_row_14 3 rfl ?_
    refine ab_if_ge (tgt := 25) de_M_row_15 rfl (fun c_15_2 => ?_) (fun c_15_2 => ?_)
    · refine ab_iload_n de_M_row_25 2 rfl ?_
      refine ab_if_lt (tgt := 34) de_M_row_26 rfl (fun c_26_3 => ?_) (fun c_26_3 => ?_)
      · refine ab_aload_n de_M_row_34 0 rfl ?_
        refine ab_bipush (v := -6) de_M_row_35 rfl ?_
        refine ab_cV (as := [.int (-6 : Int32)]) (st := []) (ct_M_no l _ nr h g rr (r := (-6 : Int32)) (k := 6) (by decide) (by decide)) mo_M_no mi_M_no ml_M_94 rfl (by decide) rfl rfl rfl (Nat.le_of_ble_eq_true rfl) de_M_row_37 (fun v_ M_ hK_ hl_ hv_ => ?_)
        obtain ⟨rfl, hm_⟩ := hK_
        have hm_ := hm_.symm
        subst hm_
        change ab_G _ _ _ _ _ _ _ [(0, .ref 30), (1, .int (nI sn)), (2, .int x), (3, .int y)] [.int (-6 : Int32)] (ab_S nr (ab_u2 h 31 6 (h 31 6 + 1)) g rr) _
        exact ab_ret (v := some (.int (-6 : Int32))) de_M_row_40 ⟨_, rfl⟩ (by unfold fx_M_row; rw [if_neg c_5_1, if_pos c_15_2, if_pos c_26_3])
      · refine ab_iload_n de_M_row_29 2 rfl ?_
        refine ab_iconst (v := 3) de_M_row_30 rfl ?_
        refine ab_icmp_le (tgt := 41) de_M_row_31 rfl (fun c_31_4 => ?_) (fun c_31_4 => ?_)
        · refine ab_iload_n de_M_row_41 3 rfl ?_
          refine ab_bipush (v := 60) de_M_row_42 rfl ?_
          refine ab_icmp_le (tgt := 54) de_M_row_44 rfl (fun c_44_5 => ?_) (fun c_44_5 => ?_)
          · refine ab_aload_n de_M_row_54 0 rfl ?_
            refine ab_get (v := .ref 38) fl_M_35 rfl rfl de_M_row_55 ?_
            refine ab_iload_n de_M_row_58 1 rfl ?_
            refine ab_iconst (v := 1) de_M_row_59 rfl ?_
            refine ab_iast (x := 38) rfl (ab_in (by omega) (by decide)) de_M_row_60 ?_
            rw [(ab_tn (n := sn) (by omega))]
            change ab_G _ _ _ _ _ _ _ _ _ (ab_S nr (ab_u2 h 38 sn (1 : Int32)) g rr) _
            refine ab_aload_n de_M_row_61 0 rfl ?_
            refine ab_get (v := .ref 39) fl_M_38 rfl rfl de_M_row_62 ?_
            refine ab_iload_n de_M_row_65 1 rfl ?_
            refine ab_iload_n de_M_row_66 2 rfl ?_
            refine ab_iast (x := 39) rfl (ab_in (by omega) (by decide)) de_M_row_67 ?_
            rw [(ab_tn (n := sn) (by omega))]
            change ab_G _ _ _ _ _ _ _ _ _ (ab_S nr (ab_u2 (ab_u2 h 38 sn (1 : Int32)) 39 sn x) g rr) _
            refine ab_aload_n de_M_row_68 0 rfl ?_
            refine ab_get (v := .ref 40) fl_M_41 rfl rfl de_M_row_69 ?_
            refine ab_iload_n de_M_row_72 1 rfl ?_
            refine ab_iload_n de_M_row_73 3 rfl ?_
            refine ab_iast (x := 40) rfl (ab_in (by omega) (by decide)) de_M_row_74 ?_
            rw [(ab_tn (n := sn) (by omega))]
            change ab_G _ _ _ _ _ _ _ _ _ (ab_S nr (ab_u2 (ab_u2 (ab_u2 h 38 sn (1 : Int32)) 39 sn x) 40 sn y) g rr) _
            refine ab_iconst (v := 0) de_M_row_75 rfl ?_
            refine ab_istore (L' := [(4, .int (0 : Int32)), (0, .ref 30), (1, .int (nI sn)), (2, .int x), (3, .int y)]) de_M_row_76 (by decide) rfl ?_
            refine ab_sub (L' := [(0, .ref 30), (1, .int (nI sn)), (4, .int (nI 0))]) [1, 2, 0] rfl ?_
            have z_ := lp_M_row l (d + 1) nr (ab_u2 (ab_u2 (ab_u2 h 38 sn (1 : Int32)) 39 sn x) 40 sn y) g rr (s := sn) (by omega) 61 0 (by omega) (by omega)
            rw [md_cl_0] at z_
            refine ab_wk (fun r_ M_ q => ?_) z_
            unfold fx_M_row
            rw [if_neg c_5_1, if_pos c_15_2, if_neg c_26_3, if_pos c_31_4, if_pos c_44_5, q.1, q.2]
            simp only [ab_tn (show sn < 2 ^ 31 by omega)]
          · refine ab_aload_n de_M_row_47 0 rfl ?_
            refine ab_bipush (v := -7) de_M_row_48 rfl ?_
            refine ab_cV (as := [.int (-7 : Int32)]) (st := []) (ct_M_no l _ nr h g rr (r := (-7 : Int32)) (k := 7) (by decide) (by decide)) mo_M_no mi_M_no ml_M_94 rfl (by decide) rfl rfl rfl (Nat.le_of_ble_eq_true rfl) de_M_row_50 (fun v_ M_ hK_ hl_ hv_ => ?_)
            obtain ⟨rfl, hm_⟩ := hK_
            have hm_ := hm_.symm
            subst hm_
            change ab_G _ _ _ _ _ _ _ [(0, .ref 30), (1, .int (nI sn)), (2, .int x), (3, .int y)] [.int (-7 : Int32)] (ab_S nr (ab_u2 h 31 7 (h 31 7 + 1)) g rr) _
            exact ab_ret (v := some (.int (-7 : Int32))) de_M_row_53 ⟨_, rfl⟩ (by unfold fx_M_row; rw [if_neg c_5_1, if_pos c_15_2, if_neg c_26_3, if_pos c_31_4, if_neg c_44_5])
        · refine ab_aload_n de_M_row_34 0 rfl ?_
          refine ab_bipush (v := -6) de_M_row_35 rfl ?_
          refine ab_cV (as := [.int (-6 : Int32)]) (st := []) (ct_M_no l _ nr h g rr (r := (-6 : Int32)) (k := 6) (by decide) (by decide)) mo_M_no mi_M_no ml_M_94 rfl (by decide) rfl rfl rfl (Nat.le_of_ble_eq_true rfl) de_M_row_37 (fun v_ M_ hK_ hl_ hv_ => ?_)
          obtain ⟨rfl, hm_⟩ := hK_
          have hm_ := hm_.symm
          subst hm_
          change ab_G _ _ _ _ _ _ _ [(0, .ref 30), (1, .int (nI sn)), (2, .int x), (3, .int y)] [.int (-6 : Int32)] (ab_S nr (ab_u2 h 31 6 (h 31 6 + 1)) g rr) _
          exact ab_ret (v := some (.int (-6 : Int32))) de_M_row_40 ⟨_, rfl⟩ (by unfold fx_M_row; rw [if_neg c_5_1, if_pos c_15_2, if_neg c_26_3, if_neg c_31_4])
    · refine ab_aload_n de_M_row_18 0 rfl ?_
      refine ab_bipush (v := -4) de_M_row_19 rfl ?_
      refine ab_cV (as := [.int (-4 : Int32)]) (st := []) (ct_M_no l _ nr h g rr (r := (-4 : Int32)) (k := 4) (by decide) (by decide)) mo_M_no mi_M_no ml_M_94 rfl (by decide) rfl rfl rfl (Nat.le_of_ble_eq_true rfl) de_M_row_21 (fun v_ M_ hK_ hl_ hv_ => ?_)
      obtain ⟨rfl, hm_⟩ := hK_
      have hm_ := hm_.symm
      subst hm_
      change ab_G _ _ _ _ _ _ _ [(0, .ref 30), (1, .int (nI sn)), (2, .int x), (3, .int y)] [.int (-4 : Int32)] (ab_S nr (ab_u2 h 31 4 (h 31 4 + 1)) g rr) _
      exact ab_ret (v := some (.int (-4 : Int32))) de_M_row_24 ⟨_, rfl⟩ (by unfold fx_M_row; rw [if_neg c_5_1, if_neg c_15_2])
  · refine ab_aload_n de_M_row_8 0 rfl ?_
    refine ab_iconst (v := -1) de_M_row_9 rfl ?_
    refine ab_cV (as := [.int (-1 : Int32)]) (st := []) (ct_M_no l _ nr h g rr (r := (-1 : Int32)) (k := 1) (by decide) (by decide)) mo_M_no mi_M_no ml_M_94 rfl (by decide) rfl rfl rfl (Nat.le_of_ble_eq_true rfl) de_M_row_10 (fun v_ M_ hK_ hl_ hv_ => ?_)
    obtain ⟨rfl, hm_⟩ := hK_
    have hm_ := hm_.symm
    subst hm_
    change ab_G _ _ _ _ _ _ _ [(0, .ref 30), (1, .int s), (2, .int x), (3, .int y)] [.int (-1 : Int32)] (ab_S nr (ab_u2 h 31 1 (h 31 1 + 1)) g rr) _
    exact ab_ret (v := some (.int (-1 : Int32))) de_M_row_13 ⟨_, rfl⟩ (by unfold fx_M_row; rw [if_pos c_5_1])
