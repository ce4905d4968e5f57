/-! the reference: answers out of what is kept -/
def fx_M_fits (h : Nat → Nat → Int32) (T : Nat → Nat → Nat) (Z : sp_G)  : Option Value × (Nat → Nat → Int32) :=
  (some (.int (nI (sp_to (sp_ok1 T Z)))), h)
set_option maxHeartbeats 1000000 in
set_option maxRecDepth 10000 in
theorem ct_M_fits (l : Launch) (d : Nat) (nr : Nat) (h : Nat → Nat → Int32) (g : Nat → Nat → Int64) (rr : Nat → Option Nat) {T : Nat → Nat → Nat} (hTM : bo_T T h 32) (hO : sp_ok T) {Z : sp_G} (hZ : gm_ok Z) (hG : md_G Z h) (hK : md_K T Z h)  : ab_C l am_M_fits (d + 8) 0 0 [.ref 30] (ab_S nr h g rr) (fun r_ M' => ∃ X h', (r_, X) = fx_M_fits h T Z ∧ M' = ab_S nr h' g rr ∧ md_K T Z h' ∧ md_kr X h') := by
  have ff_h := md_kr_rf h
  have kk_h := hK
  refine ab_C_of (by decide +kernel) rfl (Nat.le_of_ble_eq_true rfl) ?_
  refine ab_aload_n de_M_fits_0 0 rfl ?_
  refine ab_cV (as := []) (st := []) (ct_M_fitting l _ nr h g rr (md_T_kr (md_kr_rf h) hTM) hO hZ (md_G_kr (md_kr_rf h) hG) hK.1) mo_M_fitting mi_M_fitting ml_M_264 rfl (by decide) rfl rfl rfl (Nat.le_of_ble_eq_true rfl) de_M_fits_1 (fun v_ M_ hK_ hl_ hv_ => ?_)
  obtain ⟨rfl, h1_, rfl, k1_, k2_, k3_, k4_⟩ := hK_
  change ab_G _ _ _ _ _ _ _ [(0, .ref 30)] [.int (nI (sp_to (sp_ok1 T Z)))] (ab_S nr h1_ g rr) _
  have kk_h1_ : md_K T Z h1_ := md_K_fit hK k2_ k3_ k4_
  have ff_h1_ : md_kr h h1_ := md_kr_tr (md_kr_rf h) k1_
  have fo_h1_ := k2_.2
  exact ab_ret (v := some (.int (nI (sp_to (sp_ok1 T Z))))) de_M_fits_4 ⟨_, rfl⟩ ⟨_, _, (by unfold fx_M_fits; rfl), rfl, kk_h1_, ff_h1_⟩
def fx_M_find (h : Nat → Nat → Int32) (T : Nat → Nat → Nat) (Z : sp_G)  : Option Value × (Nat → Nat → Int32) :=
  if (nI (sp_to (sp_ok1 T Z))) = 0 then
    (some (.int (-5 : Int32)), (ab_u2 h 31 5 (h 31 5 + 1)))
  else
    (some (.int (nI (sp_fo (sp_ok1 T Z) 0))), h)
set_option maxHeartbeats 1000000 in
set_option maxRecDepth 10000 in
theorem ct_M_find (l : Launch) (d : Nat) (nr : Nat) (h : Nat → Nat → Int32) (g : Nat → Nat → Int64) (rr : Nat → Option Nat) {T : Nat → Nat → Nat} (hTM : bo_T T h 32) (hO : sp_ok T) {Z : sp_G} (hZ : gm_ok Z) (hG : md_G Z h) (hK : md_K T Z h)  : ab_C l am_M_find (d + 8) 0 0 [.ref 30] (ab_S nr h g rr) (fun r_ M' => ∃ X h', (r_, X) = fx_M_find h T Z ∧ M' = ab_S nr h' g rr ∧ md_K T Z h' ∧ md_kr X h') := by
  have ff_h := md_kr_rf h
  have kk_h := hK
  refine ab_C_of (by decide +kernel) rfl (Nat.le_of_ble_eq_true rfl) ?_
  refine ab_aload_n de_M_find_0 0 rfl ?_
  refine ab_cV (as := []) (st := []) (ct_M_fitting l _ nr h g rr (md_T_kr (md_kr_rf h) hTM) hO hZ (md_G_kr (md_kr_rf h) hG) hK.1) mo_M_fitting mi_M_fitting ml_M_264 rfl (by decide) rfl rfl rfl (Nat.le_of_ble_eq_true rfl) de_M_find_1 (fun v_ M_ hK_ hl_ hv_ => ?_)
  obtain ⟨rfl, h1_, rfl, k1_, k2_, k3_, k4_⟩ := hK_
  change ab_G _ _ _ _ _ _ _ [(0, .ref 30)] [.int (nI (sp_to (sp_ok1 T Z)))] (ab_S nr h1_ g rr) _
  have kk_h1_ : md_K T Z h1_ := md_K_fit hK k2_ k3_ k4_
  have ff_h1_ : md_kr h h1_ := md_kr_tr (md_kr_rf h) k1_
  have fo_h1_ := k2_.2
  refine ab_if_ne (tgt := 16) de_M_find_4 rfl (fun c_4_1 => ?_) (fun c_4_1 => ?_)
  · have n0_ : ¬ sp_to (sp_ok1 T Z) = 0 := fun z => c_4_1 (by rw [z]; rfl)
    refine ab_aload_n de_M_find_16 0 rfl ?_
    refine ab_get (v := .ref 45) fl_M_57 rfl rfl de_M_find_17 ?_
    refine ab_iconst (v := 0) de_M_find_20 rfl ?_
    refine ab_iald (v := h1_ 45 0) rfl (show vp_in (nI 0) _ from ab_in (by decide) (by decide)) (ab_hv (show (nI 0).toNatClampNeg = 0 from ab_tn (by decide))) de_M_find_21 ?_
    refine ab_top (v' := nI (sp_fo (sp_ok1 T Z) 0)) (fo_h1_ 0 (by omega)) ?_
    exact ab_ret (v := some (.int (nI (sp_fo (sp_ok1 T Z) 0)))) de_M_find_22 ⟨_, rfl⟩ ⟨_, _, (by unfold fx_M_find; rw [if_neg c_4_1]), rfl, kk_h1_, ff_h1_⟩
  · refine ab_aload_n de_M_find_7 0 rfl ?_
    refine ab_bipush (v := -5) de_M_find_8 rfl ?_
    refine ab_cV (as := [.int (-5 : Int32)]) (st := []) (ct_M_no l _ nr h1_ g rr (r := (-5 : Int32)) (k := 5) (by decide) (by decide)) mo_M_no mi_M_no ml_M_94 rfl (by decide) rfl rfl rfl (Nat.le_of_ble_eq_true rfl) de_M_find_10 (fun v_ M_ hK_ hl_ hv_ => ?_)
    obtain ⟨rfl, hm_⟩ := hK_
    have hm_ := hm_.symm
    subst hm_
    change ab_G _ _ _ _ _ _ _ [(0, .ref 30)] [.int (-5 : Int32)] (ab_S nr (ab_u2 h1_ 31 5 (h1_ 31 5 + 1)) g rr) _
    refine ab_goto (tgt := 22) de_M_find_13 rfl ?_
    exact ab_ret (v := some (.int (-5 : Int32))) de_M_find_22 ⟨_, rfl⟩ ⟨_, _, (by unfold fx_M_find; rw [if_pos c_4_1]), rfl, (md_K_31 kk_h1_ _ _), (md_kr_31 ff_h1_ _)⟩
def fx_M_rivals (h : Nat → Nat → Int32) (T : Nat → Nat → Nat) (Z : sp_G) (x : Int32) : Option Value × (Nat → Nat → Int32) :=
  if (ab_bz (sp_x9 x)) = 0 then
    (some (.int (-6 : Int32)), (ab_u2 h 31 6 (h 31 6 + 1)))
  else
    (some (.int (nI (sp_rv (sp_ok1 T Z) x.toNatClampNeg))), h)
set_option maxHeartbeats 1000000 in
set_option maxRecDepth 10000 in
theorem ct_M_rivals (l : Launch) (d : Nat) (nr : Nat) (h : Nat → Nat → Int32) (g : Nat → Nat → Int64) (rr : Nat → Option Nat) {T : Nat → Nat → Nat} (hTM : bo_T T h 32) (hO : sp_ok T) {Z : sp_G} (hZ : gm_ok Z) (hG : md_G Z h) (hK : md_K T Z h) (x : Int32) : ab_C l am_M_rivals (d + 9) 0 0 [.ref 30, .int x] (ab_S nr h g rr) (fun r_ M' => ∃ X h', (r_, X) = fx_M_rivals h T Z x ∧ M' = ab_S nr h' g rr ∧ md_K T Z h' ∧ md_kr X h') := by
  have ff_h := md_kr_rf h
  have kk_h := hK
  refine ab_C_of (by decide +kernel) rfl (Nat.le_of_ble_eq_true rfl) ?_
  refine ab_aload_n de_M_rivals_0 0 rfl ?_
  refine ab_iload_n de_M_rivals_1 1 rfl ?_
  refine ab_cV (as := [.int x]) (st := []) (ct_M_isX l _ (ab_S nr h g rr) (x)) mo_M_isX mi_M_isX ml_M_266 rfl (by decide) rfl rfl rfl (Nat.le_of_ble_eq_true rfl) de_M_rivals_2 (fun v_ M_ hK_ hl_ hv_ => ?_)
  obtain ⟨rfl, hm_⟩ := hK_
  have hm_ := hm_.symm
  subst hm_
  change ab_G _ _ _ _ _ _ _ [(0, .ref 30), (1, .int x)] [.int (ab_bz (sp_x9 x))] (ab_S nr h g rr) _
  refine ab_if_eq (tgt := 16) de_M_rivals_5 rfl (fun c_5_1 => ?_) (fun c_5_1 => ?_)
  · refine ab_aload_n de_M_rivals_16 0 rfl ?_
    refine ab_bipush (v := -6) de_M_rivals_17 rfl ?_
    refine ab_cV (as := [.int (-6 : Int32)]) (st := []) (ct_M_no l _ nr h g rr (r := (-6 : Int32)) (k := 6) (by decide) (by decide)) mo_M_no mi_M_no ml_M_94 rfl (by decide) rfl rfl rfl (Nat.le_of_ble_eq_true rfl) de_M_rivals_19 (fun v_ M_ hK_ hl_ hv_ => ?_)
    obtain ⟨rfl, hm_⟩ := hK_
    have hm_ := hm_.symm
    subst hm_
    change ab_G _ _ _ _ _ _ _ [(0, .ref 30), (1, .int x)] [.int (-6 : Int32)] (ab_S nr (ab_u2 h 31 6 (h 31 6 + 1)) g rr) _
    exact ab_ret (v := some (.int (-6 : Int32))) de_M_rivals_22 ⟨_, rfl⟩ ⟨_, _, (by unfold fx_M_rivals; rw [if_pos c_5_1]), rfl, (md_K_31 kk_h _ _), (md_kr_31 ff_h _)⟩
  · obtain ⟨xn, hxn, rfl⟩ := sp_x9_n c_5_1
    refine ab_aload_n de_M_rivals_8 0 rfl ?_
    refine ab_iload_n de_M_rivals_9 1 rfl ?_
    refine ab_cV (as := [.int (nI xn)]) (st := []) (ct_M_rivalsBy l _ nr h g rr (md_T_kr (md_kr_rf h) hTM) hO hZ (md_G_kr (md_kr_rf h) hG) hK (x := xn) (by omega)) mo_M_rivalsBy mi_M_rivalsBy ml_M_269 rfl (by decide) rfl rfl rfl (Nat.le_of_ble_eq_true rfl) de_M_rivals_10 (fun v_ M_ hK_ hl_ hv_ => ?_)
    obtain ⟨rfl, h1_, rfl, k1_, kk_h1_, k2_⟩ := hK_
    change ab_G _ _ _ _ _ _ _ [(0, .ref 30), (1, .int (nI xn))] [.int (nI (sp_rv (sp_ok1 T Z) xn))] (ab_S nr h1_ g rr) _
    have ff_h1_ : md_kr h h1_ := md_kr_tr (md_kr_rf h) k1_
    have fo_h1_ := k2_.2
    refine ab_goto (tgt := 22) de_M_rivals_13 rfl ?_
    exact ab_ret (v := some (.int (nI (sp_rv (sp_ok1 T Z) xn)))) de_M_rivals_22 ⟨_, rfl⟩ ⟨_, _, (by unfold fx_M_rivals; try simp only [ab_tn (show xn < 2 ^ 31 by omega)]; rw [if_neg c_5_1]), rfl, kk_h1_, ff_h1_⟩
def fx_M_rival (h : Nat → Nat → Int32) (T : Nat → Nat → Nat) (Z : sp_G) (x y : Int32) : Option Value × (Nat → Nat → Int32) :=
  if (ab_bz (sp_x9 x)) = 0 then
    (some (.int (-5 : Int32)), (ab_u2 h 31 5 (h 31 5 + 1)))
  else
    if y < 0 then
      (some (.int (-5 : Int32)), (ab_u2 h 31 5 (h 31 5 + 1)))
    else
      if y < (nI (sp_rv (sp_ok1 T Z) x.toNatClampNeg)) then
        (some (.int (nI (sp_fo (sp_ok1 T Z) y.toNatClampNeg))), h)
      else
        (some (.int (-5 : Int32)), (ab_u2 h 31 5 (h 31 5 + 1)))
set_option maxHeartbeats 1000000 in
set_option maxRecDepth 10000 in
theorem ct_M_rival (l : Launch) (d : Nat) (nr : Nat) (h : Nat → Nat → Int32) (g : Nat → Nat → Int64) (rr : Nat → Option Nat) {T : Nat → Nat → Nat} (hTM : bo_T T h 32) (hO : sp_ok T) {Z : sp_G} (hZ : gm_ok Z) (hG : md_G Z h) (hK : md_K T Z h) (x y : Int32) : ab_C l am_M_rival (d + 9) 0 0 [.ref 30, .int x, .int y] (ab_S nr h g rr) (fun r_ M' => ∃ X h', (r_, X) = fx_M_rival h T Z x y ∧ M' = ab_S nr h' g rr ∧ md_K T Z h' ∧ md_kr X h') := by
  have ff_h := md_kr_rf h
  have kk_h := hK
  refine ab_C_of (by decide +kernel) rfl (Nat.le_of_ble_eq_true rfl) ?_
  refine ab_aload_n de_M_rival_0 0 rfl ?_
  refine ab_iload_n de_M_rival_1 1 rfl ?_
  refine ab_cV (as := [.int x]) (st := []) (ct_M_isX l _ (ab_S nr h g rr) (x)) mo_M_isX mi_M_isX ml_M_266 rfl (by decide) rfl rfl rfl (Nat.le_of_ble_eq_true rfl) de_M_rival_2 (fun v_ M_ hK_ hl_ hv_ => ?_)
  obtain ⟨rfl, hm_⟩ := hK_
  have hm_ := hm_.symm
  subst hm_
  change ab_G _ _ _ _ _ _ _ [(0, .ref 30), (1, .int x), (2, .int y)] [.int (ab_bz (sp_x9 x))] (ab_S nr h g rr) _
  refine ab_if_eq (tgt := 21) de_M_rival_5 rfl (fun c_5_1 => ?_) (fun c_5_1 => ?_)
  · refine ab_aload_n de_M_rival_21 0 rfl ?_
    refine ab_bipush (v := -5) de_M_rival_22 rfl ?_
    refine ab_cV (as := [.int (-5 : Int32)]) (st := []) (ct_M_no l _ nr h g rr (r := (-5 : Int32)) (k := 5) (by decide) (by decide)) mo_M_no mi_M_no ml_M_94 rfl (by decide) rfl rfl rfl (Nat.le_of_ble_eq_true rfl) de_M_rival_24 (fun v_ M_ hK_ hl_ hv_ => ?_)
    obtain ⟨rfl, hm_⟩ := hK_
    have hm_ := hm_.symm
    subst hm_
    change ab_G _ _ _ _ _ _ _ [(0, .ref 30), (1, .int x), (2, .int y)] [.int (-5 : Int32)] (ab_S nr (ab_u2 h 31 5 (h 31 5 + 1)) g rr) _
    exact ab_ret (v := some (.int (-5 : Int32))) de_M_rival_27 ⟨_, rfl⟩ ⟨_, _, (by unfold fx_M_rival; rw [if_pos c_5_1]), rfl, (md_K_31 kk_h _ _), (md_kr_31 ff_h _)⟩
  · obtain ⟨xn, hxn, rfl⟩ := sp_x9_n c_5_1
    refine ab_iload_n de_M_rival_8 2 rfl ?_
    refine ab_if_lt (tgt := 21) de_M_rival_9 rfl (fun c_9_2 => ?_) (fun c_9_2 => ?_)
    · refine ab_aload_n de_M_rival_21 0 rfl ?_
      refine ab_bipush (v := -5) de_M_rival_22 rfl ?_
      refine ab_cV (as := [.int (-5 : Int32)]) (st := []) (ct_M_no l _ nr h g rr (r := (-5 : Int32)) (k := 5) (by decide) (by decide)) mo_M_no mi_M_no ml_M_94 rfl (by decide) rfl rfl rfl (Nat.le_of_ble_eq_true rfl) de_M_rival_24 (fun v_ M_ hK_ hl_ hv_ => ?_)
      obtain ⟨rfl, hm_⟩ := hK_
      have hm_ := hm_.symm
      subst hm_
      change ab_G _ _ _ _ _ _ _ [(0, .ref 30), (1, .int (nI xn)), (2, .int y)] [.int (-5 : Int32)] (ab_S nr (ab_u2 h 31 5 (h 31 5 + 1)) g rr) _
      exact ab_ret (v := some (.int (-5 : Int32))) de_M_rival_27 ⟨_, rfl⟩ ⟨_, _, (by unfold fx_M_rival; try simp only [ab_tn (show xn < 2 ^ 31 by omega)]; rw [if_neg c_5_1, if_pos c_9_2]), rfl, (md_K_31 kk_h _ _), (md_kr_31 ff_h _)⟩
    · have c9_ := c_9_2
      refine ab_iload_n de_M_rival_12 2 rfl ?_
      refine ab_aload_n de_M_rival_13 0 rfl ?_
      refine ab_iload_n de_M_rival_14 1 rfl ?_
      refine ab_cV (as := [.int (nI xn)]) (st := [.int y]) (ct_M_rivalsBy l _ nr h g rr (md_T_kr (md_kr_rf h) hTM) hO hZ (md_G_kr (md_kr_rf h) hG) hK (x := xn) (by omega)) mo_M_rivalsBy mi_M_rivalsBy ml_M_269 rfl (by decide) rfl rfl rfl (Nat.le_of_ble_eq_true rfl) de_M_rival_15 (fun v_ M_ hK_ hl_ hv_ => ?_)
      obtain ⟨rfl, h1_, rfl, k1_, kk_h1_, k2_⟩ := hK_
      change ab_G _ _ _ _ _ _ _ [(0, .ref 30), (1, .int (nI xn)), (2, .int y)] [.int (nI (sp_rv (sp_ok1 T Z) xn)), .int y] (ab_S nr h1_ g rr) _
      have ff_h1_ : md_kr h h1_ := md_kr_tr (md_kr_rf h) k1_
      have fo_h1_ := k2_.2
      refine ab_icmp_lt (tgt := 28) de_M_rival_18 rfl (fun c_18_3 => ?_) (fun c_18_3 => ?_)
      · have rv_ := sp_rv_le (sp_ok1 T Z) xn
        have to_ := sp_to_lt (f := (sp_ok1 T Z))
        obtain ⟨yn, hyn, rfl⟩ := sp_bt_n (by omega) c9_ c_18_3
        refine ab_aload_n de_M_rival_28 0 rfl ?_
        refine ab_get (v := .ref 45) fl_M_57 rfl rfl de_M_rival_29 ?_
        refine ab_iload_n de_M_rival_32 2 rfl ?_
        refine ab_iald (v := h1_ 45 yn) rfl (ab_in (by omega) (by decide)) (ab_hv (ab_tn (n := yn) (by omega))) de_M_rival_33 ?_
        refine ab_top (v' := nI (sp_fo (sp_ok1 T Z) yn)) (fo_h1_ yn (by omega)) ?_
        exact ab_ret (v := some (.int (nI (sp_fo (sp_ok1 T Z) yn)))) de_M_rival_34 ⟨_, rfl⟩ ⟨_, _, (by unfold fx_M_rival; try simp only [ab_tn (show xn < 2 ^ 31 by omega), ab_tn (show yn < 2 ^ 31 by omega)]; rw [if_neg c_5_1, if_neg c_9_2, if_pos c_18_3]), rfl, kk_h1_, ff_h1_⟩
      · refine ab_aload_n de_M_rival_21 0 rfl ?_
        refine ab_bipush (v := -5) de_M_rival_22 rfl ?_
        refine ab_cV (as := [.int (-5 : Int32)]) (st := []) (ct_M_no l _ nr h1_ g rr (r := (-5 : Int32)) (k := 5) (by decide) (by decide)) mo_M_no mi_M_no ml_M_94 rfl (by decide) rfl rfl rfl (Nat.le_of_ble_eq_true rfl) de_M_rival_24 (fun v_ M_ hK_ hl_ hv_ => ?_)
        obtain ⟨rfl, hm_⟩ := hK_
        have hm_ := hm_.symm
        subst hm_
        change ab_G _ _ _ _ _ _ _ [(0, .ref 30), (1, .int (nI xn)), (2, .int y)] [.int (-5 : Int32)] (ab_S nr (ab_u2 h1_ 31 5 (h1_ 31 5 + 1)) g rr) _
        exact ab_ret (v := some (.int (-5 : Int32))) de_M_rival_27 ⟨_, rfl⟩ ⟨_, _, (by unfold fx_M_rival; try simp only [ab_tn (show xn < 2 ^ 31 by omega)]; rw [if_neg c_5_1, if_neg c_9_2, if_neg c_18_3]), rfl, (md_K_31 kk_h1_ _ _), (md_kr_31 ff_h1_ _)⟩
def md_s3 (h h' : Nat → Nat → Int32) : Prop := ∀ a b, ¬ md_scr a b → ¬ (a = 30 ∧ b = 33) → h' a b = h a b
theorem md_s3_sc {h h1 h2 : Nat → Nat → Int32} (a : md_s3 h h1) (b : md_sc h1 h2) : md_s3 h h2 := fun x y z w => (b x y z).trans (a x y z w)
theorem md_s3_put {h h1 : Nat → Nat → Int32} (a : md_s3 h h1) (v : Int32) : md_s3 h (ab_u2 h1 30 33 v) := fun x y z w => by
  rw [ab_u2_ne w]
  exact a x y z w
theorem md_s3_kr {h h1 : Nat → Nat → Int32} (a : md_s3 h h1) : md_kr h h1 := fun x y n => a x y (fun z => n (by
  rcases z with z | z
  · exact Or.inl ⟨by omega, by omega⟩
  · exact Or.inr ⟨z.1, by omega⟩)) (fun z => n (Or.inr ⟨z.1, by omega⟩))
theorem md_s3_e {h h1 : Nat → Nat → Int32} (a : md_s3 h h1) {x y : Nat} (h2 : x ≠ 44) (h3 : ¬ (x = 30 ∧ (y = 24 ∨ y = 25 ∨ y = 27 ∨ y = 28 ∨ y = 33))) : h1 x y = h x y := a x y (fun z => by
  rcases z with z | z
  · exact h2 z
  · exact h3 ⟨z.1, by omega⟩) (fun z => h3 ⟨z.1, by omega⟩)
theorem md_s3_K {T : Nat → Nat → Nat} {Z : sp_G} {h h' : Nat → Nat → Int32} (a : md_s3 h h') (hn : ¬ sp_to (sp_ok1 T Z) = 0) (ht : h' 30 33 = nI (sp_ti T Z)) (hK : md_K T Z h) : md_K T Z h' := by
  have e1 := md_s3_e a (x := 30) (y := 31) (by decide) (by decide)
  have e2 := md_s3_e a (x := 30) (y := 32) (by decide) (by decide)
  have e4 : h' 45 = h 45 := funext fun b => md_s3_e a (by decide) (fun z => by cases z.1)
  have e5 : h' 46 = h 46 := funext fun b => md_s3_e a (by decide) (fun z => by cases z.1)
  refine ⟨?_, Or.inr ⟨hn, ht⟩, ?_⟩
  · unfold md_fk fo_in
    rw [e1, e4]
    exact hK.1
  · rw [e2, e5]
    exact hK.2.2
def md_tw (w : Nat → Nat) (j : Nat) : Nat := if j = 0 then 0 else w (sp_bi w j)
theorem md_tw_s (w : Nat → Nat) (j : Nat) : md_tw w (j + 1) = sp_lw w (j + 1) := by
  unfold md_tw sp_lw
  rw [if_neg (Nat.succ_ne_zero j), if_neg (Nat.succ_ne_zero j)]
theorem md_tw_e {w : Nat → Nat} {j : Nat} (h : ¬ j = 0) : md_tw w j = sp_lw w j := by
  unfold md_tw sp_lw
  rw [if_neg h, if_neg h]
set_option maxHeartbeats 1000000 in
set_option maxRecDepth 10000 in
theorem lp_M_tight (l : Launch) (d : Nat) (nr : Nat) (h : Nat → Nat → Int32) (g : Nat → Nat → Int64) (rr : Nat → Option Nat) {T : Nat → Nat → Nat} (hTM : bo_T T h 32) (hO : sp_ok T) {Z : sp_G} (hZ : gm_ok Z) (hG : md_G Z h) (hK : md_K T Z h) (hfk : md_fk (sp_ok1 T Z) h) (hr : ¬ (sp_rv (sp_ok1 T Z) 9) = 0) : ∀ (fu_ j : Nat) (hh : Nat → Nat → Int32), j ≤ (sp_rv (sp_ok1 T Z) 9) → (sp_rv (sp_ok1 T Z) 9) < j + fu_ → md_s3 h hh → hh 30 33 = sp_lk (sp_ok1 T Z) (sp_wf T Z) j → ab_G l none am_M_tight (d + 8) 0 0 30 [(0, .ref 30), (1, .int (nI (sp_rv (sp_ok1 T Z) 9))), (2, .int (nI (md_tw (sp_wf T Z) j))), (3, .int (nI j))] [] (ab_S nr hh g rr) (fun (r_ : Option Value) (M' : ab_Me) => r_ = some (.int (nI (sp_ti T Z))) ∧ ∃ h', M' = ab_S nr h' g rr ∧ md_kr h h' ∧ md_K T Z h') := by
  intro fu_
  induction fu_ with
  | zero => intro j hh h1 h2; omega
  | succ fu_ ih =>
    intro j hh hN_ hn_ hf0 hf1
    have r1_ := sp_rv_le (sp_ok1 T Z) 9
    have r2_ := sp_to_lt (f := (sp_ok1 T Z))
    refine ab_iload_n de_M_tight_30 3 rfl ?_
    refine ab_iload_n de_M_tight_31 1 rfl ?_
    refine ab_icmp_ge (tgt := 76) de_M_tight_32 rfl (fun c_32_1 => ?_) (fun c_32_1 => ?_)
    · have hj := (ab_le (by omega) (by omega)).mp c_32_1
      have ti_ : hh 30 33 = nI (sp_ti T Z) := by
        rw [hf1, show j = sp_rv (sp_ok1 T Z) 9 by omega]
        exact if_neg hr
      refine ab_aload_n de_M_tight_76 0 rfl ?_
      refine ab_get (v := .int (hh 30 33)) fl_M_66 rfl rfl de_M_tight_77 ?_
      refine ab_top (v' := nI (sp_ti T Z)) (ti_) ?_
      exact ab_ret (v := some (.int (nI (sp_ti T Z)))) de_M_tight_80 ⟨_, rfl⟩ ⟨rfl, hh, rfl, md_s3_kr hf0, md_s3_K hf0 (by omega) ti_ hK⟩
    · have hj := Nat.lt_of_not_le (fun z_ => c_32_1 ((ab_le (by omega) (by omega)).mpr z_))
      refine ab_aload_n de_M_tight_35 0 rfl ?_
      refine ab_aload_n de_M_tight_36 0 rfl ?_
      refine ab_get (v := .ref 45) fl_M_57 rfl rfl de_M_tight_37 ?_
      refine ab_iload_n de_M_tight_40 3 rfl ?_
      refine ab_iald (v := hh 45 j) rfl (ab_in (by omega) (by decide)) (ab_hv (ab_tn (n := j) (by omega))) de_M_tight_41 ?_
      refine ab_top (v' := nI (sp_fo (sp_ok1 T Z) j)) ((md_s3_e hf0 (by decide) (fun z => by cases z.1)).trans (hfk.2 j (by omega))) ?_
      refine ab_cV (as := [.int (nI (sp_fo (sp_ok1 T Z) j))]) (st := []) (ct_M_wideOf l _ nr hh g rr (md_T_kr (md_s3_kr hf0) hTM) hO (c := sp_fo (sp_ok1 T Z) j) (sp_fo_ok (f := (sp_ok1 T Z)) (by omega)).1 hZ (md_G_kr (md_s3_kr hf0) hG)) mo_M_wideOf mi_M_wideOf ml_M_272 rfl (by decide) rfl rfl rfl (Nat.le_of_ble_eq_true rfl) de_M_tight_42 (fun v_ M_ hK_ hl_ hv_ => ?_)
      obtain ⟨rfl, h1_, rfl, s1_⟩ := hK_
      change ab_G _ _ _ _ _ _ _ [(0, .ref 30), (1, .int (nI (sp_rv (sp_ok1 T Z) 9))), (2, .int (nI (md_tw (sp_wf T Z) j))), (3, .int (nI j))] [.int (nI (sp_wf T Z j))] (ab_S nr h1_ g rr) _
      have fo1_ : h1_ 45 j = nI (sp_fo (sp_ok1 T Z) j) := (congrFun (md_sc_row s1_ (by decide) (by decide)) j).trans ((md_s3_e hf0 (by decide) (fun z => by cases z.1)).trans (hfk.2 j (by omega)))
      have w1_ : sp_wf T Z j ≤ 23040 := sp_wd_le hZ
      have lw_ := sp_lw_lt (T := T) hZ j
      have h33_ : h1_ 30 33 = sp_lk (sp_ok1 T Z) (sp_wf T Z) j := (md_sc_30 s1_ (by decide) (by decide) (by decide) (by decide)).trans hf1
      refine ab_istore (L' := [(4, .int (nI (sp_wf T Z j))), (0, .ref 30), (1, .int (nI (sp_rv (sp_ok1 T Z) 9))), (2, .int (nI (md_tw (sp_wf T Z) j))), (3, .int (nI j))]) de_M_tight_45 (by decide) rfl ?_
      refine ab_iload_n de_M_tight_47 4 rfl ?_
      refine ab_if_eq (tgt := 57) de_M_tight_48 rfl (fun c_48_2 => ?_) (fun c_48_2 => ?_)
      · refine ab_iload de_M_tight_57 0 rfl ?_
        refine ab_istore_n (L' := [(2, .int (nI (sp_wf T Z j))), (4, .int (nI (sp_wf T Z j))), (0, .ref 30), (1, .int (nI (sp_rv (sp_ok1 T Z) 9))), (3, .int (nI j))]) de_M_tight_59 (by decide) rfl ?_
        refine ab_aload_n de_M_tight_60 2 rfl ?_
        refine ab_aload_n de_M_tight_61 2 rfl ?_
        refine ab_get (v := .ref 45) fl_M_57 rfl rfl de_M_tight_62 ?_
        refine ab_iload_n de_M_tight_65 4 rfl ?_
        refine ab_iald (v := h1_ 45 j) rfl (ab_in (by omega) (by decide)) (ab_hv (ab_tn (n := j) (by omega))) de_M_tight_66 ?_
        refine ab_top (v' := nI (sp_fo (sp_ok1 T Z) j)) (fo1_) ?_
        refine ab_putI (x := 30) (j := 33) fl_M_66 rfl (Or.inl rfl) rfl rfl rfl de_M_tight_67 ?_
        change ab_G _ _ _ _ _ _ _ _ _ (ab_S nr (ab_u2 h1_ 30 33 (nI (sp_fo (sp_ok1 T Z) j))) g rr) _
        refine ab_iinc (v := nI (j + 1)) (L' := [(3, .int (nI (j + 1))), (2, .int (nI (sp_wf T Z j))), (4, .int (nI (sp_wf T Z j))), (0, .ref 30), (1, .int (nI (sp_rv (sp_ok1 T Z) 9)))]) de_M_tight_70 4 rfl (by rw [show Int32.ofInt 1 = nI 1 from rfl, ab_add]) (by decide) rfl ?_
        refine ab_goto (tgt := 30) de_M_tight_73 rfl ?_
        refine ab_sub (L' := [(0, .ref 30), (1, .int (nI (sp_rv (sp_ok1 T Z) 9))), (2, .int (nI (sp_wf T Z j))), (3, .int (nI (j + 1)))]) [3, 4, 1, 0] rfl ?_
        have j0_ : j = 0 := (ab_inj (b := 0) (by omega) (by decide)).mp c_48_2
        have y_ : (sp_wf T Z) j < sp_lw (sp_wf T Z) j := by
          unfold sp_lw
          rw [if_pos j0_]
          omega
        have e_ : md_tw (sp_wf T Z) (j + 1) = (sp_wf T Z) j := by rw [md_tw_s, sp_lw_a y_]
        have z_ := ih (j + 1) (ab_u2 h1_ 30 33 (nI (sp_fo (sp_ok1 T Z) j))) (by omega) (by omega) (md_s3_put (md_s3_sc hf0 s1_) _) (by rw [ab_u2_at, sp_lk_a y_])
        rw [e_] at z_
        exact z_
      · refine ab_iload de_M_tight_51 0 rfl ?_
        refine ab_iload_n de_M_tight_53 3 rfl ?_
        refine ab_icmp_ge (tgt := 70) de_M_tight_54 rfl (fun c_54_3 => ?_) (fun c_54_3 => ?_)
        · refine ab_iinc (v := nI (j + 1)) (L' := [(3, .int (nI (j + 1))), (4, .int (nI (sp_wf T Z j))), (0, .ref 30), (1, .int (nI (sp_rv (sp_ok1 T Z) 9))), (2, .int (nI (md_tw (sp_wf T Z) j)))]) de_M_tight_70 4 rfl (by rw [show Int32.ofInt 1 = nI 1 from rfl, ab_add]) (by decide) rfl ?_
          refine ab_goto (tgt := 30) de_M_tight_73 rfl ?_
          refine ab_sub (L' := [(0, .ref 30), (1, .int (nI (sp_rv (sp_ok1 T Z) 9))), (2, .int (nI (md_tw (sp_wf T Z) j))), (3, .int (nI (j + 1)))]) [2, 3, 4, 0] rfl ?_
          have j0_ : ¬ j = 0 := fun z => c_48_2 (by rw [z]; rfl)
          have l_ := md_tw_e (w := (sp_wf T Z)) j0_
          have y_ : ¬ (sp_wf T Z) j < sp_lw (sp_wf T Z) j := by
            rw [← l_]
            exact Nat.not_lt.mpr ((ab_le (by omega) (by omega)).mp c_54_3)
          have e_ : md_tw (sp_wf T Z) (j + 1) = md_tw (sp_wf T Z) j := by rw [md_tw_s, sp_lw_b (by omega) y_, l_]
          have z_ := ih (j + 1) h1_ (by omega) (by omega) (md_s3_sc hf0 s1_) (by rw [sp_lk_b (by omega) y_]; exact h33_)
          rw [e_] at z_
          exact z_
        · refine ab_iload de_M_tight_57 0 rfl ?_
          refine ab_istore_n (L' := [(2, .int (nI (sp_wf T Z j))), (4, .int (nI (sp_wf T Z j))), (0, .ref 30), (1, .int (nI (sp_rv (sp_ok1 T Z) 9))), (3, .int (nI j))]) de_M_tight_59 (by decide) rfl ?_
          refine ab_aload_n de_M_tight_60 2 rfl ?_
          refine ab_aload_n de_M_tight_61 2 rfl ?_
          refine ab_get (v := .ref 45) fl_M_57 rfl rfl de_M_tight_62 ?_
          refine ab_iload_n de_M_tight_65 4 rfl ?_
          refine ab_iald (v := h1_ 45 j) rfl (ab_in (by omega) (by decide)) (ab_hv (ab_tn (n := j) (by omega))) de_M_tight_66 ?_
          refine ab_top (v' := nI (sp_fo (sp_ok1 T Z) j)) (fo1_) ?_
          refine ab_putI (x := 30) (j := 33) fl_M_66 rfl (Or.inl rfl) rfl rfl rfl de_M_tight_67 ?_
          change ab_G _ _ _ _ _ _ _ _ _ (ab_S nr (ab_u2 h1_ 30 33 (nI (sp_fo (sp_ok1 T Z) j))) g rr) _
          refine ab_iinc (v := nI (j + 1)) (L' := [(3, .int (nI (j + 1))), (2, .int (nI (sp_wf T Z j))), (4, .int (nI (sp_wf T Z j))), (0, .ref 30), (1, .int (nI (sp_rv (sp_ok1 T Z) 9)))]) de_M_tight_70 4 rfl (by rw [show Int32.ofInt 1 = nI 1 from rfl, ab_add]) (by decide) rfl ?_
          refine ab_goto (tgt := 30) de_M_tight_73 rfl ?_
          refine ab_sub (L' := [(0, .ref 30), (1, .int (nI (sp_rv (sp_ok1 T Z) 9))), (2, .int (nI (sp_wf T Z j))), (3, .int (nI (j + 1)))]) [3, 4, 1, 0] rfl ?_
          have j0_ : ¬ j = 0 := fun z => c_48_2 (by rw [z]; rfl)
          have l_ := md_tw_e (w := (sp_wf T Z)) j0_
          have y_ : (sp_wf T Z) j < sp_lw (sp_wf T Z) j := by
            rw [← l_]
            exact Nat.lt_of_not_le (fun z => c_54_3 ((ab_le (by omega) (by omega)).mpr z))
          have e_ : md_tw (sp_wf T Z) (j + 1) = (sp_wf T Z) j := by rw [md_tw_s, sp_lw_a y_]
          have z_ := ih (j + 1) (ab_u2 h1_ 30 33 (nI (sp_fo (sp_ok1 T Z) j))) (by omega) (by omega) (md_s3_put (md_s3_sc hf0 s1_) _) (by rw [ab_u2_at, sp_lk_a y_])
          rw [e_] at z_
          exact z_
def fx_M_tight (h : Nat → Nat → Int32) (T : Nat → Nat → Nat) (Z : sp_G) : Option Value × (Nat → Nat → Int32) := if nI (sp_rv (sp_ok1 T Z) 9) = 0 then (some (.int (-5 : Int32)), ab_u2 h 31 5 (h 31 5 + 1)) else (some (.int (nI (sp_ti T Z))), h)
set_option maxHeartbeats 1000000 in
set_option maxRecDepth 10000 in
theorem ct_M_tight (l : Launch) (d : Nat) (nr : Nat) (h : Nat → Nat → Int32) (g : Nat → Nat → Int64) (rr : Nat → Option Nat) {T : Nat → Nat → Nat} (hTM : bo_T T h 32) (hO : sp_ok T) {Z : sp_G} (hZ : gm_ok Z) (hG : md_G Z h) (hK : md_K T Z h) : ab_C l am_M_tight (d + 9) 0 0 [.ref 30] (ab_S nr h g rr) (fun r_ M' => ∃ X h', (r_, X) = fx_M_tight h T Z ∧ M' = ab_S nr h' g rr ∧ md_K T Z h' ∧ md_kr X h') := by
  refine ab_C_of (by decide +kernel) rfl (Nat.le_of_ble_eq_true rfl) ?_
  refine ab_aload_n de_M_tight_0 0 rfl ?_
  refine ab_bipush (v := 9) de_M_tight_1 rfl ?_
  refine ab_cV (as := [.int (9 : Int32)]) (st := []) (ct_M_rivalsBy l _ nr h g rr (md_T_kr (md_kr_rf h) hTM) hO hZ (md_G_kr (md_kr_rf h) hG) hK (x := 9) (by omega)) mo_M_rivalsBy mi_M_rivalsBy ml_M_269 rfl (by decide) rfl rfl rfl (Nat.le_of_ble_eq_true rfl) de_M_tight_3 (fun v_ M_ hK_ hl_ hv_ => ?_)
  obtain ⟨rfl, h1_, rfl, k1_, kk_h1_, k2_⟩ := hK_
  change ab_G _ _ _ _ _ _ _ [(0, .ref 30)] [.int (nI (sp_rv (sp_ok1 T Z) 9))] (ab_S nr h1_ g rr) _
  have ff_h1_ : md_kr h h1_ := md_kr_tr (md_kr_rf h) k1_
  have fo_h1_ := k2_.2
  refine ab_istore_n (L' := [(1, .int (nI (sp_rv (sp_ok1 T Z) 9))), (0, .ref 30)]) de_M_tight_6 (by decide) rfl ?_
  refine ab_iload_n de_M_tight_7 0 rfl ?_
  refine ab_if_ne (tgt := 18) de_M_tight_8 rfl (fun c_8_1 => ?_) (fun c_8_1 => ?_)
  · refine ab_aload_n de_M_tight_18 1 rfl ?_
    refine ab_get (v := .int (h1_ 30 33)) fl_M_66 rfl rfl de_M_tight_19 ?_
    refine ab_iconst (v := -1) de_M_tight_22 rfl ?_
    refine ab_icmp_ne (tgt := 76) de_M_tight_23 rfl (fun c_23_2 => ?_) (fun c_23_2 => ?_)
    · have c23_ := c_23_2
      refine ab_aload_n de_M_tight_76 1 rfl ?_
      refine ab_get (v := .int (h1_ 30 33)) fl_M_66 rfl rfl de_M_tight_77 ?_
      refine ab_top (v' := nI (sp_ti T Z)) ((kk_h1_.2.1.resolve_left c23_).2) ?_
      exact ab_ret (v := some (.int (nI (sp_ti T Z)))) de_M_tight_80 ⟨_, rfl⟩ ⟨_, _, (by unfold fx_M_tight; rw [if_neg c_8_1]), rfl, kk_h1_, ff_h1_⟩
    · refine ab_iconst (v := 0) de_M_tight_26 rfl ?_
      refine ab_istore_n (L' := [(2, .int (0 : Int32)), (1, .int (nI (sp_rv (sp_ok1 T Z) 9))), (0, .ref 30)]) de_M_tight_27 (by decide) rfl ?_
      refine ab_iconst (v := 0) de_M_tight_28 rfl ?_
      refine ab_istore_n (L' := [(3, .int (0 : Int32)), (2, .int (0 : Int32)), (1, .int (nI (sp_rv (sp_ok1 T Z) 9))), (0, .ref 30)]) de_M_tight_29 (by decide) rfl ?_
      refine ab_sub (L' := [(0, .ref 30), (1, .int (nI (sp_rv (sp_ok1 T Z) 9))), (2, .int (nI (md_tw (sp_wf T Z) 0))), (3, .int (nI 0))]) [3, 2, 1, 0] rfl ?_
      have r0_ : ¬ (sp_rv (sp_ok1 T Z) 9) = 0 := fun z => c_8_1 (by rw [z]; rfl)
      refine ab_wk (fun r_ M_ z => ?_) (lp_M_tight l (d + 1) nr h1_ g rr (md_T_kr k1_ hTM) hO hZ (md_G_kr k1_ hG) kk_h1_ k2_ r0_ ((sp_rv (sp_ok1 T Z) 9) + 1) 0 h1_ (by omega) (by omega) (fun _ _ _ _ => rfl) c_23_2)
      obtain ⟨z1, h3_, z2, z3, z4⟩ := z
      exact ⟨_, h3_, (by unfold fx_M_tight; rw [if_neg c_8_1, z1]), z2, z4, md_kr_tr k1_ z3⟩
  · refine ab_aload_n de_M_tight_11 1 rfl ?_
    refine ab_bipush (v := -5) de_M_tight_12 rfl ?_
    refine ab_cV (as := [.int (-5 : Int32)]) (st := []) (ct_M_no l _ nr h1_ g rr (r := (-5 : Int32)) (k := 5) (by decide) (by decide)) mo_M_no mi_M_no ml_M_94 rfl (by decide) rfl rfl rfl (Nat.le_of_ble_eq_true rfl) de_M_tight_14 (fun v_ M_ hK_ hl_ hv_ => ?_)
    obtain ⟨rfl, hm_⟩ := hK_
    have hm_ := hm_.symm
    subst hm_
    change ab_G _ _ _ _ _ _ _ [(1, .int (nI (sp_rv (sp_ok1 T Z) 9))), (0, .ref 30)] [.int (-5 : Int32)] (ab_S nr (ab_u2 h1_ 31 5 (h1_ 31 5 + 1)) g rr) _
    exact ab_ret (v := some (.int (-5 : Int32))) de_M_tight_17 ⟨_, rfl⟩ ⟨_, _, (by unfold fx_M_tight; rw [if_pos c_8_1]), rfl, md_K_31 kk_h1_ _ _, md_kr_31 ff_h1_ _⟩
