/-! what is kept stays right; WhatGame's answers out of it -/
def kp_C (T : Nat → Nat → Nat) (Z : sp_G) (h : Nat → Nat → Int32) : Prop := (h 14 9 = 0 ∨ (h 14 9 = 1 ∧ fk_ok (sp_ok1 T Z) h)) ∧ (h 14 10 = -1 ∨ (¬ sp_to (sp_ok1 T Z) = 0 ∧ h 14 10 = nI (sp_ti T Z))) ∧ (h 14 11 = -1 ∨ ∃ q, h 14 11 = nI q ∧ q ≤ 25 ∧ h 14 12 = nI (sp_ch sp_pr (fun c => sp_fy T c Z) q 4096).2)
/-- nothing but what is kept has changed -/
def fr_K (h h' : Nat → Nat → Int32) : Prop := ∀ a, a ≠ 14 → (a < 22 ∨ 27 < a) → h' a = h a
theorem fr_rf (h : Nat → Nat → Int32) : fr_K h h := fun _ _ _ => rfl
theorem fr_28 {h h' : Nat → Nat → Int32} (hf : fr_K h h') (k : Nat) : fr_K (ab_u2 h 28 k (h 28 k + 1)) (ab_u2 h' 28 k (h' 28 k + 1)) := fun a h1 h2 => by
  by_cases e : a = 28
  · subst e
    rw [ab_u2_self, ab_u2_self, hf 28 h1 h2]
  · rw [ab_u2_row e, ab_u2_row e, hf a h1 h2]
theorem kp_fr {T : Nat → Nat → Nat} {Z : sp_G} {h h' : Nat → Nat → Int32} (e1 : h' 14 = h 14) (e2 : h' 22 = h 22) (e3 : h' 23 = h 23) (hk : kp_C T Z h) : kp_C T Z h' := by
  unfold kp_C at *
  rw [e1]
  refine ⟨?_, hk.2⟩
  rcases hk.1 with z | ⟨z, z2⟩
  · exact Or.inl z
  · exact Or.inr ⟨z, fk_fr (congrFun e1 3) e3 e2 z2⟩
theorem kp_28 {T : Nat → Nat → Nat} {Z : sp_G} {h : Nat → Nat → Int32} (hk : kp_C T Z h) (k : Nat) (x : Int32) : kp_C T Z (ab_u2 h 28 k x) := kp_fr (ab_u2_row (by decide)) (ab_u2_row (by decide)) (ab_u2_row (by decide)) hk
theorem kp_ti {T : Nat → Nat → Nat} {Z : sp_G} {h h' : Nat → Nat → Int32} (hk : kp_C T Z h) (hn : ¬ sp_to (sp_ok1 T Z) = 0) (e22 : h' 22 = h 22) (e23 : h' 23 = h 23) (e14 : ∀ b, b ≠ 10 → h' 14 b = h 14 b) (ht : h' 14 10 = nI (sp_ti T Z)) : kp_C T Z h' := by
  refine ⟨?_, Or.inr ⟨hn, ht⟩, ?_⟩
  · rw [e14 9 (by decide)]
    rcases hk.1 with z | ⟨z, z2⟩
    · exact Or.inl z
    · exact Or.inr ⟨z, fk_fr (e14 3 (by decide)) e23 e22 z2⟩
  · rw [e14 11 (by decide), e14 12 (by decide)]
    exact hk.2.2
theorem kp_ch {T : Nat → Nat → Nat} {Z : sp_G} {h h' : Nat → Nat → Int32} (hk : kp_C T Z h) {p : Nat} (hp : p ≤ 25) (e22 : h' 22 = h 22) (e23 : h' 23 = h 23) (e14 : ∀ b, b ≠ 11 → b ≠ 12 → h' 14 b = h 14 b) (h1 : h' 14 11 = nI p) (h2 : h' 14 12 = nI (sp_ch sp_pr (fun c => sp_fy T c Z) p 4096).2) : kp_C T Z h' := by
  refine ⟨?_, ?_, Or.inr ⟨p, h1, hp, h2⟩⟩
  · rw [e14 9 (by decide) (by decide)]
    rcases hk.1 with z | ⟨z, z2⟩
    · exact Or.inl z
    · exact Or.inr ⟨z, fk_fr (e14 3 (by decide) (by decide)) e23 e22 z2⟩
  · rw [e14 10 (by decide) (by decide)]
    exact hk.2.1
theorem sp_chc {T : Nat → Nat → Nat} {Z : sp_G} (hZ : gm_ok Z) {p : Nat} (hp : 1 ≤ p) : (sp_ch sp_pr (fun c => sp_fy T c Z) p 4096).2 < 4096 := by
  rcases sp_ch_in (pr := sp_pr) (fy := fun c => sp_fy T c Z) (p := p) 4096 with h | ⟨-, h, -⟩
  · exact absurd h (sp_ch_fin hZ hp (by decide))
  · exact h
set_option maxHeartbeats 1000000 in
set_option maxRecDepth 10000 in
theorem ct_W_known (l : Launch) (d : Nat) (nr : Nat) (h : Nat → Nat → Int32) (g : Nat → Nat → Int64) (rr : Nat → Option Nat) {T : Nat → Nat → Nat} (hT : bo_T T h 17) (hO : sp_ok T) {Z : sp_G} (hZ : gm_ok Z) (hG : gm_C Z h) (hkp : kp_C T Z h) : ab_C l am_W_known (d + 8) 0 0 [.ref 0] (ab_S nr h g rr) (fun (r_ : Option Value) (M' : ab_Me) => r_ = some (.ref 14) ∧ ∃ h', M' = ab_S nr h' g rr ∧ kp_C T Z h' ∧ fr_K h h' ∧ h' 14 9 = 1 ∧ fk_ok (sp_ok1 T Z) h') := by
  refine ab_C_of (by decide +kernel) rfl (Nat.le_of_ble_eq_true rfl) ?_
  refine ab_aload_n de_W_known_0 0 rfl ?_
  refine ab_get (v := .ref 14) fl_W_40 rfl rfl de_W_known_1 ?_
  refine ab_cV (as := []) (st := []) (ct_F_know l _ nr h g rr hT hO hZ hG hkp.1) mo_F_know mi_F_know ml_W_303 rfl (by decide) rfl rfl rfl (Nat.le_of_ble_eq_true rfl) de_W_known_4 (fun v_ M_ hK_ hl_ hv_ => ?_)
  obtain ⟨rfl, h1, rfl, e1_, e2_, e3_, fk_⟩ := hK_
  change ab_G _ _ _ _ _ _ _ [(0, .ref 0)] [] (ab_S nr h1 g rr) _
  refine ab_aload_n de_W_known_7 0 rfl ?_
  refine ab_get (v := .ref 14) fl_W_40 rfl rfl de_W_known_8 ?_
  exact ab_ret (v := some (.ref 14)) de_W_known_11 (Or.inr ⟨_, rfl⟩) ⟨rfl, h1, rfl, ⟨Or.inr ⟨e3_, fk_⟩, by rw [e2_ 10 (by decide) (by decide)]; exact hkp.2.1, by rw [e2_ 11 (by decide) (by decide), e2_ 12 (by decide) (by decide)]; exact hkp.2.2⟩, fun a h1 h2 => e1_ a h1 (by omega) (by omega) (by omega), e3_, fk_⟩
def fx_W_find (h : Nat → Nat → Int32) (T : Nat → Nat → Nat) (Z : sp_G)  : Option Value × (Nat → Nat → Int32) :=
  if (nI (sp_to (sp_ok1 T Z))) = 0 then
    (some (.int (-5 : Int32)), (ab_u2 h 28 5 (h 28 5 + 1)))
  else
    (some (.int (nI (sp_fo (sp_ok1 T Z) 0))), h)
set_option maxHeartbeats 1000000 in
set_option maxRecDepth 10000 in
theorem ct_W_find (l : Launch) (d : Nat) (nr : Nat) (h : Nat → Nat → Int32) (g : Nat → Nat → Int64) (rr : Nat → Option Nat) {T : Nat → Nat → Nat} (hT : bo_T T h 17) (hO : sp_ok T) {Z : sp_G} (hZ : gm_ok Z) (hG : gm_C Z h) (hkp : kp_C T Z h)  : ab_C l am_W_find (d + 9) 0 0 [.ref 0] (ab_S nr h g rr) (fun r_ M' => ∃ X h', (r_, X) = fx_W_find h T Z ∧ M' = ab_S nr h' g rr ∧ kp_C T Z h' ∧ fr_K X h') := by
  have ff_h := fr_rf h
  have kk_h := hkp
  refine ab_C_of (by decide +kernel) rfl (Nat.le_of_ble_eq_true rfl) ?_
  refine ab_aload_n de_W_find_0 0 rfl ?_
  refine ab_cV (as := []) (st := []) (ct_W_known l _ nr h g rr hT hO hZ hG hkp) mo_W_known mi_W_known ml_W_267 rfl (by decide) rfl rfl rfl (Nat.le_of_ble_eq_true rfl) de_W_find_1 (fun v_ M_ hK_ hl_ hv_ => ?_)
  obtain ⟨rfl, h1, rfl, kk_h1, ff_h1, kn_, q1⟩ := hK_
  change ab_G _ _ _ _ _ _ _ [(0, .ref 0)] [.ref 14] (ab_S nr h1 g rr) _
  refine ab_get (v := .int (h1 14 3)) fl_W_271 rfl rfl de_W_find_4 ?_
  refine ab_top (v' := nI (sp_to (sp_ok1 T Z))) (q1.1) ?_
  refine ab_if_ne (tgt := 19) de_W_find_7 rfl (fun c_7_1 => ?_) (fun c_7_1 => ?_)
  · have n0_ : ¬ sp_to (sp_ok1 T Z) = 0 := fun z => c_7_1 (by rw [z]; rfl)
    refine ab_aload_n de_W_find_19 0 rfl ?_
    refine ab_get (v := .ref 14) fl_W_40 rfl rfl de_W_find_20 ?_
    refine ab_get (v := .ref 22) fl_W_272 rfl rfl de_W_find_23 ?_
    refine ab_iconst (v := 0) de_W_find_26 rfl ?_
    refine ab_iald (v := h1 22 0) rfl (show vp_in (nI 0) _ from ab_in (by decide) (by decide)) (ab_hv (show (nI 0).toNatClampNeg = 0 from ab_tn (by decide))) de_W_find_27 ?_
    refine ab_top (v' := nI (sp_fo (sp_ok1 T Z) 0)) (q1.2.2 0 (by omega)) ?_
    exact ab_ret (v := some (.int (nI (sp_fo (sp_ok1 T Z) 0)))) de_W_find_28 ⟨_, rfl⟩ ⟨_, _, (by unfold fx_W_find; rw [if_neg c_7_1]), rfl, kk_h1, ff_h1⟩
  · refine ab_aload_n de_W_find_10 0 rfl ?_
    refine ab_bipush (v := -5) de_W_find_11 rfl ?_
    refine ab_cV (as := [.int (-5 : Int32)]) (st := []) (ct_W_refuse l _ nr h1 g rr (r := (-5 : Int32)) (k := 5) (by decide) (by decide)) mo_W_refuse mi_W_refuse ml_W_88 rfl (by decide) rfl rfl rfl (Nat.le_of_ble_eq_true rfl) de_W_find_13 (fun v_ M_ hK_ hl_ hv_ => ?_)
    obtain ⟨rfl, hm_⟩ := hK_
    have hm_ := hm_.symm
    subst hm_
    change ab_G _ _ _ _ _ _ _ [(0, .ref 0)] [.int (-5 : Int32)] (ab_S nr (ab_u2 h1 28 5 (h1 28 5 + 1)) g rr) _
    refine ab_goto (tgt := 28) de_W_find_16 rfl ?_
    exact ab_ret (v := some (.int (-5 : Int32))) de_W_find_28 ⟨_, rfl⟩ ⟨_, _, (by unfold fx_W_find; rw [if_pos c_7_1]), rfl, kp_28 kk_h1 _ _, fr_28 ff_h1 _⟩
def fx_W_fits (h : Nat → Nat → Int32) (T : Nat → Nat → Nat) (Z : sp_G)  : Option Value × (Nat → Nat → Int32) :=
  (some (.int (nI (sp_to (sp_ok1 T Z)))), h)
set_option maxHeartbeats 1000000 in
set_option maxRecDepth 10000 in
theorem ct_W_fits (l : Launch) (d : Nat) (nr : Nat) (h : Nat → Nat → Int32) (g : Nat → Nat → Int64) (rr : Nat → Option Nat) {T : Nat → Nat → Nat} (hT : bo_T T h 17) (hO : sp_ok T) {Z : sp_G} (hZ : gm_ok Z) (hG : gm_C Z h) (hkp : kp_C T Z h)  : ab_C l am_W_fits (d + 9) 0 0 [.ref 0] (ab_S nr h g rr) (fun r_ M' => ∃ X h', (r_, X) = fx_W_fits h T Z ∧ M' = ab_S nr h' g rr ∧ kp_C T Z h' ∧ fr_K X h') := by
  have ff_h := fr_rf h
  have kk_h := hkp
  refine ab_C_of (by decide +kernel) rfl (Nat.le_of_ble_eq_true rfl) ?_
  refine ab_aload_n de_W_fits_0 0 rfl ?_
  refine ab_cV (as := []) (st := []) (ct_W_known l _ nr h g rr hT hO hZ hG hkp) mo_W_known mi_W_known ml_W_267 rfl (by decide) rfl rfl rfl (Nat.le_of_ble_eq_true rfl) de_W_fits_1 (fun v_ M_ hK_ hl_ hv_ => ?_)
  obtain ⟨rfl, h1, rfl, kk_h1, ff_h1, kn_, q1⟩ := hK_
  change ab_G _ _ _ _ _ _ _ [(0, .ref 0)] [.ref 14] (ab_S nr h1 g rr) _
  refine ab_get (v := .int (h1 14 3)) fl_W_271 rfl rfl de_W_fits_4 ?_
  refine ab_top (v' := nI (sp_to (sp_ok1 T Z))) (q1.1) ?_
  exact ab_ret (v := some (.int (nI (sp_to (sp_ok1 T Z))))) de_W_fits_7 ⟨_, rfl⟩ ⟨_, _, (by unfold fx_W_fits; rfl), rfl, kk_h1, ff_h1⟩
def fx_W_rivals (h : Nat → Nat → Int32) (T : Nat → Nat → Nat) (Z : sp_G) (x : Int32) : Option Value × (Nat → Nat → Int32) :=
  if (ab_bz (sp_x9 x)) = 0 then
    (some (.int (-6 : Int32)), (ab_u2 h 28 6 (h 28 6 + 1)))
  else
    (some (.int (nI (sp_rv (sp_ok1 T Z) x.toNatClampNeg))), h)
set_option maxHeartbeats 1000000 in
set_option maxRecDepth 10000 in
theorem ct_W_rivals (l : Launch) (d : Nat) (nr : Nat) (h : Nat → Nat → Int32) (g : Nat → Nat → Int64) (rr : Nat → Option Nat) {T : Nat → Nat → Nat} (hT : bo_T T h 17) (hO : sp_ok T) {Z : sp_G} (hZ : gm_ok Z) (hG : gm_C Z h) (hkp : kp_C T Z h) (x : Int32) : ab_C l am_W_rivals (d + 9) 0 0 [.ref 0, .int x] (ab_S nr h g rr) (fun r_ M' => ∃ X h', (r_, X) = fx_W_rivals h T Z x ∧ M' = ab_S nr h' g rr ∧ kp_C T Z h' ∧ fr_K X h') := by
  have ff_h := fr_rf h
  have kk_h := hkp
  refine ab_C_of (by decide +kernel) rfl (Nat.le_of_ble_eq_true rfl) ?_
  refine ab_iload_n de_W_rivals_0 1 rfl ?_
  refine ab_cS (as := [.int x]) (st := []) (ct_W_isX l _ (ab_S nr h g rr) (x)) mo_W_isX ms_W_isX ml_W_275 rfl rfl (Nat.le_of_ble_eq_true rfl) de_W_rivals_1 (fun v_ M_ hK_ hl_ hv_ => ?_)
  obtain ⟨rfl, hm_⟩ := hK_
  have hm_ := hm_.symm
  subst hm_
  change ab_G _ _ _ _ _ _ _ [(0, .ref 0), (1, .int x)] [.int (ab_bz (sp_x9 x))] (ab_S nr h g rr) _
  refine ab_if_eq (tgt := 18) de_W_rivals_4 rfl (fun c_4_1 => ?_) (fun c_4_1 => ?_)
  · refine ab_aload_n de_W_rivals_18 0 rfl ?_
    refine ab_bipush (v := -6) de_W_rivals_19 rfl ?_
    refine ab_cV (as := [.int (-6 : Int32)]) (st := []) (ct_W_refuse l _ nr h g rr (r := (-6 : Int32)) (k := 6) (by decide) (by decide)) mo_W_refuse mi_W_refuse ml_W_88 rfl (by decide) rfl rfl rfl (Nat.le_of_ble_eq_true rfl) de_W_rivals_21 (fun v_ M_ hK_ hl_ hv_ => ?_)
    obtain ⟨rfl, hm_⟩ := hK_
    have hm_ := hm_.symm
    subst hm_
    change ab_G _ _ _ _ _ _ _ [(0, .ref 0), (1, .int x)] [.int (-6 : Int32)] (ab_S nr (ab_u2 h 28 6 (h 28 6 + 1)) g rr) _
    exact ab_ret (v := some (.int (-6 : Int32))) de_W_rivals_24 ⟨_, rfl⟩ ⟨_, _, (by unfold fx_W_rivals; rw [if_pos c_4_1]), rfl, kp_28 kk_h _ _, fr_28 ff_h _⟩
  · obtain ⟨xn, hxn, rfl⟩ := sp_x9_n c_4_1
    refine ab_aload_n de_W_rivals_7 0 rfl ?_
    refine ab_cV (as := []) (st := []) (ct_W_known l _ nr h g rr hT hO hZ hG hkp) mo_W_known mi_W_known ml_W_267 rfl (by decide) rfl rfl rfl (Nat.le_of_ble_eq_true rfl) de_W_rivals_8 (fun v_ M_ hK_ hl_ hv_ => ?_)
    obtain ⟨rfl, h1, rfl, kk_h1, ff_h1, kn_, q1⟩ := hK_
    change ab_G _ _ _ _ _ _ _ [(0, .ref 0), (1, .int (nI xn))] [.ref 14] (ab_S nr h1 g rr) _
    refine ab_iload_n de_W_rivals_11 1 rfl ?_
    refine ab_cV (as := [.int (nI xn)]) (st := []) (ct_F_rivalCount l _ nr h1 g rr q1 (x := xn) (by omega)) mo_F_rivalCount mi_F_rivalCount ml_W_278 rfl (by decide) rfl rfl rfl (Nat.le_of_ble_eq_true rfl) de_W_rivals_12 (fun v_ M_ hK_ hl_ hv_ => ?_)
    obtain ⟨rfl, hm_⟩ := hK_
    have hm_ := hm_.symm
    subst hm_
    change ab_G _ _ _ _ _ _ _ [(0, .ref 0), (1, .int (nI xn))] [.int (nI (sp_rv (sp_ok1 T Z) xn))] (ab_S nr h1 g rr) _
    refine ab_goto (tgt := 24) de_W_rivals_15 rfl ?_
    exact ab_ret (v := some (.int (nI (sp_rv (sp_ok1 T Z) xn)))) de_W_rivals_24 ⟨_, rfl⟩ ⟨_, _, (by unfold fx_W_rivals; try simp only [ab_tn (show xn < 2 ^ 31 by omega)]; rw [if_neg c_4_1]), rfl, kk_h1, ff_h1⟩
def fx_W_rival (h : Nat → Nat → Int32) (T : Nat → Nat → Nat) (Z : sp_G) (x y : Int32) : Option Value × (Nat → Nat → Int32) :=
  if (ab_bz (sp_x9 x)) = 0 then
    (some (.int (-5 : Int32)), (ab_u2 h 28 5 (h 28 5 + 1)))
  else
    if y < 0 then
      (some (.int (-5 : Int32)), (ab_u2 h 28 5 (h 28 5 + 1)))
    else
      if y < (nI (sp_rv (sp_ok1 T Z) x.toNatClampNeg)) then
        (some (.int (nI (sp_fo (sp_ok1 T Z) y.toNatClampNeg))), h)
      else
        (some (.int (-5 : Int32)), (ab_u2 h 28 5 (h 28 5 + 1)))
set_option maxHeartbeats 1000000 in
set_option maxRecDepth 10000 in
theorem ct_W_rival (l : Launch) (d : Nat) (nr : Nat) (h : Nat → Nat → Int32) (g : Nat → Nat → Int64) (rr : Nat → Option Nat) {T : Nat → Nat → Nat} (hT : bo_T T h 17) (hO : sp_ok T) {Z : sp_G} (hZ : gm_ok Z) (hG : gm_C Z h) (hkp : kp_C T Z h) (x y : Int32) : ab_C l am_W_rival (d + 9) 0 0 [.ref 0, .int x, .int y] (ab_S nr h g rr) (fun r_ M' => ∃ X h', (r_, X) = fx_W_rival h T Z x y ∧ M' = ab_S nr h' g rr ∧ kp_C T Z h' ∧ fr_K X h') := by
  have ff_h := fr_rf h
  have kk_h := hkp
  refine ab_C_of (by decide +kernel) rfl (Nat.le_of_ble_eq_true rfl) ?_
  refine ab_iload_n de_W_rival_0 1 rfl ?_
  refine ab_cS (as := [.int x]) (st := []) (ct_W_isX l _ (ab_S nr h g rr) (x)) mo_W_isX ms_W_isX ml_W_275 rfl rfl (Nat.le_of_ble_eq_true rfl) de_W_rival_1 (fun v_ M_ hK_ hl_ hv_ => ?_)
  obtain ⟨rfl, hm_⟩ := hK_
  have hm_ := hm_.symm
  subst hm_
  change ab_G _ _ _ _ _ _ _ [(0, .ref 0), (1, .int x), (2, .int y)] [.int (ab_bz (sp_x9 x))] (ab_S nr h g rr) _
  refine ab_if_eq (tgt := 23) de_W_rival_4 rfl (fun c_4_1 => ?_) (fun c_4_1 => ?_)
  · refine ab_aload_n de_W_rival_23 0 rfl ?_
    refine ab_bipush (v := -5) de_W_rival_24 rfl ?_
    refine ab_cV (as := [.int (-5 : Int32)]) (st := []) (ct_W_refuse l _ nr h g rr (r := (-5 : Int32)) (k := 5) (by decide) (by decide)) mo_W_refuse mi_W_refuse ml_W_88 rfl (by decide) rfl rfl rfl (Nat.le_of_ble_eq_true rfl) de_W_rival_26 (fun v_ M_ hK_ hl_ hv_ => ?_)
    obtain ⟨rfl, hm_⟩ := hK_
    have hm_ := hm_.symm
    subst hm_
    change ab_G _ _ _ _ _ _ _ [(0, .ref 0), (1, .int x), (2, .int y)] [.int (-5 : Int32)] (ab_S nr (ab_u2 h 28 5 (h 28 5 + 1)) g rr) _
    exact ab_ret (v := some (.int (-5 : Int32))) de_W_rival_29 ⟨_, rfl⟩ ⟨_, _, (by unfold fx_W_rival; rw [if_pos c_4_1]), rfl, kp_28 kk_h _ _, fr_28 ff_h _⟩
  · obtain ⟨xn, hxn, rfl⟩ := sp_x9_n c_4_1
    refine ab_iload_n de_W_rival_7 2 rfl ?_
    refine ab_if_lt (tgt := 23) de_W_rival_8 rfl (fun c_8_2 => ?_) (fun c_8_2 => ?_)
    · refine ab_aload_n de_W_rival_23 0 rfl ?_
      refine ab_bipush (v := -5) de_W_rival_24 rfl ?_
      refine ab_cV (as := [.int (-5 : Int32)]) (st := []) (ct_W_refuse l _ nr h g rr (r := (-5 : Int32)) (k := 5) (by decide) (by decide)) mo_W_refuse mi_W_refuse ml_W_88 rfl (by decide) rfl rfl rfl (Nat.le_of_ble_eq_true rfl) de_W_rival_26 (fun v_ M_ hK_ hl_ hv_ => ?_)
      obtain ⟨rfl, hm_⟩ := hK_
      have hm_ := hm_.symm
      subst hm_
      change ab_G _ _ _ _ _ _ _ [(0, .ref 0), (1, .int (nI xn)), (2, .int y)] [.int (-5 : Int32)] (ab_S nr (ab_u2 h 28 5 (h 28 5 + 1)) g rr) _
      exact ab_ret (v := some (.int (-5 : Int32))) de_W_rival_29 ⟨_, rfl⟩ ⟨_, _, (by unfold fx_W_rival; try simp only [ab_tn (show xn < 2 ^ 31 by omega)]; rw [if_neg c_4_1, if_pos c_8_2]), rfl, kp_28 kk_h _ _, fr_28 ff_h _⟩
    · have c8 := c_8_2
      refine ab_iload_n de_W_rival_11 2 rfl ?_
      refine ab_aload_n de_W_rival_12 0 rfl ?_
      refine ab_cV (as := []) (st := [.int y]) (ct_W_known l _ nr h g rr hT hO hZ hG hkp) mo_W_known mi_W_known ml_W_267 rfl (by decide) rfl rfl rfl (Nat.le_of_ble_eq_true rfl) de_W_rival_13 (fun v_ M_ hK_ hl_ hv_ => ?_)
      obtain ⟨rfl, h1, rfl, kk_h1, ff_h1, kn_, q1⟩ := hK_
      change ab_G _ _ _ _ _ _ _ [(0, .ref 0), (1, .int (nI xn)), (2, .int y)] [.ref 14, .int y] (ab_S nr h1 g rr) _
      refine ab_iload_n de_W_rival_16 1 rfl ?_
      refine ab_cV (as := [.int (nI xn)]) (st := [.int y]) (ct_F_rivalCount l _ nr h1 g rr q1 (x := xn) (by omega)) mo_F_rivalCount mi_F_rivalCount ml_W_278 rfl (by decide) rfl rfl rfl (Nat.le_of_ble_eq_true rfl) de_W_rival_17 (fun v_ M_ hK_ hl_ hv_ => ?_)
      obtain ⟨rfl, hm_⟩ := hK_
      have hm_ := hm_.symm
      subst hm_
      change ab_G _ _ _ _ _ _ _ [(0, .ref 0), (1, .int (nI xn)), (2, .int y)] [.int (nI (sp_rv (sp_ok1 T Z) xn)), .int y] (ab_S nr h1 g rr) _
      refine ab_icmp_lt (tgt := 30) de_W_rival_20 rfl (fun c_20_3 => ?_) (fun c_20_3 => ?_)
      · have rv_ := sp_rv_le (sp_ok1 T Z) xn
        have to_ := sp_to_lt (f := (sp_ok1 T Z))
        obtain ⟨yn, hyn, rfl⟩ := sp_bt_n (by omega) c8 c_20_3
        refine ab_aload_n de_W_rival_30 0 rfl ?_
        refine ab_get (v := .ref 14) fl_W_40 rfl rfl de_W_rival_31 ?_
        refine ab_get (v := .ref 22) fl_W_272 rfl rfl de_W_rival_34 ?_
        refine ab_iload_n de_W_rival_37 2 rfl ?_
        refine ab_iald (v := h1 22 yn) rfl (ab_in (by omega) (by decide)) (ab_hv (ab_tn (n := yn) (by omega))) de_W_rival_38 ?_
        refine ab_top (v' := nI (sp_fo (sp_ok1 T Z) yn)) (q1.2.2 yn (by omega)) ?_
        exact ab_ret (v := some (.int (nI (sp_fo (sp_ok1 T Z) yn)))) de_W_rival_39 ⟨_, rfl⟩ ⟨_, _, (by unfold fx_W_rival; try simp only [ab_tn (show xn < 2 ^ 31 by omega), ab_tn (show yn < 2 ^ 31 by omega)]; rw [if_neg c_4_1, if_neg c_8_2, if_pos c_20_3]), rfl, kk_h1, ff_h1⟩
      · refine ab_aload_n de_W_rival_23 0 rfl ?_
        refine ab_bipush (v := -5) de_W_rival_24 rfl ?_
        refine ab_cV (as := [.int (-5 : Int32)]) (st := []) (ct_W_refuse l _ nr h1 g rr (r := (-5 : Int32)) (k := 5) (by decide) (by decide)) mo_W_refuse mi_W_refuse ml_W_88 rfl (by decide) rfl rfl rfl (Nat.le_of_ble_eq_true rfl) de_W_rival_26 (fun v_ M_ hK_ hl_ hv_ => ?_)
        obtain ⟨rfl, hm_⟩ := hK_
        have hm_ := hm_.symm
        subst hm_
        change ab_G _ _ _ _ _ _ _ [(0, .ref 0), (1, .int (nI xn)), (2, .int y)] [.int (-5 : Int32)] (ab_S nr (ab_u2 h1 28 5 (h1 28 5 + 1)) g rr) _
        exact ab_ret (v := some (.int (-5 : Int32))) de_W_rival_29 ⟨_, rfl⟩ ⟨_, _, (by unfold fx_W_rival; try simp only [ab_tn (show xn < 2 ^ 31 by omega)]; rw [if_neg c_4_1, if_neg c_8_2, if_neg c_20_3]), rfl, kp_28 kk_h1 _ _, fr_28 ff_h1 _⟩
def fx_W_tight (h : Nat → Nat → Int32) (T : Nat → Nat → Nat) (Z : sp_G)  : Option Value × (Nat → Nat → Int32) :=
  if (nI (sp_to (sp_ok1 T Z))) = 0 then
    (some (.int (-5 : Int32)), (ab_u2 h 28 5 (h 28 5 + 1)))
  else
    (some (.int (nI (sp_ti T Z))), h)
set_option maxHeartbeats 1000000 in
set_option maxRecDepth 10000 in
theorem ct_W_tight (l : Launch) (d : Nat) (nr : Nat) (h : Nat → Nat → Int32) (g : Nat → Nat → Int64) (rr : Nat → Option Nat) {T : Nat → Nat → Nat} (hT : bo_T T h 17) (hO : sp_ok T) {Z : sp_G} (hZ : gm_ok Z) (hG : gm_C Z h) (hkp : kp_C T Z h)  : ab_C l am_W_tight (d + 9) 0 0 [.ref 0] (ab_S nr h g rr) (fun r_ M' => ∃ X h', (r_, X) = fx_W_tight h T Z ∧ M' = ab_S nr h' g rr ∧ kp_C T Z h' ∧ fr_K X h') := by
  have ff_h := fr_rf h
  have kk_h := hkp
  refine ab_C_of (by decide +kernel) rfl (Nat.le_of_ble_eq_true rfl) ?_
  refine ab_aload_n de_W_tight_0 0 rfl ?_
  refine ab_cV (as := []) (st := []) (ct_W_known l _ nr h g rr hT hO hZ hG hkp) mo_W_known mi_W_known ml_W_267 rfl (by decide) rfl rfl rfl (Nat.le_of_ble_eq_true rfl) de_W_tight_1 (fun v_ M_ hK_ hl_ hv_ => ?_)
  obtain ⟨rfl, h1, rfl, kk_h1, ff_h1, kn_, q1⟩ := hK_
  change ab_G _ _ _ _ _ _ _ [(0, .ref 0)] [.ref 14] (ab_S nr h1 g rr) _
  refine ab_get (v := .int (h1 14 3)) fl_W_271 rfl rfl de_W_tight_4 ?_
  refine ab_top (v' := nI (sp_to (sp_ok1 T Z))) (q1.1) ?_
  refine ab_if_ne (tgt := 19) de_W_tight_7 rfl (fun c_7_1 => ?_) (fun c_7_1 => ?_)
  · have n0_ : ¬ sp_to (sp_ok1 T Z) = 0 := fun z => c_7_1 (by rw [z]; rfl)
    refine ab_aload_n de_W_tight_19 0 rfl ?_
    refine ab_get (v := .ref 14) fl_W_40 rfl rfl de_W_tight_20 ?_
    refine ab_cV (as := []) (st := []) (ct_F_tightest l _ nr h1 g rr (bo_T_fr (ff_h1 17 (by decide) (Or.inl (by decide))) hT) hO hZ (gm_C_fr (ff_h1 15 (by decide) (Or.inl (by decide))) (ff_h1 18 (by decide) (Or.inl (by decide))) (ff_h1 19 (by decide) (Or.inl (by decide))) (ff_h1 20 (by decide) (Or.inl (by decide))) (ff_h1 21 (by decide) (Or.inl (by decide))) hG) q1 n0_ (kk_h1.2.1.imp id (fun z => z.2))) mo_F_tightest mi_F_tightest ml_W_281 rfl (by decide) rfl rfl rfl (Nat.le_of_ble_eq_true rfl) de_W_tight_23 (fun v_ M_ hK_ hl_ hv_ => ?_)
    obtain ⟨rfl, h2, rfl, ta1, ta2, ta3⟩ := hK_
    change ab_G _ _ _ _ _ _ _ [(0, .ref 0)] [.int (nI (sp_ti T Z))] (ab_S nr h2 g rr) _
    have ff_h2 : fr_K h h2 := fun a z1 z2 => (ta1 a z1 (by omega)).trans (ff_h1 a z1 z2)
    have kk_h2 : kp_C T Z h2 := kp_ti kk_h1 n0_ (ta1 22 (by decide) (by decide)) (ta1 23 (by decide) (by decide)) ta2 ta3
    exact ab_ret (v := some (.int (nI (sp_ti T Z)))) de_W_tight_26 ⟨_, rfl⟩ ⟨_, _, (by unfold fx_W_tight; rw [if_neg c_7_1]), rfl, kk_h2, ff_h2⟩
  · refine ab_aload_n de_W_tight_10 0 rfl ?_
    refine ab_bipush (v := -5) de_W_tight_11 rfl ?_
    refine ab_cV (as := [.int (-5 : Int32)]) (st := []) (ct_W_refuse l _ nr h1 g rr (r := (-5 : Int32)) (k := 5) (by decide) (by decide)) mo_W_refuse mi_W_refuse ml_W_88 rfl (by decide) rfl rfl rfl (Nat.le_of_ble_eq_true rfl) de_W_tight_13 (fun v_ M_ hK_ hl_ hv_ => ?_)
    obtain ⟨rfl, hm_⟩ := hK_
    have hm_ := hm_.symm
    subst hm_
    change ab_G _ _ _ _ _ _ _ [(0, .ref 0)] [.int (-5 : Int32)] (ab_S nr (ab_u2 h1 28 5 (h1 28 5 + 1)) g rr) _
    refine ab_goto (tgt := 26) de_W_tight_16 rfl ?_
    exact ab_ret (v := some (.int (-5 : Int32))) de_W_tight_26 ⟨_, rfl⟩ ⟨_, _, (by unfold fx_W_tight; rw [if_pos c_7_1]), rfl, kp_28 kk_h1 _ _, fr_28 ff_h1 _⟩
def fx_W_sure (h : Nat → Nat → Int32) (T : Nat → Nat → Nat) (m i t : Nat) (Z : sp_G) (x y : Int32) : Option Value × (Nat → Nat → Int32) :=
  if (nI (sp_to (sp_ok1 T Z))) = 0 then
    (some (.int (-5 : Int32)), (ab_u2 h 28 5 (h 28 5 + 1)))
  else
    if (ab_bz (sp_x9 y)) = 0 then
      (some (.int (-6 : Int32)), (ab_u2 h 28 6 (h 28 6 + 1)))
    else
      if (ab_bz (sp_im x)) = 0 then
        (some (.int (-6 : Int32)), (ab_u2 h 28 6 (h 28 6 + 1)))
      else
        if (nI (sp_vt T (sp_ok1 T Z) m i (sp_rv (sp_ok1 T Z) y.toNatClampNeg) x.toNatClampNeg)) = 0 then
          (some (.int (0 : Int32)), h)
        else
          if (nI (sp_vt T (sp_ok1 T Z) m i (sp_rv (sp_ok1 T Z) y.toNatClampNeg) x.toNatClampNeg)) = (nI (sp_rv (sp_ok1 T Z) y.toNatClampNeg)) then
            (some (.int (1 : Int32)), h)
          else
            (some (.int (2 : Int32)), h)
set_option maxHeartbeats 1000000 in
set_option maxRecDepth 10000 in
theorem ct_W_sure (l : Launch) (d : Nat) (nr : Nat) (h : Nat → Nat → Int32) (g : Nat → Nat → Int64) (rr : Nat → Option Nat) {T : Nat → Nat → Nat} (hT : bo_T T h 17) (hO : sp_ok T) {m i t : Nat} (hm : m < 4096) (hi : i < 4096) (ht : t < 2) (hdj : sp_dj m i) (hN : h 0 10 = nI (sp_en m i t)) {Z : sp_G} (hZ : gm_ok Z) (hG : gm_C Z h) (hkp : kp_C T Z h) (x y : Int32) : ab_C l am_W_sure (d + 9) 0 0 [.ref 0, .int x, .int y] (ab_S nr h g rr) (fun r_ M' => ∃ X h', (r_, X) = fx_W_sure h T m i t Z x y ∧ M' = ab_S nr h' g rr ∧ kp_C T Z h' ∧ fr_K X h') := by
  have ff_h := fr_rf h
  have kk_h := hkp
  refine ab_C_of (by decide +kernel) rfl (Nat.le_of_ble_eq_true rfl) ?_
  refine ab_aload_n de_W_sure_0 0 rfl ?_
  refine ab_cV (as := []) (st := []) (ct_W_known l _ nr h g rr hT hO hZ hG hkp) mo_W_known mi_W_known ml_W_267 rfl (by decide) rfl rfl rfl (Nat.le_of_ble_eq_true rfl) de_W_sure_1 (fun v_ M_ hK_ hl_ hv_ => ?_)
  obtain ⟨rfl, h1, rfl, kk_h1, ff_h1, kn_, q1⟩ := hK_
  change ab_G _ _ _ _ _ _ _ [(0, .ref 0), (1, .int x), (2, .int y)] [.ref 14] (ab_S nr h1 g rr) _
  refine ab_get (v := .int (h1 14 3)) fl_W_271 rfl rfl de_W_sure_4 ?_
  refine ab_top (v' := nI (sp_to (sp_ok1 T Z))) (q1.1) ?_
  refine ab_if_ne (tgt := 17) de_W_sure_7 rfl (fun c_7_1 => ?_) (fun c_7_1 => ?_)
  · have n0_ : ¬ sp_to (sp_ok1 T Z) = 0 := fun z => c_7_1 (by rw [z]; rfl)
    refine ab_iload_n de_W_sure_17 2 rfl ?_
    refine ab_cS (as := [.int y]) (st := []) (ct_W_isX l _ (ab_S nr h1 g rr) (y)) mo_W_isX ms_W_isX ml_W_275 rfl rfl (Nat.le_of_ble_eq_true rfl) de_W_sure_18 (fun v_ M_ hK_ hl_ hv_ => ?_)
    obtain ⟨rfl, hm_⟩ := hK_
    have hm_ := hm_.symm
    subst hm_
    change ab_G _ _ _ _ _ _ _ [(0, .ref 0), (1, .int x), (2, .int y)] [.int (ab_bz (sp_x9 y))] (ab_S nr h1 g rr) _
    refine ab_if_eq (tgt := 31) de_W_sure_21 rfl (fun c_21_2 => ?_) (fun c_21_2 => ?_)
    · refine ab_aload_n de_W_sure_31 0 rfl ?_
      refine ab_bipush (v := -6) de_W_sure_32 rfl ?_
      refine ab_cV (as := [.int (-6 : Int32)]) (st := []) (ct_W_refuse l _ nr h1 g rr (r := (-6 : Int32)) (k := 6) (by decide) (by decide)) mo_W_refuse mi_W_refuse ml_W_88 rfl (by decide) rfl rfl rfl (Nat.le_of_ble_eq_true rfl) de_W_sure_34 (fun v_ M_ hK_ hl_ hv_ => ?_)
      obtain ⟨rfl, hm_⟩ := hK_
      have hm_ := hm_.symm
      subst hm_
      change ab_G _ _ _ _ _ _ _ [(0, .ref 0), (1, .int x), (2, .int y)] [.int (-6 : Int32)] (ab_S nr (ab_u2 h1 28 6 (h1 28 6 + 1)) g rr) _
      exact ab_ret (v := some (.int (-6 : Int32))) de_W_sure_37 ⟨_, rfl⟩ ⟨_, _, (by unfold fx_W_sure; rw [if_neg c_7_1, if_pos c_21_2]), rfl, kp_28 kk_h1 _ _, fr_28 ff_h1 _⟩
    · obtain ⟨yn, hyn, rfl⟩ := sp_x9_n c_21_2
      refine ab_iload_n de_W_sure_24 1 rfl ?_
      refine ab_cS (as := [.int x]) (st := []) (ct_B_isMove l _ (ab_S nr h1 g rr) x) mo_B_isMove ms_B_isMove ml_W_202 rfl rfl (Nat.le_of_ble_eq_true rfl) de_W_sure_25 (fun v_ M_ hK_ hl_ hv_ => ?_)
      obtain ⟨rfl, hm_⟩ := hK_
      have hm_ := hm_.symm
      subst hm_
      change ab_G _ _ _ _ _ _ _ [(0, .ref 0), (1, .int x), (2, .int (nI yn))] [.int (ab_bz (sp_im x))] (ab_S nr h1 g rr) _
      refine ab_if_ne (tgt := 38) de_W_sure_28 rfl (fun c_28_3 => ?_) (fun c_28_3 => ?_)
      · obtain ⟨xn, hxn, rfl⟩ := im_n c_28_3
        refine ab_aload_n de_W_sure_38 0 rfl ?_
        refine ab_get (v := .ref 14) fl_W_40 rfl rfl de_W_sure_39 ?_
        refine ab_aload_n de_W_sure_42 0 rfl ?_
        refine ab_get (v := .int (h1 0 10)) fl_W_56 rfl rfl de_W_sure_43 ?_
        refine ab_top (v' := nI (sp_en m i t)) ((congrFun (ff_h1 0 (by decide) (Or.inl (by decide))) 10).trans hN) ?_
        refine ab_iload_n de_W_sure_46 2 rfl ?_
        refine ab_iload_n de_W_sure_47 1 rfl ?_
        refine ab_cV (as := [.int (nI (sp_en m i t)), .int (nI yn), .int (nI xn)]) (st := []) (ct_F_letting l _ nr h1 g rr (bo_T_fr (ff_h1 17 (by decide) (Or.inl (by decide))) hT) hO hm hi ht q1 (x := yn) (by omega) (y := xn) (by omega)) mo_F_letting mi_F_letting ml_W_285 rfl (by decide) rfl rfl rfl (Nat.le_of_ble_eq_true rfl) de_W_sure_48 (fun v_ M_ hK_ hl_ hv_ => ?_)
        obtain ⟨rfl, h2, rfl, fv1, fv2⟩ := hK_
        change ab_G _ _ _ _ _ _ _ [(0, .ref 0), (1, .int (nI xn)), (2, .int (nI yn))] [.int (nI (sp_vt T (sp_ok1 T Z) m i (sp_rv (sp_ok1 T Z) yn) xn))] (ab_S nr h2 g rr) _
        have ff_h2 : fr_K h h2 := fun a z1 z2 => (fv1 a (by omega) (by omega)).trans (ff_h1 a z1 z2)
        have kk_h2 : kp_C T Z h2 := kp_fr (fv1 14 (by decide) (by decide)) (fv1 22 (by decide) (by decide)) (fv1 23 (by decide) (by decide)) kk_h1
        have q2 := fk_fr (congrFun (fv1 14 (by decide) (by decide)) 3) (fv1 23 (by decide) (by decide)) (fv1 22 (by decide) (by decide)) q1
        refine ab_istore_n (L' := [(3, .int (nI (sp_vt T (sp_ok1 T Z) m i (sp_rv (sp_ok1 T Z) yn) xn))), (0, .ref 0), (1, .int (nI xn)), (2, .int (nI yn))]) de_W_sure_51 (by decide) rfl ?_
        refine ab_iload_n de_W_sure_52 0 rfl ?_
        refine ab_if_ne (tgt := 58) de_W_sure_53 rfl (fun c_53_4 => ?_) (fun c_53_4 => ?_)
        · refine ab_iload_n de_W_sure_58 0 rfl ?_
          refine ab_aload_n de_W_sure_59 1 rfl ?_
          refine ab_get (v := .ref 14) fl_W_40 rfl rfl de_W_sure_60 ?_
          refine ab_iload_n de_W_sure_63 3 rfl ?_
          refine ab_cV (as := [.int (nI yn)]) (st := [.int (nI (sp_vt T (sp_ok1 T Z) m i (sp_rv (sp_ok1 T Z) yn) xn))]) (ct_F_rivalCount l _ nr h2 g rr q2 (x := yn) (by omega)) mo_F_rivalCount mi_F_rivalCount ml_W_278 rfl (by decide) rfl rfl rfl (Nat.le_of_ble_eq_true rfl) de_W_sure_64 (fun v_ M_ hK_ hl_ hv_ => ?_)
          obtain ⟨rfl, hm_⟩ := hK_
          have hm_ := hm_.symm
          subst hm_
          change ab_G _ _ _ _ _ _ _ [(3, .int (nI (sp_vt T (sp_ok1 T Z) m i (sp_rv (sp_ok1 T Z) yn) xn))), (0, .ref 0), (1, .int (nI xn)), (2, .int (nI yn))] [.int (nI (sp_rv (sp_ok1 T Z) yn)), .int (nI (sp_vt T (sp_ok1 T Z) m i (sp_rv (sp_ok1 T Z) yn) xn))] (ab_S nr h2 g rr) _
          refine ab_icmp_ne (tgt := 74) de_W_sure_67 rfl (fun c_67_5 => ?_) (fun c_67_5 => ?_)
          · refine ab_iconst (v := 2) de_W_sure_74 rfl ?_
            exact ab_ret (v := some (.int (2 : Int32))) de_W_sure_75 ⟨_, rfl⟩ ⟨_, _, (by unfold fx_W_sure; try simp only [ab_tn (show yn < 2 ^ 31 by omega), ab_tn (show xn < 2 ^ 31 by omega)]; rw [if_neg c_7_1, if_neg c_21_2, if_neg c_28_3, if_neg c_53_4, if_neg c_67_5]), rfl, kk_h2, ff_h2⟩
          · refine ab_iconst (v := 1) de_W_sure_70 rfl ?_
            refine ab_goto (tgt := 75) de_W_sure_71 rfl ?_
            exact ab_ret (v := some (.int (1 : Int32))) de_W_sure_75 ⟨_, rfl⟩ ⟨_, _, (by unfold fx_W_sure; try simp only [ab_tn (show yn < 2 ^ 31 by omega), ab_tn (show xn < 2 ^ 31 by omega)]; rw [if_neg c_7_1, if_neg c_21_2, if_neg c_28_3, if_neg c_53_4, if_pos c_67_5]), rfl, kk_h2, ff_h2⟩
        · refine ab_iconst (v := 0) de_W_sure_56 rfl ?_
          exact ab_ret (v := some (.int (0 : Int32))) de_W_sure_57 ⟨_, rfl⟩ ⟨_, _, (by unfold fx_W_sure; try simp only [ab_tn (show yn < 2 ^ 31 by omega), ab_tn (show xn < 2 ^ 31 by omega)]; rw [if_neg c_7_1, if_neg c_21_2, if_neg c_28_3, if_pos c_53_4]), rfl, kk_h2, ff_h2⟩
      · refine ab_aload_n de_W_sure_31 0 rfl ?_
        refine ab_bipush (v := -6) de_W_sure_32 rfl ?_
        refine ab_cV (as := [.int (-6 : Int32)]) (st := []) (ct_W_refuse l _ nr h1 g rr (r := (-6 : Int32)) (k := 6) (by decide) (by decide)) mo_W_refuse mi_W_refuse ml_W_88 rfl (by decide) rfl rfl rfl (Nat.le_of_ble_eq_true rfl) de_W_sure_34 (fun v_ M_ hK_ hl_ hv_ => ?_)
        obtain ⟨rfl, hm_⟩ := hK_
        have hm_ := hm_.symm
        subst hm_
        change ab_G _ _ _ _ _ _ _ [(0, .ref 0), (1, .int x), (2, .int (nI yn))] [.int (-6 : Int32)] (ab_S nr (ab_u2 h1 28 6 (h1 28 6 + 1)) g rr) _
        exact ab_ret (v := some (.int (-6 : Int32))) de_W_sure_37 ⟨_, rfl⟩ ⟨_, _, (by unfold fx_W_sure; try simp only [ab_tn (show yn < 2 ^ 31 by omega)]; rw [if_neg c_7_1, if_neg c_21_2, if_pos c_28_3]), rfl, kp_28 kk_h1 _ _, fr_28 ff_h1 _⟩
  · refine ab_aload_n de_W_sure_10 0 rfl ?_
    refine ab_bipush (v := -5) de_W_sure_11 rfl ?_
    refine ab_cV (as := [.int (-5 : Int32)]) (st := []) (ct_W_refuse l _ nr h1 g rr (r := (-5 : Int32)) (k := 5) (by decide) (by decide)) mo_W_refuse mi_W_refuse ml_W_88 rfl (by decide) rfl rfl rfl (Nat.le_of_ble_eq_true rfl) de_W_sure_13 (fun v_ M_ hK_ hl_ hv_ => ?_)
    obtain ⟨rfl, hm_⟩ := hK_
    have hm_ := hm_.symm
    subst hm_
    change ab_G _ _ _ _ _ _ _ [(0, .ref 0), (1, .int x), (2, .int y)] [.int (-5 : Int32)] (ab_S nr (ab_u2 h1 28 5 (h1 28 5 + 1)) g rr) _
    exact ab_ret (v := some (.int (-5 : Int32))) de_W_sure_16 ⟨_, rfl⟩ ⟨_, _, (by unfold fx_W_sure; rw [if_pos c_7_1]), rfl, kp_28 kk_h1 _ _, fr_28 ff_h1 _⟩
def fx_W_ask (h : Nat → Nat → Int32) (T : Nat → Nat → Nat) (m i t : Nat) (Z : sp_G) (x : Int32) : Option Value × (Nat → Nat → Int32) :=
  if (ab_bz (sp_x9 x)) = 0 then
    (some (.int (-16 : Int32)), (ab_u2 h 28 6 (h 28 6 + 1)))
  else
    (some (.int ((sp_as (sp_vt T (sp_ok1 T Z) m i (sp_rv (sp_ok1 T Z) x.toNatClampNeg)) (sp_rv (sp_ok1 T Z) x.toNatClampNeg) 256).2)), h)
set_option maxHeartbeats 1000000 in
set_option maxRecDepth 10000 in
theorem ct_W_ask (l : Launch) (d : Nat) (nr : Nat) (h : Nat → Nat → Int32) (g : Nat → Nat → Int64) (rr : Nat → Option Nat) {T : Nat → Nat → Nat} (hT : bo_T T h 17) (hO : sp_ok T) {m i t : Nat} (hm : m < 4096) (hi : i < 4096) (ht : t < 2) (hdj : sp_dj m i) (hN : h 0 10 = nI (sp_en m i t)) {Z : sp_G} (hZ : gm_ok Z) (hG : gm_C Z h) (hkp : kp_C T Z h) (x : Int32) : ab_C l am_W_ask (d + 9) 0 0 [.ref 0, .int x] (ab_S nr h g rr) (fun r_ M' => ∃ X h', (r_, X) = fx_W_ask h T m i t Z x ∧ M' = ab_S nr h' g rr ∧ kp_C T Z h' ∧ fr_K X h') := by
  have ff_h := fr_rf h
  have kk_h := hkp
  refine ab_C_of (by decide +kernel) rfl (Nat.le_of_ble_eq_true rfl) ?_
  refine ab_iload_n de_W_ask_0 1 rfl ?_
  refine ab_cS (as := [.int x]) (st := []) (ct_W_isX l _ (ab_S nr h g rr) (x)) mo_W_isX ms_W_isX ml_W_275 rfl rfl (Nat.le_of_ble_eq_true rfl) de_W_ask_1 (fun v_ M_ hK_ hl_ hv_ => ?_)
  obtain ⟨rfl, hm_⟩ := hK_
  have hm_ := hm_.symm
  subst hm_
  change ab_G _ _ _ _ _ _ _ [(0, .ref 0), (1, .int x)] [.int (ab_bz (sp_x9 x))] (ab_S nr h g rr) _
  refine ab_if_eq (tgt := 22) de_W_ask_4 rfl (fun c_4_1 => ?_) (fun c_4_1 => ?_)
  · refine ab_aload_n de_W_ask_22 0 rfl ?_
    refine ab_bipush (v := -6) de_W_ask_23 rfl ?_
    refine ab_bipush (v := -16) de_W_ask_25 rfl ?_
    refine ab_cV (as := [.int (-6 : Int32), .int (-16 : Int32)]) (st := []) (ct_W_refuseTold l _ nr h g rr (r := (-6 : Int32)) (k := 6) (by decide) (by decide) ((-16 : Int32))) mo_W_refuseTold mi_W_refuseTold ml_W_199 rfl (by decide) rfl rfl rfl (Nat.le_of_ble_eq_true rfl) de_W_ask_27 (fun v_ M_ hK_ hl_ hv_ => ?_)
    obtain ⟨rfl, hm_⟩ := hK_
    have hm_ := hm_.symm
    subst hm_
    change ab_G _ _ _ _ _ _ _ [(0, .ref 0), (1, .int x)] [.int (-16 : Int32)] (ab_S nr (ab_u2 h 28 6 (h 28 6 + 1)) g rr) _
    exact ab_ret (v := some (.int (-16 : Int32))) de_W_ask_30 ⟨_, rfl⟩ ⟨_, _, (by unfold fx_W_ask; rw [if_pos c_4_1]), rfl, kp_28 kk_h _ _, fr_28 ff_h _⟩
  · obtain ⟨xn, hxn, rfl⟩ := sp_x9_n c_4_1
    refine ab_aload_n de_W_ask_7 0 rfl ?_
    refine ab_cV (as := []) (st := []) (ct_W_known l _ nr h g rr hT hO hZ hG hkp) mo_W_known mi_W_known ml_W_267 rfl (by decide) rfl rfl rfl (Nat.le_of_ble_eq_true rfl) de_W_ask_8 (fun v_ M_ hK_ hl_ hv_ => ?_)
    obtain ⟨rfl, h1, rfl, kk_h1, ff_h1, kn_, q1⟩ := hK_
    change ab_G _ _ _ _ _ _ _ [(0, .ref 0), (1, .int (nI xn))] [.ref 14] (ab_S nr h1 g rr) _
    refine ab_aload_n de_W_ask_11 0 rfl ?_
    refine ab_get (v := .int (h1 0 10)) fl_W_56 rfl rfl de_W_ask_12 ?_
    refine ab_top (v' := nI (sp_en m i t)) ((congrFun (ff_h1 0 (by decide) (Or.inl (by decide))) 10).trans hN) ?_
    refine ab_iload_n de_W_ask_15 1 rfl ?_
    refine ab_cV (as := [.int (nI (sp_en m i t)), .int (nI xn)]) (st := []) (ct_F_asked l _ nr h1 g rr (bo_T_fr (ff_h1 17 (by decide) (Or.inl (by decide))) hT) hO hm hi ht q1 (x := xn) (by omega)) mo_F_asked mi_F_asked ml_W_288 rfl (by decide) rfl rfl rfl (Nat.le_of_ble_eq_true rfl) de_W_ask_16 (fun v_ M_ hK_ hl_ hv_ => ?_)
    obtain ⟨rfl, h2, rfl, fv1, fv2⟩ := hK_
    change ab_G _ _ _ _ _ _ _ [(0, .ref 0), (1, .int (nI xn))] [.int ((sp_as (sp_vt T (sp_ok1 T Z) m i (sp_rv (sp_ok1 T Z) xn)) (sp_rv (sp_ok1 T Z) xn) 256).2)] (ab_S nr h2 g rr) _
    have ff_h2 : fr_K h h2 := fun a z1 z2 => (fv1 a (by omega) (by omega)).trans (ff_h1 a z1 z2)
    have kk_h2 : kp_C T Z h2 := kp_fr (fv1 14 (by decide) (by decide)) (fv1 22 (by decide) (by decide)) (fv1 23 (by decide) (by decide)) kk_h1
    have q2 := fk_fr (congrFun (fv1 14 (by decide) (by decide)) 3) (fv1 23 (by decide) (by decide)) (fv1 22 (by decide) (by decide)) q1
    refine ab_goto (tgt := 30) de_W_ask_19 rfl ?_
    exact ab_ret (v := some (.int ((sp_as (sp_vt T (sp_ok1 T Z) m i (sp_rv (sp_ok1 T Z) xn)) (sp_rv (sp_ok1 T Z) xn) 256).2))) de_W_ask_30 ⟨_, rfl⟩ ⟨_, _, (by unfold fx_W_ask; try simp only [ab_tn (show xn < 2 ^ 31 by omega)]; rw [if_neg c_4_1]), rfl, kk_h2, ff_h2⟩
def fx_W_left (h : Nat → Nat → Int32) (T : Nat → Nat → Nat) (m i t : Nat) (Z : sp_G) (x : Int32) : Option Value × (Nat → Nat → Int32) :=
  if (ab_bz (sp_x9 x)) = 0 then
    (some (.int (-6 : Int32)), (ab_u2 h 28 6 (h 28 6 + 1)))
  else
    (some (.int (if (sp_as (sp_vt T (sp_ok1 T Z) m i (sp_rv (sp_ok1 T Z) x.toNatClampNeg)) (sp_rv (sp_ok1 T Z) x.toNatClampNeg) 256).2 = -1 then 0 else nI (sp_as (sp_vt T (sp_ok1 T Z) m i (sp_rv (sp_ok1 T Z) x.toNatClampNeg)) (sp_rv (sp_ok1 T Z) x.toNatClampNeg) 256).1)), h)
set_option maxHeartbeats 1000000 in
set_option maxRecDepth 10000 in
theorem ct_W_left (l : Launch) (d : Nat) (nr : Nat) (h : Nat → Nat → Int32) (g : Nat → Nat → Int64) (rr : Nat → Option Nat) {T : Nat → Nat → Nat} (hT : bo_T T h 17) (hO : sp_ok T) {m i t : Nat} (hm : m < 4096) (hi : i < 4096) (ht : t < 2) (hdj : sp_dj m i) (hN : h 0 10 = nI (sp_en m i t)) {Z : sp_G} (hZ : gm_ok Z) (hG : gm_C Z h) (hkp : kp_C T Z h) (x : Int32) : ab_C l am_W_left (d + 9) 0 0 [.ref 0, .int x] (ab_S nr h g rr) (fun r_ M' => ∃ X h', (r_, X) = fx_W_left h T m i t Z x ∧ M' = ab_S nr h' g rr ∧ kp_C T Z h' ∧ fr_K X h') := by
  have ff_h := fr_rf h
  have kk_h := hkp
  refine ab_C_of (by decide +kernel) rfl (Nat.le_of_ble_eq_true rfl) ?_
  refine ab_iload_n de_W_left_0 1 rfl ?_
  refine ab_cS (as := [.int x]) (st := []) (ct_W_isX l _ (ab_S nr h g rr) (x)) mo_W_isX ms_W_isX ml_W_275 rfl rfl (Nat.le_of_ble_eq_true rfl) de_W_left_1 (fun v_ M_ hK_ hl_ hv_ => ?_)
  obtain ⟨rfl, hm_⟩ := hK_
  have hm_ := hm_.symm
  subst hm_
  change ab_G _ _ _ _ _ _ _ [(0, .ref 0), (1, .int x)] [.int (ab_bz (sp_x9 x))] (ab_S nr h g rr) _
  refine ab_if_eq (tgt := 22) de_W_left_4 rfl (fun c_4_1 => ?_) (fun c_4_1 => ?_)
  · refine ab_aload_n de_W_left_22 0 rfl ?_
    refine ab_bipush (v := -6) de_W_left_23 rfl ?_
    refine ab_cV (as := [.int (-6 : Int32)]) (st := []) (ct_W_refuse l _ nr h g rr (r := (-6 : Int32)) (k := 6) (by decide) (by decide)) mo_W_refuse mi_W_refuse ml_W_88 rfl (by decide) rfl rfl rfl (Nat.le_of_ble_eq_true rfl) de_W_left_25 (fun v_ M_ hK_ hl_ hv_ => ?_)
    obtain ⟨rfl, hm_⟩ := hK_
    have hm_ := hm_.symm
    subst hm_
    change ab_G _ _ _ _ _ _ _ [(0, .ref 0), (1, .int x)] [.int (-6 : Int32)] (ab_S nr (ab_u2 h 28 6 (h 28 6 + 1)) g rr) _
    exact ab_ret (v := some (.int (-6 : Int32))) de_W_left_28 ⟨_, rfl⟩ ⟨_, _, (by unfold fx_W_left; rw [if_pos c_4_1]), rfl, kp_28 kk_h _ _, fr_28 ff_h _⟩
  · obtain ⟨xn, hxn, rfl⟩ := sp_x9_n c_4_1
    refine ab_aload_n de_W_left_7 0 rfl ?_
    refine ab_cV (as := []) (st := []) (ct_W_known l _ nr h g rr hT hO hZ hG hkp) mo_W_known mi_W_known ml_W_267 rfl (by decide) rfl rfl rfl (Nat.le_of_ble_eq_true rfl) de_W_left_8 (fun v_ M_ hK_ hl_ hv_ => ?_)
    obtain ⟨rfl, h1, rfl, kk_h1, ff_h1, kn_, q1⟩ := hK_
    change ab_G _ _ _ _ _ _ _ [(0, .ref 0), (1, .int (nI xn))] [.ref 14] (ab_S nr h1 g rr) _
    refine ab_aload_n de_W_left_11 0 rfl ?_
    refine ab_get (v := .int (h1 0 10)) fl_W_56 rfl rfl de_W_left_12 ?_
    refine ab_top (v' := nI (sp_en m i t)) ((congrFun (ff_h1 0 (by decide) (Or.inl (by decide))) 10).trans hN) ?_
    refine ab_iload_n de_W_left_15 1 rfl ?_
    refine ab_cV (as := [.int (nI (sp_en m i t)), .int (nI xn)]) (st := []) (ct_F_leftOver l _ nr h1 g rr (bo_T_fr (ff_h1 17 (by decide) (Or.inl (by decide))) hT) hO hm hi ht q1 (x := xn) (by omega)) mo_F_leftOver mi_F_leftOver ml_W_291 rfl (by decide) rfl rfl rfl (Nat.le_of_ble_eq_true rfl) de_W_left_16 (fun v_ M_ hK_ hl_ hv_ => ?_)
    obtain ⟨rfl, h2, rfl, fv1, fv2⟩ := hK_
    change ab_G _ _ _ _ _ _ _ [(0, .ref 0), (1, .int (nI xn))] [.int (if (sp_as (sp_vt T (sp_ok1 T Z) m i (sp_rv (sp_ok1 T Z) xn)) (sp_rv (sp_ok1 T Z) xn) 256).2 = -1 then 0 else nI (sp_as (sp_vt T (sp_ok1 T Z) m i (sp_rv (sp_ok1 T Z) xn)) (sp_rv (sp_ok1 T Z) xn) 256).1)] (ab_S nr h2 g rr) _
    have ff_h2 : fr_K h h2 := fun a z1 z2 => (fv1 a (by omega) (by omega)).trans (ff_h1 a z1 z2)
    have kk_h2 : kp_C T Z h2 := kp_fr (fv1 14 (by decide) (by decide)) (fv1 22 (by decide) (by decide)) (fv1 23 (by decide) (by decide)) kk_h1
    have q2 := fk_fr (congrFun (fv1 14 (by decide) (by decide)) 3) (fv1 23 (by decide) (by decide)) (fv1 22 (by decide) (by decide)) q1
    refine ab_goto (tgt := 28) de_W_left_19 rfl ?_
    exact ab_ret (v := some (.int (if (sp_as (sp_vt T (sp_ok1 T Z) m i (sp_rv (sp_ok1 T Z) xn)) (sp_rv (sp_ok1 T Z) xn) 256).2 = -1 then 0 else nI (sp_as (sp_vt T (sp_ok1 T Z) m i (sp_rv (sp_ok1 T Z) xn)) (sp_rv (sp_ok1 T Z) xn) 256).1))) de_W_left_28 ⟨_, rfl⟩ ⟨_, _, (by unfold fx_W_left; try simp only [ab_tn (show xn < 2 ^ 31 by omega)]; rw [if_neg c_4_1]), rfl, kk_h2, ff_h2⟩
def fx_W_cheat (h : Nat → Nat → Int32) (T : Nat → Nat → Nat) (Z : sp_G) (x y : Int32) : Option Value × (Nat → Nat → Int32) :=
  if x < (1 : Int32) then
    (some (.int (-6 : Int32)), (ab_u2 h 28 6 (h 28 6 + 1)))
  else
    if (25 : Int32) < x then
      (some (.int (-6 : Int32)), (ab_u2 h 28 6 (h 28 6 + 1)))
    else
      if y < 0 then
        (some (.int (-6 : Int32)), (ab_u2 h 28 6 (h 28 6 + 1)))
      else
        if y ≤ (1 : Int32) then
          if y = 0 then
            (some (.int (nI (if sp_fy T (sp_ch sp_pr (fun c => sp_fy T c Z) x.toNatClampNeg 4096).2 Z < 2147483647 then sp_fy T (sp_ch sp_pr (fun c => sp_fy T c Z) x.toNatClampNeg 4096).2 Z else 2147483647))), h)
          else
            (some (.int (nI (sp_ch sp_pr (fun c => sp_fy T c Z) x.toNatClampNeg 4096).2)), h)
        else
          (some (.int (-6 : Int32)), (ab_u2 h 28 6 (h 28 6 + 1)))
set_option maxHeartbeats 1000000 in
set_option maxRecDepth 10000 in
theorem ct_W_cheat (l : Launch) (d : Nat) (nr : Nat) (h : Nat → Nat → Int32) (g : Nat → Nat → Int64) (rr : Nat → Option Nat) {T : Nat → Nat → Nat} (hT : bo_T T h 17) (hO : sp_ok T) {Z : sp_G} (hZ : gm_ok Z) (hG : gm_C Z h) (hkp : kp_C T Z h) (x y : Int32) : ab_C l am_W_cheat (d + 7) 0 0 [.ref 0, .int x, .int y] (ab_S nr h g rr) (fun r_ M' => ∃ X h', (r_, X) = fx_W_cheat h T Z x y ∧ M' = ab_S nr h' g rr ∧ kp_C T Z h' ∧ fr_K X h') := by
  have ff_h := fr_rf h
  have kk_h := hkp
  refine ab_C_of (by decide +kernel) rfl (Nat.le_of_ble_eq_true rfl) ?_
  refine ab_iload_n de_W_cheat_0 1 rfl ?_
  refine ab_iconst (v := 1) de_W_cheat_1 rfl ?_
  refine ab_icmp_lt (tgt := 20) de_W_cheat_2 rfl (fun c_2_1 => ?_) (fun c_2_1 => ?_)
  · refine ab_aload_n de_W_cheat_20 0 rfl ?_
    refine ab_bipush (v := -6) de_W_cheat_21 rfl ?_
    refine ab_cV (as := [.int (-6 : Int32)]) (st := []) (ct_W_refuse l _ nr h g rr (r := (-6 : Int32)) (k := 6) (by decide) (by decide)) mo_W_refuse mi_W_refuse ml_W_88 rfl (by decide) rfl rfl rfl (Nat.le_of_ble_eq_true rfl) de_W_cheat_23 (fun v_ M_ hK_ hl_ hv_ => ?_)
    obtain ⟨rfl, hm_⟩ := hK_
    have hm_ := hm_.symm
    subst hm_
    change ab_G _ _ _ _ _ _ _ [(0, .ref 0), (1, .int x), (2, .int y)] [.int (-6 : Int32)] (ab_S nr (ab_u2 h 28 6 (h 28 6 + 1)) g rr) _
    exact ab_ret (v := some (.int (-6 : Int32))) de_W_cheat_26 ⟨_, rfl⟩ ⟨_, _, (by unfold fx_W_cheat; rw [if_pos c_2_1]), rfl, kp_28 kk_h _ _, fr_28 ff_h _⟩
  · have c2 := c_2_1
    refine ab_iload_n de_W_cheat_5 1 rfl ?_
    refine ab_bipush (v := 25) de_W_cheat_6 rfl ?_
    refine ab_icmp_gt (tgt := 20) de_W_cheat_8 rfl (fun c_8_2 => ?_) (fun c_8_2 => ?_)
    · refine ab_aload_n de_W_cheat_20 0 rfl ?_
      refine ab_bipush (v := -6) de_W_cheat_21 rfl ?_
      refine ab_cV (as := [.int (-6 : Int32)]) (st := []) (ct_W_refuse l _ nr h g rr (r := (-6 : Int32)) (k := 6) (by decide) (by decide)) mo_W_refuse mi_W_refuse ml_W_88 rfl (by decide) rfl rfl rfl (Nat.le_of_ble_eq_true rfl) de_W_cheat_23 (fun v_ M_ hK_ hl_ hv_ => ?_)
      obtain ⟨rfl, hm_⟩ := hK_
      have hm_ := hm_.symm
      subst hm_
      change ab_G _ _ _ _ _ _ _ [(0, .ref 0), (1, .int x), (2, .int y)] [.int (-6 : Int32)] (ab_S nr (ab_u2 h 28 6 (h 28 6 + 1)) g rr) _
      exact ab_ret (v := some (.int (-6 : Int32))) de_W_cheat_26 ⟨_, rfl⟩ ⟨_, _, (by unfold fx_W_cheat; rw [if_neg c_2_1, if_pos c_8_2]), rfl, kp_28 kk_h _ _, fr_28 ff_h _⟩
    · obtain ⟨xn, hxn, rfl⟩ := sp_btl_n (a := 1) (N := 25) (by decide) (Int32.not_lt.mp c2) (by decide) (Int32.not_lt.mp c_8_2)
      refine ab_iload_n de_W_cheat_11 2 rfl ?_
      refine ab_if_lt (tgt := 20) de_W_cheat_12 rfl (fun c_12_3 => ?_) (fun c_12_3 => ?_)
      · refine ab_aload_n de_W_cheat_20 0 rfl ?_
        refine ab_bipush (v := -6) de_W_cheat_21 rfl ?_
        refine ab_cV (as := [.int (-6 : Int32)]) (st := []) (ct_W_refuse l _ nr h g rr (r := (-6 : Int32)) (k := 6) (by decide) (by decide)) mo_W_refuse mi_W_refuse ml_W_88 rfl (by decide) rfl rfl rfl (Nat.le_of_ble_eq_true rfl) de_W_cheat_23 (fun v_ M_ hK_ hl_ hv_ => ?_)
        obtain ⟨rfl, hm_⟩ := hK_
        have hm_ := hm_.symm
        subst hm_
        change ab_G _ _ _ _ _ _ _ [(0, .ref 0), (1, .int (nI xn)), (2, .int y)] [.int (-6 : Int32)] (ab_S nr (ab_u2 h 28 6 (h 28 6 + 1)) g rr) _
        exact ab_ret (v := some (.int (-6 : Int32))) de_W_cheat_26 ⟨_, rfl⟩ ⟨_, _, (by unfold fx_W_cheat; try simp only [ab_tn (show xn < 2 ^ 31 by omega)]; rw [if_neg c_2_1, if_neg c_8_2, if_pos c_12_3]), rfl, kp_28 kk_h _ _, fr_28 ff_h _⟩
      · refine ab_iload_n de_W_cheat_15 2 rfl ?_
        refine ab_iconst (v := 1) de_W_cheat_16 rfl ?_
        refine ab_icmp_le (tgt := 27) de_W_cheat_17 rfl (fun c_17_4 => ?_) (fun c_17_4 => ?_)
        · refine ab_aload_n de_W_cheat_27 0 rfl ?_
          refine ab_get (v := .ref 14) fl_W_40 rfl rfl de_W_cheat_28 ?_
          refine ab_iload_n de_W_cheat_31 1 rfl ?_
          refine ab_cV (as := [.int (nI xn)]) (st := []) (ct_F_cheatCode l _ nr h g rr hT hO hZ hG (p := xn) hxn.1 hxn.2 hkp.2.2) mo_F_cheatCode mi_F_cheatCode ml_W_294 rfl (by decide) rfl rfl rfl (Nat.le_of_ble_eq_true rfl) de_W_cheat_32 (fun v_ M_ hK_ hl_ hv_ => ?_)
          obtain ⟨rfl, h2, rfl, ta1, ta2, ta3, ta4⟩ := hK_
          change ab_G _ _ _ _ _ _ _ [(0, .ref 0), (1, .int (nI xn)), (2, .int y)] [.int (nI (sp_ch sp_pr (fun c => sp_fy T c Z) xn 4096).2)] (ab_S nr h2 g rr) _
          have cc_ := sp_chc (T := T) hZ hxn.1
          have ff_h2 : fr_K h h2 := fun a z1 z2 => ta1 a z1
          have kk_h2 : kp_C T Z h2 := kp_ch hkp hxn.2 (ta1 22 (by decide)) (ta1 23 (by decide)) ta2 ta3 ta4
          refine ab_istore_n (L' := [(3, .int (nI (sp_ch sp_pr (fun c => sp_fy T c Z) xn 4096).2)), (0, .ref 0), (1, .int (nI xn)), (2, .int y)]) de_W_cheat_35 (by decide) rfl ?_
          refine ab_iload_n de_W_cheat_36 3 rfl ?_
          refine ab_if_ne (tgt := 54) de_W_cheat_37 rfl (fun c_37_5 => ?_) (fun c_37_5 => ?_)
          · refine ab_iload_n de_W_cheat_54 0 rfl ?_
            exact ab_ret (v := some (.int (nI (sp_ch sp_pr (fun c => sp_fy T c Z) xn 4096).2))) de_W_cheat_55 ⟨_, rfl⟩ ⟨_, _, (by unfold fx_W_cheat; try simp only [ab_tn (show xn < 2 ^ 31 by omega)]; rw [if_neg c_2_1, if_neg c_8_2, if_neg c_12_3, if_pos c_17_4, if_neg c_37_5]), rfl, kk_h2, ff_h2⟩
          · refine ab_aload_n de_W_cheat_40 1 rfl ?_
            refine ab_get (v := .ref 15) fl_W_48 rfl rfl de_W_cheat_41 ?_
            refine ab_iload_n de_W_cheat_44 0 rfl ?_
            refine ab_ldcw co_W_299 de_W_cheat_45 ?_
            refine ab_cV (as := [.int (nI (sp_ch sp_pr (fun c => sp_fy T c Z) xn 4096).2), .int (2147483647 : Int32)]) (st := []) (ct_G_faulty l _ nr h2 g rr (bo_T_fr (ff_h2 17 (by decide) (Or.inl (by decide))) hT) hO hZ (gm_C_fr (ff_h2 15 (by decide) (Or.inl (by decide))) (ff_h2 18 (by decide) (Or.inl (by decide))) (ff_h2 19 (by decide) (Or.inl (by decide))) (ff_h2 20 (by decide) (Or.inl (by decide))) (ff_h2 21 (by decide) (Or.inl (by decide))) hG) (c := (sp_ch sp_pr (fun c => sp_fy T c Z) xn 4096).2) (E := 2147483647) cc_ (by decide) (by decide)) mo_G_faulty mi_G_faulty ml_W_300 rfl (by decide) rfl rfl rfl (Nat.le_of_ble_eq_true rfl) de_W_cheat_48 (fun v_ M_ hK_ hl_ hv_ => ?_)
            obtain ⟨rfl, hm_⟩ := hK_
            have hm_ := hm_.symm
            subst hm_
            change ab_G _ _ _ _ _ _ _ [(3, .int (nI (sp_ch sp_pr (fun c => sp_fy T c Z) xn 4096).2)), (0, .ref 0), (1, .int (nI xn)), (2, .int y)] [.int (nI (if sp_fy T (sp_ch sp_pr (fun c => sp_fy T c Z) xn 4096).2 Z < 2147483647 then sp_fy T (sp_ch sp_pr (fun c => sp_fy T c Z) xn 4096).2 Z else 2147483647))] (ab_S nr h2 g rr) _
            refine ab_goto (tgt := 55) de_W_cheat_51 rfl ?_
            exact ab_ret (v := some (.int (nI (if sp_fy T (sp_ch sp_pr (fun c => sp_fy T c Z) xn 4096).2 Z < 2147483647 then sp_fy T (sp_ch sp_pr (fun c => sp_fy T c Z) xn 4096).2 Z else 2147483647)))) de_W_cheat_55 ⟨_, rfl⟩ ⟨_, _, (by unfold fx_W_cheat; try simp only [ab_tn (show xn < 2 ^ 31 by omega)]; rw [if_neg c_2_1, if_neg c_8_2, if_neg c_12_3, if_pos c_17_4, if_pos c_37_5]), rfl, kk_h2, ff_h2⟩
        · refine ab_aload_n de_W_cheat_20 0 rfl ?_
          refine ab_bipush (v := -6) de_W_cheat_21 rfl ?_
          refine ab_cV (as := [.int (-6 : Int32)]) (st := []) (ct_W_refuse l _ nr h g rr (r := (-6 : Int32)) (k := 6) (by decide) (by decide)) mo_W_refuse mi_W_refuse ml_W_88 rfl (by decide) rfl rfl rfl (Nat.le_of_ble_eq_true rfl) de_W_cheat_23 (fun v_ M_ hK_ hl_ hv_ => ?_)
          obtain ⟨rfl, hm_⟩ := hK_
          have hm_ := hm_.symm
          subst hm_
          change ab_G _ _ _ _ _ _ _ [(0, .ref 0), (1, .int (nI xn)), (2, .int y)] [.int (-6 : Int32)] (ab_S nr (ab_u2 h 28 6 (h 28 6 + 1)) g rr) _
          exact ab_ret (v := some (.int (-6 : Int32))) de_W_cheat_26 ⟨_, rfl⟩ ⟨_, _, (by unfold fx_W_cheat; try simp only [ab_tn (show xn < 2 ^ 31 by omega)]; rw [if_neg c_2_1, if_neg c_8_2, if_neg c_12_3, if_neg c_17_4]), rfl, kp_28 kk_h _ _, fr_28 ff_h _⟩
