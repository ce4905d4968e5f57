/-! WhatGame: acts, the image, games -/
theorem ru_13 {nr n : Nat} {q cs : Nat → Nat} {h : Nat → Nat → Int32} {rr : Nat → Option Nat} (hR : ru_ok nr n q cs h rr) (j : Nat) (x : Int32) : ru_ok nr n q cs (ab_u2 h 13 j x) rr := by
  intro k hk
  have := hR k hk
  rw [ab_u2_k (by omega), ab_u2_k (by omega), ab_u2_k (by omega), ab_u2_k (by omega)]
  exact this
def fx_W_act (n_ : Nat) (cs : Nat → Nat) (x y z : Int32) : Option Value × List Int32 :=
  if 0 ≤ x ∧ x < nI n_ then
    if y < 0 then
      (some (.int (0 : Int32)), [])
    else
      if y ≤ (2 : Int32) then
        if y = 0 then
          (some (.int (sp_go (nI (sp_kd (cs (x.toNatClampNeg)))) (nI (x.toNatClampNeg)) z)), sp_gob (nI (sp_kd (cs (x.toNatClampNeg)))))
        else
          if y = (1 : Int32) then
            (some (.int (sp_le (nI (sp_kd (cs (x.toNatClampNeg)))) (nI (x.toNatClampNeg)) (nI (sp_pr (cs (x.toNatClampNeg)))) z)), sp_leb (nI (sp_kd (cs (x.toNatClampNeg)))))
          else
            (some (.int (sp_ed (nI (sp_kd (cs (x.toNatClampNeg)))) (nI (x.toNatClampNeg)) (nI (sp_pr (cs (x.toNatClampNeg)))) z)), sp_edb (nI (sp_kd (cs (x.toNatClampNeg)))))
      else
        (some (.int (0 : Int32)), [])
  else
    (some (.int (0 : Int32)), [])
set_option maxHeartbeats 1000000 in
set_option maxRecDepth 10000 in
theorem ct_W_act (l : Launch) (d : Nat) (nr : Nat) (h : Nat → Nat → Int32) (g : Nat → Nat → Int64) (rr : Nat → Option Nat) {n_ : Nat} (hn8 : n_ ≤ 8) (hR0 : h 0 4 = nI n_) {q cs : Nat → Nat} (hR : ru_ok nr n_ q cs h rr) (x y z : Int32) : ab_C l am_W_act (d + 7) 0 0 [.ref 0, .int x, .int y, .int z] (ab_S nr h g rr) (fun r_ M' => ∃ h', M' = ab_S nr h' g rr ∧ (∀ a, a ≠ 13 → h' a = h a) ∧ ∃ bs, tr_ok h' bs ∧ (r_, bs) = fx_W_act n_ cs x y z) := by
  have tr0_ : tr_ok (ab_u2 h 13 0 (0 : Int32)) [] := ⟨ab_u2_at, fun i b e => by cases e⟩
  refine ab_C_of (by decide +kernel) rfl (Nat.le_of_ble_eq_true rfl) ?_
  refine ab_aload_n de_W_act_0 0 rfl ?_
  refine ab_get (v := .ref 13) fl_W_34 rfl rfl de_W_act_1 ?_
  refine ab_iconst (v := 0) de_W_act_4 rfl ?_
  refine ab_iconst (v := 0) de_W_act_5 rfl ?_
  refine ab_iast (x := 13) rfl (show vp_in (nI 0) _ from ab_in (by decide) (by decide)) de_W_act_6 ?_
  rw [show (0 : Int32).toNatClampNeg = 0 from rfl]
  change ab_G _ _ _ _ _ _ _ _ _ (ab_S nr (ab_u2 h 13 0 (0 : Int32)) g rr) _
  refine ab_aload_n de_W_act_7 0 rfl ?_
  refine ab_iload_n de_W_act_8 1 rfl ?_
  by_cases c_9_1 : 0 ≤ x ∧ x < nI n_
  · obtain ⟨jn, hjn, ej⟩ := sp_bt_n (N := n_) (by omega) (Int32.not_lt.mpr c_9_1.1) c_9_1.2
    have ejn : (x).toNatClampNeg = jn := by rw [ej]; exact ab_tn (by omega)
    refine ab_cV (as := [.int x]) (st := []) (ct_W_ruleAt_t l _ nr (ab_u2 h 13 0 (0 : Int32)) g rr ((ab_u2_k (by decide)).trans hR0) hn8 (ru_13 hR _ _) hjn ej) mo_W_ruleAt mi_W_ruleAt ml_W_115 rfl (by decide) rfl rfl rfl (Nat.le_of_ble_eq_true rfl) de_W_act_9 (fun v_ M_ hK_ hl_ hv_ => ?_)
    obtain ⟨rfl, hm_⟩ := hK_
    have hm_ := hm_.symm
    subst hm_
    change ab_G _ _ _ _ _ _ _ [(0, .ref 0), (1, .int x), (2, .int y), (3, .int z)] [.ref (51 + q jn)] (ab_S nr (ab_u2 h 13 0 (0 : Int32)) g rr) _
    refine ab_astore (L' := [(4, .ref (51 + q jn)), (0, .ref 0), (1, .int x), (2, .int y), (3, .int z)]) de_W_act_12 (by decide) rfl ?_
    refine ab_aload de_W_act_14 0 rfl ?_
    refine ab_ifnull_r de_W_act_16 ?_
    refine ab_iload_n de_W_act_19 3 rfl ?_
    refine ab_if_lt (tgt := 28) de_W_act_20 rfl (fun c_20_2 => ?_) (fun c_20_2 => ?_)
    · refine ab_iconst (v := 0) de_W_act_28 rfl ?_
      exact ab_ret (v := some (.int (0 : Int32))) de_W_act_29 ⟨_, rfl⟩ ⟨_, rfl, fun a ha => ab_u2_row ha, [], tr0_, (by unfold fx_W_act; try simp only [ejn]; rw [if_pos c_9_1, if_pos c_20_2]; try rfl)⟩
    · refine ab_iload_n de_W_act_23 3 rfl ?_
      refine ab_iconst (v := 2) de_W_act_24 rfl ?_
      refine ab_icmp_le (tgt := 30) de_W_act_25 rfl (fun c_25_3 => ?_) (fun c_25_3 => ?_)
      · refine ab_iload_n de_W_act_30 3 rfl ?_
        refine ab_if_ne (tgt := 41) de_W_act_31 rfl (fun c_31_4 => ?_) (fun c_31_4 => ?_)
        · refine ab_iload_n de_W_act_41 3 rfl ?_
          refine ab_iconst (v := 1) de_W_act_42 rfl ?_
          refine ab_icmp_ne (tgt := 55) de_W_act_43 rfl (fun c_43_5 => ?_) (fun c_43_5 => ?_)
          · refine ab_aload de_W_act_55 0 rfl ?_
            refine ab_iload_n de_W_act_57 4 rfl ?_
            refine ab_cV (as := [.int z]) (st := []) (ct_R_ends l _ nr (ab_u2 h 13 0 (0 : Int32)) g rr (hR jn hjn).1 tr0_ (by decide) ((ab_u2_k (by omega)).trans (hR jn hjn).2.2.1) ((ab_u2_k (by omega)).trans (hR jn hjn).2.2.2.2.1) ((ab_u2_k (by omega)).trans (hR jn hjn).2.2.2.2.2.1) z) mo_R_ends mi_R_ends ml_W_318 (ab_rk (hR _ hjn).1) (by decide) rfl rfl rfl (Nat.le_of_ble_eq_true rfl) de_W_act_58 (fun v_ M_ hK_ hl_ hv_ => ?_)
            obtain ⟨rfl, he, rfl, ta1, ta2⟩ := hK_
            change ab_G _ _ _ _ _ _ _ [(4, .ref (51 + q jn)), (0, .ref 0), (1, .int x), (2, .int y), (3, .int z)] [.int (sp_ed (nI (sp_kd (cs jn))) (nI jn) (nI (sp_pr (cs jn))) z)] (ab_S nr he g rr) _
            exact ab_ret (v := some (.int (sp_ed (nI (sp_kd (cs jn))) (nI jn) (nI (sp_pr (cs jn))) z))) de_W_act_61 ⟨_, rfl⟩ ⟨_, rfl, fun a ha => (ta1 a ha).trans (ab_u2_row ha), _, ta2, (by unfold fx_W_act; try simp only [ejn]; rw [if_pos c_9_1, if_neg c_20_2, if_pos c_25_3, if_neg c_31_4, if_neg c_43_5]; try rfl)⟩
          · refine ab_aload de_W_act_46 0 rfl ?_
            refine ab_iload_n de_W_act_48 4 rfl ?_
            refine ab_cV (as := [.int z]) (st := []) (ct_R_lets l _ nr (ab_u2 h 13 0 (0 : Int32)) g rr (hR jn hjn).1 tr0_ (by decide) ((ab_u2_k (by omega)).trans (hR jn hjn).2.2.1) ((ab_u2_k (by omega)).trans (hR jn hjn).2.2.2.2.1) ((ab_u2_k (by omega)).trans (hR jn hjn).2.2.2.2.2.1) z) mo_R_lets mi_R_lets ml_W_315 (ab_rk (hR _ hjn).1) (by decide) rfl rfl rfl (Nat.le_of_ble_eq_true rfl) de_W_act_49 (fun v_ M_ hK_ hl_ hv_ => ?_)
            obtain ⟨rfl, hl, rfl, ta1, ta2⟩ := hK_
            change ab_G _ _ _ _ _ _ _ [(4, .ref (51 + q jn)), (0, .ref 0), (1, .int x), (2, .int y), (3, .int z)] [.int (sp_le (nI (sp_kd (cs jn))) (nI jn) (nI (sp_pr (cs jn))) z)] (ab_S nr hl g rr) _
            refine ab_goto (tgt := 61) de_W_act_52 rfl ?_
            exact ab_ret (v := some (.int (sp_le (nI (sp_kd (cs jn))) (nI jn) (nI (sp_pr (cs jn))) z))) de_W_act_61 ⟨_, rfl⟩ ⟨_, rfl, fun a ha => (ta1 a ha).trans (ab_u2_row ha), _, ta2, (by unfold fx_W_act; try simp only [ejn]; rw [if_pos c_9_1, if_neg c_20_2, if_pos c_25_3, if_neg c_31_4, if_pos c_43_5]; try rfl)⟩
        · refine ab_aload de_W_act_34 0 rfl ?_
          refine ab_iload_n de_W_act_36 4 rfl ?_
          refine ab_cV (as := [.int z]) (st := []) (ct_R_goes l _ nr (ab_u2 h 13 0 (0 : Int32)) g rr (hR jn hjn).1 tr0_ (by decide) ((ab_u2_k (by omega)).trans (hR jn hjn).2.2.1) ((ab_u2_k (by omega)).trans (hR jn hjn).2.2.2.2.1) ((ab_u2_k (by omega)).trans (hR jn hjn).2.2.2.2.2.1) z) mo_R_goes mi_R_goes ml_W_312 (ab_rk (hR _ hjn).1) (by decide) rfl rfl rfl (Nat.le_of_ble_eq_true rfl) de_W_act_37 (fun v_ M_ hK_ hl_ hv_ => ?_)
          obtain ⟨rfl, hg, rfl, ta1, ta2⟩ := hK_
          change ab_G _ _ _ _ _ _ _ [(4, .ref (51 + q jn)), (0, .ref 0), (1, .int x), (2, .int y), (3, .int z)] [.int (sp_go (nI (sp_kd (cs jn))) (nI jn) z)] (ab_S nr hg g rr) _
          exact ab_ret (v := some (.int (sp_go (nI (sp_kd (cs jn))) (nI jn) z))) de_W_act_40 ⟨_, rfl⟩ ⟨_, rfl, fun a ha => (ta1 a ha).trans (ab_u2_row ha), _, ta2, (by unfold fx_W_act; try simp only [ejn]; rw [if_pos c_9_1, if_neg c_20_2, if_pos c_25_3, if_pos c_31_4]; try rfl)⟩
      · refine ab_iconst (v := 0) de_W_act_28 rfl ?_
        exact ab_ret (v := some (.int (0 : Int32))) de_W_act_29 ⟨_, rfl⟩ ⟨_, rfl, fun a ha => ab_u2_row ha, [], tr0_, (by unfold fx_W_act; try simp only [ejn]; rw [if_pos c_9_1, if_neg c_20_2, if_neg c_25_3]; try rfl)⟩
  · refine ab_cV (as := [.int x]) (st := []) (ct_W_ruleAt_f l _ nr (ab_u2 h 13 0 (0 : Int32)) g rr ((ab_u2_k (by decide)).trans hR0) hn8 c_9_1) mo_W_ruleAt mi_W_ruleAt ml_W_115 rfl (by decide) rfl rfl rfl (Nat.le_of_ble_eq_true rfl) de_W_act_9 (fun v_ M_ hK_ hl_ hv_ => ?_)
    obtain ⟨rfl, hm_⟩ := hK_
    have hm_ := hm_.symm
    subst hm_
    change ab_G _ _ _ _ _ _ _ [(0, .ref 0), (1, .int x), (2, .int y), (3, .int z)] [.null] (ab_S nr (ab_u2 h 13 0 (0 : Int32)) g rr) _
    refine ab_astore0 (L' := [(4, .null), (0, .ref 0), (1, .int x), (2, .int y), (3, .int z)]) de_W_act_12 (by decide) rfl ?_
    refine ab_aload0 de_W_act_14 0 rfl ?_
    refine ab_ifnull_0 (tgt := 28) de_W_act_16 rfl ?_
    refine ab_iconst (v := 0) de_W_act_28 rfl ?_
    exact ab_ret (v := some (.int (0 : Int32))) de_W_act_29 ⟨_, rfl⟩ ⟨_, rfl, fun a ha => ab_u2_row ha, [], tr0_, (by unfold fx_W_act; rw [if_neg c_9_1]; try rfl)⟩
def fx_W_image (nr : Nat) (h : Nat → Nat → Int32) (g : Nat → Nat → Int64) (rr : Nat → Option Nat)    : Option Value × ab_Me :=
  (some (.int (h 15 5)), (ab_S nr (ab_u2 (ab_u2 (ab_u2 (ab_cpy (ab_u2 h 0 12 (1 : Int32)) 17 29 0 0 36) 0 14 (h 0 10)) 0 15 (h 0 4)) 0 16 (h 15 5)) g rr))
set_option maxHeartbeats 1000000 in
set_option maxRecDepth 10000 in
theorem ct_W_image (l : Launch) (d : Nat) (nr : Nat) (h : Nat → Nat → Int32) (g : Nat → Nat → Int64) (rr : Nat → Option Nat)    : ab_C l am_W_image (d + 1) 0 0 [.ref 0] (ab_S nr h g rr) (fun r_ M' => (r_, M') = fx_W_image nr h g rr ) := by
  refine ab_C_of (by decide +kernel) rfl (Nat.le_of_ble_eq_true rfl) ?_
  refine ab_aload_n de_W_image_0 0 rfl ?_
  refine ab_iconst (v := 1) de_W_image_1 rfl ?_
  refine ab_putI (x := 0) (j := 12) fl_W_62 rfl (Or.inr rfl) rfl rfl rfl de_W_image_2 ?_
  change ab_G _ _ _ _ _ _ _ _ _ (ab_S nr (ab_u2 h 0 12 (1 : Int32)) g rr) _
  refine ab_aload_n de_W_image_5 0 rfl ?_
  refine ab_get (v := .ref 16) fl_W_55 rfl rfl de_W_image_6 ?_
  refine ab_get (v := .ref 17) fl_W_321 rfl rfl de_W_image_9 ?_
  refine ab_iconst (v := 0) de_W_image_12 rfl ?_
  refine ab_aload_n de_W_image_13 0 rfl ?_
  refine ab_get (v := .ref 29) fl_W_66 rfl rfl de_W_image_14 ?_
  refine ab_iconst (v := 0) de_W_image_17 rfl ?_
  refine ab_aload_n de_W_image_18 0 rfl ?_
  refine ab_get (v := .ref 29) fl_W_66 rfl rfl de_W_image_19 ?_
  refine ab_alen (v := 36) rfl rfl de_W_image_22 ?_
  refine ab_cpi (ab_w1 216 rfl rfl) rfl rfl (by decide) (by decide) (by decide) (by decide) (by decide) (Nat.le_of_ble_eq_true rfl) de_W_image_23 ?_
  rw [show (0 : Int32).toNatClampNeg = 0 from rfl, show (36 : Int32).toNatClampNeg = 36 from rfl]
  change ab_G _ _ _ _ _ _ _ [(0, .ref 0)] [] (ab_S nr (ab_cpy (ab_u2 h 0 12 (1 : Int32)) 17 29 0 0 36) g rr) _
  refine ab_aload_n de_W_image_26 0 rfl ?_
  refine ab_aload_n de_W_image_27 0 rfl ?_
  refine ab_get (v := .int ((ab_cpy (ab_u2 h 0 12 (1 : Int32)) 17 29 0 0 36) 0 10)) fl_W_56 rfl rfl de_W_image_28 ?_
  refine ab_top (v' := h 0 10) (rfl) ?_
  refine ab_putI (x := 0) (j := 14) fl_W_69 rfl (Or.inl rfl) rfl rfl rfl de_W_image_31 ?_
  change ab_G _ _ _ _ _ _ _ _ _ (ab_S nr (ab_u2 (ab_cpy (ab_u2 h 0 12 (1 : Int32)) 17 29 0 0 36) 0 14 (h 0 10)) g rr) _
  refine ab_aload_n de_W_image_34 0 rfl ?_
  refine ab_aload_n de_W_image_35 0 rfl ?_
  refine ab_get (v := .int ((ab_u2 (ab_cpy (ab_u2 h 0 12 (1 : Int32)) 17 29 0 0 36) 0 14 (h 0 10)) 0 4)) fl_W_27 rfl rfl de_W_image_36 ?_
  refine ab_top (v' := h 0 4) (rfl) ?_
  refine ab_putI (x := 0) (j := 15) fl_W_72 rfl (Or.inl rfl) rfl rfl rfl de_W_image_39 ?_
  change ab_G _ _ _ _ _ _ _ _ _ (ab_S nr (ab_u2 (ab_u2 (ab_cpy (ab_u2 h 0 12 (1 : Int32)) 17 29 0 0 36) 0 14 (h 0 10)) 0 15 (h 0 4)) g rr) _
  refine ab_aload_n de_W_image_42 0 rfl ?_
  refine ab_aload_n de_W_image_43 0 rfl ?_
  refine ab_get (v := .ref 15) fl_W_48 rfl rfl de_W_image_44 ?_
  refine ab_get (v := .int ((ab_u2 (ab_u2 (ab_cpy (ab_u2 h 0 12 (1 : Int32)) 17 29 0 0 36) 0 14 (h 0 10)) 0 15 (h 0 4)) 15 5)) fl_W_227 rfl rfl de_W_image_47 ?_
  refine ab_top (v' := h 15 5) (rfl) ?_
  refine ab_putI (x := 0) (j := 16) fl_W_75 rfl (Or.inl rfl) rfl rfl rfl de_W_image_50 ?_
  change ab_G _ _ _ _ _ _ _ _ _ (ab_S nr (ab_u2 (ab_u2 (ab_u2 (ab_cpy (ab_u2 h 0 12 (1 : Int32)) 17 29 0 0 36) 0 14 (h 0 10)) 0 15 (h 0 4)) 0 16 (h 15 5)) g rr) _
  refine ab_aload_n de_W_image_53 0 rfl ?_
  refine ab_get (v := .int ((ab_u2 (ab_u2 (ab_u2 (ab_cpy (ab_u2 h 0 12 (1 : Int32)) 17 29 0 0 36) 0 14 (h 0 10)) 0 15 (h 0 4)) 0 16 (h 15 5)) 0 16)) fl_W_75 rfl rfl de_W_image_54 ?_
  refine ab_top (v' := h 15 5) (ab_u2_at) ?_
  exact ab_ret (v := some (.int (h 15 5))) de_W_image_57 ⟨_, rfl⟩ (by unfold fx_W_image; rfl)
set_option maxHeartbeats 1000000 in
set_option maxRecDepth 10000 in
theorem ct_W_restore_0 (l : Launch) (d : Nat) (nr : Nat) (h : Nat → Nat → Int32) (g : Nat → Nat → Int64) (rr : Nat → Option Nat) (hi0 : h 0 12 = 0) : ab_C l am_W_restore (d + 2) 0 0 [.ref 0] (ab_S nr h g rr) (fun (r_ : Option Value) (M' : ab_Me) => r_ = some (.int (-6 : Int32)) ∧ M' = (ab_S nr (ab_u2 h 28 6 (h 28 6 + 1)) g rr)) := by
  refine ab_C_of (by decide +kernel) rfl (Nat.le_of_ble_eq_true rfl) ?_
  refine ab_aload_n de_W_restore_0 0 rfl ?_
  refine ab_get (v := .int (h 0 12)) fl_W_62 rfl rfl de_W_restore_1 ?_
  refine ab_top (v' := (0 : Int32)) (hi0) ?_
  refine ab_if_ne (tgt := 14) de_W_restore_4 rfl (fun c_4_1 => ?_) (fun c_4_1 => ?_)
  · exact absurd rfl c_4_1
  · refine ab_aload_n de_W_restore_7 0 rfl ?_
    refine ab_bipush (v := -6) de_W_restore_8 rfl ?_
    refine ab_cV (as := [.int (-6 : Int32)]) (st := []) (ct_W_refuse l _ nr h g rr (r := (-6 : Int32)) (k := 6) (by decide) (by decide)) mo_W_refuse mi_W_refuse ml_W_88 rfl (by decide) rfl rfl rfl (Nat.le_of_ble_eq_true rfl) de_W_restore_10 (fun v_ M_ hK_ hl_ hv_ => ?_)
    obtain ⟨rfl, hm_⟩ := hK_
    have hm_ := hm_.symm
    subst hm_
    change ab_G _ _ _ _ _ _ _ [(0, .ref 0)] [.int (-6 : Int32)] (ab_S nr (ab_u2 h 28 6 (h 28 6 + 1)) g rr) _
    exact ab_ret (v := some (.int (-6 : Int32))) de_W_restore_13 ⟨_, rfl⟩ ⟨rfl, rfl⟩
def rs_v (n : Nat) (x : Int32) : Int32 := if x < 100 ∧ ¬ (0 ≤ x ∧ x < nI n) then -1 else x
def rs_M (h : Nat → Nat → Int32) : Nat → Nat → Int32 := ab_u2 (ab_u2 (ab_u2 (ab_u2 (ab_u2 (ab_u2 (ab_cpy h 29 17 0 0 36) 0 10 (h 0 14)) 0 4 (h 0 15)) 15 5 (h 0 16)) 14 9 (0 : Int32)) 14 10 (-1 : Int32)) 14 11 (-1 : Int32)
set_option maxHeartbeats 1000000 in
set_option maxRecDepth 10000 in
theorem lp_W_restore (l : Launch) (d : Nat) (nr : Nat) (h : Nat → Nat → Int32) (g : Nat → Nat → Int64) (rr : Nat → Option Nat) {n_ : Nat} (hR0 : h 0 4 = nI n_) : ∀ (fu_ s : Nat) (hh : Nat → Nat → Int32), s ≤ 8 → 8 < s + fu_ → (∀ a, a ≠ 1 → hh a = h a) → (∀ e, e < 8 → hh 1 e = if e < s then rs_v n_ (h 1 e) else h 1 e) → ab_G l none am_W_restore (d + 1) 0 0 71 [(0, .ref 0), (1, .int (nI s))] [] (ab_S nr hh g rr) (fun (r_ : Option Value) (M' : ab_Me) => r_ = some (.int (h 0 16)) ∧ ∃ h', M' = ab_S nr h' g rr ∧ (∀ a, a ≠ 1 → h' a = h a) ∧ ∀ s, s < 8 → h' 1 s = rs_v n_ (h 1 s)) := by
  intro fu_
  induction fu_ with
  | zero => intro s hh h1 h2; omega
  | succ fu_ ih =>
    intro s hh hN_ hn_ hf0_ hf1
    refine ab_iload_n de_W_restore_71 1 rfl ?_
    refine ab_bipush (v := 8) de_W_restore_72 rfl ?_
    refine ab_icmp_ge (tgt := 114) de_W_restore_74 rfl (fun c_74_1 => ?_) (fun c_74_1 => ?_)
    · have hs := ab_le_of (n := 8) (by decide) (by omega) rfl c_74_1
      refine ab_aload_n de_W_restore_114 0 rfl ?_
      refine ab_get (v := .int (hh 0 16)) fl_W_75 rfl rfl de_W_restore_115 ?_
      exact ab_ret (v := some (.int (hh 0 16))) de_W_restore_118 ⟨_, rfl⟩ ⟨congrArg (fun z => some (Value.int z)) (congrFun (hf0_ 0 (by decide)) 16), hh, rfl, hf0_, fun e he => by rw [hf1 e he, if_pos (by omega)]⟩
    · have hs := ab_nle_of (n := 8) (by decide) (by omega) rfl c_74_1
      refine ab_aload_n de_W_restore_77 0 rfl ?_
      refine ab_get (v := .ref 1) fl_W_9 rfl rfl de_W_restore_78 ?_
      refine ab_iload_n de_W_restore_81 1 rfl ?_
      refine ab_iald (v := hh 1 s) rfl (ab_in (by omega) (by decide)) (ab_hv (ab_tn (n := s) (by omega))) de_W_restore_82 ?_
      refine ab_top (v' := h 1 s) ((hf1 s hs).trans (if_neg (Nat.lt_irrefl _))) ?_
      refine ab_bipush (v := 100) de_W_restore_83 rfl ?_
      refine ab_icmp_ge (tgt := 108) de_W_restore_85 rfl (fun c_85_2 => ?_) (fun c_85_2 => ?_)
      · refine ab_iinc (v := nI (s + 1)) (L' := [(1, .int (nI (s + 1))), (0, .ref 0)]) de_W_restore_108 1 rfl (by rw [show Int32.ofInt 1 = nI 1 from rfl, ab_add]) (by decide) rfl ?_
        refine ab_goto (tgt := 71) de_W_restore_111 rfl ?_
        refine ab_sub (L' := [(0, .ref 0), (1, .int (nI (s + 1)))]) [1, 0] rfl ?_
        exact ih (s + 1) hh (by omega) (by omega) (hf0_) (fun e he => by
          rw [hf1 e he]
          by_cases q : e = s
          · subst q; rw [if_neg (Nat.lt_irrefl _), if_pos (by omega)]; unfold rs_v; rw [if_neg (fun z => absurd z.1 (Int32.not_lt.mpr c_85_2))]
          · by_cases z : e < s
            · rw [if_pos z, if_pos (by omega)]
            · rw [if_neg z, if_neg (by omega)])
      · refine ab_aload_n de_W_restore_88 0 rfl ?_
        refine ab_aload_n de_W_restore_89 0 rfl ?_
        refine ab_get (v := .ref 1) fl_W_9 rfl rfl de_W_restore_90 ?_
        refine ab_iload_n de_W_restore_93 1 rfl ?_
        refine ab_iald (v := hh 1 s) rfl (ab_in (by omega) (by decide)) (ab_hv (ab_tn (n := s) (by omega))) de_W_restore_94 ?_
        refine ab_top (v' := h 1 s) ((hf1 s hs).trans (if_neg (Nat.lt_irrefl _))) ?_
        refine ab_cV (as := [.int (h 1 s)]) (st := []) (ct_W_isRule l _ nr hh g rr ((congrFun (hf0_ 0 (by decide)) 4).trans hR0) (h 1 s)) mo_W_isRule mi_W_isRule ml_W_112 rfl (by decide) rfl rfl rfl (Nat.le_of_ble_eq_true rfl) de_W_restore_95 (fun v_ M_ hK_ hl_ hv_ => ?_)
        obtain ⟨rfl, hm_⟩ := hK_
        have hm_ := hm_.symm
        subst hm_
        change ab_G _ _ _ _ _ _ _ [(0, .ref 0), (1, .int (nI s))] [.int (ab_bz (decide (0 ≤ h 1 s ∧ h 1 s < nI n_)))] (ab_S nr hh g rr) _
        refine ab_if_ne (tgt := 108) de_W_restore_98 rfl (fun c_98_3 => ?_) (fun c_98_3 => ?_)
        · refine ab_iinc (v := nI (s + 1)) (L' := [(1, .int (nI (s + 1))), (0, .ref 0)]) de_W_restore_108 1 rfl (by rw [show Int32.ofInt 1 = nI 1 from rfl, ab_add]) (by decide) rfl ?_
          refine ab_goto (tgt := 71) de_W_restore_111 rfl ?_
          refine ab_sub (L' := [(0, .ref 0), (1, .int (nI (s + 1)))]) [1, 0] rfl ?_
          exact ih (s + 1) hh (by omega) (by omega) (hf0_) (fun e he => by
            rw [hf1 e he]
            by_cases q : e = s
            · subst q; rw [if_neg (Nat.lt_irrefl _), if_pos (by omega)]; unfold rs_v; rw [if_neg (fun z => z.2 (of_decide_eq_true ((ab_bz1 _).mp c_98_3)))]
            · by_cases z : e < s
              · rw [if_pos z, if_pos (by omega)]
              · rw [if_neg z, if_neg (by omega)])
        · refine ab_aload_n de_W_restore_101 0 rfl ?_
          refine ab_get (v := .ref 1) fl_W_9 rfl rfl de_W_restore_102 ?_
          refine ab_iload_n de_W_restore_105 1 rfl ?_
          refine ab_iconst (v := -1) de_W_restore_106 rfl ?_
          refine ab_iast (x := 1) rfl (ab_in (by omega) (by decide)) de_W_restore_107 ?_
          rw [(ab_tn (n := s) (by omega))]
          change ab_G _ _ _ _ _ _ _ _ _ (ab_S nr (ab_u2 hh 1 s (-1 : Int32)) g rr) _
          refine ab_iinc (v := nI (s + 1)) (L' := [(1, .int (nI (s + 1))), (0, .ref 0)]) de_W_restore_108 1 rfl (by rw [show Int32.ofInt 1 = nI 1 from rfl, ab_add]) (by decide) rfl ?_
          refine ab_goto (tgt := 71) de_W_restore_111 rfl ?_
          refine ab_sub (L' := [(0, .ref 0), (1, .int (nI (s + 1)))]) [1, 0] rfl ?_
          exact ih (s + 1) (ab_u2 hh 1 s (-1 : Int32)) (by omega) (by omega) (fun a ha => by rw [ab_u2_row ha]; exact hf0_ a ha) (fun e he => by
            by_cases q : e = s
            · subst q; rw [ab_u2_at, if_pos (by omega)]; unfold rs_v; rw [if_pos ⟨Int32.not_le.mp c_85_2, of_decide_eq_false ((ab_bz0 _).mp c_98_3)⟩]
            · rw [ab_u2_ne (fun z => q z.2), hf1 e he]
              by_cases z : e < s
              · rw [if_pos z, if_pos (by omega)]
              · rw [if_neg z, if_neg (by omega)])
set_option maxHeartbeats 1000000 in
set_option maxRecDepth 10000 in
theorem ct_W_restore_1 (l : Launch) (d : Nat) (nr : Nat) (h : Nat → Nat → Int32) (g : Nat → Nat → Int64) (rr : Nat → Option Nat) (hi0 : h 0 12 = 1) {n_ : Nat} (hi15 : h 0 15 = nI n_) : ab_C l am_W_restore (d + 1) 0 0 [.ref 0] (ab_S nr h g rr) (fun (r_ : Option Value) (M' : ab_Me) => r_ = some (.int (h 0 16)) ∧ ∃ h', M' = ab_S nr h' g rr ∧ (∀ a, a ≠ 1 → h' a = rs_M h a) ∧ ∀ s, s < 8 → h' 1 s = rs_v n_ (h 1 s)) := by
  refine ab_C_of (by decide +kernel) rfl (Nat.le_of_ble_eq_true rfl) ?_
  refine ab_aload_n de_W_restore_0 0 rfl ?_
  refine ab_get (v := .int (h 0 12)) fl_W_62 rfl rfl de_W_restore_1 ?_
  refine ab_top (v' := (1 : Int32)) (hi0) ?_
  refine ab_if_ne (tgt := 14) de_W_restore_4 rfl (fun c_4_1 => ?_) (fun c_4_1 => ?_)
  · refine ab_aload_n de_W_restore_14 0 rfl ?_
    refine ab_get (v := .ref 29) fl_W_66 rfl rfl de_W_restore_15 ?_
    refine ab_iconst (v := 0) de_W_restore_18 rfl ?_
    refine ab_aload_n de_W_restore_19 0 rfl ?_
    refine ab_get (v := .ref 16) fl_W_55 rfl rfl de_W_restore_20 ?_
    refine ab_get (v := .ref 17) fl_W_321 rfl rfl de_W_restore_23 ?_
    refine ab_iconst (v := 0) de_W_restore_26 rfl ?_
    refine ab_aload_n de_W_restore_27 0 rfl ?_
    refine ab_get (v := .ref 29) fl_W_66 rfl rfl de_W_restore_28 ?_
    refine ab_alen (v := 36) rfl rfl de_W_restore_31 ?_
    refine ab_cpi (ab_w1 216 rfl rfl) rfl rfl (by decide) (by decide) (by decide) (by decide) (by decide) (Nat.le_of_ble_eq_true rfl) de_W_restore_32 ?_
    rw [show (0 : Int32).toNatClampNeg = 0 from rfl, show (36 : Int32).toNatClampNeg = 36 from rfl]
    change ab_G _ _ _ _ _ _ _ [(0, .ref 0)] [] (ab_S nr (ab_cpy h 29 17 0 0 36) g rr) _
    refine ab_aload_n de_W_restore_35 0 rfl ?_
    refine ab_aload_n de_W_restore_36 0 rfl ?_
    refine ab_get (v := .int ((ab_cpy h 29 17 0 0 36) 0 14)) fl_W_69 rfl rfl de_W_restore_37 ?_
    refine ab_top (v' := h 0 14) (rfl) ?_
    refine ab_putI (x := 0) (j := 10) fl_W_56 rfl (Or.inl rfl) rfl rfl rfl de_W_restore_40 ?_
    change ab_G _ _ _ _ _ _ _ _ _ (ab_S nr (ab_u2 (ab_cpy h 29 17 0 0 36) 0 10 (h 0 14)) g rr) _
    refine ab_aload_n de_W_restore_43 0 rfl ?_
    refine ab_aload_n de_W_restore_44 0 rfl ?_
    refine ab_get (v := .int ((ab_u2 (ab_cpy h 29 17 0 0 36) 0 10 (h 0 14)) 0 15)) fl_W_72 rfl rfl de_W_restore_45 ?_
    refine ab_top (v' := h 0 15) (rfl) ?_
    refine ab_putI (x := 0) (j := 4) fl_W_27 rfl (Or.inl rfl) rfl rfl rfl de_W_restore_48 ?_
    change ab_G _ _ _ _ _ _ _ _ _ (ab_S nr (ab_u2 (ab_u2 (ab_cpy h 29 17 0 0 36) 0 10 (h 0 14)) 0 4 (h 0 15)) g rr) _
    refine ab_aload_n de_W_restore_51 0 rfl ?_
    refine ab_get (v := .ref 15) fl_W_48 rfl rfl de_W_restore_52 ?_
    refine ab_aload_n de_W_restore_55 0 rfl ?_
    refine ab_get (v := .int ((ab_u2 (ab_u2 (ab_cpy h 29 17 0 0 36) 0 10 (h 0 14)) 0 4 (h 0 15)) 0 16)) fl_W_75 rfl rfl de_W_restore_56 ?_
    refine ab_top (v' := h 0 16) (rfl) ?_
    refine ab_putI (x := 15) (j := 5) fl_W_227 rfl (Or.inl rfl) rfl rfl rfl de_W_restore_59 ?_
    change ab_G _ _ _ _ _ _ _ _ _ (ab_S nr (ab_u2 (ab_u2 (ab_u2 (ab_cpy h 29 17 0 0 36) 0 10 (h 0 14)) 0 4 (h 0 15)) 15 5 (h 0 16)) g rr) _
    refine ab_aload_n de_W_restore_62 0 rfl ?_
    refine ab_get (v := .ref 14) fl_W_40 rfl rfl de_W_restore_63 ?_
    refine ab_cV (as := []) (st := []) (ct_F_forget l _ nr (ab_u2 (ab_u2 (ab_u2 (ab_cpy h 29 17 0 0 36) 0 10 (h 0 14)) 0 4 (h 0 15)) 15 5 (h 0 16)) g rr) mo_F_forget mi_F_forget ml_W_146 rfl (by decide) rfl rfl rfl (Nat.le_of_ble_eq_true rfl) de_W_restore_66 (fun v_ M_ hK_ hl_ hv_ => ?_)
    obtain ⟨rfl, hm_⟩ := hK_
    have hm_ := hm_.symm
    subst hm_
    change ab_G _ _ _ _ _ _ _ [(0, .ref 0)] [] (ab_S nr (ab_u2 (ab_u2 (ab_u2 (ab_u2 (ab_u2 (ab_u2 (ab_cpy h 29 17 0 0 36) 0 10 (h 0 14)) 0 4 (h 0 15)) 15 5 (h 0 16)) 14 9 (0 : Int32)) 14 10 (-1 : Int32)) 14 11 (-1 : Int32)) g rr) _
    refine ab_iconst (v := 0) de_W_restore_69 rfl ?_
    refine ab_istore_n (L' := [(1, .int (0 : Int32)), (0, .ref 0)]) de_W_restore_70 (by decide) rfl ?_
    refine ab_sub (L' := [(0, .ref 0), (1, .int (nI 0))]) [1, 0] rfl ?_
    exact lp_W_restore l d nr (rs_M h) g rr (n_ := n_) hi15 9 0 _ (by omega) (by omega) (fun _ _ => rfl) (fun e he => by rw [if_neg (Nat.not_lt_zero e)]; rfl)
  · exact absurd c_4_1 (by decide)
set_option maxHeartbeats 1000000 in
set_option maxRecDepth 10000 in
theorem ct_W_asInt (l : Launch) (d : Nat) (nr : Nat) (h : Nat → Nat → Int32) (g : Nat → Nat → Int64) (rr : Nat → Option Nat) {s i : Nat} (hs : s < 8) (hi : i < 60) : ab_C l am_W_asInt d 0 0 [.ref 0, .int (nI s), .int (nI i)] (ab_S nr h g rr) (fun (r_ : Option Value) (M' : ab_Me) => r_ = some (.int ((g (4 + s) i).toInt32)) ∧ M' = (ab_S nr h g rr)) := by
  refine ab_C_of (by decide +kernel) rfl (Nat.le_of_ble_eq_true rfl) ?_
  refine ab_aload_n de_W_asInt_0 0 rfl ?_
  refine ab_get (v := .ref 3) fl_W_18 rfl rfl de_W_asInt_1 ?_
  refine ab_iload_n de_W_asInt_4 1 rfl ?_
  refine ab_rald (v := .ref (4 + s)) rfl (ab_in (by omega) (by decide)) (ab_r3 (by omega)) de_W_asInt_5 ?_
  refine ab_iload_n de_W_asInt_6 2 rfl ?_
  refine ab_lald (v := g (4 + s) i) (ab_rk4 (j := s) (by omega)) (ab_in (by omega) (by decide)) (ab_gv (ab_tn (n := i) (by omega))) de_W_asInt_7 ?_
  refine ab_l2i de_W_asInt_8 rfl ?_
  exact ab_ret (v := some (.int ((g (4 + s) i).toInt32))) de_W_asInt_9 ⟨_, rfl⟩ ⟨rfl, rfl⟩
def sp_bs (g : Nat → Nat → Int64) (s p : Nat) : Bool := decide ((g (4 + s) p).toInt32 < 0) || decide (2 < (g (4 + s) p).toInt32)
def sp_gw (g : Nat → Nat → Int64) (s p : Nat) : Nat := (g (4 + s) p).toInt32.toNatClampNeg
/-- the points whose value is v, of the first n -/
def sp_mk (w : Nat → Nat) (v n : Nat) : Nat := sp_or (fun j => if w j = v then 2 ^ j else 0) n
theorem sp_mk_bit (w : Nat → Nat) (v j : Nat) : ∀ n, (sp_mk w v n).testBit j = (decide (j < n) && decide (w j = v))
  | 0 => by rw [show sp_mk w v 0 = 0 from rfl, Nat.zero_testBit, decide_eq_false (Nat.not_lt_zero j)]; rfl
  | n + 1 => by
    show (sp_mk w v n ||| (if w n = v then 2 ^ n else 0)).testBit j = _
    rw [Nat.testBit_or, sp_mk_bit w v j n]
    by_cases e : j = n
    · subst e
      by_cases hv : w j = v
      · rw [if_pos hv, Nat.testBit_two_pow]; simp [hv]
      · rw [if_neg hv]; simp [hv]
    · have h1 : (if w n = v then 2 ^ n else 0).testBit j = false := by
        split
        · rw [Nat.testBit_two_pow]; exact decide_eq_false (fun z => e z.symm)
        · exact Nat.zero_testBit j
      rw [h1, Bool.or_false]
      congr 1
      exact decide_eq_decide.mpr ⟨fun z => by omega, fun z => by omega⟩
theorem sp_mk_lt (w : Nat → Nat) (v : Nat) {n : Nat} (hn : n ≤ 12) : sp_mk w v n < 4096 := by
  refine sp_or_lt (w := 12) (fun j hj => ?_)
  split
  · exact Nat.pow_lt_pow_right (by decide) (by omega)
  · decide
theorem sp_mk_s (w : Nat → Nat) (v : Nat) {n : Nat} (hn : n < 12) : (if w n = v then sp_set (sp_mk w v n) n else sp_clr (sp_mk w v n) n) = sp_mk w v (n + 1) := by
  have hb : (sp_mk w v n).testBit n = false := by rw [sp_mk_bit, decide_eq_false (Nat.lt_irrefl n)]; rfl
  show _ = sp_mk w v n ||| (if w n = v then 2 ^ n else 0)
  split
  · rfl
  · rw [sp_clr_no (sp_mk_lt w v (by omega)) hb, Nat.or_zero]
theorem sp_bs_w {g : Nat → Nat → Int64} {s : Nat} (h : sp_any (sp_bs g s) 12 = false) {p : Nat} (hp : p < 12) : sp_gw g s p < 3 ∧ (g (4 + s) p).toInt32 = nI (sp_gw g s p) := by
  have h1 := (sp_any_no _ _).mp h p hp
  unfold sp_bs at h1
  rw [Bool.or_eq_false_iff, decide_eq_false_iff_not, decide_eq_false_iff_not] at h1
  obtain ⟨n, hn, e⟩ := sp_bt2_n (N := 2) (by decide) h1.1 (Int32.not_lt.mp h1.2)
  unfold sp_gw
  rw [e, ab_tn (by omega)]
  exact ⟨by omega, rfl⟩
theorem sp_wv0 {w : Nat} (h : w < 3) : sp_wv w 0 = w := by
  rcases (by omega : w = 0 ∨ w = 1 ∨ w = 2) with rfl | rfl | rfl <;> rfl
theorem sp_mk_dj (w : Nat → Nat) (n : Nat) : sp_dj (sp_mk w 1 n) (sp_mk w 2 n) := by
  intro p
  rw [sp_mk_bit, sp_mk_bit]
  simp
  intro _ h1 _ h2
  omega
set_option maxHeartbeats 1000000 in
set_option maxRecDepth 10000 in
theorem lp_W_isStart (l : Launch) (d : Nat) (nr : Nat) (h : Nat → Nat → Int32) (g : Nat → Nat → Int64) (rr : Nat → Option Nat) {s : Nat} (hs : s < 8) : ∀ (fu_ p : Nat), p ≤ 12 → 12 < p + fu_ → (∀ j, j < p → sp_bs g s j = false) → ab_G l none am_W_isStart (d + 1) 0 0 2 [(0, .ref 0), (1, .int (nI s)), (2, .int (nI p))] [] (ab_S nr h g rr) (fun (r_ : Option Value) (M' : ab_Me) => r_ = some (.int (ab_bz (!sp_any (sp_bs g s) 12))) ∧ M' = (ab_S nr h g rr)) := by
  intro fu_
  induction fu_ with
  | zero => intro p  h1 h2; omega
  | succ fu_ ih =>
    intro p  hN_ hn_ hf0_
    refine ab_iload_n de_W_isStart_2 2 rfl ?_
    refine ab_bipush (v := 12) de_W_isStart_3 rfl ?_
    refine ab_icmp_ge (tgt := 32) de_W_isStart_5 rfl (fun c_5_1 => ?_) (fun c_5_1 => ?_)
    · have hp := ab_le_of (n := 12) (by decide) (by omega) rfl c_5_1
      refine ab_iconst (v := 1) de_W_isStart_32 rfl ?_
      exact ab_ret (v := some (.int (1 : Int32))) de_W_isStart_33 ⟨_, rfl, rfl⟩ ⟨congrArg (fun z => some (Value.int z)) (ab_bz_t (by rw [(sp_any_no _ _).mpr (fun j hj => hf0_ j (by omega))]; rfl)), rfl⟩
    · have hp := ab_nle_of (n := 12) (by decide) (by omega) rfl c_5_1
      refine ab_aload_n de_W_isStart_8 0 rfl ?_
      refine ab_iload_n de_W_isStart_9 1 rfl ?_
      refine ab_iload_n de_W_isStart_10 2 rfl ?_
      refine ab_cV (as := [.int (nI s), .int (nI p)]) (st := []) (ct_W_asInt l _ nr h g rr (s := s) (i := p) (by omega) (by omega)) mo_W_asInt mi_W_asInt ml_W_264 rfl (by decide) rfl rfl rfl (Nat.le_of_ble_eq_true rfl) de_W_isStart_11 (fun v_ M_ hK_ hl_ hv_ => ?_)
      obtain ⟨rfl, hm_⟩ := hK_
      have hm_ := hm_.symm
      subst hm_
      change ab_G _ _ _ _ _ _ _ [(0, .ref 0), (1, .int (nI s)), (2, .int (nI p))] [.int ((g (4 + s) p).toInt32)] (ab_S nr h g rr) _
      refine ab_istore_n (L' := [(3, .int ((g (4 + s) p).toInt32)), (0, .ref 0), (1, .int (nI s)), (2, .int (nI p))]) de_W_isStart_14 (by decide) rfl ?_
      refine ab_iload_n de_W_isStart_15 0 rfl ?_
      refine ab_if_lt (tgt := 24) de_W_isStart_16 rfl (fun c_16_2 => ?_) (fun c_16_2 => ?_)
      · refine ab_iconst (v := 0) de_W_isStart_24 rfl ?_
        exact ab_ret (v := some (.int (0 : Int32))) de_W_isStart_25 ⟨_, rfl, rfl⟩ ⟨congrArg (fun z => some (Value.int z)) (ab_bz_f (by rw [(sp_any_iff _ _).mpr ⟨p, hp, by unfold sp_bs; rw [decide_eq_true c_16_2]; rfl⟩]; rfl)), rfl⟩
      · refine ab_iload_n de_W_isStart_19 0 rfl ?_
        refine ab_iconst (v := 2) de_W_isStart_20 rfl ?_
        refine ab_icmp_le (tgt := 26) de_W_isStart_21 rfl (fun c_21_3 => ?_) (fun c_21_3 => ?_)
        · refine ab_iinc (v := nI (p + 1)) (L' := [(2, .int (nI (p + 1))), (3, .int ((g (4 + s) p).toInt32)), (0, .ref 0), (1, .int (nI s))]) de_W_isStart_26 3 rfl (by rw [show Int32.ofInt 1 = nI 1 from rfl, ab_add]) (by decide) rfl ?_
          refine ab_goto (tgt := 2) de_W_isStart_29 rfl ?_
          refine ab_sub (L' := [(0, .ref 0), (1, .int (nI s)), (2, .int (nI (p + 1)))]) [2, 3, 0] rfl ?_
          exact ih (p + 1)  (by omega) (by omega) (fun j hj => by
            by_cases e : j = p
            · subst e; unfold sp_bs; rw [decide_eq_false c_16_2, decide_eq_false (Int32.not_lt.mpr c_21_3)]; rfl
            · exact hf0_ j (by omega))
        · refine ab_iconst (v := 0) de_W_isStart_24 rfl ?_
          exact ab_ret (v := some (.int (0 : Int32))) de_W_isStart_25 ⟨_, rfl, rfl⟩ ⟨congrArg (fun z => some (Value.int z)) (ab_bz_f (by rw [(sp_any_iff _ _).mpr ⟨p, hp, by unfold sp_bs; rw [decide_eq_true (Int32.not_le.mp c_21_3), Bool.or_true]⟩]; rfl)), rfl⟩
set_option maxHeartbeats 1000000 in
set_option maxRecDepth 10000 in
theorem ct_W_isStart (l : Launch) (d : Nat) (nr : Nat) (h : Nat → Nat → Int32) (g : Nat → Nat → Int64) (rr : Nat → Option Nat) {s : Nat} (hs : s < 8) : ab_C l am_W_isStart (d + 1) 0 0 [.ref 0, .int (nI s)] (ab_S nr h g rr) (fun (r_ : Option Value) (M' : ab_Me) => r_ = some (.int (ab_bz (!sp_any (sp_bs g s) 12))) ∧ M' = (ab_S nr h g rr)) := by
  refine ab_C_of (by decide +kernel) rfl (Nat.le_of_ble_eq_true rfl) ?_
  refine ab_iconst (v := 0) de_W_isStart_0 rfl ?_
  refine ab_istore_n (L' := [(2, .int (0 : Int32)), (0, .ref 0), (1, .int (nI s))]) de_W_isStart_1 (by decide) rfl ?_
  refine ab_sub (L' := [(0, .ref 0), (1, .int (nI s)), (2, .int (nI 0))]) [1, 2, 0] rfl ?_
  exact lp_W_isStart l d nr h g rr hs 13 0 (by omega) (by omega) (fun j hj => absurd hj (Nat.not_lt_zero j))
set_option maxHeartbeats 1000000 in
set_option maxRecDepth 10000 in
theorem lp_W_areMoves (l : Launch) (d : Nat) (nr : Nat) (h : Nat → Nat → Int32) (g : Nat → Nat → Int64) (rr : Nat → Option Nat) {s n : Nat} (hs : s < 8) (hn : n ≤ 60) : ∀ (fu_ k : Nat), k ≤ n → n < k + fu_ → (∀ j, j < k → (fun k => !sp_im (g (4 + s) k).toInt32) j = false) → ab_G l none am_W_areMoves (d + 2) 0 0 2 [(0, .ref 0), (1, .int (nI s)), (2, .int (nI n)), (3, .int (nI k))] [] (ab_S nr h g rr) (fun (r_ : Option Value) (M' : ab_Me) => r_ = some (.int (ab_bz (!sp_any (fun k => !sp_im (g (4 + s) k).toInt32) n))) ∧ M' = (ab_S nr h g rr)) := by
  intro fu_
  induction fu_ with
  | zero => intro k  h1 h2; omega
  | succ fu_ ih =>
    intro k  hN_ hn_ hf0_
    refine ab_iload_n de_W_areMoves_2 3 rfl ?_
    refine ab_iload_n de_W_areMoves_3 2 rfl ?_
    refine ab_icmp_ge (tgt := 27) de_W_areMoves_4 rfl (fun c_4_1 => ?_) (fun c_4_1 => ?_)
    · have hk := (ab_le (by omega) (by omega)).mp c_4_1
      refine ab_iconst (v := 1) de_W_areMoves_27 rfl ?_
      exact ab_ret (v := some (.int (1 : Int32))) de_W_areMoves_28 ⟨_, rfl, rfl⟩ ⟨congrArg (fun z => some (Value.int z)) (ab_bz_t (by rw [(sp_any_no _ _).mpr (fun j hj => hf0_ j (by omega))]; rfl)), rfl⟩
    · have hk := Nat.lt_of_not_le (fun z_ => c_4_1 ((ab_le (by omega) (by omega)).mpr z_))
      refine ab_aload_n de_W_areMoves_7 0 rfl ?_
      refine ab_iload_n de_W_areMoves_8 1 rfl ?_
      refine ab_iload_n de_W_areMoves_9 3 rfl ?_
      refine ab_cV (as := [.int (nI s), .int (nI k)]) (st := []) (ct_W_asInt l _ nr h g rr (s := s) (i := k) (by omega) (by omega)) mo_W_asInt mi_W_asInt ml_W_264 rfl (by decide) rfl rfl rfl (Nat.le_of_ble_eq_true rfl) de_W_areMoves_10 (fun v_ M_ hK_ hl_ hv_ => ?_)
      obtain ⟨rfl, hm_⟩ := hK_
      have hm_ := hm_.symm
      subst hm_
      change ab_G _ _ _ _ _ _ _ [(0, .ref 0), (1, .int (nI s)), (2, .int (nI n)), (3, .int (nI k))] [.int ((g (4 + s) k).toInt32)] (ab_S nr h g rr) _
      refine ab_cS (as := [.int ((g (4 + s) k).toInt32)]) (st := []) (ct_B_isMove l _ (ab_S nr h g rr) ((g (4 + s) k).toInt32)) mo_B_isMove ms_B_isMove ml_W_202 rfl rfl (Nat.le_of_ble_eq_true rfl) de_W_areMoves_13 (fun v_ M_ hK_ hl_ hv_ => ?_)
      obtain ⟨rfl, hm_⟩ := hK_
      have hm_ := hm_.symm
      subst hm_
      change ab_G _ _ _ _ _ _ _ [(0, .ref 0), (1, .int (nI s)), (2, .int (nI n)), (3, .int (nI k))] [.int (ab_bz (sp_im ((g (4 + s) k).toInt32)))] (ab_S nr h g rr) _
      refine ab_if_ne (tgt := 21) de_W_areMoves_16 rfl (fun c_16_2 => ?_) (fun c_16_2 => ?_)
      · refine ab_iinc (v := nI (k + 1)) (L' := [(3, .int (nI (k + 1))), (0, .ref 0), (1, .int (nI s)), (2, .int (nI n))]) de_W_areMoves_21 3 rfl (by rw [show Int32.ofInt 1 = nI 1 from rfl, ab_add]) (by decide) rfl ?_
        refine ab_goto (tgt := 2) de_W_areMoves_24 rfl ?_
        refine ab_sub (L' := [(0, .ref 0), (1, .int (nI s)), (2, .int (nI n)), (3, .int (nI (k + 1)))]) [1, 2, 3, 0] rfl ?_
        exact ih (k + 1)  (by omega) (by omega) (fun j hj => by
          by_cases e : j = k
          · subst e; show (!sp_im (g (4 + s) j).toInt32) = false; rw [(ab_bz1 _).mp c_16_2]; rfl
          · exact hf0_ j (by omega))
      · refine ab_iconst (v := 0) de_W_areMoves_19 rfl ?_
        exact ab_ret (v := some (.int (0 : Int32))) de_W_areMoves_20 ⟨_, rfl, rfl⟩ ⟨congrArg (fun z => some (Value.int z)) (ab_bz_f (by rw [(sp_any_iff _ _).mpr ⟨k, hk, by show (!sp_im (g (4 + s) k).toInt32) = true; rw [(ab_bz0 _).mp c_16_2]; rfl⟩]; rfl)), rfl⟩
set_option maxHeartbeats 1000000 in
set_option maxRecDepth 10000 in
theorem ct_W_areMoves (l : Launch) (d : Nat) (nr : Nat) (h : Nat → Nat → Int32) (g : Nat → Nat → Int64) (rr : Nat → Option Nat) {s n : Nat} (hs : s < 8) (hn : n ≤ 60) : ab_C l am_W_areMoves (d + 2) 0 0 [.ref 0, .int (nI s), .int (nI n)] (ab_S nr h g rr) (fun (r_ : Option Value) (M' : ab_Me) => r_ = some (.int (ab_bz (!sp_any (fun k => !sp_im (g (4 + s) k).toInt32) n))) ∧ M' = (ab_S nr h g rr)) := by
  refine ab_C_of (by decide +kernel) rfl (Nat.le_of_ble_eq_true rfl) ?_
  refine ab_iconst (v := 0) de_W_areMoves_0 rfl ?_
  refine ab_istore_n (L' := [(3, .int (0 : Int32)), (0, .ref 0), (1, .int (nI s)), (2, .int (nI n))]) de_W_areMoves_1 (by decide) rfl ?_
  refine ab_sub (L' := [(0, .ref 0), (1, .int (nI s)), (2, .int (nI n)), (3, .int (nI 0))]) [1, 2, 3, 0] rfl ?_
  exact lp_W_areMoves l d nr h g rr hs hn (n + 1) 0 (by omega) (by omega) (fun j hj => absurd hj (Nat.not_lt_zero j))
set_option maxHeartbeats 1000000 in
set_option maxRecDepth 10000 in
theorem lp_W_startIn (l : Launch) (d : Nat) (nr : Nat) (h : Nat → Nat → Int32) (g : Nat → Nat → Int64) (rr : Nat → Option Nat) {s : Nat} (hs : s < 8) (hst : sp_any (sp_bs g s) 12 = false) : ∀ (fu_ p : Nat), p ≤ 12 → 12 < p + fu_ → ab_G l none am_W_startIn (d + 1) 0 0 4 [(0, .ref 0), (1, .int (nI s)), (2, .int (nI (sp_en (sp_mk (sp_gw g s) 1 p) (sp_mk (sp_gw g s) 2 p) 0))), (3, .int (nI p))] [] (ab_S nr h g rr) (fun (r_ : Option Value) (M' : ab_Me) => r_ = some (.int (nI (sp_en (sp_mk (sp_gw g s) 1 12) (sp_mk (sp_gw g s) 2 12) 0))) ∧ M' = (ab_S nr h g rr)) := by
  intro fu_
  induction fu_ with
  | zero => intro p  h1 h2; omega
  | succ fu_ ih =>
    intro p  hN_ hn_ 
    refine ab_iload_n de_W_startIn_4 3 rfl ?_
    refine ab_bipush (v := 12) de_W_startIn_5 rfl ?_
    refine ab_icmp_ge (tgt := 28) de_W_startIn_7 rfl (fun c_7_1 => ?_) (fun c_7_1 => ?_)
    · have hp := ab_le_of (n := 12) (by decide) (by omega) rfl c_7_1
      refine ab_iload_n de_W_startIn_28 2 rfl ?_
      exact ab_ret (v := some (.int (nI (sp_en (sp_mk (sp_gw g s) 1 p) (sp_mk (sp_gw g s) 2 p) 0)))) de_W_startIn_29 ⟨_, rfl⟩ ⟨congrArg (fun z => some (Value.int z)) (by rw [show p = 12 by omega]), rfl⟩
    · have hp := ab_nle_of (n := 12) (by decide) (by omega) rfl c_7_1
      have bs_ := sp_bs_w hst hp
      refine ab_iload_n de_W_startIn_10 2 rfl ?_
      refine ab_iload_n de_W_startIn_11 3 rfl ?_
      refine ab_aload_n de_W_startIn_12 0 rfl ?_
      refine ab_iload_n de_W_startIn_13 1 rfl ?_
      refine ab_iload_n de_W_startIn_14 3 rfl ?_
      refine ab_cV (as := [.int (nI s), .int (nI p)]) (st := [.int (nI p), .int (nI (sp_en (sp_mk (sp_gw g s) 1 p) (sp_mk (sp_gw g s) 2 p) 0))]) (ct_W_asInt l _ nr h g rr (s := s) (i := p) (by omega) (by omega)) mo_W_asInt mi_W_asInt ml_W_264 rfl (by decide) rfl rfl rfl (Nat.le_of_ble_eq_true rfl) de_W_startIn_15 (fun v_ M_ hK_ hl_ hv_ => ?_)
      obtain ⟨rfl, hm_⟩ := hK_
      have hm_ := hm_.symm
      subst hm_
      change ab_G _ _ _ _ _ _ _ [(0, .ref 0), (1, .int (nI s)), (2, .int (nI (sp_en (sp_mk (sp_gw g s) 1 p) (sp_mk (sp_gw g s) 2 p) 0))), (3, .int (nI p))] [.int ((g (4 + s) p).toInt32), .int (nI p), .int (nI (sp_en (sp_mk (sp_gw g s) 1 p) (sp_mk (sp_gw g s) 2 p) 0))] (ab_S nr h g rr) _
      refine ab_top (v' := nI (sp_wv (sp_gw g s p) 0)) (by rw [sp_wv0 bs_.1]; exact bs_.2) ?_
      refine ab_cS (as := [.int (nI (sp_en (sp_mk (sp_gw g s) 1 p) (sp_mk (sp_gw g s) 2 p) 0)), .int (nI p), .int (nI (sp_wv (sp_gw g s p) 0))]) (st := []) (ct_B_with l _ (ab_S nr h g rr) (m := sp_mk (sp_gw g s) 1 p) (i := sp_mk (sp_gw g s) 2 p) (t := 0) (p := p) (w := sp_gw g s p) (sp_mk_lt _ _ (by omega)) (sp_mk_lt _ _ (by omega)) (by decide) hp bs_.1) mo_B_with ms_B_with ml_W_177 rfl rfl (Nat.le_of_ble_eq_true rfl) de_W_startIn_18 (fun v_ M_ hK_ hl_ hv_ => ?_)
      obtain ⟨rfl, hm_⟩ := hK_
      have hm_ := hm_.symm
      subst hm_
      change ab_G _ _ _ _ _ _ _ [(0, .ref 0), (1, .int (nI s)), (2, .int (nI (sp_en (sp_mk (sp_gw g s) 1 p) (sp_mk (sp_gw g s) 2 p) 0))), (3, .int (nI p))] [.int (nI (sp_en (if sp_gw g s p = 1 then sp_set (sp_mk (sp_gw g s) 1 p) p else sp_clr (sp_mk (sp_gw g s) 1 p) p) (if sp_gw g s p = 2 then sp_set (sp_mk (sp_gw g s) 2 p) p else sp_clr (sp_mk (sp_gw g s) 2 p) p) 0))] (ab_S nr h g rr) _
      refine ab_top (v' := nI (sp_en (sp_mk (sp_gw g s) 1 (p + 1)) (sp_mk (sp_gw g s) 2 (p + 1)) 0)) (by rw [sp_mk_s _ _ hp, sp_mk_s _ _ hp]) ?_
      refine ab_istore_n (L' := [(2, .int (nI (sp_en (sp_mk (sp_gw g s) 1 (p + 1)) (sp_mk (sp_gw g s) 2 (p + 1)) 0))), (0, .ref 0), (1, .int (nI s)), (3, .int (nI p))]) de_W_startIn_21 (by decide) rfl ?_
      refine ab_iinc (v := nI (p + 1)) (L' := [(3, .int (nI (p + 1))), (2, .int (nI (sp_en (sp_mk (sp_gw g s) 1 (p + 1)) (sp_mk (sp_gw g s) 2 (p + 1)) 0))), (0, .ref 0), (1, .int (nI s))]) de_W_startIn_22 3 rfl (by rw [show Int32.ofInt 1 = nI 1 from rfl, ab_add]) (by decide) rfl ?_
      refine ab_goto (tgt := 4) de_W_startIn_25 rfl ?_
      refine ab_sub (L' := [(0, .ref 0), (1, .int (nI s)), (2, .int (nI (sp_en (sp_mk (sp_gw g s) 1 (p + 1)) (sp_mk (sp_gw g s) 2 (p + 1)) 0))), (3, .int (nI (p + 1)))]) [2, 3, 1, 0] rfl ?_
      exact ih (p + 1)  (by omega) (by omega) 
set_option maxHeartbeats 1000000 in
set_option maxRecDepth 10000 in
theorem ct_W_startIn (l : Launch) (d : Nat) (nr : Nat) (h : Nat → Nat → Int32) (g : Nat → Nat → Int64) (rr : Nat → Option Nat) {s : Nat} (hs : s < 8) (hst : sp_any (sp_bs g s) 12 = false) : ab_C l am_W_startIn (d + 1) 0 0 [.ref 0, .int (nI s)] (ab_S nr h g rr) (fun (r_ : Option Value) (M' : ab_Me) => r_ = some (.int (nI (sp_en (sp_mk (sp_gw g s) 1 12) (sp_mk (sp_gw g s) 2 12) 0))) ∧ M' = (ab_S nr h g rr)) := by
  refine ab_C_of (by decide +kernel) rfl (Nat.le_of_ble_eq_true rfl) ?_
  refine ab_iconst (v := 0) de_W_startIn_0 rfl ?_
  refine ab_istore_n (L' := [(2, .int (0 : Int32)), (0, .ref 0), (1, .int (nI s))]) de_W_startIn_1 (by decide) rfl ?_
  refine ab_iconst (v := 0) de_W_startIn_2 rfl ?_
  refine ab_istore_n (L' := [(3, .int (0 : Int32)), (2, .int (0 : Int32)), (0, .ref 0), (1, .int (nI s))]) de_W_startIn_3 (by decide) rfl ?_
  refine ab_sub (L' := [(0, .ref 0), (1, .int (nI s)), (2, .int (nI (sp_en (sp_mk (sp_gw g s) 1 0) (sp_mk (sp_gw g s) 2 0) 0))), (3, .int (nI 0))]) [2, 3, 1, 0] rfl ?_
  exact lp_W_startIn l d nr h g rr hs hst 13 0 (by omega) (by omega)
def fx_W_game (nr : Nat) (h : Nat → Nat → Int32) (g : Nat → Nat → Int64) (rr : Nat → Option Nat) (zs : Nat → Nat) (Z : sp_G)  (s u x y : Int32) : Option Value × ab_Me :=
  if (fv_W_twoRowsRefusal h s u) = 0 then
    if 0 ≤ x then
      if (nI (zs s.toNatClampNeg)) < (12 : Int32) then
        (some (.int (-5 : Int32)), (ab_S nr (ab_u2 h 28 5 (h 28 5 + 1)) g rr))
      else
        if (nI (x.toNatClampNeg)) ≤ (nI (zs u.toNatClampNeg)) then
          if (20 : Int32) < (nI (x.toNatClampNeg)) then
            (some (.int (-6 : Int32)), (ab_S nr (ab_u2 h 28 6 (h 28 6 + 1)) g rr))
          else
            if y < (-1 : Int32) then
              (some (.int (-6 : Int32)), (ab_S nr (ab_u2 h 28 6 (h 28 6 + 1)) g rr))
            else
              if (1 : Int32) < y then
                (some (.int (-6 : Int32)), (ab_S nr (ab_u2 h 28 6 (h 28 6 + 1)) g rr))
              else
                if (ab_bz (!sp_any (sp_bs g s.toNatClampNeg) 12)) = 0 then
                  (some (.int (-6 : Int32)), (ab_S nr (ab_u2 h 28 6 (h 28 6 + 1)) g rr))
                else
                  if (ab_bz (!sp_any (fun k => !sp_im (g (4 + u.toNatClampNeg) k).toInt32) x.toNatClampNeg)) = 0 then
                    (some (.int (-6 : Int32)), (ab_S nr (ab_u2 h 28 6 (h 28 6 + 1)) g rr))
                  else
                    if (nI (gN Z)) < (6 : Int32) then
                      (some (.int (nI (gN Z))), (ab_S nr (ab_u2 (gm_w (ab_u2 (ab_u2 (ab_u2 h 14 9 (0 : Int32)) 14 10 (-1 : Int32)) 14 11 (-1 : Int32)) (gN Z) (nI (sp_en (sp_mk (sp_gw g s.toNatClampNeg) 1 12) (sp_mk (sp_gw g s.toNatClampNeg) 2 12) 0)) (nI (x.toNatClampNeg)) y (fun k => (g (4 + u.toNatClampNeg) k).toInt32) x.toNatClampNeg) 15 5 (nI (gN Z + 1))) g rr))
                    else
                      (some (.int (-7 : Int32)), (ab_S nr (ab_u2 h 28 7 (h 28 7 + 1)) g rr))
        else
          (some (.int (-5 : Int32)), (ab_S nr (ab_u2 h 28 5 (h 28 5 + 1)) g rr))
    else
      (some (.int (-4 : Int32)), (ab_S nr (ab_u2 h 28 4 (h 28 4 + 1)) g rr))
  else
    (some (.int (fv_W_twoRowsRefusal h s u)), (ab_S nr (ab_u2 h 28 (-(fv_W_twoRowsRefusal h s u)).toNatClampNeg (h 28 (-(fv_W_twoRowsRefusal h s u)).toNatClampNeg + 1)) g rr))
set_option maxHeartbeats 1000000 in
set_option maxRecDepth 10000 in
theorem ct_W_game (l : Launch) (d : Nat) (nr : Nat) (h : Nat → Nat → Int32) (g : Nat → Nat → Int64) (rr : Nat → Option Nat) {zs : Nat → Nat} (hzs : ∀ s, s < 8 → zs s ≤ 60 ∧ h 2 s = nI (zs s)) {Z : sp_G} (hZ : gm_ok Z) (hG : gm_C Z h)  (s u x y : Int32) : ab_C l am_W_game (d + 3) 0 0 [.ref 0, .int s, .int u, .int x, .int y] (ab_S nr h g rr) (fun r_ M' => (r_, M') = fx_W_game nr h g rr zs Z s u x y) := by
  refine ab_C_of (by decide +kernel) rfl (Nat.le_of_ble_eq_true rfl) ?_
  refine ab_aload_n de_W_game_0 0 rfl ?_
  refine ab_iload_n de_W_game_1 1 rfl ?_
  refine ab_iload_n de_W_game_2 2 rfl ?_
  refine ab_cV (as := [.int s, .int u]) (st := []) (ct_W_twoRowsRefusal l _ nr h g rr (s) (u)) mo_W_twoRowsRefusal mi_W_twoRowsRefusal ml_W_102 rfl (by decide) rfl rfl rfl (Nat.le_of_ble_eq_true rfl) de_W_game_3 (fun v_ M_ hK_ hl_ hv_ => ?_)
  obtain ⟨rfl, hm_⟩ := hK_
  have hm_ := hm_.symm
  subst hm_
  change ab_G _ _ _ _ _ _ _ [(0, .ref 0), (1, .int s), (2, .int u), (3, .int x), (4, .int y)] [.int (fv_W_twoRowsRefusal h s u)] (ab_S nr h g rr) _
  refine ab_istore (L' := [(5, .int (fv_W_twoRowsRefusal h s u)), (0, .ref 0), (1, .int s), (2, .int u), (3, .int x), (4, .int y)]) de_W_game_6 (by decide) rfl ?_
  refine ab_iload de_W_game_8 0 rfl ?_
  refine ab_if_eq (tgt := 20) de_W_game_10 rfl (fun c_10_1 => ?_) (fun c_10_1 => ?_)
  · obtain ⟨sn, hsn, rfl⟩ := rf_row0 (rf_two0 c_10_1).1
    have hz60 := (hzs sn (by omega)).1
    obtain ⟨un, hun, rfl⟩ := rf_row0 (rf_two0 c_10_1).2
    have hy60 := (hzs un (by omega)).1
    refine ab_iload_n de_W_game_20 4 rfl ?_
    refine ab_if_ge (tgt := 31) de_W_game_21 rfl (fun c_21_2 => ?_) (fun c_21_2 => ?_)
    · obtain ⟨xn, hxn, rfl⟩ := nn_n (Int32.not_lt.mpr c_21_2)
      refine ab_aload_n de_W_game_31 1 rfl ?_
      refine ab_get (v := .ref 2) fl_W_13 rfl rfl de_W_game_32 ?_
      refine ab_iload_n de_W_game_35 2 rfl ?_
      refine ab_iald (v := h 2 sn) rfl (ab_in (by omega) (by decide)) (ab_hv (ab_tn (n := sn) (by omega))) de_W_game_36 ?_
      refine ab_top (v' := nI (zs sn)) ((hzs sn (by omega)).2) ?_
      refine ab_bipush (v := 12) de_W_game_37 rfl ?_
      refine ab_icmp_lt (tgt := 52) de_W_game_39 rfl (fun c_39_3 => ?_) (fun c_39_3 => ?_)
      · refine ab_aload_n de_W_game_52 1 rfl ?_
        refine ab_bipush (v := -5) de_W_game_53 rfl ?_
        refine ab_cV (as := [.int (-5 : Int32)]) (st := []) (ct_W_refuse l _ nr h g rr (r := (-5 : Int32)) (k := 5) (by decide) (by decide)) mo_W_refuse mi_W_refuse ml_W_88 rfl (by decide) rfl rfl rfl (Nat.le_of_ble_eq_true rfl) de_W_game_55 (fun v_ M_ hK_ hl_ hv_ => ?_)
        obtain ⟨rfl, hm_⟩ := hK_
        have hm_ := hm_.symm
        subst hm_
        change ab_G _ _ _ _ _ _ _ [(5, .int (fv_W_twoRowsRefusal h (nI sn) (nI un))), (0, .ref 0), (1, .int (nI sn)), (2, .int (nI un)), (3, .int (nI xn)), (4, .int y)] [.int (-5 : Int32)] (ab_S nr (ab_u2 h 28 5 (h 28 5 + 1)) g rr) _
        exact ab_ret (v := some (.int (-5 : Int32))) de_W_game_58 ⟨_, rfl⟩ (by unfold fx_W_game; try simp only [ab_tn (show sn < 2 ^ 31 by omega), ab_tn (show un < 2 ^ 31 by omega), ab_tn (show xn < 2 ^ 31 by omega)]; rw [if_pos c_10_1, if_pos c_21_2, if_pos c_39_3])
      · refine ab_aload_n de_W_game_42 1 rfl ?_
        refine ab_get (v := .ref 2) fl_W_13 rfl rfl de_W_game_43 ?_
        refine ab_iload_n de_W_game_46 3 rfl ?_
        refine ab_iald (v := h 2 un) rfl (ab_in (by omega) (by decide)) (ab_hv (ab_tn (n := un) (by omega))) de_W_game_47 ?_
        refine ab_top (v' := nI (zs un)) ((hzs un (by omega)).2) ?_
        refine ab_iload_n de_W_game_48 4 rfl ?_
        refine ab_icmp_ge (tgt := 59) de_W_game_49 rfl (fun c_49_4 => ?_) (fun c_49_4 => ?_)
        · have hzu : xn ≤ zs un := (ab_le (by omega) (by omega)).mp c_49_4
          refine ab_iload_n de_W_game_59 4 rfl ?_
          refine ab_bipush (v := 20) de_W_game_60 rfl ?_
          refine ab_icmp_gt (tgt := 94) de_W_game_62 rfl (fun c_62_5 => ?_) (fun c_62_5 => ?_)
          · refine ab_aload_n de_W_game_94 1 rfl ?_
            refine ab_bipush (v := -6) de_W_game_95 rfl ?_
            refine ab_cV (as := [.int (-6 : Int32)]) (st := []) (ct_W_refuse l _ nr h g rr (r := (-6 : Int32)) (k := 6) (by decide) (by decide)) mo_W_refuse mi_W_refuse ml_W_88 rfl (by decide) rfl rfl rfl (Nat.le_of_ble_eq_true rfl) de_W_game_97 (fun v_ M_ hK_ hl_ hv_ => ?_)
            obtain ⟨rfl, hm_⟩ := hK_
            have hm_ := hm_.symm
            subst hm_
            change ab_G _ _ _ _ _ _ _ [(5, .int (fv_W_twoRowsRefusal h (nI sn) (nI un))), (0, .ref 0), (1, .int (nI sn)), (2, .int (nI un)), (3, .int (nI xn)), (4, .int y)] [.int (-6 : Int32)] (ab_S nr (ab_u2 h 28 6 (h 28 6 + 1)) g rr) _
            exact ab_ret (v := some (.int (-6 : Int32))) de_W_game_100 ⟨_, rfl⟩ (by unfold fx_W_game; try simp only [ab_tn (show sn < 2 ^ 31 by omega), ab_tn (show un < 2 ^ 31 by omega), ab_tn (show xn < 2 ^ 31 by omega)]; rw [if_pos c_10_1, if_pos c_21_2, if_neg c_39_3, if_pos c_49_4, if_pos c_62_5])
          · have hn20 : xn ≤ 20 := Nat.le_of_not_lt (fun z => c_62_5 ((ab_lt (a := 20) (by omega) (by omega)).mpr z))
            refine ab_iload de_W_game_65 5 rfl ?_
            refine ab_iconst (v := -1) de_W_game_67 rfl ?_
            refine ab_icmp_lt (tgt := 94) de_W_game_68 rfl (fun c_68_6 => ?_) (fun c_68_6 => ?_)
            · refine ab_aload_n de_W_game_94 1 rfl ?_
              refine ab_bipush (v := -6) de_W_game_95 rfl ?_
              refine ab_cV (as := [.int (-6 : Int32)]) (st := []) (ct_W_refuse l _ nr h g rr (r := (-6 : Int32)) (k := 6) (by decide) (by decide)) mo_W_refuse mi_W_refuse ml_W_88 rfl (by decide) rfl rfl rfl (Nat.le_of_ble_eq_true rfl) de_W_game_97 (fun v_ M_ hK_ hl_ hv_ => ?_)
              obtain ⟨rfl, hm_⟩ := hK_
              have hm_ := hm_.symm
              subst hm_
              change ab_G _ _ _ _ _ _ _ [(5, .int (fv_W_twoRowsRefusal h (nI sn) (nI un))), (0, .ref 0), (1, .int (nI sn)), (2, .int (nI un)), (3, .int (nI xn)), (4, .int y)] [.int (-6 : Int32)] (ab_S nr (ab_u2 h 28 6 (h 28 6 + 1)) g rr) _
              exact ab_ret (v := some (.int (-6 : Int32))) de_W_game_100 ⟨_, rfl⟩ (by unfold fx_W_game; try simp only [ab_tn (show sn < 2 ^ 31 by omega), ab_tn (show un < 2 ^ 31 by omega), ab_tn (show xn < 2 ^ 31 by omega)]; rw [if_pos c_10_1, if_pos c_21_2, if_neg c_39_3, if_pos c_49_4, if_neg c_62_5, if_pos c_68_6])
            · refine ab_iload de_W_game_71 5 rfl ?_
              refine ab_iconst (v := 1) de_W_game_73 rfl ?_
              refine ab_icmp_gt (tgt := 94) de_W_game_74 rfl (fun c_74_7 => ?_) (fun c_74_7 => ?_)
              · refine ab_aload_n de_W_game_94 1 rfl ?_
                refine ab_bipush (v := -6) de_W_game_95 rfl ?_
                refine ab_cV (as := [.int (-6 : Int32)]) (st := []) (ct_W_refuse l _ nr h g rr (r := (-6 : Int32)) (k := 6) (by decide) (by decide)) mo_W_refuse mi_W_refuse ml_W_88 rfl (by decide) rfl rfl rfl (Nat.le_of_ble_eq_true rfl) de_W_game_97 (fun v_ M_ hK_ hl_ hv_ => ?_)
                obtain ⟨rfl, hm_⟩ := hK_
                have hm_ := hm_.symm
                subst hm_
                change ab_G _ _ _ _ _ _ _ [(5, .int (fv_W_twoRowsRefusal h (nI sn) (nI un))), (0, .ref 0), (1, .int (nI sn)), (2, .int (nI un)), (3, .int (nI xn)), (4, .int y)] [.int (-6 : Int32)] (ab_S nr (ab_u2 h 28 6 (h 28 6 + 1)) g rr) _
                exact ab_ret (v := some (.int (-6 : Int32))) de_W_game_100 ⟨_, rfl⟩ (by unfold fx_W_game; try simp only [ab_tn (show sn < 2 ^ 31 by omega), ab_tn (show un < 2 ^ 31 by omega), ab_tn (show xn < 2 ^ 31 by omega)]; rw [if_pos c_10_1, if_pos c_21_2, if_neg c_39_3, if_pos c_49_4, if_neg c_62_5, if_neg c_68_6, if_pos c_74_7])
              · refine ab_aload_n de_W_game_77 1 rfl ?_
                refine ab_iload_n de_W_game_78 2 rfl ?_
                refine ab_cV (as := [.int (nI sn)]) (st := []) (ct_W_isStart l _ nr h g rr (s := sn) (by omega)) mo_W_isStart mi_W_isStart ml_W_220 rfl (by decide) rfl rfl rfl (Nat.le_of_ble_eq_true rfl) de_W_game_79 (fun v_ M_ hK_ hl_ hv_ => ?_)
                obtain ⟨rfl, hm_⟩ := hK_
                have hm_ := hm_.symm
                subst hm_
                change ab_G _ _ _ _ _ _ _ [(5, .int (fv_W_twoRowsRefusal h (nI sn) (nI un))), (0, .ref 0), (1, .int (nI sn)), (2, .int (nI un)), (3, .int (nI xn)), (4, .int y)] [.int (ab_bz (!sp_any (sp_bs g sn) 12))] (ab_S nr h g rr) _
                refine ab_if_eq (tgt := 94) de_W_game_82 rfl (fun c_82_8 => ?_) (fun c_82_8 => ?_)
                · refine ab_aload_n de_W_game_94 1 rfl ?_
                  refine ab_bipush (v := -6) de_W_game_95 rfl ?_
                  refine ab_cV (as := [.int (-6 : Int32)]) (st := []) (ct_W_refuse l _ nr h g rr (r := (-6 : Int32)) (k := 6) (by decide) (by decide)) mo_W_refuse mi_W_refuse ml_W_88 rfl (by decide) rfl rfl rfl (Nat.le_of_ble_eq_true rfl) de_W_game_97 (fun v_ M_ hK_ hl_ hv_ => ?_)
                  obtain ⟨rfl, hm_⟩ := hK_
                  have hm_ := hm_.symm
                  subst hm_
                  change ab_G _ _ _ _ _ _ _ [(5, .int (fv_W_twoRowsRefusal h (nI sn) (nI un))), (0, .ref 0), (1, .int (nI sn)), (2, .int (nI un)), (3, .int (nI xn)), (4, .int y)] [.int (-6 : Int32)] (ab_S nr (ab_u2 h 28 6 (h 28 6 + 1)) g rr) _
                  exact ab_ret (v := some (.int (-6 : Int32))) de_W_game_100 ⟨_, rfl⟩ (by unfold fx_W_game; try simp only [ab_tn (show sn < 2 ^ 31 by omega), ab_tn (show un < 2 ^ 31 by omega), ab_tn (show xn < 2 ^ 31 by omega)]; rw [if_pos c_10_1, if_pos c_21_2, if_neg c_39_3, if_pos c_49_4, if_neg c_62_5, if_neg c_68_6, if_neg c_74_7, if_pos c_82_8])
                · have st_ : sp_any (sp_bs g sn) 12 = false := by simpa using (ab_bz1 _).mp c_82_8
                  refine ab_aload_n de_W_game_85 1 rfl ?_
                  refine ab_iload_n de_W_game_86 3 rfl ?_
                  refine ab_iload_n de_W_game_87 4 rfl ?_
                  refine ab_cV (as := [.int (nI un), .int (nI xn)]) (st := []) (ct_W_areMoves l _ nr h g rr (s := un) (n := xn) (by omega) (by omega)) mo_W_areMoves mi_W_areMoves ml_W_223 rfl (by decide) rfl rfl rfl (Nat.le_of_ble_eq_true rfl) de_W_game_88 (fun v_ M_ hK_ hl_ hv_ => ?_)
                  obtain ⟨rfl, hm_⟩ := hK_
                  have hm_ := hm_.symm
                  subst hm_
                  change ab_G _ _ _ _ _ _ _ [(5, .int (fv_W_twoRowsRefusal h (nI sn) (nI un))), (0, .ref 0), (1, .int (nI sn)), (2, .int (nI un)), (3, .int (nI xn)), (4, .int y)] [.int (ab_bz (!sp_any (fun k => !sp_im (g (4 + un) k).toInt32) xn))] (ab_S nr h g rr) _
                  refine ab_if_ne (tgt := 101) de_W_game_91 rfl (fun c_91_9 => ?_) (fun c_91_9 => ?_)
                  · refine ab_aload_n de_W_game_101 1 rfl ?_
                    refine ab_get (v := .ref 15) fl_W_48 rfl rfl de_W_game_102 ?_
                    refine ab_get (v := .int (h 15 5)) fl_W_227 rfl rfl de_W_game_105 ?_
                    refine ab_top (v' := nI (gN Z)) (hG.1) ?_
                    refine ab_bipush (v := 6) de_W_game_108 rfl ?_
                    refine ab_icmp_lt (tgt := 120) de_W_game_110 rfl (fun c_110_10 => ?_) (fun c_110_10 => ?_)
                    · have gn6_ : gN Z < 6 := (ab_lt (by have := hZ.1; omega) (by decide)).mp c_110_10
                      refine ab_aload_n de_W_game_120 1 rfl ?_
                      refine ab_get (v := .ref 14) fl_W_40 rfl rfl de_W_game_121 ?_
                      refine ab_cV (as := []) (st := []) (ct_F_forget l _ nr h g rr) mo_F_forget mi_F_forget ml_W_146 rfl (by decide) rfl rfl rfl (Nat.le_of_ble_eq_true rfl) de_W_game_124 (fun v_ M_ hK_ hl_ hv_ => ?_)
                      obtain ⟨rfl, hm_⟩ := hK_
                      have hm_ := hm_.symm
                      subst hm_
                      change ab_G _ _ _ _ _ _ _ [(5, .int (fv_W_twoRowsRefusal h (nI sn) (nI un))), (0, .ref 0), (1, .int (nI sn)), (2, .int (nI un)), (3, .int (nI xn)), (4, .int y)] [] (ab_S nr (ab_u2 (ab_u2 (ab_u2 h 14 9 (0 : Int32)) 14 10 (-1 : Int32)) 14 11 (-1 : Int32)) g rr) _
                      refine ab_aload_n de_W_game_127 1 rfl ?_
                      refine ab_get (v := .ref 15) fl_W_48 rfl rfl de_W_game_128 ?_
                      refine ab_aload_n de_W_game_131 1 rfl ?_
                      refine ab_iload_n de_W_game_132 2 rfl ?_
                      refine ab_cV (as := [.int (nI sn)]) (st := [.ref 15]) (ct_W_startIn l _ nr (ab_u2 (ab_u2 (ab_u2 h 14 9 (0 : Int32)) 14 10 (-1 : Int32)) 14 11 (-1 : Int32)) g rr (s := sn) (by omega) st_) mo_W_startIn mi_W_startIn ml_W_230 rfl (by decide) rfl rfl rfl (Nat.le_of_ble_eq_true rfl) de_W_game_133 (fun v_ M_ hK_ hl_ hv_ => ?_)
                      obtain ⟨rfl, hm_⟩ := hK_
                      have hm_ := hm_.symm
                      subst hm_
                      change ab_G _ _ _ _ _ _ _ [(5, .int (fv_W_twoRowsRefusal h (nI sn) (nI un))), (0, .ref 0), (1, .int (nI sn)), (2, .int (nI un)), (3, .int (nI xn)), (4, .int y)] [.int (nI (sp_en (sp_mk (sp_gw g sn) 1 12) (sp_mk (sp_gw g sn) 2 12) 0)), .ref 15] (ab_S nr (ab_u2 (ab_u2 (ab_u2 h 14 9 (0 : Int32)) 14 10 (-1 : Int32)) 14 11 (-1 : Int32)) g rr) _
                      refine ab_aload_n de_W_game_136 1 rfl ?_
                      refine ab_get (v := .ref 3) fl_W_18 rfl rfl de_W_game_137 ?_
                      refine ab_iload_n de_W_game_140 3 rfl ?_
                      refine ab_rald (v := .ref (4 + un)) rfl (ab_in (by omega) (by decide)) (ab_r3 (by omega)) de_W_game_141 ?_
                      refine ab_iload_n de_W_game_142 4 rfl ?_
                      refine ab_iload de_W_game_143 5 rfl ?_
                      refine ab_cV (as := [.int (nI (sp_en (sp_mk (sp_gw g sn) 1 12) (sp_mk (sp_gw g sn) 2 12) 0)), .ref (4 + un), .int (nI xn), .int y]) (st := []) (ct_G_add l _ nr (ab_u2 (ab_u2 (ab_u2 h 14 9 (0 : Int32)) 14 10 (-1 : Int32)) 14 11 (-1 : Int32)) g rr (ng := gN Z) (t := un) (n := xn) (by rw [ab_u2_k (by decide), ab_u2_k (by decide), ab_u2_k (by decide)]; exact hG.1) gn6_ (by omega) hn20 (nI (sp_en (sp_mk (sp_gw g sn) 1 12) (sp_mk (sp_gw g sn) 2 12) 0)) y) mo_G_add mi_G_add ml_W_233 rfl (by decide) rfl rfl rfl (Nat.le_of_ble_eq_true rfl) de_W_game_145 (fun v_ M_ hK_ hl_ hv_ => ?_)
                      obtain ⟨rfl, hm_⟩ := hK_
                      have hm_ := hm_.symm
                      subst hm_
                      change ab_G _ _ _ _ _ _ _ [(5, .int (fv_W_twoRowsRefusal h (nI sn) (nI un))), (0, .ref 0), (1, .int (nI sn)), (2, .int (nI un)), (3, .int (nI xn)), (4, .int y)] [.int (nI (gN Z))] (ab_S nr (ab_u2 (gm_w (ab_u2 (ab_u2 (ab_u2 h 14 9 (0 : Int32)) 14 10 (-1 : Int32)) 14 11 (-1 : Int32)) (gN Z) (nI (sp_en (sp_mk (sp_gw g sn) 1 12) (sp_mk (sp_gw g sn) 2 12) 0)) (nI xn) y (fun k => (g (4 + un) k).toInt32) xn) 15 5 (nI (gN Z + 1))) g rr) _
                      exact ab_ret (v := some (.int (nI (gN Z)))) de_W_game_148 ⟨_, rfl⟩ (by unfold fx_W_game; try simp only [ab_tn (show sn < 2 ^ 31 by omega), ab_tn (show un < 2 ^ 31 by omega), ab_tn (show xn < 2 ^ 31 by omega)]; rw [if_pos c_10_1, if_pos c_21_2, if_neg c_39_3, if_pos c_49_4, if_neg c_62_5, if_neg c_68_6, if_neg c_74_7, if_neg c_82_8, if_neg c_91_9, if_pos c_110_10])
                    · refine ab_aload_n de_W_game_113 1 rfl ?_
                      refine ab_bipush (v := -7) de_W_game_114 rfl ?_
                      refine ab_cV (as := [.int (-7 : Int32)]) (st := []) (ct_W_refuse l _ nr h g rr (r := (-7 : Int32)) (k := 7) (by decide) (by decide)) mo_W_refuse mi_W_refuse ml_W_88 rfl (by decide) rfl rfl rfl (Nat.le_of_ble_eq_true rfl) de_W_game_116 (fun v_ M_ hK_ hl_ hv_ => ?_)
                      obtain ⟨rfl, hm_⟩ := hK_
                      have hm_ := hm_.symm
                      subst hm_
                      change ab_G _ _ _ _ _ _ _ [(5, .int (fv_W_twoRowsRefusal h (nI sn) (nI un))), (0, .ref 0), (1, .int (nI sn)), (2, .int (nI un)), (3, .int (nI xn)), (4, .int y)] [.int (-7 : Int32)] (ab_S nr (ab_u2 h 28 7 (h 28 7 + 1)) g rr) _
                      exact ab_ret (v := some (.int (-7 : Int32))) de_W_game_119 ⟨_, rfl⟩ (by unfold fx_W_game; try simp only [ab_tn (show sn < 2 ^ 31 by omega), ab_tn (show un < 2 ^ 31 by omega), ab_tn (show xn < 2 ^ 31 by omega)]; rw [if_pos c_10_1, if_pos c_21_2, if_neg c_39_3, if_pos c_49_4, if_neg c_62_5, if_neg c_68_6, if_neg c_74_7, if_neg c_82_8, if_neg c_91_9, if_neg c_110_10])
                  · refine ab_aload_n de_W_game_94 1 rfl ?_
                    refine ab_bipush (v := -6) de_W_game_95 rfl ?_
                    refine ab_cV (as := [.int (-6 : Int32)]) (st := []) (ct_W_refuse l _ nr h g rr (r := (-6 : Int32)) (k := 6) (by decide) (by decide)) mo_W_refuse mi_W_refuse ml_W_88 rfl (by decide) rfl rfl rfl (Nat.le_of_ble_eq_true rfl) de_W_game_97 (fun v_ M_ hK_ hl_ hv_ => ?_)
                    obtain ⟨rfl, hm_⟩ := hK_
                    have hm_ := hm_.symm
                    subst hm_
                    change ab_G _ _ _ _ _ _ _ [(5, .int (fv_W_twoRowsRefusal h (nI sn) (nI un))), (0, .ref 0), (1, .int (nI sn)), (2, .int (nI un)), (3, .int (nI xn)), (4, .int y)] [.int (-6 : Int32)] (ab_S nr (ab_u2 h 28 6 (h 28 6 + 1)) g rr) _
                    exact ab_ret (v := some (.int (-6 : Int32))) de_W_game_100 ⟨_, rfl⟩ (by unfold fx_W_game; try simp only [ab_tn (show sn < 2 ^ 31 by omega), ab_tn (show un < 2 ^ 31 by omega), ab_tn (show xn < 2 ^ 31 by omega)]; rw [if_pos c_10_1, if_pos c_21_2, if_neg c_39_3, if_pos c_49_4, if_neg c_62_5, if_neg c_68_6, if_neg c_74_7, if_neg c_82_8, if_pos c_91_9])
        · refine ab_aload_n de_W_game_52 1 rfl ?_
          refine ab_bipush (v := -5) de_W_game_53 rfl ?_
          refine ab_cV (as := [.int (-5 : Int32)]) (st := []) (ct_W_refuse l _ nr h g rr (r := (-5 : Int32)) (k := 5) (by decide) (by decide)) mo_W_refuse mi_W_refuse ml_W_88 rfl (by decide) rfl rfl rfl (Nat.le_of_ble_eq_true rfl) de_W_game_55 (fun v_ M_ hK_ hl_ hv_ => ?_)
          obtain ⟨rfl, hm_⟩ := hK_
          have hm_ := hm_.symm
          subst hm_
          change ab_G _ _ _ _ _ _ _ [(5, .int (fv_W_twoRowsRefusal h (nI sn) (nI un))), (0, .ref 0), (1, .int (nI sn)), (2, .int (nI un)), (3, .int (nI xn)), (4, .int y)] [.int (-5 : Int32)] (ab_S nr (ab_u2 h 28 5 (h 28 5 + 1)) g rr) _
          exact ab_ret (v := some (.int (-5 : Int32))) de_W_game_58 ⟨_, rfl⟩ (by unfold fx_W_game; try simp only [ab_tn (show sn < 2 ^ 31 by omega), ab_tn (show un < 2 ^ 31 by omega), ab_tn (show xn < 2 ^ 31 by omega)]; rw [if_pos c_10_1, if_pos c_21_2, if_neg c_39_3, if_neg c_49_4])
    · refine ab_aload_n de_W_game_24 1 rfl ?_
      refine ab_bipush (v := -4) de_W_game_25 rfl ?_
      refine ab_cV (as := [.int (-4 : Int32)]) (st := []) (ct_W_refuse l _ nr h g rr (r := (-4 : Int32)) (k := 4) (by decide) (by decide)) mo_W_refuse mi_W_refuse ml_W_88 rfl (by decide) rfl rfl rfl (Nat.le_of_ble_eq_true rfl) de_W_game_27 (fun v_ M_ hK_ hl_ hv_ => ?_)
      obtain ⟨rfl, hm_⟩ := hK_
      have hm_ := hm_.symm
      subst hm_
      change ab_G _ _ _ _ _ _ _ [(5, .int (fv_W_twoRowsRefusal h (nI sn) (nI un))), (0, .ref 0), (1, .int (nI sn)), (2, .int (nI un)), (3, .int x), (4, .int y)] [.int (-4 : Int32)] (ab_S nr (ab_u2 h 28 4 (h 28 4 + 1)) g rr) _
      exact ab_ret (v := some (.int (-4 : Int32))) de_W_game_30 ⟨_, rfl⟩ (by unfold fx_W_game; try simp only [ab_tn (show sn < 2 ^ 31 by omega), ab_tn (show un < 2 ^ 31 by omega)]; rw [if_pos c_10_1, if_neg c_21_2])
  · refine ab_aload_n de_W_game_13 1 rfl ?_
    refine ab_iload de_W_game_14 0 rfl ?_
    refine ab_cV (as := [.int (fv_W_twoRowsRefusal h s u)]) (st := []) (ct_W_refuse l _ nr h g rr (r := fv_W_twoRowsRefusal h s u) (k := (-(fv_W_twoRowsRefusal h s u)).toNatClampNeg) (rf_v (rf_two h s u)).1 (rf_v (rf_two h s u)).2) mo_W_refuse mi_W_refuse ml_W_88 rfl (by decide) rfl rfl rfl (Nat.le_of_ble_eq_true rfl) de_W_game_16 (fun v_ M_ hK_ hl_ hv_ => ?_)
    obtain ⟨rfl, hm_⟩ := hK_
    have hm_ := hm_.symm
    subst hm_
    change ab_G _ _ _ _ _ _ _ [(5, .int (fv_W_twoRowsRefusal h s u)), (0, .ref 0), (1, .int s), (2, .int u), (3, .int x), (4, .int y)] [.int (fv_W_twoRowsRefusal h s u)] (ab_S nr (ab_u2 h 28 (-(fv_W_twoRowsRefusal h s u)).toNatClampNeg (h 28 (-(fv_W_twoRowsRefusal h s u)).toNatClampNeg + 1)) g rr) _
    exact ab_ret (v := some (.int (fv_W_twoRowsRefusal h s u))) de_W_game_19 ⟨_, rfl⟩ (by unfold fx_W_game; rw [if_neg c_10_1])
