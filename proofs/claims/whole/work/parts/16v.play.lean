/-! the reference: move, gameOf, play, point, trace -/
theorem md_rng {y : Int32} {a N : Nat} (ha : a < 2 ^ 31) (hN : N < 2 ^ 31) (h0 : ¬ y < nI a) (h1 : y < nI N) : ∃ n, (a ≤ n ∧ n < N) ∧ y = nI n := by
  obtain ⟨n, hn, rfl⟩ := sp_bt_n hN (fun z => h0 (Int32.lt_of_lt_of_le z ((ab_le (a := 0) (by decide) ha).mpr (Nat.zero_le _)))) h1
  exact ⟨n, ⟨Nat.le_of_not_lt (fun z => h0 ((ab_lt (by omega) ha).mpr z)), hn⟩, rfl⟩
theorem md_getD {l : List Nat} {k : Nat} (hk : k < l.length) : l[k] = l.getD k 0 := by
  rw [List.getD_eq_getElem?_getD, List.getElem?_eq_getElem hk]
  rfl
def fx_M_move (h : Nat → Nat → Int32) (T : Nat → Nat → Nat) (m i t : Nat) (x y : Int32) : Option Value × (Nat → Nat → Int32) :=
  if (ab_bz (sp_cd x)) = 0 then
    (some (.int (-5 : Int32)), (ab_u2 h 31 5 (h 31 5 + 1)))
  else
    if y < 0 then
      (some (.int (-5 : Int32)), (ab_u2 h 31 5 (h 31 5 + 1)))
    else
      if y < (nI (sp_ml T (sp_lv T x.toNatClampNeg m i) m i).length) then
        (some (.int (nI ((sp_ml T (sp_lv T x.toNatClampNeg m i) m i).getD y.toNatClampNeg 0))), h)
      else
        (some (.int (-5 : Int32)), (ab_u2 h 31 5 (h 31 5 + 1)))
set_option maxHeartbeats 1000000 in
set_option maxRecDepth 10000 in
theorem ct_M_move (l : Launch) (d : Nat) (nr : Nat) (h : Nat → Nat → Int32) (g : Nat → Nat → Int64) (rr : Nat → Option Nat) {T : Nat → Nat → Nat} (hTM : bo_T T h 32) (hO : sp_ok T) {m i t : Nat} (hm : m < 4096) (hi : i < 4096) (ht : t < 2) (hd : sp_dj m i) (hB : md_bd m i t h) {Z0_ : sp_G} (hK : md_K T Z0_ h) (x y : Int32) : ab_C l am_M_move (d + 4) 0 0 [.ref 30, .int x, .int y] (ab_S nr h g rr) (fun r_ M' => ∃ X h', (r_, X) = fx_M_move h T m i t x y ∧ M' = ab_S nr h' g rr ∧ md_K T Z0_ h' ∧ md_kr X h') := by
  have ff_h := md_kr_rf h
  have kk_h := hK
  refine ab_C_of (by decide +kernel) rfl (Nat.le_of_ble_eq_true rfl) ?_
  refine ab_aload_n de_M_move_0 0 rfl ?_
  refine ab_iload_n de_M_move_1 1 rfl ?_
  refine ab_cV (as := [.int x]) (st := []) (ct_M_isCode l _ (ab_S nr h g rr) (x)) mo_M_isCode mi_M_isCode ml_M_168 rfl (by decide) rfl rfl rfl (Nat.le_of_ble_eq_true rfl) de_M_move_2 (fun v_ M_ hK_ hl_ hv_ => ?_)
  obtain ⟨rfl, hm_⟩ := hK_
  have hm_ := hm_.symm
  subst hm_
  change ab_G _ _ _ _ _ _ _ [(0, .ref 30), (1, .int x), (2, .int y)] [.int (ab_bz (sp_cd x))] (ab_S nr h g rr) _
  refine ab_if_eq (tgt := 30) de_M_move_5 rfl (fun c_5_1 => ?_) (fun c_5_1 => ?_)
  · refine ab_aload_n de_M_move_30 0 rfl ?_
    refine ab_bipush (v := -5) de_M_move_31 rfl ?_
    refine ab_cV (as := [.int (-5 : Int32)]) (st := []) (ct_M_no l _ nr h g rr (r := (-5 : Int32)) (k := 5) (by decide) (by decide)) mo_M_no mi_M_no ml_M_94 rfl (by decide) rfl rfl rfl (Nat.le_of_ble_eq_true rfl) de_M_move_33 (fun v_ M_ hK_ hl_ hv_ => ?_)
    obtain ⟨rfl, hm_⟩ := hK_
    have hm_ := hm_.symm
    subst hm_
    change ab_G _ _ _ _ _ _ _ [(0, .ref 30), (1, .int x), (2, .int y)] [.int (-5 : Int32)] (ab_S nr (ab_u2 h 31 5 (h 31 5 + 1)) g rr) _
    exact ab_ret (v := some (.int (-5 : Int32))) de_M_move_36 ⟨_, rfl⟩ ⟨_, _, (by unfold fx_M_move; rw [if_pos c_5_1]), rfl, (md_K_31 kk_h _ _), (md_kr_31 ff_h _)⟩
  · obtain ⟨xn, hxn, rfl⟩ := sp_cd_n c_5_1
    refine ab_iload_n de_M_move_8 2 rfl ?_
    refine ab_if_lt (tgt := 30) de_M_move_9 rfl (fun c_9_2 => ?_) (fun c_9_2 => ?_)
    · refine ab_aload_n de_M_move_30 0 rfl ?_
      refine ab_bipush (v := -5) de_M_move_31 rfl ?_
      refine ab_cV (as := [.int (-5 : Int32)]) (st := []) (ct_M_no l _ nr h g rr (r := (-5 : Int32)) (k := 5) (by decide) (by decide)) mo_M_no mi_M_no ml_M_94 rfl (by decide) rfl rfl rfl (Nat.le_of_ble_eq_true rfl) de_M_move_33 (fun v_ M_ hK_ hl_ hv_ => ?_)
      obtain ⟨rfl, hm_⟩ := hK_
      have hm_ := hm_.symm
      subst hm_
      change ab_G _ _ _ _ _ _ _ [(0, .ref 30), (1, .int (nI xn)), (2, .int y)] [.int (-5 : Int32)] (ab_S nr (ab_u2 h 31 5 (h 31 5 + 1)) g rr) _
      exact ab_ret (v := some (.int (-5 : Int32))) de_M_move_36 ⟨_, rfl⟩ ⟨_, _, (by unfold fx_M_move; try simp only [ab_tn (show xn < 2 ^ 31 by omega)]; rw [if_neg c_5_1, if_pos c_9_2]), rfl, (md_K_31 kk_h _ _), (md_kr_31 ff_h _)⟩
    · have c9_ := c_9_2
      refine ab_iload_n de_M_move_12 2 rfl ?_
      refine ab_aload_n de_M_move_13 0 rfl ?_
      refine ab_iload_n de_M_move_14 1 rfl ?_
      refine ab_aload_n de_M_move_15 0 rfl ?_
      refine ab_cV (as := []) (st := [.int (nI xn), .ref 30, .int y]) (ct_M_mineNow l _ nr h g rr hB ht) mo_M_mineNow mi_M_mineNow ml_M_213 rfl (by decide) rfl rfl rfl (Nat.le_of_ble_eq_true rfl) de_M_move_16 (fun v_ M_ hK_ hl_ hv_ => ?_)
      obtain ⟨rfl, hm_⟩ := hK_
      have hm_ := hm_.symm
      subst hm_
      change ab_G _ _ _ _ _ _ _ [(0, .ref 30), (1, .int (nI xn)), (2, .int y)] [.int (nI m), .int (nI xn), .ref 30, .int y] (ab_S nr h g rr) _
      refine ab_aload_n de_M_move_19 0 rfl ?_
      refine ab_cV (as := []) (st := [.int (nI m), .int (nI xn), .ref 30, .int y]) (ct_M_itsNow l _ nr h g rr hB ht) mo_M_itsNow mi_M_itsNow ml_M_216 rfl (by decide) rfl rfl rfl (Nat.le_of_ble_eq_true rfl) de_M_move_20 (fun v_ M_ hK_ hl_ hv_ => ?_)
      obtain ⟨rfl, hm_⟩ := hK_
      have hm_ := hm_.symm
      subst hm_
      change ab_G _ _ _ _ _ _ _ [(0, .ref 30), (1, .int (nI xn)), (2, .int y)] [.int (nI i), .int (nI m), .int (nI xn), .ref 30, .int y] (ab_S nr h g rr) _
      refine ab_iconst (v := 0) de_M_move_23 rfl ?_
      refine ab_cV (as := [.int (nI xn), .int (nI m), .int (nI i), .int (0 : Int32)]) (st := [.int y]) (ct_M_lists l _ nr h g rr hTM hO (c := xn) (by omega) hm hi (p0 := 0) (by omega)) mo_M_lists mi_M_lists ml_M_219 rfl (by decide) rfl rfl rfl (Nat.le_of_ble_eq_true rfl) de_M_move_24 (fun v_ M_ hK_ hl_ hv_ => ?_)
      obtain ⟨rfl, h1_, rfl, s1_, s2_⟩ := hK_
      change ab_G _ _ _ _ _ _ _ [(0, .ref 30), (1, .int (nI xn)), (2, .int y)] [.int (nI (sp_ml T (sp_lv T xn m i) m i).length), .int y] (ab_S nr h1_ g rr) _
      have ff_h1_ := md_kr_sc (md_sc_44 s1_)
      have kk_h1_ := md_K_sc (md_sc_44 s1_) hK
      have ln_ := md_ml_le T (sp_lv T xn m i) m i
      refine ab_icmp_lt (tgt := 37) de_M_move_27 rfl (fun c_27_3 => ?_) (fun c_27_3 => ?_)
      · obtain ⟨yn, hyn, rfl⟩ := sp_bt_n (by omega) c9_ c_27_3
        refine ab_aload_n de_M_move_37 0 rfl ?_
        refine ab_get (v := .ref 44) fl_M_54 rfl rfl de_M_move_38 ?_
        refine ab_iload_n de_M_move_41 2 rfl ?_
        refine ab_iald (v := h1_ 44 yn) rfl (ab_in (by omega) (by decide)) (ab_hv (ab_tn (n := yn) (by omega))) de_M_move_42 ?_
        refine ab_top (v' := nI ((sp_ml T (sp_lv T xn m i) m i).getD yn 0)) (by have z := s2_ yn hyn; rw [Nat.zero_add] at z; rw [z, md_getD hyn]) ?_
        exact ab_ret (v := some (.int (nI ((sp_ml T (sp_lv T xn m i) m i).getD yn 0)))) de_M_move_43 ⟨_, rfl⟩ ⟨_, _, (by unfold fx_M_move; try simp only [ab_tn (show xn < 2 ^ 31 by omega), ab_tn (show yn < 2 ^ 31 by omega)]; rw [if_neg c_5_1, if_neg c_9_2, if_pos c_27_3]), rfl, kk_h1_, ff_h1_⟩
      · refine ab_aload_n de_M_move_30 0 rfl ?_
        refine ab_bipush (v := -5) de_M_move_31 rfl ?_
        refine ab_cV (as := [.int (-5 : Int32)]) (st := []) (ct_M_no l _ nr h1_ g rr (r := (-5 : Int32)) (k := 5) (by decide) (by decide)) mo_M_no mi_M_no ml_M_94 rfl (by decide) rfl rfl rfl (Nat.le_of_ble_eq_true rfl) de_M_move_33 (fun v_ M_ hK_ hl_ hv_ => ?_)
        obtain ⟨rfl, hm_⟩ := hK_
        have hm_ := hm_.symm
        subst hm_
        change ab_G _ _ _ _ _ _ _ [(0, .ref 30), (1, .int (nI xn)), (2, .int y)] [.int (-5 : Int32)] (ab_S nr (ab_u2 h1_ 31 5 (h1_ 31 5 + 1)) g rr) _
        exact ab_ret (v := some (.int (-5 : Int32))) de_M_move_36 ⟨_, rfl⟩ ⟨_, _, (by unfold fx_M_move; try simp only [ab_tn (show xn < 2 ^ 31 by omega)]; rw [if_neg c_5_1, if_neg c_9_2, if_neg c_27_3]), rfl, (md_K_31 kk_h1_ _ _), (md_kr_31 ff_h1_ _)⟩
def fx_M_gameOf (h : Nat → Nat → Int32) (Z : sp_G) (x y : Int32) : Option Value × (Nat → Nat → Int32) :=
  if (ab_bz (decide (0 ≤ x ∧ x < nI (gN Z)))) = 0 then
    (some (.int (-5 : Int32)), (ab_u2 h 31 5 (h 31 5 + 1)))
  else
    if y = 0 then
      (some (.int (nI (gL Z x.toNatClampNeg))), h)
    else
      if y = (1 : Int32) then
        (some (.int (gO Z x.toNatClampNeg)), h)
      else
        if y < (100 : Int32) then
          if y < (200 : Int32) then
            (some (.int (-5 : Int32)), (ab_u2 h 31 5 (h 31 5 + 1)))
          else
            if (212 : Int32) ≤ y then
              (some (.int (-5 : Int32)), (ab_u2 h 31 5 (h 31 5 + 1)))
            else
              (some (.int (nI (md_sw (gA Z x.toNatClampNeg) (gB Z x.toNatClampNeg) (y.toNatClampNeg - 200)))), h)
        else
          if (nI (100 + gL Z x.toNatClampNeg)) ≤ y then
            if y < (200 : Int32) then
              (some (.int (-5 : Int32)), (ab_u2 h 31 5 (h 31 5 + 1)))
            else
              if (212 : Int32) ≤ y then
                (some (.int (-5 : Int32)), (ab_u2 h 31 5 (h 31 5 + 1)))
              else
                (some (.int (nI (md_sw (gA Z x.toNatClampNeg) (gB Z x.toNatClampNeg) (y.toNatClampNeg - 200)))), h)
          else
            (some (.int (nI (gV Z x.toNatClampNeg (y.toNatClampNeg - 100)))), h)
set_option maxHeartbeats 1000000 in
set_option maxRecDepth 10000 in
theorem ct_M_gameOf (l : Launch) (d : Nat) (nr : Nat) (h : Nat → Nat → Int32) (g : Nat → Nat → Int64) (rr : Nat → Option Nat) {Z : sp_G} (hZ : gm_ok Z) (hG : md_G Z h) {T0_ : Nat → Nat → Nat} (hK : md_K T0_ Z h) (x y : Int32) : ab_C l am_M_gameOf (d + 1) 0 0 [.ref 30, .int x, .int y] (ab_S nr h g rr) (fun r_ M' => ∃ X h', (r_, X) = fx_M_gameOf h Z x y ∧ M' = ab_S nr h' g rr ∧ md_K T0_ Z h' ∧ md_kr X h') := by
  have h6_ := hZ.1
  have l20_ := fun y hy => (hZ.2 y hy).2.2.2.1
  have ff_h := md_kr_rf h
  have kk_h := hK
  refine ab_C_of (by decide +kernel) rfl (Nat.le_of_ble_eq_true rfl) ?_
  refine ab_aload_n de_M_gameOf_0 0 rfl ?_
  refine ab_iload_n de_M_gameOf_1 1 rfl ?_
  refine ab_cV (as := [.int x]) (st := []) (ct_M_isGame l _ nr h g rr hG.1 x) mo_M_isGame mi_M_isGame ml_M_236 rfl (by decide) rfl rfl rfl (Nat.le_of_ble_eq_true rfl) de_M_gameOf_2 (fun v_ M_ hK_ hl_ hv_ => ?_)
  obtain ⟨rfl, hm_⟩ := hK_
  have hm_ := hm_.symm
  subst hm_
  change ab_G _ _ _ _ _ _ _ [(0, .ref 30), (1, .int x), (2, .int y)] [.int (ab_bz (decide (0 ≤ x ∧ x < nI (gN Z))))] (ab_S nr h g rr) _
  refine ab_if_ne (tgt := 15) de_M_gameOf_5 rfl (fun c_5_1 => ?_) (fun c_5_1 => ?_)
  · obtain ⟨xn, hxn, rfl⟩ := sp_ra_n (by omega) c_5_1
    refine ab_iload_n de_M_gameOf_15 2 rfl ?_
    refine ab_if_ne (tgt := 26) de_M_gameOf_16 rfl (fun c_16_2 => ?_) (fun c_16_2 => ?_)
    · refine ab_iload_n de_M_gameOf_26 2 rfl ?_
      refine ab_iconst (v := 1) de_M_gameOf_27 rfl ?_
      refine ab_icmp_ne (tgt := 38) de_M_gameOf_28 rfl (fun c_28_3 => ?_) (fun c_28_3 => ?_)
      · refine ab_iload_n de_M_gameOf_38 2 rfl ?_
        refine ab_bipush (v := 100) de_M_gameOf_39 rfl ?_
        refine ab_icmp_lt (tgt := 72) de_M_gameOf_41 rfl (fun c_41_4 => ?_) (fun c_41_4 => ?_)
        · refine ab_iload_n de_M_gameOf_72 2 rfl ?_
          refine ab_sipush (v := 200) de_M_gameOf_73 rfl ?_
          refine ab_icmp_lt (tgt := 104) de_M_gameOf_76 rfl (fun c_76_5 => ?_) (fun c_76_5 => ?_)
          · refine ab_aload_n de_M_gameOf_104 0 rfl ?_
            refine ab_bipush (v := -5) de_M_gameOf_105 rfl ?_
            refine ab_cV (as := [.int (-5 : Int32)]) (st := []) (ct_M_no l _ nr h g rr (r := (-5 : Int32)) (k := 5) (by decide) (by decide)) mo_M_no mi_M_no ml_M_94 rfl (by decide) rfl rfl rfl (Nat.le_of_ble_eq_true rfl) de_M_gameOf_107 (fun v_ M_ hK_ hl_ hv_ => ?_)
            obtain ⟨rfl, hm_⟩ := hK_
            have hm_ := hm_.symm
            subst hm_
            change ab_G _ _ _ _ _ _ _ [(0, .ref 30), (1, .int (nI xn)), (2, .int y)] [.int (-5 : Int32)] (ab_S nr (ab_u2 h 31 5 (h 31 5 + 1)) g rr) _
            exact ab_ret (v := some (.int (-5 : Int32))) de_M_gameOf_110 ⟨_, rfl⟩ ⟨_, _, (by unfold fx_M_gameOf; try simp only [ab_tn (show xn < 2 ^ 31 by omega)]; rw [if_neg c_5_1, if_neg c_16_2, if_neg c_28_3, if_pos c_41_4, if_pos c_76_5]), rfl, (md_K_31 kk_h _ _), (md_kr_31 ff_h _)⟩
          · have c76_ := c_76_5
            refine ab_iload_n de_M_gameOf_79 2 rfl ?_
            refine ab_sipush (v := 212) de_M_gameOf_80 rfl ?_
            refine ab_icmp_ge (tgt := 104) de_M_gameOf_83 rfl (fun c_83_6 => ?_) (fun c_83_6 => ?_)
            · refine ab_aload_n de_M_gameOf_104 0 rfl ?_
              refine ab_bipush (v := -5) de_M_gameOf_105 rfl ?_
              refine ab_cV (as := [.int (-5 : Int32)]) (st := []) (ct_M_no l _ nr h g rr (r := (-5 : Int32)) (k := 5) (by decide) (by decide)) mo_M_no mi_M_no ml_M_94 rfl (by decide) rfl rfl rfl (Nat.le_of_ble_eq_true rfl) de_M_gameOf_107 (fun v_ M_ hK_ hl_ hv_ => ?_)
              obtain ⟨rfl, hm_⟩ := hK_
              have hm_ := hm_.symm
              subst hm_
              change ab_G _ _ _ _ _ _ _ [(0, .ref 30), (1, .int (nI xn)), (2, .int y)] [.int (-5 : Int32)] (ab_S nr (ab_u2 h 31 5 (h 31 5 + 1)) g rr) _
              exact ab_ret (v := some (.int (-5 : Int32))) de_M_gameOf_110 ⟨_, rfl⟩ ⟨_, _, (by unfold fx_M_gameOf; try simp only [ab_tn (show xn < 2 ^ 31 by omega)]; rw [if_neg c_5_1, if_neg c_16_2, if_neg c_28_3, if_pos c_41_4, if_neg c_76_5, if_pos c_83_6]), rfl, (md_K_31 kk_h _ _), (md_kr_31 ff_h _)⟩
            · obtain ⟨yn, hyn, rfl⟩ := md_rng (a := 200) (N := 212) (by decide) (by decide) c76_ (Int32.not_le.mp c_83_6)
              refine ab_aload_n de_M_gameOf_86 0 rfl ?_
              refine ab_get (v := .ref 34) fl_M_23 rfl rfl de_M_gameOf_87 ?_
              refine ab_bipush (v := 12) de_M_gameOf_90 rfl ?_
              refine ab_iload_n de_M_gameOf_92 1 rfl ?_
              refine ab_imul de_M_gameOf_93 ?_
              refine ab_top (v' := nI (12 * xn)) (ab_mul _ _) ?_
              refine ab_iload_n de_M_gameOf_94 2 rfl ?_
              refine ab_iadd de_M_gameOf_95 ?_
              refine ab_top (v' := nI ((12 * xn) + yn)) (ab_add _ _) ?_
              refine ab_sipush (v := 200) de_M_gameOf_96 rfl ?_
              refine ab_isub de_M_gameOf_99 ?_
              refine ab_top (v' := nI (12 * xn + (yn - 200))) ((ab_sub_k (b := 200) (by omega)).trans (congrArg nI (by omega))) ?_
              refine ab_iald (v := h 34 (12 * xn + (yn - 200))) rfl (ab_in (by omega) (by decide)) (ab_hv (ab_tn (n := (12 * xn + (yn - 200))) (by omega))) de_M_gameOf_100 ?_
              refine ab_top (v' := nI (md_sw (gA Z xn) (gB Z xn) (yn - 200))) ((hG.2 xn (by omega)).1 (yn - 200) (by omega)) ?_
              refine ab_goto (tgt := 110) de_M_gameOf_101 rfl ?_
              exact ab_ret (v := some (.int (nI (md_sw (gA Z xn) (gB Z xn) (yn - 200))))) de_M_gameOf_110 ⟨_, rfl⟩ ⟨_, _, (by unfold fx_M_gameOf; try simp only [ab_tn (show xn < 2 ^ 31 by omega), ab_tn (show yn < 2 ^ 31 by omega)]; rw [if_neg c_5_1, if_neg c_16_2, if_neg c_28_3, if_pos c_41_4, if_neg c_76_5, if_neg c_83_6]), rfl, kk_h, ff_h⟩
        · have c41_ := c_41_4
          refine ab_iload_n de_M_gameOf_44 2 rfl ?_
          refine ab_bipush (v := 100) de_M_gameOf_45 rfl ?_
          refine ab_aload_n de_M_gameOf_47 0 rfl ?_
          refine ab_get (v := .ref 36) fl_M_29 rfl rfl de_M_gameOf_48 ?_
          refine ab_iload_n de_M_gameOf_51 1 rfl ?_
          refine ab_iald (v := h 36 xn) rfl (ab_in (by omega) (by decide)) (ab_hv (ab_tn (n := xn) (by omega))) de_M_gameOf_52 ?_
          refine ab_top (v' := nI (gL Z xn)) ((hG.2 xn (by omega)).2.1) ?_
          refine ab_iadd de_M_gameOf_53 ?_
          refine ab_top (v' := nI (100 + gL Z xn)) (ab_add _ _) ?_
          refine ab_icmp_ge (tgt := 72) de_M_gameOf_54 rfl (fun c_54_7 => ?_) (fun c_54_7 => ?_)
          · refine ab_iload_n de_M_gameOf_72 2 rfl ?_
            refine ab_sipush (v := 200) de_M_gameOf_73 rfl ?_
            refine ab_icmp_lt (tgt := 104) de_M_gameOf_76 rfl (fun c_76_8 => ?_) (fun c_76_8 => ?_)
            · refine ab_aload_n de_M_gameOf_104 0 rfl ?_
              refine ab_bipush (v := -5) de_M_gameOf_105 rfl ?_
              refine ab_cV (as := [.int (-5 : Int32)]) (st := []) (ct_M_no l _ nr h g rr (r := (-5 : Int32)) (k := 5) (by decide) (by decide)) mo_M_no mi_M_no ml_M_94 rfl (by decide) rfl rfl rfl (Nat.le_of_ble_eq_true rfl) de_M_gameOf_107 (fun v_ M_ hK_ hl_ hv_ => ?_)
              obtain ⟨rfl, hm_⟩ := hK_
              have hm_ := hm_.symm
              subst hm_
              change ab_G _ _ _ _ _ _ _ [(0, .ref 30), (1, .int (nI xn)), (2, .int y)] [.int (-5 : Int32)] (ab_S nr (ab_u2 h 31 5 (h 31 5 + 1)) g rr) _
              exact ab_ret (v := some (.int (-5 : Int32))) de_M_gameOf_110 ⟨_, rfl⟩ ⟨_, _, (by unfold fx_M_gameOf; try simp only [ab_tn (show xn < 2 ^ 31 by omega)]; rw [if_neg c_5_1, if_neg c_16_2, if_neg c_28_3, if_neg c_41_4, if_pos c_54_7, if_pos c_76_8]), rfl, (md_K_31 kk_h _ _), (md_kr_31 ff_h _)⟩
            · have c76_ := c_76_8
              refine ab_iload_n de_M_gameOf_79 2 rfl ?_
              refine ab_sipush (v := 212) de_M_gameOf_80 rfl ?_
              refine ab_icmp_ge (tgt := 104) de_M_gameOf_83 rfl (fun c_83_9 => ?_) (fun c_83_9 => ?_)
              · refine ab_aload_n de_M_gameOf_104 0 rfl ?_
                refine ab_bipush (v := -5) de_M_gameOf_105 rfl ?_
                refine ab_cV (as := [.int (-5 : Int32)]) (st := []) (ct_M_no l _ nr h g rr (r := (-5 : Int32)) (k := 5) (by decide) (by decide)) mo_M_no mi_M_no ml_M_94 rfl (by decide) rfl rfl rfl (Nat.le_of_ble_eq_true rfl) de_M_gameOf_107 (fun v_ M_ hK_ hl_ hv_ => ?_)
                obtain ⟨rfl, hm_⟩ := hK_
                have hm_ := hm_.symm
                subst hm_
                change ab_G _ _ _ _ _ _ _ [(0, .ref 30), (1, .int (nI xn)), (2, .int y)] [.int (-5 : Int32)] (ab_S nr (ab_u2 h 31 5 (h 31 5 + 1)) g rr) _
                exact ab_ret (v := some (.int (-5 : Int32))) de_M_gameOf_110 ⟨_, rfl⟩ ⟨_, _, (by unfold fx_M_gameOf; try simp only [ab_tn (show xn < 2 ^ 31 by omega)]; rw [if_neg c_5_1, if_neg c_16_2, if_neg c_28_3, if_neg c_41_4, if_pos c_54_7, if_neg c_76_8, if_pos c_83_9]), rfl, (md_K_31 kk_h _ _), (md_kr_31 ff_h _)⟩
              · obtain ⟨yn, hyn, rfl⟩ := md_rng (a := 200) (N := 212) (by decide) (by decide) c76_ (Int32.not_le.mp c_83_9)
                refine ab_aload_n de_M_gameOf_86 0 rfl ?_
                refine ab_get (v := .ref 34) fl_M_23 rfl rfl de_M_gameOf_87 ?_
                refine ab_bipush (v := 12) de_M_gameOf_90 rfl ?_
                refine ab_iload_n de_M_gameOf_92 1 rfl ?_
                refine ab_imul de_M_gameOf_93 ?_
                refine ab_top (v' := nI (12 * xn)) (ab_mul _ _) ?_
                refine ab_iload_n de_M_gameOf_94 2 rfl ?_
                refine ab_iadd de_M_gameOf_95 ?_
                refine ab_top (v' := nI ((12 * xn) + yn)) (ab_add _ _) ?_
                refine ab_sipush (v := 200) de_M_gameOf_96 rfl ?_
                refine ab_isub de_M_gameOf_99 ?_
                refine ab_top (v' := nI (12 * xn + (yn - 200))) ((ab_sub_k (b := 200) (by omega)).trans (congrArg nI (by omega))) ?_
                refine ab_iald (v := h 34 (12 * xn + (yn - 200))) rfl (ab_in (by omega) (by decide)) (ab_hv (ab_tn (n := (12 * xn + (yn - 200))) (by omega))) de_M_gameOf_100 ?_
                refine ab_top (v' := nI (md_sw (gA Z xn) (gB Z xn) (yn - 200))) ((hG.2 xn (by omega)).1 (yn - 200) (by omega)) ?_
                refine ab_goto (tgt := 110) de_M_gameOf_101 rfl ?_
                exact ab_ret (v := some (.int (nI (md_sw (gA Z xn) (gB Z xn) (yn - 200))))) de_M_gameOf_110 ⟨_, rfl⟩ ⟨_, _, (by unfold fx_M_gameOf; try simp only [ab_tn (show xn < 2 ^ 31 by omega), ab_tn (show yn < 2 ^ 31 by omega)]; rw [if_neg c_5_1, if_neg c_16_2, if_neg c_28_3, if_neg c_41_4, if_pos c_54_7, if_neg c_76_8, if_neg c_83_9]), rfl, kk_h, ff_h⟩
          · have l2_ := l20_ xn (by omega)
            obtain ⟨yn, hyn, rfl⟩ := md_rng (a := 100) (N := 100 + gL Z xn) (by decide) (by omega) c41_ (Int32.not_le.mp c_54_7)
            refine ab_aload_n de_M_gameOf_57 0 rfl ?_
            refine ab_get (v := .ref 35) fl_M_26 rfl rfl de_M_gameOf_58 ?_
            refine ab_bipush (v := 20) de_M_gameOf_61 rfl ?_
            refine ab_iload_n de_M_gameOf_63 1 rfl ?_
            refine ab_imul de_M_gameOf_64 ?_
            refine ab_top (v' := nI (20 * xn)) (ab_mul _ _) ?_
            refine ab_iload_n de_M_gameOf_65 2 rfl ?_
            refine ab_iadd de_M_gameOf_66 ?_
            refine ab_top (v' := nI ((20 * xn) + yn)) (ab_add _ _) ?_
            refine ab_bipush (v := 100) de_M_gameOf_67 rfl ?_
            refine ab_isub de_M_gameOf_69 ?_
            refine ab_top (v' := nI (20 * xn + (yn - 100))) ((ab_sub_k (b := 100) (by omega)).trans (congrArg nI (by omega))) ?_
            refine ab_iald (v := h 35 (20 * xn + (yn - 100))) rfl (ab_in (by omega) (by decide)) (ab_hv (ab_tn (n := (20 * xn + (yn - 100))) (by omega))) de_M_gameOf_70 ?_
            refine ab_top (v' := nI (gV Z xn (yn - 100))) ((hG.2 xn (by omega)).2.2.2 (yn - 100) (by omega)) ?_
            exact ab_ret (v := some (.int (nI (gV Z xn (yn - 100))))) de_M_gameOf_71 ⟨_, rfl⟩ ⟨_, _, (by unfold fx_M_gameOf; try simp only [ab_tn (show xn < 2 ^ 31 by omega), ab_tn (show yn < 2 ^ 31 by omega)]; rw [if_neg c_5_1, if_neg c_16_2, if_neg c_28_3, if_neg c_41_4, if_neg c_54_7]), rfl, kk_h, ff_h⟩
      · refine ab_aload_n de_M_gameOf_31 0 rfl ?_
        refine ab_get (v := .ref 37) fl_M_32 rfl rfl de_M_gameOf_32 ?_
        refine ab_iload_n de_M_gameOf_35 1 rfl ?_
        refine ab_iald (v := h 37 xn) rfl (ab_in (by omega) (by decide)) (ab_hv (ab_tn (n := xn) (by omega))) de_M_gameOf_36 ?_
        refine ab_top (v' := gO Z xn) ((hG.2 xn (by omega)).2.2.1) ?_
        exact ab_ret (v := some (.int (gO Z xn))) de_M_gameOf_37 ⟨_, rfl⟩ ⟨_, _, (by unfold fx_M_gameOf; try simp only [ab_tn (show xn < 2 ^ 31 by omega)]; rw [if_neg c_5_1, if_neg c_16_2, if_pos c_28_3]), rfl, kk_h, ff_h⟩
    · refine ab_aload_n de_M_gameOf_19 0 rfl ?_
      refine ab_get (v := .ref 36) fl_M_29 rfl rfl de_M_gameOf_20 ?_
      refine ab_iload_n de_M_gameOf_23 1 rfl ?_
      refine ab_iald (v := h 36 xn) rfl (ab_in (by omega) (by decide)) (ab_hv (ab_tn (n := xn) (by omega))) de_M_gameOf_24 ?_
      refine ab_top (v' := nI (gL Z xn)) ((hG.2 xn (by omega)).2.1) ?_
      exact ab_ret (v := some (.int (nI (gL Z xn)))) de_M_gameOf_25 ⟨_, rfl⟩ ⟨_, _, (by unfold fx_M_gameOf; try simp only [ab_tn (show xn < 2 ^ 31 by omega)]; rw [if_neg c_5_1, if_pos c_16_2]), rfl, kk_h, ff_h⟩
  · refine ab_aload_n de_M_gameOf_8 0 rfl ?_
    refine ab_bipush (v := -5) de_M_gameOf_9 rfl ?_
    refine ab_cV (as := [.int (-5 : Int32)]) (st := []) (ct_M_no l _ nr h g rr (r := (-5 : Int32)) (k := 5) (by decide) (by decide)) mo_M_no mi_M_no ml_M_94 rfl (by decide) rfl rfl rfl (Nat.le_of_ble_eq_true rfl) de_M_gameOf_11 (fun v_ M_ hK_ hl_ hv_ => ?_)
    obtain ⟨rfl, hm_⟩ := hK_
    have hm_ := hm_.symm
    subst hm_
    change ab_G _ _ _ _ _ _ _ [(0, .ref 30), (1, .int x), (2, .int y)] [.int (-5 : Int32)] (ab_S nr (ab_u2 h 31 5 (h 31 5 + 1)) g rr) _
    exact ab_ret (v := some (.int (-5 : Int32))) de_M_gameOf_14 ⟨_, rfl⟩ ⟨_, _, (by unfold fx_M_gameOf; rw [if_pos c_5_1]), rfl, (md_K_31 kk_h _ _), (md_kr_31 ff_h _)⟩
set_option maxHeartbeats 1000000 in
set_option maxRecDepth 10000 in
theorem ct_M_goes (l : Launch) (d : Nat) (nr : Nat) (h : Nat → Nat → Int32) (g : Nat → Nat → Int64) (rr : Nat → Option Nat) {T : Nat → Nat → Nat} (hTM : bo_T T h 32) (hO : sp_ok T) {c m i : Nat} (hc : c < 4096) (hm : m < 4096) (hi : i < 4096) (hd : sp_dj m i) {t : Nat} (ht : t < 2) (hB : md_bd m i t h) {x : Nat} (hx : sp_mv x) : ab_C l am_M_goes (d + 4) 0 0 [.ref 30, .int (nI c), .int (nI x)] (ab_S nr h g rr) (fun (r_ : Option Value) (M' : ab_Me) => r_ = none ∧ M' = (ab_S nr (ab_u2 (ab_u2 (ab_u2 (ab_u2 (ab_u2 h 30 24 (nI (sp_d2 T (sp_lv T c m i) m i x))) 30 25 (nI (sp_d1 T (sp_lv T c m i) m i x))) 30 5 (nI (1 - t))) 30 3 (nI (if 1 - t = 0 then (sp_d2 T (sp_lv T c m i) m i x) else (sp_d1 T (sp_lv T c m i) m i x)))) 30 4 (nI (if 1 - t = 0 then (sp_d1 T (sp_lv T c m i) m i x) else (sp_d2 T (sp_lv T c m i) m i x)))) g rr)) := by
  have hx1_ := hx.1
  refine ab_C_of (by decide +kernel) rfl (Nat.le_of_ble_eq_true rfl) ?_
  refine ab_aload_n de_M_goes_0 0 rfl ?_
  refine ab_iload_n de_M_goes_1 1 rfl ?_
  refine ab_iload_n de_M_goes_2 2 rfl ?_
  refine ab_aload_n de_M_goes_3 0 rfl ?_
  refine ab_cV (as := []) (st := [.int (nI x), .int (nI c), .ref 30]) (ct_M_mineNow l _ nr h g rr hB ht) mo_M_mineNow mi_M_mineNow ml_M_213 rfl (by decide) rfl rfl rfl (Nat.le_of_ble_eq_true rfl) de_M_goes_4 (fun v_ M_ hK_ hl_ hv_ => ?_)
  obtain ⟨rfl, hm_⟩ := hK_
  have hm_ := hm_.symm
  subst hm_
  change ab_G _ _ _ _ _ _ _ [(0, .ref 30), (1, .int (nI c)), (2, .int (nI x))] [.int (nI m), .int (nI x), .int (nI c), .ref 30] (ab_S nr h g rr) _
  refine ab_aload_n de_M_goes_7 0 rfl ?_
  refine ab_cV (as := []) (st := [.int (nI m), .int (nI x), .int (nI c), .ref 30]) (ct_M_itsNow l _ nr h g rr hB ht) mo_M_itsNow mi_M_itsNow ml_M_216 rfl (by decide) rfl rfl rfl (Nat.le_of_ble_eq_true rfl) de_M_goes_8 (fun v_ M_ hK_ hl_ hv_ => ?_)
  obtain ⟨rfl, hm_⟩ := hK_
  have hm_ := hm_.symm
  subst hm_
  change ab_G _ _ _ _ _ _ _ [(0, .ref 30), (1, .int (nI c)), (2, .int (nI x))] [.int (nI i), .int (nI m), .int (nI x), .int (nI c), .ref 30] (ab_S nr h g rr) _
  refine ab_cV (as := [.int (nI c), .int (nI x), .int (nI m), .int (nI i)]) (st := []) (ct_M_does l _ nr h g rr hTM hO hc hm hi (x := x) hx hd) mo_M_does mi_M_does ml_M_228 rfl (by decide) rfl rfl rfl (Nat.le_of_ble_eq_true rfl) de_M_goes_11 (fun v_ M_ hK_ hl_ hv_ => ?_)
  obtain ⟨rfl, hm_⟩ := hK_
  have hm_ := hm_.symm
  subst hm_
  change ab_G _ _ _ _ _ _ _ [(0, .ref 30), (1, .int (nI c)), (2, .int (nI x))] [] (ab_S nr (ab_u2 (ab_u2 h 30 24 (nI (sp_d2 T (sp_lv T c m i) m i x))) 30 25 (nI (sp_d1 T (sp_lv T c m i) m i x))) g rr) _
  refine ab_aload_n de_M_goes_14 0 rfl ?_
  refine ab_iconst (v := 1) de_M_goes_15 rfl ?_
  refine ab_aload_n de_M_goes_16 0 rfl ?_
  refine ab_get (v := .int ((ab_u2 (ab_u2 h 30 24 (nI (sp_d2 T (sp_lv T c m i) m i x))) 30 25 (nI (sp_d1 T (sp_lv T c m i) m i x))) 30 5)) fl_M_177 rfl rfl de_M_goes_17 ?_
  refine ab_top (v' := nI t) (hB.1) ?_
  refine ab_isub de_M_goes_20 ?_
  refine ab_top (v' := nI (1 - t)) (ab_sub_k (a := 1) (by omega)) ?_
  refine ab_putI (x := 30) (j := 5) fl_M_177 rfl (Or.inl rfl) rfl rfl rfl de_M_goes_21 ?_
  change ab_G _ _ _ _ _ _ _ _ _ (ab_S nr (ab_u2 (ab_u2 (ab_u2 h 30 24 (nI (sp_d2 T (sp_lv T c m i) m i x))) 30 25 (nI (sp_d1 T (sp_lv T c m i) m i x))) 30 5 (nI (1 - t))) g rr) _
  refine ab_aload_n de_M_goes_24 0 rfl ?_
  refine ab_aload_n de_M_goes_25 0 rfl ?_
  refine ab_get (v := .int ((ab_u2 (ab_u2 (ab_u2 h 30 24 (nI (sp_d2 T (sp_lv T c m i) m i x))) 30 25 (nI (sp_d1 T (sp_lv T c m i) m i x))) 30 5 (nI (1 - t))) 30 5)) fl_M_177 rfl rfl de_M_goes_26 ?_
  refine ab_top (v' := nI (1 - t)) (ab_u2_at) ?_
  refine ab_if_ne (tgt := 39) de_M_goes_29 rfl (fun c_29_1 => ?_) (fun c_29_1 => ?_)
  · have t29_ : ¬ 1 - t = 0 := fun z => c_29_1 (by rw [z]; rfl)
    refine ab_aload_n de_M_goes_39 0 rfl ?_
    refine ab_get (v := .int ((ab_u2 (ab_u2 (ab_u2 h 30 24 (nI (sp_d2 T (sp_lv T c m i) m i x))) 30 25 (nI (sp_d1 T (sp_lv T c m i) m i x))) 30 5 (nI (1 - t))) 30 25)) fl_M_210 rfl rfl de_M_goes_40 ?_
    refine ab_top (v' := nI (if 1 - t = 0 then (sp_d2 T (sp_lv T c m i) m i x) else (sp_d1 T (sp_lv T c m i) m i x))) ((show nI _ = _ by rw [if_neg t29_])) ?_
    refine ab_putI (x := 30) (j := 3) fl_M_171 rfl (Or.inl rfl) rfl rfl rfl de_M_goes_43 ?_
    change ab_G _ _ _ _ _ _ _ _ _ (ab_S nr (ab_u2 (ab_u2 (ab_u2 (ab_u2 h 30 24 (nI (sp_d2 T (sp_lv T c m i) m i x))) 30 25 (nI (sp_d1 T (sp_lv T c m i) m i x))) 30 5 (nI (1 - t))) 30 3 (nI (if 1 - t = 0 then (sp_d2 T (sp_lv T c m i) m i x) else (sp_d1 T (sp_lv T c m i) m i x)))) g rr) _
    refine ab_aload_n de_M_goes_46 0 rfl ?_
    refine ab_aload_n de_M_goes_47 0 rfl ?_
    refine ab_get (v := .int ((ab_u2 (ab_u2 (ab_u2 (ab_u2 h 30 24 (nI (sp_d2 T (sp_lv T c m i) m i x))) 30 25 (nI (sp_d1 T (sp_lv T c m i) m i x))) 30 5 (nI (1 - t))) 30 3 (nI (if 1 - t = 0 then (sp_d2 T (sp_lv T c m i) m i x) else (sp_d1 T (sp_lv T c m i) m i x)))) 30 5)) fl_M_177 rfl rfl de_M_goes_48 ?_
    refine ab_top (v' := nI (1 - t)) (rfl) ?_
    refine ab_if_ne (tgt := 61) de_M_goes_51 rfl (fun c_51_2 => ?_) (fun c_51_2 => ?_)
    · have t51_ : ¬ 1 - t = 0 := fun z => c_51_2 (by rw [z]; rfl)
      refine ab_aload_n de_M_goes_61 0 rfl ?_
      refine ab_get (v := .int ((ab_u2 (ab_u2 (ab_u2 (ab_u2 h 30 24 (nI (sp_d2 T (sp_lv T c m i) m i x))) 30 25 (nI (sp_d1 T (sp_lv T c m i) m i x))) 30 5 (nI (1 - t))) 30 3 (nI (if 1 - t = 0 then (sp_d2 T (sp_lv T c m i) m i x) else (sp_d1 T (sp_lv T c m i) m i x)))) 30 24)) fl_M_207 rfl rfl de_M_goes_62 ?_
      refine ab_top (v' := nI (if 1 - t = 0 then (sp_d1 T (sp_lv T c m i) m i x) else (sp_d2 T (sp_lv T c m i) m i x))) ((show nI _ = _ by rw [if_neg t51_])) ?_
      refine ab_putI (x := 30) (j := 4) fl_M_174 rfl (Or.inl rfl) rfl rfl rfl de_M_goes_65 ?_
      change ab_G _ _ _ _ _ _ _ _ _ (ab_S nr (ab_u2 (ab_u2 (ab_u2 (ab_u2 (ab_u2 h 30 24 (nI (sp_d2 T (sp_lv T c m i) m i x))) 30 25 (nI (sp_d1 T (sp_lv T c m i) m i x))) 30 5 (nI (1 - t))) 30 3 (nI (if 1 - t = 0 then (sp_d2 T (sp_lv T c m i) m i x) else (sp_d1 T (sp_lv T c m i) m i x)))) 30 4 (nI (if 1 - t = 0 then (sp_d1 T (sp_lv T c m i) m i x) else (sp_d2 T (sp_lv T c m i) m i x)))) g rr) _
      exact ab_ret (v := none) de_M_goes_68 rfl ⟨rfl, rfl⟩
    · have t51_ : 1 - t = 0 := (ab_inj (b := 0) (by omega) (by decide)).mp c_51_2
      refine ab_aload_n de_M_goes_54 0 rfl ?_
      refine ab_get (v := .int ((ab_u2 (ab_u2 (ab_u2 (ab_u2 h 30 24 (nI (sp_d2 T (sp_lv T c m i) m i x))) 30 25 (nI (sp_d1 T (sp_lv T c m i) m i x))) 30 5 (nI (1 - t))) 30 3 (nI (if 1 - t = 0 then (sp_d2 T (sp_lv T c m i) m i x) else (sp_d1 T (sp_lv T c m i) m i x)))) 30 25)) fl_M_210 rfl rfl de_M_goes_55 ?_
      refine ab_top (v' := nI (if 1 - t = 0 then (sp_d1 T (sp_lv T c m i) m i x) else (sp_d2 T (sp_lv T c m i) m i x))) ((show nI _ = _ by rw [if_pos t51_])) ?_
      refine ab_goto (tgt := 65) de_M_goes_58 rfl ?_
      refine ab_putI (x := 30) (j := 4) fl_M_174 rfl (Or.inl rfl) rfl rfl rfl de_M_goes_65 ?_
      change ab_G _ _ _ _ _ _ _ _ _ (ab_S nr (ab_u2 (ab_u2 (ab_u2 (ab_u2 (ab_u2 h 30 24 (nI (sp_d2 T (sp_lv T c m i) m i x))) 30 25 (nI (sp_d1 T (sp_lv T c m i) m i x))) 30 5 (nI (1 - t))) 30 3 (nI (if 1 - t = 0 then (sp_d2 T (sp_lv T c m i) m i x) else (sp_d1 T (sp_lv T c m i) m i x)))) 30 4 (nI (if 1 - t = 0 then (sp_d1 T (sp_lv T c m i) m i x) else (sp_d2 T (sp_lv T c m i) m i x)))) g rr) _
      exact ab_ret (v := none) de_M_goes_68 rfl ⟨rfl, rfl⟩
  · have t29_ : 1 - t = 0 := (ab_inj (b := 0) (by omega) (by decide)).mp c_29_1
    refine ab_aload_n de_M_goes_32 0 rfl ?_
    refine ab_get (v := .int ((ab_u2 (ab_u2 (ab_u2 h 30 24 (nI (sp_d2 T (sp_lv T c m i) m i x))) 30 25 (nI (sp_d1 T (sp_lv T c m i) m i x))) 30 5 (nI (1 - t))) 30 24)) fl_M_207 rfl rfl de_M_goes_33 ?_
    refine ab_top (v' := nI (if 1 - t = 0 then (sp_d2 T (sp_lv T c m i) m i x) else (sp_d1 T (sp_lv T c m i) m i x))) ((show nI _ = _ by rw [if_pos t29_])) ?_
    refine ab_goto (tgt := 43) de_M_goes_36 rfl ?_
    refine ab_putI (x := 30) (j := 3) fl_M_171 rfl (Or.inl rfl) rfl rfl rfl de_M_goes_43 ?_
    change ab_G _ _ _ _ _ _ _ _ _ (ab_S nr (ab_u2 (ab_u2 (ab_u2 (ab_u2 h 30 24 (nI (sp_d2 T (sp_lv T c m i) m i x))) 30 25 (nI (sp_d1 T (sp_lv T c m i) m i x))) 30 5 (nI (1 - t))) 30 3 (nI (if 1 - t = 0 then (sp_d2 T (sp_lv T c m i) m i x) else (sp_d1 T (sp_lv T c m i) m i x)))) g rr) _
    refine ab_aload_n de_M_goes_46 0 rfl ?_
    refine ab_aload_n de_M_goes_47 0 rfl ?_
    refine ab_get (v := .int ((ab_u2 (ab_u2 (ab_u2 (ab_u2 h 30 24 (nI (sp_d2 T (sp_lv T c m i) m i x))) 30 25 (nI (sp_d1 T (sp_lv T c m i) m i x))) 30 5 (nI (1 - t))) 30 3 (nI (if 1 - t = 0 then (sp_d2 T (sp_lv T c m i) m i x) else (sp_d1 T (sp_lv T c m i) m i x)))) 30 5)) fl_M_177 rfl rfl de_M_goes_48 ?_
    refine ab_top (v' := nI (1 - t)) (rfl) ?_
    refine ab_if_ne (tgt := 61) de_M_goes_51 rfl (fun c_51_3 => ?_) (fun c_51_3 => ?_)
    · have t51_ : ¬ 1 - t = 0 := fun z => c_51_3 (by rw [z]; rfl)
      refine ab_aload_n de_M_goes_61 0 rfl ?_
      refine ab_get (v := .int ((ab_u2 (ab_u2 (ab_u2 (ab_u2 h 30 24 (nI (sp_d2 T (sp_lv T c m i) m i x))) 30 25 (nI (sp_d1 T (sp_lv T c m i) m i x))) 30 5 (nI (1 - t))) 30 3 (nI (if 1 - t = 0 then (sp_d2 T (sp_lv T c m i) m i x) else (sp_d1 T (sp_lv T c m i) m i x)))) 30 24)) fl_M_207 rfl rfl de_M_goes_62 ?_
      refine ab_top (v' := nI (if 1 - t = 0 then (sp_d1 T (sp_lv T c m i) m i x) else (sp_d2 T (sp_lv T c m i) m i x))) ((show nI _ = _ by rw [if_neg t51_])) ?_
      refine ab_putI (x := 30) (j := 4) fl_M_174 rfl (Or.inl rfl) rfl rfl rfl de_M_goes_65 ?_
      change ab_G _ _ _ _ _ _ _ _ _ (ab_S nr (ab_u2 (ab_u2 (ab_u2 (ab_u2 (ab_u2 h 30 24 (nI (sp_d2 T (sp_lv T c m i) m i x))) 30 25 (nI (sp_d1 T (sp_lv T c m i) m i x))) 30 5 (nI (1 - t))) 30 3 (nI (if 1 - t = 0 then (sp_d2 T (sp_lv T c m i) m i x) else (sp_d1 T (sp_lv T c m i) m i x)))) 30 4 (nI (if 1 - t = 0 then (sp_d1 T (sp_lv T c m i) m i x) else (sp_d2 T (sp_lv T c m i) m i x)))) g rr) _
      exact ab_ret (v := none) de_M_goes_68 rfl ⟨rfl, rfl⟩
    · have t51_ : 1 - t = 0 := (ab_inj (b := 0) (by omega) (by decide)).mp c_51_3
      refine ab_aload_n de_M_goes_54 0 rfl ?_
      refine ab_get (v := .int ((ab_u2 (ab_u2 (ab_u2 (ab_u2 h 30 24 (nI (sp_d2 T (sp_lv T c m i) m i x))) 30 25 (nI (sp_d1 T (sp_lv T c m i) m i x))) 30 5 (nI (1 - t))) 30 3 (nI (if 1 - t = 0 then (sp_d2 T (sp_lv T c m i) m i x) else (sp_d1 T (sp_lv T c m i) m i x)))) 30 25)) fl_M_210 rfl rfl de_M_goes_55 ?_
      refine ab_top (v' := nI (if 1 - t = 0 then (sp_d1 T (sp_lv T c m i) m i x) else (sp_d2 T (sp_lv T c m i) m i x))) ((show nI _ = _ by rw [if_pos t51_])) ?_
      refine ab_goto (tgt := 65) de_M_goes_58 rfl ?_
      refine ab_putI (x := 30) (j := 4) fl_M_174 rfl (Or.inl rfl) rfl rfl rfl de_M_goes_65 ?_
      change ab_G _ _ _ _ _ _ _ _ _ (ab_S nr (ab_u2 (ab_u2 (ab_u2 (ab_u2 (ab_u2 h 30 24 (nI (sp_d2 T (sp_lv T c m i) m i x))) 30 25 (nI (sp_d1 T (sp_lv T c m i) m i x))) 30 5 (nI (1 - t))) 30 3 (nI (if 1 - t = 0 then (sp_d2 T (sp_lv T c m i) m i x) else (sp_d1 T (sp_lv T c m i) m i x)))) 30 4 (nI (if 1 - t = 0 then (sp_d1 T (sp_lv T c m i) m i x) else (sp_d2 T (sp_lv T c m i) m i x)))) g rr) _
      exact ab_ret (v := none) de_M_goes_68 rfl ⟨rfl, rfl⟩
def md_hx (T : Nat → Nat → Nat) (c m i : Nat) (x : Int32) : Nat := if sp_im x = true then md_hw T c m i x.toNatClampNeg else 0
theorem ct_M_lawful_x (l : Launch) (d : Nat) (nr : Nat) (h : Nat → Nat → Int32) (g : Nat → Nat → Int64) (rr : Nat → Option Nat) {T : Nat → Nat → Nat} (hTM : bo_T T h 32) (hO : sp_ok T) {c m i : Nat} (hc : c < 4096) (hm : m < 4096) (hi : i < 4096) (x : Int32) : ab_C l am_M_lawful (d + 2) 0 0 [.ref 30, .int (nI c), .int x, .int (nI m), .int (nI i)] (ab_S nr h g rr) (fun (r_ : Option Value) (M' : ab_Me) => r_ = some (.int (nI (md_hx T c m i x))) ∧ M' = (ab_S nr h g rr)) := by
  cases e : sp_im x with
  | false =>
    have z := ct_M_lawful_0 l d nr h g rr hc x e (nI m) (nI i)
    unfold md_hx
    rw [if_neg (by rw [e]; decide)]
    exact z
  | true =>
    obtain ⟨n, ⟨hn, hn2⟩, rfl⟩ := im_n (x := x) (by rw [e]; decide)
    have z := ct_M_lawful l d nr h g rr hTM hO hc hm hi (x := n) hn
    unfold md_hx
    rw [if_pos e, ab_tn (show n < 2 ^ 31 by omega)]
    exact z
theorem md_hx_n {T : Nat → Nat → Nat} {c m i : Nat} {x : Int32} (h : ¬ nI (md_hx T c m i x) = 0) : ∃ n, (sp_mv n ∧ n < 252) ∧ x = nI n := by
  refine im_n (fun z => h ?_)
  unfold md_hx
  rw [if_neg (by rw [(ab_bz0 _).mp z]; decide)]
  rfl
def fx_M_play (h : Nat → Nat → Int32) (T : Nat → Nat → Nat) (m i t : Nat) (x y : Int32) : Option Value × (Nat → Nat → Int32) :=
  if (ab_bz (sp_cd x)) = 0 then
    (some (.int (-1 : Int32)), (ab_u2 h 31 1 (h 31 1 + 1)))
  else
    if (nI (md_hx T x.toNatClampNeg m i y)) = 0 then
      (some (.int (-6 : Int32)), (ab_u2 h 31 6 (h 31 6 + 1)))
    else
      (some (.int (nI (sp_cn ((sp_d2 T (sp_lv T x.toNatClampNeg m i) m i y.toNatClampNeg) ||| (sp_d1 T (sp_lv T x.toNatClampNeg m i) m i y.toNatClampNeg))))), (ab_u2 (ab_u2 (ab_u2 (ab_u2 (ab_u2 h 30 24 (nI (sp_d2 T (sp_lv T x.toNatClampNeg m i) m i y.toNatClampNeg))) 30 25 (nI (sp_d1 T (sp_lv T x.toNatClampNeg m i) m i y.toNatClampNeg))) 30 5 (nI (1 - t))) 30 3 (nI (if 1 - t = 0 then (sp_d2 T (sp_lv T x.toNatClampNeg m i) m i y.toNatClampNeg) else (sp_d1 T (sp_lv T x.toNatClampNeg m i) m i y.toNatClampNeg)))) 30 4 (nI (if 1 - t = 0 then (sp_d1 T (sp_lv T x.toNatClampNeg m i) m i y.toNatClampNeg) else (sp_d2 T (sp_lv T x.toNatClampNeg m i) m i y.toNatClampNeg)))))
set_option maxHeartbeats 1000000 in
set_option maxRecDepth 10000 in
theorem ct_M_play (l : Launch) (d : Nat) (nr : Nat) (h : Nat → Nat → Int32) (g : Nat → Nat → Int64) (rr : Nat → Option Nat) {T : Nat → Nat → Nat} (hTM : bo_T T h 32) (hO : sp_ok T) {m i t : Nat} (hm : m < 4096) (hi : i < 4096) (ht : t < 2) (hd : sp_dj m i) (hB : md_bd m i t h) {Z0_ : sp_G} (hK : md_K T Z0_ h) (x y : Int32) : ab_C l am_M_play (d + 5) 0 0 [.ref 30, .int x, .int y] (ab_S nr h g rr) (fun r_ M' => ∃ X h', (r_, X) = fx_M_play h T m i t x y ∧ M' = ab_S nr h' g rr ∧ md_K T Z0_ h' ∧ md_kr X h') := by
  have ff_h := md_kr_rf h
  have kk_h := hK
  refine ab_C_of (by decide +kernel) rfl (Nat.le_of_ble_eq_true rfl) ?_
  refine ab_aload_n de_M_play_0 0 rfl ?_
  refine ab_iload_n de_M_play_1 1 rfl ?_
  refine ab_cV (as := [.int x]) (st := []) (ct_M_isCode l _ (ab_S nr h g rr) (x)) mo_M_isCode mi_M_isCode ml_M_168 rfl (by decide) rfl rfl rfl (Nat.le_of_ble_eq_true rfl) de_M_play_2 (fun v_ M_ hK_ hl_ hv_ => ?_)
  obtain ⟨rfl, hm_⟩ := hK_
  have hm_ := hm_.symm
  subst hm_
  change ab_G _ _ _ _ _ _ _ [(0, .ref 30), (1, .int x), (2, .int y)] [.int (ab_bz (sp_cd x))] (ab_S nr h g rr) _
  refine ab_if_ne (tgt := 14) de_M_play_5 rfl (fun c_5_1 => ?_) (fun c_5_1 => ?_)
  · obtain ⟨xn, hxn, rfl⟩ := sp_cd_n c_5_1
    refine ab_aload_n de_M_play_14 0 rfl ?_
    refine ab_iload_n de_M_play_15 1 rfl ?_
    refine ab_iload_n de_M_play_16 2 rfl ?_
    refine ab_aload_n de_M_play_17 0 rfl ?_
    refine ab_cV (as := []) (st := [.int y, .int (nI xn), .ref 30]) (ct_M_mineNow l _ nr h g rr hB ht) mo_M_mineNow mi_M_mineNow ml_M_213 rfl (by decide) rfl rfl rfl (Nat.le_of_ble_eq_true rfl) de_M_play_18 (fun v_ M_ hK_ hl_ hv_ => ?_)
    obtain ⟨rfl, hm_⟩ := hK_
    have hm_ := hm_.symm
    subst hm_
    change ab_G _ _ _ _ _ _ _ [(0, .ref 30), (1, .int (nI xn)), (2, .int y)] [.int (nI m), .int y, .int (nI xn), .ref 30] (ab_S nr h g rr) _
    refine ab_aload_n de_M_play_21 0 rfl ?_
    refine ab_cV (as := []) (st := [.int (nI m), .int y, .int (nI xn), .ref 30]) (ct_M_itsNow l _ nr h g rr hB ht) mo_M_itsNow mi_M_itsNow ml_M_216 rfl (by decide) rfl rfl rfl (Nat.le_of_ble_eq_true rfl) de_M_play_22 (fun v_ M_ hK_ hl_ hv_ => ?_)
    obtain ⟨rfl, hm_⟩ := hK_
    have hm_ := hm_.symm
    subst hm_
    change ab_G _ _ _ _ _ _ _ [(0, .ref 30), (1, .int (nI xn)), (2, .int y)] [.int (nI i), .int (nI m), .int y, .int (nI xn), .ref 30] (ab_S nr h g rr) _
    refine ab_cV (as := [.int (nI xn), .int y, .int (nI m), .int (nI i)]) (st := []) (ct_M_lawful_x l _ nr h g rr hTM hO (c := xn) (by omega) hm hi (y)) mo_M_lawful mi_M_lawful ml_M_204 rfl (by decide) rfl rfl rfl (Nat.le_of_ble_eq_true rfl) de_M_play_25 (fun v_ M_ hK_ hl_ hv_ => ?_)
    obtain ⟨rfl, hm_⟩ := hK_
    have hm_ := hm_.symm
    subst hm_
    change ab_G _ _ _ _ _ _ _ [(0, .ref 30), (1, .int (nI xn)), (2, .int y)] [.int (nI (md_hx T xn m i y))] (ab_S nr h g rr) _
    refine ab_if_ne (tgt := 38) de_M_play_28 rfl (fun c_28_2 => ?_) (fun c_28_2 => ?_)
    · obtain ⟨yn, hyn, rfl⟩ := md_hx_n c_28_2
      refine ab_aload_n de_M_play_38 0 rfl ?_
      refine ab_iload_n de_M_play_39 1 rfl ?_
      refine ab_iload_n de_M_play_40 2 rfl ?_
      refine ab_cV (as := [.int (nI xn), .int (nI yn)]) (st := []) (ct_M_goes l _ nr h g rr hTM hO (c := xn) (by omega) hm hi hd ht hB (x := yn) hyn.1) mo_M_goes mi_M_goes ml_M_232 rfl (by decide) rfl rfl rfl (Nat.le_of_ble_eq_true rfl) de_M_play_41 (fun v_ M_ hK_ hl_ hv_ => ?_)
      obtain ⟨rfl, hm_⟩ := hK_
      have hm_ := hm_.symm
      subst hm_
      change ab_G _ _ _ _ _ _ _ [(0, .ref 30), (1, .int (nI xn)), (2, .int (nI yn))] [] (ab_S nr (ab_u2 (ab_u2 (ab_u2 (ab_u2 (ab_u2 h 30 24 (nI (sp_d2 T (sp_lv T xn m i) m i yn))) 30 25 (nI (sp_d1 T (sp_lv T xn m i) m i yn))) 30 5 (nI (1 - t))) 30 3 (nI (if 1 - t = 0 then (sp_d2 T (sp_lv T xn m i) m i yn) else (sp_d1 T (sp_lv T xn m i) m i yn)))) 30 4 (nI (if 1 - t = 0 then (sp_d1 T (sp_lv T xn m i) m i yn) else (sp_d2 T (sp_lv T xn m i) m i yn)))) g rr) _
      refine ab_aload_n de_M_play_44 0 rfl ?_
      refine ab_aload_n de_M_play_45 0 rfl ?_
      refine ab_get (v := .int ((ab_u2 (ab_u2 (ab_u2 (ab_u2 (ab_u2 h 30 24 (nI (sp_d2 T (sp_lv T xn m i) m i yn))) 30 25 (nI (sp_d1 T (sp_lv T xn m i) m i yn))) 30 5 (nI (1 - t))) 30 3 (nI (if 1 - t = 0 then (sp_d2 T (sp_lv T xn m i) m i yn) else (sp_d1 T (sp_lv T xn m i) m i yn)))) 30 4 (nI (if 1 - t = 0 then (sp_d1 T (sp_lv T xn m i) m i yn) else (sp_d2 T (sp_lv T xn m i) m i yn)))) 30 3)) fl_M_171 rfl rfl de_M_play_46 ?_
      refine ab_top (v' := nI (if 1 - t = 0 then (sp_d2 T (sp_lv T xn m i) m i yn) else (sp_d1 T (sp_lv T xn m i) m i yn))) (rfl) ?_
      refine ab_aload_n de_M_play_49 0 rfl ?_
      refine ab_get (v := .int ((ab_u2 (ab_u2 (ab_u2 (ab_u2 (ab_u2 h 30 24 (nI (sp_d2 T (sp_lv T xn m i) m i yn))) 30 25 (nI (sp_d1 T (sp_lv T xn m i) m i yn))) 30 5 (nI (1 - t))) 30 3 (nI (if 1 - t = 0 then (sp_d2 T (sp_lv T xn m i) m i yn) else (sp_d1 T (sp_lv T xn m i) m i yn)))) 30 4 (nI (if 1 - t = 0 then (sp_d1 T (sp_lv T xn m i) m i yn) else (sp_d2 T (sp_lv T xn m i) m i yn)))) 30 4)) fl_M_174 rfl rfl de_M_play_50 ?_
      refine ab_top (v' := nI (if 1 - t = 0 then (sp_d1 T (sp_lv T xn m i) m i yn) else (sp_d2 T (sp_lv T xn m i) m i yn))) (rfl) ?_
      refine ab_ior de_M_play_53 ?_
      refine ab_top (v' := nI ((sp_d2 T (sp_lv T xn m i) m i yn) ||| (sp_d1 T (sp_lv T xn m i) m i yn))) ((ab_or _ _).trans (congrArg nI (by split <;> first | rfl | exact Nat.or_comm _ _))) ?_
      refine ab_cV (as := [.int (nI ((sp_d2 T (sp_lv T xn m i) m i yn) ||| (sp_d1 T (sp_lv T xn m i) m i yn)))]) (st := []) (ct_M_many l _ (ab_S nr (ab_u2 (ab_u2 (ab_u2 (ab_u2 (ab_u2 h 30 24 (nI (sp_d2 T (sp_lv T xn m i) m i yn))) 30 25 (nI (sp_d1 T (sp_lv T xn m i) m i yn))) 30 5 (nI (1 - t))) 30 3 (nI (if 1 - t = 0 then (sp_d2 T (sp_lv T xn m i) m i yn) else (sp_d1 T (sp_lv T xn m i) m i yn)))) 30 4 (nI (if 1 - t = 0 then (sp_d1 T (sp_lv T xn m i) m i yn) else (sp_d2 T (sp_lv T xn m i) m i yn)))) g rr) (b := sp_d2 T (sp_lv T xn m i) m i yn ||| sp_d1 T (sp_lv T xn m i) m i yn) (sp_orlt (sp_d2_lt hi hyn.1.2.1) (sp_d1_lt hm hyn.1.2.1))) mo_M_many mi_M_many ml_M_101 rfl (by decide) rfl rfl rfl (Nat.le_of_ble_eq_true rfl) de_M_play_54 (fun v_ M_ hK_ hl_ hv_ => ?_)
      obtain ⟨rfl, hm_⟩ := hK_
      have hm_ := hm_.symm
      subst hm_
      change ab_G _ _ _ _ _ _ _ [(0, .ref 30), (1, .int (nI xn)), (2, .int (nI yn))] [.int (nI (sp_cn ((sp_d2 T (sp_lv T xn m i) m i yn) ||| (sp_d1 T (sp_lv T xn m i) m i yn))))] (ab_S nr (ab_u2 (ab_u2 (ab_u2 (ab_u2 (ab_u2 h 30 24 (nI (sp_d2 T (sp_lv T xn m i) m i yn))) 30 25 (nI (sp_d1 T (sp_lv T xn m i) m i yn))) 30 5 (nI (1 - t))) 30 3 (nI (if 1 - t = 0 then (sp_d2 T (sp_lv T xn m i) m i yn) else (sp_d1 T (sp_lv T xn m i) m i yn)))) 30 4 (nI (if 1 - t = 0 then (sp_d1 T (sp_lv T xn m i) m i yn) else (sp_d2 T (sp_lv T xn m i) m i yn)))) g rr) _
      exact ab_ret (v := some (.int (nI (sp_cn ((sp_d2 T (sp_lv T xn m i) m i yn) ||| (sp_d1 T (sp_lv T xn m i) m i yn)))))) de_M_play_57 ⟨_, rfl⟩ ⟨_, _, (by unfold fx_M_play; try simp only [ab_tn (show xn < 2 ^ 31 by omega), ab_tn (show yn < 2 ^ 31 by omega)]; rw [if_neg c_5_1, if_neg c_28_2]), rfl, (md_K_fr (h := h) rfl rfl rfl rfl rfl kk_h), (md_kr_u2 (md_kr_u2 (md_kr_u2 (md_kr_u2 (md_kr_u2 ff_h _ _ _) _ _ _) _ _ _) _ _ _) _ _ _)⟩
    · refine ab_aload_n de_M_play_31 0 rfl ?_
      refine ab_bipush (v := -6) de_M_play_32 rfl ?_
      refine ab_cV (as := [.int (-6 : Int32)]) (st := []) (ct_M_no l _ nr h g rr (r := (-6 : Int32)) (k := 6) (by decide) (by decide)) mo_M_no mi_M_no ml_M_94 rfl (by decide) rfl rfl rfl (Nat.le_of_ble_eq_true rfl) de_M_play_34 (fun v_ M_ hK_ hl_ hv_ => ?_)
      obtain ⟨rfl, hm_⟩ := hK_
      have hm_ := hm_.symm
      subst hm_
      change ab_G _ _ _ _ _ _ _ [(0, .ref 30), (1, .int (nI xn)), (2, .int y)] [.int (-6 : Int32)] (ab_S nr (ab_u2 h 31 6 (h 31 6 + 1)) g rr) _
      exact ab_ret (v := some (.int (-6 : Int32))) de_M_play_37 ⟨_, rfl⟩ ⟨_, _, (by unfold fx_M_play; try simp only [ab_tn (show xn < 2 ^ 31 by omega)]; rw [if_neg c_5_1, if_pos c_28_2]), rfl, (md_K_31 kk_h _ _), (md_kr_31 ff_h _)⟩
  · refine ab_aload_n de_M_play_8 0 rfl ?_
    refine ab_iconst (v := -1) de_M_play_9 rfl ?_
    refine ab_cV (as := [.int (-1 : Int32)]) (st := []) (ct_M_no l _ nr h g rr (r := (-1 : Int32)) (k := 1) (by decide) (by decide)) mo_M_no mi_M_no ml_M_94 rfl (by decide) rfl rfl rfl (Nat.le_of_ble_eq_true rfl) de_M_play_10 (fun v_ M_ hK_ hl_ hv_ => ?_)
    obtain ⟨rfl, hm_⟩ := hK_
    have hm_ := hm_.symm
    subst hm_
    change ab_G _ _ _ _ _ _ _ [(0, .ref 30), (1, .int x), (2, .int y)] [.int (-1 : Int32)] (ab_S nr (ab_u2 h 31 1 (h 31 1 + 1)) g rr) _
    exact ab_ret (v := some (.int (-1 : Int32))) de_M_play_13 ⟨_, rfl⟩ ⟨_, _, (by unfold fx_M_play; rw [if_pos c_5_1]), rfl, (md_K_31 kk_h _ _), (md_kr_31 ff_h _)⟩
def fx_M_point (h : Nat → Nat → Int32) (a b : Nat) (x y : Int32) : Option Value × (Nat → Nat → Int32) :=
  if (ab_bz (sp_pt x)) = 0 then
    (some (.int (-1 : Int32)), (ab_u2 h 31 1 (h 31 1 + 1)))
  else
    if y < 0 then
      (some (.int (-6 : Int32)), (ab_u2 h 31 6 (h 31 6 + 1)))
    else
      if y ≤ (2 : Int32) then
        if y = (1 : Int32) then
          if y = (2 : Int32) then
            (some (.int (nI ((a.testBit x.toNatClampNeg).toNat + (2 * (b.testBit x.toNatClampNeg).toNat)))), (ab_u2 (ab_u2 h 30 3 (nI ((sp_clr a x.toNatClampNeg) ||| (2 ^ x.toNatClampNeg)))) 30 4 (nI ((sp_clr b x.toNatClampNeg) ||| (2 ^ x.toNatClampNeg)))))
          else
            (some (.int (nI ((a.testBit x.toNatClampNeg).toNat + (2 * (b.testBit x.toNatClampNeg).toNat)))), (ab_u2 (ab_u2 h 30 3 (nI ((sp_clr a x.toNatClampNeg) ||| (2 ^ x.toNatClampNeg)))) 30 4 (nI ((sp_clr b x.toNatClampNeg) ||| 0))))
        else
          if y = (2 : Int32) then
            (some (.int (nI ((a.testBit x.toNatClampNeg).toNat + (2 * (b.testBit x.toNatClampNeg).toNat)))), (ab_u2 (ab_u2 h 30 3 (nI ((sp_clr a x.toNatClampNeg) ||| 0))) 30 4 (nI ((sp_clr b x.toNatClampNeg) ||| (2 ^ x.toNatClampNeg)))))
          else
            (some (.int (nI ((a.testBit x.toNatClampNeg).toNat + (2 * (b.testBit x.toNatClampNeg).toNat)))), (ab_u2 (ab_u2 h 30 3 (nI ((sp_clr a x.toNatClampNeg) ||| 0))) 30 4 (nI ((sp_clr b x.toNatClampNeg) ||| 0))))
      else
        (some (.int (-6 : Int32)), (ab_u2 h 31 6 (h 31 6 + 1)))
set_option maxHeartbeats 1000000 in
set_option maxRecDepth 10000 in
theorem ct_M_point (l : Launch) (d : Nat) (nr : Nat) (h : Nat → Nat → Int32) (g : Nat → Nat → Int64) (rr : Nat → Option Nat) {a b : Nat} (ha : a < 4096) (hb : b < 4096) (hA : h 30 3 = nI a) (hB2 : h 30 4 = nI b) {T0_ : Nat → Nat → Nat} {Z0_ : sp_G} (hK : md_K T0_ Z0_ h) (x y : Int32) : ab_C l am_M_point (d + 1) 0 0 [.ref 30, .int x, .int y] (ab_S nr h g rr) (fun r_ M' => ∃ X h', (r_, X) = fx_M_point h a b x y ∧ M' = ab_S nr h' g rr ∧ md_K T0_ Z0_ h' ∧ md_kr X h') := by
  have ff_h := md_kr_rf h
  have kk_h := hK
  refine ab_C_of (by decide +kernel) rfl (Nat.le_of_ble_eq_true rfl) ?_
  refine ab_aload_n de_M_point_0 0 rfl ?_
  refine ab_iload_n de_M_point_1 1 rfl ?_
  refine ab_cV (as := [.int x]) (st := []) (ct_M_isPoint l _ (ab_S nr h g rr) (x)) mo_M_isPoint mi_M_isPoint ml_M_119 rfl (by decide) rfl rfl rfl (Nat.le_of_ble_eq_true rfl) de_M_point_2 (fun v_ M_ hK_ hl_ hv_ => ?_)
  obtain ⟨rfl, hm_⟩ := hK_
  have hm_ := hm_.symm
  subst hm_
  change ab_G _ _ _ _ _ _ _ [(0, .ref 30), (1, .int x), (2, .int y)] [.int (ab_bz (sp_pt x))] (ab_S nr h g rr) _
  refine ab_if_ne (tgt := 14) de_M_point_5 rfl (fun c_5_1 => ?_) (fun c_5_1 => ?_)
  · obtain ⟨xn, hxn, rfl⟩ := sp_pt__n c_5_1
    refine ab_iload_n de_M_point_14 2 rfl ?_
    refine ab_if_lt (tgt := 23) de_M_point_15 rfl (fun c_15_2 => ?_) (fun c_15_2 => ?_)
    · refine ab_aload_n de_M_point_23 0 rfl ?_
      refine ab_bipush (v := -6) de_M_point_24 rfl ?_
      refine ab_cV (as := [.int (-6 : Int32)]) (st := []) (ct_M_no l _ nr h g rr (r := (-6 : Int32)) (k := 6) (by decide) (by decide)) mo_M_no mi_M_no ml_M_94 rfl (by decide) rfl rfl rfl (Nat.le_of_ble_eq_true rfl) de_M_point_26 (fun v_ M_ hK_ hl_ hv_ => ?_)
      obtain ⟨rfl, hm_⟩ := hK_
      have hm_ := hm_.symm
      subst hm_
      change ab_G _ _ _ _ _ _ _ [(0, .ref 30), (1, .int (nI xn)), (2, .int y)] [.int (-6 : Int32)] (ab_S nr (ab_u2 h 31 6 (h 31 6 + 1)) g rr) _
      exact ab_ret (v := some (.int (-6 : Int32))) de_M_point_29 ⟨_, rfl⟩ ⟨_, _, (by unfold fx_M_point; try simp only [ab_tn (show xn < 2 ^ 31 by omega)]; rw [if_neg c_5_1, if_pos c_15_2]), rfl, (md_K_31 kk_h _ _), (md_kr_31 ff_h _)⟩
    · refine ab_iload_n de_M_point_18 2 rfl ?_
      refine ab_iconst (v := 2) de_M_point_19 rfl ?_
      refine ab_icmp_le (tgt := 30) de_M_point_20 rfl (fun c_20_3 => ?_) (fun c_20_3 => ?_)
      · refine ab_aload_n de_M_point_30 0 rfl ?_
        refine ab_get (v := .int (h 30 3)) fl_M_171 rfl rfl de_M_point_31 ?_
        refine ab_top (v' := nI a) (hA) ?_
        refine ab_iload_n de_M_point_34 1 rfl ?_
        refine ab_ishr de_M_point_35 ?_
        refine ab_top (v' := nI (a >>> xn)) (ab_shr (by omega) (by omega)) ?_
        refine ab_iconst (v := 1) de_M_point_36 rfl ?_
        refine ab_iand de_M_point_37 ?_
        refine ab_top (v' := nI (a.testBit xn).toNat) ((ab_and _ 1).trans (congrArg nI (sp_bit1 _ _))) ?_
        refine ab_iconst (v := 2) de_M_point_38 rfl ?_
        refine ab_aload_n de_M_point_39 0 rfl ?_
        refine ab_get (v := .int (h 30 4)) fl_M_174 rfl rfl de_M_point_40 ?_
        refine ab_top (v' := nI b) (hB2) ?_
        refine ab_iload_n de_M_point_43 1 rfl ?_
        refine ab_ishr de_M_point_44 ?_
        refine ab_top (v' := nI (b >>> xn)) (ab_shr (by omega) (by omega)) ?_
        refine ab_iconst (v := 1) de_M_point_45 rfl ?_
        refine ab_iand de_M_point_46 ?_
        refine ab_top (v' := nI (b.testBit xn).toNat) ((ab_and _ 1).trans (congrArg nI (sp_bit1 _ _))) ?_
        refine ab_imul de_M_point_47 ?_
        refine ab_top (v' := nI (2 * (b.testBit xn).toNat)) (ab_mul _ _) ?_
        refine ab_iadd de_M_point_48 ?_
        refine ab_top (v' := nI ((a.testBit xn).toNat + (2 * (b.testBit xn).toNat))) (ab_add _ _) ?_
        refine ab_istore_n (L' := [(3, .int (nI ((a.testBit xn).toNat + (2 * (b.testBit xn).toNat)))), (0, .ref 30), (1, .int (nI xn)), (2, .int y)]) de_M_point_49 (by decide) rfl ?_
        refine ab_aload_n de_M_point_50 1 rfl ?_
        refine ab_aload_n de_M_point_51 1 rfl ?_
        refine ab_get (v := .int (h 30 3)) fl_M_171 rfl rfl de_M_point_52 ?_
        refine ab_top (v' := nI a) (hA) ?_
        refine ab_iconst (v := 1) de_M_point_55 rfl ?_
        refine ab_iload_n de_M_point_56 2 rfl ?_
        refine ab_ishl de_M_point_57 ?_
        refine ab_top (v' := nI (2 ^ xn)) ((ab_shl 1 (by omega)).trans (congrArg nI (Nat.one_shiftLeft _))) ?_
        refine ab_iconst (v := -1) de_M_point_58 rfl ?_
        refine ab_ixor de_M_point_59 ?_
        refine ab_iand de_M_point_60 ?_
        refine ab_top (v' := nI (sp_clr a xn)) (sp_clrI (by omega) (by omega)) ?_
        refine ab_iload_n de_M_point_61 3 rfl ?_
        refine ab_iconst (v := 1) de_M_point_62 rfl ?_
        refine ab_icmp_ne (tgt := 72) de_M_point_63 rfl (fun c_63_4 => ?_) (fun c_63_4 => ?_)
        · refine ab_iconst (v := 0) de_M_point_72 rfl ?_
          refine ab_ior de_M_point_73 ?_
          refine ab_top (v' := nI ((sp_clr a xn) ||| 0)) (ab_or _ _) ?_
          refine ab_putI (x := 30) (j := 3) fl_M_171 rfl (Or.inl rfl) rfl rfl rfl de_M_point_74 ?_
          change ab_G _ _ _ _ _ _ _ _ _ (ab_S nr (ab_u2 h 30 3 (nI ((sp_clr a xn) ||| 0))) g rr) _
          refine ab_aload_n de_M_point_77 1 rfl ?_
          refine ab_aload_n de_M_point_78 1 rfl ?_
          refine ab_get (v := .int ((ab_u2 h 30 3 (nI ((sp_clr a xn) ||| 0))) 30 4)) fl_M_174 rfl rfl de_M_point_79 ?_
          refine ab_top (v' := nI b) (hB2) ?_
          refine ab_iconst (v := 1) de_M_point_82 rfl ?_
          refine ab_iload_n de_M_point_83 2 rfl ?_
          refine ab_ishl de_M_point_84 ?_
          refine ab_top (v' := nI (2 ^ xn)) ((ab_shl 1 (by omega)).trans (congrArg nI (Nat.one_shiftLeft _))) ?_
          refine ab_iconst (v := -1) de_M_point_85 rfl ?_
          refine ab_ixor de_M_point_86 ?_
          refine ab_iand de_M_point_87 ?_
          refine ab_top (v' := nI (sp_clr b xn)) (sp_clrI (by omega) (by omega)) ?_
          refine ab_iload_n de_M_point_88 3 rfl ?_
          refine ab_iconst (v := 2) de_M_point_89 rfl ?_
          refine ab_icmp_ne (tgt := 99) de_M_point_90 rfl (fun c_90_5 => ?_) (fun c_90_5 => ?_)
          · refine ab_iconst (v := 0) de_M_point_99 rfl ?_
            refine ab_ior de_M_point_100 ?_
            refine ab_top (v' := nI ((sp_clr b xn) ||| 0)) (ab_or _ _) ?_
            refine ab_putI (x := 30) (j := 4) fl_M_174 rfl (Or.inl rfl) rfl rfl rfl de_M_point_101 ?_
            change ab_G _ _ _ _ _ _ _ _ _ (ab_S nr (ab_u2 (ab_u2 h 30 3 (nI ((sp_clr a xn) ||| 0))) 30 4 (nI ((sp_clr b xn) ||| 0))) g rr) _
            refine ab_iload_n de_M_point_104 0 rfl ?_
            exact ab_ret (v := some (.int (nI ((a.testBit xn).toNat + (2 * (b.testBit xn).toNat))))) de_M_point_105 ⟨_, rfl⟩ ⟨_, _, (by unfold fx_M_point; try simp only [ab_tn (show xn < 2 ^ 31 by omega)]; rw [if_neg c_5_1, if_neg c_15_2, if_pos c_20_3, if_neg c_63_4, if_neg c_90_5]), rfl, (md_K_fr (h := h) rfl rfl rfl rfl rfl kk_h), (md_kr_u2 (md_kr_u2 ff_h _ _ _) _ _ _)⟩
          · refine ab_iconst (v := 1) de_M_point_93 rfl ?_
            refine ab_iload_n de_M_point_94 2 rfl ?_
            refine ab_ishl de_M_point_95 ?_
            refine ab_top (v' := nI (2 ^ xn)) ((ab_shl 1 (by omega)).trans (congrArg nI (Nat.one_shiftLeft _))) ?_
            refine ab_goto (tgt := 100) de_M_point_96 rfl ?_
            refine ab_ior de_M_point_100 ?_
            refine ab_top (v' := nI ((sp_clr b xn) ||| (2 ^ xn))) (ab_or _ _) ?_
            refine ab_putI (x := 30) (j := 4) fl_M_174 rfl (Or.inl rfl) rfl rfl rfl de_M_point_101 ?_
            change ab_G _ _ _ _ _ _ _ _ _ (ab_S nr (ab_u2 (ab_u2 h 30 3 (nI ((sp_clr a xn) ||| 0))) 30 4 (nI ((sp_clr b xn) ||| (2 ^ xn)))) g rr) _
            refine ab_iload_n de_M_point_104 0 rfl ?_
            exact ab_ret (v := some (.int (nI ((a.testBit xn).toNat + (2 * (b.testBit xn).toNat))))) de_M_point_105 ⟨_, rfl⟩ ⟨_, _, (by unfold fx_M_point; try simp only [ab_tn (show xn < 2 ^ 31 by omega)]; rw [if_neg c_5_1, if_neg c_15_2, if_pos c_20_3, if_neg c_63_4, if_pos c_90_5]), rfl, (md_K_fr (h := h) rfl rfl rfl rfl rfl kk_h), (md_kr_u2 (md_kr_u2 ff_h _ _ _) _ _ _)⟩
        · refine ab_iconst (v := 1) de_M_point_66 rfl ?_
          refine ab_iload_n de_M_point_67 2 rfl ?_
          refine ab_ishl de_M_point_68 ?_
          refine ab_top (v' := nI (2 ^ xn)) ((ab_shl 1 (by omega)).trans (congrArg nI (Nat.one_shiftLeft _))) ?_
          refine ab_goto (tgt := 73) de_M_point_69 rfl ?_
          refine ab_ior de_M_point_73 ?_
          refine ab_top (v' := nI ((sp_clr a xn) ||| (2 ^ xn))) (ab_or _ _) ?_
          refine ab_putI (x := 30) (j := 3) fl_M_171 rfl (Or.inl rfl) rfl rfl rfl de_M_point_74 ?_
          change ab_G _ _ _ _ _ _ _ _ _ (ab_S nr (ab_u2 h 30 3 (nI ((sp_clr a xn) ||| (2 ^ xn)))) g rr) _
          refine ab_aload_n de_M_point_77 1 rfl ?_
          refine ab_aload_n de_M_point_78 1 rfl ?_
          refine ab_get (v := .int ((ab_u2 h 30 3 (nI ((sp_clr a xn) ||| (2 ^ xn)))) 30 4)) fl_M_174 rfl rfl de_M_point_79 ?_
          refine ab_top (v' := nI b) (hB2) ?_
          refine ab_iconst (v := 1) de_M_point_82 rfl ?_
          refine ab_iload_n de_M_point_83 2 rfl ?_
          refine ab_ishl de_M_point_84 ?_
          refine ab_top (v' := nI (2 ^ xn)) ((ab_shl 1 (by omega)).trans (congrArg nI (Nat.one_shiftLeft _))) ?_
          refine ab_iconst (v := -1) de_M_point_85 rfl ?_
          refine ab_ixor de_M_point_86 ?_
          refine ab_iand de_M_point_87 ?_
          refine ab_top (v' := nI (sp_clr b xn)) (sp_clrI (by omega) (by omega)) ?_
          refine ab_iload_n de_M_point_88 3 rfl ?_
          refine ab_iconst (v := 2) de_M_point_89 rfl ?_
          refine ab_icmp_ne (tgt := 99) de_M_point_90 rfl (fun c_90_6 => ?_) (fun c_90_6 => ?_)
          · refine ab_iconst (v := 0) de_M_point_99 rfl ?_
            refine ab_ior de_M_point_100 ?_
            refine ab_top (v' := nI ((sp_clr b xn) ||| 0)) (ab_or _ _) ?_
            refine ab_putI (x := 30) (j := 4) fl_M_174 rfl (Or.inl rfl) rfl rfl rfl de_M_point_101 ?_
            change ab_G _ _ _ _ _ _ _ _ _ (ab_S nr (ab_u2 (ab_u2 h 30 3 (nI ((sp_clr a xn) ||| (2 ^ xn)))) 30 4 (nI ((sp_clr b xn) ||| 0))) g rr) _
            refine ab_iload_n de_M_point_104 0 rfl ?_
            exact ab_ret (v := some (.int (nI ((a.testBit xn).toNat + (2 * (b.testBit xn).toNat))))) de_M_point_105 ⟨_, rfl⟩ ⟨_, _, (by unfold fx_M_point; try simp only [ab_tn (show xn < 2 ^ 31 by omega)]; rw [if_neg c_5_1, if_neg c_15_2, if_pos c_20_3, if_pos c_63_4, if_neg c_90_6]), rfl, (md_K_fr (h := h) rfl rfl rfl rfl rfl kk_h), (md_kr_u2 (md_kr_u2 ff_h _ _ _) _ _ _)⟩
          · refine ab_iconst (v := 1) de_M_point_93 rfl ?_
            refine ab_iload_n de_M_point_94 2 rfl ?_
            refine ab_ishl de_M_point_95 ?_
            refine ab_top (v' := nI (2 ^ xn)) ((ab_shl 1 (by omega)).trans (congrArg nI (Nat.one_shiftLeft _))) ?_
            refine ab_goto (tgt := 100) de_M_point_96 rfl ?_
            refine ab_ior de_M_point_100 ?_
            refine ab_top (v' := nI ((sp_clr b xn) ||| (2 ^ xn))) (ab_or _ _) ?_
            refine ab_putI (x := 30) (j := 4) fl_M_174 rfl (Or.inl rfl) rfl rfl rfl de_M_point_101 ?_
            change ab_G _ _ _ _ _ _ _ _ _ (ab_S nr (ab_u2 (ab_u2 h 30 3 (nI ((sp_clr a xn) ||| (2 ^ xn)))) 30 4 (nI ((sp_clr b xn) ||| (2 ^ xn)))) g rr) _
            refine ab_iload_n de_M_point_104 0 rfl ?_
            exact ab_ret (v := some (.int (nI ((a.testBit xn).toNat + (2 * (b.testBit xn).toNat))))) de_M_point_105 ⟨_, rfl⟩ ⟨_, _, (by unfold fx_M_point; try simp only [ab_tn (show xn < 2 ^ 31 by omega)]; rw [if_neg c_5_1, if_neg c_15_2, if_pos c_20_3, if_pos c_63_4, if_pos c_90_6]), rfl, (md_K_fr (h := h) rfl rfl rfl rfl rfl kk_h), (md_kr_u2 (md_kr_u2 ff_h _ _ _) _ _ _)⟩
      · refine ab_aload_n de_M_point_23 0 rfl ?_
        refine ab_bipush (v := -6) de_M_point_24 rfl ?_
        refine ab_cV (as := [.int (-6 : Int32)]) (st := []) (ct_M_no l _ nr h g rr (r := (-6 : Int32)) (k := 6) (by decide) (by decide)) mo_M_no mi_M_no ml_M_94 rfl (by decide) rfl rfl rfl (Nat.le_of_ble_eq_true rfl) de_M_point_26 (fun v_ M_ hK_ hl_ hv_ => ?_)
        obtain ⟨rfl, hm_⟩ := hK_
        have hm_ := hm_.symm
        subst hm_
        change ab_G _ _ _ _ _ _ _ [(0, .ref 30), (1, .int (nI xn)), (2, .int y)] [.int (-6 : Int32)] (ab_S nr (ab_u2 h 31 6 (h 31 6 + 1)) g rr) _
        exact ab_ret (v := some (.int (-6 : Int32))) de_M_point_29 ⟨_, rfl⟩ ⟨_, _, (by unfold fx_M_point; try simp only [ab_tn (show xn < 2 ^ 31 by omega)]; rw [if_neg c_5_1, if_neg c_15_2, if_neg c_20_3]), rfl, (md_K_31 kk_h _ _), (md_kr_31 ff_h _)⟩
  · refine ab_aload_n de_M_point_8 0 rfl ?_
    refine ab_iconst (v := -1) de_M_point_9 rfl ?_
    refine ab_cV (as := [.int (-1 : Int32)]) (st := []) (ct_M_no l _ nr h g rr (r := (-1 : Int32)) (k := 1) (by decide) (by decide)) mo_M_no mi_M_no ml_M_94 rfl (by decide) rfl rfl rfl (Nat.le_of_ble_eq_true rfl) de_M_point_10 (fun v_ M_ hK_ hl_ hv_ => ?_)
    obtain ⟨rfl, hm_⟩ := hK_
    have hm_ := hm_.symm
    subst hm_
    change ab_G _ _ _ _ _ _ _ [(0, .ref 30), (1, .int x), (2, .int y)] [.int (-1 : Int32)] (ab_S nr (ab_u2 h 31 1 (h 31 1 + 1)) g rr) _
    exact ab_ret (v := some (.int (-1 : Int32))) de_M_point_13 ⟨_, rfl⟩ ⟨_, _, (by unfold fx_M_point; rw [if_pos c_5_1]), rfl, (md_K_31 kk_h _ _), (md_kr_31 ff_h _)⟩
def fx_M_trace (h : Nat → Nat → Int32)  (x : Int32) : Option Value × (Nat → Nat → Int32) :=
  if x < 0 then
    (some (.int (-1 : Int32)), h)
  else
    if (20 : Int32) ≤ x then
      (some (.int (-1 : Int32)), h)
    else
      if (h 30 37) ≤ (nI (x.toNatClampNeg)) then
        (some (.int (-1 : Int32)), h)
      else
        (some (.int (h 49 x.toNatClampNeg)), h)
set_option maxHeartbeats 1000000 in
set_option maxRecDepth 10000 in
theorem ct_M_trace (l : Launch) (d : Nat) (nr : Nat) (h : Nat → Nat → Int32) (g : Nat → Nat → Int64) (rr : Nat → Option Nat)  {T0_ : Nat → Nat → Nat} {Z0_ : sp_G} (hK : md_K T0_ Z0_ h) (x : Int32) : ab_C l am_M_trace (d + 0) 0 0 [.ref 30, .int x] (ab_S nr h g rr) (fun r_ M' => ∃ X h', (r_, X) = fx_M_trace h x ∧ M' = ab_S nr h' g rr ∧ md_K T0_ Z0_ h' ∧ md_kr X h') := by
  have ff_h := md_kr_rf h
  have kk_h := hK
  refine ab_C_of (by decide +kernel) rfl (Nat.le_of_ble_eq_true rfl) ?_
  refine ab_iload_n de_M_trace_0 1 rfl ?_
  refine ab_if_lt (tgt := 27) de_M_trace_1 rfl (fun c_1_1 => ?_) (fun c_1_1 => ?_)
  · refine ab_iconst (v := -1) de_M_trace_27 rfl ?_
    exact ab_ret (v := some (.int (-1 : Int32))) de_M_trace_28 ⟨_, rfl⟩ ⟨_, _, (by unfold fx_M_trace; rw [if_pos c_1_1]), rfl, kk_h, ff_h⟩
  · have c1_ := c_1_1
    refine ab_iload_n de_M_trace_4 1 rfl ?_
    refine ab_bipush (v := 20) de_M_trace_5 rfl ?_
    refine ab_icmp_ge (tgt := 27) de_M_trace_7 rfl (fun c_7_2 => ?_) (fun c_7_2 => ?_)
    · refine ab_iconst (v := -1) de_M_trace_27 rfl ?_
      exact ab_ret (v := some (.int (-1 : Int32))) de_M_trace_28 ⟨_, rfl⟩ ⟨_, _, (by unfold fx_M_trace; rw [if_neg c_1_1, if_pos c_7_2]), rfl, kk_h, ff_h⟩
    · obtain ⟨xn, hxn, rfl⟩ := sp_bt_n (N := 20) (by decide) c1_ (Int32.not_le.mp c_7_2)
      refine ab_iload_n de_M_trace_10 1 rfl ?_
      refine ab_aload_n de_M_trace_11 0 rfl ?_
      refine ab_get (v := .int (h 30 37)) fl_M_287 rfl rfl de_M_trace_12 ?_
      refine ab_icmp_ge (tgt := 27) de_M_trace_15 rfl (fun c_15_3 => ?_) (fun c_15_3 => ?_)
      · refine ab_iconst (v := -1) de_M_trace_27 rfl ?_
        exact ab_ret (v := some (.int (-1 : Int32))) de_M_trace_28 ⟨_, rfl⟩ ⟨_, _, (by unfold fx_M_trace; try simp only [ab_tn (show xn < 2 ^ 31 by omega)]; rw [if_neg c_1_1, if_neg c_7_2, if_pos c_15_3]), rfl, kk_h, ff_h⟩
      · refine ab_aload_n de_M_trace_18 0 rfl ?_
        refine ab_get (v := .ref 49) fl_M_75 rfl rfl de_M_trace_19 ?_
        refine ab_iload_n de_M_trace_22 1 rfl ?_
        refine ab_iald (v := h 49 xn) rfl (ab_in (by omega) (by decide)) (ab_hv (ab_tn (n := xn) (by omega))) de_M_trace_23 ?_
        refine ab_goto (tgt := 28) de_M_trace_24 rfl ?_
        exact ab_ret (v := some (.int (h 49 xn))) de_M_trace_28 ⟨_, rfl⟩ ⟨_, _, (by unfold fx_M_trace; try simp only [ab_tn (show xn < 2 ^ 31 by omega)]; rw [if_neg c_1_1, if_neg c_7_2, if_neg c_15_3]), rfl, kk_h, ff_h⟩
