/-! the reference: tie, copy -/
set_option maxHeartbeats 1000000 in
set_option maxRecDepth 10000 in
theorem ct_M_forgets (l : Launch) (d : Nat) (nr : Nat) (h : Nat → Nat → Int32) (g : Nat → Nat → Int64) (rr : Nat → Option Nat)  : ab_C l am_M_forgets d 0 0 [.ref 30] (ab_S nr h g rr) (fun (r_ : Option Value) (M' : ab_Me) => r_ = none ∧ M' = (ab_S nr (ab_u2 (ab_u2 (ab_u2 h 30 31 (-1 : Int32)) 30 32 (0 : Int32)) 30 33 (-1 : Int32)) g rr)) := by
  refine ab_C_of (by decide +kernel) rfl (Nat.le_of_ble_eq_true rfl) ?_
  refine ab_aload_n de_M_forgets_0 0 rfl ?_
  refine ab_iconst (v := -1) de_M_forgets_1 rfl ?_
  refine ab_putI (x := 30) (j := 31) fl_M_63 rfl (Or.inl rfl) rfl rfl rfl de_M_forgets_2 ?_
  change ab_G _ _ _ _ _ _ _ _ _ (ab_S nr (ab_u2 h 30 31 (-1 : Int32)) g rr) _
  refine ab_aload_n de_M_forgets_5 0 rfl ?_
  refine ab_iconst (v := 0) de_M_forgets_6 rfl ?_
  refine ab_putI (x := 30) (j := 32) fl_M_258 rfl (Or.inl rfl) rfl rfl rfl de_M_forgets_7 ?_
  change ab_G _ _ _ _ _ _ _ _ _ (ab_S nr (ab_u2 (ab_u2 h 30 31 (-1 : Int32)) 30 32 (0 : Int32)) g rr) _
  refine ab_aload_n de_M_forgets_10 0 rfl ?_
  refine ab_iconst (v := -1) de_M_forgets_11 rfl ?_
  refine ab_putI (x := 30) (j := 33) fl_M_66 rfl (Or.inl rfl) rfl rfl rfl de_M_forgets_12 ?_
  change ab_G _ _ _ _ _ _ _ _ _ (ab_S nr (ab_u2 (ab_u2 (ab_u2 h 30 31 (-1 : Int32)) 30 32 (0 : Int32)) 30 33 (-1 : Int32)) g rr) _
  exact ab_ret (v := none) de_M_forgets_15 rfl ⟨rfl, rfl⟩
def fx_M_tie (nr : Nat) (h : Nat → Nat → Int32) (g : Nat → Nat → Int64) (rr : Nat → Option Nat)  (T : Nat → Nat → Nat) (x y z w : Int32) : Option Value × ab_Me :=
  if (ab_bz (sp_pt x)) = 0 then
    (some (.int (-1 : Int32)), (ab_S nr (ab_u2 h 31 1 (h 31 1 + 1)) g rr))
  else
    if (ab_bz (sp_pt y)) = 0 then
      (some (.int (-1 : Int32)), (ab_S nr (ab_u2 h 31 1 (h 31 1 + 1)) g rr))
    else
      if z < 0 then
        (some (.int (-1 : Int32)), (ab_S nr (ab_u2 h 31 1 (h 31 1 + 1)) g rr))
      else
        if z ≤ (2 : Int32) then
          if (nI (x.toNatClampNeg)) = (nI (y.toNatClampNeg)) then
            (some (.int (-6 : Int32)), (ab_S nr (ab_u2 h 31 6 (h 31 6 + 1)) g rr))
          else
            if (nI ((T z.toNatClampNeg x.toNatClampNeg).testBit y.toNatClampNeg).toNat) = (1 : Int32) then
              if (1 : Int32) = w then
                (some (.int (0 : Int32)), (ab_S nr h g rr))
              else
                (some (.int (1 : Int32)), (ab_S nr (ab_u2 (ab_u2 (ab_u2 (ab_u2 (ab_u2 h 32 ((12 * z.toNatClampNeg) + x.toNatClampNeg) (nI ((T z.toNatClampNeg x.toNatClampNeg) ^^^ (2 ^ y.toNatClampNeg)))) 32 ((12 * z.toNatClampNeg) + y.toNatClampNeg) (nI ((T z.toNatClampNeg y.toNatClampNeg) ^^^ (2 ^ x.toNatClampNeg)))) 30 31 (-1 : Int32)) 30 32 (0 : Int32)) 30 33 (-1 : Int32)) g rr))
            else
              if (0 : Int32) = w then
                (some (.int (0 : Int32)), (ab_S nr h g rr))
              else
                (some (.int (1 : Int32)), (ab_S nr (ab_u2 (ab_u2 (ab_u2 (ab_u2 (ab_u2 h 32 ((12 * z.toNatClampNeg) + x.toNatClampNeg) (nI ((T z.toNatClampNeg x.toNatClampNeg) ^^^ (2 ^ y.toNatClampNeg)))) 32 ((12 * z.toNatClampNeg) + y.toNatClampNeg) (nI ((T z.toNatClampNeg y.toNatClampNeg) ^^^ (2 ^ x.toNatClampNeg)))) 30 31 (-1 : Int32)) 30 32 (0 : Int32)) 30 33 (-1 : Int32)) g rr))
        else
          (some (.int (-1 : Int32)), (ab_S nr (ab_u2 h 31 1 (h 31 1 + 1)) g rr))
set_option maxHeartbeats 1000000 in
set_option maxRecDepth 10000 in
theorem ct_M_tie (l : Launch) (d : Nat) (nr : Nat) (h : Nat → Nat → Int32) (g : Nat → Nat → Int64) (rr : Nat → Option Nat)  {T : Nat → Nat → Nat} (hTM : bo_T T h 32) (hO : sp_ok T) (x y z w : Int32) : ab_C l am_M_tie (d + 1) 0 0 [.ref 30, .int x, .int y, .int z, .int w] (ab_S nr h g rr) (fun r_ M' => (r_, M') = fx_M_tie nr h g rr T x y z w) := by
  refine ab_C_of (by decide +kernel) rfl (Nat.le_of_ble_eq_true rfl) ?_
  refine ab_aload_n de_M_tie_0 0 rfl ?_
  refine ab_iload_n de_M_tie_1 1 rfl ?_
  refine ab_cV (as := [.int x]) (st := []) (ct_M_isPoint l _ (ab_S nr h g rr) (x)) mo_M_isPoint mi_M_isPoint ml_M_119 rfl (by decide) rfl rfl rfl (Nat.le_of_ble_eq_true rfl) de_M_tie_2 (fun v_ M_ hK_ hl_ hv_ => ?_)
  obtain ⟨rfl, hm_⟩ := hK_
  have hm_ := hm_.symm
  subst hm_
  change ab_G _ _ _ _ _ _ _ [(0, .ref 30), (1, .int x), (2, .int y), (3, .int z), (4, .int w)] [.int (ab_bz (sp_pt x))] (ab_S nr h g rr) _
  refine ab_if_eq (tgt := 25) de_M_tie_5 rfl (fun c_5_1 => ?_) (fun c_5_1 => ?_)
  · refine ab_aload_n de_M_tie_25 0 rfl ?_
    refine ab_iconst (v := -1) de_M_tie_26 rfl ?_
    refine ab_cV (as := [.int (-1 : Int32)]) (st := []) (ct_M_no l _ nr h g rr (r := (-1 : Int32)) (k := 1) (by decide) (by decide)) mo_M_no mi_M_no ml_M_94 rfl (by decide) rfl rfl rfl (Nat.le_of_ble_eq_true rfl) de_M_tie_27 (fun v_ M_ hK_ hl_ hv_ => ?_)
    obtain ⟨rfl, hm_⟩ := hK_
    have hm_ := hm_.symm
    subst hm_
    change ab_G _ _ _ _ _ _ _ [(0, .ref 30), (1, .int x), (2, .int y), (3, .int z), (4, .int w)] [.int (-1 : Int32)] (ab_S nr (ab_u2 h 31 1 (h 31 1 + 1)) g rr) _
    exact ab_ret (v := some (.int (-1 : Int32))) de_M_tie_30 ⟨_, rfl⟩ (by unfold fx_M_tie; rw [if_pos c_5_1])
  · obtain ⟨xn, hxn, rfl⟩ := sp_pt__n c_5_1
    refine ab_aload_n de_M_tie_8 0 rfl ?_
    refine ab_iload_n de_M_tie_9 2 rfl ?_
    refine ab_cV (as := [.int y]) (st := []) (ct_M_isPoint l _ (ab_S nr h g rr) (y)) mo_M_isPoint mi_M_isPoint ml_M_119 rfl (by decide) rfl rfl rfl (Nat.le_of_ble_eq_true rfl) de_M_tie_10 (fun v_ M_ hK_ hl_ hv_ => ?_)
    obtain ⟨rfl, hm_⟩ := hK_
    have hm_ := hm_.symm
    subst hm_
    change ab_G _ _ _ _ _ _ _ [(0, .ref 30), (1, .int (nI xn)), (2, .int y), (3, .int z), (4, .int w)] [.int (ab_bz (sp_pt y))] (ab_S nr h g rr) _
    refine ab_if_eq (tgt := 25) de_M_tie_13 rfl (fun c_13_2 => ?_) (fun c_13_2 => ?_)
    · refine ab_aload_n de_M_tie_25 0 rfl ?_
      refine ab_iconst (v := -1) de_M_tie_26 rfl ?_
      refine ab_cV (as := [.int (-1 : Int32)]) (st := []) (ct_M_no l _ nr h g rr (r := (-1 : Int32)) (k := 1) (by decide) (by decide)) mo_M_no mi_M_no ml_M_94 rfl (by decide) rfl rfl rfl (Nat.le_of_ble_eq_true rfl) de_M_tie_27 (fun v_ M_ hK_ hl_ hv_ => ?_)
      obtain ⟨rfl, hm_⟩ := hK_
      have hm_ := hm_.symm
      subst hm_
      change ab_G _ _ _ _ _ _ _ [(0, .ref 30), (1, .int (nI xn)), (2, .int y), (3, .int z), (4, .int w)] [.int (-1 : Int32)] (ab_S nr (ab_u2 h 31 1 (h 31 1 + 1)) g rr) _
      exact ab_ret (v := some (.int (-1 : Int32))) de_M_tie_30 ⟨_, rfl⟩ (by unfold fx_M_tie; try simp only [ab_tn (show xn < 2 ^ 31 by omega)]; rw [if_neg c_5_1, if_pos c_13_2])
    · obtain ⟨yn, hyn, rfl⟩ := sp_pt__n c_13_2
      refine ab_iload_n de_M_tie_16 3 rfl ?_
      refine ab_if_lt (tgt := 25) de_M_tie_17 rfl (fun c_17_3 => ?_) (fun c_17_3 => ?_)
      · refine ab_aload_n de_M_tie_25 0 rfl ?_
        refine ab_iconst (v := -1) de_M_tie_26 rfl ?_
        refine ab_cV (as := [.int (-1 : Int32)]) (st := []) (ct_M_no l _ nr h g rr (r := (-1 : Int32)) (k := 1) (by decide) (by decide)) mo_M_no mi_M_no ml_M_94 rfl (by decide) rfl rfl rfl (Nat.le_of_ble_eq_true rfl) de_M_tie_27 (fun v_ M_ hK_ hl_ hv_ => ?_)
        obtain ⟨rfl, hm_⟩ := hK_
        have hm_ := hm_.symm
        subst hm_
        change ab_G _ _ _ _ _ _ _ [(0, .ref 30), (1, .int (nI xn)), (2, .int (nI yn)), (3, .int z), (4, .int w)] [.int (-1 : Int32)] (ab_S nr (ab_u2 h 31 1 (h 31 1 + 1)) g rr) _
        exact ab_ret (v := some (.int (-1 : Int32))) de_M_tie_30 ⟨_, rfl⟩ (by unfold fx_M_tie; try simp only [ab_tn (show xn < 2 ^ 31 by omega), ab_tn (show yn < 2 ^ 31 by omega)]; rw [if_neg c_5_1, if_neg c_13_2, if_pos c_17_3])
      · have c17_ := c_17_3
        refine ab_iload_n de_M_tie_20 3 rfl ?_
        refine ab_iconst (v := 2) de_M_tie_21 rfl ?_
        refine ab_icmp_le (tgt := 31) de_M_tie_22 rfl (fun c_22_4 => ?_) (fun c_22_4 => ?_)
        · obtain ⟨zn, hzn, rfl⟩ := sp_btl_n (a := 0) (N := 2) (by decide) (Int32.not_lt.mp c17_) (by decide) c_22_4
          refine ab_iload_n de_M_tie_31 1 rfl ?_
          refine ab_iload_n de_M_tie_32 2 rfl ?_
          refine ab_icmp_ne (tgt := 43) de_M_tie_33 rfl (fun c_33_5 => ?_) (fun c_33_5 => ?_)
          · have xy_ : ¬ xn = yn := fun z => c_33_5 (by rw [z])
            have t1_ := hO.lt (k := zn) (p := xn) (by omega) (by omega)
            have t2_ := hO.lt (k := zn) (p := yn) (by omega) (by omega)
            refine ab_aload_n de_M_tie_43 0 rfl ?_
            refine ab_get (v := .ref 32) fl_M_17 rfl rfl de_M_tie_44 ?_
            refine ab_bipush (v := 12) de_M_tie_47 rfl ?_
            refine ab_iload_n de_M_tie_49 3 rfl ?_
            refine ab_imul de_M_tie_50 ?_
            refine ab_top (v' := nI (12 * zn)) (ab_mul _ _) ?_
            refine ab_iload_n de_M_tie_51 1 rfl ?_
            refine ab_iadd de_M_tie_52 ?_
            refine ab_top (v' := nI ((12 * zn) + xn)) (ab_add _ _) ?_
            refine ab_iald (v := h 32 ((12 * zn) + xn)) rfl (ab_in (by omega) (by decide)) (ab_hv (ab_tn (n := ((12 * zn) + xn)) (by omega))) de_M_tie_53 ?_
            refine ab_top (v' := nI (T zn xn)) (hTM zn xn (by omega) (by omega)) ?_
            refine ab_iload_n de_M_tie_54 2 rfl ?_
            refine ab_ishr de_M_tie_55 ?_
            refine ab_top (v' := nI ((T zn xn) >>> yn)) (ab_shr (by omega) (by omega)) ?_
            refine ab_iconst (v := 1) de_M_tie_56 rfl ?_
            refine ab_iand de_M_tie_57 ?_
            refine ab_top (v' := nI ((T zn xn).testBit yn).toNat) ((ab_and _ 1).trans (congrArg nI (sp_bit1 _ _))) ?_
            refine ab_iconst (v := 1) de_M_tie_58 rfl ?_
            refine ab_icmp_ne (tgt := 66) de_M_tie_59 rfl (fun c_59_6 => ?_) (fun c_59_6 => ?_)
            · refine ab_iconst (v := 0) de_M_tie_66 rfl ?_
              refine ab_istore (L' := [(5, .int (0 : Int32)), (0, .ref 30), (1, .int (nI xn)), (2, .int (nI yn)), (3, .int (nI zn)), (4, .int w)]) de_M_tie_67 (by decide) rfl ?_
              refine ab_iload de_M_tie_69 0 rfl ?_
              refine ab_iload de_M_tie_71 5 rfl ?_
              refine ab_icmp_ne (tgt := 78) de_M_tie_73 rfl (fun c_73_7 => ?_) (fun c_73_7 => ?_)
              · refine ab_aload_n de_M_tie_78 1 rfl ?_
                refine ab_get (v := .ref 32) fl_M_17 rfl rfl de_M_tie_79 ?_
                refine ab_bipush (v := 12) de_M_tie_82 rfl ?_
                refine ab_iload_n de_M_tie_84 4 rfl ?_
                refine ab_imul de_M_tie_85 ?_
                refine ab_top (v' := nI (12 * zn)) (ab_mul _ _) ?_
                refine ab_iload_n de_M_tie_86 2 rfl ?_
                refine ab_iadd de_M_tie_87 ?_
                refine ab_top (v' := nI ((12 * zn) + xn)) (ab_add _ _) ?_
                refine ab_dup2 de_M_tie_88 rfl rfl ?_
                refine ab_iald (v := h 32 ((12 * zn) + xn)) rfl (ab_in (by omega) (by decide)) (ab_hv (ab_tn (n := ((12 * zn) + xn)) (by omega))) de_M_tie_89 ?_
                refine ab_top (v' := nI (T zn xn)) (hTM zn xn (by omega) (by omega)) ?_
                refine ab_iconst (v := 1) de_M_tie_90 rfl ?_
                refine ab_iload_n de_M_tie_91 3 rfl ?_
                refine ab_ishl de_M_tie_92 ?_
                refine ab_top (v' := nI (2 ^ yn)) ((ab_shl 1 (by omega)).trans (congrArg nI (Nat.one_shiftLeft _))) ?_
                refine ab_ixor de_M_tie_93 ?_
                refine ab_top (v' := nI ((T zn xn) ^^^ (2 ^ yn))) (ab_xor _ _) ?_
                refine ab_iast (x := 32) rfl (ab_in (by omega) (by decide)) de_M_tie_94 ?_
                rw [(ab_tn (n := ((12 * zn) + xn)) (by omega))]
                change ab_G _ _ _ _ _ _ _ _ _ (ab_S nr (ab_u2 h 32 ((12 * zn) + xn) (nI ((T zn xn) ^^^ (2 ^ yn)))) g rr) _
                refine ab_aload_n de_M_tie_95 1 rfl ?_
                refine ab_get (v := .ref 32) fl_M_17 rfl rfl de_M_tie_96 ?_
                refine ab_bipush (v := 12) de_M_tie_99 rfl ?_
                refine ab_iload_n de_M_tie_101 4 rfl ?_
                refine ab_imul de_M_tie_102 ?_
                refine ab_top (v' := nI (12 * zn)) (ab_mul _ _) ?_
                refine ab_iload_n de_M_tie_103 3 rfl ?_
                refine ab_iadd de_M_tie_104 ?_
                refine ab_top (v' := nI ((12 * zn) + yn)) (ab_add _ _) ?_
                refine ab_dup2 de_M_tie_105 rfl rfl ?_
                refine ab_iald (v := (ab_u2 h 32 ((12 * zn) + xn) (nI ((T zn xn) ^^^ (2 ^ yn)))) 32 ((12 * zn) + yn)) rfl (ab_in (by omega) (by decide)) (ab_hv (ab_tn (n := ((12 * zn) + yn)) (by omega))) de_M_tie_106 ?_
                refine ab_top (v' := nI (T zn yn)) ((ab_u2_ne (by omega)).trans (hTM zn yn (by omega) (by omega))) ?_
                refine ab_iconst (v := 1) de_M_tie_107 rfl ?_
                refine ab_iload_n de_M_tie_108 2 rfl ?_
                refine ab_ishl de_M_tie_109 ?_
                refine ab_top (v' := nI (2 ^ xn)) ((ab_shl 1 (by omega)).trans (congrArg nI (Nat.one_shiftLeft _))) ?_
                refine ab_ixor de_M_tie_110 ?_
                refine ab_top (v' := nI ((T zn yn) ^^^ (2 ^ xn))) (ab_xor _ _) ?_
                refine ab_iast (x := 32) rfl (ab_in (by omega) (by decide)) de_M_tie_111 ?_
                rw [(ab_tn (n := ((12 * zn) + yn)) (by omega))]
                change ab_G _ _ _ _ _ _ _ _ _ (ab_S nr (ab_u2 (ab_u2 h 32 ((12 * zn) + xn) (nI ((T zn xn) ^^^ (2 ^ yn)))) 32 ((12 * zn) + yn) (nI ((T zn yn) ^^^ (2 ^ xn)))) g rr) _
                refine ab_aload_n de_M_tie_112 1 rfl ?_
                refine ab_cV (as := []) (st := []) (ct_M_forgets l _ nr (ab_u2 (ab_u2 h 32 ((12 * zn) + xn) (nI ((T zn xn) ^^^ (2 ^ yn)))) 32 ((12 * zn) + yn) (nI ((T zn yn) ^^^ (2 ^ xn)))) g rr) mo_M_forgets mi_M_forgets ml_M_122 rfl (by decide) rfl rfl rfl (Nat.le_of_ble_eq_true rfl) de_M_tie_113 (fun v_ M_ hK_ hl_ hv_ => ?_)
                obtain ⟨rfl, hm_⟩ := hK_
                have hm_ := hm_.symm
                subst hm_
                change ab_G _ _ _ _ _ _ _ [(5, .int (0 : Int32)), (0, .ref 30), (1, .int (nI xn)), (2, .int (nI yn)), (3, .int (nI zn)), (4, .int w)] [] (ab_S nr (ab_u2 (ab_u2 (ab_u2 (ab_u2 (ab_u2 h 32 ((12 * zn) + xn) (nI ((T zn xn) ^^^ (2 ^ yn)))) 32 ((12 * zn) + yn) (nI ((T zn yn) ^^^ (2 ^ xn)))) 30 31 (-1 : Int32)) 30 32 (0 : Int32)) 30 33 (-1 : Int32)) g rr) _
                refine ab_iconst (v := 1) de_M_tie_116 rfl ?_
                exact ab_ret (v := some (.int (1 : Int32))) de_M_tie_117 ⟨_, rfl⟩ (by unfold fx_M_tie; try simp only [ab_tn (show xn < 2 ^ 31 by omega), ab_tn (show yn < 2 ^ 31 by omega), ab_tn (show zn < 2 ^ 31 by omega)]; rw [if_neg c_5_1, if_neg c_13_2, if_neg c_17_3, if_pos c_22_4, if_neg c_33_5, if_neg c_59_6, if_neg c_73_7])
              · refine ab_iconst (v := 0) de_M_tie_76 rfl ?_
                exact ab_ret (v := some (.int (0 : Int32))) de_M_tie_77 ⟨_, rfl⟩ (by unfold fx_M_tie; try simp only [ab_tn (show xn < 2 ^ 31 by omega), ab_tn (show yn < 2 ^ 31 by omega), ab_tn (show zn < 2 ^ 31 by omega)]; rw [if_neg c_5_1, if_neg c_13_2, if_neg c_17_3, if_pos c_22_4, if_neg c_33_5, if_neg c_59_6, if_pos c_73_7])
            · refine ab_iconst (v := 1) de_M_tie_62 rfl ?_
              refine ab_goto (tgt := 67) de_M_tie_63 rfl ?_
              refine ab_istore (L' := [(5, .int (1 : Int32)), (0, .ref 30), (1, .int (nI xn)), (2, .int (nI yn)), (3, .int (nI zn)), (4, .int w)]) de_M_tie_67 (by decide) rfl ?_
              refine ab_iload de_M_tie_69 0 rfl ?_
              refine ab_iload de_M_tie_71 5 rfl ?_
              refine ab_icmp_ne (tgt := 78) de_M_tie_73 rfl (fun c_73_8 => ?_) (fun c_73_8 => ?_)
              · refine ab_aload_n de_M_tie_78 1 rfl ?_
                refine ab_get (v := .ref 32) fl_M_17 rfl rfl de_M_tie_79 ?_
                refine ab_bipush (v := 12) de_M_tie_82 rfl ?_
                refine ab_iload_n de_M_tie_84 4 rfl ?_
                refine ab_imul de_M_tie_85 ?_
                refine ab_top (v' := nI (12 * zn)) (ab_mul _ _) ?_
                refine ab_iload_n de_M_tie_86 2 rfl ?_
                refine ab_iadd de_M_tie_87 ?_
                refine ab_top (v' := nI ((12 * zn) + xn)) (ab_add _ _) ?_
                refine ab_dup2 de_M_tie_88 rfl rfl ?_
                refine ab_iald (v := h 32 ((12 * zn) + xn)) rfl (ab_in (by omega) (by decide)) (ab_hv (ab_tn (n := ((12 * zn) + xn)) (by omega))) de_M_tie_89 ?_
                refine ab_top (v' := nI (T zn xn)) (hTM zn xn (by omega) (by omega)) ?_
                refine ab_iconst (v := 1) de_M_tie_90 rfl ?_
                refine ab_iload_n de_M_tie_91 3 rfl ?_
                refine ab_ishl de_M_tie_92 ?_
                refine ab_top (v' := nI (2 ^ yn)) ((ab_shl 1 (by omega)).trans (congrArg nI (Nat.one_shiftLeft _))) ?_
                refine ab_ixor de_M_tie_93 ?_
                refine ab_top (v' := nI ((T zn xn) ^^^ (2 ^ yn))) (ab_xor _ _) ?_
                refine ab_iast (x := 32) rfl (ab_in (by omega) (by decide)) de_M_tie_94 ?_
                rw [(ab_tn (n := ((12 * zn) + xn)) (by omega))]
                change ab_G _ _ _ _ _ _ _ _ _ (ab_S nr (ab_u2 h 32 ((12 * zn) + xn) (nI ((T zn xn) ^^^ (2 ^ yn)))) g rr) _
                refine ab_aload_n de_M_tie_95 1 rfl ?_
                refine ab_get (v := .ref 32) fl_M_17 rfl rfl de_M_tie_96 ?_
                refine ab_bipush (v := 12) de_M_tie_99 rfl ?_
                refine ab_iload_n de_M_tie_101 4 rfl ?_
                refine ab_imul de_M_tie_102 ?_
                refine ab_top (v' := nI (12 * zn)) (ab_mul _ _) ?_
                refine ab_iload_n de_M_tie_103 3 rfl ?_
                refine ab_iadd de_M_tie_104 ?_
                refine ab_top (v' := nI ((12 * zn) + yn)) (ab_add _ _) ?_
                refine ab_dup2 de_M_tie_105 rfl rfl ?_
                refine ab_iald (v := (ab_u2 h 32 ((12 * zn) + xn) (nI ((T zn xn) ^^^ (2 ^ yn)))) 32 ((12 * zn) + yn)) rfl (ab_in (by omega) (by decide)) (ab_hv (ab_tn (n := ((12 * zn) + yn)) (by omega))) de_M_tie_106 ?_
                refine ab_top (v' := nI (T zn yn)) ((ab_u2_ne (by omega)).trans (hTM zn yn (by omega) (by omega))) ?_
                refine ab_iconst (v := 1) de_M_tie_107 rfl ?_
                refine ab_iload_n de_M_tie_108 2 rfl ?_
                refine ab_ishl de_M_tie_109 ?_
                refine ab_top (v' := nI (2 ^ xn)) ((ab_shl 1 (by omega)).trans (congrArg nI (Nat.one_shiftLeft _))) ?_
                refine ab_ixor de_M_tie_110 ?_
                refine ab_top (v' := nI ((T zn yn) ^^^ (2 ^ xn))) (ab_xor _ _) ?_
                refine ab_iast (x := 32) rfl (ab_in (by omega) (by decide)) de_M_tie_111 ?_
                rw [(ab_tn (n := ((12 * zn) + yn)) (by omega))]
                change ab_G _ _ _ _ _ _ _ _ _ (ab_S nr (ab_u2 (ab_u2 h 32 ((12 * zn) + xn) (nI ((T zn xn) ^^^ (2 ^ yn)))) 32 ((12 * zn) + yn) (nI ((T zn yn) ^^^ (2 ^ xn)))) g rr) _
                refine ab_aload_n de_M_tie_112 1 rfl ?_
                refine ab_cV (as := []) (st := []) (ct_M_forgets l _ nr (ab_u2 (ab_u2 h 32 ((12 * zn) + xn) (nI ((T zn xn) ^^^ (2 ^ yn)))) 32 ((12 * zn) + yn) (nI ((T zn yn) ^^^ (2 ^ xn)))) g rr) mo_M_forgets mi_M_forgets ml_M_122 rfl (by decide) rfl rfl rfl (Nat.le_of_ble_eq_true rfl) de_M_tie_113 (fun v_ M_ hK_ hl_ hv_ => ?_)
                obtain ⟨rfl, hm_⟩ := hK_
                have hm_ := hm_.symm
                subst hm_
                change ab_G _ _ _ _ _ _ _ [(5, .int (1 : Int32)), (0, .ref 30), (1, .int (nI xn)), (2, .int (nI yn)), (3, .int (nI zn)), (4, .int w)] [] (ab_S nr (ab_u2 (ab_u2 (ab_u2 (ab_u2 (ab_u2 h 32 ((12 * zn) + xn) (nI ((T zn xn) ^^^ (2 ^ yn)))) 32 ((12 * zn) + yn) (nI ((T zn yn) ^^^ (2 ^ xn)))) 30 31 (-1 : Int32)) 30 32 (0 : Int32)) 30 33 (-1 : Int32)) g rr) _
                refine ab_iconst (v := 1) de_M_tie_116 rfl ?_
                exact ab_ret (v := some (.int (1 : Int32))) de_M_tie_117 ⟨_, rfl⟩ (by unfold fx_M_tie; try simp only [ab_tn (show xn < 2 ^ 31 by omega), ab_tn (show yn < 2 ^ 31 by omega), ab_tn (show zn < 2 ^ 31 by omega)]; rw [if_neg c_5_1, if_neg c_13_2, if_neg c_17_3, if_pos c_22_4, if_neg c_33_5, if_pos c_59_6, if_neg c_73_8])
              · refine ab_iconst (v := 0) de_M_tie_76 rfl ?_
                exact ab_ret (v := some (.int (0 : Int32))) de_M_tie_77 ⟨_, rfl⟩ (by unfold fx_M_tie; try simp only [ab_tn (show xn < 2 ^ 31 by omega), ab_tn (show yn < 2 ^ 31 by omega), ab_tn (show zn < 2 ^ 31 by omega)]; rw [if_neg c_5_1, if_neg c_13_2, if_neg c_17_3, if_pos c_22_4, if_neg c_33_5, if_pos c_59_6, if_pos c_73_8])
          · refine ab_aload_n de_M_tie_36 0 rfl ?_
            refine ab_bipush (v := -6) de_M_tie_37 rfl ?_
            refine ab_cV (as := [.int (-6 : Int32)]) (st := []) (ct_M_no l _ nr h g rr (r := (-6 : Int32)) (k := 6) (by decide) (by decide)) mo_M_no mi_M_no ml_M_94 rfl (by decide) rfl rfl rfl (Nat.le_of_ble_eq_true rfl) de_M_tie_39 (fun v_ M_ hK_ hl_ hv_ => ?_)
            obtain ⟨rfl, hm_⟩ := hK_
            have hm_ := hm_.symm
            subst hm_
            change ab_G _ _ _ _ _ _ _ [(0, .ref 30), (1, .int (nI xn)), (2, .int (nI yn)), (3, .int (nI zn)), (4, .int w)] [.int (-6 : Int32)] (ab_S nr (ab_u2 h 31 6 (h 31 6 + 1)) g rr) _
            exact ab_ret (v := some (.int (-6 : Int32))) de_M_tie_42 ⟨_, rfl⟩ (by unfold fx_M_tie; try simp only [ab_tn (show xn < 2 ^ 31 by omega), ab_tn (show yn < 2 ^ 31 by omega), ab_tn (show zn < 2 ^ 31 by omega)]; rw [if_neg c_5_1, if_neg c_13_2, if_neg c_17_3, if_pos c_22_4, if_pos c_33_5])
        · refine ab_aload_n de_M_tie_25 0 rfl ?_
          refine ab_iconst (v := -1) de_M_tie_26 rfl ?_
          refine ab_cV (as := [.int (-1 : Int32)]) (st := []) (ct_M_no l _ nr h g rr (r := (-1 : Int32)) (k := 1) (by decide) (by decide)) mo_M_no mi_M_no ml_M_94 rfl (by decide) rfl rfl rfl (Nat.le_of_ble_eq_true rfl) de_M_tie_27 (fun v_ M_ hK_ hl_ hv_ => ?_)
          obtain ⟨rfl, hm_⟩ := hK_
          have hm_ := hm_.symm
          subst hm_
          change ab_G _ _ _ _ _ _ _ [(0, .ref 30), (1, .int (nI xn)), (2, .int (nI yn)), (3, .int z), (4, .int w)] [.int (-1 : Int32)] (ab_S nr (ab_u2 h 31 1 (h 31 1 + 1)) g rr) _
          exact ab_ret (v := some (.int (-1 : Int32))) de_M_tie_30 ⟨_, rfl⟩ (by unfold fx_M_tie; try simp only [ab_tn (show xn < 2 ^ 31 by omega), ab_tn (show yn < 2 ^ 31 by omega)]; rw [if_neg c_5_1, if_neg c_13_2, if_neg c_17_3, if_neg c_22_4])
