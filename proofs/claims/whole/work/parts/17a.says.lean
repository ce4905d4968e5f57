/-! the reference: says -/
theorem md_low_64 : ∀ a, a < 64 → ∀ b, b < 64 → (sp_kd (64 * a + b) = 1 ∨ sp_kd (64 * a + b) = 2) → ¬ ((64 * a + b) &&& 7) ||| (((64 * a + b) >>> 3) &&& 7) = 0 := by decide +kernel
theorem md_low {c : Nat} (hc : c < 4096) (h : sp_kd c = 1 ∨ sp_kd c = 2) : ¬ (c &&& 7) ||| ((c >>> 3) &&& 7) = 0 := by
  have z := md_low_64 (c / 64) (by omega) (c % 64) (by omega)
  rw [Nat.div_add_mod] at z
  exact z h
theorem md_low8 (c : Nat) : (c &&& 7) ||| ((c >>> 3) &&& 7) < 8 := Nat.or_lt_two_pow (n := 3) (Nat.lt_of_le_of_lt Nat.and_le_right (by decide)) (Nat.lt_of_le_of_lt Nat.and_le_right (by decide))
theorem md_kd3 {c : Nat} {x : Int32} (h : x = nI (sp_kd c)) (h3 : x < 3) : sp_kd c = 1 ∨ sp_kd c = 2 := by
  subst h
  have := (ab_lt (b := 3) (by have := sp_kd_rg c; omega) (by decide)).mp h3
  have := sp_kd_rg c
  omega
def fx_M_says (nr : Nat) (h : Nat → Nat → Int32) (g : Nat → Nat → Int64) (rr : Nat → Option Nat)  (n_ : Nat) (cs : Nat → Nat) (s x : Int32) : Option Value × ab_Me :=
  if (ab_bz (sp_sh s)) = 0 then
    (some (.int (-1 : Int32)), (ab_S nr (ab_u2 h 31 1 (h 31 1 + 1)) g rr))
  else
    if x < 0 then
      (some (.int (-1 : Int32)), (ab_S nr (ab_u2 h 31 1 (h 31 1 + 1)) g rr))
    else
      if x ≤ (7 : Int32) then
        if (h 38 s.toNatClampNeg) = (1 : Int32) then
          (some (.int (-2 : Int32)), (ab_S nr (ab_u2 h 31 2 (h 31 2 + 1)) g rr))
        else
          if (h 38 s.toNatClampNeg) = 0 then
            (some (.int (-3 : Int32)), (ab_S nr (ab_u2 h 31 3 (h 31 3 + 1)) g rr))
          else
            if x = 0 then
              (some (.int (nI (cs (h 41 s.toNatClampNeg).toNatClampNeg))), (ab_S nr h g rr))
            else
              if x = (nI (sp_kd (cs (h 41 s.toNatClampNeg).toNatClampNeg))) then
                if (3 : Int32) ≤ x then
                  if (6 : Int32) ≤ x then
                    if x = (6 : Int32) then
                      (some (.int (nI (cs (h 41 s.toNatClampNeg).toNatClampNeg / 1024))), (ab_S nr h g rr))
                    else
                      (some (.int (nI (sp_pc (cs (h 41 s.toNatClampNeg).toNatClampNeg)))), (ab_S nr h g rr))
                  else
                    (some (.int (nI (sp_pr (cs (h 41 s.toNatClampNeg).toNatClampNeg)))), (ab_S nr h g rr))
                else
                  (some (.int (nI (md_lw ((((cs (h 41 s.toNatClampNeg).toNatClampNeg) &&& 7) ||| (((cs (h 41 s.toNatClampNeg).toNatClampNeg) >>> 3) &&& 7)))))), (ab_S nr h g rr))
              else
                if x = (1 : Int32) then
                  if (nI (sp_kd (cs (h 41 s.toNatClampNeg).toNatClampNeg))) = (2 : Int32) then
                    if (3 : Int32) ≤ x then
                      if (6 : Int32) ≤ x then
                        if x = (6 : Int32) then
                          (some (.int (nI (cs (h 41 s.toNatClampNeg).toNatClampNeg / 1024))), (ab_S nr h g rr))
                        else
                          (some (.int (nI (sp_pc (cs (h 41 s.toNatClampNeg).toNatClampNeg)))), (ab_S nr h g rr))
                      else
                        (some (.int (nI (sp_pr (cs (h 41 s.toNatClampNeg).toNatClampNeg)))), (ab_S nr h g rr))
                    else
                      (some (.int (nI (md_lw ((((cs (h 41 s.toNatClampNeg).toNatClampNeg) &&& 7) ||| (((cs (h 41 s.toNatClampNeg).toNatClampNeg) >>> 3) &&& 7)))))), (ab_S nr h g rr))
                  else
                    (some (.int (-2 : Int32)), (ab_S nr (ab_u2 h 31 2 (h 31 2 + 1)) g rr))
                else
                  (some (.int (-2 : Int32)), (ab_S nr (ab_u2 h 31 2 (h 31 2 + 1)) g rr))
      else
        (some (.int (-1 : Int32)), (ab_S nr (ab_u2 h 31 1 (h 31 1 + 1)) g rr))
set_option maxHeartbeats 1000000 in
set_option maxRecDepth 10000 in
theorem ct_M_says (l : Launch) (d : Nat) (nr : Nat) (h : Nat → Nat → Int32) (g : Nat → Nat → Int64) (rr : Nat → Option Nat)  {n_ : Nat} (hMR : h 30 0 = nI n_) (hn5 : n_ ≤ 8) {cs : Nat → Nat} (hcs : ∀ k, k < n_ → h 33 k = nI (cs k) ∧ 1 ≤ cs k ∧ cs k < 4096) (hshw : ∀ s, s < 8 → ¬ h 38 s = 1 → ¬ h 38 s = 0 → ∃ r, r < n_ ∧ h 41 s = nI r) (s x : Int32) : ab_C l am_M_says (d + 3) 0 0 [.ref 30, .int s, .int x] (ab_S nr h g rr) (fun r_ M' => (r_, M') = fx_M_says nr h g rr n_ cs s x) := by
  refine ab_C_of (by decide +kernel) rfl (Nat.le_of_ble_eq_true rfl) ?_
  refine ab_aload_n de_M_says_0 0 rfl ?_
  refine ab_iload_n de_M_says_1 1 rfl ?_
  refine ab_cV (as := [.int s]) (st := []) (ct_M_isShelf l _ (ab_S nr h g rr) (s)) mo_M_isShelf mi_M_isShelf ml_M_90 rfl (by decide) rfl rfl rfl (Nat.le_of_ble_eq_true rfl) de_M_says_2 (fun v_ M_ hK_ hl_ hv_ => ?_)
  obtain ⟨rfl, hm_⟩ := hK_
  have hm_ := hm_.symm
  subst hm_
  change ab_G _ _ _ _ _ _ _ [(0, .ref 30), (1, .int s), (2, .int x)] [.int (ab_bz (sp_sh s))] (ab_S nr h g rr) _
  refine ab_if_eq (tgt := 18) de_M_says_5 rfl (fun c_5_1 => ?_) (fun c_5_1 => ?_)
  · refine ab_aload_n de_M_says_18 0 rfl ?_
    refine ab_iconst (v := -1) de_M_says_19 rfl ?_
    refine ab_cV (as := [.int (-1 : Int32)]) (st := []) (ct_M_no l _ nr h g rr (r := (-1 : Int32)) (k := 1) (by decide) (by decide)) mo_M_no mi_M_no ml_M_94 rfl (by decide) rfl rfl rfl (Nat.le_of_ble_eq_true rfl) de_M_says_20 (fun v_ M_ hK_ hl_ hv_ => ?_)
    obtain ⟨rfl, hm_⟩ := hK_
    have hm_ := hm_.symm
    subst hm_
    change ab_G _ _ _ _ _ _ _ [(0, .ref 30), (1, .int s), (2, .int x)] [.int (-1 : Int32)] (ab_S nr (ab_u2 h 31 1 (h 31 1 + 1)) g rr) _
    exact ab_ret (v := some (.int (-1 : Int32))) de_M_says_23 ⟨_, rfl⟩ (by unfold fx_M_says; rw [if_pos c_5_1])
  · obtain ⟨sn, hsn, rfl⟩ := sp_sh_n c_5_1
    refine ab_iload_n de_M_says_8 2 rfl ?_
    refine ab_if_lt (tgt := 18) de_M_says_9 rfl (fun c_9_2 => ?_) (fun c_9_2 => ?_)
    · refine ab_aload_n de_M_says_18 0 rfl ?_
      refine ab_iconst (v := -1) de_M_says_19 rfl ?_
      refine ab_cV (as := [.int (-1 : Int32)]) (st := []) (ct_M_no l _ nr h g rr (r := (-1 : Int32)) (k := 1) (by decide) (by decide)) mo_M_no mi_M_no ml_M_94 rfl (by decide) rfl rfl rfl (Nat.le_of_ble_eq_true rfl) de_M_says_20 (fun v_ M_ hK_ hl_ hv_ => ?_)
      obtain ⟨rfl, hm_⟩ := hK_
      have hm_ := hm_.symm
      subst hm_
      change ab_G _ _ _ _ _ _ _ [(0, .ref 30), (1, .int (nI sn)), (2, .int x)] [.int (-1 : Int32)] (ab_S nr (ab_u2 h 31 1 (h 31 1 + 1)) g rr) _
      exact ab_ret (v := some (.int (-1 : Int32))) de_M_says_23 ⟨_, rfl⟩ (by unfold fx_M_says; try simp only [ab_tn (show sn < 2 ^ 31 by omega)]; rw [if_neg c_5_1, if_pos c_9_2])
    · refine ab_iload_n de_M_says_12 2 rfl ?_
      refine ab_bipush (v := 7) de_M_says_13 rfl ?_
      refine ab_icmp_le (tgt := 24) de_M_says_15 rfl (fun c_15_3 => ?_) (fun c_15_3 => ?_)
      · refine ab_aload_n de_M_says_24 0 rfl ?_
        refine ab_get (v := .ref 38) fl_M_35 rfl rfl de_M_says_25 ?_
        refine ab_iload_n de_M_says_28 1 rfl ?_
        refine ab_iald (v := h 38 sn) rfl (ab_in (by omega) (by decide)) (ab_hv (ab_tn (n := sn) (by omega))) de_M_says_29 ?_
        refine ab_iconst (v := 1) de_M_says_30 rfl ?_
        refine ab_icmp_ne (tgt := 41) de_M_says_31 rfl (fun c_31_4 => ?_) (fun c_31_4 => ?_)
        · have c31_ := c_31_4
          refine ab_aload_n de_M_says_41 0 rfl ?_
          refine ab_get (v := .ref 38) fl_M_35 rfl rfl de_M_says_42 ?_
          refine ab_iload_n de_M_says_45 1 rfl ?_
          refine ab_iald (v := h 38 sn) rfl (ab_in (by omega) (by decide)) (ab_hv (ab_tn (n := sn) (by omega))) de_M_says_46 ?_
          refine ab_if_ne (tgt := 57) de_M_says_47 rfl (fun c_47_5 => ?_) (fun c_47_5 => ?_)
          · obtain ⟨rn, hrn, er_⟩ := hshw sn (by omega) c31_ c_47_5
            have cl_ := (hcs rn hrn).2.2
            refine ab_aload_n de_M_says_57 0 rfl ?_
            refine ab_get (v := .ref 33) fl_M_20 rfl rfl de_M_says_58 ?_
            refine ab_aload_n de_M_says_61 0 rfl ?_
            refine ab_get (v := .ref 41) fl_M_44 rfl rfl de_M_says_62 ?_
            refine ab_iload_n de_M_says_65 1 rfl ?_
            refine ab_iald (v := h 41 sn) rfl (ab_in (by omega) (by decide)) (ab_hv (ab_tn (n := sn) (by omega))) de_M_says_66 ?_
            refine ab_top (v' := nI rn) (er_) ?_
            refine ab_iald (v := h 33 rn) rfl (ab_in (by omega) (by decide)) (ab_hv (ab_tn (n := rn) (by omega))) de_M_says_67 ?_
            refine ab_top (v' := nI (cs rn)) ((hcs rn hrn).1) ?_
            refine ab_istore_n (L' := [(3, .int (nI (cs rn))), (0, .ref 30), (1, .int (nI sn)), (2, .int x)]) de_M_says_68 (by decide) rfl ?_
            refine ab_aload_n de_M_says_69 1 rfl ?_
            refine ab_iload_n de_M_says_70 0 rfl ?_
            refine ab_cV (as := [.int (nI (cs rn))]) (st := []) (ct_M_kindOf l _ nr h g rr (c := cs rn) (hcs rn hrn).2.2 (hcs rn hrn).2.1) mo_M_kindOf mi_M_kindOf ml_M_110 rfl (by decide) rfl rfl rfl (Nat.le_of_ble_eq_true rfl) de_M_says_71 (fun v_ M_ hK_ hl_ hv_ => ?_)
            obtain ⟨rfl, hm_⟩ := hK_
            have hm_ := hm_.symm
            subst hm_
            change ab_G _ _ _ _ _ _ _ [(3, .int (nI (cs rn))), (0, .ref 30), (1, .int (nI sn)), (2, .int x)] [.int (nI (sp_kd (cs rn)))] (ab_S nr h g rr) _
            refine ab_istore (L' := [(4, .int (nI (sp_kd (cs rn)))), (3, .int (nI (cs rn))), (0, .ref 30), (1, .int (nI sn)), (2, .int x)]) de_M_says_74 (by decide) rfl ?_
            refine ab_iload_n de_M_says_76 4 rfl ?_
            refine ab_if_eq (tgt := 104) de_M_says_77 rfl (fun c_77_6 => ?_) (fun c_77_6 => ?_)
            · refine ab_iload_n de_M_says_104 4 rfl ?_
              refine ab_if_ne (tgt := 110) de_M_says_105 rfl (fun c_105_7 => ?_) (fun c_105_7 => ?_)
              · exact absurd c_77_6 c_105_7
              · refine ab_iload_n de_M_says_108 1 rfl ?_
                exact ab_ret (v := some (.int (nI (cs rn)))) de_M_says_109 ⟨_, rfl⟩ (by unfold fx_M_says; try simp only [ab_tn (show sn < 2 ^ 31 by omega), er_, ab_tn (show rn < 2 ^ 31 by omega)]; rw [if_neg c_5_1, if_neg c_9_2, if_pos c_15_3, if_neg c_31_4, if_neg c_47_5, if_pos c_77_6])
            · refine ab_iload_n de_M_says_80 4 rfl ?_
              refine ab_iload de_M_says_81 0 rfl ?_
              refine ab_icmp_eq (tgt := 104) de_M_says_83 rfl (fun c_83_8 => ?_) (fun c_83_8 => ?_)
              · refine ab_iload_n de_M_says_104 4 rfl ?_
                refine ab_if_ne (tgt := 110) de_M_says_105 rfl (fun c_105_9 => ?_) (fun c_105_9 => ?_)
                · refine ab_iload_n de_M_says_110 4 rfl ?_
                  refine ab_iconst (v := 3) de_M_says_111 rfl ?_
                  refine ab_icmp_ge (tgt := 131) de_M_says_112 rfl (fun c_112_10 => ?_) (fun c_112_10 => ?_)
                  · refine ab_iload_n de_M_says_131 4 rfl ?_
                    refine ab_bipush (v := 6) de_M_says_132 rfl ?_
                    refine ab_icmp_ge (tgt := 143) de_M_says_134 rfl (fun c_134_11 => ?_) (fun c_134_11 => ?_)
                    · refine ab_iload_n de_M_says_143 4 rfl ?_
                      refine ab_bipush (v := 6) de_M_says_144 rfl ?_
                      refine ab_icmp_ne (tgt := 157) de_M_says_146 rfl (fun c_146_12 => ?_) (fun c_146_12 => ?_)
                      · refine ab_aload_n de_M_says_157 2 rfl ?_
                        refine ab_iload_n de_M_says_158 1 rfl ?_
                        refine ab_cV (as := [.int (nI (cs rn))]) (st := []) (ct_M_partsOf l _ nr h g rr (c := cs rn) (hcs rn hrn).2.2) mo_M_partsOf mi_M_partsOf ml_M_107 rfl (by decide) rfl rfl rfl (Nat.le_of_ble_eq_true rfl) de_M_says_159 (fun v_ M_ hK_ hl_ hv_ => ?_)
                        obtain ⟨rfl, hm_⟩ := hK_
                        have hm_ := hm_.symm
                        subst hm_
                        change ab_G _ _ _ _ _ _ _ [(4, .int (nI (sp_kd (cs rn)))), (3, .int (nI (cs rn))), (0, .ref 30), (1, .int (nI sn)), (2, .int x)] [.int (nI (sp_pc (cs rn)))] (ab_S nr h g rr) _
                        exact ab_ret (v := some (.int (nI (sp_pc (cs rn))))) de_M_says_162 ⟨_, rfl⟩ (by unfold fx_M_says; try simp only [ab_tn (show sn < 2 ^ 31 by omega), er_, ab_tn (show rn < 2 ^ 31 by omega)]; rw [if_neg c_5_1, if_neg c_9_2, if_pos c_15_3, if_neg c_31_4, if_neg c_47_5, if_neg c_77_6, if_pos c_83_8, if_pos c_112_10, if_pos c_134_11, if_neg c_146_12])
                      · refine ab_aload_n de_M_says_149 2 rfl ?_
                        refine ab_iload_n de_M_says_150 1 rfl ?_
                        refine ab_cV (as := [.int (nI (cs rn))]) (st := []) (ct_M_endOf l _ (ab_S nr h g rr) (c := cs rn) (hcs rn hrn).2.2) mo_M_endOf mi_M_endOf ml_M_104 rfl (by decide) rfl rfl rfl (Nat.le_of_ble_eq_true rfl) de_M_says_151 (fun v_ M_ hK_ hl_ hv_ => ?_)
                        obtain ⟨rfl, hm_⟩ := hK_
                        have hm_ := hm_.symm
                        subst hm_
                        change ab_G _ _ _ _ _ _ _ [(4, .int (nI (sp_kd (cs rn)))), (3, .int (nI (cs rn))), (0, .ref 30), (1, .int (nI sn)), (2, .int x)] [.int (nI (cs rn / 1024))] (ab_S nr h g rr) _
                        refine ab_goto (tgt := 162) de_M_says_154 rfl ?_
                        exact ab_ret (v := some (.int (nI (cs rn / 1024)))) de_M_says_162 ⟨_, rfl⟩ (by unfold fx_M_says; try simp only [ab_tn (show sn < 2 ^ 31 by omega), er_, ab_tn (show rn < 2 ^ 31 by omega)]; rw [if_neg c_5_1, if_neg c_9_2, if_pos c_15_3, if_neg c_31_4, if_neg c_47_5, if_neg c_77_6, if_pos c_83_8, if_pos c_112_10, if_pos c_134_11, if_pos c_146_12])
                    · refine ab_aload_n de_M_says_137 2 rfl ?_
                      refine ab_iload_n de_M_says_138 1 rfl ?_
                      refine ab_cV (as := [.int (nI (cs rn))]) (st := []) (ct_M_priceOf l _ nr h g rr (c := cs rn) (hcs rn hrn).2.2) mo_M_priceOf mi_M_priceOf ml_M_116 rfl (by decide) rfl rfl rfl (Nat.le_of_ble_eq_true rfl) de_M_says_139 (fun v_ M_ hK_ hl_ hv_ => ?_)
                      obtain ⟨rfl, hm_⟩ := hK_
                      have hm_ := hm_.symm
                      subst hm_
                      change ab_G _ _ _ _ _ _ _ [(4, .int (nI (sp_kd (cs rn)))), (3, .int (nI (cs rn))), (0, .ref 30), (1, .int (nI sn)), (2, .int x)] [.int (nI (sp_pr (cs rn)))] (ab_S nr h g rr) _
                      exact ab_ret (v := some (.int (nI (sp_pr (cs rn))))) de_M_says_142 ⟨_, rfl⟩ (by unfold fx_M_says; try simp only [ab_tn (show sn < 2 ^ 31 by omega), er_, ab_tn (show rn < 2 ^ 31 by omega)]; rw [if_neg c_5_1, if_neg c_9_2, if_pos c_15_3, if_neg c_31_4, if_neg c_47_5, if_neg c_77_6, if_pos c_83_8, if_pos c_112_10, if_neg c_134_11])
                  · refine ab_aload_n de_M_says_115 2 rfl ?_
                    refine ab_iload_n de_M_says_116 1 rfl ?_
                    refine ab_bipush (v := 7) de_M_says_117 rfl ?_
                    refine ab_iand de_M_says_119 ?_
                    refine ab_top (v' := nI ((cs rn) &&& 7)) (ab_and _ _) ?_
                    refine ab_iload_n de_M_says_120 1 rfl ?_
                    refine ab_iconst (v := 3) de_M_says_121 rfl ?_
                    refine ab_ishr de_M_says_122 ?_
                    refine ab_top (v' := nI ((cs rn) >>> 3)) (ab_shr (k := 3) (by omega) (by decide)) ?_
                    refine ab_bipush (v := 7) de_M_says_123 rfl ?_
                    refine ab_iand de_M_says_125 ?_
                    refine ab_top (v' := nI (((cs rn) >>> 3) &&& 7)) (ab_and _ _) ?_
                    refine ab_ior de_M_says_126 ?_
                    refine ab_top (v' := nI (((cs rn) &&& 7) ||| (((cs rn) >>> 3) &&& 7))) (ab_or _ _) ?_
                    refine ab_cV (as := [.int (nI (((cs rn) &&& 7) ||| (((cs rn) >>> 3) &&& 7)))]) (st := []) (ct_M_lowest l _ (ab_S nr h g rr) (b := (((cs rn) &&& 7) ||| (((cs rn) >>> 3) &&& 7))) (md_low8 _) (md_low (hcs rn hrn).2.2 (md_kd3 c_83_8 (Int32.not_le.mp c_112_10)))) mo_M_lowest mi_M_lowest ml_M_113 rfl (by decide) rfl rfl rfl (Nat.le_of_ble_eq_true rfl) de_M_says_127 (fun v_ M_ hK_ hl_ hv_ => ?_)
                    obtain ⟨rfl, hm_⟩ := hK_
                    have hm_ := hm_.symm
                    subst hm_
                    change ab_G _ _ _ _ _ _ _ [(4, .int (nI (sp_kd (cs rn)))), (3, .int (nI (cs rn))), (0, .ref 30), (1, .int (nI sn)), (2, .int x)] [.int (nI (md_lw ((((cs rn) &&& 7) ||| (((cs rn) >>> 3) &&& 7)))))] (ab_S nr h g rr) _
                    exact ab_ret (v := some (.int (nI (md_lw ((((cs rn) &&& 7) ||| (((cs rn) >>> 3) &&& 7))))))) de_M_says_130 ⟨_, rfl⟩ (by unfold fx_M_says; try simp only [ab_tn (show sn < 2 ^ 31 by omega), er_, ab_tn (show rn < 2 ^ 31 by omega)]; rw [if_neg c_5_1, if_neg c_9_2, if_pos c_15_3, if_neg c_31_4, if_neg c_47_5, if_neg c_77_6, if_pos c_83_8, if_neg c_112_10])
                · exact absurd c_105_9 c_77_6
              · refine ab_iload_n de_M_says_86 4 rfl ?_
                refine ab_iconst (v := 1) de_M_says_87 rfl ?_
                refine ab_icmp_ne (tgt := 97) de_M_says_88 rfl (fun c_88_13 => ?_) (fun c_88_13 => ?_)
                · refine ab_aload_n de_M_says_97 2 rfl ?_
                  refine ab_bipush (v := -2) de_M_says_98 rfl ?_
                  refine ab_cV (as := [.int (-2 : Int32)]) (st := []) (ct_M_no l _ nr h g rr (r := (-2 : Int32)) (k := 2) (by decide) (by decide)) mo_M_no mi_M_no ml_M_94 rfl (by decide) rfl rfl rfl (Nat.le_of_ble_eq_true rfl) de_M_says_100 (fun v_ M_ hK_ hl_ hv_ => ?_)
                  obtain ⟨rfl, hm_⟩ := hK_
                  have hm_ := hm_.symm
                  subst hm_
                  change ab_G _ _ _ _ _ _ _ [(4, .int (nI (sp_kd (cs rn)))), (3, .int (nI (cs rn))), (0, .ref 30), (1, .int (nI sn)), (2, .int x)] [.int (-2 : Int32)] (ab_S nr (ab_u2 h 31 2 (h 31 2 + 1)) g rr) _
                  exact ab_ret (v := some (.int (-2 : Int32))) de_M_says_103 ⟨_, rfl⟩ (by unfold fx_M_says; try simp only [ab_tn (show sn < 2 ^ 31 by omega), er_, ab_tn (show rn < 2 ^ 31 by omega)]; rw [if_neg c_5_1, if_neg c_9_2, if_pos c_15_3, if_neg c_31_4, if_neg c_47_5, if_neg c_77_6, if_neg c_83_8, if_neg c_88_13])
                · refine ab_iload de_M_says_91 0 rfl ?_
                  refine ab_iconst (v := 2) de_M_says_93 rfl ?_
                  refine ab_icmp_eq (tgt := 104) de_M_says_94 rfl (fun c_94_14 => ?_) (fun c_94_14 => ?_)
                  · refine ab_iload_n de_M_says_104 4 rfl ?_
                    refine ab_if_ne (tgt := 110) de_M_says_105 rfl (fun c_105_15 => ?_) (fun c_105_15 => ?_)
                    · refine ab_iload_n de_M_says_110 4 rfl ?_
                      refine ab_iconst (v := 3) de_M_says_111 rfl ?_
                      refine ab_icmp_ge (tgt := 131) de_M_says_112 rfl (fun c_112_16 => ?_) (fun c_112_16 => ?_)
                      · refine ab_iload_n de_M_says_131 4 rfl ?_
                        refine ab_bipush (v := 6) de_M_says_132 rfl ?_
                        refine ab_icmp_ge (tgt := 143) de_M_says_134 rfl (fun c_134_17 => ?_) (fun c_134_17 => ?_)
                        · refine ab_iload_n de_M_says_143 4 rfl ?_
                          refine ab_bipush (v := 6) de_M_says_144 rfl ?_
                          refine ab_icmp_ne (tgt := 157) de_M_says_146 rfl (fun c_146_18 => ?_) (fun c_146_18 => ?_)
                          · refine ab_aload_n de_M_says_157 2 rfl ?_
                            refine ab_iload_n de_M_says_158 1 rfl ?_
                            refine ab_cV (as := [.int (nI (cs rn))]) (st := []) (ct_M_partsOf l _ nr h g rr (c := cs rn) (hcs rn hrn).2.2) mo_M_partsOf mi_M_partsOf ml_M_107 rfl (by decide) rfl rfl rfl (Nat.le_of_ble_eq_true rfl) de_M_says_159 (fun v_ M_ hK_ hl_ hv_ => ?_)
                            obtain ⟨rfl, hm_⟩ := hK_
                            have hm_ := hm_.symm
                            subst hm_
                            change ab_G _ _ _ _ _ _ _ [(4, .int (nI (sp_kd (cs rn)))), (3, .int (nI (cs rn))), (0, .ref 30), (1, .int (nI sn)), (2, .int x)] [.int (nI (sp_pc (cs rn)))] (ab_S nr h g rr) _
                            exact ab_ret (v := some (.int (nI (sp_pc (cs rn))))) de_M_says_162 ⟨_, rfl⟩ (by unfold fx_M_says; try simp only [ab_tn (show sn < 2 ^ 31 by omega), er_, ab_tn (show rn < 2 ^ 31 by omega)]; rw [if_neg c_5_1, if_neg c_9_2, if_pos c_15_3, if_neg c_31_4, if_neg c_47_5, if_neg c_77_6, if_neg c_83_8, if_pos c_88_13, if_pos c_94_14, if_pos c_112_16, if_pos c_134_17, if_neg c_146_18])
                          · refine ab_aload_n de_M_says_149 2 rfl ?_
                            refine ab_iload_n de_M_says_150 1 rfl ?_
                            refine ab_cV (as := [.int (nI (cs rn))]) (st := []) (ct_M_endOf l _ (ab_S nr h g rr) (c := cs rn) (hcs rn hrn).2.2) mo_M_endOf mi_M_endOf ml_M_104 rfl (by decide) rfl rfl rfl (Nat.le_of_ble_eq_true rfl) de_M_says_151 (fun v_ M_ hK_ hl_ hv_ => ?_)
                            obtain ⟨rfl, hm_⟩ := hK_
                            have hm_ := hm_.symm
                            subst hm_
                            change ab_G _ _ _ _ _ _ _ [(4, .int (nI (sp_kd (cs rn)))), (3, .int (nI (cs rn))), (0, .ref 30), (1, .int (nI sn)), (2, .int x)] [.int (nI (cs rn / 1024))] (ab_S nr h g rr) _
                            refine ab_goto (tgt := 162) de_M_says_154 rfl ?_
                            exact ab_ret (v := some (.int (nI (cs rn / 1024)))) de_M_says_162 ⟨_, rfl⟩ (by unfold fx_M_says; try simp only [ab_tn (show sn < 2 ^ 31 by omega), er_, ab_tn (show rn < 2 ^ 31 by omega)]; rw [if_neg c_5_1, if_neg c_9_2, if_pos c_15_3, if_neg c_31_4, if_neg c_47_5, if_neg c_77_6, if_neg c_83_8, if_pos c_88_13, if_pos c_94_14, if_pos c_112_16, if_pos c_134_17, if_pos c_146_18])
                        · refine ab_aload_n de_M_says_137 2 rfl ?_
                          refine ab_iload_n de_M_says_138 1 rfl ?_
                          refine ab_cV (as := [.int (nI (cs rn))]) (st := []) (ct_M_priceOf l _ nr h g rr (c := cs rn) (hcs rn hrn).2.2) mo_M_priceOf mi_M_priceOf ml_M_116 rfl (by decide) rfl rfl rfl (Nat.le_of_ble_eq_true rfl) de_M_says_139 (fun v_ M_ hK_ hl_ hv_ => ?_)
                          obtain ⟨rfl, hm_⟩ := hK_
                          have hm_ := hm_.symm
                          subst hm_
                          change ab_G _ _ _ _ _ _ _ [(4, .int (nI (sp_kd (cs rn)))), (3, .int (nI (cs rn))), (0, .ref 30), (1, .int (nI sn)), (2, .int x)] [.int (nI (sp_pr (cs rn)))] (ab_S nr h g rr) _
                          exact ab_ret (v := some (.int (nI (sp_pr (cs rn))))) de_M_says_142 ⟨_, rfl⟩ (by unfold fx_M_says; try simp only [ab_tn (show sn < 2 ^ 31 by omega), er_, ab_tn (show rn < 2 ^ 31 by omega)]; rw [if_neg c_5_1, if_neg c_9_2, if_pos c_15_3, if_neg c_31_4, if_neg c_47_5, if_neg c_77_6, if_neg c_83_8, if_pos c_88_13, if_pos c_94_14, if_pos c_112_16, if_neg c_134_17])
                      · refine ab_aload_n de_M_says_115 2 rfl ?_
                        refine ab_iload_n de_M_says_116 1 rfl ?_
                        refine ab_bipush (v := 7) de_M_says_117 rfl ?_
                        refine ab_iand de_M_says_119 ?_
                        refine ab_top (v' := nI ((cs rn) &&& 7)) (ab_and _ _) ?_
                        refine ab_iload_n de_M_says_120 1 rfl ?_
                        refine ab_iconst (v := 3) de_M_says_121 rfl ?_
                        refine ab_ishr de_M_says_122 ?_
                        refine ab_top (v' := nI ((cs rn) >>> 3)) (ab_shr (k := 3) (by omega) (by decide)) ?_
                        refine ab_bipush (v := 7) de_M_says_123 rfl ?_
                        refine ab_iand de_M_says_125 ?_
                        refine ab_top (v' := nI (((cs rn) >>> 3) &&& 7)) (ab_and _ _) ?_
                        refine ab_ior de_M_says_126 ?_
                        refine ab_top (v' := nI (((cs rn) &&& 7) ||| (((cs rn) >>> 3) &&& 7))) (ab_or _ _) ?_
                        refine ab_cV (as := [.int (nI (((cs rn) &&& 7) ||| (((cs rn) >>> 3) &&& 7)))]) (st := []) (ct_M_lowest l _ (ab_S nr h g rr) (b := (((cs rn) &&& 7) ||| (((cs rn) >>> 3) &&& 7))) (md_low8 _) (md_low (hcs rn hrn).2.2 (Or.inr ((ab_inj (b := 2) (by have := sp_kd_rg (cs rn); omega) (by decide)).mp c_94_14)))) mo_M_lowest mi_M_lowest ml_M_113 rfl (by decide) rfl rfl rfl (Nat.le_of_ble_eq_true rfl) de_M_says_127 (fun v_ M_ hK_ hl_ hv_ => ?_)
                        obtain ⟨rfl, hm_⟩ := hK_
                        have hm_ := hm_.symm
                        subst hm_
                        change ab_G _ _ _ _ _ _ _ [(4, .int (nI (sp_kd (cs rn)))), (3, .int (nI (cs rn))), (0, .ref 30), (1, .int (nI sn)), (2, .int x)] [.int (nI (md_lw ((((cs rn) &&& 7) ||| (((cs rn) >>> 3) &&& 7)))))] (ab_S nr h g rr) _
                        exact ab_ret (v := some (.int (nI (md_lw ((((cs rn) &&& 7) ||| (((cs rn) >>> 3) &&& 7))))))) de_M_says_130 ⟨_, rfl⟩ (by unfold fx_M_says; try simp only [ab_tn (show sn < 2 ^ 31 by omega), er_, ab_tn (show rn < 2 ^ 31 by omega)]; rw [if_neg c_5_1, if_neg c_9_2, if_pos c_15_3, if_neg c_31_4, if_neg c_47_5, if_neg c_77_6, if_neg c_83_8, if_pos c_88_13, if_pos c_94_14, if_neg c_112_16])
                    · exact absurd c_105_15 c_77_6
                  · refine ab_aload_n de_M_says_97 2 rfl ?_
                    refine ab_bipush (v := -2) de_M_says_98 rfl ?_
                    refine ab_cV (as := [.int (-2 : Int32)]) (st := []) (ct_M_no l _ nr h g rr (r := (-2 : Int32)) (k := 2) (by decide) (by decide)) mo_M_no mi_M_no ml_M_94 rfl (by decide) rfl rfl rfl (Nat.le_of_ble_eq_true rfl) de_M_says_100 (fun v_ M_ hK_ hl_ hv_ => ?_)
                    obtain ⟨rfl, hm_⟩ := hK_
                    have hm_ := hm_.symm
                    subst hm_
                    change ab_G _ _ _ _ _ _ _ [(4, .int (nI (sp_kd (cs rn)))), (3, .int (nI (cs rn))), (0, .ref 30), (1, .int (nI sn)), (2, .int x)] [.int (-2 : Int32)] (ab_S nr (ab_u2 h 31 2 (h 31 2 + 1)) g rr) _
                    exact ab_ret (v := some (.int (-2 : Int32))) de_M_says_103 ⟨_, rfl⟩ (by unfold fx_M_says; try simp only [ab_tn (show sn < 2 ^ 31 by omega), er_, ab_tn (show rn < 2 ^ 31 by omega)]; rw [if_neg c_5_1, if_neg c_9_2, if_pos c_15_3, if_neg c_31_4, if_neg c_47_5, if_neg c_77_6, if_neg c_83_8, if_pos c_88_13, if_neg c_94_14])
          · refine ab_aload_n de_M_says_50 0 rfl ?_
            refine ab_bipush (v := -3) de_M_says_51 rfl ?_
            refine ab_cV (as := [.int (-3 : Int32)]) (st := []) (ct_M_no l _ nr h g rr (r := (-3 : Int32)) (k := 3) (by decide) (by decide)) mo_M_no mi_M_no ml_M_94 rfl (by decide) rfl rfl rfl (Nat.le_of_ble_eq_true rfl) de_M_says_53 (fun v_ M_ hK_ hl_ hv_ => ?_)
            obtain ⟨rfl, hm_⟩ := hK_
            have hm_ := hm_.symm
            subst hm_
            change ab_G _ _ _ _ _ _ _ [(0, .ref 30), (1, .int (nI sn)), (2, .int x)] [.int (-3 : Int32)] (ab_S nr (ab_u2 h 31 3 (h 31 3 + 1)) g rr) _
            exact ab_ret (v := some (.int (-3 : Int32))) de_M_says_56 ⟨_, rfl⟩ (by unfold fx_M_says; try simp only [ab_tn (show sn < 2 ^ 31 by omega)]; rw [if_neg c_5_1, if_neg c_9_2, if_pos c_15_3, if_neg c_31_4, if_pos c_47_5])
        · refine ab_aload_n de_M_says_34 0 rfl ?_
          refine ab_bipush (v := -2) de_M_says_35 rfl ?_
          refine ab_cV (as := [.int (-2 : Int32)]) (st := []) (ct_M_no l _ nr h g rr (r := (-2 : Int32)) (k := 2) (by decide) (by decide)) mo_M_no mi_M_no ml_M_94 rfl (by decide) rfl rfl rfl (Nat.le_of_ble_eq_true rfl) de_M_says_37 (fun v_ M_ hK_ hl_ hv_ => ?_)
          obtain ⟨rfl, hm_⟩ := hK_
          have hm_ := hm_.symm
          subst hm_
          change ab_G _ _ _ _ _ _ _ [(0, .ref 30), (1, .int (nI sn)), (2, .int x)] [.int (-2 : Int32)] (ab_S nr (ab_u2 h 31 2 (h 31 2 + 1)) g rr) _
          exact ab_ret (v := some (.int (-2 : Int32))) de_M_says_40 ⟨_, rfl⟩ (by unfold fx_M_says; try simp only [ab_tn (show sn < 2 ^ 31 by omega)]; rw [if_neg c_5_1, if_neg c_9_2, if_pos c_15_3, if_pos c_31_4])
      · refine ab_aload_n de_M_says_18 0 rfl ?_
        refine ab_iconst (v := -1) de_M_says_19 rfl ?_
        refine ab_cV (as := [.int (-1 : Int32)]) (st := []) (ct_M_no l _ nr h g rr (r := (-1 : Int32)) (k := 1) (by decide) (by decide)) mo_M_no mi_M_no ml_M_94 rfl (by decide) rfl rfl rfl (Nat.le_of_ble_eq_true rfl) de_M_says_20 (fun v_ M_ hK_ hl_ hv_ => ?_)
        obtain ⟨rfl, hm_⟩ := hK_
        have hm_ := hm_.symm
        subst hm_
        change ab_G _ _ _ _ _ _ _ [(0, .ref 30), (1, .int (nI sn)), (2, .int x)] [.int (-1 : Int32)] (ab_S nr (ab_u2 h 31 1 (h 31 1 + 1)) g rr) _
        exact ab_ret (v := some (.int (-1 : Int32))) de_M_says_23 ⟨_, rfl⟩ (by unfold fx_M_says; try simp only [ab_tn (show sn < 2 ^ 31 by omega)]; rw [if_neg c_5_1, if_neg c_9_2, if_neg c_15_3])
