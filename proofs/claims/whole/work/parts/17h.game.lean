/-! the reference: game, the method -/
theorem md_wr_k {h : Nat → Nat → Int32} {q c : Nat} {f : Nat → Int32} {k a b : Nat} (hn : a ≠ q) : md_wr h q c f k a b = h a b := if_neg (fun z => hn z.1)
def fx_M_game (nr : Nat) (h : Nat → Nat → Int32) (g : Nat → Nat → Int64) (rr : Nat → Option Nat) (zs : Nat → Nat) (y_ : Nat) (s u x y : Int32) : Option Value × ab_Me :=
  if (ab_bz (sp_sh s)) = 0 then
    (some (.int (-1 : Int32)), (ab_S nr (ab_u2 h 31 1 (h 31 1 + 1)) g rr))
  else
    if (ab_bz (sp_sh u)) = 0 then
      (some (.int (-1 : Int32)), (ab_S nr (ab_u2 h 31 1 (h 31 1 + 1)) g rr))
    else
      if (h 38 s.toNatClampNeg) = (2 : Int32) then
        (some (.int (-2 : Int32)), (ab_S nr (ab_u2 h 31 2 (h 31 2 + 1)) g rr))
      else
        if (h 38 u.toNatClampNeg) = (2 : Int32) then
          (some (.int (-2 : Int32)), (ab_S nr (ab_u2 h 31 2 (h 31 2 + 1)) g rr))
        else
          if (h 38 s.toNatClampNeg) = 0 then
            (some (.int (-3 : Int32)), (ab_S nr (ab_u2 h 31 3 (h 31 3 + 1)) g rr))
          else
            if (h 38 u.toNatClampNeg) = 0 then
              (some (.int (-3 : Int32)), (ab_S nr (ab_u2 h 31 3 (h 31 3 + 1)) g rr))
            else
              if 0 ≤ x then
                if (nI (zs s.toNatClampNeg)) < (12 : Int32) then
                  (some (.int (-5 : Int32)), (ab_S nr (ab_u2 h 31 5 (h 31 5 + 1)) g rr))
                else
                  if (nI (x.toNatClampNeg)) ≤ (nI (zs u.toNatClampNeg)) then
                    if (20 : Int32) < (nI (x.toNatClampNeg)) then
                      (some (.int (-6 : Int32)), (ab_S nr (ab_u2 h 31 6 (h 31 6 + 1)) g rr))
                    else
                      if y < (-1 : Int32) then
                        (some (.int (-6 : Int32)), (ab_S nr (ab_u2 h 31 6 (h 31 6 + 1)) g rr))
                      else
                        if y ≤ (1 : Int32) then
                          if sp_any (md_bs g s.toNatClampNeg) 12 = true then
                            (some (.int (-6 : Int32)), (ab_S nr (ab_u2 h 31 6 (h 31 6 + 1)) g rr))
                          else
                            if sp_any (md_nm g u.toNatClampNeg) x.toNatClampNeg = true then
                              (some (.int (-6 : Int32)), (ab_S nr (ab_u2 h 31 6 (h 31 6 + 1)) g rr))
                            else
                              if (nI y_) = (6 : Int32) then
                                (some (.int (-7 : Int32)), (ab_S nr (ab_u2 h 31 7 (h 31 7 + 1)) g rr))
                              else
                                (some (.int (nI y_)), (ab_S nr (ab_u2 (ab_u2 (ab_u2 (ab_u2 (ab_u2 (ab_u2 (md_wr (md_wr h 34 (12 * y_) (fun p => (g 42 ((60 * s.toNatClampNeg) + p)).toInt32) 12) 35 (20 * y_) (fun p => (g 42 ((60 * u.toNatClampNeg) + p)).toInt32) x.toNatClampNeg) 36 y_ (nI (x.toNatClampNeg))) 37 y_ y) 30 31 (-1 : Int32)) 30 32 (0 : Int32)) 30 33 (-1 : Int32)) 30 1 (nI (y_ + 1))) g rr))
                        else
                          (some (.int (-6 : Int32)), (ab_S nr (ab_u2 h 31 6 (h 31 6 + 1)) g rr))
                  else
                    (some (.int (-5 : Int32)), (ab_S nr (ab_u2 h 31 5 (h 31 5 + 1)) g rr))
              else
                (some (.int (-4 : Int32)), (ab_S nr (ab_u2 h 31 4 (h 31 4 + 1)) g rr))
set_option maxHeartbeats 1000000 in
set_option maxRecDepth 10000 in
theorem ct_M_game (l : Launch) (d : Nat) (nr : Nat) (h : Nat → Nat → Int32) (g : Nat → Nat → Int64) (rr : Nat → Option Nat) {zs : Nat → Nat} (hzs : ∀ s, s < 8 → zs s ≤ 60 ∧ h 40 s = nI (zs s)) {y_ : Nat} (hy6 : y_ ≤ 6) (hy1 : h 30 1 = nI y_) (s u x y : Int32) : ab_C l am_M_game (d + 2) 0 0 [.ref 30, .int s, .int u, .int x, .int y] (ab_S nr h g rr) (fun r_ M' => (r_, M') = fx_M_game nr h g rr zs y_ s u x y) := by
  refine ab_C_of (by decide +kernel) rfl (Nat.le_of_ble_eq_true rfl) ?_
  refine ab_aload_n de_M_game_0 0 rfl ?_
  refine ab_iload_n de_M_game_1 1 rfl ?_
  refine ab_cV (as := [.int s]) (st := []) (ct_M_isShelf l _ (ab_S nr h g rr) (s)) mo_M_isShelf mi_M_isShelf ml_M_90 rfl (by decide) rfl rfl rfl (Nat.le_of_ble_eq_true rfl) de_M_game_2 (fun v_ M_ hK_ hl_ hv_ => ?_)
  obtain ⟨rfl, hm_⟩ := hK_
  have hm_ := hm_.symm
  subst hm_
  change ab_G _ _ _ _ _ _ _ [(0, .ref 30), (1, .int s), (2, .int u), (3, .int x), (4, .int y)] [.int (ab_bz (sp_sh s))] (ab_S nr h g rr) _
  refine ab_if_eq (tgt := 16) de_M_game_5 rfl (fun c_5_1 => ?_) (fun c_5_1 => ?_)
  · refine ab_aload_n de_M_game_16 0 rfl ?_
    refine ab_iconst (v := -1) de_M_game_17 rfl ?_
    refine ab_cV (as := [.int (-1 : Int32)]) (st := []) (ct_M_no l _ nr h g rr (r := (-1 : Int32)) (k := 1) (by decide) (by decide)) mo_M_no mi_M_no ml_M_94 rfl (by decide) rfl rfl rfl (Nat.le_of_ble_eq_true rfl) de_M_game_18 (fun v_ M_ hK_ hl_ hv_ => ?_)
    obtain ⟨rfl, hm_⟩ := hK_
    have hm_ := hm_.symm
    subst hm_
    change ab_G _ _ _ _ _ _ _ [(0, .ref 30), (1, .int s), (2, .int u), (3, .int x), (4, .int y)] [.int (-1 : Int32)] (ab_S nr (ab_u2 h 31 1 (h 31 1 + 1)) g rr) _
    exact ab_ret (v := some (.int (-1 : Int32))) de_M_game_21 ⟨_, rfl⟩ (by unfold fx_M_game; rw [if_pos c_5_1])
  · obtain ⟨sn, hsn, rfl⟩ := sp_sh_n c_5_1
    refine ab_aload_n de_M_game_8 0 rfl ?_
    refine ab_iload_n de_M_game_9 2 rfl ?_
    refine ab_cV (as := [.int u]) (st := []) (ct_M_isShelf l _ (ab_S nr h g rr) (u)) mo_M_isShelf mi_M_isShelf ml_M_90 rfl (by decide) rfl rfl rfl (Nat.le_of_ble_eq_true rfl) de_M_game_10 (fun v_ M_ hK_ hl_ hv_ => ?_)
    obtain ⟨rfl, hm_⟩ := hK_
    have hm_ := hm_.symm
    subst hm_
    change ab_G _ _ _ _ _ _ _ [(0, .ref 30), (1, .int (nI sn)), (2, .int u), (3, .int x), (4, .int y)] [.int (ab_bz (sp_sh u))] (ab_S nr h g rr) _
    refine ab_if_ne (tgt := 22) de_M_game_13 rfl (fun c_13_2 => ?_) (fun c_13_2 => ?_)
    · obtain ⟨un, hun, rfl⟩ := sp_sh_n c_13_2
      refine ab_aload_n de_M_game_22 0 rfl ?_
      refine ab_get (v := .ref 38) fl_M_35 rfl rfl de_M_game_23 ?_
      refine ab_iload_n de_M_game_26 1 rfl ?_
      refine ab_iald (v := h 38 sn) rfl (ab_in (by omega) (by decide)) (ab_hv (ab_tn (n := sn) (by omega))) de_M_game_27 ?_
      refine ab_iconst (v := 2) de_M_game_28 rfl ?_
      refine ab_icmp_eq (tgt := 42) de_M_game_29 rfl (fun c_29_3 => ?_) (fun c_29_3 => ?_)
      · refine ab_aload_n de_M_game_42 0 rfl ?_
        refine ab_bipush (v := -2) de_M_game_43 rfl ?_
        refine ab_cV (as := [.int (-2 : Int32)]) (st := []) (ct_M_no l _ nr h g rr (r := (-2 : Int32)) (k := 2) (by decide) (by decide)) mo_M_no mi_M_no ml_M_94 rfl (by decide) rfl rfl rfl (Nat.le_of_ble_eq_true rfl) de_M_game_45 (fun v_ M_ hK_ hl_ hv_ => ?_)
        obtain ⟨rfl, hm_⟩ := hK_
        have hm_ := hm_.symm
        subst hm_
        change ab_G _ _ _ _ _ _ _ [(0, .ref 30), (1, .int (nI sn)), (2, .int (nI un)), (3, .int x), (4, .int y)] [.int (-2 : Int32)] (ab_S nr (ab_u2 h 31 2 (h 31 2 + 1)) g rr) _
        exact ab_ret (v := some (.int (-2 : Int32))) de_M_game_48 ⟨_, rfl⟩ (by unfold fx_M_game; try simp only [ab_tn (show sn < 2 ^ 31 by omega), ab_tn (show un < 2 ^ 31 by omega)]; rw [if_neg c_5_1, if_neg c_13_2, if_pos c_29_3])
      · refine ab_aload_n de_M_game_32 0 rfl ?_
        refine ab_get (v := .ref 38) fl_M_35 rfl rfl de_M_game_33 ?_
        refine ab_iload_n de_M_game_36 2 rfl ?_
        refine ab_iald (v := h 38 un) rfl (ab_in (by omega) (by decide)) (ab_hv (ab_tn (n := un) (by omega))) de_M_game_37 ?_
        refine ab_iconst (v := 2) de_M_game_38 rfl ?_
        refine ab_icmp_ne (tgt := 49) de_M_game_39 rfl (fun c_39_4 => ?_) (fun c_39_4 => ?_)
        · refine ab_aload_n de_M_game_49 0 rfl ?_
          refine ab_get (v := .ref 38) fl_M_35 rfl rfl de_M_game_50 ?_
          refine ab_iload_n de_M_game_53 1 rfl ?_
          refine ab_iald (v := h 38 sn) rfl (ab_in (by omega) (by decide)) (ab_hv (ab_tn (n := sn) (by omega))) de_M_game_54 ?_
          refine ab_if_eq (tgt := 67) de_M_game_55 rfl (fun c_55_5 => ?_) (fun c_55_5 => ?_)
          · refine ab_aload_n de_M_game_67 0 rfl ?_
            refine ab_bipush (v := -3) de_M_game_68 rfl ?_
            refine ab_cV (as := [.int (-3 : Int32)]) (st := []) (ct_M_no l _ nr h g rr (r := (-3 : Int32)) (k := 3) (by decide) (by decide)) mo_M_no mi_M_no ml_M_94 rfl (by decide) rfl rfl rfl (Nat.le_of_ble_eq_true rfl) de_M_game_70 (fun v_ M_ hK_ hl_ hv_ => ?_)
            obtain ⟨rfl, hm_⟩ := hK_
            have hm_ := hm_.symm
            subst hm_
            change ab_G _ _ _ _ _ _ _ [(0, .ref 30), (1, .int (nI sn)), (2, .int (nI un)), (3, .int x), (4, .int y)] [.int (-3 : Int32)] (ab_S nr (ab_u2 h 31 3 (h 31 3 + 1)) g rr) _
            exact ab_ret (v := some (.int (-3 : Int32))) de_M_game_73 ⟨_, rfl⟩ (by unfold fx_M_game; try simp only [ab_tn (show sn < 2 ^ 31 by omega), ab_tn (show un < 2 ^ 31 by omega)]; rw [if_neg c_5_1, if_neg c_13_2, if_neg c_29_3, if_neg c_39_4, if_pos c_55_5])
          · refine ab_aload_n de_M_game_58 0 rfl ?_
            refine ab_get (v := .ref 38) fl_M_35 rfl rfl de_M_game_59 ?_
            refine ab_iload_n de_M_game_62 2 rfl ?_
            refine ab_iald (v := h 38 un) rfl (ab_in (by omega) (by decide)) (ab_hv (ab_tn (n := un) (by omega))) de_M_game_63 ?_
            refine ab_if_ne (tgt := 74) de_M_game_64 rfl (fun c_64_6 => ?_) (fun c_64_6 => ?_)
            · refine ab_iload_n de_M_game_74 3 rfl ?_
              refine ab_if_ge (tgt := 85) de_M_game_75 rfl (fun c_75_7 => ?_) (fun c_75_7 => ?_)
              · obtain ⟨xn, hxn, rfl⟩ := nn_n (Int32.not_lt.mpr c_75_7)
                refine ab_aload_n de_M_game_85 0 rfl ?_
                refine ab_get (v := .ref 40) fl_M_41 rfl rfl de_M_game_86 ?_
                refine ab_iload_n de_M_game_89 1 rfl ?_
                refine ab_iald (v := h 40 sn) rfl (ab_in (by omega) (by decide)) (ab_hv (ab_tn (n := sn) (by omega))) de_M_game_90 ?_
                refine ab_top (v' := nI (zs sn)) ((hzs sn (by omega)).2) ?_
                refine ab_bipush (v := 12) de_M_game_91 rfl ?_
                refine ab_icmp_lt (tgt := 106) de_M_game_93 rfl (fun c_93_8 => ?_) (fun c_93_8 => ?_)
                · refine ab_aload_n de_M_game_106 0 rfl ?_
                  refine ab_bipush (v := -5) de_M_game_107 rfl ?_
                  refine ab_cV (as := [.int (-5 : Int32)]) (st := []) (ct_M_no l _ nr h g rr (r := (-5 : Int32)) (k := 5) (by decide) (by decide)) mo_M_no mi_M_no ml_M_94 rfl (by decide) rfl rfl rfl (Nat.le_of_ble_eq_true rfl) de_M_game_109 (fun v_ M_ hK_ hl_ hv_ => ?_)
                  obtain ⟨rfl, hm_⟩ := hK_
                  have hm_ := hm_.symm
                  subst hm_
                  change ab_G _ _ _ _ _ _ _ [(0, .ref 30), (1, .int (nI sn)), (2, .int (nI un)), (3, .int (nI xn)), (4, .int y)] [.int (-5 : Int32)] (ab_S nr (ab_u2 h 31 5 (h 31 5 + 1)) g rr) _
                  exact ab_ret (v := some (.int (-5 : Int32))) de_M_game_112 ⟨_, rfl⟩ (by unfold fx_M_game; try simp only [ab_tn (show sn < 2 ^ 31 by omega), ab_tn (show un < 2 ^ 31 by omega), ab_tn (show xn < 2 ^ 31 by omega)]; rw [if_neg c_5_1, if_neg c_13_2, if_neg c_29_3, if_neg c_39_4, if_neg c_55_5, if_neg c_64_6, if_pos c_75_7, if_pos c_93_8])
                · have z12_ : 12 ≤ zs sn := (by have zz_ := (hzs sn (by omega)).1; exact Nat.le_of_not_lt (fun q_ => c_93_8 ((ab_lt (b := 12) (by omega) (by decide)).mpr q_)))
                  refine ab_aload_n de_M_game_96 0 rfl ?_
                  refine ab_get (v := .ref 40) fl_M_41 rfl rfl de_M_game_97 ?_
                  refine ab_iload_n de_M_game_100 2 rfl ?_
                  refine ab_iald (v := h 40 un) rfl (ab_in (by omega) (by decide)) (ab_hv (ab_tn (n := un) (by omega))) de_M_game_101 ?_
                  refine ab_top (v' := nI (zs un)) ((hzs un (by omega)).2) ?_
                  refine ab_iload_n de_M_game_102 3 rfl ?_
                  refine ab_icmp_ge (tgt := 113) de_M_game_103 rfl (fun c_103_9 => ?_) (fun c_103_9 => ?_)
                  · have zu_ : xn ≤ zs un := (by have zz_ := (hzs un (by omega)).1; exact (ab_le (by omega) (by omega)).mp c_103_9)
                    refine ab_iload_n de_M_game_113 3 rfl ?_
                    refine ab_bipush (v := 20) de_M_game_114 rfl ?_
                    refine ab_icmp_gt (tgt := 131) de_M_game_116 rfl (fun c_116_10 => ?_) (fun c_116_10 => ?_)
                    · refine ab_aload_n de_M_game_131 0 rfl ?_
                      refine ab_bipush (v := -6) de_M_game_132 rfl ?_
                      refine ab_cV (as := [.int (-6 : Int32)]) (st := []) (ct_M_no l _ nr h g rr (r := (-6 : Int32)) (k := 6) (by decide) (by decide)) mo_M_no mi_M_no ml_M_94 rfl (by decide) rfl rfl rfl (Nat.le_of_ble_eq_true rfl) de_M_game_134 (fun v_ M_ hK_ hl_ hv_ => ?_)
                      obtain ⟨rfl, hm_⟩ := hK_
                      have hm_ := hm_.symm
                      subst hm_
                      change ab_G _ _ _ _ _ _ _ [(0, .ref 30), (1, .int (nI sn)), (2, .int (nI un)), (3, .int (nI xn)), (4, .int y)] [.int (-6 : Int32)] (ab_S nr (ab_u2 h 31 6 (h 31 6 + 1)) g rr) _
                      exact ab_ret (v := some (.int (-6 : Int32))) de_M_game_137 ⟨_, rfl⟩ (by unfold fx_M_game; try simp only [ab_tn (show sn < 2 ^ 31 by omega), ab_tn (show un < 2 ^ 31 by omega), ab_tn (show xn < 2 ^ 31 by omega)]; rw [if_neg c_5_1, if_neg c_13_2, if_neg c_29_3, if_neg c_39_4, if_neg c_55_5, if_neg c_64_6, if_pos c_75_7, if_neg c_93_8, if_pos c_103_9, if_pos c_116_10])
                    · have x20_ : xn ≤ 20 := Nat.le_of_not_lt (fun q_ => c_116_10 ((ab_lt (a := 20) (by decide) (by omega)).mpr q_))
                      refine ab_iload de_M_game_119 4 rfl ?_
                      refine ab_iconst (v := -1) de_M_game_121 rfl ?_
                      refine ab_icmp_lt (tgt := 131) de_M_game_122 rfl (fun c_122_11 => ?_) (fun c_122_11 => ?_)
                      · refine ab_aload_n de_M_game_131 0 rfl ?_
                        refine ab_bipush (v := -6) de_M_game_132 rfl ?_
                        refine ab_cV (as := [.int (-6 : Int32)]) (st := []) (ct_M_no l _ nr h g rr (r := (-6 : Int32)) (k := 6) (by decide) (by decide)) mo_M_no mi_M_no ml_M_94 rfl (by decide) rfl rfl rfl (Nat.le_of_ble_eq_true rfl) de_M_game_134 (fun v_ M_ hK_ hl_ hv_ => ?_)
                        obtain ⟨rfl, hm_⟩ := hK_
                        have hm_ := hm_.symm
                        subst hm_
                        change ab_G _ _ _ _ _ _ _ [(0, .ref 30), (1, .int (nI sn)), (2, .int (nI un)), (3, .int (nI xn)), (4, .int y)] [.int (-6 : Int32)] (ab_S nr (ab_u2 h 31 6 (h 31 6 + 1)) g rr) _
                        exact ab_ret (v := some (.int (-6 : Int32))) de_M_game_137 ⟨_, rfl⟩ (by unfold fx_M_game; try simp only [ab_tn (show sn < 2 ^ 31 by omega), ab_tn (show un < 2 ^ 31 by omega), ab_tn (show xn < 2 ^ 31 by omega)]; rw [if_neg c_5_1, if_neg c_13_2, if_neg c_29_3, if_neg c_39_4, if_neg c_55_5, if_neg c_64_6, if_pos c_75_7, if_neg c_93_8, if_pos c_103_9, if_neg c_116_10, if_pos c_122_11])
                      · refine ab_iload de_M_game_125 4 rfl ?_
                        refine ab_iconst (v := 1) de_M_game_127 rfl ?_
                        refine ab_icmp_le (tgt := 138) de_M_game_128 rfl (fun c_128_12 => ?_) (fun c_128_12 => ?_)
                        · refine ab_iconst (v := 0) de_M_game_138 rfl ?_
                          refine ab_istore (L' := [(5, .int (0 : Int32)), (0, .ref 30), (1, .int (nI sn)), (2, .int (nI un)), (3, .int (nI xn)), (4, .int y)]) de_M_game_139 (by decide) rfl ?_
                          refine ab_sub (L' := [(0, .ref 30), (1, .int (nI sn)), (2, .int (nI un)), (3, .int (nI xn)), (4, .int y), (5, .int (nI 0))]) [1, 2, 3, 4, 5, 0] rfl ?_
                          refine lp_M_game_a l d nr h g rr (s := sn) (u := un) (x := xn) (w := y) (by omega) (K := _) (fun ka_ => ?_) (fun ka_ => (by unfold fx_M_game; try simp only [ab_tn (show sn < 2 ^ 31 by omega), ab_tn (show un < 2 ^ 31 by omega), ab_tn (show xn < 2 ^ 31 by omega)]; rw [if_neg c_5_1, if_neg c_13_2, if_neg c_29_3, if_neg c_39_4, if_neg c_55_5, if_neg c_64_6, if_pos c_75_7, if_neg c_93_8, if_pos c_103_9, if_neg c_116_10, if_neg c_122_11, if_pos c_128_12, if_pos ka_])) 13 0 (by omega) (by omega) (fun j hj => absurd hj (Nat.not_lt_zero j))
                          have na_ : ¬ sp_any (md_bs g sn) 12 = true := by rw [ka_]; decide
                          refine ab_iconst (v := 0) de_M_game_182 rfl ?_
                          refine ab_istore (L' := [(5, .int (0 : Int32)), (0, .ref 30), (1, .int (nI sn)), (2, .int (nI un)), (3, .int (nI xn)), (4, .int y)]) de_M_game_183 (by decide) rfl ?_
                          refine ab_sub (L' := [(0, .ref 30), (1, .int (nI sn)), (2, .int (nI un)), (3, .int (nI xn)), (4, .int y), (5, .int (nI 0))]) [1, 2, 3, 4, 5, 0] rfl ?_
                          refine lp_M_game_b l d nr h g rr (s := sn) (u := un) (x := xn) (w := y) (by omega) (by omega) (K := _) (fun kb_ => ?_) (fun kb_ => (by unfold fx_M_game; try simp only [ab_tn (show sn < 2 ^ 31 by omega), ab_tn (show un < 2 ^ 31 by omega), ab_tn (show xn < 2 ^ 31 by omega)]; rw [if_neg c_5_1, if_neg c_13_2, if_neg c_29_3, if_neg c_39_4, if_neg c_55_5, if_neg c_64_6, if_pos c_75_7, if_neg c_93_8, if_pos c_103_9, if_neg c_116_10, if_neg c_122_11, if_pos c_128_12, if_neg na_, if_pos kb_])) (xn + 1) 0 (by omega) (by omega) (fun j hj => absurd hj (Nat.not_lt_zero j))
                          have nb_ : ¬ sp_any (md_nm g un) xn = true := by rw [kb_]; decide
                          refine ab_aload_n de_M_game_218 0 rfl ?_
                          refine ab_get (v := .int (h 30 1)) fl_M_84 rfl rfl de_M_game_219 ?_
                          refine ab_top (v' := nI y_) (hy1) ?_
                          refine ab_bipush (v := 6) de_M_game_222 rfl ?_
                          refine ab_icmp_ne (tgt := 234) de_M_game_224 rfl (fun c_224_13 => ?_) (fun c_224_13 => ?_)
                          · have c224_ := c_224_13
                            refine ab_iconst (v := 0) de_M_game_234 rfl ?_
                            refine ab_istore (L' := [(5, .int (0 : Int32)), (0, .ref 30), (1, .int (nI sn)), (2, .int (nI un)), (3, .int (nI xn)), (4, .int y)]) de_M_game_235 (by decide) rfl ?_
                            refine ab_sub (L' := [(0, .ref 30), (1, .int (nI sn)), (2, .int (nI un)), (3, .int (nI xn)), (4, .int y), (5, .int (nI 0))]) [1, 2, 3, 4, 5, 0] rfl ?_
                            have y6_ : y_ < 6 := by
                              rcases Nat.lt_or_ge y_ 6 with z_ | z_
                              · exact z_
                              · exact absurd (show nI y_ = (6 : Int32) by rw [show y_ = 6 by omega]; rfl) c224_
                            have zc_ := lp_M_game_c l d nr h g rr (s := sn) (u := un) (x := xn) (y := y_) (w := y) y6_ hy1 (by omega) (K := fun r_ M' => (r_, M') = fx_M_game nr h g rr zs y_ (nI sn) (nI un) (nI xn) y) ?_ 13 0 (by omega) (by omega)
                            · rw [md_wr_0] at zc_
                              exact zc_
                            refine ab_iconst (v := 0) de_M_game_272 rfl ?_
                            refine ab_istore (L' := [(5, .int (0 : Int32)), (0, .ref 30), (1, .int (nI sn)), (2, .int (nI un)), (3, .int (nI xn)), (4, .int y)]) de_M_game_273 (by decide) rfl ?_
                            refine ab_sub (L' := [(0, .ref 30), (1, .int (nI sn)), (2, .int (nI un)), (3, .int (nI xn)), (4, .int y), (5, .int (nI 0))]) [1, 2, 3, 4, 5, 0] rfl ?_
                            have zd_ := lp_M_game_d l d nr (md_wr h 34 (12 * y_) (fun p => (g 42 ((60 * sn) + p)).toInt32) 12) g rr (s := sn) (u := un) (x := xn) (y := y_) (w := y) y6_ ((if_neg (fun z => by cases z.1)).trans hy1) (by omega) (by omega) (K := fun r_ M' => (r_, M') = fx_M_game nr h g rr zs y_ (nI sn) (nI un) (nI xn) y) ?_ (xn + 1) 0 (by omega) (by omega)
                            · rw [md_wr_0] at zd_
                              exact zd_
                            refine ab_aload_n de_M_game_309 0 rfl ?_
                            refine ab_get (v := .ref 36) fl_M_29 rfl rfl de_M_game_310 ?_
                            refine ab_aload_n de_M_game_313 0 rfl ?_
                            refine ab_get (v := .int ((md_wr (md_wr h 34 (12 * y_) (fun p => (g 42 ((60 * sn) + p)).toInt32) 12) 35 (20 * y_) (fun p => (g 42 ((60 * un) + p)).toInt32) xn) 30 1)) fl_M_84 rfl rfl de_M_game_314 ?_
                            refine ab_top (v' := nI y_) (((md_wr_k (by decide)).trans ((md_wr_k (by decide)).trans hy1))) ?_
                            refine ab_iload_n de_M_game_317 3 rfl ?_
                            refine ab_iast (x := 36) rfl (ab_in (by omega) (by decide)) de_M_game_318 ?_
                            rw [(ab_tn (n := y_) (by omega))]
                            change ab_G _ _ _ _ _ _ _ _ _ (ab_S nr (ab_u2 (md_wr (md_wr h 34 (12 * y_) (fun p => (g 42 ((60 * sn) + p)).toInt32) 12) 35 (20 * y_) (fun p => (g 42 ((60 * un) + p)).toInt32) xn) 36 y_ (nI xn)) g rr) _
                            refine ab_aload_n de_M_game_319 0 rfl ?_
                            refine ab_get (v := .ref 37) fl_M_32 rfl rfl de_M_game_320 ?_
                            refine ab_aload_n de_M_game_323 0 rfl ?_
                            refine ab_get (v := .int ((ab_u2 (md_wr (md_wr h 34 (12 * y_) (fun p => (g 42 ((60 * sn) + p)).toInt32) 12) 35 (20 * y_) (fun p => (g 42 ((60 * un) + p)).toInt32) xn) 36 y_ (nI xn)) 30 1)) fl_M_84 rfl rfl de_M_game_324 ?_
                            refine ab_top (v' := nI y_) ((ab_u2_k (by decide)).trans ((md_wr_k (by decide)).trans ((md_wr_k (by decide)).trans hy1))) ?_
                            refine ab_iload de_M_game_327 4 rfl ?_
                            refine ab_iast (x := 37) rfl (ab_in (by omega) (by decide)) de_M_game_329 ?_
                            rw [(ab_tn (n := y_) (by omega))]
                            change ab_G _ _ _ _ _ _ _ _ _ (ab_S nr (ab_u2 (ab_u2 (md_wr (md_wr h 34 (12 * y_) (fun p => (g 42 ((60 * sn) + p)).toInt32) 12) 35 (20 * y_) (fun p => (g 42 ((60 * un) + p)).toInt32) xn) 36 y_ (nI xn)) 37 y_ y) g rr) _
                            refine ab_aload_n de_M_game_330 0 rfl ?_
                            refine ab_cV (as := []) (st := []) (ct_M_forgets l _ nr (ab_u2 (ab_u2 (md_wr (md_wr h 34 (12 * y_) (fun p => (g 42 ((60 * sn) + p)).toInt32) 12) 35 (20 * y_) (fun p => (g 42 ((60 * un) + p)).toInt32) xn) 36 y_ (nI xn)) 37 y_ y) g rr) mo_M_forgets mi_M_forgets ml_M_122 rfl (by decide) rfl rfl rfl (Nat.le_of_ble_eq_true rfl) de_M_game_331 (fun v_ M_ hK_ hl_ hv_ => ?_)
                            obtain ⟨rfl, hm_⟩ := hK_
                            have hm_ := hm_.symm
                            subst hm_
                            change ab_G _ _ _ _ _ _ _ [(0, .ref 30), (1, .int (nI sn)), (2, .int (nI un)), (3, .int (nI xn)), (4, .int y)] [] (ab_S nr (ab_u2 (ab_u2 (ab_u2 (ab_u2 (ab_u2 (md_wr (md_wr h 34 (12 * y_) (fun p => (g 42 ((60 * sn) + p)).toInt32) 12) 35 (20 * y_) (fun p => (g 42 ((60 * un) + p)).toInt32) xn) 36 y_ (nI xn)) 37 y_ y) 30 31 (-1 : Int32)) 30 32 (0 : Int32)) 30 33 (-1 : Int32)) g rr) _
                            refine ab_aload_n de_M_game_334 0 rfl ?_
                            refine ab_dup de_M_game_335 rfl ?_
                            refine ab_get (v := .int ((ab_u2 (ab_u2 (ab_u2 (ab_u2 (ab_u2 (md_wr (md_wr h 34 (12 * y_) (fun p => (g 42 ((60 * sn) + p)).toInt32) 12) 35 (20 * y_) (fun p => (g 42 ((60 * un) + p)).toInt32) xn) 36 y_ (nI xn)) 37 y_ y) 30 31 (-1 : Int32)) 30 32 (0 : Int32)) 30 33 (-1 : Int32)) 30 1)) fl_M_84 rfl rfl de_M_game_336 ?_
                            refine ab_top (v' := nI y_) ((ab_u2_ne (by decide)).trans ((ab_u2_ne (by decide)).trans ((ab_u2_ne (by decide)).trans ((ab_u2_k (by decide)).trans ((ab_u2_k (by decide)).trans ((md_wr_k (by decide)).trans ((md_wr_k (by decide)).trans hy1))))))) ?_
                            refine ab_dup_x1 de_M_game_339 rfl rfl ?_
                            refine ab_iconst (v := 1) de_M_game_340 rfl ?_
                            refine ab_iadd de_M_game_341 ?_
                            refine ab_top (v' := nI (y_ + 1)) (ab_add _ _) ?_
                            refine ab_putI (x := 30) (j := 1) fl_M_84 rfl (Or.inl rfl) rfl rfl rfl de_M_game_342 ?_
                            change ab_G _ _ _ _ _ _ _ _ _ (ab_S nr (ab_u2 (ab_u2 (ab_u2 (ab_u2 (ab_u2 (ab_u2 (md_wr (md_wr h 34 (12 * y_) (fun p => (g 42 ((60 * sn) + p)).toInt32) 12) 35 (20 * y_) (fun p => (g 42 ((60 * un) + p)).toInt32) xn) 36 y_ (nI xn)) 37 y_ y) 30 31 (-1 : Int32)) 30 32 (0 : Int32)) 30 33 (-1 : Int32)) 30 1 (nI (y_ + 1))) g rr) _
                            exact ab_ret (v := some (.int (nI y_))) de_M_game_345 ⟨_, rfl⟩ (by unfold fx_M_game; try simp only [ab_tn (show sn < 2 ^ 31 by omega), ab_tn (show un < 2 ^ 31 by omega), ab_tn (show xn < 2 ^ 31 by omega)]; rw [if_neg c_5_1, if_neg c_13_2, if_neg c_29_3, if_neg c_39_4, if_neg c_55_5, if_neg c_64_6, if_pos c_75_7, if_neg c_93_8, if_pos c_103_9, if_neg c_116_10, if_neg c_122_11, if_pos c_128_12, if_neg na_, if_neg nb_, if_neg c_224_13])
                          · refine ab_aload_n de_M_game_227 0 rfl ?_
                            refine ab_bipush (v := -7) de_M_game_228 rfl ?_
                            refine ab_cV (as := [.int (-7 : Int32)]) (st := []) (ct_M_no l _ nr h g rr (r := (-7 : Int32)) (k := 7) (by decide) (by decide)) mo_M_no mi_M_no ml_M_94 rfl (by decide) rfl rfl rfl (Nat.le_of_ble_eq_true rfl) de_M_game_230 (fun v_ M_ hK_ hl_ hv_ => ?_)
                            obtain ⟨rfl, hm_⟩ := hK_
                            have hm_ := hm_.symm
                            subst hm_
                            change ab_G _ _ _ _ _ _ _ [(0, .ref 30), (1, .int (nI sn)), (2, .int (nI un)), (3, .int (nI xn)), (4, .int y)] [.int (-7 : Int32)] (ab_S nr (ab_u2 h 31 7 (h 31 7 + 1)) g rr) _
                            exact ab_ret (v := some (.int (-7 : Int32))) de_M_game_233 ⟨_, rfl⟩ (by unfold fx_M_game; try simp only [ab_tn (show sn < 2 ^ 31 by omega), ab_tn (show un < 2 ^ 31 by omega), ab_tn (show xn < 2 ^ 31 by omega)]; rw [if_neg c_5_1, if_neg c_13_2, if_neg c_29_3, if_neg c_39_4, if_neg c_55_5, if_neg c_64_6, if_pos c_75_7, if_neg c_93_8, if_pos c_103_9, if_neg c_116_10, if_neg c_122_11, if_pos c_128_12, if_neg na_, if_neg nb_, if_pos c_224_13])
                        · refine ab_aload_n de_M_game_131 0 rfl ?_
                          refine ab_bipush (v := -6) de_M_game_132 rfl ?_
                          refine ab_cV (as := [.int (-6 : Int32)]) (st := []) (ct_M_no l _ nr h g rr (r := (-6 : Int32)) (k := 6) (by decide) (by decide)) mo_M_no mi_M_no ml_M_94 rfl (by decide) rfl rfl rfl (Nat.le_of_ble_eq_true rfl) de_M_game_134 (fun v_ M_ hK_ hl_ hv_ => ?_)
                          obtain ⟨rfl, hm_⟩ := hK_
                          have hm_ := hm_.symm
                          subst hm_
                          change ab_G _ _ _ _ _ _ _ [(0, .ref 30), (1, .int (nI sn)), (2, .int (nI un)), (3, .int (nI xn)), (4, .int y)] [.int (-6 : Int32)] (ab_S nr (ab_u2 h 31 6 (h 31 6 + 1)) g rr) _
                          exact ab_ret (v := some (.int (-6 : Int32))) de_M_game_137 ⟨_, rfl⟩ (by unfold fx_M_game; try simp only [ab_tn (show sn < 2 ^ 31 by omega), ab_tn (show un < 2 ^ 31 by omega), ab_tn (show xn < 2 ^ 31 by omega)]; rw [if_neg c_5_1, if_neg c_13_2, if_neg c_29_3, if_neg c_39_4, if_neg c_55_5, if_neg c_64_6, if_pos c_75_7, if_neg c_93_8, if_pos c_103_9, if_neg c_116_10, if_neg c_122_11, if_neg c_128_12])
                  · refine ab_aload_n de_M_game_106 0 rfl ?_
                    refine ab_bipush (v := -5) de_M_game_107 rfl ?_
                    refine ab_cV (as := [.int (-5 : Int32)]) (st := []) (ct_M_no l _ nr h g rr (r := (-5 : Int32)) (k := 5) (by decide) (by decide)) mo_M_no mi_M_no ml_M_94 rfl (by decide) rfl rfl rfl (Nat.le_of_ble_eq_true rfl) de_M_game_109 (fun v_ M_ hK_ hl_ hv_ => ?_)
                    obtain ⟨rfl, hm_⟩ := hK_
                    have hm_ := hm_.symm
                    subst hm_
                    change ab_G _ _ _ _ _ _ _ [(0, .ref 30), (1, .int (nI sn)), (2, .int (nI un)), (3, .int (nI xn)), (4, .int y)] [.int (-5 : Int32)] (ab_S nr (ab_u2 h 31 5 (h 31 5 + 1)) g rr) _
                    exact ab_ret (v := some (.int (-5 : Int32))) de_M_game_112 ⟨_, rfl⟩ (by unfold fx_M_game; try simp only [ab_tn (show sn < 2 ^ 31 by omega), ab_tn (show un < 2 ^ 31 by omega), ab_tn (show xn < 2 ^ 31 by omega)]; rw [if_neg c_5_1, if_neg c_13_2, if_neg c_29_3, if_neg c_39_4, if_neg c_55_5, if_neg c_64_6, if_pos c_75_7, if_neg c_93_8, if_neg c_103_9])
              · refine ab_aload_n de_M_game_78 0 rfl ?_
                refine ab_bipush (v := -4) de_M_game_79 rfl ?_
                refine ab_cV (as := [.int (-4 : Int32)]) (st := []) (ct_M_no l _ nr h g rr (r := (-4 : Int32)) (k := 4) (by decide) (by decide)) mo_M_no mi_M_no ml_M_94 rfl (by decide) rfl rfl rfl (Nat.le_of_ble_eq_true rfl) de_M_game_81 (fun v_ M_ hK_ hl_ hv_ => ?_)
                obtain ⟨rfl, hm_⟩ := hK_
                have hm_ := hm_.symm
                subst hm_
                change ab_G _ _ _ _ _ _ _ [(0, .ref 30), (1, .int (nI sn)), (2, .int (nI un)), (3, .int x), (4, .int y)] [.int (-4 : Int32)] (ab_S nr (ab_u2 h 31 4 (h 31 4 + 1)) g rr) _
                exact ab_ret (v := some (.int (-4 : Int32))) de_M_game_84 ⟨_, rfl⟩ (by unfold fx_M_game; try simp only [ab_tn (show sn < 2 ^ 31 by omega), ab_tn (show un < 2 ^ 31 by omega)]; rw [if_neg c_5_1, if_neg c_13_2, if_neg c_29_3, if_neg c_39_4, if_neg c_55_5, if_neg c_64_6, if_neg c_75_7])
            · refine ab_aload_n de_M_game_67 0 rfl ?_
              refine ab_bipush (v := -3) de_M_game_68 rfl ?_
              refine ab_cV (as := [.int (-3 : Int32)]) (st := []) (ct_M_no l _ nr h g rr (r := (-3 : Int32)) (k := 3) (by decide) (by decide)) mo_M_no mi_M_no ml_M_94 rfl (by decide) rfl rfl rfl (Nat.le_of_ble_eq_true rfl) de_M_game_70 (fun v_ M_ hK_ hl_ hv_ => ?_)
              obtain ⟨rfl, hm_⟩ := hK_
              have hm_ := hm_.symm
              subst hm_
              change ab_G _ _ _ _ _ _ _ [(0, .ref 30), (1, .int (nI sn)), (2, .int (nI un)), (3, .int x), (4, .int y)] [.int (-3 : Int32)] (ab_S nr (ab_u2 h 31 3 (h 31 3 + 1)) g rr) _
              exact ab_ret (v := some (.int (-3 : Int32))) de_M_game_73 ⟨_, rfl⟩ (by unfold fx_M_game; try simp only [ab_tn (show sn < 2 ^ 31 by omega), ab_tn (show un < 2 ^ 31 by omega)]; rw [if_neg c_5_1, if_neg c_13_2, if_neg c_29_3, if_neg c_39_4, if_neg c_55_5, if_pos c_64_6])
        · refine ab_aload_n de_M_game_42 0 rfl ?_
          refine ab_bipush (v := -2) de_M_game_43 rfl ?_
          refine ab_cV (as := [.int (-2 : Int32)]) (st := []) (ct_M_no l _ nr h g rr (r := (-2 : Int32)) (k := 2) (by decide) (by decide)) mo_M_no mi_M_no ml_M_94 rfl (by decide) rfl rfl rfl (Nat.le_of_ble_eq_true rfl) de_M_game_45 (fun v_ M_ hK_ hl_ hv_ => ?_)
          obtain ⟨rfl, hm_⟩ := hK_
          have hm_ := hm_.symm
          subst hm_
          change ab_G _ _ _ _ _ _ _ [(0, .ref 30), (1, .int (nI sn)), (2, .int (nI un)), (3, .int x), (4, .int y)] [.int (-2 : Int32)] (ab_S nr (ab_u2 h 31 2 (h 31 2 + 1)) g rr) _
          exact ab_ret (v := some (.int (-2 : Int32))) de_M_game_48 ⟨_, rfl⟩ (by unfold fx_M_game; try simp only [ab_tn (show sn < 2 ^ 31 by omega), ab_tn (show un < 2 ^ 31 by omega)]; rw [if_neg c_5_1, if_neg c_13_2, if_neg c_29_3, if_pos c_39_4])
    · refine ab_aload_n de_M_game_16 0 rfl ?_
      refine ab_iconst (v := -1) de_M_game_17 rfl ?_
      refine ab_cV (as := [.int (-1 : Int32)]) (st := []) (ct_M_no l _ nr h g rr (r := (-1 : Int32)) (k := 1) (by decide) (by decide)) mo_M_no mi_M_no ml_M_94 rfl (by decide) rfl rfl rfl (Nat.le_of_ble_eq_true rfl) de_M_game_18 (fun v_ M_ hK_ hl_ hv_ => ?_)
      obtain ⟨rfl, hm_⟩ := hK_
      have hm_ := hm_.symm
      subst hm_
      change ab_G _ _ _ _ _ _ _ [(0, .ref 30), (1, .int (nI sn)), (2, .int u), (3, .int x), (4, .int y)] [.int (-1 : Int32)] (ab_S nr (ab_u2 h 31 1 (h 31 1 + 1)) g rr) _
      exact ab_ret (v := some (.int (-1 : Int32))) de_M_game_21 ⟨_, rfl⟩ (by unfold fx_M_game; try simp only [ab_tn (show sn < 2 ^ 31 by omega)]; rw [if_neg c_5_1, if_pos c_13_2])
