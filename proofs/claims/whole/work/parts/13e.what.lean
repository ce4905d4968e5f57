theorem sp_bq_n {x : Int32} {a N : Nat} (hN : N < 2 ^ 31) (h0 : nI a ≤ x) (ha : a < 2 ^ 31) (h1 : x < nI N) : ∃ n, (a ≤ n ∧ n < N) ∧ x = nI n := by
  obtain ⟨n, hn, rfl⟩ := sp_nn (Int32.not_lt.mpr (Int32.le_trans ((ab_le (a := 0) (by decide) ha).mpr (Nat.zero_le _)) h0))
  exact ⟨n, ⟨(ab_le ha hn).mp h0, (ab_lt hn hN).mp h1⟩, rfl⟩
theorem ab_subI {a z : Nat} (ha : a ≤ 60) (hz : z < 2 ^ 31) : (nI a - nI z).toInt = (a : Int) - (z : Int) := by
  rw [Int32.toInt_sub, nI_toInt (by omega), nI_toInt hz]
  simp only [Int.bmod]
  rw [show ((2 ^ 32 : Nat) : Int) = 4294967296 from rfl]
  split <;> omega
theorem cp_n {a z : Nat} {x : Int32} (ha : a ≤ 60) (hz : z < 2 ^ 31) (h0 : ¬ x < 0) (h : ¬ nI a - nI z < x) : ∃ n, n + z ≤ a ∧ x = nI n := by
  obtain ⟨n, hn, rfl⟩ := sp_nn h0
  refine ⟨n, ?_, rfl⟩
  rw [Int32.lt_iff_toInt_lt, ab_subI ha hz, nI_toInt hn] at h
  omega
theorem nn_n {x : Int32} (h : ¬ x < 0) : ∃ n, n < 2 ^ 31 ∧ x = nI n := by
  obtain ⟨n, hn, rfl⟩ := sp_nn h
  exact ⟨n, hn, rfl⟩
theorem nn_0 (n : Nat) (h : n < 2 ^ 31) : ¬ nI n < 0 := fun z => absurd ((ab_lt (b := 0) h (by decide)).mp z) (Nat.not_lt_zero _)
def fx_W_best (nr : Nat) (h : Nat → Nat → Int32) (g : Nat → Nat → Int64) (rr : Nat → Option Nat) (T : Nat → Nat → Nat) (m i t : Nat)  (x y : Int32) : Option Value × ab_Me :=
  if (ab_bz (sp_cd x)) = 0 then
    (some (.int (-11 : Int32)), (ab_S nr (ab_u2 h 28 1 (h 28 1 + 1)) g rr))
  else
    if y < (1 : Int32) then
      (some (.int (-16 : Int32)), (ab_S nr (ab_u2 h 28 6 (h 28 6 + 1)) g rr))
    else
      if y ≤ (3 : Int32) then
        (some (.int (sp_bo T x.toNatClampNeg (y.toNatClampNeg - 1) m i)), (ab_S nr h g rr))
      else
        (some (.int (-16 : Int32)), (ab_S nr (ab_u2 h 28 6 (h 28 6 + 1)) g rr))
set_option maxHeartbeats 1000000 in
set_option maxRecDepth 10000 in
theorem ct_W_best (l : Launch) (d : Nat) (nr : Nat) (h : Nat → Nat → Int32) (g : Nat → Nat → Int64) (rr : Nat → Option Nat) {T : Nat → Nat → Nat} (hT : bo_T T h 17) (hO : sp_ok T) {m i t : Nat} (hm : m < 4096) (hi : i < 4096) (ht : t < 2) (hdj : sp_dj m i) (hN : h 0 10 = nI (sp_en m i t))  (x y : Int32) : ab_C l am_W_best (d + 11) 0 0 [.ref 0, .int x, .int y] (ab_S nr h g rr) (fun r_ M' => (r_, M') = fx_W_best nr h g rr T m i t x y) := by
  refine ab_C_of (by decide +kernel) rfl (Nat.le_of_ble_eq_true rfl) ?_
  refine ab_iload_n de_W_best_0 1 rfl ?_
  refine ab_cS (as := [.int x]) (st := []) (ct_W_isCode l _ (ab_S nr h g rr) (x)) mo_W_isCode ms_W_isCode ml_W_168 rfl rfl (Nat.le_of_ble_eq_true rfl) de_W_best_1 (fun v_ M_ hK_ hl_ hv_ => ?_)
  obtain ⟨rfl, hm_⟩ := hK_
  have hm_ := hm_.symm
  subst hm_
  change ab_G _ _ _ _ _ _ _ [(0, .ref 0), (1, .int x), (2, .int y)] [.int (ab_bz (sp_cd x))] (ab_S nr h g rr) _
  refine ab_if_ne (tgt := 15) de_W_best_4 rfl (fun c_4_1 => ?_) (fun c_4_1 => ?_)
  · obtain ⟨xn, hxn, rfl⟩ := sp_cd_n c_4_1
    refine ab_iload_n de_W_best_15 2 rfl ?_
    refine ab_iconst (v := 1) de_W_best_16 rfl ?_
    refine ab_icmp_lt (tgt := 25) de_W_best_17 rfl (fun c_17_2 => ?_) (fun c_17_2 => ?_)
    · refine ab_aload_n de_W_best_25 0 rfl ?_
      refine ab_bipush (v := -6) de_W_best_26 rfl ?_
      refine ab_bipush (v := -16) de_W_best_28 rfl ?_
      refine ab_cV (as := [.int (-6 : Int32), .int (-16 : Int32)]) (st := []) (ct_W_refuseTold l _ nr h g rr (r := (-6 : Int32)) (k := 6) (by decide) (by decide) ((-16 : Int32))) mo_W_refuseTold mi_W_refuseTold ml_W_199 rfl (by decide) rfl rfl rfl (Nat.le_of_ble_eq_true rfl) de_W_best_30 (fun v_ M_ hK_ hl_ hv_ => ?_)
      obtain ⟨rfl, hm_⟩ := hK_
      have hm_ := hm_.symm
      subst hm_
      change ab_G _ _ _ _ _ _ _ [(0, .ref 0), (1, .int (nI xn)), (2, .int y)] [.int (-16 : Int32)] (ab_S nr (ab_u2 h 28 6 (h 28 6 + 1)) g rr) _
      exact ab_ret (v := some (.int (-16 : Int32))) de_W_best_33 ⟨_, rfl⟩ (by unfold fx_W_best; try simp only [ab_tn (show xn < 2 ^ 31 by omega)]; rw [if_neg c_4_1, if_pos c_17_2])
    · have c17 := c_17_2
      refine ab_iload_n de_W_best_20 2 rfl ?_
      refine ab_iconst (v := 3) de_W_best_21 rfl ?_
      refine ab_icmp_le (tgt := 34) de_W_best_22 rfl (fun c_22_3 => ?_) (fun c_22_3 => ?_)
      · obtain ⟨yn, hyn, rfl⟩ := sp_btl_n (a := 1) (N := 3) (by decide) (Int32.not_lt.mp c17) (by decide) c_22_3
        refine ab_aload_n de_W_best_34 0 rfl ?_
        refine ab_get (v := .ref 16) fl_W_55 rfl rfl de_W_best_35 ?_
        refine ab_aload_n de_W_best_38 0 rfl ?_
        refine ab_get (v := .int (h 0 10)) fl_W_56 rfl rfl de_W_best_39 ?_
        refine ab_top (v' := nI (sp_en m i t)) (hN) ?_
        refine ab_iload_n de_W_best_42 1 rfl ?_
        refine ab_iload_n de_W_best_43 2 rfl ?_
        refine ab_top (v' := nI (yn - 1 + 1)) (by rw [Nat.sub_add_cancel hyn.1]) ?_
        refine ab_cV (as := [.int (nI (sp_en m i t)), .int (nI xn), .int (nI (yn - 1 + 1))]) (st := []) (ct_B_best l _ nr h g rr hT hO hm hi ht (c := xn) (by omega) hdj (n := yn - 1) (by omega)) mo_B_bestOf mi_B_bestOf ml_W_217 rfl (by decide) rfl rfl rfl (Nat.le_of_ble_eq_true rfl) de_W_best_44 (fun v_ M_ hK_ hl_ hv_ => ?_)
        obtain ⟨rfl, hm_⟩ := hK_
        have hm_ := hm_.symm
        subst hm_
        change ab_G _ _ _ _ _ _ _ [(0, .ref 0), (1, .int (nI xn)), (2, .int (nI yn))] [.int (sp_bo T xn (yn - 1) m i)] (ab_S nr h g rr) _
        exact ab_ret (v := some (.int (sp_bo T xn (yn - 1) m i))) de_W_best_47 ⟨_, rfl⟩ (by unfold fx_W_best; try simp only [ab_tn (show xn < 2 ^ 31 by omega), ab_tn (show yn < 2 ^ 31 by omega)]; rw [if_neg c_4_1, if_neg c_17_2, if_pos c_22_3])
      · refine ab_aload_n de_W_best_25 0 rfl ?_
        refine ab_bipush (v := -6) de_W_best_26 rfl ?_
        refine ab_bipush (v := -16) de_W_best_28 rfl ?_
        refine ab_cV (as := [.int (-6 : Int32), .int (-16 : Int32)]) (st := []) (ct_W_refuseTold l _ nr h g rr (r := (-6 : Int32)) (k := 6) (by decide) (by decide) ((-16 : Int32))) mo_W_refuseTold mi_W_refuseTold ml_W_199 rfl (by decide) rfl rfl rfl (Nat.le_of_ble_eq_true rfl) de_W_best_30 (fun v_ M_ hK_ hl_ hv_ => ?_)
        obtain ⟨rfl, hm_⟩ := hK_
        have hm_ := hm_.symm
        subst hm_
        change ab_G _ _ _ _ _ _ _ [(0, .ref 0), (1, .int (nI xn)), (2, .int y)] [.int (-16 : Int32)] (ab_S nr (ab_u2 h 28 6 (h 28 6 + 1)) g rr) _
        exact ab_ret (v := some (.int (-16 : Int32))) de_W_best_33 ⟨_, rfl⟩ (by unfold fx_W_best; try simp only [ab_tn (show xn < 2 ^ 31 by omega)]; rw [if_neg c_4_1, if_neg c_17_2, if_neg c_22_3])
  · refine ab_aload_n de_W_best_7 0 rfl ?_
    refine ab_iconst (v := -1) de_W_best_8 rfl ?_
    refine ab_bipush (v := -11) de_W_best_9 rfl ?_
    refine ab_cV (as := [.int (-1 : Int32), .int (-11 : Int32)]) (st := []) (ct_W_refuseTold l _ nr h g rr (r := (-1 : Int32)) (k := 1) (by decide) (by decide) ((-11 : Int32))) mo_W_refuseTold mi_W_refuseTold ml_W_199 rfl (by decide) rfl rfl rfl (Nat.le_of_ble_eq_true rfl) de_W_best_11 (fun v_ M_ hK_ hl_ hv_ => ?_)
    obtain ⟨rfl, hm_⟩ := hK_
    have hm_ := hm_.symm
    subst hm_
    change ab_G _ _ _ _ _ _ _ [(0, .ref 0), (1, .int x), (2, .int y)] [.int (-11 : Int32)] (ab_S nr (ab_u2 h 28 1 (h 28 1 + 1)) g rr) _
    exact ab_ret (v := some (.int (-11 : Int32))) de_W_best_14 ⟨_, rfl⟩ (by unfold fx_W_best; rw [if_pos c_4_1])
def fx_W_gameOf (nr : Nat) (h : Nat → Nat → Int32) (g : Nat → Nat → Int64) (rr : Nat → Option Nat) (Z : sp_G)  (x y : Int32) : Option Value × ab_Me :=
  if (ab_bz (decide (0 ≤ x ∧ x < nI (gN Z)))) = 0 then
    (some (.int (-5 : Int32)), (ab_S nr (ab_u2 h 28 5 (h 28 5 + 1)) g rr))
  else
    if y = 0 then
      (some (.int (nI (gL Z x.toNatClampNeg))), (ab_S nr h g rr))
    else
      if y = (1 : Int32) then
        (some (.int (gO Z x.toNatClampNeg)), (ab_S nr h g rr))
      else
        if y < (100 : Int32) then
          if y < (200 : Int32) then
            (some (.int (-5 : Int32)), (ab_S nr (ab_u2 h 28 5 (h 28 5 + 1)) g rr))
          else
            if (212 : Int32) ≤ y then
              (some (.int (-5 : Int32)), (ab_S nr (ab_u2 h 28 5 (h 28 5 + 1)) g rr))
            else
              (some (.int (nI (sp_wv (sp_who (gA Z x.toNatClampNeg) (gB Z x.toNatClampNeg) (y.toNatClampNeg - 200)) 0))), (ab_S nr h g rr))
        else
          if (nI (100 + gL Z x.toNatClampNeg)) ≤ y then
            if y < (200 : Int32) then
              (some (.int (-5 : Int32)), (ab_S nr (ab_u2 h 28 5 (h 28 5 + 1)) g rr))
            else
              if (212 : Int32) ≤ y then
                (some (.int (-5 : Int32)), (ab_S nr (ab_u2 h 28 5 (h 28 5 + 1)) g rr))
              else
                (some (.int (nI (sp_wv (sp_who (gA Z x.toNatClampNeg) (gB Z x.toNatClampNeg) (y.toNatClampNeg - 200)) 0))), (ab_S nr h g rr))
          else
            (some (.int (nI (gV Z x.toNatClampNeg (y.toNatClampNeg - 100)))), (ab_S nr h g rr))
set_option maxHeartbeats 1000000 in
set_option maxRecDepth 10000 in
theorem ct_W_gameOf (l : Launch) (d : Nat) (nr : Nat) (h : Nat → Nat → Int32) (g : Nat → Nat → Int64) (rr : Nat → Option Nat) {Z : sp_G} (hZ : gm_ok Z) (hG : gm_C Z h)  (x y : Int32) : ab_C l am_W_gameOf (d + 2) 0 0 [.ref 0, .int x, .int y] (ab_S nr h g rr) (fun r_ M' => (r_, M') = fx_W_gameOf nr h g rr Z x y) := by
  have h6_ := hZ.1
  refine ab_C_of (by decide +kernel) rfl (Nat.le_of_ble_eq_true rfl) ?_
  refine ab_aload_n de_W_gameOf_0 0 rfl ?_
  refine ab_get (v := .ref 15) fl_W_48 rfl rfl de_W_gameOf_1 ?_
  refine ab_iload_n de_W_gameOf_4 1 rfl ?_
  refine ab_cV (as := [.int x]) (st := []) (ct_G_has l _ nr h g rr hZ hG x) mo_G_has mi_G_has ml_W_237 rfl (by decide) rfl rfl rfl (Nat.le_of_ble_eq_true rfl) de_W_gameOf_5 (fun v_ M_ hK_ hl_ hv_ => ?_)
  obtain ⟨rfl, hm_⟩ := hK_
  have hm_ := hm_.symm
  subst hm_
  change ab_G _ _ _ _ _ _ _ [(0, .ref 0), (1, .int x), (2, .int y)] [.int (ab_bz (decide (0 ≤ x ∧ x < nI (gN Z))))] (ab_S nr h g rr) _
  refine ab_if_eq (tgt := 107) de_W_gameOf_8 rfl (fun c_8_1 => ?_) (fun c_8_1 => ?_)
  · refine ab_aload_n de_W_gameOf_107 0 rfl ?_
    refine ab_bipush (v := -5) de_W_gameOf_108 rfl ?_
    refine ab_cV (as := [.int (-5 : Int32)]) (st := []) (ct_W_refuse l _ nr h g rr (r := (-5 : Int32)) (k := 5) (by decide) (by decide)) mo_W_refuse mi_W_refuse ml_W_88 rfl (by decide) rfl rfl rfl (Nat.le_of_ble_eq_true rfl) de_W_gameOf_110 (fun v_ M_ hK_ hl_ hv_ => ?_)
    obtain ⟨rfl, hm_⟩ := hK_
    have hm_ := hm_.symm
    subst hm_
    change ab_G _ _ _ _ _ _ _ [(0, .ref 0), (1, .int x), (2, .int y)] [.int (-5 : Int32)] (ab_S nr (ab_u2 h 28 5 (h 28 5 + 1)) g rr) _
    exact ab_ret (v := some (.int (-5 : Int32))) de_W_gameOf_113 ⟨_, rfl⟩ (by unfold fx_W_gameOf; rw [if_pos c_8_1])
  · obtain ⟨xn, hxn, rfl⟩ := sp_ra_n (by omega) c_8_1
    refine ab_iload_n de_W_gameOf_11 2 rfl ?_
    refine ab_if_ne (tgt := 25) de_W_gameOf_12 rfl (fun c_12_2 => ?_) (fun c_12_2 => ?_)
    · refine ab_iload_n de_W_gameOf_25 2 rfl ?_
      refine ab_iconst (v := 1) de_W_gameOf_26 rfl ?_
      refine ab_icmp_ne (tgt := 40) de_W_gameOf_27 rfl (fun c_27_3 => ?_) (fun c_27_3 => ?_)
      · refine ab_iload_n de_W_gameOf_40 2 rfl ?_
        refine ab_bipush (v := 100) de_W_gameOf_41 rfl ?_
        refine ab_icmp_lt (tgt := 75) de_W_gameOf_43 rfl (fun c_43_4 => ?_) (fun c_43_4 => ?_)
        · refine ab_iload_n de_W_gameOf_75 2 rfl ?_
          refine ab_sipush (v := 200) de_W_gameOf_76 rfl ?_
          refine ab_icmp_lt (tgt := 107) de_W_gameOf_79 rfl (fun c_79_5 => ?_) (fun c_79_5 => ?_)
          · refine ab_aload_n de_W_gameOf_107 0 rfl ?_
            refine ab_bipush (v := -5) de_W_gameOf_108 rfl ?_
            refine ab_cV (as := [.int (-5 : Int32)]) (st := []) (ct_W_refuse l _ nr h g rr (r := (-5 : Int32)) (k := 5) (by decide) (by decide)) mo_W_refuse mi_W_refuse ml_W_88 rfl (by decide) rfl rfl rfl (Nat.le_of_ble_eq_true rfl) de_W_gameOf_110 (fun v_ M_ hK_ hl_ hv_ => ?_)
            obtain ⟨rfl, hm_⟩ := hK_
            have hm_ := hm_.symm
            subst hm_
            change ab_G _ _ _ _ _ _ _ [(0, .ref 0), (1, .int (nI xn)), (2, .int y)] [.int (-5 : Int32)] (ab_S nr (ab_u2 h 28 5 (h 28 5 + 1)) g rr) _
            exact ab_ret (v := some (.int (-5 : Int32))) de_W_gameOf_113 ⟨_, rfl⟩ (by unfold fx_W_gameOf; try simp only [ab_tn (show xn < 2 ^ 31 by omega)]; rw [if_neg c_8_1, if_neg c_12_2, if_neg c_27_3, if_pos c_43_4, if_pos c_79_5])
          · have c79 := c_79_5
            refine ab_iload_n de_W_gameOf_82 2 rfl ?_
            refine ab_sipush (v := 212) de_W_gameOf_83 rfl ?_
            refine ab_icmp_ge (tgt := 107) de_W_gameOf_86 rfl (fun c_86_6 => ?_) (fun c_86_6 => ?_)
            · refine ab_aload_n de_W_gameOf_107 0 rfl ?_
              refine ab_bipush (v := -5) de_W_gameOf_108 rfl ?_
              refine ab_cV (as := [.int (-5 : Int32)]) (st := []) (ct_W_refuse l _ nr h g rr (r := (-5 : Int32)) (k := 5) (by decide) (by decide)) mo_W_refuse mi_W_refuse ml_W_88 rfl (by decide) rfl rfl rfl (Nat.le_of_ble_eq_true rfl) de_W_gameOf_110 (fun v_ M_ hK_ hl_ hv_ => ?_)
              obtain ⟨rfl, hm_⟩ := hK_
              have hm_ := hm_.symm
              subst hm_
              change ab_G _ _ _ _ _ _ _ [(0, .ref 0), (1, .int (nI xn)), (2, .int y)] [.int (-5 : Int32)] (ab_S nr (ab_u2 h 28 5 (h 28 5 + 1)) g rr) _
              exact ab_ret (v := some (.int (-5 : Int32))) de_W_gameOf_113 ⟨_, rfl⟩ (by unfold fx_W_gameOf; try simp only [ab_tn (show xn < 2 ^ 31 by omega)]; rw [if_neg c_8_1, if_neg c_12_2, if_neg c_27_3, if_pos c_43_4, if_neg c_79_5, if_pos c_86_6])
            · obtain ⟨yn, hyn, rfl⟩ := sp_bq_n (a := 200) (N := 212) (by omega) (Int32.not_lt.mp c79) (by decide) (Int32.not_le.mp c_86_6)
              refine ab_aload_n de_W_gameOf_89 0 rfl ?_
              refine ab_get (v := .ref 15) fl_W_48 rfl rfl de_W_gameOf_90 ?_
              refine ab_get (v := .ref 18) fl_W_249 rfl rfl de_W_gameOf_93 ?_
              refine ab_iload_n de_W_gameOf_96 1 rfl ?_
              refine ab_iald (v := h 18 xn) rfl (ab_in (by omega) (by decide)) (ab_hv (ab_tn (n := xn) (by omega))) de_W_gameOf_97 ?_
              refine ab_top (v' := nI (sp_en (gA Z xn) (gB Z xn) 0)) ((hG.2 xn (by omega)).1) ?_
              refine ab_iload_n de_W_gameOf_98 2 rfl ?_
              refine ab_sipush (v := 200) de_W_gameOf_99 rfl ?_
              refine ab_isub de_W_gameOf_102 ?_
              refine ab_top (v' := nI (yn - 200)) (ab_sub_k (b := 200) (by omega)) ?_
              refine ab_cS (as := [.int (nI (sp_en (gA Z xn) (gB Z xn) 0)), .int (nI (yn - 200))]) (st := []) (ct_B_on l _ (ab_S nr h g rr) (hZ.2 xn hxn).1 (hZ.2 xn hxn).2.1 (by decide) (p := yn - 200) (by omega) ((hZ.2 xn hxn).2.2.1 _)) mo_B_on ms_B_on ml_W_174 rfl rfl (Nat.le_of_ble_eq_true rfl) de_W_gameOf_103 (fun v_ M_ hK_ hl_ hv_ => ?_)
              obtain ⟨rfl, hm_⟩ := hK_
              have hm_ := hm_.symm
              subst hm_
              change ab_G _ _ _ _ _ _ _ [(0, .ref 0), (1, .int (nI xn)), (2, .int (nI yn))] [.int (nI (sp_wv (sp_who (gA Z xn) (gB Z xn) (yn - 200)) 0))] (ab_S nr h g rr) _
              exact ab_ret (v := some (.int (nI (sp_wv (sp_who (gA Z xn) (gB Z xn) (yn - 200)) 0)))) de_W_gameOf_106 ⟨_, rfl⟩ (by unfold fx_W_gameOf; try simp only [ab_tn (show xn < 2 ^ 31 by omega), ab_tn (show yn < 2 ^ 31 by omega)]; rw [if_neg c_8_1, if_neg c_12_2, if_neg c_27_3, if_pos c_43_4, if_neg c_79_5, if_neg c_86_6])
        · have c43 := c_43_4
          have h20 := gm_20 hZ hxn
          refine ab_iload_n de_W_gameOf_46 2 rfl ?_
          refine ab_bipush (v := 100) de_W_gameOf_47 rfl ?_
          refine ab_aload_n de_W_gameOf_49 0 rfl ?_
          refine ab_get (v := .ref 15) fl_W_48 rfl rfl de_W_gameOf_50 ?_
          refine ab_get (v := .ref 19) fl_W_240 rfl rfl de_W_gameOf_53 ?_
          refine ab_iload_n de_W_gameOf_56 1 rfl ?_
          refine ab_iald (v := h 19 xn) rfl (ab_in (by omega) (by decide)) (ab_hv (ab_tn (n := xn) (by omega))) de_W_gameOf_57 ?_
          refine ab_top (v' := nI (gL Z xn)) ((hG.2 xn (by omega)).2.1) ?_
          refine ab_iadd de_W_gameOf_58 ?_
          refine ab_top (v' := nI (100 + gL Z xn)) (ab_add 100 _) ?_
          refine ab_icmp_ge (tgt := 75) de_W_gameOf_59 rfl (fun c_59_7 => ?_) (fun c_59_7 => ?_)
          · refine ab_iload_n de_W_gameOf_75 2 rfl ?_
            refine ab_sipush (v := 200) de_W_gameOf_76 rfl ?_
            refine ab_icmp_lt (tgt := 107) de_W_gameOf_79 rfl (fun c_79_8 => ?_) (fun c_79_8 => ?_)
            · refine ab_aload_n de_W_gameOf_107 0 rfl ?_
              refine ab_bipush (v := -5) de_W_gameOf_108 rfl ?_
              refine ab_cV (as := [.int (-5 : Int32)]) (st := []) (ct_W_refuse l _ nr h g rr (r := (-5 : Int32)) (k := 5) (by decide) (by decide)) mo_W_refuse mi_W_refuse ml_W_88 rfl (by decide) rfl rfl rfl (Nat.le_of_ble_eq_true rfl) de_W_gameOf_110 (fun v_ M_ hK_ hl_ hv_ => ?_)
              obtain ⟨rfl, hm_⟩ := hK_
              have hm_ := hm_.symm
              subst hm_
              change ab_G _ _ _ _ _ _ _ [(0, .ref 0), (1, .int (nI xn)), (2, .int y)] [.int (-5 : Int32)] (ab_S nr (ab_u2 h 28 5 (h 28 5 + 1)) g rr) _
              exact ab_ret (v := some (.int (-5 : Int32))) de_W_gameOf_113 ⟨_, rfl⟩ (by unfold fx_W_gameOf; try simp only [ab_tn (show xn < 2 ^ 31 by omega)]; rw [if_neg c_8_1, if_neg c_12_2, if_neg c_27_3, if_neg c_43_4, if_pos c_59_7, if_pos c_79_8])
            · have c79 := c_79_8
              refine ab_iload_n de_W_gameOf_82 2 rfl ?_
              refine ab_sipush (v := 212) de_W_gameOf_83 rfl ?_
              refine ab_icmp_ge (tgt := 107) de_W_gameOf_86 rfl (fun c_86_9 => ?_) (fun c_86_9 => ?_)
              · refine ab_aload_n de_W_gameOf_107 0 rfl ?_
                refine ab_bipush (v := -5) de_W_gameOf_108 rfl ?_
                refine ab_cV (as := [.int (-5 : Int32)]) (st := []) (ct_W_refuse l _ nr h g rr (r := (-5 : Int32)) (k := 5) (by decide) (by decide)) mo_W_refuse mi_W_refuse ml_W_88 rfl (by decide) rfl rfl rfl (Nat.le_of_ble_eq_true rfl) de_W_gameOf_110 (fun v_ M_ hK_ hl_ hv_ => ?_)
                obtain ⟨rfl, hm_⟩ := hK_
                have hm_ := hm_.symm
                subst hm_
                change ab_G _ _ _ _ _ _ _ [(0, .ref 0), (1, .int (nI xn)), (2, .int y)] [.int (-5 : Int32)] (ab_S nr (ab_u2 h 28 5 (h 28 5 + 1)) g rr) _
                exact ab_ret (v := some (.int (-5 : Int32))) de_W_gameOf_113 ⟨_, rfl⟩ (by unfold fx_W_gameOf; try simp only [ab_tn (show xn < 2 ^ 31 by omega)]; rw [if_neg c_8_1, if_neg c_12_2, if_neg c_27_3, if_neg c_43_4, if_pos c_59_7, if_neg c_79_8, if_pos c_86_9])
              · obtain ⟨yn, hyn, rfl⟩ := sp_bq_n (a := 200) (N := 212) (by omega) (Int32.not_lt.mp c79) (by decide) (Int32.not_le.mp c_86_9)
                refine ab_aload_n de_W_gameOf_89 0 rfl ?_
                refine ab_get (v := .ref 15) fl_W_48 rfl rfl de_W_gameOf_90 ?_
                refine ab_get (v := .ref 18) fl_W_249 rfl rfl de_W_gameOf_93 ?_
                refine ab_iload_n de_W_gameOf_96 1 rfl ?_
                refine ab_iald (v := h 18 xn) rfl (ab_in (by omega) (by decide)) (ab_hv (ab_tn (n := xn) (by omega))) de_W_gameOf_97 ?_
                refine ab_top (v' := nI (sp_en (gA Z xn) (gB Z xn) 0)) ((hG.2 xn (by omega)).1) ?_
                refine ab_iload_n de_W_gameOf_98 2 rfl ?_
                refine ab_sipush (v := 200) de_W_gameOf_99 rfl ?_
                refine ab_isub de_W_gameOf_102 ?_
                refine ab_top (v' := nI (yn - 200)) (ab_sub_k (b := 200) (by omega)) ?_
                refine ab_cS (as := [.int (nI (sp_en (gA Z xn) (gB Z xn) 0)), .int (nI (yn - 200))]) (st := []) (ct_B_on l _ (ab_S nr h g rr) (hZ.2 xn hxn).1 (hZ.2 xn hxn).2.1 (by decide) (p := yn - 200) (by omega) ((hZ.2 xn hxn).2.2.1 _)) mo_B_on ms_B_on ml_W_174 rfl rfl (Nat.le_of_ble_eq_true rfl) de_W_gameOf_103 (fun v_ M_ hK_ hl_ hv_ => ?_)
                obtain ⟨rfl, hm_⟩ := hK_
                have hm_ := hm_.symm
                subst hm_
                change ab_G _ _ _ _ _ _ _ [(0, .ref 0), (1, .int (nI xn)), (2, .int (nI yn))] [.int (nI (sp_wv (sp_who (gA Z xn) (gB Z xn) (yn - 200)) 0))] (ab_S nr h g rr) _
                exact ab_ret (v := some (.int (nI (sp_wv (sp_who (gA Z xn) (gB Z xn) (yn - 200)) 0)))) de_W_gameOf_106 ⟨_, rfl⟩ (by unfold fx_W_gameOf; try simp only [ab_tn (show xn < 2 ^ 31 by omega), ab_tn (show yn < 2 ^ 31 by omega)]; rw [if_neg c_8_1, if_neg c_12_2, if_neg c_27_3, if_neg c_43_4, if_pos c_59_7, if_neg c_79_8, if_neg c_86_9])
          · obtain ⟨yn, hyn, rfl⟩ := sp_bq_n (a := 100) (N := 100 + gL Z xn) (by omega) (Int32.not_lt.mp c43) (by decide) (Int32.not_le.mp c_59_7)
            refine ab_aload_n de_W_gameOf_62 0 rfl ?_
            refine ab_get (v := .ref 15) fl_W_48 rfl rfl de_W_gameOf_63 ?_
            refine ab_iload_n de_W_gameOf_66 1 rfl ?_
            refine ab_iload_n de_W_gameOf_67 2 rfl ?_
            refine ab_bipush (v := 100) de_W_gameOf_68 rfl ?_
            refine ab_isub de_W_gameOf_70 ?_
            refine ab_top (v' := nI (yn - 100)) (ab_sub_k (b := 100) (by omega)) ?_
            refine ab_cV (as := [.int (nI xn), .int (nI (yn - 100))]) (st := []) (ct_G_moveAt l _ nr h g rr hZ hG (g := xn) (k := yn - 100) (by omega) (by omega)) mo_G_moveAt mi_G_moveAt ml_W_246 rfl (by decide) rfl rfl rfl (Nat.le_of_ble_eq_true rfl) de_W_gameOf_71 (fun v_ M_ hK_ hl_ hv_ => ?_)
            obtain ⟨rfl, hm_⟩ := hK_
            have hm_ := hm_.symm
            subst hm_
            change ab_G _ _ _ _ _ _ _ [(0, .ref 0), (1, .int (nI xn)), (2, .int (nI yn))] [.int (nI (gV Z xn (yn - 100)))] (ab_S nr h g rr) _
            exact ab_ret (v := some (.int (nI (gV Z xn (yn - 100))))) de_W_gameOf_74 ⟨_, rfl⟩ (by unfold fx_W_gameOf; try simp only [ab_tn (show xn < 2 ^ 31 by omega), ab_tn (show yn < 2 ^ 31 by omega)]; rw [if_neg c_8_1, if_neg c_12_2, if_neg c_27_3, if_neg c_43_4, if_neg c_59_7])
      · refine ab_aload_n de_W_gameOf_30 0 rfl ?_
        refine ab_get (v := .ref 15) fl_W_48 rfl rfl de_W_gameOf_31 ?_
        refine ab_get (v := .ref 20) fl_W_243 rfl rfl de_W_gameOf_34 ?_
        refine ab_iload_n de_W_gameOf_37 1 rfl ?_
        refine ab_iald (v := h 20 xn) rfl (ab_in (by omega) (by decide)) (ab_hv (ab_tn (n := xn) (by omega))) de_W_gameOf_38 ?_
        refine ab_top (v' := gO Z xn) ((hG.2 xn (by omega)).2.2.1) ?_
        exact ab_ret (v := some (.int (gO Z xn))) de_W_gameOf_39 ⟨_, rfl⟩ (by unfold fx_W_gameOf; try simp only [ab_tn (show xn < 2 ^ 31 by omega)]; rw [if_neg c_8_1, if_neg c_12_2, if_pos c_27_3])
    · refine ab_aload_n de_W_gameOf_15 0 rfl ?_
      refine ab_get (v := .ref 15) fl_W_48 rfl rfl de_W_gameOf_16 ?_
      refine ab_get (v := .ref 19) fl_W_240 rfl rfl de_W_gameOf_19 ?_
      refine ab_iload_n de_W_gameOf_22 1 rfl ?_
      refine ab_iald (v := h 19 xn) rfl (ab_in (by omega) (by decide)) (ab_hv (ab_tn (n := xn) (by omega))) de_W_gameOf_23 ?_
      refine ab_top (v' := nI (gL Z xn)) ((hG.2 xn (by omega)).2.1) ?_
      exact ab_ret (v := some (.int (nI (gL Z xn)))) de_W_gameOf_24 ⟨_, rfl⟩ (by unfold fx_W_gameOf; try simp only [ab_tn (show xn < 2 ^ 31 by omega)]; rw [if_neg c_8_1, if_pos c_12_2])
def fx_W_load (nr : Nat) (h : Nat → Nat → Int32) (g : Nat → Nat → Int64) (rr : Nat → Option Nat) (T : Nat → Nat → Nat) (Z : sp_G)  (x y z : Int32) : Option Value × ab_Me :=
  if (ab_bz (decide (0 ≤ x ∧ x < nI (gN Z)))) = 0 then
    (some (.int (-1 : Int32)), (ab_S nr (ab_u2 h 28 1 (h 28 1 + 1)) g rr))
  else
    if (ab_bz (sp_cd z)) = 0 then
      (some (.int (-1 : Int32)), (ab_S nr (ab_u2 h 28 1 (h 28 1 + 1)) g rr))
    else
      if y < 0 then
        (some (.int (-6 : Int32)), (ab_S nr (ab_u2 h 28 6 (h 28 6 + 1)) g rr))
      else
        if y ≤ (nI (gL Z x.toNatClampNeg)) then
          (some (.int (nI (y.toNatClampNeg % 2))), (ab_S nr (ab_u2 h 0 10 (nI (sp_en (sp_sg T z.toNatClampNeg Z x.toNatClampNeg y.toNatClampNeg).1 (sp_sg T z.toNatClampNeg Z x.toNatClampNeg y.toNatClampNeg).2 (y.toNatClampNeg % 2)))) g rr))
        else
          (some (.int (-6 : Int32)), (ab_S nr (ab_u2 h 28 6 (h 28 6 + 1)) g rr))
set_option maxHeartbeats 1000000 in
set_option maxRecDepth 10000 in
theorem ct_W_load (l : Launch) (d : Nat) (nr : Nat) (h : Nat → Nat → Int32) (g : Nat → Nat → Int64) (rr : Nat → Option Nat) {T : Nat → Nat → Nat} (hT : bo_T T h 17) (hO : sp_ok T) {Z : sp_G} (hZ : gm_ok Z) (hG : gm_C Z h)  (x y z : Int32) : ab_C l am_W_load (d + 5) 0 0 [.ref 0, .int x, .int y, .int z] (ab_S nr h g rr) (fun r_ M' => (r_, M') = fx_W_load nr h g rr T Z x y z) := by
  have h6_ := hZ.1
  refine ab_C_of (by decide +kernel) rfl (Nat.le_of_ble_eq_true rfl) ?_
  refine ab_aload_n de_W_load_0 0 rfl ?_
  refine ab_get (v := .ref 15) fl_W_48 rfl rfl de_W_load_1 ?_
  refine ab_iload_n de_W_load_4 1 rfl ?_
  refine ab_cV (as := [.int x]) (st := []) (ct_G_has l _ nr h g rr hZ hG x) mo_G_has mi_G_has ml_W_237 rfl (by decide) rfl rfl rfl (Nat.le_of_ble_eq_true rfl) de_W_load_5 (fun v_ M_ hK_ hl_ hv_ => ?_)
  obtain ⟨rfl, hm_⟩ := hK_
  have hm_ := hm_.symm
  subst hm_
  change ab_G _ _ _ _ _ _ _ [(0, .ref 0), (1, .int x), (2, .int y), (3, .int z)] [.int (ab_bz (decide (0 ≤ x ∧ x < nI (gN Z))))] (ab_S nr h g rr) _
  refine ab_if_eq (tgt := 18) de_W_load_8 rfl (fun c_8_1 => ?_) (fun c_8_1 => ?_)
  · refine ab_aload_n de_W_load_18 0 rfl ?_
    refine ab_iconst (v := -1) de_W_load_19 rfl ?_
    refine ab_cV (as := [.int (-1 : Int32)]) (st := []) (ct_W_refuse l _ nr h g rr (r := (-1 : Int32)) (k := 1) (by decide) (by decide)) mo_W_refuse mi_W_refuse ml_W_88 rfl (by decide) rfl rfl rfl (Nat.le_of_ble_eq_true rfl) de_W_load_20 (fun v_ M_ hK_ hl_ hv_ => ?_)
    obtain ⟨rfl, hm_⟩ := hK_
    have hm_ := hm_.symm
    subst hm_
    change ab_G _ _ _ _ _ _ _ [(0, .ref 0), (1, .int x), (2, .int y), (3, .int z)] [.int (-1 : Int32)] (ab_S nr (ab_u2 h 28 1 (h 28 1 + 1)) g rr) _
    exact ab_ret (v := some (.int (-1 : Int32))) de_W_load_23 ⟨_, rfl⟩ (by unfold fx_W_load; rw [if_pos c_8_1])
  · obtain ⟨xn, hxn, rfl⟩ := sp_ra_n (by omega) c_8_1
    refine ab_iload_n de_W_load_11 3 rfl ?_
    refine ab_cS (as := [.int z]) (st := []) (ct_W_isCode l _ (ab_S nr h g rr) (z)) mo_W_isCode ms_W_isCode ml_W_168 rfl rfl (Nat.le_of_ble_eq_true rfl) de_W_load_12 (fun v_ M_ hK_ hl_ hv_ => ?_)
    obtain ⟨rfl, hm_⟩ := hK_
    have hm_ := hm_.symm
    subst hm_
    change ab_G _ _ _ _ _ _ _ [(0, .ref 0), (1, .int (nI xn)), (2, .int y), (3, .int z)] [.int (ab_bz (sp_cd z))] (ab_S nr h g rr) _
    refine ab_if_ne (tgt := 24) de_W_load_15 rfl (fun c_15_2 => ?_) (fun c_15_2 => ?_)
    · obtain ⟨zn, hzn, rfl⟩ := sp_cd_n c_15_2
      refine ab_iload_n de_W_load_24 2 rfl ?_
      refine ab_if_lt (tgt := 41) de_W_load_25 rfl (fun c_25_3 => ?_) (fun c_25_3 => ?_)
      · refine ab_aload_n de_W_load_41 0 rfl ?_
        refine ab_bipush (v := -6) de_W_load_42 rfl ?_
        refine ab_cV (as := [.int (-6 : Int32)]) (st := []) (ct_W_refuse l _ nr h g rr (r := (-6 : Int32)) (k := 6) (by decide) (by decide)) mo_W_refuse mi_W_refuse ml_W_88 rfl (by decide) rfl rfl rfl (Nat.le_of_ble_eq_true rfl) de_W_load_44 (fun v_ M_ hK_ hl_ hv_ => ?_)
        obtain ⟨rfl, hm_⟩ := hK_
        have hm_ := hm_.symm
        subst hm_
        change ab_G _ _ _ _ _ _ _ [(0, .ref 0), (1, .int (nI xn)), (2, .int y), (3, .int (nI zn))] [.int (-6 : Int32)] (ab_S nr (ab_u2 h 28 6 (h 28 6 + 1)) g rr) _
        exact ab_ret (v := some (.int (-6 : Int32))) de_W_load_47 ⟨_, rfl⟩ (by unfold fx_W_load; try simp only [ab_tn (show xn < 2 ^ 31 by omega), ab_tn (show zn < 2 ^ 31 by omega)]; rw [if_neg c_8_1, if_neg c_15_2, if_pos c_25_3])
      · have c25 := c_25_3
        have h20 := gm_20 hZ hxn
        refine ab_iload_n de_W_load_28 2 rfl ?_
        refine ab_aload_n de_W_load_29 0 rfl ?_
        refine ab_get (v := .ref 15) fl_W_48 rfl rfl de_W_load_30 ?_
        refine ab_get (v := .ref 19) fl_W_240 rfl rfl de_W_load_33 ?_
        refine ab_iload_n de_W_load_36 1 rfl ?_
        refine ab_iald (v := h 19 xn) rfl (ab_in (by omega) (by decide)) (ab_hv (ab_tn (n := xn) (by omega))) de_W_load_37 ?_
        refine ab_top (v' := nI (gL Z xn)) ((hG.2 xn (by omega)).2.1) ?_
        refine ab_icmp_le (tgt := 48) de_W_load_38 rfl (fun c_38_4 => ?_) (fun c_38_4 => ?_)
        · obtain ⟨yn, hyn, rfl⟩ := sp_bt2_n (N := gL Z xn) (by omega) c25 c_38_4
          refine ab_aload_n de_W_load_48 0 rfl ?_
          refine ab_aload_n de_W_load_49 0 rfl ?_
          refine ab_get (v := .ref 15) fl_W_48 rfl rfl de_W_load_50 ?_
          refine ab_iload_n de_W_load_53 1 rfl ?_
          refine ab_iload_n de_W_load_54 2 rfl ?_
          refine ab_iload_n de_W_load_55 3 rfl ?_
          refine ab_cV (as := [.int (nI xn), .int (nI yn), .int (nI zn)]) (st := [.ref 0]) (ct_G_stateAhead l _ nr h g rr hT hO hZ hG (g := xn) (by omega) (c := zn) (by omega) (j := yn) (by omega)) mo_G_stateAhead mi_G_stateAhead ml_W_252 rfl (by decide) rfl rfl rfl (Nat.le_of_ble_eq_true rfl) de_W_load_56 (fun v_ M_ hK_ hl_ hv_ => ?_)
          obtain ⟨rfl, hm_⟩ := hK_
          have hm_ := hm_.symm
          subst hm_
          change ab_G _ _ _ _ _ _ _ [(0, .ref 0), (1, .int (nI xn)), (2, .int (nI yn)), (3, .int (nI zn))] [.int (nI (sp_en (sp_sg T zn Z xn yn).1 (sp_sg T zn Z xn yn).2 (yn % 2))), .ref 0] (ab_S nr h g rr) _
          have hsg := sp_sg_ok (T := T) (c := zn) hZ hxn yn (by omega)
          refine ab_putI (x := 0) (j := 10) fl_W_56 rfl (Or.inl rfl) rfl rfl rfl de_W_load_59 ?_
          change ab_G _ _ _ _ _ _ _ _ _ (ab_S nr (ab_u2 h 0 10 (nI (sp_en (sp_sg T zn Z xn yn).1 (sp_sg T zn Z xn yn).2 (yn % 2)))) g rr) _
          refine ab_aload_n de_W_load_62 0 rfl ?_
          refine ab_get (v := .int ((ab_u2 h 0 10 (nI (sp_en (sp_sg T zn Z xn yn).1 (sp_sg T zn Z xn yn).2 (yn % 2)))) 0 10)) fl_W_56 rfl rfl de_W_load_63 ?_
          refine ab_top (v' := (nI (sp_en (sp_sg T zn Z xn yn).1 (sp_sg T zn Z xn yn).2 (yn % 2)))) (ab_u2_at) ?_
          refine ab_cS (as := [.int (nI (sp_en (sp_sg T zn Z xn yn).1 (sp_sg T zn Z xn yn).2 (yn % 2)))]) (st := []) (ct_B_side l _ (ab_S nr (ab_u2 h 0 10 (nI (sp_en (sp_sg T zn Z xn yn).1 (sp_sg T zn Z xn yn).2 (yn % 2)))) g rr) hsg.1 hsg.2.1 (show yn % 2 < 2 by omega)) mo_B_side ms_B_side ml_W_181 rfl rfl (Nat.le_of_ble_eq_true rfl) de_W_load_66 (fun v_ M_ hK_ hl_ hv_ => ?_)
          obtain ⟨rfl, hm_⟩ := hK_
          have hm_ := hm_.symm
          subst hm_
          change ab_G _ _ _ _ _ _ _ [(0, .ref 0), (1, .int (nI xn)), (2, .int (nI yn)), (3, .int (nI zn))] [.int (nI (yn % 2))] (ab_S nr (ab_u2 h 0 10 (nI (sp_en (sp_sg T zn Z xn yn).1 (sp_sg T zn Z xn yn).2 (yn % 2)))) g rr) _
          exact ab_ret (v := some (.int (nI (yn % 2)))) de_W_load_69 ⟨_, rfl⟩ (by unfold fx_W_load; try simp only [ab_tn (show xn < 2 ^ 31 by omega), ab_tn (show zn < 2 ^ 31 by omega), ab_tn (show yn < 2 ^ 31 by omega)]; rw [if_neg c_8_1, if_neg c_15_2, if_neg c_25_3, if_pos c_38_4])
        · refine ab_aload_n de_W_load_41 0 rfl ?_
          refine ab_bipush (v := -6) de_W_load_42 rfl ?_
          refine ab_cV (as := [.int (-6 : Int32)]) (st := []) (ct_W_refuse l _ nr h g rr (r := (-6 : Int32)) (k := 6) (by decide) (by decide)) mo_W_refuse mi_W_refuse ml_W_88 rfl (by decide) rfl rfl rfl (Nat.le_of_ble_eq_true rfl) de_W_load_44 (fun v_ M_ hK_ hl_ hv_ => ?_)
          obtain ⟨rfl, hm_⟩ := hK_
          have hm_ := hm_.symm
          subst hm_
          change ab_G _ _ _ _ _ _ _ [(0, .ref 0), (1, .int (nI xn)), (2, .int y), (3, .int (nI zn))] [.int (-6 : Int32)] (ab_S nr (ab_u2 h 28 6 (h 28 6 + 1)) g rr) _
          exact ab_ret (v := some (.int (-6 : Int32))) de_W_load_47 ⟨_, rfl⟩ (by unfold fx_W_load; try simp only [ab_tn (show xn < 2 ^ 31 by omega), ab_tn (show zn < 2 ^ 31 by omega)]; rw [if_neg c_8_1, if_neg c_15_2, if_neg c_25_3, if_neg c_38_4])
    · refine ab_aload_n de_W_load_18 0 rfl ?_
      refine ab_iconst (v := -1) de_W_load_19 rfl ?_
      refine ab_cV (as := [.int (-1 : Int32)]) (st := []) (ct_W_refuse l _ nr h g rr (r := (-1 : Int32)) (k := 1) (by decide) (by decide)) mo_W_refuse mi_W_refuse ml_W_88 rfl (by decide) rfl rfl rfl (Nat.le_of_ble_eq_true rfl) de_W_load_20 (fun v_ M_ hK_ hl_ hv_ => ?_)
      obtain ⟨rfl, hm_⟩ := hK_
      have hm_ := hm_.symm
      subst hm_
      change ab_G _ _ _ _ _ _ _ [(0, .ref 0), (1, .int (nI xn)), (2, .int y), (3, .int z)] [.int (-1 : Int32)] (ab_S nr (ab_u2 h 28 1 (h 28 1 + 1)) g rr) _
      exact ab_ret (v := some (.int (-1 : Int32))) de_W_load_23 ⟨_, rfl⟩ (by unfold fx_W_load; try simp only [ab_tn (show xn < 2 ^ 31 by omega)]; rw [if_neg c_8_1, if_pos c_15_2])
def fx_W_judge (nr : Nat) (h : Nat → Nat → Int32) (g : Nat → Nat → Int64) (rr : Nat → Option Nat) (T : Nat → Nat → Nat) (Z : sp_G)  (x y : Int32) : Option Value × ab_Me :=
  if (ab_bz (decide (0 ≤ x ∧ x < nI (gN Z)))) = 0 then
    (some (.int (-11 : Int32)), (ab_S nr (ab_u2 h 28 1 (h 28 1 + 1)) g rr))
  else
    if (ab_bz (sp_cd y)) = 0 then
      (some (.int (-11 : Int32)), (ab_S nr (ab_u2 h 28 1 (h 28 1 + 1)) g rr))
    else
      (some (.int (sp_fl T y.toNatClampNeg Z x.toNatClampNeg)), (ab_S nr h g rr))
set_option maxHeartbeats 1000000 in
set_option maxRecDepth 10000 in
theorem ct_W_judge (l : Launch) (d : Nat) (nr : Nat) (h : Nat → Nat → Int32) (g : Nat → Nat → Int64) (rr : Nat → Option Nat) {T : Nat → Nat → Nat} (hT : bo_T T h 17) (hO : sp_ok T) {Z : sp_G} (hZ : gm_ok Z) (hG : gm_C Z h)  (x y : Int32) : ab_C l am_W_judge (d + 6) 0 0 [.ref 0, .int x, .int y] (ab_S nr h g rr) (fun r_ M' => (r_, M') = fx_W_judge nr h g rr T Z x y) := by
  have h6_ := hZ.1
  refine ab_C_of (by decide +kernel) rfl (Nat.le_of_ble_eq_true rfl) ?_
  refine ab_aload_n de_W_judge_0 0 rfl ?_
  refine ab_get (v := .ref 15) fl_W_48 rfl rfl de_W_judge_1 ?_
  refine ab_iload_n de_W_judge_4 1 rfl ?_
  refine ab_cV (as := [.int x]) (st := []) (ct_G_has l _ nr h g rr hZ hG x) mo_G_has mi_G_has ml_W_237 rfl (by decide) rfl rfl rfl (Nat.le_of_ble_eq_true rfl) de_W_judge_5 (fun v_ M_ hK_ hl_ hv_ => ?_)
  obtain ⟨rfl, hm_⟩ := hK_
  have hm_ := hm_.symm
  subst hm_
  change ab_G _ _ _ _ _ _ _ [(0, .ref 0), (1, .int x), (2, .int y)] [.int (ab_bz (decide (0 ≤ x ∧ x < nI (gN Z))))] (ab_S nr h g rr) _
  refine ab_if_eq (tgt := 18) de_W_judge_8 rfl (fun c_8_1 => ?_) (fun c_8_1 => ?_)
  · refine ab_aload_n de_W_judge_18 0 rfl ?_
    refine ab_iconst (v := -1) de_W_judge_19 rfl ?_
    refine ab_bipush (v := -11) de_W_judge_20 rfl ?_
    refine ab_cV (as := [.int (-1 : Int32), .int (-11 : Int32)]) (st := []) (ct_W_refuseTold l _ nr h g rr (r := (-1 : Int32)) (k := 1) (by decide) (by decide) ((-11 : Int32))) mo_W_refuseTold mi_W_refuseTold ml_W_199 rfl (by decide) rfl rfl rfl (Nat.le_of_ble_eq_true rfl) de_W_judge_22 (fun v_ M_ hK_ hl_ hv_ => ?_)
    obtain ⟨rfl, hm_⟩ := hK_
    have hm_ := hm_.symm
    subst hm_
    change ab_G _ _ _ _ _ _ _ [(0, .ref 0), (1, .int x), (2, .int y)] [.int (-11 : Int32)] (ab_S nr (ab_u2 h 28 1 (h 28 1 + 1)) g rr) _
    exact ab_ret (v := some (.int (-11 : Int32))) de_W_judge_25 ⟨_, rfl⟩ (by unfold fx_W_judge; rw [if_pos c_8_1])
  · obtain ⟨xn, hxn, rfl⟩ := sp_ra_n (by omega) c_8_1
    refine ab_iload_n de_W_judge_11 2 rfl ?_
    refine ab_cS (as := [.int y]) (st := []) (ct_W_isCode l _ (ab_S nr h g rr) (y)) mo_W_isCode ms_W_isCode ml_W_168 rfl rfl (Nat.le_of_ble_eq_true rfl) de_W_judge_12 (fun v_ M_ hK_ hl_ hv_ => ?_)
    obtain ⟨rfl, hm_⟩ := hK_
    have hm_ := hm_.symm
    subst hm_
    change ab_G _ _ _ _ _ _ _ [(0, .ref 0), (1, .int (nI xn)), (2, .int y)] [.int (ab_bz (sp_cd y))] (ab_S nr h g rr) _
    refine ab_if_ne (tgt := 26) de_W_judge_15 rfl (fun c_15_2 => ?_) (fun c_15_2 => ?_)
    · obtain ⟨yn, hyn, rfl⟩ := sp_cd_n c_15_2
      refine ab_aload_n de_W_judge_26 0 rfl ?_
      refine ab_get (v := .ref 15) fl_W_48 rfl rfl de_W_judge_27 ?_
      refine ab_iload_n de_W_judge_30 1 rfl ?_
      refine ab_iload_n de_W_judge_31 2 rfl ?_
      refine ab_cV (as := [.int (nI xn), .int (nI yn)]) (st := []) (ct_G_failsAt l _ nr h g rr hT hO hZ hG (g := xn) (c := yn) (by omega) (by omega)) mo_G_failsAt mi_G_failsAt ml_W_255 rfl (by decide) rfl rfl rfl (Nat.le_of_ble_eq_true rfl) de_W_judge_32 (fun v_ M_ hK_ hl_ hv_ => ?_)
      obtain ⟨rfl, hm_⟩ := hK_
      have hm_ := hm_.symm
      subst hm_
      change ab_G _ _ _ _ _ _ _ [(0, .ref 0), (1, .int (nI xn)), (2, .int (nI yn))] [.int (sp_fl T yn Z xn)] (ab_S nr h g rr) _
      exact ab_ret (v := some (.int (sp_fl T yn Z xn))) de_W_judge_35 ⟨_, rfl⟩ (by unfold fx_W_judge; try simp only [ab_tn (show xn < 2 ^ 31 by omega), ab_tn (show yn < 2 ^ 31 by omega)]; rw [if_neg c_8_1, if_neg c_15_2])
    · refine ab_aload_n de_W_judge_18 0 rfl ?_
      refine ab_iconst (v := -1) de_W_judge_19 rfl ?_
      refine ab_bipush (v := -11) de_W_judge_20 rfl ?_
      refine ab_cV (as := [.int (-1 : Int32), .int (-11 : Int32)]) (st := []) (ct_W_refuseTold l _ nr h g rr (r := (-1 : Int32)) (k := 1) (by decide) (by decide) ((-11 : Int32))) mo_W_refuseTold mi_W_refuseTold ml_W_199 rfl (by decide) rfl rfl rfl (Nat.le_of_ble_eq_true rfl) de_W_judge_22 (fun v_ M_ hK_ hl_ hv_ => ?_)
      obtain ⟨rfl, hm_⟩ := hK_
      have hm_ := hm_.symm
      subst hm_
      change ab_G _ _ _ _ _ _ _ [(0, .ref 0), (1, .int (nI xn)), (2, .int y)] [.int (-11 : Int32)] (ab_S nr (ab_u2 h 28 1 (h 28 1 + 1)) g rr) _
      exact ab_ret (v := some (.int (-11 : Int32))) de_W_judge_25 ⟨_, rfl⟩ (by unfold fx_W_judge; try simp only [ab_tn (show xn < 2 ^ 31 by omega)]; rw [if_neg c_8_1, if_pos c_15_2])
def fx_W_wide (nr : Nat) (h : Nat → Nat → Int32) (g : Nat → Nat → Int64) (rr : Nat → Option Nat) (T : Nat → Nat → Nat) (Z : sp_G)  (x : Int32) : Option Value × ab_Me :=
  if (ab_bz (sp_cd x)) = 0 then
    (some (.int (-1 : Int32)), (ab_S nr (ab_u2 h 28 1 (h 28 1 + 1)) g rr))
  else
    (some (.int (nI (sp_wd T x.toNatClampNeg Z))), (ab_S nr h g rr))
set_option maxHeartbeats 1000000 in
set_option maxRecDepth 10000 in
theorem ct_W_wide (l : Launch) (d : Nat) (nr : Nat) (h : Nat → Nat → Int32) (g : Nat → Nat → Int64) (rr : Nat → Option Nat) {T : Nat → Nat → Nat} (hT : bo_T T h 17) (hO : sp_ok T) {Z : sp_G} (hZ : gm_ok Z) (hG : gm_C Z h)  (x : Int32) : ab_C l am_W_wide (d + 5) 0 0 [.ref 0, .int x] (ab_S nr h g rr) (fun r_ M' => (r_, M') = fx_W_wide nr h g rr T Z x) := by
  have h6_ := hZ.1
  refine ab_C_of (by decide +kernel) rfl (Nat.le_of_ble_eq_true rfl) ?_
  refine ab_iload_n de_W_wide_0 1 rfl ?_
  refine ab_cS (as := [.int x]) (st := []) (ct_W_isCode l _ (ab_S nr h g rr) (x)) mo_W_isCode ms_W_isCode ml_W_168 rfl rfl (Nat.le_of_ble_eq_true rfl) de_W_wide_1 (fun v_ M_ hK_ hl_ hv_ => ?_)
  obtain ⟨rfl, hm_⟩ := hK_
  have hm_ := hm_.symm
  subst hm_
  change ab_G _ _ _ _ _ _ _ [(0, .ref 0), (1, .int x)] [.int (ab_bz (sp_cd x))] (ab_S nr h g rr) _
  refine ab_if_eq (tgt := 18) de_W_wide_4 rfl (fun c_4_1 => ?_) (fun c_4_1 => ?_)
  · refine ab_aload_n de_W_wide_18 0 rfl ?_
    refine ab_iconst (v := -1) de_W_wide_19 rfl ?_
    refine ab_cV (as := [.int (-1 : Int32)]) (st := []) (ct_W_refuse l _ nr h g rr (r := (-1 : Int32)) (k := 1) (by decide) (by decide)) mo_W_refuse mi_W_refuse ml_W_88 rfl (by decide) rfl rfl rfl (Nat.le_of_ble_eq_true rfl) de_W_wide_20 (fun v_ M_ hK_ hl_ hv_ => ?_)
    obtain ⟨rfl, hm_⟩ := hK_
    have hm_ := hm_.symm
    subst hm_
    change ab_G _ _ _ _ _ _ _ [(0, .ref 0), (1, .int x)] [.int (-1 : Int32)] (ab_S nr (ab_u2 h 28 1 (h 28 1 + 1)) g rr) _
    exact ab_ret (v := some (.int (-1 : Int32))) de_W_wide_23 ⟨_, rfl⟩ (by unfold fx_W_wide; rw [if_pos c_4_1])
  · obtain ⟨xn, hxn, rfl⟩ := sp_cd_n c_4_1
    refine ab_aload_n de_W_wide_7 0 rfl ?_
    refine ab_get (v := .ref 15) fl_W_48 rfl rfl de_W_wide_8 ?_
    refine ab_iload_n de_W_wide_11 1 rfl ?_
    refine ab_cV (as := [.int (nI xn)]) (st := []) (ct_G_width l _ nr h g rr hT hO hZ hG (c := xn) (by omega)) mo_G_width mi_G_width ml_W_258 rfl (by decide) rfl rfl rfl (Nat.le_of_ble_eq_true rfl) de_W_wide_12 (fun v_ M_ hK_ hl_ hv_ => ?_)
    obtain ⟨rfl, hm_⟩ := hK_
    have hm_ := hm_.symm
    subst hm_
    change ab_G _ _ _ _ _ _ _ [(0, .ref 0), (1, .int (nI xn))] [.int (nI (sp_wd T xn Z))] (ab_S nr h g rr) _
    refine ab_goto (tgt := 23) de_W_wide_15 rfl ?_
    exact ab_ret (v := some (.int (nI (sp_wd T xn Z)))) de_W_wide_23 ⟨_, rfl⟩ (by unfold fx_W_wide; try simp only [ab_tn (show xn < 2 ^ 31 by omega)]; rw [if_neg c_4_1])
def fx_W_part (nr : Nat) (h : Nat → Nat → Int32) (g : Nat → Nat → Int64) (rr : Nat → Option Nat) (T : Nat → Nat → Nat) (Z : sp_G)  (x y : Int32) : Option Value × ab_Me :=
  if (ab_bz (sp_cd x)) = 0 then
    (some (.int (-11 : Int32)), (ab_S nr (ab_u2 h 28 1 (h 28 1 + 1)) g rr))
  else
    if (ab_bz (sp_cd y)) = 0 then
      (some (.int (-11 : Int32)), (ab_S nr (ab_u2 h 28 1 (h 28 1 + 1)) g rr))
    else
      (some (.int (sp_pa T x.toNatClampNeg y.toNatClampNeg Z)), (ab_S nr h g rr))
set_option maxHeartbeats 1000000 in
set_option maxRecDepth 10000 in
theorem ct_W_part (l : Launch) (d : Nat) (nr : Nat) (h : Nat → Nat → Int32) (g : Nat → Nat → Int64) (rr : Nat → Option Nat) {T : Nat → Nat → Nat} (hT : bo_T T h 17) (hO : sp_ok T) {Z : sp_G} (hZ : gm_ok Z) (hG : gm_C Z h)  (x y : Int32) : ab_C l am_W_part (d + 5) 0 0 [.ref 0, .int x, .int y] (ab_S nr h g rr) (fun r_ M' => (r_, M') = fx_W_part nr h g rr T Z x y) := by
  have h6_ := hZ.1
  refine ab_C_of (by decide +kernel) rfl (Nat.le_of_ble_eq_true rfl) ?_
  refine ab_iload_n de_W_part_0 1 rfl ?_
  refine ab_cS (as := [.int x]) (st := []) (ct_W_isCode l _ (ab_S nr h g rr) (x)) mo_W_isCode ms_W_isCode ml_W_168 rfl rfl (Nat.le_of_ble_eq_true rfl) de_W_part_1 (fun v_ M_ hK_ hl_ hv_ => ?_)
  obtain ⟨rfl, hm_⟩ := hK_
  have hm_ := hm_.symm
  subst hm_
  change ab_G _ _ _ _ _ _ _ [(0, .ref 0), (1, .int x), (2, .int y)] [.int (ab_bz (sp_cd x))] (ab_S nr h g rr) _
  refine ab_if_eq (tgt := 14) de_W_part_4 rfl (fun c_4_1 => ?_) (fun c_4_1 => ?_)
  · refine ab_aload_n de_W_part_14 0 rfl ?_
    refine ab_iconst (v := -1) de_W_part_15 rfl ?_
    refine ab_bipush (v := -11) de_W_part_16 rfl ?_
    refine ab_cV (as := [.int (-1 : Int32), .int (-11 : Int32)]) (st := []) (ct_W_refuseTold l _ nr h g rr (r := (-1 : Int32)) (k := 1) (by decide) (by decide) ((-11 : Int32))) mo_W_refuseTold mi_W_refuseTold ml_W_199 rfl (by decide) rfl rfl rfl (Nat.le_of_ble_eq_true rfl) de_W_part_18 (fun v_ M_ hK_ hl_ hv_ => ?_)
    obtain ⟨rfl, hm_⟩ := hK_
    have hm_ := hm_.symm
    subst hm_
    change ab_G _ _ _ _ _ _ _ [(0, .ref 0), (1, .int x), (2, .int y)] [.int (-11 : Int32)] (ab_S nr (ab_u2 h 28 1 (h 28 1 + 1)) g rr) _
    exact ab_ret (v := some (.int (-11 : Int32))) de_W_part_21 ⟨_, rfl⟩ (by unfold fx_W_part; rw [if_pos c_4_1])
  · obtain ⟨xn, hxn, rfl⟩ := sp_cd_n c_4_1
    refine ab_iload_n de_W_part_7 2 rfl ?_
    refine ab_cS (as := [.int y]) (st := []) (ct_W_isCode l _ (ab_S nr h g rr) (y)) mo_W_isCode ms_W_isCode ml_W_168 rfl rfl (Nat.le_of_ble_eq_true rfl) de_W_part_8 (fun v_ M_ hK_ hl_ hv_ => ?_)
    obtain ⟨rfl, hm_⟩ := hK_
    have hm_ := hm_.symm
    subst hm_
    change ab_G _ _ _ _ _ _ _ [(0, .ref 0), (1, .int (nI xn)), (2, .int y)] [.int (ab_bz (sp_cd y))] (ab_S nr h g rr) _
    refine ab_if_ne (tgt := 22) de_W_part_11 rfl (fun c_11_2 => ?_) (fun c_11_2 => ?_)
    · obtain ⟨yn, hyn, rfl⟩ := sp_cd_n c_11_2
      refine ab_aload_n de_W_part_22 0 rfl ?_
      refine ab_get (v := .ref 15) fl_W_48 rfl rfl de_W_part_23 ?_
      refine ab_iload_n de_W_part_26 1 rfl ?_
      refine ab_iload_n de_W_part_27 2 rfl ?_
      refine ab_cV (as := [.int (nI xn), .int (nI yn)]) (st := []) (ct_G_parting l _ nr h g rr hT hO hZ hG (c := xn) (e := yn) (by omega) (by omega)) mo_G_parting mi_G_parting ml_W_261 rfl (by decide) rfl rfl rfl (Nat.le_of_ble_eq_true rfl) de_W_part_28 (fun v_ M_ hK_ hl_ hv_ => ?_)
      obtain ⟨rfl, hm_⟩ := hK_
      have hm_ := hm_.symm
      subst hm_
      change ab_G _ _ _ _ _ _ _ [(0, .ref 0), (1, .int (nI xn)), (2, .int (nI yn))] [.int (sp_pa T xn yn Z)] (ab_S nr h g rr) _
      exact ab_ret (v := some (.int (sp_pa T xn yn Z))) de_W_part_31 ⟨_, rfl⟩ (by unfold fx_W_part; try simp only [ab_tn (show xn < 2 ^ 31 by omega), ab_tn (show yn < 2 ^ 31 by omega)]; rw [if_neg c_4_1, if_neg c_11_2])
    · refine ab_aload_n de_W_part_14 0 rfl ?_
      refine ab_iconst (v := -1) de_W_part_15 rfl ?_
      refine ab_bipush (v := -11) de_W_part_16 rfl ?_
      refine ab_cV (as := [.int (-1 : Int32), .int (-11 : Int32)]) (st := []) (ct_W_refuseTold l _ nr h g rr (r := (-1 : Int32)) (k := 1) (by decide) (by decide) ((-11 : Int32))) mo_W_refuseTold mi_W_refuseTold ml_W_199 rfl (by decide) rfl rfl rfl (Nat.le_of_ble_eq_true rfl) de_W_part_18 (fun v_ M_ hK_ hl_ hv_ => ?_)
      obtain ⟨rfl, hm_⟩ := hK_
      have hm_ := hm_.symm
      subst hm_
      change ab_G _ _ _ _ _ _ _ [(0, .ref 0), (1, .int (nI xn)), (2, .int y)] [.int (-11 : Int32)] (ab_S nr (ab_u2 h 28 1 (h 28 1 + 1)) g rr) _
      exact ab_ret (v := some (.int (-11 : Int32))) de_W_part_21 ⟨_, rfl⟩ (by unfold fx_W_part; try simp only [ab_tn (show xn < 2 ^ 31 by omega)]; rw [if_neg c_4_1, if_pos c_11_2])
def fx_W_trace (nr : Nat) (h : Nat → Nat → Int32) (g : Nat → Nat → Int64) (rr : Nat → Option Nat)   (x : Int32) : Option Value × ab_Me :=
  if x < 0 then
    (some (.int (-1 : Int32)), (ab_S nr h g rr))
  else
    if (h 13 0) ≤ x then
      (some (.int (-1 : Int32)), (ab_S nr h g rr))
    else
      if x < (20 : Int32) then
        (some (.int (h 13 (1 + x.toNatClampNeg))), (ab_S nr h g rr))
      else
        (some (.int (-1 : Int32)), (ab_S nr h g rr))
set_option maxHeartbeats 1000000 in
set_option maxRecDepth 10000 in
theorem ct_W_trace (l : Launch) (d : Nat) (nr : Nat) (h : Nat → Nat → Int32) (g : Nat → Nat → Int64) (rr : Nat → Option Nat)   (x : Int32) : ab_C l am_W_trace d 0 0 [.ref 0, .int x] (ab_S nr h g rr) (fun r_ M' => (r_, M') = fx_W_trace nr h g rr x) := by
  refine ab_C_of (by decide +kernel) rfl (Nat.le_of_ble_eq_true rfl) ?_
  refine ab_iload_n de_W_trace_0 1 rfl ?_
  refine ab_if_lt (tgt := 20) de_W_trace_1 rfl (fun c_1_1 => ?_) (fun c_1_1 => ?_)
  · refine ab_iconst (v := -1) de_W_trace_20 rfl ?_
    exact ab_ret (v := some (.int (-1 : Int32))) de_W_trace_21 ⟨_, rfl⟩ (by unfold fx_W_trace; rw [if_pos c_1_1])
  · have c1 := c_1_1
    refine ab_iload_n de_W_trace_4 1 rfl ?_
    refine ab_aload_n de_W_trace_5 0 rfl ?_
    refine ab_get (v := .ref 13) fl_W_34 rfl rfl de_W_trace_6 ?_
    refine ab_iconst (v := 0) de_W_trace_9 rfl ?_
    refine ab_iald (v := h 13 0) rfl (show vp_in (nI 0) _ from ab_in (by decide) (by decide)) (ab_hv (show (nI 0).toNatClampNeg = 0 from ab_tn (by decide))) de_W_trace_10 ?_
    refine ab_icmp_ge (tgt := 20) de_W_trace_11 rfl (fun c_11_2 => ?_) (fun c_11_2 => ?_)
    · refine ab_iconst (v := -1) de_W_trace_20 rfl ?_
      exact ab_ret (v := some (.int (-1 : Int32))) de_W_trace_21 ⟨_, rfl⟩ (by unfold fx_W_trace; rw [if_neg c_1_1, if_pos c_11_2])
    · refine ab_iload_n de_W_trace_14 1 rfl ?_
      refine ab_bipush (v := 20) de_W_trace_15 rfl ?_
      refine ab_icmp_lt (tgt := 22) de_W_trace_17 rfl (fun c_17_3 => ?_) (fun c_17_3 => ?_)
      · obtain ⟨xn, hxn, rfl⟩ := sp_bt_n (N := 20) (by omega) c1 c_17_3
        refine ab_aload_n de_W_trace_22 0 rfl ?_
        refine ab_get (v := .ref 13) fl_W_34 rfl rfl de_W_trace_23 ?_
        refine ab_iconst (v := 1) de_W_trace_26 rfl ?_
        refine ab_iload_n de_W_trace_27 1 rfl ?_
        refine ab_iadd de_W_trace_28 ?_
        refine ab_top (v' := nI (1 + xn)) (ab_add 1 _) ?_
        refine ab_iald (v := h 13 (1 + xn)) rfl (ab_in (by omega) (by decide)) (ab_hv (ab_tn (n := (1 + xn)) (by omega))) de_W_trace_29 ?_
        exact ab_ret (v := some (.int (h 13 (1 + xn)))) de_W_trace_30 ⟨_, rfl⟩ (by unfold fx_W_trace; try simp only [ab_tn (show xn < 2 ^ 31 by omega)]; rw [if_neg c_1_1, if_neg c_11_2, if_pos c_17_3])
      · refine ab_iconst (v := -1) de_W_trace_20 rfl ?_
        exact ab_ret (v := some (.int (-1 : Int32))) de_W_trace_21 ⟨_, rfl⟩ (by unfold fx_W_trace; rw [if_neg c_1_1, if_neg c_11_2, if_neg c_17_3])
def fx_W_status (nr : Nat) (h : Nat → Nat → Int32) (g : Nat → Nat → Int64) (rr : Nat → Option Nat) (T : Nat → Nat → Nat) (m i t : Nat) (Z : sp_G) (n_ : Nat) (q cs : Nat → Nat)  (x : Int32) : Option Value × ab_Me :=
  if x = 0 then
    (some (.int (nI n_)), (ab_S nr h g rr))
  else
    if x = 1 then
      (some (.int (nI (gN Z))), (ab_S nr h g rr))
    else
      if x = 2 then
        (some (.int (nI (sp_sum (fun g => gL Z g) (gN Z)))), (ab_S nr h g rr))
      else
        if x = 3 then
          (some (.int (nI (sp_tt T / 2))), (ab_S nr h g rr))
        else
          if x = 4 then
            (some (.int (nI (sp_cn (m ||| i)))), (ab_S nr h g rr))
          else
            if x = 5 then
              (some (.int (nI t)), (ab_S nr h g rr))
            else
              if x = 6 then
                (some (.int (h 13 0)), (ab_S nr h g rr))
              else
                if x < (11 : Int32) then
                  (some (.int (-1 : Int32)), (ab_S nr h g rr))
                else
                  if (18 : Int32) ≤ x then
                    (some (.int (-1 : Int32)), (ab_S nr h g rr))
                  else
                    (some (.int (h 28 (x.toNatClampNeg - 10))), (ab_S nr h g rr))
set_option maxHeartbeats 1000000 in
set_option maxRecDepth 10000 in
theorem ct_W_status (l : Launch) (d : Nat) (nr : Nat) (h : Nat → Nat → Int32) (g : Nat → Nat → Int64) (rr : Nat → Option Nat) {T : Nat → Nat → Nat} (hT : bo_T T h 17) (hO : sp_ok T) {m i t : Nat} (hm : m < 4096) (hi : i < 4096) (ht : t < 2) (hdj : sp_dj m i) (hN : h 0 10 = nI (sp_en m i t)) {Z : sp_G} (hZ : gm_ok Z) (hG : gm_C Z h) {n_ : Nat} (hn8 : n_ ≤ 8) (hR0 : h 0 4 = nI n_) {q cs : Nat → Nat} (hR : ru_ok nr n_ q cs h rr)  (x : Int32) : ab_C l am_W_status (d + 2) 0 0 [.ref 0, .int x] (ab_S nr h g rr) (fun r_ M' => (r_, M') = fx_W_status nr h g rr T m i t Z n_ q cs x) := by
  have h6_ := hZ.1
  refine ab_C_of (by decide +kernel) rfl (Nat.le_of_ble_eq_true rfl) ?_
  refine ab_iload_n de_W_status_0 1 rfl ?_
  by_cases c_1_1_0 : x = 0
  · refine ab_tableIn (tgt := 44) de_W_status_1 (by rw [c_1_1_0]; decide) (by rw [c_1_1_0]; decide) (off := 43) (by rw [c_1_1_0]; rfl) rfl ?_
    refine ab_aload_n de_W_status_44 0 rfl ?_
    refine ab_get (v := .int (h 0 4)) fl_W_27 rfl rfl de_W_status_45 ?_
    refine ab_top (v' := nI n_) (hR0) ?_
    exact ab_ret (v := some (.int (nI n_))) de_W_status_48 ⟨_, rfl⟩ (by unfold fx_W_status; rw [if_pos c_1_1_0])
  by_cases c_1_1_1 : x = 1
  · refine ab_tableIn (tgt := 49) de_W_status_1 (by rw [c_1_1_1]; decide) (by rw [c_1_1_1]; decide) (off := 48) (by rw [c_1_1_1]; rfl) rfl ?_
    refine ab_aload_n de_W_status_49 0 rfl ?_
    refine ab_get (v := .ref 15) fl_W_48 rfl rfl de_W_status_50 ?_
    refine ab_get (v := .int (h 15 5)) fl_W_227 rfl rfl de_W_status_53 ?_
    refine ab_top (v' := nI (gN Z)) (hG.1) ?_
    exact ab_ret (v := some (.int (nI (gN Z)))) de_W_status_56 ⟨_, rfl⟩ (by unfold fx_W_status; rw [if_neg c_1_1_0, if_pos c_1_1_1])
  by_cases c_1_1_2 : x = 2
  · refine ab_tableIn (tgt := 57) de_W_status_1 (by rw [c_1_1_2]; decide) (by rw [c_1_1_2]; decide) (off := 56) (by rw [c_1_1_2]; rfl) rfl ?_
    refine ab_aload_n de_W_status_57 0 rfl ?_
    refine ab_get (v := .ref 15) fl_W_48 rfl rfl de_W_status_58 ?_
    refine ab_cV (as := []) (st := []) (ct_G_moveCount l _ nr h g rr hZ hG) mo_G_moveCount mi_G_moveCount ml_W_324 rfl (by decide) rfl rfl rfl (Nat.le_of_ble_eq_true rfl) de_W_status_61 (fun v_ M_ hK_ hl_ hv_ => ?_)
    obtain ⟨rfl, hm_⟩ := hK_
    have hm_ := hm_.symm
    subst hm_
    change ab_G _ _ _ _ _ _ _ [(0, .ref 0), (1, .int x)] [.int (nI (sp_sum (fun g => gL Z g) (gN Z)))] (ab_S nr h g rr) _
    exact ab_ret (v := some (.int (nI (sp_sum (fun g => gL Z g) (gN Z))))) de_W_status_64 ⟨_, rfl⟩ (by unfold fx_W_status; rw [if_neg c_1_1_0, if_neg c_1_1_1, if_pos c_1_1_2])
  by_cases c_1_1_3 : x = 3
  · refine ab_tableIn (tgt := 65) de_W_status_1 (by rw [c_1_1_3]; decide) (by rw [c_1_1_3]; decide) (off := 64) (by rw [c_1_1_3]; rfl) rfl ?_
    refine ab_aload_n de_W_status_65 0 rfl ?_
    refine ab_get (v := .ref 16) fl_W_55 rfl rfl de_W_status_66 ?_
    refine ab_cV (as := []) (st := []) (ct_B_tieCount l _ nr h g rr hT hO) mo_B_tieCount mi_B_tieCount ml_W_327 rfl (by decide) rfl rfl rfl (Nat.le_of_ble_eq_true rfl) de_W_status_69 (fun v_ M_ hK_ hl_ hv_ => ?_)
    obtain ⟨rfl, hm_⟩ := hK_
    have hm_ := hm_.symm
    subst hm_
    change ab_G _ _ _ _ _ _ _ [(0, .ref 0), (1, .int x)] [.int (nI (sp_tt T / 2))] (ab_S nr h g rr) _
    exact ab_ret (v := some (.int (nI (sp_tt T / 2)))) de_W_status_72 ⟨_, rfl⟩ (by unfold fx_W_status; rw [if_neg c_1_1_0, if_neg c_1_1_1, if_neg c_1_1_2, if_pos c_1_1_3])
  by_cases c_1_1_4 : x = 4
  · refine ab_tableIn (tgt := 73) de_W_status_1 (by rw [c_1_1_4]; decide) (by rw [c_1_1_4]; decide) (off := 72) (by rw [c_1_1_4]; rfl) rfl ?_
    refine ab_aload_n de_W_status_73 0 rfl ?_
    refine ab_get (v := .int (h 0 10)) fl_W_56 rfl rfl de_W_status_74 ?_
    refine ab_top (v' := nI (sp_en m i t)) (hN) ?_
    refine ab_cS (as := [.int (nI (sp_en m i t))]) (st := []) (ct_B_pieces l _ (ab_S nr h g rr) hm hi ht) mo_B_pieces ms_B_pieces ml_W_211 rfl rfl (Nat.le_of_ble_eq_true rfl) de_W_status_77 (fun v_ M_ hK_ hl_ hv_ => ?_)
    obtain ⟨rfl, hm_⟩ := hK_
    have hm_ := hm_.symm
    subst hm_
    change ab_G _ _ _ _ _ _ _ [(0, .ref 0), (1, .int x)] [.int (nI (sp_cn (m ||| i)))] (ab_S nr h g rr) _
    exact ab_ret (v := some (.int (nI (sp_cn (m ||| i))))) de_W_status_80 ⟨_, rfl⟩ (by unfold fx_W_status; rw [if_neg c_1_1_0, if_neg c_1_1_1, if_neg c_1_1_2, if_neg c_1_1_3, if_pos c_1_1_4])
  by_cases c_1_1_5 : x = 5
  · refine ab_tableIn (tgt := 81) de_W_status_1 (by rw [c_1_1_5]; decide) (by rw [c_1_1_5]; decide) (off := 80) (by rw [c_1_1_5]; rfl) rfl ?_
    refine ab_aload_n de_W_status_81 0 rfl ?_
    refine ab_get (v := .int (h 0 10)) fl_W_56 rfl rfl de_W_status_82 ?_
    refine ab_top (v' := nI (sp_en m i t)) (hN) ?_
    refine ab_cS (as := [.int (nI (sp_en m i t))]) (st := []) (ct_B_side l _ (ab_S nr h g rr) hm hi ht) mo_B_side ms_B_side ml_W_181 rfl rfl (Nat.le_of_ble_eq_true rfl) de_W_status_85 (fun v_ M_ hK_ hl_ hv_ => ?_)
    obtain ⟨rfl, hm_⟩ := hK_
    have hm_ := hm_.symm
    subst hm_
    change ab_G _ _ _ _ _ _ _ [(0, .ref 0), (1, .int x)] [.int (nI t)] (ab_S nr h g rr) _
    exact ab_ret (v := some (.int (nI t))) de_W_status_88 ⟨_, rfl⟩ (by unfold fx_W_status; rw [if_neg c_1_1_0, if_neg c_1_1_1, if_neg c_1_1_2, if_neg c_1_1_3, if_neg c_1_1_4, if_pos c_1_1_5])
  by_cases c_1_1_6 : x = 6
  · refine ab_tableIn (tgt := 89) de_W_status_1 (by rw [c_1_1_6]; decide) (by rw [c_1_1_6]; decide) (off := 88) (by rw [c_1_1_6]; rfl) rfl ?_
    refine ab_aload_n de_W_status_89 0 rfl ?_
    refine ab_get (v := .ref 13) fl_W_34 rfl rfl de_W_status_90 ?_
    refine ab_iconst (v := 0) de_W_status_93 rfl ?_
    refine ab_iald (v := h 13 0) rfl (show vp_in (nI 0) _ from ab_in (by decide) (by decide)) (ab_hv (show (nI 0).toNatClampNeg = 0 from ab_tn (by decide))) de_W_status_94 ?_
    exact ab_ret (v := some (.int (h 13 0))) de_W_status_95 ⟨_, rfl⟩ (by unfold fx_W_status; rw [if_neg c_1_1_0, if_neg c_1_1_1, if_neg c_1_1_2, if_neg c_1_1_3, if_neg c_1_1_4, if_neg c_1_1_5, if_pos c_1_1_6])
  refine ab_tableOut (tgt := 96) de_W_status_1 (ab_out7 c_1_1_0 c_1_1_1 c_1_1_2 c_1_1_3 c_1_1_4 c_1_1_5 c_1_1_6) rfl ?_
  refine ab_iload_n de_W_status_96 1 rfl ?_
  refine ab_bipush (v := 11) de_W_status_97 rfl ?_
  refine ab_icmp_lt (tgt := 126) de_W_status_99 rfl (fun c_99_2 => ?_) (fun c_99_2 => ?_)
  · refine ab_iconst (v := -1) de_W_status_126 rfl ?_
    exact ab_ret (v := some (.int (-1 : Int32))) de_W_status_127 ⟨_, rfl⟩ (by unfold fx_W_status; rw [if_neg c_1_1_0, if_neg c_1_1_1, if_neg c_1_1_2, if_neg c_1_1_3, if_neg c_1_1_4, if_neg c_1_1_5, if_neg c_1_1_6, if_pos c_99_2])
  · have c99 := c_99_2
    refine ab_iload_n de_W_status_102 1 rfl ?_
    refine ab_bipush (v := 10) de_W_status_103 rfl ?_
    refine ab_aload_n de_W_status_105 0 rfl ?_
    refine ab_get (v := .ref 28) fl_W_59 rfl rfl de_W_status_106 ?_
    refine ab_alen (v := 8) rfl rfl de_W_status_109 ?_
    refine ab_iadd de_W_status_110 ?_
    refine ab_top (v' := (18 : Int32)) (rfl) ?_
    refine ab_icmp_ge (tgt := 126) de_W_status_111 rfl (fun c_111_3 => ?_) (fun c_111_3 => ?_)
    · refine ab_iconst (v := -1) de_W_status_126 rfl ?_
      exact ab_ret (v := some (.int (-1 : Int32))) de_W_status_127 ⟨_, rfl⟩ (by unfold fx_W_status; rw [if_neg c_1_1_0, if_neg c_1_1_1, if_neg c_1_1_2, if_neg c_1_1_3, if_neg c_1_1_4, if_neg c_1_1_5, if_neg c_1_1_6, if_neg c_99_2, if_pos c_111_3])
    · obtain ⟨xn, hxn, rfl⟩ := sp_bq_n (a := 11) (N := 18) (by omega) (Int32.not_lt.mp c99) (by decide) (Int32.not_le.mp c_111_3)
      refine ab_aload_n de_W_status_114 0 rfl ?_
      refine ab_get (v := .ref 28) fl_W_59 rfl rfl de_W_status_115 ?_
      refine ab_iload_n de_W_status_118 1 rfl ?_
      refine ab_bipush (v := 10) de_W_status_119 rfl ?_
      refine ab_isub de_W_status_121 ?_
      refine ab_top (v' := nI (xn - 10)) (ab_sub_k (b := 10) (by omega)) ?_
      refine ab_iald (v := h 28 (xn - 10)) rfl (ab_in (by omega) (by decide)) (ab_hv (ab_tn (n := (xn - 10)) (by omega))) de_W_status_122 ?_
      refine ab_goto (tgt := 127) de_W_status_123 rfl ?_
      exact ab_ret (v := some (.int (h 28 (xn - 10)))) de_W_status_127 ⟨_, rfl⟩ (by unfold fx_W_status; try simp only [ab_tn (show xn < 2 ^ 31 by omega)]; rw [if_neg c_1_1_0, if_neg c_1_1_1, if_neg c_1_1_2, if_neg c_1_1_3, if_neg c_1_1_4, if_neg c_1_1_5, if_neg c_1_1_6, if_neg c_99_2, if_neg c_111_3])
def fx_W_copy (nr : Nat) (h : Nat → Nat → Int32) (g : Nat → Nat → Int64) (rr : Nat → Option Nat) (zs : Nat → Nat)  (s u x y z : Int32) : Option Value × ab_Me :=
  if (fv_W_twoRowsRefusal h s u) = 0 then
    if (h 1 s.toNatClampNeg) = (h 1 u.toNatClampNeg) then
      if 0 ≤ z then
        if x < 0 then
          (some (.int (-5 : Int32)), (ab_S nr (ab_u2 h 28 5 (h 28 5 + 1)) g rr))
        else
          if y < 0 then
            (some (.int (-5 : Int32)), (ab_S nr (ab_u2 h 28 5 (h 28 5 + 1)) g rr))
          else
            if ((nI (zs s.toNatClampNeg)) - (nI (z.toNatClampNeg))) < x then
              (some (.int (-5 : Int32)), (ab_S nr (ab_u2 h 28 5 (h 28 5 + 1)) g rr))
            else
              if y ≤ ((nI (zs u.toNatClampNeg)) - (nI (z.toNatClampNeg))) then
                (some (.int (1 : Int32)), (ab_S nr h (ab_cpy g (4 + s.toNatClampNeg) (4 + u.toNatClampNeg) x.toNatClampNeg y.toNatClampNeg z.toNatClampNeg) rr))
              else
                (some (.int (-5 : Int32)), (ab_S nr (ab_u2 h 28 5 (h 28 5 + 1)) g rr))
      else
        (some (.int (-4 : Int32)), (ab_S nr (ab_u2 h 28 4 (h 28 4 + 1)) g rr))
    else
      (some (.int (-2 : Int32)), (ab_S nr (ab_u2 h 28 2 (h 28 2 + 1)) g rr))
  else
    (some (.int (fv_W_twoRowsRefusal h s u)), (ab_S nr (ab_u2 h 28 (-(fv_W_twoRowsRefusal h s u)).toNatClampNeg (h 28 (-(fv_W_twoRowsRefusal h s u)).toNatClampNeg + 1)) g rr))
set_option maxHeartbeats 1000000 in
set_option maxRecDepth 10000 in
theorem ct_W_copy (l : Launch) (d : Nat) (nr : Nat) (h : Nat → Nat → Int32) (g : Nat → Nat → Int64) (rr : Nat → Option Nat) {zs : Nat → Nat} (hzs : ∀ s, s < 8 → zs s ≤ 60 ∧ h 2 s = nI (zs s))  (s u x y z : Int32) : ab_C l am_W_copy (d + 3) 0 0 [.ref 0, .int s, .int u, .int x, .int y, .int z] (ab_S nr h g rr) (fun r_ M' => (r_, M') = fx_W_copy nr h g rr zs s u x y z) := by
  refine ab_C_of (by decide +kernel) rfl (Nat.le_of_ble_eq_true rfl) ?_
  refine ab_aload_n de_W_copy_0 0 rfl ?_
  refine ab_iload_n de_W_copy_1 1 rfl ?_
  refine ab_iload_n de_W_copy_2 2 rfl ?_
  refine ab_cV (as := [.int s, .int u]) (st := []) (ct_W_twoRowsRefusal l _ nr h g rr (s) (u)) mo_W_twoRowsRefusal mi_W_twoRowsRefusal ml_W_102 rfl (by decide) rfl rfl rfl (Nat.le_of_ble_eq_true rfl) de_W_copy_3 (fun v_ M_ hK_ hl_ hv_ => ?_)
  obtain ⟨rfl, hm_⟩ := hK_
  have hm_ := hm_.symm
  subst hm_
  change ab_G _ _ _ _ _ _ _ [(0, .ref 0), (1, .int s), (2, .int u), (3, .int x), (4, .int y), (5, .int z)] [.int (fv_W_twoRowsRefusal h s u)] (ab_S nr h g rr) _
  refine ab_istore (L' := [(6, .int (fv_W_twoRowsRefusal h s u)), (0, .ref 0), (1, .int s), (2, .int u), (3, .int x), (4, .int y), (5, .int z)]) de_W_copy_6 (by decide) rfl ?_
  refine ab_iload de_W_copy_8 0 rfl ?_
  refine ab_if_ne (tgt := 32) de_W_copy_10 rfl (fun c_10_1 => ?_) (fun c_10_1 => ?_)
  · refine ab_iload de_W_copy_32 0 rfl ?_
    refine ab_if_eq (tgt := 44) de_W_copy_34 rfl (fun c_34_2 => ?_) (fun c_34_2 => ?_)
    · exact absurd c_34_2 c_10_1
    · refine ab_aload_n de_W_copy_37 1 rfl ?_
      refine ab_iload de_W_copy_38 0 rfl ?_
      refine ab_cV (as := [.int (fv_W_twoRowsRefusal h s u)]) (st := []) (ct_W_refuse l _ nr h g rr (r := fv_W_twoRowsRefusal h s u) (k := (-(fv_W_twoRowsRefusal h s u)).toNatClampNeg) (rf_v (rf_two h s u)).1 (rf_v (rf_two h s u)).2) mo_W_refuse mi_W_refuse ml_W_88 rfl (by decide) rfl rfl rfl (Nat.le_of_ble_eq_true rfl) de_W_copy_40 (fun v_ M_ hK_ hl_ hv_ => ?_)
      obtain ⟨rfl, hm_⟩ := hK_
      have hm_ := hm_.symm
      subst hm_
      change ab_G _ _ _ _ _ _ _ [(6, .int (fv_W_twoRowsRefusal h s u)), (0, .ref 0), (1, .int s), (2, .int u), (3, .int x), (4, .int y), (5, .int z)] [.int (fv_W_twoRowsRefusal h s u)] (ab_S nr (ab_u2 h 28 (-(fv_W_twoRowsRefusal h s u)).toNatClampNeg (h 28 (-(fv_W_twoRowsRefusal h s u)).toNatClampNeg + 1)) g rr) _
      exact ab_ret (v := some (.int (fv_W_twoRowsRefusal h s u))) de_W_copy_43 ⟨_, rfl⟩ (by unfold fx_W_copy; rw [if_neg c_10_1])
  · obtain ⟨sn, hsn, rfl⟩ := rf_row0 (rf_two0 c_10_1).1
    have hz60 := (hzs sn (by omega)).1
    obtain ⟨un, hun, rfl⟩ := rf_row0 (rf_two0 c_10_1).2
    have hy60 := (hzs un (by omega)).1
    refine ab_aload_n de_W_copy_13 1 rfl ?_
    refine ab_get (v := .ref 1) fl_W_9 rfl rfl de_W_copy_14 ?_
    refine ab_iload_n de_W_copy_17 2 rfl ?_
    refine ab_iald (v := h 1 sn) rfl (ab_in (by omega) (by decide)) (ab_hv (ab_tn (n := sn) (by omega))) de_W_copy_18 ?_
    refine ab_aload_n de_W_copy_19 1 rfl ?_
    refine ab_get (v := .ref 1) fl_W_9 rfl rfl de_W_copy_20 ?_
    refine ab_iload_n de_W_copy_23 3 rfl ?_
    refine ab_iald (v := h 1 un) rfl (ab_in (by omega) (by decide)) (ab_hv (ab_tn (n := un) (by omega))) de_W_copy_24 ?_
    refine ab_icmp_eq (tgt := 32) de_W_copy_25 rfl (fun c_25_3 => ?_) (fun c_25_3 => ?_)
    · refine ab_iload de_W_copy_32 0 rfl ?_
      refine ab_if_eq (tgt := 44) de_W_copy_34 rfl (fun c_34_4 => ?_) (fun c_34_4 => ?_)
      · refine ab_iload de_W_copy_44 6 rfl ?_
        refine ab_if_ge (tgt := 56) de_W_copy_46 rfl (fun c_46_5 => ?_) (fun c_46_5 => ?_)
        · obtain ⟨zn, hzn, rfl⟩ := nn_n (Int32.not_lt.mpr c_46_5)
          refine ab_iload_n de_W_copy_56 4 rfl ?_
          refine ab_if_lt (tgt := 92) de_W_copy_57 rfl (fun c_57_6 => ?_) (fun c_57_6 => ?_)
          · refine ab_aload_n de_W_copy_92 1 rfl ?_
            refine ab_bipush (v := -5) de_W_copy_93 rfl ?_
            refine ab_cV (as := [.int (-5 : Int32)]) (st := []) (ct_W_refuse l _ nr h g rr (r := (-5 : Int32)) (k := 5) (by decide) (by decide)) mo_W_refuse mi_W_refuse ml_W_88 rfl (by decide) rfl rfl rfl (Nat.le_of_ble_eq_true rfl) de_W_copy_95 (fun v_ M_ hK_ hl_ hv_ => ?_)
            obtain ⟨rfl, hm_⟩ := hK_
            have hm_ := hm_.symm
            subst hm_
            change ab_G _ _ _ _ _ _ _ [(6, .int (fv_W_twoRowsRefusal h (nI sn) (nI un))), (0, .ref 0), (1, .int (nI sn)), (2, .int (nI un)), (3, .int x), (4, .int y), (5, .int (nI zn))] [.int (-5 : Int32)] (ab_S nr (ab_u2 h 28 5 (h 28 5 + 1)) g rr) _
            exact ab_ret (v := some (.int (-5 : Int32))) de_W_copy_98 ⟨_, rfl⟩ (by unfold fx_W_copy; try simp only [ab_tn (show sn < 2 ^ 31 by omega), ab_tn (show un < 2 ^ 31 by omega), ab_tn (show zn < 2 ^ 31 by omega)]; rw [if_pos c_10_1, if_pos c_25_3, if_pos c_46_5, if_pos c_57_6])
          · have c57 := c_57_6
            refine ab_iload de_W_copy_60 5 rfl ?_
            refine ab_if_lt (tgt := 92) de_W_copy_62 rfl (fun c_62_7 => ?_) (fun c_62_7 => ?_)
            · refine ab_aload_n de_W_copy_92 1 rfl ?_
              refine ab_bipush (v := -5) de_W_copy_93 rfl ?_
              refine ab_cV (as := [.int (-5 : Int32)]) (st := []) (ct_W_refuse l _ nr h g rr (r := (-5 : Int32)) (k := 5) (by decide) (by decide)) mo_W_refuse mi_W_refuse ml_W_88 rfl (by decide) rfl rfl rfl (Nat.le_of_ble_eq_true rfl) de_W_copy_95 (fun v_ M_ hK_ hl_ hv_ => ?_)
              obtain ⟨rfl, hm_⟩ := hK_
              have hm_ := hm_.symm
              subst hm_
              change ab_G _ _ _ _ _ _ _ [(6, .int (fv_W_twoRowsRefusal h (nI sn) (nI un))), (0, .ref 0), (1, .int (nI sn)), (2, .int (nI un)), (3, .int x), (4, .int y), (5, .int (nI zn))] [.int (-5 : Int32)] (ab_S nr (ab_u2 h 28 5 (h 28 5 + 1)) g rr) _
              exact ab_ret (v := some (.int (-5 : Int32))) de_W_copy_98 ⟨_, rfl⟩ (by unfold fx_W_copy; try simp only [ab_tn (show sn < 2 ^ 31 by omega), ab_tn (show un < 2 ^ 31 by omega), ab_tn (show zn < 2 ^ 31 by omega)]; rw [if_pos c_10_1, if_pos c_25_3, if_pos c_46_5, if_neg c_57_6, if_pos c_62_7])
            · have c62 := c_62_7
              refine ab_iload_n de_W_copy_65 4 rfl ?_
              refine ab_aload_n de_W_copy_66 1 rfl ?_
              refine ab_get (v := .ref 2) fl_W_13 rfl rfl de_W_copy_67 ?_
              refine ab_iload_n de_W_copy_70 2 rfl ?_
              refine ab_iald (v := h 2 sn) rfl (ab_in (by omega) (by decide)) (ab_hv (ab_tn (n := sn) (by omega))) de_W_copy_71 ?_
              refine ab_top (v' := nI (zs sn)) ((hzs sn (by omega)).2) ?_
              refine ab_iload de_W_copy_72 6 rfl ?_
              refine ab_isub de_W_copy_74 ?_
              refine ab_icmp_gt (tgt := 92) de_W_copy_75 rfl (fun c_75_8 => ?_) (fun c_75_8 => ?_)
              · refine ab_aload_n de_W_copy_92 1 rfl ?_
                refine ab_bipush (v := -5) de_W_copy_93 rfl ?_
                refine ab_cV (as := [.int (-5 : Int32)]) (st := []) (ct_W_refuse l _ nr h g rr (r := (-5 : Int32)) (k := 5) (by decide) (by decide)) mo_W_refuse mi_W_refuse ml_W_88 rfl (by decide) rfl rfl rfl (Nat.le_of_ble_eq_true rfl) de_W_copy_95 (fun v_ M_ hK_ hl_ hv_ => ?_)
                obtain ⟨rfl, hm_⟩ := hK_
                have hm_ := hm_.symm
                subst hm_
                change ab_G _ _ _ _ _ _ _ [(6, .int (fv_W_twoRowsRefusal h (nI sn) (nI un))), (0, .ref 0), (1, .int (nI sn)), (2, .int (nI un)), (3, .int x), (4, .int y), (5, .int (nI zn))] [.int (-5 : Int32)] (ab_S nr (ab_u2 h 28 5 (h 28 5 + 1)) g rr) _
                exact ab_ret (v := some (.int (-5 : Int32))) de_W_copy_98 ⟨_, rfl⟩ (by unfold fx_W_copy; try simp only [ab_tn (show sn < 2 ^ 31 by omega), ab_tn (show un < 2 ^ 31 by omega), ab_tn (show zn < 2 ^ 31 by omega)]; rw [if_pos c_10_1, if_pos c_25_3, if_pos c_46_5, if_neg c_57_6, if_neg c_62_7, if_pos c_75_8])
              · obtain ⟨xn, hxn, rfl⟩ := cp_n hz60 (by omega) c57 c_75_8
                refine ab_iload de_W_copy_78 5 rfl ?_
                refine ab_aload_n de_W_copy_80 1 rfl ?_
                refine ab_get (v := .ref 2) fl_W_13 rfl rfl de_W_copy_81 ?_
                refine ab_iload_n de_W_copy_84 3 rfl ?_
                refine ab_iald (v := h 2 un) rfl (ab_in (by omega) (by decide)) (ab_hv (ab_tn (n := un) (by omega))) de_W_copy_85 ?_
                refine ab_top (v' := nI (zs un)) ((hzs un (by omega)).2) ?_
                refine ab_iload de_W_copy_86 6 rfl ?_
                refine ab_isub de_W_copy_88 ?_
                refine ab_icmp_le (tgt := 99) de_W_copy_89 rfl (fun c_89_9 => ?_) (fun c_89_9 => ?_)
                · obtain ⟨yn, hyn, rfl⟩ := cp_n hy60 (by omega) c62 (Int32.not_lt.mpr c_89_9)
                  refine ab_aload_n de_W_copy_99 1 rfl ?_
                  refine ab_get (v := .ref 3) fl_W_18 rfl rfl de_W_copy_100 ?_
                  refine ab_iload_n de_W_copy_103 2 rfl ?_
                  refine ab_rald (v := .ref (4 + sn)) rfl (ab_in (by omega) (by decide)) (ab_r3 (by omega)) de_W_copy_104 ?_
                  refine ab_iload_n de_W_copy_105 4 rfl ?_
                  refine ab_aload_n de_W_copy_106 1 rfl ?_
                  refine ab_get (v := .ref 3) fl_W_18 rfl rfl de_W_copy_107 ?_
                  refine ab_iload_n de_W_copy_110 3 rfl ?_
                  refine ab_rald (v := .ref (4 + un)) rfl (ab_in (by omega) (by decide)) (ab_r3 (by omega)) de_W_copy_111 ?_
                  refine ab_iload de_W_copy_112 5 rfl ?_
                  refine ab_iload de_W_copy_114 6 rfl ?_
                  refine ab_cpl (ab_w1 216 rfl rfl) (ab_rk4 (j := sn) (by omega)) (ab_rk4 (j := un) (by omega)) (nn_0 _ (by omega)) (nn_0 _ (by omega)) (nn_0 _ (by omega)) (by rw [ab_tn (n := xn) (by omega), ab_tn (n := zn) (by omega)]; omega) (by rw [ab_tn (n := yn) (by omega), ab_tn (n := zn) (by omega)]; omega) (Nat.le_of_ble_eq_true rfl) de_W_copy_116 ?_
                  rw [ab_tn (n := xn) (by omega), ab_tn (n := yn) (by omega), ab_tn (n := zn) (by omega)]
                  change ab_G _ _ _ _ _ _ _ [(6, .int (fv_W_twoRowsRefusal h (nI sn) (nI un))), (0, .ref 0), (1, .int (nI sn)), (2, .int (nI un)), (3, .int (nI xn)), (4, .int (nI yn)), (5, .int (nI zn))] [] (ab_S nr h (ab_cpy g (4 + sn) (4 + un) xn yn zn) rr) _
                  refine ab_iconst (v := 1) de_W_copy_119 rfl ?_
                  exact ab_ret (v := some (.int (1 : Int32))) de_W_copy_120 ⟨_, rfl⟩ (by unfold fx_W_copy; try simp only [ab_tn (show sn < 2 ^ 31 by omega), ab_tn (show un < 2 ^ 31 by omega), ab_tn (show zn < 2 ^ 31 by omega), ab_tn (show xn < 2 ^ 31 by omega), ab_tn (show yn < 2 ^ 31 by omega)]; rw [if_pos c_10_1, if_pos c_25_3, if_pos c_46_5, if_neg c_57_6, if_neg c_62_7, if_neg c_75_8, if_pos c_89_9])
                · refine ab_aload_n de_W_copy_92 1 rfl ?_
                  refine ab_bipush (v := -5) de_W_copy_93 rfl ?_
                  refine ab_cV (as := [.int (-5 : Int32)]) (st := []) (ct_W_refuse l _ nr h g rr (r := (-5 : Int32)) (k := 5) (by decide) (by decide)) mo_W_refuse mi_W_refuse ml_W_88 rfl (by decide) rfl rfl rfl (Nat.le_of_ble_eq_true rfl) de_W_copy_95 (fun v_ M_ hK_ hl_ hv_ => ?_)
                  obtain ⟨rfl, hm_⟩ := hK_
                  have hm_ := hm_.symm
                  subst hm_
                  change ab_G _ _ _ _ _ _ _ [(6, .int (fv_W_twoRowsRefusal h (nI sn) (nI un))), (0, .ref 0), (1, .int (nI sn)), (2, .int (nI un)), (3, .int (nI xn)), (4, .int y), (5, .int (nI zn))] [.int (-5 : Int32)] (ab_S nr (ab_u2 h 28 5 (h 28 5 + 1)) g rr) _
                  exact ab_ret (v := some (.int (-5 : Int32))) de_W_copy_98 ⟨_, rfl⟩ (by unfold fx_W_copy; try simp only [ab_tn (show sn < 2 ^ 31 by omega), ab_tn (show un < 2 ^ 31 by omega), ab_tn (show zn < 2 ^ 31 by omega), ab_tn (show xn < 2 ^ 31 by omega)]; rw [if_pos c_10_1, if_pos c_25_3, if_pos c_46_5, if_neg c_57_6, if_neg c_62_7, if_neg c_75_8, if_neg c_89_9])
        · refine ab_aload_n de_W_copy_49 1 rfl ?_
          refine ab_bipush (v := -4) de_W_copy_50 rfl ?_
          refine ab_cV (as := [.int (-4 : Int32)]) (st := []) (ct_W_refuse l _ nr h g rr (r := (-4 : Int32)) (k := 4) (by decide) (by decide)) mo_W_refuse mi_W_refuse ml_W_88 rfl (by decide) rfl rfl rfl (Nat.le_of_ble_eq_true rfl) de_W_copy_52 (fun v_ M_ hK_ hl_ hv_ => ?_)
          obtain ⟨rfl, hm_⟩ := hK_
          have hm_ := hm_.symm
          subst hm_
          change ab_G _ _ _ _ _ _ _ [(6, .int (fv_W_twoRowsRefusal h (nI sn) (nI un))), (0, .ref 0), (1, .int (nI sn)), (2, .int (nI un)), (3, .int x), (4, .int y), (5, .int z)] [.int (-4 : Int32)] (ab_S nr (ab_u2 h 28 4 (h 28 4 + 1)) g rr) _
          exact ab_ret (v := some (.int (-4 : Int32))) de_W_copy_55 ⟨_, rfl⟩ (by unfold fx_W_copy; try simp only [ab_tn (show sn < 2 ^ 31 by omega), ab_tn (show un < 2 ^ 31 by omega)]; rw [if_pos c_10_1, if_pos c_25_3, if_neg c_46_5])
      · exact absurd c_10_1 c_34_4
    · refine ab_bipush (v := -2) de_W_copy_28 rfl ?_
      refine ab_istore (L' := [(6, .int (-2 : Int32)), (0, .ref 0), (1, .int (nI sn)), (2, .int (nI un)), (3, .int x), (4, .int y), (5, .int z)]) de_W_copy_30 (by decide) rfl ?_
      refine ab_iload de_W_copy_32 0 rfl ?_
      refine ab_if_eq (tgt := 44) de_W_copy_34 rfl (fun c_34_10 => ?_) (fun c_34_10 => ?_)
      · exact absurd c_34_10 (by decide)
      · refine ab_aload_n de_W_copy_37 1 rfl ?_
        refine ab_iload de_W_copy_38 0 rfl ?_
        refine ab_cV (as := [.int (-2 : Int32)]) (st := []) (ct_W_refuse l _ nr h g rr (r := (-2 : Int32)) (k := 2) (by decide) (by decide)) mo_W_refuse mi_W_refuse ml_W_88 rfl (by decide) rfl rfl rfl (Nat.le_of_ble_eq_true rfl) de_W_copy_40 (fun v_ M_ hK_ hl_ hv_ => ?_)
        obtain ⟨rfl, hm_⟩ := hK_
        have hm_ := hm_.symm
        subst hm_
        change ab_G _ _ _ _ _ _ _ [(6, .int (-2 : Int32)), (0, .ref 0), (1, .int (nI sn)), (2, .int (nI un)), (3, .int x), (4, .int y), (5, .int z)] [.int (-2 : Int32)] (ab_S nr (ab_u2 h 28 2 (h 28 2 + 1)) g rr) _
        exact ab_ret (v := some (.int (-2 : Int32))) de_W_copy_43 ⟨_, rfl⟩ (by unfold fx_W_copy; try simp only [ab_tn (show sn < 2 ^ 31 by omega), ab_tn (show un < 2 ^ 31 by omega)]; rw [if_pos c_10_1, if_neg c_25_3])
