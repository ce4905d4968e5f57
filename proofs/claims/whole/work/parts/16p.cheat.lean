/-! the reference: CHEAT, judge, WIDE -/
def md_cw (p : Nat × Nat) : Int32 := if p.1 = 2147483647 then -1 else nI p.2
theorem md_ch_s (pr fy : Nat → Nat) (p n : Nat) : sp_ch pr fy p (n + 1) = if 1 ≤ n ∧ pr n ≤ p ∧ fy n < (sp_ch pr fy p n).1 then (fy n, n) else sp_ch pr fy p n := rfl
set_option maxHeartbeats 1000000 in
set_option maxRecDepth 10000 in
theorem lp_M_cheat (l : Launch) (d : Nat) (nr : Nat) (h : Nat → Nat → Int32) (g : Nat → Nat → Int64) (rr : Nat → Option Nat) {T : Nat → Nat → Nat} {Z : sp_G} (hZ : gm_ok Z) (hfy : ∀ c, 1 ≤ c → c < 4096 → h 46 c = nI (sp_fy T c Z)) {x : Nat} (hx1 : 1 ≤ x) (hx : x ≤ 25) {w : Int32} {K : Option Value → ab_Me → Prop} (kx : ab_G l none am_M_cheat (d + 6) 0 0 89 [(0, .ref 30), (1, .int (nI x)), (2, .int w), (3, .int (nI (sp_ch sp_pr (fun c => sp_fy T c Z) x 4096).2))] [] (ab_S nr h g rr) (K)) : ∀ (fu_ c : Nat), c ≤ 4096 → 4096 < c + fu_ → 1 ≤ c → ab_G l none am_M_cheat (d + 6) 0 0 41 [(0, .ref 30), (1, .int (nI x)), (2, .int w), (3, .int (md_cw (sp_ch sp_pr (fun c => sp_fy T c Z) x c))), (4, .int (nI c))] [] (ab_S nr h g rr) (K) := by
  intro fu_
  induction fu_ with
  | zero => intro c  h1 h2; omega
  | succ fu_ ih =>
    intro c  hN_ hn_ hf0
    have f1_ := sp_fy_le (T := T) (c := c) hZ
    have p1_ := sp_pr22 c
    refine ab_iload de_M_cheat_41 4 rfl ?_
    refine ab_sipush (v := 4096) de_M_cheat_43 rfl ?_
    refine ab_icmp_ge (tgt := 89) de_M_cheat_46 rfl (fun c_46_1 => ?_) (fun c_46_1 => ?_)
    · have hc := ab_le_of (n := 4096) (by decide) (by omega) rfl c_46_1
      refine ab_sub (L' := [(0, .ref 30), (1, .int (nI x)), (2, .int w), (3, .int (md_cw (sp_ch sp_pr (fun c => sp_fy T c Z) x c)))]) [0, 1, 2, 3] rfl ?_
      have e_ : md_cw (sp_ch sp_pr (fun c => sp_fy T c Z) x c) = nI (sp_ch sp_pr (fun c => sp_fy T c Z) x 4096).2 := by
        rw [show c = 4096 by omega]
        exact if_neg (sp_ch_fin hZ hx1 (by decide))
      rw [e_]
      exact kx
    · have hc := ab_nle_of (n := 4096) (by decide) (by omega) rfl c_46_1
      refine ab_aload_n de_M_cheat_49 0 rfl ?_
      refine ab_iload de_M_cheat_50 4 rfl ?_
      refine ab_cV (as := [.int (nI c)]) (st := []) (ct_M_priceOf l _ nr h g rr (c := c) hc) mo_M_priceOf mi_M_priceOf ml_M_116 rfl (by decide) rfl rfl rfl (Nat.le_of_ble_eq_true rfl) de_M_cheat_52 (fun v_ M_ hK_ hl_ hv_ => ?_)
      obtain ⟨rfl, hm_⟩ := hK_
      have hm_ := hm_.symm
      subst hm_
      change ab_G _ _ _ _ _ _ _ [(0, .ref 30), (1, .int (nI x)), (2, .int w), (3, .int (md_cw (sp_ch sp_pr (fun c => sp_fy T c Z) x c))), (4, .int (nI c))] [.int (nI (sp_pr c))] (ab_S nr h g rr) _
      refine ab_iload_n de_M_cheat_55 1 rfl ?_
      refine ab_icmp_gt (tgt := 83) de_M_cheat_56 rfl (fun c_56_2 => ?_) (fun c_56_2 => ?_)
      · refine ab_iinc (v := nI (c + 1)) (L' := [(4, .int (nI (c + 1))), (0, .ref 30), (1, .int (nI x)), (2, .int w), (3, .int (md_cw (sp_ch sp_pr (fun c => sp_fy T c Z) x c)))]) de_M_cheat_83 4 rfl (by rw [show Int32.ofInt 1 = nI 1 from rfl, ab_add]) (by decide) rfl ?_
        refine ab_goto (tgt := 41) de_M_cheat_86 rfl ?_
        refine ab_sub (L' := [(0, .ref 30), (1, .int (nI x)), (2, .int w), (3, .int (md_cw (sp_ch sp_pr (fun c => sp_fy T c Z) x c))), (4, .int (nI (c + 1)))]) [1, 2, 3, 4, 0] rfl ?_
        have e_ : (sp_ch sp_pr (fun c => sp_fy T c Z) x (c + 1)) = (sp_ch sp_pr (fun c => sp_fy T c Z) x c) := by
          rw [md_ch_s, if_neg (fun z => by have := (ab_lt (by omega) (by omega)).mp c_56_2; omega)]
        have z_ := ih (c + 1) (by omega) (by omega) (by omega)
        rw [e_] at z_
        exact z_
      · refine ab_iload_n de_M_cheat_59 3 rfl ?_
        refine ab_iconst (v := -1) de_M_cheat_60 rfl ?_
        refine ab_icmp_eq (tgt := 80) de_M_cheat_61 rfl (fun c_61_3 => ?_) (fun c_61_3 => ?_)
        · refine ab_iload de_M_cheat_80 4 rfl ?_
          refine ab_istore_n (L' := [(3, .int (nI c)), (0, .ref 30), (1, .int (nI x)), (2, .int w), (4, .int (nI c))]) de_M_cheat_82 (by decide) rfl ?_
          refine ab_iinc (v := nI (c + 1)) (L' := [(4, .int (nI (c + 1))), (3, .int (nI c)), (0, .ref 30), (1, .int (nI x)), (2, .int w)]) de_M_cheat_83 4 rfl (by rw [show Int32.ofInt 1 = nI 1 from rfl, ab_add]) (by decide) rfl ?_
          refine ab_goto (tgt := 41) de_M_cheat_86 rfl ?_
          refine ab_sub (L' := [(0, .ref 30), (1, .int (nI x)), (2, .int w), (3, .int (nI c)), (4, .int (nI (c + 1)))]) [2, 3, 4, 1, 0] rfl ?_
          have p_ : sp_pr c ≤ x := Nat.le_of_not_lt (fun z => c_56_2 ((ab_lt (by omega) (by omega)).mpr z))
          have y_ : sp_fy T c Z < (sp_ch sp_pr (fun c => sp_fy T c Z) x c).1 := by
            rcases sp_ch_in (pr := sp_pr) (fy := (fun c => sp_fy T c Z)) (p := x) c with z | ⟨z1, z2, z3⟩
            · rw [z]; omega
            · exfalso
              have w_ := c_61_3
              unfold md_cw at w_
              rw [if_neg (by rw [z3]; have := sp_fy_le (T := T) (c := (sp_ch sp_pr (fun c => sp_fy T c Z) x c).2) hZ; show ¬ sp_fy T _ Z = _; omega)] at w_
              exact sp_nI_ne (by omega) w_
          have e_ : (sp_ch sp_pr (fun c => sp_fy T c Z) x (c + 1)) = (sp_fy T c Z, c) := by
            rw [md_ch_s, if_pos ⟨hf0, p_, y_⟩]
          have z_ := ih (c + 1) (by omega) (by omega) (by omega)
          rw [e_, show md_cw (sp_fy T c Z, c) = nI c from if_neg (by show ¬ sp_fy T c Z = 2147483647; omega)] at z_
          exact z_
        · obtain ⟨b1_, b2_, b3_, b4_⟩ : 1 ≤ (sp_ch sp_pr (fun c => sp_fy T c Z) x c).2 ∧ (sp_ch sp_pr (fun c => sp_fy T c Z) x c).2 < c ∧ (sp_ch sp_pr (fun c => sp_fy T c Z) x c).1 = sp_fy T (sp_ch sp_pr (fun c => sp_fy T c Z) x c).2 Z ∧ md_cw (sp_ch sp_pr (fun c => sp_fy T c Z) x c) = nI (sp_ch sp_pr (fun c => sp_fy T c Z) x c).2 := by
            rcases sp_ch_in (pr := sp_pr) (fy := (fun c => sp_fy T c Z)) (p := x) c with z | ⟨z1, z2, z3⟩
            · exfalso; exact c_61_3 (by unfold md_cw; rw [if_pos z])
            · exact ⟨z1, z2, z3, if_neg (by rw [z3]; have := sp_fy_le (T := T) (c := (sp_ch sp_pr (fun c => sp_fy T c Z) x c).2) hZ; show ¬ sp_fy T _ Z = _; omega)⟩
          have b5_ := sp_fy_le (T := T) (c := (sp_ch sp_pr (fun c => sp_fy T c Z) x c).2) hZ
          refine ab_aload_n de_M_cheat_64 0 rfl ?_
          refine ab_get (v := .ref 46) fl_M_60 rfl rfl de_M_cheat_65 ?_
          refine ab_iload de_M_cheat_68 4 rfl ?_
          refine ab_iald (v := h 46 c) rfl (ab_in (by omega) (by decide)) (ab_hv (ab_tn (n := c) (by omega))) de_M_cheat_70 ?_
          refine ab_top (v' := nI (sp_fy T c Z)) (hfy c hf0 (by omega)) ?_
          refine ab_aload_n de_M_cheat_71 0 rfl ?_
          refine ab_get (v := .ref 46) fl_M_60 rfl rfl de_M_cheat_72 ?_
          refine ab_iload_n de_M_cheat_75 3 rfl ?_
          refine ab_iald (v := h 46 ((sp_ch sp_pr (fun c => sp_fy T c Z) x c).2)) rfl (by rw [b4_]; exact ab_in (by omega) (by decide)) (by rw [b4_]; exact ab_hv (ab_tn (n := (sp_ch sp_pr (fun c => sp_fy T c Z) x c).2) (by omega))) de_M_cheat_76 ?_
          refine ab_top (v' := nI (sp_fy T (sp_ch sp_pr (fun c => sp_fy T c Z) x c).2 Z)) (hfy _ b1_ (by omega)) ?_
          refine ab_icmp_ge (tgt := 83) de_M_cheat_77 rfl (fun c_77_4 => ?_) (fun c_77_4 => ?_)
          · refine ab_iinc (v := nI (c + 1)) (L' := [(4, .int (nI (c + 1))), (0, .ref 30), (1, .int (nI x)), (2, .int w), (3, .int (md_cw (sp_ch sp_pr (fun c => sp_fy T c Z) x c)))]) de_M_cheat_83 4 rfl (by rw [show Int32.ofInt 1 = nI 1 from rfl, ab_add]) (by decide) rfl ?_
            refine ab_goto (tgt := 41) de_M_cheat_86 rfl ?_
            refine ab_sub (L' := [(0, .ref 30), (1, .int (nI x)), (2, .int w), (3, .int (md_cw (sp_ch sp_pr (fun c => sp_fy T c Z) x c))), (4, .int (nI (c + 1)))]) [1, 2, 3, 4, 0] rfl ?_
            have e_ : (sp_ch sp_pr (fun c => sp_fy T c Z) x (c + 1)) = (sp_ch sp_pr (fun c => sp_fy T c Z) x c) := by
              rw [md_ch_s, if_neg (fun z => by
                have w_ := (ab_le (by omega) (by omega)).mp c_77_4
                have v_ : sp_fy T c Z < (sp_ch sp_pr (fun c => sp_fy T c Z) x c).1 := z.2.2
                rw [b3_] at v_
                omega)]
            have z_ := ih (c + 1) (by omega) (by omega) (by omega)
            rw [e_] at z_
            exact z_
          · refine ab_iload de_M_cheat_80 4 rfl ?_
            refine ab_istore_n (L' := [(3, .int (nI c)), (0, .ref 30), (1, .int (nI x)), (2, .int w), (4, .int (nI c))]) de_M_cheat_82 (by decide) rfl ?_
            refine ab_iinc (v := nI (c + 1)) (L' := [(4, .int (nI (c + 1))), (3, .int (nI c)), (0, .ref 30), (1, .int (nI x)), (2, .int w)]) de_M_cheat_83 4 rfl (by rw [show Int32.ofInt 1 = nI 1 from rfl, ab_add]) (by decide) rfl ?_
            refine ab_goto (tgt := 41) de_M_cheat_86 rfl ?_
            refine ab_sub (L' := [(0, .ref 30), (1, .int (nI x)), (2, .int w), (3, .int (nI c)), (4, .int (nI (c + 1)))]) [2, 3, 4, 1, 0] rfl ?_
            have p_ : sp_pr c ≤ x := Nat.le_of_not_lt (fun z => c_56_2 ((ab_lt (by omega) (by omega)).mpr z))
            have y_ : sp_fy T c Z < (sp_ch sp_pr (fun c => sp_fy T c Z) x c).1 := by
              rw [b3_]
              exact Nat.lt_of_not_le (fun z => c_77_4 ((ab_le (by omega) (by omega)).mpr z))
            have e_ : (sp_ch sp_pr (fun c => sp_fy T c Z) x (c + 1)) = (sp_fy T c Z, c) := by
              rw [md_ch_s, if_pos ⟨hf0, p_, y_⟩]
            have z_ := ih (c + 1) (by omega) (by omega) (by omega)
            rw [e_, show md_cw (sp_fy T c Z, c) = nI c from if_neg (by show ¬ sp_fy T c Z = 2147483647; omega)] at z_
            exact z_
def fx_M_cheat (h : Nat → Nat → Int32) (T : Nat → Nat → Nat) (Z : sp_G) (x y : Int32) : Option Value × (Nat → Nat → Int32) :=
  if x < (1 : Int32) then
    (some (.int (-6 : Int32)), (ab_u2 h 31 6 (h 31 6 + 1)))
  else
    if (25 : Int32) < x then
      (some (.int (-6 : Int32)), (ab_u2 h 31 6 (h 31 6 + 1)))
    else
      if y < 0 then
        (some (.int (-6 : Int32)), (ab_u2 h 31 6 (h 31 6 + 1)))
      else
        if y ≤ (1 : Int32) then
          if y = 0 then
            (some (.int (nI (sp_fy T (sp_ch sp_pr (fun c => sp_fy T c Z) x.toNatClampNeg 4096).2 Z))), h)
          else
            (some (.int (nI (sp_ch sp_pr (fun c => sp_fy T c Z) x.toNatClampNeg 4096).2)), h)
        else
          (some (.int (-6 : Int32)), (ab_u2 h 31 6 (h 31 6 + 1)))
set_option maxHeartbeats 1000000 in
set_option maxRecDepth 10000 in
theorem ct_M_cheat (l : Launch) (d : Nat) (nr : Nat) (h : Nat → Nat → Int32) (g : Nat → Nat → Int64) (rr : Nat → Option Nat) {T : Nat → Nat → Nat} (hTM : bo_T T h 32) (hO : sp_ok T) {Z : sp_G} (hZ : gm_ok Z) (hG : md_G Z h) (hK : md_K T Z h) (x y : Int32) : ab_C l am_M_cheat (d + 8) 0 0 [.ref 30, .int x, .int y] (ab_S nr h g rr) (fun r_ M' => ∃ X h', (r_, X) = fx_M_cheat h T Z x y ∧ M' = ab_S nr h' g rr ∧ md_K T Z h' ∧ md_kr X h') := by
  have ff_h := md_kr_rf h
  have kk_h := hK
  refine ab_C_of (by decide +kernel) rfl (Nat.le_of_ble_eq_true rfl) ?_
  refine ab_iload_n de_M_cheat_0 1 rfl ?_
  refine ab_iconst (v := 1) de_M_cheat_1 rfl ?_
  refine ab_icmp_lt (tgt := 20) de_M_cheat_2 rfl (fun c_2_1 => ?_) (fun c_2_1 => ?_)
  · refine ab_aload_n de_M_cheat_20 0 rfl ?_
    refine ab_bipush (v := -6) de_M_cheat_21 rfl ?_
    refine ab_cV (as := [.int (-6 : Int32)]) (st := []) (ct_M_no l _ nr h g rr (r := (-6 : Int32)) (k := 6) (by decide) (by decide)) mo_M_no mi_M_no ml_M_94 rfl (by decide) rfl rfl rfl (Nat.le_of_ble_eq_true rfl) de_M_cheat_23 (fun v_ M_ hK_ hl_ hv_ => ?_)
    obtain ⟨rfl, hm_⟩ := hK_
    have hm_ := hm_.symm
    subst hm_
    change ab_G _ _ _ _ _ _ _ [(0, .ref 30), (1, .int x), (2, .int y)] [.int (-6 : Int32)] (ab_S nr (ab_u2 h 31 6 (h 31 6 + 1)) g rr) _
    exact ab_ret (v := some (.int (-6 : Int32))) de_M_cheat_26 ⟨_, rfl⟩ ⟨_, _, (by unfold fx_M_cheat; rw [if_pos c_2_1]), rfl, (md_K_31 kk_h _ _), (md_kr_31 ff_h _)⟩
  · have c2 := c_2_1
    refine ab_iload_n de_M_cheat_5 1 rfl ?_
    refine ab_bipush (v := 25) de_M_cheat_6 rfl ?_
    refine ab_icmp_gt (tgt := 20) de_M_cheat_8 rfl (fun c_8_2 => ?_) (fun c_8_2 => ?_)
    · refine ab_aload_n de_M_cheat_20 0 rfl ?_
      refine ab_bipush (v := -6) de_M_cheat_21 rfl ?_
      refine ab_cV (as := [.int (-6 : Int32)]) (st := []) (ct_M_no l _ nr h g rr (r := (-6 : Int32)) (k := 6) (by decide) (by decide)) mo_M_no mi_M_no ml_M_94 rfl (by decide) rfl rfl rfl (Nat.le_of_ble_eq_true rfl) de_M_cheat_23 (fun v_ M_ hK_ hl_ hv_ => ?_)
      obtain ⟨rfl, hm_⟩ := hK_
      have hm_ := hm_.symm
      subst hm_
      change ab_G _ _ _ _ _ _ _ [(0, .ref 30), (1, .int x), (2, .int y)] [.int (-6 : Int32)] (ab_S nr (ab_u2 h 31 6 (h 31 6 + 1)) g rr) _
      exact ab_ret (v := some (.int (-6 : Int32))) de_M_cheat_26 ⟨_, rfl⟩ ⟨_, _, (by unfold fx_M_cheat; rw [if_neg c_2_1, if_pos c_8_2]), rfl, (md_K_31 kk_h _ _), (md_kr_31 ff_h _)⟩
    · obtain ⟨xn, hxn, rfl⟩ := sp_btl_n (a := 1) (N := 25) (by decide) (Int32.not_lt.mp c2) (by decide) (Int32.not_lt.mp c_8_2)
      refine ab_iload_n de_M_cheat_11 2 rfl ?_
      refine ab_if_lt (tgt := 20) de_M_cheat_12 rfl (fun c_12_3 => ?_) (fun c_12_3 => ?_)
      · refine ab_aload_n de_M_cheat_20 0 rfl ?_
        refine ab_bipush (v := -6) de_M_cheat_21 rfl ?_
        refine ab_cV (as := [.int (-6 : Int32)]) (st := []) (ct_M_no l _ nr h g rr (r := (-6 : Int32)) (k := 6) (by decide) (by decide)) mo_M_no mi_M_no ml_M_94 rfl (by decide) rfl rfl rfl (Nat.le_of_ble_eq_true rfl) de_M_cheat_23 (fun v_ M_ hK_ hl_ hv_ => ?_)
        obtain ⟨rfl, hm_⟩ := hK_
        have hm_ := hm_.symm
        subst hm_
        change ab_G _ _ _ _ _ _ _ [(0, .ref 30), (1, .int (nI xn)), (2, .int y)] [.int (-6 : Int32)] (ab_S nr (ab_u2 h 31 6 (h 31 6 + 1)) g rr) _
        exact ab_ret (v := some (.int (-6 : Int32))) de_M_cheat_26 ⟨_, rfl⟩ ⟨_, _, (by unfold fx_M_cheat; try simp only [ab_tn (show xn < 2 ^ 31 by omega)]; rw [if_neg c_2_1, if_neg c_8_2, if_pos c_12_3]), rfl, (md_K_31 kk_h _ _), (md_kr_31 ff_h _)⟩
      · refine ab_iload_n de_M_cheat_15 2 rfl ?_
        refine ab_iconst (v := 1) de_M_cheat_16 rfl ?_
        refine ab_icmp_le (tgt := 27) de_M_cheat_17 rfl (fun c_17_4 => ?_) (fun c_17_4 => ?_)
        · refine ab_aload_n de_M_cheat_27 0 rfl ?_
          refine ab_cV (as := []) (st := []) (ct_M_fitting l _ nr h g rr (md_T_kr (md_kr_rf h) hTM) hO hZ (md_G_kr (md_kr_rf h) hG) hK.1) mo_M_fitting mi_M_fitting ml_M_264 rfl (by decide) rfl rfl rfl (Nat.le_of_ble_eq_true rfl) de_M_cheat_28 (fun v_ M_ hK_ hl_ hv_ => ?_)
          obtain ⟨rfl, h1_, rfl, k1_, k2_, k3_, k4_⟩ := hK_
          change ab_G _ _ _ _ _ _ _ [(0, .ref 30), (1, .int (nI xn)), (2, .int y)] [.int (nI (sp_to (sp_ok1 T Z)))] (ab_S nr h1_ g rr) _
          have kk_h1_ : md_K T Z h1_ := md_K_fit hK k2_ k3_ k4_
          have ff_h1_ : md_kr h h1_ := md_kr_tr (md_kr_rf h) k1_
          have fo_h1_ := k2_.2
          refine ab_pop de_M_cheat_31 rfl ?_
          refine ab_aload_n de_M_cheat_32 0 rfl ?_
          refine ab_cV (as := []) (st := []) (ct_M_faults l _ nr h1_ g rr (md_T_kr ff_h1_ hTM) hO hZ (md_G_kr ff_h1_ hG) kk_h1_) mo_M_faults mi_M_faults ml_M_281 rfl (by decide) rfl rfl rfl (Nat.le_of_ble_eq_true rfl) de_M_cheat_33 (fun v_ M_ hK_ hl_ hv_ => ?_)
          obtain ⟨rfl, h2_, rfl, k1_, kk_h2_, kf_, fy_, -⟩ := hK_
          change ab_G _ _ _ _ _ _ _ [(0, .ref 30), (1, .int (nI xn)), (2, .int y)] [] (ab_S nr h2_ g rr) _
          have ff_h2_ : md_kr h h2_ := md_kr_tr ff_h1_ k1_
          refine ab_iconst (v := -1) de_M_cheat_36 rfl ?_
          refine ab_istore_n (L' := [(3, .int (-1 : Int32)), (0, .ref 30), (1, .int (nI xn)), (2, .int y)]) de_M_cheat_37 (by decide) rfl ?_
          refine ab_iconst (v := 1) de_M_cheat_38 rfl ?_
          refine ab_istore (L' := [(4, .int (1 : Int32)), (3, .int (-1 : Int32)), (0, .ref 30), (1, .int (nI xn)), (2, .int y)]) de_M_cheat_39 (by decide) rfl ?_
          refine ab_sub (L' := [(0, .ref 30), (1, .int (nI xn)), (2, .int y), (3, .int (md_cw (sp_ch sp_pr (fun c => sp_fy T c Z) xn 1))), (4, .int (nI 1))]) [2, 3, 4, 1, 0] rfl ?_
          refine lp_M_cheat l (d + 2) nr h2_ g rr hZ fy_ hxn.1 hxn.2 (w := y) ?_ 4096 1 (by omega) (by omega) (by omega)
          have cc_ := sp_chc (T := T) hZ hxn.1
          have cx_ : 1 ≤ (sp_ch sp_pr (fun c => sp_fy T c Z) xn 4096).2 := by
            rcases sp_ch_in (pr := sp_pr) (fy := fun c => sp_fy T c Z) (p := xn) 4096 with z | z
            · exact absurd z (sp_ch_fin hZ hxn.1 (by decide))
            · exact z.1
          have cf_ := fy_ (sp_ch sp_pr (fun c => sp_fy T c Z) xn 4096).2 cx_ cc_
          refine ab_iload_n de_M_cheat_89 2 rfl ?_
          refine ab_if_ne (tgt := 102) de_M_cheat_90 rfl (fun c_90_5 => ?_) (fun c_90_5 => ?_)
          · refine ab_iload_n de_M_cheat_102 3 rfl ?_
            exact ab_ret (v := some (.int (nI (sp_ch sp_pr (fun c => sp_fy T c Z) xn 4096).2))) de_M_cheat_103 ⟨_, rfl⟩ ⟨_, _, (by unfold fx_M_cheat; try simp only [ab_tn (show xn < 2 ^ 31 by omega)]; rw [if_neg c_2_1, if_neg c_8_2, if_neg c_12_3, if_pos c_17_4, if_neg c_90_5]), rfl, kk_h2_, ff_h2_⟩
          · refine ab_aload_n de_M_cheat_93 0 rfl ?_
            refine ab_get (v := .ref 46) fl_M_60 rfl rfl de_M_cheat_94 ?_
            refine ab_iload_n de_M_cheat_97 3 rfl ?_
            refine ab_iald (v := h2_ 46 ((sp_ch sp_pr (fun c => sp_fy T c Z) xn 4096).2)) rfl (ab_in (by omega) (by decide)) (ab_hv (ab_tn (n := (sp_ch sp_pr (fun c => sp_fy T c Z) xn 4096).2) (by omega))) de_M_cheat_98 ?_
            refine ab_top (v' := nI (sp_fy T (sp_ch sp_pr (fun c => sp_fy T c Z) xn 4096).2 Z)) (cf_) ?_
            refine ab_goto (tgt := 103) de_M_cheat_99 rfl ?_
            exact ab_ret (v := some (.int (nI (sp_fy T (sp_ch sp_pr (fun c => sp_fy T c Z) xn 4096).2 Z)))) de_M_cheat_103 ⟨_, rfl⟩ ⟨_, _, (by unfold fx_M_cheat; try simp only [ab_tn (show xn < 2 ^ 31 by omega)]; rw [if_neg c_2_1, if_neg c_8_2, if_neg c_12_3, if_pos c_17_4, if_pos c_90_5]), rfl, kk_h2_, ff_h2_⟩
        · refine ab_aload_n de_M_cheat_20 0 rfl ?_
          refine ab_bipush (v := -6) de_M_cheat_21 rfl ?_
          refine ab_cV (as := [.int (-6 : Int32)]) (st := []) (ct_M_no l _ nr h g rr (r := (-6 : Int32)) (k := 6) (by decide) (by decide)) mo_M_no mi_M_no ml_M_94 rfl (by decide) rfl rfl rfl (Nat.le_of_ble_eq_true rfl) de_M_cheat_23 (fun v_ M_ hK_ hl_ hv_ => ?_)
          obtain ⟨rfl, hm_⟩ := hK_
          have hm_ := hm_.symm
          subst hm_
          change ab_G _ _ _ _ _ _ _ [(0, .ref 30), (1, .int (nI xn)), (2, .int y)] [.int (-6 : Int32)] (ab_S nr (ab_u2 h 31 6 (h 31 6 + 1)) g rr) _
          exact ab_ret (v := some (.int (-6 : Int32))) de_M_cheat_26 ⟨_, rfl⟩ ⟨_, _, (by unfold fx_M_cheat; try simp only [ab_tn (show xn < 2 ^ 31 by omega)]; rw [if_neg c_2_1, if_neg c_8_2, if_neg c_12_3, if_neg c_17_4]), rfl, (md_K_31 kk_h _ _), (md_kr_31 ff_h _)⟩
def fx_M_judge (h : Nat → Nat → Int32) (T : Nat → Nat → Nat) (Z : sp_G) (x y : Int32) : Option Value × (Nat → Nat → Int32) :=
  if (ab_bz (decide (0 ≤ x ∧ x < nI (gN Z)))) = 0 then
    (some (.int (-11 : Int32)), (ab_u2 h 31 1 (h 31 1 + 1)))
  else
    if (ab_bz (sp_cd y)) = 0 then
      (some (.int (-11 : Int32)), (ab_u2 h 31 1 (h 31 1 + 1)))
    else
      (some (.int (sp_fl T y.toNatClampNeg Z x.toNatClampNeg)), h)
set_option maxHeartbeats 1000000 in
set_option maxRecDepth 10000 in
theorem ct_M_judge (l : Launch) (d : Nat) (nr : Nat) (h : Nat → Nat → Int32) (g : Nat → Nat → Int64) (rr : Nat → Option Nat) {T : Nat → Nat → Nat} (hTM : bo_T T h 32) (hO : sp_ok T) {Z : sp_G} (hZ : gm_ok Z) (hG : md_G Z h) (hK : md_K T Z h) (x y : Int32) : ab_C l am_M_judge (d + 6) 0 0 [.ref 30, .int x, .int y] (ab_S nr h g rr) (fun r_ M' => ∃ X h', (r_, X) = fx_M_judge h T Z x y ∧ M' = ab_S nr h' g rr ∧ md_K T Z h' ∧ md_kr X h') := by
  have h6_ := hZ.1
  have ff_h := md_kr_rf h
  have kk_h := hK
  refine ab_C_of (by decide +kernel) rfl (Nat.le_of_ble_eq_true rfl) ?_
  refine ab_aload_n de_M_judge_0 0 rfl ?_
  refine ab_iload_n de_M_judge_1 1 rfl ?_
  refine ab_cV (as := [.int x]) (st := []) (ct_M_isGame l _ nr h g rr hG.1 x) mo_M_isGame mi_M_isGame ml_M_236 rfl (by decide) rfl rfl rfl (Nat.le_of_ble_eq_true rfl) de_M_judge_2 (fun v_ M_ hK_ hl_ hv_ => ?_)
  obtain ⟨rfl, hm_⟩ := hK_
  have hm_ := hm_.symm
  subst hm_
  change ab_G _ _ _ _ _ _ _ [(0, .ref 30), (1, .int x), (2, .int y)] [.int (ab_bz (decide (0 ≤ x ∧ x < nI (gN Z))))] (ab_S nr h g rr) _
  refine ab_if_eq (tgt := 25) de_M_judge_5 rfl (fun c_5_1 => ?_) (fun c_5_1 => ?_)
  · refine ab_aload_n de_M_judge_25 0 rfl ?_
    refine ab_iconst (v := -1) de_M_judge_26 rfl ?_
    refine ab_cV (as := [.int (-1 : Int32)]) (st := []) (ct_M_noTen l _ nr h g rr (r := (-1 : Int32)) (k := 1) (by decide) (by decide)) mo_M_noTen mi_M_noTen ml_M_222 rfl (by decide) rfl rfl rfl (Nat.le_of_ble_eq_true rfl) de_M_judge_27 (fun v_ M_ hK_ hl_ hv_ => ?_)
    obtain ⟨rfl, hm_⟩ := hK_
    have hm_ := hm_.symm
    subst hm_
    change ab_G _ _ _ _ _ _ _ [(0, .ref 30), (1, .int x), (2, .int y)] [.int (-11 : Int32)] (ab_S nr (ab_u2 h 31 1 (h 31 1 + 1)) g rr) _
    exact ab_ret (v := some (.int (-11 : Int32))) de_M_judge_30 ⟨_, rfl⟩ ⟨_, _, (by unfold fx_M_judge; rw [if_pos c_5_1]), rfl, (md_K_31 kk_h _ _), (md_kr_31 ff_h _)⟩
  · obtain ⟨xn, hxn, rfl⟩ := sp_ra_n (by omega) c_5_1
    refine ab_aload_n de_M_judge_8 0 rfl ?_
    refine ab_iload_n de_M_judge_9 2 rfl ?_
    refine ab_cV (as := [.int y]) (st := []) (ct_M_isCode l _ (ab_S nr h g rr) (y)) mo_M_isCode mi_M_isCode ml_M_168 rfl (by decide) rfl rfl rfl (Nat.le_of_ble_eq_true rfl) de_M_judge_10 (fun v_ M_ hK_ hl_ hv_ => ?_)
    obtain ⟨rfl, hm_⟩ := hK_
    have hm_ := hm_.symm
    subst hm_
    change ab_G _ _ _ _ _ _ _ [(0, .ref 30), (1, .int (nI xn)), (2, .int y)] [.int (ab_bz (sp_cd y))] (ab_S nr h g rr) _
    refine ab_if_eq (tgt := 25) de_M_judge_13 rfl (fun c_13_2 => ?_) (fun c_13_2 => ?_)
    · refine ab_aload_n de_M_judge_25 0 rfl ?_
      refine ab_iconst (v := -1) de_M_judge_26 rfl ?_
      refine ab_cV (as := [.int (-1 : Int32)]) (st := []) (ct_M_noTen l _ nr h g rr (r := (-1 : Int32)) (k := 1) (by decide) (by decide)) mo_M_noTen mi_M_noTen ml_M_222 rfl (by decide) rfl rfl rfl (Nat.le_of_ble_eq_true rfl) de_M_judge_27 (fun v_ M_ hK_ hl_ hv_ => ?_)
      obtain ⟨rfl, hm_⟩ := hK_
      have hm_ := hm_.symm
      subst hm_
      change ab_G _ _ _ _ _ _ _ [(0, .ref 30), (1, .int (nI xn)), (2, .int y)] [.int (-11 : Int32)] (ab_S nr (ab_u2 h 31 1 (h 31 1 + 1)) g rr) _
      exact ab_ret (v := some (.int (-11 : Int32))) de_M_judge_30 ⟨_, rfl⟩ ⟨_, _, (by unfold fx_M_judge; try simp only [ab_tn (show xn < 2 ^ 31 by omega)]; rw [if_neg c_5_1, if_pos c_13_2]), rfl, (md_K_31 kk_h _ _), (md_kr_31 ff_h _)⟩
    · obtain ⟨yn, hyn, rfl⟩ := sp_cd_n c_13_2
      refine ab_aload_n de_M_judge_16 0 rfl ?_
      refine ab_iload_n de_M_judge_17 1 rfl ?_
      refine ab_iload_n de_M_judge_18 2 rfl ?_
      refine ab_cV (as := [.int (nI xn), .int (nI yn)]) (st := []) (ct_M_failsAt l _ nr h g rr hTM hO (c := yn) (by omega) hZ hG (y := xn) (by omega)) mo_M_failsAt mi_M_failsAt ml_M_255 rfl (by decide) rfl rfl rfl (Nat.le_of_ble_eq_true rfl) de_M_judge_19 (fun v_ M_ hK_ hl_ hv_ => ?_)
      obtain ⟨rfl, h1_, rfl, s1_⟩ := hK_
      change ab_G _ _ _ _ _ _ _ [(0, .ref 30), (1, .int (nI xn)), (2, .int (nI yn))] [.int (sp_fl T yn Z xn)] (ab_S nr h1_ g rr) _
      have ff_h1_ := md_kr_sc s1_
      have kk_h1_ := md_K_sc s1_ hK
      refine ab_goto (tgt := 30) de_M_judge_22 rfl ?_
      exact ab_ret (v := some (.int (sp_fl T yn Z xn))) de_M_judge_30 ⟨_, rfl⟩ ⟨_, _, (by unfold fx_M_judge; try simp only [ab_tn (show xn < 2 ^ 31 by omega), ab_tn (show yn < 2 ^ 31 by omega)]; rw [if_neg c_5_1, if_neg c_13_2]), rfl, kk_h1_, ff_h1_⟩
def fx_M_wide (h : Nat → Nat → Int32) (T : Nat → Nat → Nat) (Z : sp_G) (x : Int32) : Option Value × (Nat → Nat → Int32) :=
  if (ab_bz (sp_cd x)) = 0 then
    (some (.int (-1 : Int32)), (ab_u2 h 31 1 (h 31 1 + 1)))
  else
    (some (.int (nI (sp_wd T x.toNatClampNeg Z))), h)
set_option maxHeartbeats 1000000 in
set_option maxRecDepth 10000 in
theorem ct_M_wide (l : Launch) (d : Nat) (nr : Nat) (h : Nat → Nat → Int32) (g : Nat → Nat → Int64) (rr : Nat → Option Nat) {T : Nat → Nat → Nat} (hTM : bo_T T h 32) (hO : sp_ok T) {Z : sp_G} (hZ : gm_ok Z) (hG : md_G Z h) (hK : md_K T Z h) (x : Int32) : ab_C l am_M_wide (d + 6) 0 0 [.ref 30, .int x] (ab_S nr h g rr) (fun r_ M' => ∃ X h', (r_, X) = fx_M_wide h T Z x ∧ M' = ab_S nr h' g rr ∧ md_K T Z h' ∧ md_kr X h') := by
  have h6_ := hZ.1
  have ff_h := md_kr_rf h
  have kk_h := hK
  refine ab_C_of (by decide +kernel) rfl (Nat.le_of_ble_eq_true rfl) ?_
  refine ab_aload_n de_M_wide_0 0 rfl ?_
  refine ab_iload_n de_M_wide_1 1 rfl ?_
  refine ab_cV (as := [.int x]) (st := []) (ct_M_isCode l _ (ab_S nr h g rr) (x)) mo_M_isCode mi_M_isCode ml_M_168 rfl (by decide) rfl rfl rfl (Nat.le_of_ble_eq_true rfl) de_M_wide_2 (fun v_ M_ hK_ hl_ hv_ => ?_)
  obtain ⟨rfl, hm_⟩ := hK_
  have hm_ := hm_.symm
  subst hm_
  change ab_G _ _ _ _ _ _ _ [(0, .ref 30), (1, .int x)] [.int (ab_bz (sp_cd x))] (ab_S nr h g rr) _
  refine ab_if_eq (tgt := 16) de_M_wide_5 rfl (fun c_5_1 => ?_) (fun c_5_1 => ?_)
  · refine ab_aload_n de_M_wide_16 0 rfl ?_
    refine ab_iconst (v := -1) de_M_wide_17 rfl ?_
    refine ab_cV (as := [.int (-1 : Int32)]) (st := []) (ct_M_no l _ nr h g rr (r := (-1 : Int32)) (k := 1) (by decide) (by decide)) mo_M_no mi_M_no ml_M_94 rfl (by decide) rfl rfl rfl (Nat.le_of_ble_eq_true rfl) de_M_wide_18 (fun v_ M_ hK_ hl_ hv_ => ?_)
    obtain ⟨rfl, hm_⟩ := hK_
    have hm_ := hm_.symm
    subst hm_
    change ab_G _ _ _ _ _ _ _ [(0, .ref 30), (1, .int x)] [.int (-1 : Int32)] (ab_S nr (ab_u2 h 31 1 (h 31 1 + 1)) g rr) _
    exact ab_ret (v := some (.int (-1 : Int32))) de_M_wide_21 ⟨_, rfl⟩ ⟨_, _, (by unfold fx_M_wide; rw [if_pos c_5_1]), rfl, (md_K_31 kk_h _ _), (md_kr_31 ff_h _)⟩
  · obtain ⟨xn, hxn, rfl⟩ := sp_cd_n c_5_1
    refine ab_aload_n de_M_wide_8 0 rfl ?_
    refine ab_iload_n de_M_wide_9 1 rfl ?_
    refine ab_cV (as := [.int (nI xn)]) (st := []) (ct_M_wideOf l _ nr h g rr hTM hO (c := xn) (by omega) hZ hG) mo_M_wideOf mi_M_wideOf ml_M_272 rfl (by decide) rfl rfl rfl (Nat.le_of_ble_eq_true rfl) de_M_wide_10 (fun v_ M_ hK_ hl_ hv_ => ?_)
    obtain ⟨rfl, h1_, rfl, s1_⟩ := hK_
    change ab_G _ _ _ _ _ _ _ [(0, .ref 30), (1, .int (nI xn))] [.int (nI (sp_wd T xn Z))] (ab_S nr h1_ g rr) _
    have ff_h1_ := md_kr_sc s1_
    have kk_h1_ := md_K_sc s1_ hK
    refine ab_goto (tgt := 21) de_M_wide_13 rfl ?_
    exact ab_ret (v := some (.int (nI (sp_wd T xn Z)))) de_M_wide_21 ⟨_, rfl⟩ ⟨_, _, (by unfold fx_M_wide; try simp only [ab_tn (show xn < 2 ^ 31 by omega)]; rw [if_neg c_5_1]), rfl, kk_h1_, ff_h1_⟩
