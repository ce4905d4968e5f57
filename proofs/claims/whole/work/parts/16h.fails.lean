/-! the reference: where a GAME FAILS; how WIDE a CODE is -/
theorem md_hal {T : Nat → Nat → Nat} {c m i x : Nat} (hx : sp_mv x) (h : md_hw T c m i x = 0) : sp_al T (sp_lv T c m i) m i x = false := by rw [md_al hx, h]; rfl
theorem md_hal1 {T : Nat → Nat → Nat} {c m i x : Nat} (hx : sp_mv x) (h : ¬ md_hw T c m i x = 0) : sp_al T (sp_lv T c m i) m i x = true := by rw [md_al hx, decide_eq_false h]; rfl
set_option maxHeartbeats 1000000 in
set_option maxRecDepth 10000 in
theorem lp_M_failsAt (l : Launch) (d : Nat) (nr : Nat) (h : Nat → Nat → Int32) (g : Nat → Nat → Int64) (rr : Nat → Option Nat) {T : Nat → Nat → Nat} (hTM : bo_T T h 32) (hO : sp_ok T) {c : Nat} (hc : c < 4096) {Z : sp_G} (hZ : gm_ok Z) (hG : md_G Z h) {y : Nat} (hy : y < gN Z) : ∀ (fu_ k : Nat) (hh : Nat → Nat → Int32), k ≤ (gL Z y) → (gL Z y) < k + fu_ → md_sc h hh → hh 30 27 = nI (sp_sg T c Z y k).1 → hh 30 28 = nI (sp_sg T c Z y k).2 → (∀ j, j < k → sp_alk T c Z y j = true) → ab_G l none am_M_failsAt (d + 5) 0 0 7 [(0, .ref 30), (1, .int (nI y)), (2, .int (nI c)), (3, .int (nI k))] [] (ab_S nr hh g rr) (fun (r_ : Option Value) (M' : ab_Me) => r_ = some (.int (sp_fl T c Z y)) ∧ ∃ h', M' = ab_S nr h' g rr ∧ md_sc h h') := by
  intro fu_
  induction fu_ with
  | zero => intro k hh h1 h2; omega
  | succ fu_ ih =>
    intro k hh hN_ hn_ hf0 hf1 hf2 hf3
    obtain ⟨sm_, si_, sd_⟩ := sp_sg_ok (T := T) (c := c) hZ hy k (by omega)
    have hTh := md_T_sc hf0 hTM
    have hGh := md_G_sc hf0 hG
    have y6_ := hZ.1
    have l20_ := (hZ.2 y hy).2.2.2.1
    refine ab_iload_n de_M_failsAt_7 3 rfl ?_
    refine ab_aload_n de_M_failsAt_8 0 rfl ?_
    refine ab_get (v := .ref 36) fl_M_29 rfl rfl de_M_failsAt_9 ?_
    refine ab_iload_n de_M_failsAt_12 1 rfl ?_
    refine ab_iald (v := hh 36 y) rfl (ab_in (by omega) (by decide)) (ab_hv (ab_tn (n := y) (by omega))) de_M_failsAt_13 ?_
    refine ab_top (v' := nI (gL Z y)) ((hGh.2 y hy).2.1) ?_
    refine ab_icmp_ge (tgt := 79) de_M_failsAt_14 rfl (fun c_14_1 => ?_) (fun c_14_1 => ?_)
    · have hk := (ab_le (by omega) (by omega)).mp c_14_1
      refine ab_aload_n de_M_failsAt_79 0 rfl ?_
      refine ab_iload_n de_M_failsAt_80 1 rfl ?_
      refine ab_iload_n de_M_failsAt_81 2 rfl ?_
      refine ab_cV (as := [.int (nI y), .int (nI c)]) (st := []) (ct_M_isOut l _ nr hh g rr hTh hO hc sm_ si_ hZ hGh hy hf1 hf2) mo_M_isOut mi_M_isOut ml_M_252 rfl (by decide) rfl rfl rfl (Nat.le_of_ble_eq_true rfl) de_M_failsAt_82 (fun v_ M_ hK_ hl_ hv_ => ?_)
      obtain ⟨rfl, hm_⟩ := hK_
      have hm_ := hm_.symm
      subst hm_
      change ab_G _ _ _ _ _ _ _ [(0, .ref 30), (1, .int (nI y)), (2, .int (nI c)), (3, .int (nI k))] [.int (ab_bz (decide (sp_wn T c (sp_sg T c Z y k).1 (sp_sg T c Z y k).2 (gL Z y % 2) = gO Z y)))] (ab_S nr hh g rr) _
      refine ab_if_eq (tgt := 92) de_M_failsAt_85 rfl (fun c_85_2 => ?_) (fun c_85_2 => ?_)
      · refine ab_aload_n de_M_failsAt_92 0 rfl ?_
        refine ab_get (v := .ref 36) fl_M_29 rfl rfl de_M_failsAt_93 ?_
        refine ab_iload_n de_M_failsAt_96 1 rfl ?_
        refine ab_iald (v := hh 36 y) rfl (ab_in (by omega) (by decide)) (ab_hv (ab_tn (n := y) (by omega))) de_M_failsAt_97 ?_
        refine ab_top (v' := nI (gL Z y)) ((hGh.2 y hy).2.1) ?_
        exact ab_ret (v := some (.int (nI (gL Z y)))) de_M_failsAt_98 ⟨_, rfl⟩ (by
    have k_ : k = gL Z y := by omega
    subst k_
    have f_ := sp_ft_no (f := fun k => !sp_alk T c Z y k) (gL Z y) (fun j hj => by rw [hf3 j hj]; rfl)
    exact ⟨congrArg (fun z => some (Value.int z)) (by unfold sp_fl; rw [f_, if_neg (Nat.lt_irrefl _)]; unfold sp_wng; rw [if_neg (of_decide_eq_false ((ab_bz0 _).mp c_85_2))]), _, rfl, hf0⟩)
      · refine ab_iconst (v := -1) de_M_failsAt_88 rfl ?_
        refine ab_goto (tgt := 98) de_M_failsAt_89 rfl ?_
        exact ab_ret (v := some (.int (-1 : Int32))) de_M_failsAt_98 ⟨_, rfl⟩ (by
    have k_ : k = gL Z y := by omega
    subst k_
    have f_ := sp_ft_no (f := fun k => !sp_alk T c Z y k) (gL Z y) (fun j hj => by rw [hf3 j hj]; rfl)
    exact ⟨congrArg (fun z => some (Value.int z)) (by unfold sp_fl; rw [f_, if_neg (Nat.lt_irrefl _)]; unfold sp_wng; rw [if_pos (of_decide_eq_true ((ab_bz1 _).mp c_85_2))]), _, rfl, hf0⟩)
    · have hk := Nat.lt_of_not_le (fun z_ => c_14_1 ((ab_le (by omega) (by omega)).mpr z_))
      have sx_ := (hZ.2 y hy).2.2.2.2.1 k hk
      have mx_ := sx_.1
      refine ab_aload_n de_M_failsAt_17 0 rfl ?_
      refine ab_get (v := .ref 35) fl_M_26 rfl rfl de_M_failsAt_18 ?_
      refine ab_bipush (v := 20) de_M_failsAt_21 rfl ?_
      refine ab_iload_n de_M_failsAt_23 1 rfl ?_
      refine ab_imul de_M_failsAt_24 ?_
      refine ab_top (v' := nI (20 * y)) (ab_mul _ _) ?_
      refine ab_iload_n de_M_failsAt_25 3 rfl ?_
      refine ab_iadd de_M_failsAt_26 ?_
      refine ab_top (v' := nI ((20 * y) + k)) (ab_add _ _) ?_
      refine ab_iald (v := hh 35 ((20 * y) + k)) rfl (ab_in (by omega) (by decide)) (ab_hv (ab_tn (n := ((20 * y) + k)) (by omega))) de_M_failsAt_27 ?_
      refine ab_top (v' := nI (gV Z y k)) ((hGh.2 y hy).2.2.2 k hk) ?_
      refine ab_istore (L' := [(4, .int (nI (gV Z y k))), (0, .ref 30), (1, .int (nI y)), (2, .int (nI c)), (3, .int (nI k))]) de_M_failsAt_28 (by decide) rfl ?_
      refine ab_aload_n de_M_failsAt_30 1 rfl ?_
      refine ab_iload_n de_M_failsAt_31 3 rfl ?_
      refine ab_iload de_M_failsAt_32 0 rfl ?_
      refine ab_aload_n de_M_failsAt_34 1 rfl ?_
      refine ab_get (v := .int (hh 30 27)) fl_M_239 rfl rfl de_M_failsAt_35 ?_
      refine ab_top (v' := nI (sp_sg T c Z y k).1) (hf1) ?_
      refine ab_aload_n de_M_failsAt_38 1 rfl ?_
      refine ab_get (v := .int (hh 30 28)) fl_M_242 rfl rfl de_M_failsAt_39 ?_
      refine ab_top (v' := nI (sp_sg T c Z y k).2) (hf2) ?_
      refine ab_cV (as := [.int (nI c), .int (nI (gV Z y k)), .int (nI (sp_sg T c Z y k).1), .int (nI (sp_sg T c Z y k).2)]) (st := []) (ct_M_lawful l _ nr hh g rr hTh hO hc sm_ si_ (x := (gV Z y k)) sx_) mo_M_lawful mi_M_lawful ml_M_204 rfl (by decide) rfl rfl rfl (Nat.le_of_ble_eq_true rfl) de_M_failsAt_42 (fun v_ M_ hK_ hl_ hv_ => ?_)
      obtain ⟨rfl, hm_⟩ := hK_
      have hm_ := hm_.symm
      subst hm_
      change ab_G _ _ _ _ _ _ _ [(4, .int (nI (gV Z y k))), (0, .ref 30), (1, .int (nI y)), (2, .int (nI c)), (3, .int (nI k))] [.int (nI (md_hw T c ((sp_sg T c Z y k).1) ((sp_sg T c Z y k).2) (gV Z y k)))] (ab_S nr hh g rr) _
      refine ab_if_eq (tgt := 64) de_M_failsAt_45 rfl (fun c_45_3 => ?_) (fun c_45_3 => ?_)
      · refine ab_iload_n de_M_failsAt_64 4 rfl ?_
        exact ab_ret (v := some (.int (nI k))) de_M_failsAt_65 ⟨_, rfl⟩ (by
    have z_ : sp_alk T c Z y k = false := md_hal sx_ ((ab_inj (b := 0) (by have := md_hw_lt T c (sp_sg T c Z y k).1 (sp_sg T c Z y k).2 (gV Z y k); omega) (by decide)).mp c_45_3)
    have f_ := sp_ft_at (f := fun k => !sp_alk T c Z y k) (k := k) (by rw [z_]; rfl) (fun j hj => by rw [hf3 j hj]; rfl) (gL Z y) hk
    exact ⟨congrArg (fun z => some (Value.int z)) (by unfold sp_fl; rw [f_, if_pos hk]), _, rfl, hf0⟩)
      · refine ab_aload_n de_M_failsAt_48 1 rfl ?_
        refine ab_iload_n de_M_failsAt_49 3 rfl ?_
        refine ab_aload_n de_M_failsAt_50 1 rfl ?_
        refine ab_get (v := .int (hh 30 27)) fl_M_239 rfl rfl de_M_failsAt_51 ?_
        refine ab_top (v' := nI (sp_sg T c Z y k).1) (hf1) ?_
        refine ab_aload_n de_M_failsAt_54 1 rfl ?_
        refine ab_get (v := .int (hh 30 28)) fl_M_242 rfl rfl de_M_failsAt_55 ?_
        refine ab_top (v' := nI (sp_sg T c Z y k).2) (hf2) ?_
        refine ab_cV (as := [.int (nI c), .int (nI (sp_sg T c Z y k).1), .int (nI (sp_sg T c Z y k).2)]) (st := []) (ct_M_isOver l _ nr hh g rr hTh hO hc sm_ si_) mo_M_isOver mi_M_isOver ml_M_225 rfl (by decide) rfl rfl rfl (Nat.le_of_ble_eq_true rfl) de_M_failsAt_58 (fun v_ M_ hK_ hl_ hv_ => ?_)
        obtain ⟨rfl, hm_⟩ := hK_
        have hm_ := hm_.symm
        subst hm_
        change ab_G _ _ _ _ _ _ _ [(4, .int (nI (gV Z y k))), (0, .ref 30), (1, .int (nI y)), (2, .int (nI c)), (3, .int (nI k))] [.int (ab_bz (sp_ov T c ((sp_sg T c Z y k).1) ((sp_sg T c Z y k).2)))] (ab_S nr hh g rr) _
        refine ab_if_eq (tgt := 66) de_M_failsAt_61 rfl (fun c_61_4 => ?_) (fun c_61_4 => ?_)
        · refine ab_aload_n de_M_failsAt_66 1 rfl ?_
          refine ab_iload_n de_M_failsAt_67 3 rfl ?_
          refine ab_iload de_M_failsAt_68 0 rfl ?_
          refine ab_cV (as := [.int (nI c), .int (nI (gV Z y k))]) (st := []) (ct_M_steps l _ nr hh g rr hTh hO hc sm_ si_ (x := (gV Z y k)) sx_ sd_ hf1 hf2) mo_M_steps mi_M_steps ml_M_249 rfl (by decide) rfl rfl rfl (Nat.le_of_ble_eq_true rfl) de_M_failsAt_70 (fun v_ M_ hK_ hl_ hv_ => ?_)
          obtain ⟨rfl, h1_, rfl, s1_, s2_, s3_⟩ := hK_
          change ab_G _ _ _ _ _ _ _ [(4, .int (nI (gV Z y k))), (0, .ref 30), (1, .int (nI y)), (2, .int (nI c)), (3, .int (nI k))] [] (ab_S nr h1_ g rr) _
          refine ab_iinc (v := nI (k + 1)) (L' := [(3, .int (nI (k + 1))), (4, .int (nI (gV Z y k))), (0, .ref 30), (1, .int (nI y)), (2, .int (nI c))]) de_M_failsAt_73 4 rfl (by rw [show Int32.ofInt 1 = nI 1 from rfl, ab_add]) (by decide) rfl ?_
          refine ab_goto (tgt := 7) de_M_failsAt_76 rfl ?_
          refine ab_sub (L' := [(0, .ref 30), (1, .int (nI y)), (2, .int (nI c)), (3, .int (nI (k + 1)))]) [2, 3, 4, 0] rfl ?_
          exact ih (k + 1) h1_ (by omega) (by omega) (md_sc_tr hf0 s1_) (s2_) (s3_) (fun j hj => by
            by_cases e_ : j = k
            · rw [e_]; exact md_hal1 sx_ (fun z => c_45_3 (by rw [z]; rfl))
            · exact hf3 j (by omega))
        · refine ab_iload_n de_M_failsAt_64 4 rfl ?_
          exact ab_ret (v := some (.int (nI k))) de_M_failsAt_65 ⟨_, rfl⟩ (by
    exfalso
    have z_ := md_al_ov hO sm_ sx_.2.1 (md_hal1 sx_ (fun z => c_45_3 (by rw [z]; rfl)))
    exact c_61_4 (by rw [z_]; rfl))
set_option maxHeartbeats 1000000 in
set_option maxRecDepth 10000 in
theorem ct_M_failsAt (l : Launch) (d : Nat) (nr : Nat) (h : Nat → Nat → Int32) (g : Nat → Nat → Int64) (rr : Nat → Option Nat) {T : Nat → Nat → Nat} (hTM : bo_T T h 32) (hO : sp_ok T) {c : Nat} (hc : c < 4096) {Z : sp_G} (hZ : gm_ok Z) (hG : md_G Z h) {y : Nat} (hy : y < gN Z) : ab_C l am_M_failsAt (d + 5) 0 0 [.ref 30, .int (nI y), .int (nI c)] (ab_S nr h g rr) (fun (r_ : Option Value) (M' : ab_Me) => r_ = some (.int (sp_fl T c Z y)) ∧ ∃ h', M' = ab_S nr h' g rr ∧ md_sc h h') := by
  refine ab_C_of (by decide +kernel) rfl (Nat.le_of_ble_eq_true rfl) ?_
  refine ab_aload_n de_M_failsAt_0 0 rfl ?_
  refine ab_iload_n de_M_failsAt_1 1 rfl ?_
  refine ab_cV (as := [.int (nI y)]) (st := []) (ct_M_begins l _ nr h g rr hZ hG (y := y) hy) mo_M_begins mi_M_begins ml_M_245 rfl (by decide) rfl rfl rfl (Nat.le_of_ble_eq_true rfl) de_M_failsAt_2 (fun v_ M_ hK_ hl_ hv_ => ?_)
  obtain ⟨rfl, hm_⟩ := hK_
  have hm_ := hm_.symm
  subst hm_
  change ab_G _ _ _ _ _ _ _ [(0, .ref 30), (1, .int (nI y)), (2, .int (nI c))] [] (ab_S nr (md_gp h (gA Z y) (gB Z y)) g rr) _
  refine ab_iconst (v := 0) de_M_failsAt_5 rfl ?_
  refine ab_istore_n (L' := [(3, .int (0 : Int32)), (0, .ref 30), (1, .int (nI y)), (2, .int (nI c))]) de_M_failsAt_6 (by decide) rfl ?_
  refine ab_sub (L' := [(0, .ref 30), (1, .int (nI y)), (2, .int (nI c)), (3, .int (nI 0))]) [1, 2, 3, 0] rfl ?_
  exact lp_M_failsAt l d nr h g rr hTM hO hc hZ hG hy (gL Z y + 1) 0 (md_gp h (gA Z y) (gB Z y)) (by omega) (by omega) (md_gp_sc h _ _) rfl rfl (fun j hj => absurd hj (Nat.not_lt_zero j))
