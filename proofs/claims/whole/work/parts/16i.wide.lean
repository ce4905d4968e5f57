/-! the reference: how WIDE a CODE is; which fit; where two part -/
theorem md_r12_s (f : Nat → Bool) (g : Nat → Nat) (n q : Nat) : (sp_r12 f g (n + 1) q).length = (f q).toNat + (sp_r12 f g n (q + 1)).length := by
  rw [sp_r12]
  cases f q with
  | false => rw [if_neg (by decide)]; exact (Nat.zero_add _).symm
  | true => rw [if_pos rfl, List.length_cons, Nat.add_comm]; rfl
theorem md_r12_cn (g : Nat → Nat) (x : Nat) : (sp_r12 (fun q => x.testBit q) g 12 0).length = sp_cn x := by
  rw [show sp_cn x = ((((((((((((0 + (x.testBit 0).toNat) + (x.testBit 1).toNat) + (x.testBit 2).toNat) + (x.testBit 3).toNat) + (x.testBit 4).toNat) + (x.testBit 5).toNat) + (x.testBit 6).toNat) + (x.testBit 7).toNat) + (x.testBit 8).toNat) + (x.testBit 9).toNat) + (x.testBit 10).toNat) + (x.testBit 11).toNat) from rfl]
  iterate 12 rw [md_r12_s]
  simp only [Nat.reduceAdd]
  rw [show ∀ q, (sp_r12 (fun q => x.testBit q) g 0 q).length = 0 from fun _ => rfl]
  omega
theorem md_mp_cn (T : Nat → Nat → Nat) (v m i p : Nat) : (sp_mp T v m i p).length = sp_cn (sp_tg T v m i p) := md_r12_cn _ _
theorem md_ml_len (T : Nat → Nat → Nat) (v m i : Nat) : (sp_ml T v m i).length = sp_sum (fun p => sp_cn (sp_tg T v m i p)) 16 := by
  rw [show sp_ml T v m i = (sp_mp T v m i 0 ++ (sp_mp T v m i 1 ++ (sp_mp T v m i 2 ++ (sp_mp T v m i 3 ++ (sp_mp T v m i 4 ++ (sp_mp T v m i 5 ++ (sp_mp T v m i 6 ++ (sp_mp T v m i 7 ++ (sp_mp T v m i 8 ++ (sp_mp T v m i 9 ++ (sp_mp T v m i 10 ++ (sp_mp T v m i 11 ++ (sp_mp T v m i 12 ++ (sp_mp T v m i 13 ++ (sp_mp T v m i 14 ++ (sp_mp T v m i 15 ++ [])))))))))))))))) from rfl, show sp_sum (fun p => sp_cn (sp_tg T v m i p)) 16 = ((((((((((((((((0 + sp_cn (sp_tg T v m i 0)) + sp_cn (sp_tg T v m i 1)) + sp_cn (sp_tg T v m i 2)) + sp_cn (sp_tg T v m i 3)) + sp_cn (sp_tg T v m i 4)) + sp_cn (sp_tg T v m i 5)) + sp_cn (sp_tg T v m i 6)) + sp_cn (sp_tg T v m i 7)) + sp_cn (sp_tg T v m i 8)) + sp_cn (sp_tg T v m i 9)) + sp_cn (sp_tg T v m i 10)) + sp_cn (sp_tg T v m i 11)) + sp_cn (sp_tg T v m i 12)) + sp_cn (sp_tg T v m i 13)) + sp_cn (sp_tg T v m i 14)) + sp_cn (sp_tg T v m i 15)) from rfl]
  simp only [List.length_append, List.length_nil, md_mp_cn]
  omega
set_option maxHeartbeats 1000000 in
set_option maxRecDepth 10000 in
theorem lp_M_wideOf_k (l : Launch) (d : Nat) (nr : Nat) (h : Nat → Nat → Int32) (g : Nat → Nat → Int64) (rr : Nat → Option Nat) {T : Nat → Nat → Nat} (hTM : bo_T T h 32) (hO : sp_ok T) {c : Nat} (hc : c < 4096) {Z : sp_G} (hZ : gm_ok Z) (hG : md_G Z h) {y : Nat} (hy : y < gN Z) {s : Nat} {K : Option Value → ab_Me → Prop} (kx : ∀ (hh : Nat → Nat → Int32), md_sc h hh → ab_G l none am_M_wideOf (d + 5) 0 0 71 [(0, .ref 30), (1, .int (nI c)), (2, .int (nI (s + sp_sum (sp_wk T c Z y) (gL Z y)))), (3, .int (nI y))] [] (ab_S nr hh g rr) (K)) : ∀ (fu_ k : Nat) (hh : Nat → Nat → Int32), k ≤ (gL Z y) → (gL Z y) < k + fu_ → md_sc h hh → hh 30 27 = nI (sp_sg T c Z y k).1 → hh 30 28 = nI (sp_sg T c Z y k).2 → ab_G l none am_M_wideOf (d + 5) 0 0 20 [(0, .ref 30), (1, .int (nI c)), (2, .int (nI (s + sp_sum (sp_wk T c Z y) k))), (3, .int (nI y)), (4, .int (nI k))] [] (ab_S nr hh g rr) (K) := by
  intro fu_
  induction fu_ with
  | zero => intro k hh h1 h2; omega
  | succ fu_ ih =>
    intro k hh hN_ hn_ hf0 hf1 hf2
    obtain ⟨sm_, si_, sd_⟩ := sp_sg_ok (T := T) (c := c) hZ hy k (by omega)
    have hTh := md_T_sc hf0 hTM
    have hGh := md_G_sc hf0 hG
    have y6_ := hZ.1
    have l20_ := (hZ.2 y hy).2.2.2.1
    refine ab_iload de_M_wideOf_20 4 rfl ?_
    refine ab_aload_n de_M_wideOf_22 0 rfl ?_
    refine ab_get (v := .ref 36) fl_M_29 rfl rfl de_M_wideOf_23 ?_
    refine ab_iload_n de_M_wideOf_26 3 rfl ?_
    refine ab_iald (v := hh 36 y) rfl (ab_in (by omega) (by decide)) (ab_hv (ab_tn (n := y) (by omega))) de_M_wideOf_27 ?_
    refine ab_top (v' := nI (gL Z y)) ((hGh.2 y hy).2.1) ?_
    refine ab_icmp_ge (tgt := 71) de_M_wideOf_28 rfl (fun c_28_1 => ?_) (fun c_28_1 => ?_)
    · have hk := (ab_le (by omega) (by omega)).mp c_28_1
      refine ab_sub (L' := [(0, .ref 30), (1, .int (nI c)), (2, .int (nI (s + sp_sum (sp_wk T c Z y) k))), (3, .int (nI y))]) [0, 1, 2, 3] rfl ?_
      have k_ : k = gL Z y := by omega
      subst k_
      exact kx hh hf0
    · have hk := Nat.lt_of_not_le (fun z_ => c_28_1 ((ab_le (by omega) (by omega)).mpr z_))
      have sx_ := (hZ.2 y hy).2.2.2.2.1 k hk
      have mx_ := sx_.1
      refine ab_iload_n de_M_wideOf_31 2 rfl ?_
      refine ab_aload_n de_M_wideOf_32 0 rfl ?_
      refine ab_iload_n de_M_wideOf_33 1 rfl ?_
      refine ab_aload_n de_M_wideOf_34 0 rfl ?_
      refine ab_get (v := .int (hh 30 27)) fl_M_239 rfl rfl de_M_wideOf_35 ?_
      refine ab_top (v' := nI (sp_sg T c Z y k).1) (hf1) ?_
      refine ab_aload_n de_M_wideOf_38 0 rfl ?_
      refine ab_get (v := .int (hh 30 28)) fl_M_242 rfl rfl de_M_wideOf_39 ?_
      refine ab_top (v' := nI (sp_sg T c Z y k).2) (hf2) ?_
      refine ab_iconst (v := 0) de_M_wideOf_42 rfl ?_
      refine ab_cV (as := [.int (nI c), .int (nI (sp_sg T c Z y k).1), .int (nI (sp_sg T c Z y k).2), .int (0 : Int32)]) (st := [.int (nI (s + sp_sum (sp_wk T c Z y) k))]) (ct_M_lists l _ nr hh g rr hTh hO hc sm_ si_ (p0 := 0) (by omega)) mo_M_lists mi_M_lists ml_M_219 rfl (by decide) rfl rfl rfl (Nat.le_of_ble_eq_true rfl) de_M_wideOf_43 (fun v_ M_ hK_ hl_ hv_ => ?_)
      obtain ⟨rfl, h1_, rfl, s1_, s2_⟩ := hK_
      change ab_G _ _ _ _ _ _ _ [(0, .ref 30), (1, .int (nI c)), (2, .int (nI (s + sp_sum (sp_wk T c Z y) k))), (3, .int (nI y)), (4, .int (nI k))] [.int (nI (sp_ml T (sp_lv T c ((sp_sg T c Z y k).1) ((sp_sg T c Z y k).2)) ((sp_sg T c Z y k).1) ((sp_sg T c Z y k).2)).length), .int (nI (s + sp_sum (sp_wk T c Z y) k))] (ab_S nr h1_ g rr) _
      have r0_ := hf0
      have r1_ := hf1
      have r2_ := hf2
      have c1_ := md_sc_44 s1_
      have f0_ := md_sc_tr hf0 c1_
      have f1_ : h1_ 30 27 = nI (sp_sg T c Z y k).1 := (congrFun (s1_.1 30 (by decide)) 27).trans hf1
      have f2_ : h1_ 30 28 = nI (sp_sg T c Z y k).2 := (congrFun (s1_.1 30 (by decide)) 28).trans hf2
      have T1_ := md_T_sc f0_ hTM
      have G1_ := md_G_sc f0_ hG
      refine ab_iadd de_M_wideOf_46 ?_
      refine ab_top (v' := nI (s + sp_sum (sp_wk T c Z y) (k + 1))) ((ab_add _ _).trans (congrArg nI (by rw [md_ml_len, Nat.add_assoc]; rfl))) ?_
      refine ab_istore_n (L' := [(2, .int (nI (s + sp_sum (sp_wk T c Z y) (k + 1)))), (0, .ref 30), (1, .int (nI c)), (3, .int (nI y)), (4, .int (nI k))]) de_M_wideOf_47 (by decide) rfl ?_
      refine ab_aload_n de_M_wideOf_48 1 rfl ?_
      refine ab_iload_n de_M_wideOf_49 2 rfl ?_
      refine ab_aload_n de_M_wideOf_50 1 rfl ?_
      refine ab_get (v := .ref 35) fl_M_26 rfl rfl de_M_wideOf_51 ?_
      refine ab_bipush (v := 20) de_M_wideOf_54 rfl ?_
      refine ab_iload_n de_M_wideOf_56 3 rfl ?_
      refine ab_imul de_M_wideOf_57 ?_
      refine ab_top (v' := nI (20 * y)) (ab_mul _ _) ?_
      refine ab_iload de_M_wideOf_58 4 rfl ?_
      refine ab_iadd de_M_wideOf_60 ?_
      refine ab_top (v' := nI ((20 * y) + k)) (ab_add _ _) ?_
      refine ab_iald (v := h1_ 35 ((20 * y) + k)) rfl (ab_in (by omega) (by decide)) (ab_hv (ab_tn (n := ((20 * y) + k)) (by omega))) de_M_wideOf_61 ?_
      refine ab_top (v' := nI (gV Z y k)) ((G1_.2 y hy).2.2.2 k hk) ?_
      refine ab_cV (as := [.int (nI c), .int (nI (gV Z y k))]) (st := []) (ct_M_steps l _ nr h1_ g rr T1_ hO hc sm_ si_ (x := (gV Z y k)) sx_ sd_ f1_ f2_) mo_M_steps mi_M_steps ml_M_249 rfl (by decide) rfl rfl rfl (Nat.le_of_ble_eq_true rfl) de_M_wideOf_62 (fun v_ M_ hK_ hl_ hv_ => ?_)
      obtain ⟨rfl, h2_, rfl, s1_, s2_, s3_⟩ := hK_
      change ab_G _ _ _ _ _ _ _ [(2, .int (nI (s + sp_sum (sp_wk T c Z y) (k + 1)))), (0, .ref 30), (1, .int (nI c)), (3, .int (nI y)), (4, .int (nI k))] [] (ab_S nr h2_ g rr) _
      refine ab_iinc (v := nI (k + 1)) (L' := [(4, .int (nI (k + 1))), (2, .int (nI (s + sp_sum (sp_wk T c Z y) (k + 1)))), (0, .ref 30), (1, .int (nI c)), (3, .int (nI y))]) de_M_wideOf_65 4 rfl (by rw [show Int32.ofInt 1 = nI 1 from rfl, ab_add]) (by decide) rfl ?_
      refine ab_goto (tgt := 20) de_M_wideOf_68 rfl ?_
      refine ab_sub (L' := [(0, .ref 30), (1, .int (nI c)), (2, .int (nI (s + sp_sum (sp_wk T c Z y) (k + 1)))), (3, .int (nI y)), (4, .int (nI (k + 1)))]) [2, 3, 1, 4, 0] rfl ?_
      exact ih (k + 1) h2_ (by omega) (by omega) (md_sc_tr f0_ s1_) (s2_) (s3_)
set_option maxHeartbeats 1000000 in
set_option maxRecDepth 10000 in
theorem lp_M_wideOf (l : Launch) (d : Nat) (nr : Nat) (h : Nat → Nat → Int32) (g : Nat → Nat → Int64) (rr : Nat → Option Nat) {T : Nat → Nat → Nat} (hTM : bo_T T h 32) (hO : sp_ok T) {c : Nat} (hc : c < 4096) {Z : sp_G} (hZ : gm_ok Z) (hG : md_G Z h) : ∀ (fu_ y : Nat) (hh : Nat → Nat → Int32), y ≤ (gN Z) → (gN Z) < y + fu_ → md_sc h hh → ab_G l none am_M_wideOf (d + 5) 0 0 4 [(0, .ref 30), (1, .int (nI c)), (2, .int (nI (sp_sum (fun g => sp_sum (fun k => sp_wk T c Z g k) (gL Z g)) y))), (3, .int (nI y))] [] (ab_S nr hh g rr) (fun (r_ : Option Value) (M' : ab_Me) => r_ = some (.int (nI (sp_wd T c Z))) ∧ ∃ h', M' = ab_S nr h' g rr ∧ md_sc h h') := by
  intro fu_
  induction fu_ with
  | zero => intro y hh h1 h2; omega
  | succ fu_ ih =>
    intro y hh hN_ hn_ hf0
    have y6_ := hZ.1
    have hGh := md_G_sc hf0 hG
    refine ab_iload_n de_M_wideOf_4 3 rfl ?_
    refine ab_aload_n de_M_wideOf_5 0 rfl ?_
    refine ab_get (v := .int (hh 30 1)) fl_M_84 rfl rfl de_M_wideOf_6 ?_
    refine ab_top (v' := nI (gN Z)) (hGh.1) ?_
    refine ab_icmp_ge (tgt := 77) de_M_wideOf_9 rfl (fun c_9_1 => ?_) (fun c_9_1 => ?_)
    · have hy := (ab_le (by omega) (by omega)).mp c_9_1
      refine ab_iload_n de_M_wideOf_77 2 rfl ?_
      exact ab_ret (v := some (.int (nI (sp_sum (fun g => sp_sum (fun k => sp_wk T c Z g k) (gL Z g)) y)))) de_M_wideOf_78 ⟨_, rfl⟩ (by
    have k_ : y = gN Z := by omega
    subst k_
    exact ⟨rfl, _, rfl, hf0⟩)
    · have hy := Nat.lt_of_not_le (fun z_ => c_9_1 ((ab_le (by omega) (by omega)).mpr z_))
      have l20_ := (hZ.2 y hy).2.2.2.1
      refine ab_aload_n de_M_wideOf_12 0 rfl ?_
      refine ab_iload_n de_M_wideOf_13 3 rfl ?_
      refine ab_cV (as := [.int (nI y)]) (st := []) (ct_M_begins l _ nr hh g rr hZ hGh (y := y) hy) mo_M_begins mi_M_begins ml_M_245 rfl (by decide) rfl rfl rfl (Nat.le_of_ble_eq_true rfl) de_M_wideOf_14 (fun v_ M_ hK_ hl_ hv_ => ?_)
      obtain ⟨rfl, hm_⟩ := hK_
      have hm_ := hm_.symm
      subst hm_
      change ab_G _ _ _ _ _ _ _ [(0, .ref 30), (1, .int (nI c)), (2, .int (nI (sp_sum (fun g => sp_sum (fun k => sp_wk T c Z g k) (gL Z g)) y))), (3, .int (nI y))] [] (ab_S nr (md_gp hh (gA Z y) (gB Z y)) g rr) _
      refine ab_iconst (v := 0) de_M_wideOf_17 rfl ?_
      refine ab_istore (L' := [(4, .int (0 : Int32)), (0, .ref 30), (1, .int (nI c)), (2, .int (nI (sp_sum (fun g => sp_sum (fun k => sp_wk T c Z g k) (gL Z g)) y))), (3, .int (nI y))]) de_M_wideOf_18 (by decide) rfl ?_
      refine ab_sub (L' := [(0, .ref 30), (1, .int (nI c)), (2, .int (nI (sp_sum (fun g => sp_sum (fun k => sp_wk T c Z g k) (gL Z g)) y))), (3, .int (nI y)), (4, .int (nI 0))]) [1, 2, 3, 4, 0] rfl ?_
      refine lp_M_wideOf_k l d nr h g rr hTM hO hc hZ hG hy (s := sp_sum (fun g => sp_sum (fun k => sp_wk T c Z g k) (gL Z g)) y) (fun hh h0_ => ?_) (gL Z y + 1) 0 (md_gp hh (gA Z y) (gB Z y)) (by omega) (by omega) (md_sc_tr hf0 (md_gp_sc hh _ _)) rfl rfl
      refine ab_iinc (v := nI (y + 1)) (L' := [(3, .int (nI (y + 1))), (0, .ref 30), (1, .int (nI c)), (2, .int (nI (sp_sum (fun g => sp_sum (fun k => sp_wk T c Z g k) (gL Z g)) (y + 1))))]) de_M_wideOf_71 3 rfl (by rw [show Int32.ofInt 1 = nI 1 from rfl, ab_add]) (by decide) rfl ?_
      refine ab_goto (tgt := 4) de_M_wideOf_74 rfl ?_
      refine ab_sub (L' := [(0, .ref 30), (1, .int (nI c)), (2, .int (nI (sp_sum (fun g => sp_sum (fun k => sp_wk T c Z g k) (gL Z g)) (y + 1)))), (3, .int (nI (y + 1)))]) [1, 2, 3, 0] rfl ?_
      exact ih (y + 1) hh (by omega) (by omega) h0_
set_option maxHeartbeats 1000000 in
set_option maxRecDepth 10000 in
theorem ct_M_wideOf (l : Launch) (d : Nat) (nr : Nat) (h : Nat → Nat → Int32) (g : Nat → Nat → Int64) (rr : Nat → Option Nat) {T : Nat → Nat → Nat} (hTM : bo_T T h 32) (hO : sp_ok T) {c : Nat} (hc : c < 4096) {Z : sp_G} (hZ : gm_ok Z) (hG : md_G Z h) : ab_C l am_M_wideOf (d + 5) 0 0 [.ref 30, .int (nI c)] (ab_S nr h g rr) (fun (r_ : Option Value) (M' : ab_Me) => r_ = some (.int (nI (sp_wd T c Z))) ∧ ∃ h', M' = ab_S nr h' g rr ∧ md_sc h h') := by
  refine ab_C_of (by decide +kernel) rfl (Nat.le_of_ble_eq_true rfl) ?_
  refine ab_iconst (v := 0) de_M_wideOf_0 rfl ?_
  refine ab_istore_n (L' := [(2, .int (0 : Int32)), (0, .ref 30), (1, .int (nI c))]) de_M_wideOf_1 (by decide) rfl ?_
  refine ab_iconst (v := 0) de_M_wideOf_2 rfl ?_
  refine ab_istore_n (L' := [(3, .int (0 : Int32)), (2, .int (0 : Int32)), (0, .ref 30), (1, .int (nI c))]) de_M_wideOf_3 (by decide) rfl ?_
  refine ab_sub (L' := [(0, .ref 30), (1, .int (nI c)), (2, .int (nI (sp_sum (fun g => sp_sum (fun k => sp_wk T c Z g k) (gL Z g)) 0))), (3, .int (nI 0))]) [2, 3, 1, 0] rfl ?_
  exact lp_M_wideOf l d nr h g rr hTM hO hc hZ hG (gN Z + 1) 0 h (by omega) (by omega) (md_sc_rf h)
set_option maxHeartbeats 1000000 in
set_option maxRecDepth 10000 in
theorem lp_M_isFit (l : Launch) (d : Nat) (nr : Nat) (h : Nat → Nat → Int32) (g : Nat → Nat → Int64) (rr : Nat → Option Nat) {T : Nat → Nat → Nat} (hTM : bo_T T h 32) (hO : sp_ok T) {c : Nat} (hc : c < 4096) {Z : sp_G} (hZ : gm_ok Z) (hG : md_G Z h) : ∀ (fu_ y : Nat) (hh : Nat → Nat → Int32), y ≤ (gN Z) → (gN Z) < y + fu_ → md_sc h hh → (∀ j, j < y → (fun g => !decide (sp_fl T c Z g = -1)) j = false) → ab_G l none am_M_isFit (d + 6) 0 0 2 [(0, .ref 30), (1, .int (nI c)), (2, .int (nI y))] [] (ab_S nr hh g rr) (fun (r_ : Option Value) (M' : ab_Me) => r_ = some (.int (ab_bz (!sp_any (fun g => !decide (sp_fl T c Z g = -1)) (gN Z)))) ∧ ∃ h', M' = ab_S nr h' g rr ∧ md_sc h h') := by
  intro fu_
  induction fu_ with
  | zero => intro y hh h1 h2; omega
  | succ fu_ ih =>
    intro y hh hN_ hn_ hf0 hf1
    have y6_ := hZ.1
    have hGh := md_G_sc hf0 hG
    have hTh := md_T_sc hf0 hTM
    refine ab_iload_n de_M_isFit_2 2 rfl ?_
    refine ab_aload_n de_M_isFit_3 0 rfl ?_
    refine ab_get (v := .int (hh 30 1)) fl_M_84 rfl rfl de_M_isFit_4 ?_
    refine ab_top (v' := nI (gN Z)) (hGh.1) ?_
    refine ab_icmp_ge (tgt := 28) de_M_isFit_7 rfl (fun c_7_1 => ?_) (fun c_7_1 => ?_)
    · have hy := (ab_le (by omega) (by omega)).mp c_7_1
      refine ab_iconst (v := 1) de_M_isFit_28 rfl ?_
      exact ab_ret (v := some (.int (1 : Int32))) de_M_isFit_29 ⟨_, rfl, rfl⟩ ⟨congrArg (fun z => some (Value.int z)) (ab_bz_t (by rw [(sp_any_no _ _).mpr (fun j hj => hf1 j (by omega))]; rfl)), hh, rfl, hf0⟩
    · have hy := Nat.lt_of_not_le (fun z_ => c_7_1 ((ab_le (by omega) (by omega)).mpr z_))
      refine ab_aload_n de_M_isFit_10 0 rfl ?_
      refine ab_iload_n de_M_isFit_11 2 rfl ?_
      refine ab_iload_n de_M_isFit_12 1 rfl ?_
      refine ab_cV (as := [.int (nI y), .int (nI c)]) (st := []) (ct_M_failsAt l _ nr hh g rr hTh hO hc hZ hGh hy) mo_M_failsAt mi_M_failsAt ml_M_255 rfl (by decide) rfl rfl rfl (Nat.le_of_ble_eq_true rfl) de_M_isFit_13 (fun v_ M_ hK_ hl_ hv_ => ?_)
      obtain ⟨rfl, h1_, rfl, s1_⟩ := hK_
      change ab_G _ _ _ _ _ _ _ [(0, .ref 30), (1, .int (nI c)), (2, .int (nI y))] [.int (sp_fl T c Z y)] (ab_S nr h1_ g rr) _
      refine ab_iconst (v := -1) de_M_isFit_16 rfl ?_
      refine ab_icmp_eq (tgt := 22) de_M_isFit_17 rfl (fun c_17_2 => ?_) (fun c_17_2 => ?_)
      · refine ab_iinc (v := nI (y + 1)) (L' := [(2, .int (nI (y + 1))), (0, .ref 30), (1, .int (nI c))]) de_M_isFit_22 2 rfl (by rw [show Int32.ofInt 1 = nI 1 from rfl, ab_add]) (by decide) rfl ?_
        refine ab_goto (tgt := 2) de_M_isFit_25 rfl ?_
        refine ab_sub (L' := [(0, .ref 30), (1, .int (nI c)), (2, .int (nI (y + 1)))]) [1, 2, 0] rfl ?_
        exact ih (y + 1) h1_ (by omega) (by omega) (md_sc_tr hf0 s1_) (fun j hj => by
          by_cases e_ : j = y
          · rw [e_]
            show (!decide (sp_fl T c Z y = -1)) = false
            rw [c_17_2]; rfl
          · exact hf1 j (by omega))
      · refine ab_iconst (v := 0) de_M_isFit_20 rfl ?_
        exact ab_ret (v := some (.int (0 : Int32))) de_M_isFit_21 ⟨_, rfl, rfl⟩ ⟨congrArg (fun z => some (Value.int z)) (ab_bz_f (by rw [(sp_any_iff _ _).mpr ⟨y, hy, by rw [decide_eq_false c_17_2]; rfl⟩]; rfl)), h1_, rfl, md_sc_tr hf0 s1_⟩
set_option maxHeartbeats 1000000 in
set_option maxRecDepth 10000 in
theorem ct_M_isFit (l : Launch) (d : Nat) (nr : Nat) (h : Nat → Nat → Int32) (g : Nat → Nat → Int64) (rr : Nat → Option Nat) {T : Nat → Nat → Nat} (hTM : bo_T T h 32) (hO : sp_ok T) {c : Nat} (hc : c < 4096) {Z : sp_G} (hZ : gm_ok Z) (hG : md_G Z h) : ab_C l am_M_isFit (d + 6) 0 0 [.ref 30, .int (nI c)] (ab_S nr h g rr) (fun (r_ : Option Value) (M' : ab_Me) => r_ = some (.int (ab_bz (!sp_any (fun g => !decide (sp_fl T c Z g = -1)) (gN Z)))) ∧ ∃ h', M' = ab_S nr h' g rr ∧ md_sc h h') := by
  refine ab_C_of (by decide +kernel) rfl (Nat.le_of_ble_eq_true rfl) ?_
  refine ab_iconst (v := 0) de_M_isFit_0 rfl ?_
  refine ab_istore_n (L' := [(2, .int (0 : Int32)), (0, .ref 30), (1, .int (nI c))]) de_M_isFit_1 (by decide) rfl ?_
  refine ab_sub (L' := [(0, .ref 30), (1, .int (nI c)), (2, .int (nI 0))]) [1, 2, 0] rfl ?_
  exact lp_M_isFit l d nr h g rr hTM hO hc hZ hG (gN Z + 1) 0 h (by omega) (by omega) (md_sc_rf h) (fun j hj => absurd hj (Nat.not_lt_zero j))
