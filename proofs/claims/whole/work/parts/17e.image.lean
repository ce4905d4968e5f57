/-! the reference: image -/
def md_al_0 (h : Nat → Nat → Int32) : Nat → Nat → Int32 := md_cp (md_cp (md_cp (md_cp (md_cp (md_cp (h) 32 50 0 0 36) 33 50 0 36 8) 34 50 0 44 72) 35 50 0 116 120) 36 50 0 236 6) 37 50 0 242 6
def md_al_1 (h : Nat → Nat → Int32) : Nat → Nat → Int32 := md_cp (md_cp (md_cp (md_cp (md_cp (md_cp (h) 50 32 0 0 36) 50 33 36 0 8) 50 34 44 0 72) 50 35 116 0 120) 50 36 236 0 6) 50 37 242 0 6
set_option maxHeartbeats 1000000 in
set_option maxRecDepth 10000 in
theorem ct_M_all_0 (l : Launch) (d : Nat) (nr : Nat) (h : Nat → Nat → Int32) (g : Nat → Nat → Int64) (rr : Nat → Option Nat)  : ab_C l am_M_all (d + 1) 0 0 [.ref 30, .int (0 : Int32)] (ab_S nr h g rr) (fun (r_ : Option Value) (M' : ab_Me) => r_ = none ∧ M' = (ab_S nr (md_al_0 h) g rr)) := by
  refine ab_C_of (by decide +kernel) rfl (Nat.le_of_ble_eq_true rfl) ?_
  refine ab_aload_n de_M_all_0 0 rfl ?_
  refine ab_aload_n de_M_all_1 0 rfl ?_
  refine ab_get (v := .ref 32) fl_M_17 rfl rfl de_M_all_2 ?_
  refine ab_bipush (v := 36) de_M_all_5 rfl ?_
  refine ab_iconst (v := 0) de_M_all_7 rfl ?_
  refine ab_iload_n de_M_all_8 1 rfl ?_
  refine ab_cV (as := [.ref 32, .int (36 : Int32), .int (0 : Int32), .int (0 : Int32)]) (st := []) (ct_M_keeps_32_0 l _ nr h g rr) mo_M_keeps mi_M_keeps ml_M_302 rfl (by decide) rfl rfl rfl (Nat.le_of_ble_eq_true rfl) de_M_all_9 (fun v_ M_ hK_ hl_ hv_ => ?_)
  obtain ⟨rfl, hm_⟩ := hK_
  have hm_ := hm_.symm
  subst hm_
  change ab_G _ _ _ _ _ _ _ [(0, .ref 30), (1, .int (0 : Int32))] [.int (36 : Int32)] (ab_S nr (md_cp h 32 50 0 0 36) g rr) _
  refine ab_istore_n (L' := [(2, .int (36 : Int32)), (0, .ref 30), (1, .int (0 : Int32))]) de_M_all_12 (by decide) rfl ?_
  refine ab_aload_n de_M_all_13 1 rfl ?_
  refine ab_aload_n de_M_all_14 1 rfl ?_
  refine ab_get (v := .ref 33) fl_M_20 rfl rfl de_M_all_15 ?_
  refine ab_bipush (v := 8) de_M_all_18 rfl ?_
  refine ab_iload_n de_M_all_20 0 rfl ?_
  refine ab_iload_n de_M_all_21 2 rfl ?_
  refine ab_cV (as := [.ref 33, .int (8 : Int32), .int (36 : Int32), .int (0 : Int32)]) (st := []) (ct_M_keeps_33_0 l _ nr (md_cp h 32 50 0 0 36) g rr) mo_M_keeps mi_M_keeps ml_M_302 rfl (by decide) rfl rfl rfl (Nat.le_of_ble_eq_true rfl) de_M_all_22 (fun v_ M_ hK_ hl_ hv_ => ?_)
  obtain ⟨rfl, hm_⟩ := hK_
  have hm_ := hm_.symm
  subst hm_
  change ab_G _ _ _ _ _ _ _ [(2, .int (36 : Int32)), (0, .ref 30), (1, .int (0 : Int32))] [.int (44 : Int32)] (ab_S nr (md_cp (md_cp h 32 50 0 0 36) 33 50 0 36 8) g rr) _
  refine ab_istore_n (L' := [(2, .int (44 : Int32)), (0, .ref 30), (1, .int (0 : Int32))]) de_M_all_25 (by decide) rfl ?_
  refine ab_aload_n de_M_all_26 1 rfl ?_
  refine ab_aload_n de_M_all_27 1 rfl ?_
  refine ab_get (v := .ref 34) fl_M_23 rfl rfl de_M_all_28 ?_
  refine ab_bipush (v := 72) de_M_all_31 rfl ?_
  refine ab_iload_n de_M_all_33 0 rfl ?_
  refine ab_iload_n de_M_all_34 2 rfl ?_
  refine ab_cV (as := [.ref 34, .int (72 : Int32), .int (44 : Int32), .int (0 : Int32)]) (st := []) (ct_M_keeps_34_0 l _ nr (md_cp (md_cp h 32 50 0 0 36) 33 50 0 36 8) g rr) mo_M_keeps mi_M_keeps ml_M_302 rfl (by decide) rfl rfl rfl (Nat.le_of_ble_eq_true rfl) de_M_all_35 (fun v_ M_ hK_ hl_ hv_ => ?_)
  obtain ⟨rfl, hm_⟩ := hK_
  have hm_ := hm_.symm
  subst hm_
  change ab_G _ _ _ _ _ _ _ [(2, .int (44 : Int32)), (0, .ref 30), (1, .int (0 : Int32))] [.int (116 : Int32)] (ab_S nr (md_cp (md_cp (md_cp h 32 50 0 0 36) 33 50 0 36 8) 34 50 0 44 72) g rr) _
  refine ab_istore_n (L' := [(2, .int (116 : Int32)), (0, .ref 30), (1, .int (0 : Int32))]) de_M_all_38 (by decide) rfl ?_
  refine ab_aload_n de_M_all_39 1 rfl ?_
  refine ab_aload_n de_M_all_40 1 rfl ?_
  refine ab_get (v := .ref 35) fl_M_26 rfl rfl de_M_all_41 ?_
  refine ab_bipush (v := 120) de_M_all_44 rfl ?_
  refine ab_iload_n de_M_all_46 0 rfl ?_
  refine ab_iload_n de_M_all_47 2 rfl ?_
  refine ab_cV (as := [.ref 35, .int (120 : Int32), .int (116 : Int32), .int (0 : Int32)]) (st := []) (ct_M_keeps_35_0 l _ nr (md_cp (md_cp (md_cp h 32 50 0 0 36) 33 50 0 36 8) 34 50 0 44 72) g rr) mo_M_keeps mi_M_keeps ml_M_302 rfl (by decide) rfl rfl rfl (Nat.le_of_ble_eq_true rfl) de_M_all_48 (fun v_ M_ hK_ hl_ hv_ => ?_)
  obtain ⟨rfl, hm_⟩ := hK_
  have hm_ := hm_.symm
  subst hm_
  change ab_G _ _ _ _ _ _ _ [(2, .int (116 : Int32)), (0, .ref 30), (1, .int (0 : Int32))] [.int (236 : Int32)] (ab_S nr (md_cp (md_cp (md_cp (md_cp h 32 50 0 0 36) 33 50 0 36 8) 34 50 0 44 72) 35 50 0 116 120) g rr) _
  refine ab_istore_n (L' := [(2, .int (236 : Int32)), (0, .ref 30), (1, .int (0 : Int32))]) de_M_all_51 (by decide) rfl ?_
  refine ab_aload_n de_M_all_52 1 rfl ?_
  refine ab_aload_n de_M_all_53 1 rfl ?_
  refine ab_get (v := .ref 36) fl_M_29 rfl rfl de_M_all_54 ?_
  refine ab_bipush (v := 6) de_M_all_57 rfl ?_
  refine ab_iload_n de_M_all_59 0 rfl ?_
  refine ab_iload_n de_M_all_60 2 rfl ?_
  refine ab_cV (as := [.ref 36, .int (6 : Int32), .int (236 : Int32), .int (0 : Int32)]) (st := []) (ct_M_keeps_36_0 l _ nr (md_cp (md_cp (md_cp (md_cp h 32 50 0 0 36) 33 50 0 36 8) 34 50 0 44 72) 35 50 0 116 120) g rr) mo_M_keeps mi_M_keeps ml_M_302 rfl (by decide) rfl rfl rfl (Nat.le_of_ble_eq_true rfl) de_M_all_61 (fun v_ M_ hK_ hl_ hv_ => ?_)
  obtain ⟨rfl, hm_⟩ := hK_
  have hm_ := hm_.symm
  subst hm_
  change ab_G _ _ _ _ _ _ _ [(2, .int (236 : Int32)), (0, .ref 30), (1, .int (0 : Int32))] [.int (242 : Int32)] (ab_S nr (md_cp (md_cp (md_cp (md_cp (md_cp h 32 50 0 0 36) 33 50 0 36 8) 34 50 0 44 72) 35 50 0 116 120) 36 50 0 236 6) g rr) _
  refine ab_istore_n (L' := [(2, .int (242 : Int32)), (0, .ref 30), (1, .int (0 : Int32))]) de_M_all_64 (by decide) rfl ?_
  refine ab_aload_n de_M_all_65 1 rfl ?_
  refine ab_aload_n de_M_all_66 1 rfl ?_
  refine ab_get (v := .ref 37) fl_M_32 rfl rfl de_M_all_67 ?_
  refine ab_bipush (v := 6) de_M_all_70 rfl ?_
  refine ab_iload_n de_M_all_72 0 rfl ?_
  refine ab_iload_n de_M_all_73 2 rfl ?_
  refine ab_cV (as := [.ref 37, .int (6 : Int32), .int (242 : Int32), .int (0 : Int32)]) (st := []) (ct_M_keeps_37_0 l _ nr (md_cp (md_cp (md_cp (md_cp (md_cp h 32 50 0 0 36) 33 50 0 36 8) 34 50 0 44 72) 35 50 0 116 120) 36 50 0 236 6) g rr) mo_M_keeps mi_M_keeps ml_M_302 rfl (by decide) rfl rfl rfl (Nat.le_of_ble_eq_true rfl) de_M_all_74 (fun v_ M_ hK_ hl_ hv_ => ?_)
  obtain ⟨rfl, hm_⟩ := hK_
  have hm_ := hm_.symm
  subst hm_
  change ab_G _ _ _ _ _ _ _ [(2, .int (242 : Int32)), (0, .ref 30), (1, .int (0 : Int32))] [.int (248 : Int32)] (ab_S nr (md_cp (md_cp (md_cp (md_cp (md_cp (md_cp h 32 50 0 0 36) 33 50 0 36 8) 34 50 0 44 72) 35 50 0 116 120) 36 50 0 236 6) 37 50 0 242 6) g rr) _
  refine ab_pop de_M_all_77 rfl ?_
  exact ab_ret (v := none) de_M_all_78 rfl ⟨rfl, rfl⟩
set_option maxHeartbeats 1000000 in
set_option maxRecDepth 10000 in
theorem ct_M_all_1 (l : Launch) (d : Nat) (nr : Nat) (h : Nat → Nat → Int32) (g : Nat → Nat → Int64) (rr : Nat → Option Nat)  : ab_C l am_M_all (d + 1) 0 0 [.ref 30, .int (1 : Int32)] (ab_S nr h g rr) (fun (r_ : Option Value) (M' : ab_Me) => r_ = none ∧ M' = (ab_S nr (md_al_1 h) g rr)) := by
  refine ab_C_of (by decide +kernel) rfl (Nat.le_of_ble_eq_true rfl) ?_
  refine ab_aload_n de_M_all_0 0 rfl ?_
  refine ab_aload_n de_M_all_1 0 rfl ?_
  refine ab_get (v := .ref 32) fl_M_17 rfl rfl de_M_all_2 ?_
  refine ab_bipush (v := 36) de_M_all_5 rfl ?_
  refine ab_iconst (v := 0) de_M_all_7 rfl ?_
  refine ab_iload_n de_M_all_8 1 rfl ?_
  refine ab_cV (as := [.ref 32, .int (36 : Int32), .int (0 : Int32), .int (1 : Int32)]) (st := []) (ct_M_keeps_32_1 l _ nr h g rr) mo_M_keeps mi_M_keeps ml_M_302 rfl (by decide) rfl rfl rfl (Nat.le_of_ble_eq_true rfl) de_M_all_9 (fun v_ M_ hK_ hl_ hv_ => ?_)
  obtain ⟨rfl, hm_⟩ := hK_
  have hm_ := hm_.symm
  subst hm_
  change ab_G _ _ _ _ _ _ _ [(0, .ref 30), (1, .int (1 : Int32))] [.int (36 : Int32)] (ab_S nr (md_cp h 50 32 0 0 36) g rr) _
  refine ab_istore_n (L' := [(2, .int (36 : Int32)), (0, .ref 30), (1, .int (1 : Int32))]) de_M_all_12 (by decide) rfl ?_
  refine ab_aload_n de_M_all_13 1 rfl ?_
  refine ab_aload_n de_M_all_14 1 rfl ?_
  refine ab_get (v := .ref 33) fl_M_20 rfl rfl de_M_all_15 ?_
  refine ab_bipush (v := 8) de_M_all_18 rfl ?_
  refine ab_iload_n de_M_all_20 0 rfl ?_
  refine ab_iload_n de_M_all_21 2 rfl ?_
  refine ab_cV (as := [.ref 33, .int (8 : Int32), .int (36 : Int32), .int (1 : Int32)]) (st := []) (ct_M_keeps_33_1 l _ nr (md_cp h 50 32 0 0 36) g rr) mo_M_keeps mi_M_keeps ml_M_302 rfl (by decide) rfl rfl rfl (Nat.le_of_ble_eq_true rfl) de_M_all_22 (fun v_ M_ hK_ hl_ hv_ => ?_)
  obtain ⟨rfl, hm_⟩ := hK_
  have hm_ := hm_.symm
  subst hm_
  change ab_G _ _ _ _ _ _ _ [(2, .int (36 : Int32)), (0, .ref 30), (1, .int (1 : Int32))] [.int (44 : Int32)] (ab_S nr (md_cp (md_cp h 50 32 0 0 36) 50 33 36 0 8) g rr) _
  refine ab_istore_n (L' := [(2, .int (44 : Int32)), (0, .ref 30), (1, .int (1 : Int32))]) de_M_all_25 (by decide) rfl ?_
  refine ab_aload_n de_M_all_26 1 rfl ?_
  refine ab_aload_n de_M_all_27 1 rfl ?_
  refine ab_get (v := .ref 34) fl_M_23 rfl rfl de_M_all_28 ?_
  refine ab_bipush (v := 72) de_M_all_31 rfl ?_
  refine ab_iload_n de_M_all_33 0 rfl ?_
  refine ab_iload_n de_M_all_34 2 rfl ?_
  refine ab_cV (as := [.ref 34, .int (72 : Int32), .int (44 : Int32), .int (1 : Int32)]) (st := []) (ct_M_keeps_34_1 l _ nr (md_cp (md_cp h 50 32 0 0 36) 50 33 36 0 8) g rr) mo_M_keeps mi_M_keeps ml_M_302 rfl (by decide) rfl rfl rfl (Nat.le_of_ble_eq_true rfl) de_M_all_35 (fun v_ M_ hK_ hl_ hv_ => ?_)
  obtain ⟨rfl, hm_⟩ := hK_
  have hm_ := hm_.symm
  subst hm_
  change ab_G _ _ _ _ _ _ _ [(2, .int (44 : Int32)), (0, .ref 30), (1, .int (1 : Int32))] [.int (116 : Int32)] (ab_S nr (md_cp (md_cp (md_cp h 50 32 0 0 36) 50 33 36 0 8) 50 34 44 0 72) g rr) _
  refine ab_istore_n (L' := [(2, .int (116 : Int32)), (0, .ref 30), (1, .int (1 : Int32))]) de_M_all_38 (by decide) rfl ?_
  refine ab_aload_n de_M_all_39 1 rfl ?_
  refine ab_aload_n de_M_all_40 1 rfl ?_
  refine ab_get (v := .ref 35) fl_M_26 rfl rfl de_M_all_41 ?_
  refine ab_bipush (v := 120) de_M_all_44 rfl ?_
  refine ab_iload_n de_M_all_46 0 rfl ?_
  refine ab_iload_n de_M_all_47 2 rfl ?_
  refine ab_cV (as := [.ref 35, .int (120 : Int32), .int (116 : Int32), .int (1 : Int32)]) (st := []) (ct_M_keeps_35_1 l _ nr (md_cp (md_cp (md_cp h 50 32 0 0 36) 50 33 36 0 8) 50 34 44 0 72) g rr) mo_M_keeps mi_M_keeps ml_M_302 rfl (by decide) rfl rfl rfl (Nat.le_of_ble_eq_true rfl) de_M_all_48 (fun v_ M_ hK_ hl_ hv_ => ?_)
  obtain ⟨rfl, hm_⟩ := hK_
  have hm_ := hm_.symm
  subst hm_
  change ab_G _ _ _ _ _ _ _ [(2, .int (116 : Int32)), (0, .ref 30), (1, .int (1 : Int32))] [.int (236 : Int32)] (ab_S nr (md_cp (md_cp (md_cp (md_cp h 50 32 0 0 36) 50 33 36 0 8) 50 34 44 0 72) 50 35 116 0 120) g rr) _
  refine ab_istore_n (L' := [(2, .int (236 : Int32)), (0, .ref 30), (1, .int (1 : Int32))]) de_M_all_51 (by decide) rfl ?_
  refine ab_aload_n de_M_all_52 1 rfl ?_
  refine ab_aload_n de_M_all_53 1 rfl ?_
  refine ab_get (v := .ref 36) fl_M_29 rfl rfl de_M_all_54 ?_
  refine ab_bipush (v := 6) de_M_all_57 rfl ?_
  refine ab_iload_n de_M_all_59 0 rfl ?_
  refine ab_iload_n de_M_all_60 2 rfl ?_
  refine ab_cV (as := [.ref 36, .int (6 : Int32), .int (236 : Int32), .int (1 : Int32)]) (st := []) (ct_M_keeps_36_1 l _ nr (md_cp (md_cp (md_cp (md_cp h 50 32 0 0 36) 50 33 36 0 8) 50 34 44 0 72) 50 35 116 0 120) g rr) mo_M_keeps mi_M_keeps ml_M_302 rfl (by decide) rfl rfl rfl (Nat.le_of_ble_eq_true rfl) de_M_all_61 (fun v_ M_ hK_ hl_ hv_ => ?_)
  obtain ⟨rfl, hm_⟩ := hK_
  have hm_ := hm_.symm
  subst hm_
  change ab_G _ _ _ _ _ _ _ [(2, .int (236 : Int32)), (0, .ref 30), (1, .int (1 : Int32))] [.int (242 : Int32)] (ab_S nr (md_cp (md_cp (md_cp (md_cp (md_cp h 50 32 0 0 36) 50 33 36 0 8) 50 34 44 0 72) 50 35 116 0 120) 50 36 236 0 6) g rr) _
  refine ab_istore_n (L' := [(2, .int (242 : Int32)), (0, .ref 30), (1, .int (1 : Int32))]) de_M_all_64 (by decide) rfl ?_
  refine ab_aload_n de_M_all_65 1 rfl ?_
  refine ab_aload_n de_M_all_66 1 rfl ?_
  refine ab_get (v := .ref 37) fl_M_32 rfl rfl de_M_all_67 ?_
  refine ab_bipush (v := 6) de_M_all_70 rfl ?_
  refine ab_iload_n de_M_all_72 0 rfl ?_
  refine ab_iload_n de_M_all_73 2 rfl ?_
  refine ab_cV (as := [.ref 37, .int (6 : Int32), .int (242 : Int32), .int (1 : Int32)]) (st := []) (ct_M_keeps_37_1 l _ nr (md_cp (md_cp (md_cp (md_cp (md_cp h 50 32 0 0 36) 50 33 36 0 8) 50 34 44 0 72) 50 35 116 0 120) 50 36 236 0 6) g rr) mo_M_keeps mi_M_keeps ml_M_302 rfl (by decide) rfl rfl rfl (Nat.le_of_ble_eq_true rfl) de_M_all_74 (fun v_ M_ hK_ hl_ hv_ => ?_)
  obtain ⟨rfl, hm_⟩ := hK_
  have hm_ := hm_.symm
  subst hm_
  change ab_G _ _ _ _ _ _ _ [(2, .int (242 : Int32)), (0, .ref 30), (1, .int (1 : Int32))] [.int (248 : Int32)] (ab_S nr (md_cp (md_cp (md_cp (md_cp (md_cp (md_cp h 50 32 0 0 36) 50 33 36 0 8) 50 34 44 0 72) 50 35 116 0 120) 50 36 236 0 6) 50 37 242 0 6) g rr) _
  refine ab_pop de_M_all_77 rfl ?_
  exact ab_ret (v := none) de_M_all_78 rfl ⟨rfl, rfl⟩
set_option maxHeartbeats 1000000 in
set_option maxRecDepth 10000 in
theorem ct_M_image (l : Launch) (d : Nat) (nr : Nat) (h : Nat → Nat → Int32) (g : Nat → Nat → Int64) (rr : Nat → Option Nat)  : ab_C l am_M_image (d + 2) 0 0 [.ref 30] (ab_S nr h g rr) (fun r_ M_ => r_ = some (.int (h 30 1)) ∧ M_ = ab_S nr (md_al_0 (ab_u2 (ab_u2 (ab_u2 (ab_u2 (ab_u2 h 30 38 (h 30 1)) 30 39 (h 30 0)) 30 40 (h 30 3)) 30 41 (h 30 4)) 30 42 (h 30 5))) g rr) := by
  refine ab_C_of (by decide +kernel) rfl (Nat.le_of_ble_eq_true rfl) ?_
  refine ab_aload_n de_M_image_0 0 rfl ?_
  refine ab_aload_n de_M_image_1 0 rfl ?_
  refine ab_get (v := .int (h 30 1)) fl_M_84 rfl rfl de_M_image_2 ?_
  refine ab_putI (x := 30) (j := 38) fl_M_78 rfl (Or.inl rfl) rfl rfl rfl de_M_image_5 ?_
  change ab_G _ _ _ _ _ _ _ _ _ (ab_S nr (ab_u2 h 30 38 (h 30 1)) g rr) _
  refine ab_aload_n de_M_image_8 0 rfl ?_
  refine ab_aload_n de_M_image_9 0 rfl ?_
  refine ab_get (v := .int ((ab_u2 h 30 38 (h 30 1)) 30 0)) fl_M_87 rfl rfl de_M_image_10 ?_
  refine ab_putI (x := 30) (j := 39) fl_M_306 rfl (Or.inl rfl) rfl rfl rfl de_M_image_13 ?_
  change ab_G _ _ _ _ _ _ _ _ _ (ab_S nr (ab_u2 (ab_u2 h 30 38 (h 30 1)) 30 39 ((ab_u2 h 30 38 (h 30 1)) 30 0)) g rr) _
  refine ab_aload_n de_M_image_16 0 rfl ?_
  refine ab_aload_n de_M_image_17 0 rfl ?_
  refine ab_get (v := .int ((ab_u2 (ab_u2 h 30 38 (h 30 1)) 30 39 ((ab_u2 h 30 38 (h 30 1)) 30 0)) 30 3)) fl_M_171 rfl rfl de_M_image_18 ?_
  refine ab_putI (x := 30) (j := 40) fl_M_309 rfl (Or.inl rfl) rfl rfl rfl de_M_image_21 ?_
  change ab_G _ _ _ _ _ _ _ _ _ (ab_S nr (ab_u2 (ab_u2 (ab_u2 h 30 38 (h 30 1)) 30 39 ((ab_u2 h 30 38 (h 30 1)) 30 0)) 30 40 ((ab_u2 (ab_u2 h 30 38 (h 30 1)) 30 39 ((ab_u2 h 30 38 (h 30 1)) 30 0)) 30 3)) g rr) _
  refine ab_aload_n de_M_image_24 0 rfl ?_
  refine ab_aload_n de_M_image_25 0 rfl ?_
  refine ab_get (v := .int ((ab_u2 (ab_u2 (ab_u2 h 30 38 (h 30 1)) 30 39 ((ab_u2 h 30 38 (h 30 1)) 30 0)) 30 40 ((ab_u2 (ab_u2 h 30 38 (h 30 1)) 30 39 ((ab_u2 h 30 38 (h 30 1)) 30 0)) 30 3)) 30 4)) fl_M_174 rfl rfl de_M_image_26 ?_
  refine ab_putI (x := 30) (j := 41) fl_M_312 rfl (Or.inl rfl) rfl rfl rfl de_M_image_29 ?_
  change ab_G _ _ _ _ _ _ _ _ _ (ab_S nr (ab_u2 (ab_u2 (ab_u2 (ab_u2 h 30 38 (h 30 1)) 30 39 ((ab_u2 h 30 38 (h 30 1)) 30 0)) 30 40 ((ab_u2 (ab_u2 h 30 38 (h 30 1)) 30 39 ((ab_u2 h 30 38 (h 30 1)) 30 0)) 30 3)) 30 41 ((ab_u2 (ab_u2 (ab_u2 h 30 38 (h 30 1)) 30 39 ((ab_u2 h 30 38 (h 30 1)) 30 0)) 30 40 ((ab_u2 (ab_u2 h 30 38 (h 30 1)) 30 39 ((ab_u2 h 30 38 (h 30 1)) 30 0)) 30 3)) 30 4)) g rr) _
  refine ab_aload_n de_M_image_32 0 rfl ?_
  refine ab_aload_n de_M_image_33 0 rfl ?_
  refine ab_get (v := .int ((ab_u2 (ab_u2 (ab_u2 (ab_u2 h 30 38 (h 30 1)) 30 39 ((ab_u2 h 30 38 (h 30 1)) 30 0)) 30 40 ((ab_u2 (ab_u2 h 30 38 (h 30 1)) 30 39 ((ab_u2 h 30 38 (h 30 1)) 30 0)) 30 3)) 30 41 ((ab_u2 (ab_u2 (ab_u2 h 30 38 (h 30 1)) 30 39 ((ab_u2 h 30 38 (h 30 1)) 30 0)) 30 40 ((ab_u2 (ab_u2 h 30 38 (h 30 1)) 30 39 ((ab_u2 h 30 38 (h 30 1)) 30 0)) 30 3)) 30 4)) 30 5)) fl_M_177 rfl rfl de_M_image_34 ?_
  refine ab_putI (x := 30) (j := 42) fl_M_315 rfl (Or.inl rfl) rfl rfl rfl de_M_image_37 ?_
  change ab_G _ _ _ _ _ _ _ _ _ (ab_S nr (ab_u2 (ab_u2 (ab_u2 (ab_u2 (ab_u2 h 30 38 (h 30 1)) 30 39 ((ab_u2 h 30 38 (h 30 1)) 30 0)) 30 40 ((ab_u2 (ab_u2 h 30 38 (h 30 1)) 30 39 ((ab_u2 h 30 38 (h 30 1)) 30 0)) 30 3)) 30 41 ((ab_u2 (ab_u2 (ab_u2 h 30 38 (h 30 1)) 30 39 ((ab_u2 h 30 38 (h 30 1)) 30 0)) 30 40 ((ab_u2 (ab_u2 h 30 38 (h 30 1)) 30 39 ((ab_u2 h 30 38 (h 30 1)) 30 0)) 30 3)) 30 4)) 30 42 ((ab_u2 (ab_u2 (ab_u2 (ab_u2 h 30 38 (h 30 1)) 30 39 ((ab_u2 h 30 38 (h 30 1)) 30 0)) 30 40 ((ab_u2 (ab_u2 h 30 38 (h 30 1)) 30 39 ((ab_u2 h 30 38 (h 30 1)) 30 0)) 30 3)) 30 41 ((ab_u2 (ab_u2 (ab_u2 h 30 38 (h 30 1)) 30 39 ((ab_u2 h 30 38 (h 30 1)) 30 0)) 30 40 ((ab_u2 (ab_u2 h 30 38 (h 30 1)) 30 39 ((ab_u2 h 30 38 (h 30 1)) 30 0)) 30 3)) 30 4)) 30 5)) g rr) _
  refine ab_aload_n de_M_image_40 0 rfl ?_
  refine ab_iconst (v := 0) de_M_image_41 rfl ?_
  refine ab_cV (as := [.int (0 : Int32)]) (st := []) (ct_M_all_0 l _ nr (ab_u2 (ab_u2 (ab_u2 (ab_u2 (ab_u2 h 30 38 (h 30 1)) 30 39 ((ab_u2 h 30 38 (h 30 1)) 30 0)) 30 40 ((ab_u2 (ab_u2 h 30 38 (h 30 1)) 30 39 ((ab_u2 h 30 38 (h 30 1)) 30 0)) 30 3)) 30 41 ((ab_u2 (ab_u2 (ab_u2 h 30 38 (h 30 1)) 30 39 ((ab_u2 h 30 38 (h 30 1)) 30 0)) 30 40 ((ab_u2 (ab_u2 h 30 38 (h 30 1)) 30 39 ((ab_u2 h 30 38 (h 30 1)) 30 0)) 30 3)) 30 4)) 30 42 ((ab_u2 (ab_u2 (ab_u2 (ab_u2 h 30 38 (h 30 1)) 30 39 ((ab_u2 h 30 38 (h 30 1)) 30 0)) 30 40 ((ab_u2 (ab_u2 h 30 38 (h 30 1)) 30 39 ((ab_u2 h 30 38 (h 30 1)) 30 0)) 30 3)) 30 41 ((ab_u2 (ab_u2 (ab_u2 h 30 38 (h 30 1)) 30 39 ((ab_u2 h 30 38 (h 30 1)) 30 0)) 30 40 ((ab_u2 (ab_u2 h 30 38 (h 30 1)) 30 39 ((ab_u2 h 30 38 (h 30 1)) 30 0)) 30 3)) 30 4)) 30 5)) g rr) mo_M_all mi_M_all ml_M_318 rfl (by decide) rfl rfl rfl (Nat.le_of_ble_eq_true rfl) de_M_image_42 (fun v_ M_ hK_ hl_ hv_ => ?_)
  obtain ⟨rfl, hm_⟩ := hK_
  have hm_ := hm_.symm
  subst hm_
  change ab_G _ _ _ _ _ _ _ [(0, .ref 30)] [] (ab_S nr (md_al_0 (ab_u2 (ab_u2 (ab_u2 (ab_u2 (ab_u2 h 30 38 (h 30 1)) 30 39 ((ab_u2 h 30 38 (h 30 1)) 30 0)) 30 40 ((ab_u2 (ab_u2 h 30 38 (h 30 1)) 30 39 ((ab_u2 h 30 38 (h 30 1)) 30 0)) 30 3)) 30 41 ((ab_u2 (ab_u2 (ab_u2 h 30 38 (h 30 1)) 30 39 ((ab_u2 h 30 38 (h 30 1)) 30 0)) 30 40 ((ab_u2 (ab_u2 h 30 38 (h 30 1)) 30 39 ((ab_u2 h 30 38 (h 30 1)) 30 0)) 30 3)) 30 4)) 30 42 ((ab_u2 (ab_u2 (ab_u2 (ab_u2 h 30 38 (h 30 1)) 30 39 ((ab_u2 h 30 38 (h 30 1)) 30 0)) 30 40 ((ab_u2 (ab_u2 h 30 38 (h 30 1)) 30 39 ((ab_u2 h 30 38 (h 30 1)) 30 0)) 30 3)) 30 41 ((ab_u2 (ab_u2 (ab_u2 h 30 38 (h 30 1)) 30 39 ((ab_u2 h 30 38 (h 30 1)) 30 0)) 30 40 ((ab_u2 (ab_u2 h 30 38 (h 30 1)) 30 39 ((ab_u2 h 30 38 (h 30 1)) 30 0)) 30 3)) 30 4)) 30 5))) g rr) _
  refine ab_aload_n de_M_image_45 0 rfl ?_
  refine ab_get (v := .int ((md_al_0 (ab_u2 (ab_u2 (ab_u2 (ab_u2 (ab_u2 h 30 38 (h 30 1)) 30 39 ((ab_u2 h 30 38 (h 30 1)) 30 0)) 30 40 ((ab_u2 (ab_u2 h 30 38 (h 30 1)) 30 39 ((ab_u2 h 30 38 (h 30 1)) 30 0)) 30 3)) 30 41 ((ab_u2 (ab_u2 (ab_u2 h 30 38 (h 30 1)) 30 39 ((ab_u2 h 30 38 (h 30 1)) 30 0)) 30 40 ((ab_u2 (ab_u2 h 30 38 (h 30 1)) 30 39 ((ab_u2 h 30 38 (h 30 1)) 30 0)) 30 3)) 30 4)) 30 42 ((ab_u2 (ab_u2 (ab_u2 (ab_u2 h 30 38 (h 30 1)) 30 39 ((ab_u2 h 30 38 (h 30 1)) 30 0)) 30 40 ((ab_u2 (ab_u2 h 30 38 (h 30 1)) 30 39 ((ab_u2 h 30 38 (h 30 1)) 30 0)) 30 3)) 30 41 ((ab_u2 (ab_u2 (ab_u2 h 30 38 (h 30 1)) 30 39 ((ab_u2 h 30 38 (h 30 1)) 30 0)) 30 40 ((ab_u2 (ab_u2 h 30 38 (h 30 1)) 30 39 ((ab_u2 h 30 38 (h 30 1)) 30 0)) 30 3)) 30 4)) 30 5))) 30 1)) fl_M_84 rfl rfl de_M_image_46 ?_
  exact ab_ret (v := some (.int ((md_al_0 (ab_u2 (ab_u2 (ab_u2 (ab_u2 (ab_u2 h 30 38 (h 30 1)) 30 39 ((ab_u2 h 30 38 (h 30 1)) 30 0)) 30 40 ((ab_u2 (ab_u2 h 30 38 (h 30 1)) 30 39 ((ab_u2 h 30 38 (h 30 1)) 30 0)) 30 3)) 30 41 ((ab_u2 (ab_u2 (ab_u2 h 30 38 (h 30 1)) 30 39 ((ab_u2 h 30 38 (h 30 1)) 30 0)) 30 40 ((ab_u2 (ab_u2 h 30 38 (h 30 1)) 30 39 ((ab_u2 h 30 38 (h 30 1)) 30 0)) 30 3)) 30 4)) 30 42 ((ab_u2 (ab_u2 (ab_u2 (ab_u2 h 30 38 (h 30 1)) 30 39 ((ab_u2 h 30 38 (h 30 1)) 30 0)) 30 40 ((ab_u2 (ab_u2 h 30 38 (h 30 1)) 30 39 ((ab_u2 h 30 38 (h 30 1)) 30 0)) 30 3)) 30 41 ((ab_u2 (ab_u2 (ab_u2 h 30 38 (h 30 1)) 30 39 ((ab_u2 h 30 38 (h 30 1)) 30 0)) 30 40 ((ab_u2 (ab_u2 h 30 38 (h 30 1)) 30 39 ((ab_u2 h 30 38 (h 30 1)) 30 0)) 30 3)) 30 4)) 30 5))) 30 1))) de_M_image_49 ⟨_, rfl⟩ ⟨rfl, rfl⟩
