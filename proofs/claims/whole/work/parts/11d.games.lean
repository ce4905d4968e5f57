theorem sp_fy_b {T : Nat → Nat → Nat} {c : Nat} {Z : sp_G} (hZ : gm_ok Z) {g : Nat} (hg : g ≤ gN Z) : sp_sum (sp_fg T c Z) g ≤ 126 := by
  have h1 := sp_sumb (f := sp_fg T c Z) (b := 21) (N := gN Z) (fun j hj => sp_fg_le hZ hj) g hg
  have := hZ.1
  omega
theorem sp_fk_b {T : Nat → Nat → Nat} {c : Nat} {Z : sp_G} {g k : Nat} (hk : k ≤ 20) : sp_sum (sp_fk T c Z g) k ≤ 20 := by
  have h1 := sp_sum_le (f := sp_fk T c Z g) (b := 1) (sp_fk_le T c Z g) k
  omega
theorem sp_fk_mono {T : Nat → Nat → Nat} {c : Nat} {Z : sp_G} {g k : Nat} (hk : k ≤ gL Z g) : sp_sum (sp_fk T c Z g) k ≤ sp_fg T c Z g := by
  unfold sp_fg
  have := sp_sum_step (sp_fk T c Z g) hk
  omega
theorem sp_fy_mono {T : Nat → Nat → Nat} {c : Nat} {Z : sp_G} {g : Nat} (hg : g < gN Z) : sp_sum (sp_fg T c Z) g + sp_fg T c Z g ≤ sp_fy T c Z := sp_sum_step (sp_fg T c Z) (show g + 1 ≤ gN Z from hg)
theorem sp_icm {E F : Nat} (hE : E < 2 ^ 31) (hF : F < 2 ^ 31) : (nI F < nI E ↔ F < E) := ab_lt hF hE
set_option maxHeartbeats 1000000 in
set_option maxRecDepth 10000 in
theorem lp_G_faulty_107 (l : Launch) (d : Nat) (nr : Nat) (h : Nat → Nat → Int32) (g_ : Nat → Nat → Int64) (rr : Nat → Option Nat) {T : Nat → Nat → Nat} (hT : bo_T T h 17) (hO : sp_ok T) {Z : sp_G} (hZ : gm_ok Z) (hG : gm_C Z h) {c E : Nat} (hc : c < 4096) (hE : 1 ≤ E) (hE2 : E < 2 ^ 31) {g : Nat} (hg : g < gN Z) {k : Nat} (h20_ : gL Z g ≤ 20) (hk : k ≤ gL Z g) (hko : k = gL Z g ∨ E ≤ sp_sum (sp_fg T c Z) g + sp_sum (sp_fk T c Z g) k) (kx : sp_sum (sp_fg T c Z) (g + 1) < E → ab_G l none am_G_faulty (d + 5) 0 0 137 [(0, .ref 15), (1, .int (nI c)), (2, .int (nI E)), (3, .int (nI (sp_sum (sp_fg T c Z) (g + 1)))), (4, .int (nI (g)))] [] (ab_S nr h g_ rr) (fun (r_ : Option Value) (M' : ab_Me) => r_ = some (.int (nI (if sp_fy T c Z < E then sp_fy T c Z else E))) ∧ M' = (ab_S nr h g_ rr))) : ab_G l none am_G_faulty (d + 5) 0 0 107 [(0, .ref 15), (1, .int (nI c)), (2, .int (nI E)), (3, .int (nI (sp_sum (sp_fg T c Z) g + sp_sum (sp_fk T c Z g) k))), (4, .int (nI (g))), (5, .int (nI (sp_en (sp_sg T c Z g k).1 (sp_sg T c Z g k).2 (k % 2))))] [] (ab_S nr h g_ rr) (fun (r_ : Option Value) (M' : ab_Me) => r_ = some (.int (nI (if sp_fy T c Z < E then sp_fy T c Z else E))) ∧ M' = (ab_S nr h g_ rr)) := by
  obtain ⟨h1_, h2_, h3_⟩ := sp_sg_ok (T := T) (c := c) hZ hg k (by omega)
  have b1_ := sp_fy_b (T := T) (c := c) hZ (Nat.le_of_lt hg)
  have b2_ := sp_fk_b (T := T) (c := c) (Z := Z) (g := g) (k := k) (by omega)
  refine ab_aload_n de_G_faulty_107 0 rfl ?_
  refine ab_get (v := .ref 16) fl_G_12 rfl rfl de_G_faulty_108 ?_
  refine ab_iload de_G_faulty_111 5 rfl ?_
  refine ab_iload_n de_G_faulty_113 1 rfl ?_
  refine ab_cV (as := [.int (nI (sp_en (sp_sg T c Z g k).1 (sp_sg T c Z g k).2 (k % 2))), .int (nI c)]) (st := []) (ct_B_winner l _ nr h g_ rr hT hO h1_ h2_ (show k % 2 < 2 by omega) hc) mo_B_winner mi_B_winner ml_G_50 rfl (by decide) rfl rfl rfl (Nat.le_of_ble_eq_true rfl) de_G_faulty_114 (fun v_ M_ hK_ hl_ hv_ => ?_)
  obtain ⟨rfl, hm_⟩ := hK_
  have hm_ := hm_.symm
  subst hm_
  change ab_G _ _ _ _ _ _ _ [(0, .ref 15), (1, .int (nI c)), (2, .int (nI E)), (3, .int (nI (sp_sum (sp_fg T c Z) g + sp_sum (sp_fk T c Z g) k))), (4, .int (nI (g))), (5, .int (nI (sp_en (sp_sg T c Z g k).1 (sp_sg T c Z g k).2 (k % 2))))] [.int (sp_wng T c Z g k)] (ab_S nr h g_ rr) _
  refine ab_aload_n de_G_faulty_117 0 rfl ?_
  refine ab_get (v := .ref 20) fl_G_25 rfl rfl de_G_faulty_118 ?_
  refine ab_iload de_G_faulty_121 4 rfl ?_
  refine ab_iald (v := h 20 g) rfl (ab_in (by have := gm_6 hZ hg; omega) (by decide)) (ab_hv (ab_tn (by have := gm_6 hZ hg; omega))) de_G_faulty_123 ?_
  refine ab_top (v' := gO Z g) ((hG.2 g hg).2.2.1) ?_
  refine ab_icmp_eq (tgt := 130) de_G_faulty_124 rfl (fun c_124_1 => ?_) (fun c_124_1 => ?_)
  · refine ab_iload_n de_G_faulty_130 3 rfl ?_
    refine ab_iload_n de_G_faulty_131 2 rfl ?_
    refine ab_icmp_lt (tgt := 137) de_G_faulty_132 rfl (fun c_132_2 => ?_) (fun c_132_2 => ?_)
    · have lt_ := ((sp_icm hE2 (by omega)).mp c_132_2)
      have kL_ : k = gL Z g := by omega
      have e_ : nI (sp_sum (sp_fg T c Z) (g + 1)) = nI (sp_sum (sp_fg T c Z) g + sp_sum (sp_fk T c Z g) k) := by
        rw [sp_sum]
        congr 1
        subst kL_
        rw [show sp_fg T c Z g = sp_sum (sp_fk T c Z g) (gL Z g) + (if sp_wng T c Z g (gL Z g) = gO Z g then 0 else 1) from rfl, if_pos c_124_1]
        try rfl
        try omega
      refine ab_sub (L' := [(0, .ref 15), (1, .int (nI c)), (2, .int (nI E)), (3, .int (nI (sp_sum (sp_fg T c Z) g + sp_sum (sp_fk T c Z g) k))), (4, .int (nI (g)))]) [0, 1, 2, 3, 4] rfl ?_
      have lt2_ : sp_sum (sp_fg T c Z) (g + 1) < E := by
        have z_ := (ab_inj (by have := sp_fy_b (T := T) (c := c) hZ (show g + 1 ≤ gN Z from hg); omega) (by omega)).mp e_
        omega
      have kx_ := kx lt2_
      rw [e_] at kx_
      exact kx_
    · refine ab_iload_n de_G_faulty_135 2 rfl ?_
      exact ab_ret (v := some (.int (nI E))) de_G_faulty_136 ⟨_, rfl⟩ ⟨congrArg (fun z => some (Value.int z)) (congrArg nI (by
    have ge_ := Nat.le_of_not_lt (fun z => c_132_2 ((sp_icm hE2 (by omega)).mpr z))
    have t1_ := sp_fk_mono (T := T) (c := c) (Z := Z) (g := g) (k := k) (by omega)
    have t2_ := sp_fy_mono (T := T) (c := c) (Z := Z) hg
    rw [if_neg]
    rcases hko with e | e
    · subst e
      have t3_ : sp_fg T c Z g = sp_sum (sp_fk T c Z g) (gL Z g) + 0 := by
        rw [show sp_fg T c Z g = sp_sum (sp_fk T c Z g) (gL Z g) + (if sp_wng T c Z g (gL Z g) = gO Z g then 0 else 1) from rfl, if_pos c_124_1]
      omega
    · omega)), rfl⟩
  · refine ab_iinc (v := nI (sp_sum (sp_fg T c Z) g + sp_sum (sp_fk T c Z g) k + 1)) (L' := [(3, .int (nI (sp_sum (sp_fg T c Z) g + sp_sum (sp_fk T c Z g) k + 1))), (0, .ref 15), (1, .int (nI c)), (2, .int (nI E)), (4, .int (nI (g))), (5, .int (nI (sp_en (sp_sg T c Z g k).1 (sp_sg T c Z g k).2 (k % 2))))]) de_G_faulty_127 3 rfl (by rw [show Int32.ofInt 1 = nI 1 from rfl, ab_add]) (by decide) rfl ?_
    refine ab_iload_n de_G_faulty_130 0 rfl ?_
    refine ab_iload_n de_G_faulty_131 3 rfl ?_
    refine ab_icmp_lt (tgt := 137) de_G_faulty_132 rfl (fun c_132_3 => ?_) (fun c_132_3 => ?_)
    · have lt_ := ((sp_icm hE2 (by omega)).mp c_132_3)
      have kL_ : k = gL Z g := by omega
      have e_ : nI (sp_sum (sp_fg T c Z) (g + 1)) = nI (sp_sum (sp_fg T c Z) g + sp_sum (sp_fk T c Z g) k + 1) := by
        rw [sp_sum]
        congr 1
        subst kL_
        rw [show sp_fg T c Z g = sp_sum (sp_fk T c Z g) (gL Z g) + (if sp_wng T c Z g (gL Z g) = gO Z g then 0 else 1) from rfl, if_neg c_124_1]
        try rfl
        try omega
      refine ab_sub (L' := [(0, .ref 15), (1, .int (nI c)), (2, .int (nI E)), (3, .int (nI (sp_sum (sp_fg T c Z) g + sp_sum (sp_fk T c Z g) k + 1))), (4, .int (nI (g)))]) [1, 2, 3, 0, 4] rfl ?_
      have lt2_ : sp_sum (sp_fg T c Z) (g + 1) < E := by
        have z_ := (ab_inj (by have := sp_fy_b (T := T) (c := c) hZ (show g + 1 ≤ gN Z from hg); omega) (by omega)).mp e_
        omega
      have kx_ := kx lt2_
      rw [e_] at kx_
      exact kx_
    · refine ab_iload_n de_G_faulty_135 3 rfl ?_
      exact ab_ret (v := some (.int (nI E))) de_G_faulty_136 ⟨_, rfl⟩ ⟨congrArg (fun z => some (Value.int z)) (congrArg nI (by
    have ge_ := Nat.le_of_not_lt (fun z => c_132_3 ((sp_icm hE2 (by omega)).mpr z))
    have t1_ := sp_fk_mono (T := T) (c := c) (Z := Z) (g := g) (k := k) (by omega)
    have t2_ := sp_fy_mono (T := T) (c := c) (Z := Z) hg
    rw [if_neg]
    rcases hko with e | e
    · subst e
      have t3_ : sp_fg T c Z g = sp_sum (sp_fk T c Z g) (gL Z g) + 1 := by
        rw [show sp_fg T c Z g = sp_sum (sp_fk T c Z g) (gL Z g) + (if sp_wng T c Z g (gL Z g) = gO Z g then 0 else 1) from rfl, if_neg c_124_1]
      omega
    · omega)), rfl⟩
set_option maxHeartbeats 1000000 in
set_option maxRecDepth 10000 in
theorem lp_G_faulty_k (l : Launch) (d : Nat) (nr : Nat) (h : Nat → Nat → Int32) (g_ : Nat → Nat → Int64) (rr : Nat → Option Nat) {T : Nat → Nat → Nat} (hT : bo_T T h 17) (hO : sp_ok T) {Z : sp_G} (hZ : gm_ok Z) (hG : gm_C Z h) {c E : Nat} (hc : c < 4096) (hE : 1 ≤ E) (hE2 : E < 2 ^ 31) {g : Nat} (hg : g < gN Z) (h20_ : gL Z g ≤ 20) (kx : sp_sum (sp_fg T c Z) (g + 1) < E → ab_G l none am_G_faulty (d + 5) 0 0 137 [(0, .ref 15), (1, .int (nI c)), (2, .int (nI E)), (3, .int (nI (sp_sum (sp_fg T c Z) (g + 1)))), (4, .int (nI (g)))] [] (ab_S nr h g_ rr) (fun (r_ : Option Value) (M' : ab_Me) => r_ = some (.int (nI (if sp_fy T c Z < E then sp_fy T c Z else E))) ∧ M' = (ab_S nr h g_ rr))) : ∀ (fu_ k : Nat), k ≤ gL Z g → gL Z g < k + fu_ → ab_G l none am_G_faulty (d + 5) 0 0 26 [(0, .ref 15), (1, .int (nI c)), (2, .int (nI E)), (3, .int (nI (sp_sum (sp_fg T c Z) g + sp_sum (sp_fk T c Z g) k))), (4, .int (nI (g))), (5, .int (nI (sp_en (sp_sg T c Z g k).1 (sp_sg T c Z g k).2 (k % 2)))), (6, .int (nI k))] [] (ab_S nr h g_ rr) (fun (r_ : Option Value) (M' : ab_Me) => r_ = some (.int (nI (if sp_fy T c Z < E then sp_fy T c Z else E))) ∧ M' = (ab_S nr h g_ rr)) := by
  intro fu_
  induction fu_ with
  | zero => intro k  h1 h2; omega
  | succ fu_ ih =>
    intro k  hN_ hn_ 
    refine ab_iload de_G_faulty_26 6 rfl ?_
    refine ab_aload_n de_G_faulty_28 0 rfl ?_
    refine ab_get (v := .ref 19) fl_G_22 rfl rfl de_G_faulty_29 ?_
    refine ab_iload de_G_faulty_32 4 rfl ?_
    refine ab_iald (v := h 19 g) rfl (ab_in (by have := gm_6 hZ hg; omega) (by decide)) (ab_hv (ab_tn (by have := gm_6 hZ hg; omega))) de_G_faulty_34 ?_
    refine ab_top (v' := nI (gL Z g)) ((hG.2 g hg).2.1) ?_
    refine ab_icmp_ge (tgt := 107) de_G_faulty_35 rfl (fun c_35_1 => ?_) (fun c_35_1 => ?_)
    · have hk := ab_leN (by omega) (by omega) c_35_1
      refine ab_sub (L' := [(0, .ref 15), (1, .int (nI c)), (2, .int (nI E)), (3, .int (nI (sp_sum (sp_fg T c Z) g + sp_sum (sp_fk T c Z g) k))), (4, .int (nI (g))), (5, .int (nI (sp_en (sp_sg T c Z g k).1 (sp_sg T c Z g k).2 (k % 2))))]) [0, 1, 2, 3, 4, 5] rfl ?_
      exact lp_G_faulty_107 l d nr h g_ rr hT hO hZ hG hc hE hE2 hg h20_ (by omega) (Or.inl (by omega)) kx
    · have hk := ab_nleN (by omega) (by omega) c_35_1
      obtain ⟨h1_, h2_, h3_⟩ := sp_sg_ok (T := T) (c := c) hZ hg k (by omega)
      have hx_ := (hZ.2 g hg).2.2.2.2.1 k hk
      have b1_ := sp_fy_b (T := T) (c := c) hZ (Nat.le_of_lt hg)
      have b2_ := sp_fk_b (T := T) (c := c) (Z := Z) (g := g) (k := k) (by omega)
      refine ab_iload_n de_G_faulty_38 3 rfl ?_
      refine ab_iload_n de_G_faulty_39 2 rfl ?_
      refine ab_icmp_ge (tgt := 107) de_G_faulty_40 rfl (fun c_40_2 => ?_) (fun c_40_2 => ?_)
      · refine ab_sub (L' := [(0, .ref 15), (1, .int (nI c)), (2, .int (nI E)), (3, .int (nI (sp_sum (sp_fg T c Z) g + sp_sum (sp_fk T c Z g) k))), (4, .int (nI (g))), (5, .int (nI (sp_en (sp_sg T c Z g k).1 (sp_sg T c Z g k).2 (k % 2))))]) [0, 1, 2, 3, 4, 5] rfl ?_
        exact lp_G_faulty_107 l d nr h g_ rr hT hO hZ hG hc hE hE2 hg h20_ (by omega) (Or.inr ((ab_le hE2 (by omega)).mp c_40_2)) kx
      · refine ab_aload_n de_G_faulty_43 0 rfl ?_
        refine ab_get (v := .ref 16) fl_G_12 rfl rfl de_G_faulty_44 ?_
        refine ab_iload de_G_faulty_47 5 rfl ?_
        refine ab_iload_n de_G_faulty_49 1 rfl ?_
        refine ab_cV (as := [.int (nI (sp_en (sp_sg T c Z g k).1 (sp_sg T c Z g k).2 (k % 2))), .int (nI c)]) (st := []) (ct_B_live l _ nr h g_ rr hT hO h1_ h2_ (show k % 2 < 2 by omega) hc) mo_B_live mi_B_live ml_G_35 rfl (by decide) rfl rfl rfl (Nat.le_of_ble_eq_true rfl) de_G_faulty_50 (fun v_ M_ hK_ hl_ hv_ => ?_)
        obtain ⟨rfl, hm_⟩ := hK_
        have hm_ := hm_.symm
        subst hm_
        change ab_G _ _ _ _ _ _ _ [(0, .ref 15), (1, .int (nI c)), (2, .int (nI E)), (3, .int (nI (sp_sum (sp_fg T c Z) g + sp_sum (sp_fk T c Z g) k))), (4, .int (nI (g))), (5, .int (nI (sp_en (sp_sg T c Z g k).1 (sp_sg T c Z g k).2 (k % 2)))), (6, .int (nI k))] [.int (nI (sp_lv T c (sp_sg T c Z g k).1 (sp_sg T c Z g k).2))] (ab_S nr h g_ rr) _
        refine ab_istore (L' := [(7, .int (nI (sp_lv T c (sp_sg T c Z g k).1 (sp_sg T c Z g k).2))), (0, .ref 15), (1, .int (nI c)), (2, .int (nI E)), (3, .int (nI (sp_sum (sp_fg T c Z) g + sp_sum (sp_fk T c Z g) k))), (4, .int (nI (g))), (5, .int (nI (sp_en (sp_sg T c Z g k).1 (sp_sg T c Z g k).2 (k % 2)))), (6, .int (nI k))]) de_G_faulty_53 (by decide) rfl ?_
        refine ab_aload_n de_G_faulty_55 1 rfl ?_
        refine ab_get (v := .ref 16) fl_G_12 rfl rfl de_G_faulty_56 ?_
        refine ab_iload de_G_faulty_59 6 rfl ?_
        refine ab_iload de_G_faulty_61 0 rfl ?_
        refine ab_aload_n de_G_faulty_63 1 rfl ?_
        refine ab_iload de_G_faulty_64 5 rfl ?_
        refine ab_iload de_G_faulty_66 7 rfl ?_
        refine ab_cV (as := [.int (nI (g)), .int (nI k)]) (st := [.int (nI (sp_lv T c (sp_sg T c Z g k).1 (sp_sg T c Z g k).2)), .int (nI (sp_en (sp_sg T c Z g k).1 (sp_sg T c Z g k).2 (k % 2))), .ref 16]) (ct_G_moveAt l _ nr h g_ rr hZ hG hg hk) mo_G_moveAt mi_G_moveAt ml_G_39 rfl (by decide) rfl rfl rfl (Nat.le_of_ble_eq_true rfl) de_G_faulty_68 (fun v_ M_ hK_ hl_ hv_ => ?_)
        obtain ⟨rfl, hm_⟩ := hK_
        have hm_ := hm_.symm
        subst hm_
        change ab_G _ _ _ _ _ _ _ [(7, .int (nI (sp_lv T c (sp_sg T c Z g k).1 (sp_sg T c Z g k).2))), (0, .ref 15), (1, .int (nI c)), (2, .int (nI E)), (3, .int (nI (sp_sum (sp_fg T c Z) g + sp_sum (sp_fk T c Z g) k))), (4, .int (nI (g))), (5, .int (nI (sp_en (sp_sg T c Z g k).1 (sp_sg T c Z g k).2 (k % 2)))), (6, .int (nI k))] [.int (nI (gV Z g k)), .int (nI (sp_lv T c (sp_sg T c Z g k).1 (sp_sg T c Z g k).2)), .int (nI (sp_en (sp_sg T c Z g k).1 (sp_sg T c Z g k).2 (k % 2))), .ref 16] (ab_S nr h g_ rr) _
        refine ab_cV (as := [.int (nI (sp_en (sp_sg T c Z g k).1 (sp_sg T c Z g k).2 (k % 2))), .int (nI (sp_lv T c (sp_sg T c Z g k).1 (sp_sg T c Z g k).2)), .int (nI (gV Z g k))]) (st := []) (ct_B_allows l _ nr h g_ rr hT hO h1_ h2_ (show k % 2 < 2 by omega) (sp_lv4 T c _ _) (x := gV Z g k) hx_) mo_B_allows mi_B_allows ml_G_46 rfl (by decide) rfl rfl rfl (Nat.le_of_ble_eq_true rfl) de_G_faulty_71 (fun v_ M_ hK_ hl_ hv_ => ?_)
        obtain ⟨rfl, hm_⟩ := hK_
        have hm_ := hm_.symm
        subst hm_
        change ab_G _ _ _ _ _ _ _ [(7, .int (nI (sp_lv T c (sp_sg T c Z g k).1 (sp_sg T c Z g k).2))), (0, .ref 15), (1, .int (nI c)), (2, .int (nI E)), (3, .int (nI (sp_sum (sp_fg T c Z) g + sp_sum (sp_fk T c Z g) k))), (4, .int (nI (g))), (5, .int (nI (sp_en (sp_sg T c Z g k).1 (sp_sg T c Z g k).2 (k % 2)))), (6, .int (nI k))] [.int (ab_bz (sp_alk T c Z g k))] (ab_S nr h g_ rr) _
        refine ab_if_ne (tgt := 80) de_G_faulty_74 rfl (fun c_74_3 => ?_) (fun c_74_3 => ?_)
        · refine ab_aload_n de_G_faulty_80 1 rfl ?_
          refine ab_get (v := .ref 16) fl_G_12 rfl rfl de_G_faulty_81 ?_
          refine ab_iload de_G_faulty_84 6 rfl ?_
          refine ab_iload de_G_faulty_86 0 rfl ?_
          refine ab_aload_n de_G_faulty_88 1 rfl ?_
          refine ab_iload de_G_faulty_89 5 rfl ?_
          refine ab_iload de_G_faulty_91 7 rfl ?_
          refine ab_cV (as := [.int (nI (g)), .int (nI k)]) (st := [.int (nI (sp_lv T c (sp_sg T c Z g k).1 (sp_sg T c Z g k).2)), .int (nI (sp_en (sp_sg T c Z g k).1 (sp_sg T c Z g k).2 (k % 2))), .ref 16]) (ct_G_moveAt l _ nr h g_ rr hZ hG hg hk) mo_G_moveAt mi_G_moveAt ml_G_39 rfl (by decide) rfl rfl rfl (Nat.le_of_ble_eq_true rfl) de_G_faulty_93 (fun v_ M_ hK_ hl_ hv_ => ?_)
          obtain ⟨rfl, hm_⟩ := hK_
          have hm_ := hm_.symm
          subst hm_
          change ab_G _ _ _ _ _ _ _ [(7, .int (nI (sp_lv T c (sp_sg T c Z g k).1 (sp_sg T c Z g k).2))), (0, .ref 15), (1, .int (nI c)), (2, .int (nI E)), (3, .int (nI (sp_sum (sp_fg T c Z) g + sp_sum (sp_fk T c Z g) k))), (4, .int (nI (g))), (5, .int (nI (sp_en (sp_sg T c Z g k).1 (sp_sg T c Z g k).2 (k % 2)))), (6, .int (nI k))] [.int (nI (gV Z g k)), .int (nI (sp_lv T c (sp_sg T c Z g k).1 (sp_sg T c Z g k).2)), .int (nI (sp_en (sp_sg T c Z g k).1 (sp_sg T c Z g k).2 (k % 2))), .ref 16] (ab_S nr h g_ rr) _
          refine ab_cV (as := [.int (nI (sp_en (sp_sg T c Z g k).1 (sp_sg T c Z g k).2 (k % 2))), .int (nI (sp_lv T c (sp_sg T c Z g k).1 (sp_sg T c Z g k).2)), .int (nI (gV Z g k))]) (st := []) (ct_B_done l _ nr h g_ rr hT hO h1_ h2_ (show k % 2 < 2 by omega) (sp_lv4 T c _ _) (x := gV Z g k) hx_ h3_) mo_B_done mi_B_done ml_G_42 rfl (by decide) rfl rfl rfl (Nat.le_of_ble_eq_true rfl) de_G_faulty_96 (fun v_ M_ hK_ hl_ hv_ => ?_)
          obtain ⟨rfl, hm_⟩ := hK_
          have hm_ := hm_.symm
          subst hm_
          change ab_G _ _ _ _ _ _ _ [(7, .int (nI (sp_lv T c (sp_sg T c Z g k).1 (sp_sg T c Z g k).2))), (0, .ref 15), (1, .int (nI c)), (2, .int (nI E)), (3, .int (nI (sp_sum (sp_fg T c Z) g + sp_sum (sp_fk T c Z g) k))), (4, .int (nI (g))), (5, .int (nI (sp_en (sp_sg T c Z g k).1 (sp_sg T c Z g k).2 (k % 2)))), (6, .int (nI k))] [.int (nI (sp_en (sp_d2 T (sp_lv T c (sp_sg T c Z g k).1 (sp_sg T c Z g k).2) (sp_sg T c Z g k).1 (sp_sg T c Z g k).2 (gV Z g k)) (sp_d1 T (sp_lv T c (sp_sg T c Z g k).1 (sp_sg T c Z g k).2) (sp_sg T c Z g k).1 (sp_sg T c Z g k).2 (gV Z g k)) (1 - k % 2)))] (ab_S nr h g_ rr) _
          refine ab_top (v' := nI (sp_en (sp_sg T c Z g (k + 1)).1 (sp_sg T c Z g (k + 1)).2 ((k + 1) % 2))) (sp_sg_s) ?_
          refine ab_istore (L' := [(5, .int (nI (sp_en (sp_sg T c Z g (k + 1)).1 (sp_sg T c Z g (k + 1)).2 ((k + 1) % 2)))), (7, .int (nI (sp_lv T c (sp_sg T c Z g k).1 (sp_sg T c Z g k).2))), (0, .ref 15), (1, .int (nI c)), (2, .int (nI E)), (3, .int (nI (sp_sum (sp_fg T c Z) g + sp_sum (sp_fk T c Z g) k))), (4, .int (nI (g))), (6, .int (nI k))]) de_G_faulty_99 (by decide) rfl ?_
          refine ab_iinc (v := nI (k + 1)) (L' := [(6, .int (nI (k + 1))), (5, .int (nI (sp_en (sp_sg T c Z g (k + 1)).1 (sp_sg T c Z g (k + 1)).2 ((k + 1) % 2)))), (7, .int (nI (sp_lv T c (sp_sg T c Z g k).1 (sp_sg T c Z g k).2))), (0, .ref 15), (1, .int (nI c)), (2, .int (nI E)), (3, .int (nI (sp_sum (sp_fg T c Z) g + sp_sum (sp_fk T c Z g) k))), (4, .int (nI (g)))]) de_G_faulty_101 7 rfl (by rw [show Int32.ofInt 1 = nI 1 from rfl, ab_add]) (by decide) rfl ?_
          refine ab_goto (tgt := 26) de_G_faulty_104 rfl ?_
          refine ab_sub (L' := [(0, .ref 15), (1, .int (nI c)), (2, .int (nI E)), (3, .int (nI (sp_sum (sp_fg T c Z) g + sp_sum (sp_fk T c Z g) k))), (4, .int (nI (g))), (5, .int (nI (sp_en (sp_sg T c Z g (k + 1)).1 (sp_sg T c Z g (k + 1)).2 ((k + 1) % 2)))), (6, .int (nI (k + 1)))]) [3, 4, 5, 6, 7, 1, 0] rfl ?_
          have e_ : sp_sum (sp_fk T c Z g) (k + 1) = sp_sum (sp_fk T c Z g) k := by
            rw [sp_sum, sp_fk, if_pos ((ab_bz1 _).mp c_74_3)]
            rfl
          have w_ := ih (k + 1) (by omega) (by omega)
          rw [e_] at w_
          exact w_
        · refine ab_iinc (v := nI (sp_sum (sp_fg T c Z) g + sp_sum (sp_fk T c Z g) k + 1)) (L' := [(3, .int (nI (sp_sum (sp_fg T c Z) g + sp_sum (sp_fk T c Z g) k + 1))), (7, .int (nI (sp_lv T c (sp_sg T c Z g k).1 (sp_sg T c Z g k).2))), (0, .ref 15), (1, .int (nI c)), (2, .int (nI E)), (4, .int (nI (g))), (5, .int (nI (sp_en (sp_sg T c Z g k).1 (sp_sg T c Z g k).2 (k % 2)))), (6, .int (nI k))]) de_G_faulty_77 4 rfl (by rw [show Int32.ofInt 1 = nI 1 from rfl, ab_add]) (by decide) rfl ?_
          refine ab_aload_n de_G_faulty_80 2 rfl ?_
          refine ab_get (v := .ref 16) fl_G_12 rfl rfl de_G_faulty_81 ?_
          refine ab_iload de_G_faulty_84 6 rfl ?_
          refine ab_iload de_G_faulty_86 1 rfl ?_
          refine ab_aload_n de_G_faulty_88 2 rfl ?_
          refine ab_iload de_G_faulty_89 5 rfl ?_
          refine ab_iload de_G_faulty_91 7 rfl ?_
          refine ab_cV (as := [.int (nI (g)), .int (nI k)]) (st := [.int (nI (sp_lv T c (sp_sg T c Z g k).1 (sp_sg T c Z g k).2)), .int (nI (sp_en (sp_sg T c Z g k).1 (sp_sg T c Z g k).2 (k % 2))), .ref 16]) (ct_G_moveAt l _ nr h g_ rr hZ hG hg hk) mo_G_moveAt mi_G_moveAt ml_G_39 rfl (by decide) rfl rfl rfl (Nat.le_of_ble_eq_true rfl) de_G_faulty_93 (fun v_ M_ hK_ hl_ hv_ => ?_)
          obtain ⟨rfl, hm_⟩ := hK_
          have hm_ := hm_.symm
          subst hm_
          change ab_G _ _ _ _ _ _ _ [(3, .int (nI (sp_sum (sp_fg T c Z) g + sp_sum (sp_fk T c Z g) k + 1))), (7, .int (nI (sp_lv T c (sp_sg T c Z g k).1 (sp_sg T c Z g k).2))), (0, .ref 15), (1, .int (nI c)), (2, .int (nI E)), (4, .int (nI (g))), (5, .int (nI (sp_en (sp_sg T c Z g k).1 (sp_sg T c Z g k).2 (k % 2)))), (6, .int (nI k))] [.int (nI (gV Z g k)), .int (nI (sp_lv T c (sp_sg T c Z g k).1 (sp_sg T c Z g k).2)), .int (nI (sp_en (sp_sg T c Z g k).1 (sp_sg T c Z g k).2 (k % 2))), .ref 16] (ab_S nr h g_ rr) _
          refine ab_cV (as := [.int (nI (sp_en (sp_sg T c Z g k).1 (sp_sg T c Z g k).2 (k % 2))), .int (nI (sp_lv T c (sp_sg T c Z g k).1 (sp_sg T c Z g k).2)), .int (nI (gV Z g k))]) (st := []) (ct_B_done l _ nr h g_ rr hT hO h1_ h2_ (show k % 2 < 2 by omega) (sp_lv4 T c _ _) (x := gV Z g k) hx_ h3_) mo_B_done mi_B_done ml_G_42 rfl (by decide) rfl rfl rfl (Nat.le_of_ble_eq_true rfl) de_G_faulty_96 (fun v_ M_ hK_ hl_ hv_ => ?_)
          obtain ⟨rfl, hm_⟩ := hK_
          have hm_ := hm_.symm
          subst hm_
          change ab_G _ _ _ _ _ _ _ [(3, .int (nI (sp_sum (sp_fg T c Z) g + sp_sum (sp_fk T c Z g) k + 1))), (7, .int (nI (sp_lv T c (sp_sg T c Z g k).1 (sp_sg T c Z g k).2))), (0, .ref 15), (1, .int (nI c)), (2, .int (nI E)), (4, .int (nI (g))), (5, .int (nI (sp_en (sp_sg T c Z g k).1 (sp_sg T c Z g k).2 (k % 2)))), (6, .int (nI k))] [.int (nI (sp_en (sp_d2 T (sp_lv T c (sp_sg T c Z g k).1 (sp_sg T c Z g k).2) (sp_sg T c Z g k).1 (sp_sg T c Z g k).2 (gV Z g k)) (sp_d1 T (sp_lv T c (sp_sg T c Z g k).1 (sp_sg T c Z g k).2) (sp_sg T c Z g k).1 (sp_sg T c Z g k).2 (gV Z g k)) (1 - k % 2)))] (ab_S nr h g_ rr) _
          refine ab_top (v' := nI (sp_en (sp_sg T c Z g (k + 1)).1 (sp_sg T c Z g (k + 1)).2 ((k + 1) % 2))) (sp_sg_s) ?_
          refine ab_istore (L' := [(5, .int (nI (sp_en (sp_sg T c Z g (k + 1)).1 (sp_sg T c Z g (k + 1)).2 ((k + 1) % 2)))), (3, .int (nI (sp_sum (sp_fg T c Z) g + sp_sum (sp_fk T c Z g) k + 1))), (7, .int (nI (sp_lv T c (sp_sg T c Z g k).1 (sp_sg T c Z g k).2))), (0, .ref 15), (1, .int (nI c)), (2, .int (nI E)), (4, .int (nI (g))), (6, .int (nI k))]) de_G_faulty_99 (by decide) rfl ?_
          refine ab_iinc (v := nI (k + 1)) (L' := [(6, .int (nI (k + 1))), (5, .int (nI (sp_en (sp_sg T c Z g (k + 1)).1 (sp_sg T c Z g (k + 1)).2 ((k + 1) % 2)))), (3, .int (nI (sp_sum (sp_fg T c Z) g + sp_sum (sp_fk T c Z g) k + 1))), (7, .int (nI (sp_lv T c (sp_sg T c Z g k).1 (sp_sg T c Z g k).2))), (0, .ref 15), (1, .int (nI c)), (2, .int (nI E)), (4, .int (nI (g)))]) de_G_faulty_101 7 rfl (by rw [show Int32.ofInt 1 = nI 1 from rfl, ab_add]) (by decide) rfl ?_
          refine ab_goto (tgt := 26) de_G_faulty_104 rfl ?_
          refine ab_sub (L' := [(0, .ref 15), (1, .int (nI c)), (2, .int (nI E)), (3, .int (nI (sp_sum (sp_fg T c Z) g + sp_sum (sp_fk T c Z g) k + 1))), (4, .int (nI (g))), (5, .int (nI (sp_en (sp_sg T c Z g (k + 1)).1 (sp_sg T c Z g (k + 1)).2 ((k + 1) % 2)))), (6, .int (nI (k + 1)))]) [4, 5, 6, 2, 7, 1, 0] rfl ?_
          have e_ : sp_sum (sp_fg T c Z) g + sp_sum (sp_fk T c Z g) (k + 1) = sp_sum (sp_fg T c Z) g + sp_sum (sp_fk T c Z g) k + 1 := by
            have e1_ : sp_fk T c Z g k = 1 := by rw [sp_fk, if_neg (by rw [(ab_bz0 _).mp c_74_3]; decide)]
            rw [show sp_sum (sp_fk T c Z g) (k + 1) = sp_sum (sp_fk T c Z g) k + sp_fk T c Z g k from rfl, e1_]
            omega
          have w_ := ih (k + 1) (by omega) (by omega)
          rw [e_] at w_
          exact w_
set_option maxHeartbeats 1000000 in
set_option maxRecDepth 10000 in
theorem lp_G_faulty_g (l : Launch) (d : Nat) (nr : Nat) (h : Nat → Nat → Int32) (g_ : Nat → Nat → Int64) (rr : Nat → Option Nat) {T : Nat → Nat → Nat} (hT : bo_T T h 17) (hO : sp_ok T) {Z : sp_G} (hZ : gm_ok Z) (hG : gm_C Z h) {c E : Nat} (hc : c < 4096) (hE : 1 ≤ E) (hE2 : E < 2 ^ 31) (h6_ : gN Z ≤ 6) : ∀ (fu_ g : Nat), g ≤ gN Z → gN Z < g + fu_ → sp_sum (sp_fg T c Z) g < E → ab_G l none am_G_faulty (d + 5) 0 0 5 [(0, .ref 15), (1, .int (nI c)), (2, .int (nI E)), (3, .int (nI (sp_sum (sp_fg T c Z) g))), (4, .int (nI (g)))] [] (ab_S nr h g_ rr) (fun (r_ : Option Value) (M' : ab_Me) => r_ = some (.int (nI (if sp_fy T c Z < E then sp_fy T c Z else E))) ∧ M' = (ab_S nr h g_ rr)) := by
  intro fu_
  induction fu_ with
  | zero => intro g  h1 h2; omega
  | succ fu_ ih =>
    intro g  hN_ hn_ hf0
    refine ab_iload de_G_faulty_5 4 rfl ?_
    refine ab_aload_n de_G_faulty_7 0 rfl ?_
    refine ab_get (v := .int (h 15 5)) fl_G_31 rfl rfl de_G_faulty_8 ?_
    refine ab_top (v' := nI (gN Z)) (hG.1) ?_
    refine ab_icmp_ge (tgt := 143) de_G_faulty_11 rfl (fun c_11_1 => ?_) (fun c_11_1 => ?_)
    · have hg := ab_leN (by omega) (by omega) c_11_1
      refine ab_iload_n de_G_faulty_143 3 rfl ?_
      exact ab_ret (v := some (.int (nI (sp_sum (sp_fg T c Z) g)))) de_G_faulty_144 ⟨_, rfl⟩ ⟨congrArg (fun z => some (Value.int z)) (congrArg nI (by rw [show g = gN Z by omega] at hf0 ⊢; rw [if_pos (show sp_fy T c Z < E from hf0)]; rfl)), rfl⟩
    · have hg := ab_nleN (by omega) (by omega) c_11_1
      refine ab_aload_n de_G_faulty_14 0 rfl ?_
      refine ab_get (v := .ref 18) fl_G_18 rfl rfl de_G_faulty_15 ?_
      refine ab_iload de_G_faulty_18 4 rfl ?_
      refine ab_iald (v := h 18 g) rfl (ab_in (by have := gm_6 hZ hg; omega) (by decide)) (ab_hv (ab_tn (by have := gm_6 hZ hg; omega))) de_G_faulty_20 ?_
      refine ab_top (v' := nI (sp_en (sp_sg T c Z g 0).1 (sp_sg T c Z g 0).2 (0 % 2))) ((hG.2 g hg).1.trans gm_st) ?_
      refine ab_istore (L' := [(5, .int (nI (sp_en (sp_sg T c Z g 0).1 (sp_sg T c Z g 0).2 (0 % 2)))), (0, .ref 15), (1, .int (nI c)), (2, .int (nI E)), (3, .int (nI (sp_sum (sp_fg T c Z) g))), (4, .int (nI (g)))]) de_G_faulty_21 (by decide) rfl ?_
      refine ab_iconst (v := 0) de_G_faulty_23 rfl ?_
      refine ab_istore (L' := [(6, .int (0 : Int32)), (5, .int (nI (sp_en (sp_sg T c Z g 0).1 (sp_sg T c Z g 0).2 (0 % 2)))), (0, .ref 15), (1, .int (nI c)), (2, .int (nI E)), (3, .int (nI (sp_sum (sp_fg T c Z) g))), (4, .int (nI (g)))]) de_G_faulty_24 (by decide) rfl ?_
      refine ab_sub (L' := [(0, .ref 15), (1, .int (nI c)), (2, .int (nI E)), (3, .int (nI (sp_sum (sp_fg T c Z) g + sp_sum (sp_fk T c Z g) 0))), (4, .int (nI (g))), (5, .int (nI (sp_en (sp_sg T c Z g 0).1 (sp_sg T c Z g 0).2 (0 % 2)))), (6, .int (0 : Int32))]) [2, 3, 4, 5, 6, 1, 0] rfl ?_
      refine lp_G_faulty_k l d nr h g_ rr hT hO hZ hG hc hE hE2 hg (gm_20 hZ hg) (fun hlt => ?_) (gL Z g + 1) 0 (by omega) (by omega)
      refine ab_iinc (v := nI (g + 1)) (L' := [(4, .int (nI (g + 1))), (0, .ref 15), (1, .int (nI c)), (2, .int (nI E)), (3, .int (nI (sp_sum (sp_fg T c Z) (g + 1))))]) de_G_faulty_137 4 rfl (by rw [show Int32.ofInt 1 = nI 1 from rfl, ab_add]) (by decide) rfl ?_
      refine ab_goto (tgt := 5) de_G_faulty_140 rfl ?_
      refine ab_sub (L' := [(0, .ref 15), (1, .int (nI c)), (2, .int (nI E)), (3, .int (nI (sp_sum (sp_fg T c Z) (g + 1)))), (4, .int (nI (g + 1)))]) [1, 2, 3, 4, 0] rfl ?_
      exact ih (g + 1) (by omega) (by omega) hlt
set_option maxHeartbeats 1000000 in
set_option maxRecDepth 10000 in
theorem ct_G_faulty (l : Launch) (d : Nat) (nr : Nat) (h : Nat → Nat → Int32) (g_ : Nat → Nat → Int64) (rr : Nat → Option Nat) {T : Nat → Nat → Nat} (hT : bo_T T h 17) (hO : sp_ok T) {Z : sp_G} (hZ : gm_ok Z) (hG : gm_C Z h) {c E : Nat} (hc : c < 4096) (hE : 1 ≤ E) (hE2 : E < 2 ^ 31) : ab_C l am_G_faulty (d + 5) 0 0 [.ref 15, .int (nI c), .int (nI E)] (ab_S nr h g_ rr) (fun (r_ : Option Value) (M' : ab_Me) => r_ = some (.int (nI (if sp_fy T c Z < E then sp_fy T c Z else E))) ∧ M' = (ab_S nr h g_ rr)) := by
  refine ab_C_of (by decide +kernel) rfl (Nat.le_of_ble_eq_true rfl) ?_
  refine ab_iconst (v := 0) de_G_faulty_0 rfl ?_
  refine ab_istore_n (L' := [(3, .int (0 : Int32)), (0, .ref 15), (1, .int (nI c)), (2, .int (nI E))]) de_G_faulty_1 (by decide) rfl ?_
  refine ab_iconst (v := 0) de_G_faulty_2 rfl ?_
  refine ab_istore (L' := [(4, .int (0 : Int32)), (3, .int (0 : Int32)), (0, .ref 15), (1, .int (nI c)), (2, .int (nI E))]) de_G_faulty_3 (by decide) rfl ?_
  refine ab_sub (L' := [(0, .ref 15), (1, .int (nI c)), (2, .int (nI E)), (3, .int (0 : Int32)), (4, .int (0 : Int32))]) [2, 3, 4, 1, 0] rfl ?_
  exact lp_G_faulty_g l d nr h g_ rr hT hO hZ hG hc hE hE2 hZ.1 7 0 (by omega) (by have := hZ.1; omega) (show 0 < E from hE)
/-- the table while a GAME is written down: k of its MOVES are there -/
def gm_w (h : Nat → Nat → Int32) (ng : Nat) (s n o : Int32) (f : Nat → Int32) (k : Nat) : Nat → Nat → Int32 := fun a b =>
  if a = 18 ∧ b = ng then s else if a = 19 ∧ b = ng then n else if a = 20 ∧ b = ng then o else if a = 21 ∧ 20 * ng ≤ b ∧ b < 20 * ng + k then f (b - 20 * ng) else h a b
theorem gm_w_0 (h : Nat → Nat → Int32) (ng : Nat) (s n o : Int32) (f : Nat → Int32) : ab_u2 (ab_u2 (ab_u2 h 18 ng s) 19 ng n) 20 ng o = gm_w h ng s n o f 0 := by
  funext a b
  unfold ab_u2 gm_w
  by_cases h1 : a = 18 ∧ b = ng
  · obtain ⟨rfl, rfl⟩ := h1
    simp
  · by_cases h2 : a = 19 ∧ b = ng
    · obtain ⟨rfl, rfl⟩ := h2
      simp
    · by_cases h3 : a = 20 ∧ b = ng
      · obtain ⟨rfl, rfl⟩ := h3
        simp
      · rw [if_neg h3, if_neg h2, if_neg h1, if_neg h1, if_neg h2, if_neg h3, if_neg (by omega)]
theorem gm_w_s (h : Nat → Nat → Int32) (ng : Nat) (s n o : Int32) (f : Nat → Int32) (k : Nat) : ab_u2 (gm_w h ng s n o f k) 21 (20 * ng + k) (f k) = gm_w h ng s n o f (k + 1) := by
  funext a b
  unfold ab_u2 gm_w
  by_cases h4 : a = 21 ∧ b = 20 * ng + k
  · obtain ⟨rfl, rfl⟩ := h4
    rw [if_pos ⟨rfl, rfl⟩, if_neg (by omega), if_neg (by omega), if_neg (by omega), if_pos (by omega), show 20 * ng + k - 20 * ng = k by omega]
  · rw [if_neg h4]
    by_cases h1 : a = 18 ∧ b = ng
    · rw [if_pos h1, if_pos h1]
    · rw [if_neg h1, if_neg h1]
      by_cases h2 : a = 19 ∧ b = ng
      · rw [if_pos h2, if_pos h2]
      · rw [if_neg h2, if_neg h2]
        by_cases h3 : a = 20 ∧ b = ng
        · rw [if_pos h3, if_pos h3]
        · rw [if_neg h3, if_neg h3]
          by_cases h5 : a = 21 ∧ 20 * ng ≤ b ∧ b < 20 * ng + k
          · rw [if_pos h5, if_pos (by omega)]
          · rw [if_neg h5, if_neg (by omega)]
theorem gm_w_15 (h : Nat → Nat → Int32) (ng : Nat) (s n o : Int32) (f : Nat → Int32) (k : Nat) : gm_w h ng s n o f k 15 5 = h 15 5 := by
  unfold gm_w
  rw [if_neg (by omega), if_neg (by omega), if_neg (by omega), if_neg (by omega)]
theorem gm_sub1 (n : Nat) : nI (n + 1) - (1 : Int32) = nI n := nI_pred n
theorem ab_rowk {nr t : Nat} (ht : t < 8) : (ab_K0 ++ List.replicate nr (0, 3))[4 + t]? = some (2, 60) := by
  rcases (by omega : t = 0 ∨ t = 1 ∨ t = 2 ∨ t = 3 ∨ t = 4 ∨ t = 5 ∨ t = 6 ∨ t = 7) with rfl | rfl | rfl | rfl | rfl | rfl | rfl | rfl <;> rfl
theorem ab_lald' {l : Launch} {X : Option (Nat × (Nat → Int32))} {y : ab_M} {d kc ks : Nat} {K : Option Value → ab_Me → Prop} {pc : Nat} {L : List (Nat × Value)} {st : List Value} {nr t j : Nat} {h : Nat → Nat → Int32} {g : Nat → Nat → Int64} {rr : Nat → Option Nat} {i : Int32} (ht : t < 8) (hin : vp_in i 60) (hj : i.toNatClampNeg = j) (hd : decode y.2.1 pc = .ok (.laload, 1)) (k : ab_G l X y d kc ks (pc + 1) L (.long (g (4 + t) j) :: st) (ab_S nr h g rr) K) : ab_G l X y d kc ks pc L (.int i :: .ref (4 + t) :: st) (ab_S nr h g rr) K :=
  ab_lald (M := ab_S nr h g rr) (ab_rowk ht) hin (ab_gv hj) hd k
set_option maxHeartbeats 1000000 in
set_option maxRecDepth 10000 in
theorem lp_G_add (l : Launch) (d : Nat) (nr : Nat) (h : Nat → Nat → Int32) (g_ : Nat → Nat → Int64) (rr : Nat → Option Nat) {ng t n : Nat} (hng : h 15 5 = nI ng) (h6 : ng < 6) (ht : t < 8) (hn : n ≤ 20) (s o : Int32) : ∀ (fu_ k : Nat), k ≤ n → n < k + fu_ → ab_G l none am_G_add (d) 0 0 34 [(0, .ref 15), (1, .int s), (2, .ref (4 + t)), (3, .int (nI n)), (4, .int o), (5, .int (nI k))] [] (ab_S nr (gm_w h ng s (nI n) o (fun k => (g_ (4 + t) k).toInt32) k) g_ rr) (fun (r_ : Option Value) (M' : ab_Me) => r_ = some (.int (nI ng)) ∧ M' = ab_S nr (ab_u2 (gm_w h ng s (nI n) o (fun k => (g_ (4 + t) k).toInt32) n) 15 5 (nI (ng + 1))) g_ rr) := by
  intro fu_
  induction fu_ with
  | zero => intro k h1 h2; omega
  | succ fu_ ih =>
    intro k hN_ hn_
    refine ab_iload de_G_add_34 5 rfl ?_
    refine ab_iload_n de_G_add_36 3 rfl ?_
    refine ab_icmp_ge (tgt := 66) de_G_add_37 rfl (fun c_37_1 => ?_) (fun c_37_1 => ?_)
    · have hk := ab_leN (by omega) (by omega) c_37_1
      refine ab_aload_n de_G_add_66 0 rfl ?_
      refine ab_dup de_G_add_67 rfl ?_
      refine ab_get (v := .int ((gm_w h ng s (nI n) o (fun k => (g_ (4 + t) k).toInt32) k) 15 5)) fl_G_31 rfl rfl de_G_add_68 ?_
      refine ab_top (v' := nI ng) ((gm_w_15 _ _ _ _ _ _ _).trans hng) ?_
      refine ab_iconst (v := 1) de_G_add_71 rfl ?_
      refine ab_iadd de_G_add_72 ?_
      refine ab_top (v' := nI (ng + 1)) (ab_add ng 1) ?_
      refine ab_putI (x := 15) (j := 5) fl_G_31 rfl (Or.inl rfl) rfl rfl rfl de_G_add_73 ?_
      change ab_G _ _ _ _ _ _ _ _ _ (ab_S nr (ab_u2 (gm_w h ng s (nI n) o (fun k => (g_ (4 + t) k).toInt32) k) 15 5 (nI (ng + 1))) g_ rr) _
      refine ab_aload_n de_G_add_76 0 rfl ?_
      refine ab_get (v := .int ((ab_u2 (gm_w h ng s (nI n) o (fun k => (g_ (4 + t) k).toInt32) k) 15 5 (nI (ng + 1))) 15 5)) fl_G_31 rfl rfl de_G_add_77 ?_
      refine ab_top (v' := nI (ng + 1)) (ab_u2_at) ?_
      refine ab_iconst (v := 1) de_G_add_80 rfl ?_
      refine ab_isub de_G_add_81 ?_
      refine ab_top (v' := nI ng) (gm_sub1 ng) ?_
      exact ab_ret (v := some (.int (nI ng))) de_G_add_82 ⟨_, rfl⟩ ⟨rfl, by rw [show k = n by omega]⟩
    · have hk := ab_nleN (by omega) (by omega) c_37_1
      refine ab_aload_n de_G_add_40 0 rfl ?_
      refine ab_get (v := .ref 21) fl_G_28 rfl rfl de_G_add_41 ?_
      refine ab_aload_n de_G_add_44 0 rfl ?_
      refine ab_get (v := .int ((gm_w h ng s (nI n) o (fun k => (g_ (4 + t) k).toInt32) k) 15 5)) fl_G_31 rfl rfl de_G_add_45 ?_
      refine ab_top (v' := nI ng) ((gm_w_15 _ _ _ _ _ _ _).trans hng) ?_
      refine ab_bipush (v := 20) de_G_add_48 rfl ?_
      refine ab_imul de_G_add_50 ?_
      refine ab_iload de_G_add_51 5 rfl ?_
      refine ab_iadd de_G_add_53 ?_
      refine ab_top (v' := nI (20 * ng + k)) (by rw [show (20 : Int32) = nI 20 from rfl, ab_mul, ab_add, Nat.mul_comm]) ?_
      refine ab_aload_n de_G_add_54 2 rfl ?_
      refine ab_iload de_G_add_55 5 rfl ?_
      refine ab_lald' ht (ab_in (by omega) (by decide)) (ab_tn (n := k) (by omega)) de_G_add_57 ?_
      refine ab_l2i de_G_add_58 rfl ?_
      refine ab_iast (x := 21) rfl (ab_in (by omega) (by decide)) de_G_add_59 ?_
      rw [ab_tn (n := 20 * ng + k) (by omega)]
      change ab_G _ _ _ _ _ _ _ _ _ (ab_S nr (ab_u2 (gm_w h ng s (nI n) o (fun k => (g_ (4 + t) k).toInt32) k) 21 (20 * ng + k) ((g_ (4 + t) k).toInt32)) g_ rr) _
      refine ab_hm (h' := gm_w h ng s (nI n) o (fun k => (g_ (4 + t) k).toInt32) (k + 1)) (gm_w_s h ng s (nI n) o (fun k => (g_ (4 + t) k).toInt32) k) ?_
      refine ab_iinc (v := nI (k + 1)) (L' := [(5, .int (nI (k + 1))), (0, .ref 15), (1, .int s), (2, .ref (4 + t)), (3, .int (nI n)), (4, .int o)]) de_G_add_60 5 rfl (by rw [show Int32.ofInt 1 = nI 1 from rfl, ab_add]) (by decide) rfl ?_
      refine ab_goto (tgt := 34) de_G_add_63 rfl ?_
      refine ab_sub (L' := [(0, .ref 15), (1, .int s), (2, .ref (4 + t)), (3, .int (nI n)), (4, .int o), (5, .int (nI (k + 1)))]) [1, 2, 3, 4, 5, 0] rfl ?_
      exact ih (k + 1) (by omega) (by omega)
set_option maxHeartbeats 1000000 in
set_option maxRecDepth 10000 in
theorem ct_G_add (l : Launch) (d : Nat) (nr : Nat) (h : Nat → Nat → Int32) (g_ : Nat → Nat → Int64) (rr : Nat → Option Nat) {ng t n : Nat} (hng : h 15 5 = nI ng) (h6 : ng < 6) (ht : t < 8) (hn : n ≤ 20) (s o : Int32) : ab_C l am_G_add d 0 0 [.ref 15, .int s, .ref (4 + t), .int (nI n), .int o] (ab_S nr h g_ rr) (fun (r_ : Option Value) (M' : ab_Me) => r_ = some (.int (nI ng)) ∧ M' = ab_S nr (ab_u2 (gm_w h ng s (nI n) o (fun k => (g_ (4 + t) k).toInt32) n) 15 5 (nI (ng + 1))) g_ rr) := by
  refine ab_C_of (by decide +kernel) rfl (Nat.le_of_ble_eq_true rfl) ?_
  refine ab_aload_n de_G_add_0 0 rfl ?_
  refine ab_get (v := .ref 18) fl_G_18 rfl rfl de_G_add_1 ?_
  refine ab_aload_n de_G_add_4 0 rfl ?_
  refine ab_get (v := .int (h 15 5)) fl_G_31 rfl rfl de_G_add_5 ?_
  refine ab_top (v' := nI ng) (hng) ?_
  refine ab_iload_n de_G_add_8 1 rfl ?_
  refine ab_iast (x := 18) rfl (ab_in (by omega) (by decide)) de_G_add_9 ?_
  rw [ab_tn (n := ng) (by omega)]
  change ab_G _ _ _ _ _ _ _ _ _ (ab_S nr (ab_u2 h 18 ng s) g_ rr) _
  refine ab_aload_n de_G_add_10 0 rfl ?_
  refine ab_get (v := .ref 19) fl_G_22 rfl rfl de_G_add_11 ?_
  refine ab_aload_n de_G_add_14 0 rfl ?_
  refine ab_get (v := .int ((ab_u2 h 18 ng s) 15 5)) fl_G_31 rfl rfl de_G_add_15 ?_
  refine ab_top (v' := nI ng) ((ab_u2_k (by decide)).trans hng) ?_
  refine ab_iload_n de_G_add_18 3 rfl ?_
  refine ab_iast (x := 19) rfl (ab_in (by omega) (by decide)) de_G_add_19 ?_
  rw [ab_tn (n := ng) (by omega)]
  change ab_G _ _ _ _ _ _ _ _ _ (ab_S nr (ab_u2 (ab_u2 h 18 ng s) 19 ng (nI n)) g_ rr) _
  refine ab_aload_n de_G_add_20 0 rfl ?_
  refine ab_get (v := .ref 20) fl_G_25 rfl rfl de_G_add_21 ?_
  refine ab_aload_n de_G_add_24 0 rfl ?_
  refine ab_get (v := .int ((ab_u2 (ab_u2 h 18 ng s) 19 ng (nI n)) 15 5)) fl_G_31 rfl rfl de_G_add_25 ?_
  refine ab_top (v' := nI ng) ((ab_u2_k (by decide)).trans ((ab_u2_k (by decide)).trans hng)) ?_
  refine ab_iload de_G_add_28 4 rfl ?_
  refine ab_iast (x := 20) rfl (ab_in (by omega) (by decide)) de_G_add_30 ?_
  rw [ab_tn (n := ng) (by omega)]
  change ab_G _ _ _ _ _ _ _ _ _ (ab_S nr (ab_u2 (ab_u2 (ab_u2 h 18 ng s) 19 ng (nI n)) 20 ng o) g_ rr) _
  refine ab_hm (h' := gm_w h ng s (nI n) o (fun k => (g_ (4 + t) k).toInt32) 0) (gm_w_0 h ng s (nI n) o (fun k => (g_ (4 + t) k).toInt32)) ?_
  refine ab_iconst (v := 0) de_G_add_31 rfl ?_
  refine ab_istore (L' := [(5, .int (0 : Int32)), (0, .ref 15), (1, .int s), (2, .ref (4 + t)), (3, .int (nI n)), (4, .int o)]) de_G_add_32 (by decide) rfl ?_
  refine ab_sub (L' := [(0, .ref 15), (1, .int s), (2, .ref (4 + t)), (3, .int (nI n)), (4, .int o), (5, .int (0 : Int32))]) [1, 2, 3, 4, 5, 0] rfl ?_
  exact lp_G_add l d nr h g_ rr hng h6 ht hn s o (n + 1) 0 (by omega) (by omega)
