/-! the reference: FAULTY, CHEAT, judge, WIDE -/
set_option maxHeartbeats 1000000 in
set_option maxRecDepth 10000 in
theorem lp_M_faults_k (l : Launch) (d : Nat) (nr : Nat) (h : Nat → Nat → Int32) (g : Nat → Nat → Int64) (rr : Nat → Option Nat) {T : Nat → Nat → Nat} (hTM : bo_T T h 32) (hO : sp_ok T) {c : Nat} (hc : c < 4096) {Z : sp_G} (hZ : gm_ok Z) (hG : md_G Z h) {y : Nat} (hy : y < gN Z) {s : Nat} {K : Option Value → ab_Me → Prop} (kx : ∀ (hh : Nat → Nat → Int32), md_sc h hh → hh 30 27 = nI (sp_sg T c Z y (gL Z y)).1 → hh 30 28 = nI (sp_sg T c Z y (gL Z y)).2 → ab_G l none am_M_faults (d + 5) 0 0 97 [(0, .ref 30), (1, .int (nI c)), (2, .int (nI (s + sp_sum (sp_fk T c Z y) (gL Z y)))), (3, .int (nI y))] [] (ab_S nr hh g rr) (K)) : ∀ (fu_ k : Nat) (hh : Nat → Nat → Int32), k ≤ (gL Z y) → (gL Z y) < k + fu_ → md_sc h hh → hh 30 27 = nI (sp_sg T c Z y k).1 → hh 30 28 = nI (sp_sg T c Z y k).2 → ab_G l none am_M_faults (d + 5) 0 0 38 [(0, .ref 30), (1, .int (nI c)), (2, .int (nI (s + sp_sum (sp_fk T c Z y) k))), (3, .int (nI y)), (4, .int (nI k))] [] (ab_S nr hh g rr) (K) := by
  intro fu_
  induction fu_ with
  | zero => intro k hh h1 h2; omega
  | succ fu_ ih =>
    intro k hh hN_ hn_ hf0 hf1 hf2
    obtain ⟨sm_, si_, sd_⟩ := sp_sg_ok (T := T) (c := c) hZ hy k (by omega)
    have hTh := md_T_sc hf0 hTM
    have hGh := md_G_sc hf0 hG
    have y6_ := hZ.1
    have l20_ := (hZ.2 y hy).2.2.2.1
    refine ab_iload de_M_faults_38 4 rfl ?_
    refine ab_aload_n de_M_faults_40 0 rfl ?_
    refine ab_get (v := .ref 36) fl_M_29 rfl rfl de_M_faults_41 ?_
    refine ab_iload_n de_M_faults_44 3 rfl ?_
    refine ab_iald (v := hh 36 y) rfl (ab_in (by omega) (by decide)) (ab_hv (ab_tn (n := y) (by omega))) de_M_faults_45 ?_
    refine ab_top (v' := nI (gL Z y)) ((hGh.2 y hy).2.1) ?_
    refine ab_icmp_ge (tgt := 97) de_M_faults_46 rfl (fun c_46_1 => ?_) (fun c_46_1 => ?_)
    · have hk := (ab_le (by omega) (by omega)).mp c_46_1
      refine ab_sub (L' := [(0, .ref 30), (1, .int (nI c)), (2, .int (nI (s + sp_sum (sp_fk T c Z y) k))), (3, .int (nI y))]) [0, 1, 2, 3] rfl ?_
      have k_ : k = gL Z y := by omega
      subst k_
      exact kx hh hf0 hf1 hf2
    · have hk := Nat.lt_of_not_le (fun z_ => c_46_1 ((ab_le (by omega) (by omega)).mpr z_))
      have sx_ := (hZ.2 y hy).2.2.2.2.1 k hk
      have mx_ := sx_.1
      refine ab_aload_n de_M_faults_49 0 rfl ?_
      refine ab_get (v := .ref 35) fl_M_26 rfl rfl de_M_faults_50 ?_
      refine ab_bipush (v := 20) de_M_faults_53 rfl ?_
      refine ab_iload_n de_M_faults_55 3 rfl ?_
      refine ab_imul de_M_faults_56 ?_
      refine ab_top (v' := nI (20 * y)) (ab_mul _ _) ?_
      refine ab_iload de_M_faults_57 4 rfl ?_
      refine ab_iadd de_M_faults_59 ?_
      refine ab_top (v' := nI ((20 * y) + k)) (ab_add _ _) ?_
      refine ab_iald (v := hh 35 ((20 * y) + k)) rfl (ab_in (by omega) (by decide)) (ab_hv (ab_tn (n := ((20 * y) + k)) (by omega))) de_M_faults_60 ?_
      refine ab_top (v' := nI (gV Z y k)) ((hGh.2 y hy).2.2.2 k hk) ?_
      refine ab_istore (L' := [(5, .int (nI (gV Z y k))), (0, .ref 30), (1, .int (nI c)), (2, .int (nI (s + sp_sum (sp_fk T c Z y) k))), (3, .int (nI y)), (4, .int (nI k))]) de_M_faults_61 (by decide) rfl ?_
      refine ab_aload_n de_M_faults_63 1 rfl ?_
      refine ab_iload_n de_M_faults_64 2 rfl ?_
      refine ab_iload de_M_faults_65 0 rfl ?_
      refine ab_aload_n de_M_faults_67 1 rfl ?_
      refine ab_get (v := .int (hh 30 27)) fl_M_239 rfl rfl de_M_faults_68 ?_
      refine ab_top (v' := nI (sp_sg T c Z y k).1) (hf1) ?_
      refine ab_aload_n de_M_faults_71 1 rfl ?_
      refine ab_get (v := .int (hh 30 28)) fl_M_242 rfl rfl de_M_faults_72 ?_
      refine ab_top (v' := nI (sp_sg T c Z y k).2) (hf2) ?_
      refine ab_cV (as := [.int (nI c), .int (nI (gV Z y k)), .int (nI (sp_sg T c Z y k).1), .int (nI (sp_sg T c Z y k).2)]) (st := []) (ct_M_lawful l _ nr hh g rr hTh hO hc sm_ si_ (x := (gV Z y k)) sx_) mo_M_lawful mi_M_lawful ml_M_204 rfl (by decide) rfl rfl rfl (Nat.le_of_ble_eq_true rfl) de_M_faults_75 (fun v_ M_ hK_ hl_ hv_ => ?_)
      obtain ⟨rfl, hm_⟩ := hK_
      have hm_ := hm_.symm
      subst hm_
      change ab_G _ _ _ _ _ _ _ [(5, .int (nI (gV Z y k))), (0, .ref 30), (1, .int (nI c)), (2, .int (nI (s + sp_sum (sp_fk T c Z y) k))), (3, .int (nI y)), (4, .int (nI k))] [.int (nI (md_hw T c ((sp_sg T c Z y k).1) ((sp_sg T c Z y k).2) (gV Z y k)))] (ab_S nr hh g rr) _
      refine ab_if_ne (tgt := 84) de_M_faults_78 rfl (fun c_78_2 => ?_) (fun c_78_2 => ?_)
      · refine ab_aload_n de_M_faults_84 1 rfl ?_
        refine ab_iload_n de_M_faults_85 2 rfl ?_
        refine ab_iload de_M_faults_86 0 rfl ?_
        refine ab_cV (as := [.int (nI c), .int (nI (gV Z y k))]) (st := []) (ct_M_steps l _ nr hh g rr hTh hO hc sm_ si_ (x := (gV Z y k)) sx_ sd_ hf1 hf2) mo_M_steps mi_M_steps ml_M_249 rfl (by decide) rfl rfl rfl (Nat.le_of_ble_eq_true rfl) de_M_faults_88 (fun v_ M_ hK_ hl_ hv_ => ?_)
        obtain ⟨rfl, h1_, rfl, s1_, s2_, s3_⟩ := hK_
        change ab_G _ _ _ _ _ _ _ [(5, .int (nI (gV Z y k))), (0, .ref 30), (1, .int (nI c)), (2, .int (nI (s + sp_sum (sp_fk T c Z y) k))), (3, .int (nI y)), (4, .int (nI k))] [] (ab_S nr h1_ g rr) _
        refine ab_iinc (v := nI (k + 1)) (L' := [(4, .int (nI (k + 1))), (5, .int (nI (gV Z y k))), (0, .ref 30), (1, .int (nI c)), (2, .int (nI (s + sp_sum (sp_fk T c Z y) k))), (3, .int (nI y))]) de_M_faults_91 5 rfl (by rw [show Int32.ofInt 1 = nI 1 from rfl, ab_add]) (by decide) rfl ?_
        refine ab_goto (tgt := 38) de_M_faults_94 rfl ?_
        refine ab_sub (L' := [(0, .ref 30), (1, .int (nI c)), (2, .int (nI (s + sp_sum (sp_fk T c Z y) k))), (3, .int (nI y)), (4, .int (nI (k + 1)))]) [2, 3, 4, 5, 0] rfl ?_
        have e_ : sp_sum (sp_fk T c Z y) (k + 1) = sp_sum (sp_fk T c Z y) k := by
          show sp_sum (sp_fk T c Z y) k + sp_fk T c Z y k = _
          unfold sp_fk
          rw [show sp_alk T c Z y k = true from md_hal1 sx_ (fun z => c_78_2 (by rw [z]; rfl))]
          rfl
        have z_ := ih (k + 1) h1_ (by omega) (by omega) (md_sc_tr hf0 s1_) s2_ s3_
        rw [e_] at z_
        exact z_
      · refine ab_iinc (v := nI (s + sp_sum (sp_fk T c Z y) k + 1)) (L' := [(2, .int (nI (s + sp_sum (sp_fk T c Z y) k + 1))), (5, .int (nI (gV Z y k))), (0, .ref 30), (1, .int (nI c)), (3, .int (nI y)), (4, .int (nI k))]) de_M_faults_81 3 rfl (by rw [show Int32.ofInt 1 = nI 1 from rfl, ab_add]) (by decide) rfl ?_
        refine ab_aload_n de_M_faults_84 2 rfl ?_
        refine ab_iload_n de_M_faults_85 3 rfl ?_
        refine ab_iload de_M_faults_86 1 rfl ?_
        refine ab_cV (as := [.int (nI c), .int (nI (gV Z y k))]) (st := []) (ct_M_steps l _ nr hh g rr hTh hO hc sm_ si_ (x := (gV Z y k)) sx_ sd_ hf1 hf2) mo_M_steps mi_M_steps ml_M_249 rfl (by decide) rfl rfl rfl (Nat.le_of_ble_eq_true rfl) de_M_faults_88 (fun v_ M_ hK_ hl_ hv_ => ?_)
        obtain ⟨rfl, h1_, rfl, s1_, s2_, s3_⟩ := hK_
        change ab_G _ _ _ _ _ _ _ [(2, .int (nI (s + sp_sum (sp_fk T c Z y) k + 1))), (5, .int (nI (gV Z y k))), (0, .ref 30), (1, .int (nI c)), (3, .int (nI y)), (4, .int (nI k))] [] (ab_S nr h1_ g rr) _
        refine ab_iinc (v := nI (k + 1)) (L' := [(4, .int (nI (k + 1))), (2, .int (nI (s + sp_sum (sp_fk T c Z y) k + 1))), (5, .int (nI (gV Z y k))), (0, .ref 30), (1, .int (nI c)), (3, .int (nI y))]) de_M_faults_91 5 rfl (by rw [show Int32.ofInt 1 = nI 1 from rfl, ab_add]) (by decide) rfl ?_
        refine ab_goto (tgt := 38) de_M_faults_94 rfl ?_
        refine ab_sub (L' := [(0, .ref 30), (1, .int (nI c)), (2, .int (nI (s + sp_sum (sp_fk T c Z y) k + 1))), (3, .int (nI y)), (4, .int (nI (k + 1)))]) [3, 4, 1, 5, 0] rfl ?_
        have e_ : s + sp_sum (sp_fk T c Z y) (k + 1) = s + sp_sum (sp_fk T c Z y) k + 1 := by
          show s + (sp_sum (sp_fk T c Z y) k + sp_fk T c Z y k) = _
          unfold sp_fk
          rw [show sp_alk T c Z y k = false from md_hal sx_ ((ab_inj (b := 0) (by have := md_hw_lt T c (sp_sg T c Z y k).1 (sp_sg T c Z y k).2 (gV Z y k); omega) (by decide)).mp c_78_2)]
          rfl
        have z_ := ih (k + 1) h1_ (by omega) (by omega) (md_sc_tr hf0 s1_) s2_ s3_
        rw [e_] at z_
        exact z_
set_option maxHeartbeats 1000000 in
set_option maxRecDepth 10000 in
theorem st_M_faults_97 (l : Launch) (d : Nat) (nr : Nat) (h : Nat → Nat → Int32) (g : Nat → Nat → Int64) (rr : Nat → Option Nat) {T : Nat → Nat → Nat} (hTM : bo_T T h 32) (hO : sp_ok T) {c : Nat} (hc : c < 4096) {Z : sp_G} (hZ : gm_ok Z) (hG : md_G Z h) {y : Nat} (hy : y < gN Z) {s : Nat} (h27 : h 30 27 = nI (sp_sg T c Z y (gL Z y)).1) (h28 : h 30 28 = nI (sp_sg T c Z y (gL Z y)).2) {K : Option Value → ab_Me → Prop} (kx : ab_G l none am_M_faults (d + 5) 0 0 22 [(0, .ref 30), (1, .int (nI c)), (2, .int (nI (s + sp_fg T c Z y))), (3, .int (nI (y + 1)))] [] (ab_S nr h g rr) (K)) : ab_G l none am_M_faults (d + 5) 0 0 97 [(0, .ref 30), (1, .int (nI c)), (2, .int (nI (s + sp_sum (sp_fk T c Z y) (gL Z y)))), (3, .int (nI y))] [] (ab_S nr h g rr) (K) := by
  obtain ⟨sm_, si_, sd_⟩ := sp_sg_ok (T := T) (c := c) hZ hy (gL Z y) (by omega)
  have fe_ : sp_fg T c Z y = sp_sum (sp_fk T c Z y) (gL Z y) + (if sp_wng T c Z y (gL Z y) = gO Z y then 0 else 1) := rfl

  refine ab_aload_n de_M_faults_97 0 rfl ?_
  refine ab_iload_n de_M_faults_98 3 rfl ?_
  refine ab_iload_n de_M_faults_99 1 rfl ?_
  refine ab_cV (as := [.int (nI y), .int (nI c)]) (st := []) (ct_M_isOut l _ nr h g rr hTM hO hc sm_ si_ hZ hG hy h27 h28) mo_M_isOut mi_M_isOut ml_M_252 rfl (by decide) rfl rfl rfl (Nat.le_of_ble_eq_true rfl) de_M_faults_100 (fun v_ M_ hK_ hl_ hv_ => ?_)
  obtain ⟨rfl, hm_⟩ := hK_
  have hm_ := hm_.symm
  subst hm_
  change ab_G _ _ _ _ _ _ _ [(0, .ref 30), (1, .int (nI c)), (2, .int (nI (s + sp_sum (sp_fk T c Z y) (gL Z y)))), (3, .int (nI y))] [.int (ab_bz (decide (sp_wn T c (sp_sg T c Z y (gL Z y)).1 (sp_sg T c Z y (gL Z y)).2 (gL Z y % 2) = gO Z y)))] (ab_S nr h g rr) _
  refine ab_if_ne (tgt := 109) de_M_faults_103 rfl (fun c_103_1 => ?_) (fun c_103_1 => ?_)
  · refine ab_iinc (v := nI (y + 1)) (L' := [(3, .int (nI (y + 1))), (0, .ref 30), (1, .int (nI c)), (2, .int (nI (s + sp_sum (sp_fk T c Z y) (gL Z y))))]) de_M_faults_109 3 rfl (by rw [show Int32.ofInt 1 = nI 1 from rfl, ab_add]) (by decide) rfl ?_
    refine ab_goto (tgt := 22) de_M_faults_112 rfl ?_
    refine ab_sub (L' := [(0, .ref 30), (1, .int (nI c)), (2, .int (nI (s + sp_sum (sp_fk T c Z y) (gL Z y)))), (3, .int (nI (y + 1)))]) [1, 2, 3, 0] rfl ?_
    have e_ : s + sp_fg T c Z y = s + sp_sum (sp_fk T c Z y) (gL Z y) := by
      rw [fe_, if_pos (show sp_wng T c Z y (gL Z y) = gO Z y from of_decide_eq_true ((ab_bz1 _).mp c_103_1))]
      rfl
    rw [e_] at kx
    exact kx
  · refine ab_iinc (v := nI (s + sp_sum (sp_fk T c Z y) (gL Z y) + 1)) (L' := [(2, .int (nI (s + sp_sum (sp_fk T c Z y) (gL Z y) + 1))), (0, .ref 30), (1, .int (nI c)), (3, .int (nI y))]) de_M_faults_106 2 rfl (by rw [show Int32.ofInt 1 = nI 1 from rfl, ab_add]) (by decide) rfl ?_
    refine ab_iinc (v := nI (y + 1)) (L' := [(3, .int (nI (y + 1))), (2, .int (nI (s + sp_sum (sp_fk T c Z y) (gL Z y) + 1))), (0, .ref 30), (1, .int (nI c))]) de_M_faults_109 3 rfl (by rw [show Int32.ofInt 1 = nI 1 from rfl, ab_add]) (by decide) rfl ?_
    refine ab_goto (tgt := 22) de_M_faults_112 rfl ?_
    refine ab_sub (L' := [(0, .ref 30), (1, .int (nI c)), (2, .int (nI (s + sp_sum (sp_fk T c Z y) (gL Z y) + 1))), (3, .int (nI (y + 1)))]) [2, 3, 1, 0] rfl ?_
    have e_ : s + sp_fg T c Z y = s + sp_sum (sp_fk T c Z y) (gL Z y) + 1 := by
      rw [fe_, if_neg (show ¬ sp_wng T c Z y (gL Z y) = gO Z y from of_decide_eq_false ((ab_bz0 _).mp c_103_1))]
      rfl
    rw [e_] at kx
    exact kx
set_option maxHeartbeats 1000000 in
set_option maxRecDepth 10000 in
theorem lp_M_faults_g (l : Launch) (d : Nat) (nr : Nat) (h : Nat → Nat → Int32) (g : Nat → Nat → Int64) (rr : Nat → Option Nat) {T : Nat → Nat → Nat} (hTM : bo_T T h 32) (hO : sp_ok T) {c : Nat} (hc : c < 4096) {Z : sp_G} (hZ : gm_ok Z) (hG : md_G Z h) {K : Option Value → ab_Me → Prop} (kx : ∀ (hh : Nat → Nat → Int32), md_sc h hh → ab_G l none am_M_faults (d + 5) 0 0 115 [(0, .ref 30), (1, .int (nI c)), (2, .int (nI (sp_fy T c Z)))] [] (ab_S nr hh g rr) (K)) : ∀ (fu_ y : Nat) (hh : Nat → Nat → Int32), y ≤ (gN Z) → (gN Z) < y + fu_ → md_sc h hh → ab_G l none am_M_faults (d + 5) 0 0 22 [(0, .ref 30), (1, .int (nI c)), (2, .int (nI (sp_sum (sp_fg T c Z) y))), (3, .int (nI y))] [] (ab_S nr hh g rr) (K) := by
  intro fu_
  induction fu_ with
  | zero => intro y hh h1 h2; omega
  | succ fu_ ih =>
    intro y hh hN_ hn_ hf0
    have y6_ := hZ.1
    have hGh := md_G_sc hf0 hG
    refine ab_iload_n de_M_faults_22 3 rfl ?_
    refine ab_aload_n de_M_faults_23 0 rfl ?_
    refine ab_get (v := .int (hh 30 1)) fl_M_84 rfl rfl de_M_faults_24 ?_
    refine ab_top (v' := nI (gN Z)) (hGh.1) ?_
    refine ab_icmp_ge (tgt := 115) de_M_faults_27 rfl (fun c_27_1 => ?_) (fun c_27_1 => ?_)
    · have hy := (ab_le (by omega) (by omega)).mp c_27_1
      refine ab_sub (L' := [(0, .ref 30), (1, .int (nI c)), (2, .int (nI (sp_sum (sp_fg T c Z) y)))]) [0, 1, 2] rfl ?_
      have k_ : y = gN Z := by omega
      subst k_
      exact kx hh hf0
    · have hy := Nat.lt_of_not_le (fun z_ => c_27_1 ((ab_le (by omega) (by omega)).mpr z_))
      have l20_ := (hZ.2 y hy).2.2.2.1
      refine ab_aload_n de_M_faults_30 0 rfl ?_
      refine ab_iload_n de_M_faults_31 3 rfl ?_
      refine ab_cV (as := [.int (nI y)]) (st := []) (ct_M_begins l _ nr hh g rr hZ hGh (y := y) hy) mo_M_begins mi_M_begins ml_M_245 rfl (by decide) rfl rfl rfl (Nat.le_of_ble_eq_true rfl) de_M_faults_32 (fun v_ M_ hK_ hl_ hv_ => ?_)
      obtain ⟨rfl, hm_⟩ := hK_
      have hm_ := hm_.symm
      subst hm_
      change ab_G _ _ _ _ _ _ _ [(0, .ref 30), (1, .int (nI c)), (2, .int (nI (sp_sum (sp_fg T c Z) y))), (3, .int (nI y))] [] (ab_S nr (md_gp hh (gA Z y) (gB Z y)) g rr) _
      refine ab_iconst (v := 0) de_M_faults_35 rfl ?_
      refine ab_istore (L' := [(4, .int (0 : Int32)), (0, .ref 30), (1, .int (nI c)), (2, .int (nI (sp_sum (sp_fg T c Z) y))), (3, .int (nI y))]) de_M_faults_36 (by decide) rfl ?_
      refine ab_sub (L' := [(0, .ref 30), (1, .int (nI c)), (2, .int (nI (sp_sum (sp_fg T c Z) y))), (3, .int (nI y)), (4, .int (nI 0))]) [1, 2, 3, 4, 0] rfl ?_
      refine lp_M_faults_k l d nr h g rr hTM hO hc hZ hG hy (s := sp_sum (sp_fg T c Z) y) (fun hh h0_ h1_ h2_ => ?_) (gL Z y + 1) 0 (md_gp hh (gA Z y) (gB Z y)) (by omega) (by omega) (md_sc_tr hf0 (md_gp_sc hh _ _)) rfl rfl
      refine st_M_faults_97 l d nr hh g rr (md_T_sc h0_ hTM) hO hc hZ (md_G_sc h0_ hG) hy h1_ h2_ ?_
      exact ih (y + 1) hh (by omega) (by omega) h0_
def md_s2 (h h' : Nat → Nat → Int32) : Prop := ∀ a b, ¬ md_scr a b → ¬ a = 46 → ¬ (a = 30 ∧ b = 32) → h' a b = h a b
theorem md_s2_sc {h h1 h2 : Nat → Nat → Int32} (a : md_s2 h h1) (b : md_sc h1 h2) : md_s2 h h2 := fun x y z w v => (b x y z).trans (a x y z w v)
theorem md_s2_46 {h h1 : Nat → Nat → Int32} (a : md_s2 h h1) (k : Nat) (v : Int32) : md_s2 h (ab_u2 h1 46 k v) := fun x y z w u => by
  rw [ab_u2_k w]
  exact a x y z w u
theorem md_s2_32 {h h1 : Nat → Nat → Int32} (a : md_s2 h h1) (v : Int32) : md_s2 h (ab_u2 h1 30 32 v) := fun x y z w u => by
  rw [ab_u2_ne u]
  exact a x y z w u
theorem md_s2_kr {h h1 : Nat → Nat → Int32} (a : md_s2 h h1) : md_kr h h1 := fun x y n => a x y (fun z => n (by
  rcases z with z | z
  · exact Or.inl ⟨by omega, by omega⟩
  · exact Or.inr ⟨z.1, by omega⟩)) (fun z => n (Or.inl ⟨by omega, by omega⟩)) (fun z => n (Or.inr ⟨z.1, by omega⟩))
theorem md_s2_e {h h1 : Nat → Nat → Int32} (a : md_s2 h h1) {x y : Nat} (h2 : x ≠ 44) (h4 : x ≠ 46) (h3 : ¬ (x = 30 ∧ (y = 24 ∨ y = 25 ∨ y = 27 ∨ y = 28 ∨ y = 32))) : h1 x y = h x y := a x y (fun z => by
  rcases z with z | z
  · exact h2 z
  · exact h3 ⟨z.1, by omega⟩) h4 (fun z => h3 ⟨z.1, by omega⟩)
theorem md_s2_K {T : Nat → Nat → Nat} {Z : sp_G} {h h' : Nat → Nat → Int32} (a : md_s2 h h') (hf : ∀ c, 1 ≤ c → c < 4096 → h' 46 c = nI (sp_fy T c Z)) (hK : md_K T Z h) : md_K T Z h' := by
  have e1 := md_s2_e a (x := 30) (y := 31) (by decide) (by decide) (by decide)
  have e2 := md_s2_e a (x := 30) (y := 33) (by decide) (by decide) (by decide)
  have e4 : h' 45 = h 45 := funext fun b => md_s2_e a (by decide) (by decide) (fun z => by cases z.1)
  refine ⟨?_, ?_, Or.inr hf⟩
  · unfold md_fk fo_in
    rw [e1, e4]
    exact hK.1
  · rw [e2]
    exact hK.2.1
set_option maxHeartbeats 1000000 in
set_option maxRecDepth 10000 in
theorem st_M_faults_115 (l : Launch) (d : Nat) (nr : Nat) (h : Nat → Nat → Int32) (g : Nat → Nat → Int64) (rr : Nat → Option Nat) {T : Nat → Nat → Nat} {Z : sp_G} {c : Nat} (hc : c < 4096) {K : Option Value → ab_Me → Prop} (kx : ab_G l none am_M_faults (d + 5) 0 0 11 [(0, .ref 30), (1, .int (nI (c + 1)))] [] (ab_S nr (ab_u2 h 46 c (nI (sp_fy T c Z))) g rr) (K)) : ab_G l none am_M_faults (d + 5) 0 0 115 [(0, .ref 30), (1, .int (nI c)), (2, .int (nI (sp_fy T c Z)))] [] (ab_S nr h g rr) (K) := by

  refine ab_aload_n de_M_faults_115 0 rfl ?_
  refine ab_get (v := .ref 46) fl_M_60 rfl rfl de_M_faults_116 ?_
  refine ab_iload_n de_M_faults_119 1 rfl ?_
  refine ab_iload_n de_M_faults_120 2 rfl ?_
  refine ab_iast (x := 46) rfl (ab_in (by omega) (by decide)) de_M_faults_121 ?_
  rw [(ab_tn (n := c) (by omega))]
  change ab_G _ _ _ _ _ _ _ _ _ (ab_S nr (ab_u2 h 46 c (nI (sp_fy T c Z))) g rr) _
  refine ab_iinc (v := nI (c + 1)) (L' := [(1, .int (nI (c + 1))), (0, .ref 30), (2, .int (nI (sp_fy T c Z)))]) de_M_faults_122 1 rfl (by rw [show Int32.ofInt 1 = nI 1 from rfl, ab_add]) (by decide) rfl ?_
  refine ab_goto (tgt := 11) de_M_faults_125 rfl ?_
  refine ab_sub (L' := [(0, .ref 30), (1, .int (nI (c + 1)))]) [1, 0] rfl ?_
  exact kx
set_option maxHeartbeats 1000000 in
set_option maxRecDepth 10000 in
theorem lp_M_faults (l : Launch) (d : Nat) (nr : Nat) (h : Nat → Nat → Int32) (g : Nat → Nat → Int64) (rr : Nat → Option Nat) {T : Nat → Nat → Nat} (hTM : bo_T T h 32) (hO : sp_ok T) {Z : sp_G} (hZ : gm_ok Z) (hG : md_G Z h) (hK : md_K T Z h) : ∀ (fu_ c : Nat) (hh : Nat → Nat → Int32), c ≤ 4096 → 4096 < c + fu_ → 1 ≤ c → md_s2 h hh → (∀ e_, 1 ≤ e_ → e_ < c → hh 46 e_ = nI (sp_fy T e_ Z)) → ab_G l none am_M_faults (d + 5) 0 0 11 [(0, .ref 30), (1, .int (nI c))] [] (ab_S nr hh g rr) (fun (r_ : Option Value) (M' : ab_Me) => r_ = none ∧ ∃ h', M' = ab_S nr h' g rr ∧ md_kr h h' ∧ md_K T Z h' ∧ h' 30 32 = 1 ∧ (∀ c, 1 ≤ c → c < 4096 → h' 46 c = nI (sp_fy T c Z)) ∧ h' 30 31 = h 30 31) := by
  intro fu_
  induction fu_ with
  | zero => intro c hh h1 h2; omega
  | succ fu_ ih =>
    intro c hh hN_ hn_ hf0 hf1 hf2
    refine ab_iload_n de_M_faults_11 1 rfl ?_
    refine ab_sipush (v := 4096) de_M_faults_12 rfl ?_
    refine ab_icmp_ge (tgt := 128) de_M_faults_15 rfl (fun c_15_1 => ?_) (fun c_15_1 => ?_)
    · have hc := ab_le_of (n := 4096) (by decide) (by omega) rfl c_15_1
      refine ab_aload_n de_M_faults_128 0 rfl ?_
      refine ab_iconst (v := 1) de_M_faults_129 rfl ?_
      refine ab_putI (x := 30) (j := 32) fl_M_258 rfl (Or.inl rfl) rfl rfl rfl de_M_faults_130 ?_
      change ab_G _ _ _ _ _ _ _ _ _ (ab_S nr (ab_u2 hh 30 32 (1 : Int32)) g rr) _
      exact ab_ret (v := none) de_M_faults_133 rfl (by
    have f_ : ∀ e_, 1 ≤ e_ → e_ < 4096 → ab_u2 hh 30 32 1 46 e_ = nI (sp_fy T e_ Z) := fun e_ x1_ x2_ => by
      rw [ab_u2_k (by decide)]
      exact hf2 e_ x1_ (by omega)
    have s_ := md_s2_32 hf1 1
    exact ⟨rfl, _, rfl, md_s2_kr s_, md_s2_K s_ f_ hK, rfl, f_, md_s2_e s_ (by decide) (by decide) (by decide)⟩)
    · have hc := ab_nle_of (n := 4096) (by decide) (by omega) rfl c_15_1
      refine ab_iconst (v := 0) de_M_faults_18 rfl ?_
      refine ab_istore_n (L' := [(2, .int (0 : Int32)), (0, .ref 30), (1, .int (nI c))]) de_M_faults_19 (by decide) rfl ?_
      refine ab_iconst (v := 0) de_M_faults_20 rfl ?_
      refine ab_istore_n (L' := [(3, .int (0 : Int32)), (2, .int (0 : Int32)), (0, .ref 30), (1, .int (nI c))]) de_M_faults_21 (by decide) rfl ?_
      refine ab_sub (L' := [(0, .ref 30), (1, .int (nI c)), (2, .int (nI (sp_sum (sp_fg T c Z) 0))), (3, .int (nI 0))]) [2, 3, 1, 0] rfl ?_
      have kr_ := md_s2_kr hf1
      refine lp_M_faults_g l d nr hh g rr (md_T_kr kr_ hTM) hO (by omega) hZ (md_G_kr kr_ hG) (fun h1_ s1_ => ?_) (gN Z + 1) 0 hh (by omega) (by omega) (md_sc_rf hh)
      refine st_M_faults_115 l d nr h1_ g rr (by omega) ?_
      exact ih (c + 1) _ (by omega) (by omega) (by omega) (md_s2_46 (md_s2_sc hf1 s1_) c _) (fun e_ x1_ x2_ => by
        by_cases w_ : e_ = c
        · rw [w_]; exact ab_u2_at
        · rw [ab_u2_ne (fun z => w_ z.2)]
          exact (congrFun (md_sc_row s1_ (by decide) (by decide)) e_).trans (hf2 e_ x1_ (by omega)))
set_option maxHeartbeats 1000000 in
set_option maxRecDepth 10000 in
theorem ct_M_faults (l : Launch) (d : Nat) (nr : Nat) (h : Nat → Nat → Int32) (g : Nat → Nat → Int64) (rr : Nat → Option Nat) {T : Nat → Nat → Nat} (hTM : bo_T T h 32) (hO : sp_ok T) {Z : sp_G} (hZ : gm_ok Z) (hG : md_G Z h) (hK : md_K T Z h) : ab_C l am_M_faults (d + 5) 0 0 [.ref 30] (ab_S nr h g rr) (fun (r_ : Option Value) (M' : ab_Me) => r_ = none ∧ ∃ h', M' = ab_S nr h' g rr ∧ md_kr h h' ∧ md_K T Z h' ∧ h' 30 32 = 1 ∧ (∀ c, 1 ≤ c → c < 4096 → h' 46 c = nI (sp_fy T c Z)) ∧ h' 30 31 = h 30 31) := by
  refine ab_C_of (by decide +kernel) rfl (Nat.le_of_ble_eq_true rfl) ?_
  refine ab_aload_n de_M_faults_0 0 rfl ?_
  refine ab_get (v := .int (h 30 32)) fl_M_258 rfl rfl de_M_faults_1 ?_
  refine ab_iconst (v := 1) de_M_faults_4 rfl ?_
  refine ab_icmp_ne (tgt := 9) de_M_faults_5 rfl (fun c_5_1 => ?_) (fun c_5_1 => ?_)
  · refine ab_iconst (v := 1) de_M_faults_9 rfl ?_
    refine ab_istore_n (L' := [(1, .int (1 : Int32)), (0, .ref 30)]) de_M_faults_10 (by decide) rfl ?_
    refine ab_sub (L' := [(0, .ref 30), (1, .int (nI 1))]) [1, 0] rfl ?_
    exact lp_M_faults l d nr h g rr hTM hO hZ hG hK 4096 1 h (by omega) (by omega) (by omega) (fun _ _ _ _ _ => rfl) (fun e_ x1_ x2_ => absurd x2_ (by omega))
  · exact ab_ret (v := none) de_M_faults_8 rfl ⟨rfl, h, rfl, md_kr_rf h, hK, c_5_1, hK.2.2.resolve_left (fun z => z c_5_1), rfl⟩
