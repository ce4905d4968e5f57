/-! the reference: what is kept; RIVALS; TIGHT -/
def md_K (T : Nat → Nat → Nat) (Z : sp_G) (h : Nat → Nat → Int32) : Prop := (h 30 31 = -1 ∨ md_fk (sp_ok1 T Z) h) ∧ (h 30 33 = -1 ∨ (¬ sp_to (sp_ok1 T Z) = 0 ∧ h 30 33 = nI (sp_ti T Z))) ∧ (¬ h 30 32 = 1 ∨ ∀ c, 1 ≤ c → c < 4096 → h 46 c = nI (sp_fy T c Z))
theorem md_K_fit {T : Nat → Nat → Nat} {Z : sp_G} {h h' : Nat → Nat → Int32} (hK : md_K T Z h) (k2 : md_fk (sp_ok1 T Z) h') (k3 : h' = h ∨ h' 30 32 = 0) (k4 : h' 30 33 = h 30 33) : md_K T Z h' := by
  refine ⟨Or.inr k2, by rw [k4]; exact hK.2.1, ?_⟩
  rcases k3 with z | z
  · rw [z]; exact hK.2.2
  · exact Or.inl (by rw [z]; decide)
theorem md_K_fr {T : Nat → Nat → Nat} {Z : sp_G} {h h' : Nat → Nat → Int32} (e1 : h' 30 31 = h 30 31) (e2 : h' 30 32 = h 30 32) (e3 : h' 30 33 = h 30 33) (e4 : h' 45 = h 45) (e5 : h' 46 = h 46) (hK : md_K T Z h) : md_K T Z h' := by
  unfold md_K md_fk fo_in
  rw [e1, e2, e3, e4, e5]
  exact hK
theorem md_K_sc {T : Nat → Nat → Nat} {Z : sp_G} {h h' : Nat → Nat → Int32} (H : md_sc h h') (hK : md_K T Z h) : md_K T Z h' := md_K_fr (md_sc_30 H (by decide) (by decide) (by decide) (by decide)) (md_sc_30 H (by decide) (by decide) (by decide) (by decide)) (md_sc_30 H (by decide) (by decide) (by decide) (by decide)) (md_sc_row H (by decide) (by decide)) (md_sc_row H (by decide) (by decide)) hK
theorem md_K_31 {T : Nat → Nat → Nat} {Z : sp_G} {h : Nat → Nat → Int32} (hK : md_K T Z h) (k : Nat) (x : Int32) : md_K T Z (ab_u2 h 31 k x) := md_K_fr (ab_u2_k (by decide)) (ab_u2_k (by decide)) (ab_u2_k (by decide)) (ab_u2_row (by decide)) (ab_u2_row (by decide)) hK
theorem md_kr_31 {h h' : Nat → Nat → Int32} (hf : md_kr h h') (k : Nat) : md_kr (ab_u2 h 31 k (h 31 k + 1)) (ab_u2 h' 31 k (h' 31 k + 1)) := fun a b n => by
  have e := md_kr_row hf (a := 31) (by decide) (by decide)
  by_cases z : a = 31 ∧ b = k
  · obtain ⟨rfl, rfl⟩ := z
    rw [ab_u2_at, ab_u2_at, e]
  · rw [ab_u2_ne z, ab_u2_ne z]
    exact hf a b n
set_option maxHeartbeats 1000000 in
set_option maxRecDepth 10000 in
theorem lp_M_rivalsBy (l : Launch) (d : Nat) (nr : Nat) (h : Nat → Nat → Int32) (g : Nat → Nat → Int64) (rr : Nat → Option Nat) {T : Nat → Nat → Nat} (hTM : bo_T T h 32) (hO : sp_ok T) {Z : sp_G} (hZ : gm_ok Z) (hG : md_G Z h) (hK : md_K T Z h) {x : Nat} (hx : x < 10) : ∀ (fu_ j : Nat) (hh : Nat → Nat → Int32), j ≤ (sp_to (sp_ok1 T Z)) → (sp_to (sp_ok1 T Z)) < j + fu_ → md_kr h hh → md_K T Z hh → j ≤ sp_rv (sp_ok1 T Z) x → ab_G l none am_M_rivalsBy (d + 8) 0 0 2 [(0, .ref 30), (1, .int (nI x)), (2, .int (nI j))] [] (ab_S nr hh g rr) (fun (r_ : Option Value) (M' : ab_Me) => r_ = some (.int (nI (sp_rv (sp_ok1 T Z) x))) ∧ ∃ h', M' = ab_S nr h' g rr ∧ md_kr h h' ∧ md_K T Z h' ∧ md_fk (sp_ok1 T Z) h') := by
  intro fu_
  induction fu_ with
  | zero => intro j hh h1 h2; omega
  | succ fu_ ih =>
    intro j hh hN_ hn_ hf0 hf1 hf2
    have r1_ := sp_rv_le (sp_ok1 T Z) x
    have r2_ := sp_to_lt (f := (sp_ok1 T Z))
    refine ab_iload_n de_M_rivalsBy_2 2 rfl ?_
    refine ab_aload_n de_M_rivalsBy_3 0 rfl ?_
    refine ab_cV (as := []) (st := [.int (nI j)]) (ct_M_fitting l _ nr hh g rr (md_T_kr hf0 hTM) hO hZ (md_G_kr hf0 hG) hf1.1) mo_M_fitting mi_M_fitting ml_M_264 rfl (by decide) rfl rfl rfl (Nat.le_of_ble_eq_true rfl) de_M_rivalsBy_4 (fun v_ M_ hK_ hl_ hv_ => ?_)
    obtain ⟨rfl, h1_, rfl, k1_, k2_, k3_, k4_⟩ := hK_
    change ab_G _ _ _ _ _ _ _ [(0, .ref 30), (1, .int (nI x)), (2, .int (nI j))] [.int (nI (sp_to (sp_ok1 T Z))), .int (nI j)] (ab_S nr h1_ g rr) _
    have kk_h1_ : md_K T Z h1_ := md_K_fit hf1 k2_ k3_ k4_
    have ff_h1_ : md_kr h h1_ := md_kr_tr hf0 k1_
    have fo_h1_ := k2_.2
    refine ab_icmp_ge (tgt := 41) de_M_rivalsBy_7 rfl (fun c_7_1 => ?_) (fun c_7_1 => ?_)
    · have hj := c_7_1
      refine ab_iload_n de_M_rivalsBy_41 2 rfl ?_
      exact ab_ret (v := some (.int (nI j))) de_M_rivalsBy_42 ⟨_, rfl⟩ (by
    have e_ : j = sp_rv (sp_ok1 T Z) x := by
      have := (ab_le (by omega) (by omega)).mp c_7_1
      omega
    exact ⟨by rw [e_], h1_, rfl, ff_h1_, kk_h1_, k2_⟩)
    · have hj := Nat.lt_of_not_le (fun z_ => c_7_1 ((ab_le (by omega) (by omega)).mpr z_))
      have p1_ := sp_pr22 (sp_fo (sp_ok1 T Z) j)
      have p2_ := sp_pr22 (sp_fo (sp_ok1 T Z) 0)
      refine ab_aload_n de_M_rivalsBy_10 0 rfl ?_
      refine ab_aload_n de_M_rivalsBy_11 0 rfl ?_
      refine ab_get (v := .ref 45) fl_M_57 rfl rfl de_M_rivalsBy_12 ?_
      refine ab_iload_n de_M_rivalsBy_15 2 rfl ?_
      refine ab_iald (v := h1_ 45 j) rfl (ab_in (by omega) (by decide)) (ab_hv (ab_tn (n := j) (by omega))) de_M_rivalsBy_16 ?_
      refine ab_top (v' := nI (sp_fo (sp_ok1 T Z) j)) (fo_h1_ j (by omega)) ?_
      refine ab_cV (as := [.int (nI (sp_fo (sp_ok1 T Z) j))]) (st := []) (ct_M_priceOf l _ nr h1_ g rr (c := (sp_fo (sp_ok1 T Z) j)) (sp_fo_ok (f := (sp_ok1 T Z)) (by omega)).1) mo_M_priceOf mi_M_priceOf ml_M_116 rfl (by decide) rfl rfl rfl (Nat.le_of_ble_eq_true rfl) de_M_rivalsBy_17 (fun v_ M_ hK_ hl_ hv_ => ?_)
      obtain ⟨rfl, hm_⟩ := hK_
      have hm_ := hm_.symm
      subst hm_
      change ab_G _ _ _ _ _ _ _ [(0, .ref 30), (1, .int (nI x)), (2, .int (nI j))] [.int (nI (sp_pr (sp_fo (sp_ok1 T Z) j)))] (ab_S nr h1_ g rr) _
      refine ab_aload_n de_M_rivalsBy_20 0 rfl ?_
      refine ab_aload_n de_M_rivalsBy_21 0 rfl ?_
      refine ab_get (v := .ref 45) fl_M_57 rfl rfl de_M_rivalsBy_22 ?_
      refine ab_iconst (v := 0) de_M_rivalsBy_25 rfl ?_
      refine ab_iald (v := h1_ 45 0) rfl (show vp_in (nI 0) _ from ab_in (by decide) (by decide)) (ab_hv (show (nI 0).toNatClampNeg = 0 from ab_tn (by decide))) de_M_rivalsBy_26 ?_
      refine ab_top (v' := nI (sp_fo (sp_ok1 T Z) 0)) (fo_h1_ 0 (by omega)) ?_
      refine ab_cV (as := [.int (nI (sp_fo (sp_ok1 T Z) 0))]) (st := [.int (nI (sp_pr (sp_fo (sp_ok1 T Z) j)))]) (ct_M_priceOf l _ nr h1_ g rr (c := (sp_fo (sp_ok1 T Z) 0)) (sp_fo_ok (f := (sp_ok1 T Z)) (by omega)).1) mo_M_priceOf mi_M_priceOf ml_M_116 rfl (by decide) rfl rfl rfl (Nat.le_of_ble_eq_true rfl) de_M_rivalsBy_27 (fun v_ M_ hK_ hl_ hv_ => ?_)
      obtain ⟨rfl, hm_⟩ := hK_
      have hm_ := hm_.symm
      subst hm_
      change ab_G _ _ _ _ _ _ _ [(0, .ref 30), (1, .int (nI x)), (2, .int (nI j))] [.int (nI (sp_pr (sp_fo (sp_ok1 T Z) 0))), .int (nI (sp_pr (sp_fo (sp_ok1 T Z) j)))] (ab_S nr h1_ g rr) _
      refine ab_iload_n de_M_rivalsBy_30 1 rfl ?_
      refine ab_iadd de_M_rivalsBy_31 ?_
      refine ab_top (v' := nI (sp_pr (sp_fo (sp_ok1 T Z) 0) + x)) (ab_add _ _) ?_
      refine ab_icmp_gt (tgt := 41) de_M_rivalsBy_32 rfl (fun c_32_2 => ?_) (fun c_32_2 => ?_)
      · refine ab_iload_n de_M_rivalsBy_41 2 rfl ?_
        exact ab_ret (v := some (.int (nI j))) de_M_rivalsBy_42 ⟨_, rfl⟩ (by
    have n_ : ¬ j < sp_rv (sp_ok1 T Z) x := fun z => by
      have y := (sp_rv_iff (f := (sp_ok1 T Z)) (x := x) (by omega)).mp z
      have w := (ab_lt (by omega) (by omega)).mp c_32_2
      omega
    have e_ : j = sp_rv (sp_ok1 T Z) x := by omega
    exact ⟨by rw [e_], h1_, rfl, ff_h1_, kk_h1_, k2_⟩)
      · refine ab_iinc (v := nI (j + 1)) (L' := [(2, .int (nI (j + 1))), (0, .ref 30), (1, .int (nI x))]) de_M_rivalsBy_35 2 rfl (by rw [show Int32.ofInt 1 = nI 1 from rfl, ab_add]) (by decide) rfl ?_
        refine ab_goto (tgt := 2) de_M_rivalsBy_38 rfl ?_
        refine ab_sub (L' := [(0, .ref 30), (1, .int (nI x)), (2, .int (nI (j + 1)))]) [1, 2, 0] rfl ?_
        exact ih (j + 1) h1_ (by omega) (by omega) (ff_h1_) (kk_h1_) ((sp_rv_iff (f := (sp_ok1 T Z)) (x := x) (by omega)).mpr (Nat.le_of_not_lt (fun z => c_32_2 ((ab_lt (by omega) (by omega)).mpr z))))
set_option maxHeartbeats 1000000 in
set_option maxRecDepth 10000 in
theorem ct_M_rivalsBy (l : Launch) (d : Nat) (nr : Nat) (h : Nat → Nat → Int32) (g : Nat → Nat → Int64) (rr : Nat → Option Nat) {T : Nat → Nat → Nat} (hTM : bo_T T h 32) (hO : sp_ok T) {Z : sp_G} (hZ : gm_ok Z) (hG : md_G Z h) (hK : md_K T Z h) {x : Nat} (hx : x < 10) : ab_C l am_M_rivalsBy (d + 8) 0 0 [.ref 30, .int (nI x)] (ab_S nr h g rr) (fun (r_ : Option Value) (M' : ab_Me) => r_ = some (.int (nI (sp_rv (sp_ok1 T Z) x))) ∧ ∃ h', M' = ab_S nr h' g rr ∧ md_kr h h' ∧ md_K T Z h' ∧ md_fk (sp_ok1 T Z) h') := by
  refine ab_C_of (by decide +kernel) rfl (Nat.le_of_ble_eq_true rfl) ?_
  refine ab_iconst (v := 0) de_M_rivalsBy_0 rfl ?_
  refine ab_istore_n (L' := [(2, .int (0 : Int32)), (0, .ref 30), (1, .int (nI x))]) de_M_rivalsBy_1 (by decide) rfl ?_
  refine ab_sub (L' := [(0, .ref 30), (1, .int (nI x)), (2, .int (nI 0))]) [1, 2, 0] rfl ?_
  exact lp_M_rivalsBy l d nr h g rr hTM hO hZ hG hK hx (sp_to (sp_ok1 T Z) + 1) 0 h (by omega) (by omega) (md_kr_rf h) hK (Nat.zero_le _)
