/-! the reference: SURE, ASK, LEFT -/
def md_aw (p : Nat × Int32) : Int32 := if p.2 = -1 then 0 else nI p.1
theorem md_as_c (V : Nat → Nat) (n : Nat) : ∀ k, sp_as V n k = (n, -1) ∨ ∃ a, a < k ∧ sp_as V n k = (max (V a) (n - V a), nI a) ∧ max (V a) (n - V a) < n
  | 0 => Or.inl rfl
  | k + 1 => by
    rw [sp_as]
    rcases md_as_c V n k with z | ⟨a, z1, z2, z3⟩
    · rw [z]
      dsimp only
      split
      · rename_i w
        exact Or.inr ⟨k, by omega, rfl, w⟩
      · exact Or.inl rfl
    · rw [z2]
      dsimp only
      split
      · rename_i w
        exact Or.inr ⟨k, by omega, rfl, by omega⟩
      · exact Or.inr ⟨a, by omega, rfl, z3⟩
theorem md_as_n {V : Nat → Nat} {n k : Nat} (h : ¬ max (V k) (n - V k) < (sp_as V n k).1) : sp_as V n (k + 1) = sp_as V n k := by rw [sp_as, if_neg h]
theorem md_as_y {V : Nat → Nat} {n k : Nat} (h : max (V k) (n - V k) < (sp_as V n k).1) : sp_as V n (k + 1) = (max (V k) (n - V k), nI k) := by rw [sp_as, if_pos h]
theorem md_as_0 {V : Nat → Nat} {n k : Nat} (h : V k = 0 ∨ V k = n) : sp_as V n (k + 1) = sp_as V n k := md_as_n (by
  have := sp_as_le V n k
  omega)
theorem md_vt_252 {T : Nat → Nat → Nat} (hO : sp_ok T) (f : Nat → Bool) (m i n : Nat) {x : Nat} (h1 : 252 ≤ x) (h2 : x < 256) : sp_vt T f m i n x = 0 := by
  unfold sp_vt
  rw [sp_sum_cong (g := fun _ => 0) (fun j _ => by
    unfold sp_iv
    rw [sp_bit12 (sp_tg_lt hO _ m i (x / 16)) (show 12 ≤ x % 16 by omega)]
    rfl), sp_sum_0]
theorem md_as_256 {T : Nat → Nat → Nat} (hO : sp_ok T) (f : Nat → Bool) (m i n : Nat) : sp_as (sp_vt T f m i n) n 256 = sp_as (sp_vt T f m i n) n 252 := by
  rw [md_as_0 (Or.inl (md_vt_252 hO f m i n (by decide) (by decide))), md_as_0 (Or.inl (md_vt_252 hO f m i n (by decide) (by decide))), md_as_0 (Or.inl (md_vt_252 hO f m i n (by decide) (by decide))), md_as_0 (Or.inl (md_vt_252 hO f m i n (by decide) (by decide)))]
set_option maxHeartbeats 1000000 in
set_option maxRecDepth 10000 in
theorem ct_M_fitting_k (l : Launch) (d : Nat) (nr : Nat) (h : Nat → Nat → Int32) (g : Nat → Nat → Int64) (rr : Nat → Option Nat) {T : Nat → Nat → Nat} (hTM : bo_T T h 32) (hO : sp_ok T) {Z : sp_G} (hZ : gm_ok Z) (hG : md_G Z h) (hfk : md_fk (sp_ok1 T Z) h) : ab_C l am_M_fitting (d + 7) 0 0 [.ref 30] (ab_S nr h g rr) (fun (r_ : Option Value) (M' : ab_Me) => r_ = some (.int (nI (sp_to (sp_ok1 T Z)))) ∧ M' = (ab_S nr h g rr)) := by
  refine ab_C_of (by decide +kernel) rfl (Nat.le_of_ble_eq_true rfl) ?_
  refine ab_aload_n de_M_fitting_0 0 rfl ?_
  refine ab_get (v := .int (h 30 31)) fl_M_63 rfl rfl de_M_fitting_1 ?_
  refine ab_top (v' := nI (sp_to (sp_ok1 T Z))) (hfk.1) ?_
  refine ab_iconst (v := -1) de_M_fitting_4 rfl ?_
  refine ab_icmp_eq (tgt := 13) de_M_fitting_5 rfl (fun c_5_1 => ?_) (fun c_5_1 => ?_)
  · exact absurd c_5_1 (sp_nI_ne (by have := sp_to_lt (f := (sp_ok1 T Z)); omega))
  · refine ab_aload_n de_M_fitting_8 0 rfl ?_
    refine ab_get (v := .int (h 30 31)) fl_M_63 rfl rfl de_M_fitting_9 ?_
    refine ab_top (v' := nI (sp_to (sp_ok1 T Z))) (hfk.1) ?_
    exact ab_ret (v := some (.int (nI (sp_to (sp_ok1 T Z))))) de_M_fitting_12 ⟨_, rfl⟩ ⟨rfl, rfl⟩
set_option maxHeartbeats 1000000 in
set_option maxRecDepth 10000 in
theorem lp_M_rivalsBy_k (l : Launch) (d : Nat) (nr : Nat) (h : Nat → Nat → Int32) (g : Nat → Nat → Int64) (rr : Nat → Option Nat) {T : Nat → Nat → Nat} (hTM : bo_T T h 32) (hO : sp_ok T) {Z : sp_G} (hZ : gm_ok Z) (hG : md_G Z h) (hfk : md_fk (sp_ok1 T Z) h) {x : Nat} (hx : x < 10) : ∀ (fu_ j : Nat), j ≤ (sp_to (sp_ok1 T Z)) → (sp_to (sp_ok1 T Z)) < j + fu_ → j ≤ sp_rv (sp_ok1 T Z) x → ab_G l none am_M_rivalsBy (d + 8) 0 0 2 [(0, .ref 30), (1, .int (nI x)), (2, .int (nI j))] [] (ab_S nr h g rr) (fun (r_ : Option Value) (M' : ab_Me) => r_ = some (.int (nI (sp_rv (sp_ok1 T Z) x))) ∧ M' = (ab_S nr h g rr)) := by
  intro fu_
  induction fu_ with
  | zero => intro j  h1 h2; omega
  | succ fu_ ih =>
    intro j  hN_ hn_ hf0
    have r1_ := sp_rv_le (sp_ok1 T Z) x
    have r2_ := sp_to_lt (f := (sp_ok1 T Z))
    refine ab_iload_n de_M_rivalsBy_2 2 rfl ?_
    refine ab_aload_n de_M_rivalsBy_3 0 rfl ?_
    refine ab_cV (as := []) (st := [.int (nI j)]) (ct_M_fitting_k l _ nr h g rr hTM hO hZ hG hfk) mo_M_fitting mi_M_fitting ml_M_264 rfl (by decide) rfl rfl rfl (Nat.le_of_ble_eq_true rfl) de_M_rivalsBy_4 (fun v_ M_ hK_ hl_ hv_ => ?_)
    obtain ⟨rfl, hm_⟩ := hK_
    have hm_ := hm_.symm
    subst hm_
    change ab_G _ _ _ _ _ _ _ [(0, .ref 30), (1, .int (nI x)), (2, .int (nI j))] [.int (nI (sp_to (sp_ok1 T Z))), .int (nI j)] (ab_S nr h g rr) _
    refine ab_icmp_ge (tgt := 41) de_M_rivalsBy_7 rfl (fun c_7_1 => ?_) (fun c_7_1 => ?_)
    · have hj := c_7_1
      refine ab_iload_n de_M_rivalsBy_41 2 rfl ?_
      exact ab_ret (v := some (.int (nI j))) de_M_rivalsBy_42 ⟨_, rfl⟩ (by
    have e_ : j = sp_rv (sp_ok1 T Z) x := by
      have := (ab_le (by omega) (by omega)).mp c_7_1
      omega
    exact ⟨by rw [e_], rfl⟩)
    · have hj := Nat.lt_of_not_le (fun z_ => c_7_1 ((ab_le (by omega) (by omega)).mpr z_))
      have p1_ := sp_pr22 (sp_fo (sp_ok1 T Z) j)
      have p2_ := sp_pr22 (sp_fo (sp_ok1 T Z) 0)
      refine ab_aload_n de_M_rivalsBy_10 0 rfl ?_
      refine ab_aload_n de_M_rivalsBy_11 0 rfl ?_
      refine ab_get (v := .ref 45) fl_M_57 rfl rfl de_M_rivalsBy_12 ?_
      refine ab_iload_n de_M_rivalsBy_15 2 rfl ?_
      refine ab_iald (v := h 45 j) rfl (ab_in (by omega) (by decide)) (ab_hv (ab_tn (n := j) (by omega))) de_M_rivalsBy_16 ?_
      refine ab_top (v' := nI (sp_fo (sp_ok1 T Z) j)) (hfk.2 j (by omega)) ?_
      refine ab_cV (as := [.int (nI (sp_fo (sp_ok1 T Z) j))]) (st := []) (ct_M_priceOf l _ nr h g rr (c := (sp_fo (sp_ok1 T Z) j)) (sp_fo_ok (f := (sp_ok1 T Z)) (by omega)).1) mo_M_priceOf mi_M_priceOf ml_M_116 rfl (by decide) rfl rfl rfl (Nat.le_of_ble_eq_true rfl) de_M_rivalsBy_17 (fun v_ M_ hK_ hl_ hv_ => ?_)
      obtain ⟨rfl, hm_⟩ := hK_
      have hm_ := hm_.symm
      subst hm_
      change ab_G _ _ _ _ _ _ _ [(0, .ref 30), (1, .int (nI x)), (2, .int (nI j))] [.int (nI (sp_pr (sp_fo (sp_ok1 T Z) j)))] (ab_S nr h g rr) _
      refine ab_aload_n de_M_rivalsBy_20 0 rfl ?_
      refine ab_aload_n de_M_rivalsBy_21 0 rfl ?_
      refine ab_get (v := .ref 45) fl_M_57 rfl rfl de_M_rivalsBy_22 ?_
      refine ab_iconst (v := 0) de_M_rivalsBy_25 rfl ?_
      refine ab_iald (v := h 45 0) rfl (show vp_in (nI 0) _ from ab_in (by decide) (by decide)) (ab_hv (show (nI 0).toNatClampNeg = 0 from ab_tn (by decide))) de_M_rivalsBy_26 ?_
      refine ab_top (v' := nI (sp_fo (sp_ok1 T Z) 0)) (hfk.2 0 (by omega)) ?_
      refine ab_cV (as := [.int (nI (sp_fo (sp_ok1 T Z) 0))]) (st := [.int (nI (sp_pr (sp_fo (sp_ok1 T Z) j)))]) (ct_M_priceOf l _ nr h g rr (c := (sp_fo (sp_ok1 T Z) 0)) (sp_fo_ok (f := (sp_ok1 T Z)) (by omega)).1) mo_M_priceOf mi_M_priceOf ml_M_116 rfl (by decide) rfl rfl rfl (Nat.le_of_ble_eq_true rfl) de_M_rivalsBy_27 (fun v_ M_ hK_ hl_ hv_ => ?_)
      obtain ⟨rfl, hm_⟩ := hK_
      have hm_ := hm_.symm
      subst hm_
      change ab_G _ _ _ _ _ _ _ [(0, .ref 30), (1, .int (nI x)), (2, .int (nI j))] [.int (nI (sp_pr (sp_fo (sp_ok1 T Z) 0))), .int (nI (sp_pr (sp_fo (sp_ok1 T Z) j)))] (ab_S nr h g rr) _
      refine ab_iload_n de_M_rivalsBy_30 1 rfl ?_
      refine ab_iadd de_M_rivalsBy_31 ?_
      refine ab_top (v' := nI (sp_pr (sp_fo (sp_ok1 T Z) 0) + x)) (ab_add _ _) ?_
      refine ab_icmp_gt (tgt := 41) de_M_rivalsBy_32 rfl (fun c_32_2 => ?_) (fun c_32_2 => ?_)
      · refine ab_iload_n de_M_rivalsBy_41 2 rfl ?_
        exact ab_ret (v := some (.int (nI j))) de_M_rivalsBy_42 ⟨_, rfl⟩ (by
    have n_ : ¬ j < sp_rv (sp_ok1 T Z) x := fun z => by
      have y := (sp_rv_iff (f := (sp_ok1 T Z)) (x := x) (by omega)).mp z
      have w := (ab_lt (by omega) (by omega)).mp c_32_2
      omega
    have e_ : j = sp_rv (sp_ok1 T Z) x := by omega
    exact ⟨by rw [e_], rfl⟩)
      · refine ab_iinc (v := nI (j + 1)) (L' := [(2, .int (nI (j + 1))), (0, .ref 30), (1, .int (nI x))]) de_M_rivalsBy_35 2 rfl (by rw [show Int32.ofInt 1 = nI 1 from rfl, ab_add]) (by decide) rfl ?_
        refine ab_goto (tgt := 2) de_M_rivalsBy_38 rfl ?_
        refine ab_sub (L' := [(0, .ref 30), (1, .int (nI x)), (2, .int (nI (j + 1)))]) [1, 2, 0] rfl ?_
        exact ih (j + 1)  (by omega) (by omega) ((sp_rv_iff (f := (sp_ok1 T Z)) (x := x) (by omega)).mpr (Nat.le_of_not_lt (fun z => c_32_2 ((ab_lt (by omega) (by omega)).mpr z))))
set_option maxHeartbeats 1000000 in
set_option maxRecDepth 10000 in
theorem ct_M_rivalsBy_k (l : Launch) (d : Nat) (nr : Nat) (h : Nat → Nat → Int32) (g : Nat → Nat → Int64) (rr : Nat → Option Nat) {T : Nat → Nat → Nat} (hTM : bo_T T h 32) (hO : sp_ok T) {Z : sp_G} (hZ : gm_ok Z) (hG : md_G Z h) (hfk : md_fk (sp_ok1 T Z) h) {x : Nat} (hx : x < 10) : ab_C l am_M_rivalsBy (d + 8) 0 0 [.ref 30, .int (nI x)] (ab_S nr h g rr) (fun (r_ : Option Value) (M' : ab_Me) => r_ = some (.int (nI (sp_rv (sp_ok1 T Z) x))) ∧ M' = (ab_S nr h g rr)) := by
  refine ab_C_of (by decide +kernel) rfl (Nat.le_of_ble_eq_true rfl) ?_
  refine ab_iconst (v := 0) de_M_rivalsBy_0 rfl ?_
  refine ab_istore_n (L' := [(2, .int (0 : Int32)), (0, .ref 30), (1, .int (nI x))]) de_M_rivalsBy_1 (by decide) rfl ?_
  refine ab_sub (L' := [(0, .ref 30), (1, .int (nI x)), (2, .int (nI 0))]) [1, 2, 0] rfl ?_
  exact lp_M_rivalsBy_k l d nr h g rr hTM hO hZ hG hfk hx (sp_to (sp_ok1 T Z) + 1) 0 (by omega) (by omega) (Nat.zero_le _)
set_option maxHeartbeats 1000000 in
set_option maxRecDepth 10000 in
theorem lp_M_asked (l : Launch) (d : Nat) (nr : Nat) (h : Nat → Nat → Int32) (g : Nat → Nat → Int64) (rr : Nat → Option Nat) {T : Nat → Nat → Nat} (hTM : bo_T T h 32) (hO : sp_ok T) {Z : sp_G} (hZ : gm_ok Z) (hG : md_G Z h) (hK : md_K T Z h) {m i t : Nat} (hm : m < 4096) (hi : i < 4096) (ht : t < 2) (hB : md_bd m i t h) {x : Nat} (hx : x < 10) (vt_ : ∀ v, v < 256 → h 47 v = nI ((sp_vt T (sp_ok1 T Z) m i (sp_rv (sp_ok1 T Z) x)) v)) : ∀ (fu_ k : Nat), k ≤ 252 → 252 < k + fu_ → ab_G l none am_M_asked (d + 9) 0 0 14 [(0, .ref 30), (2, .int (nI (sp_rv (sp_ok1 T Z) x))), (3, .int ((sp_as (sp_vt T (sp_ok1 T Z) m i (sp_rv (sp_ok1 T Z) x)) (sp_rv (sp_ok1 T Z) x) k).2)), (4, .int (md_aw (sp_as (sp_vt T (sp_ok1 T Z) m i (sp_rv (sp_ok1 T Z) x)) (sp_rv (sp_ok1 T Z) x) k))), (5, .int (nI k))] [] (ab_S nr h g rr) (fun (r_ : Option Value) (M' : ab_Me) => r_ = some (.int (sp_as (sp_vt T (sp_ok1 T Z) m i (sp_rv (sp_ok1 T Z) x)) (sp_rv (sp_ok1 T Z) x) 256).2) ∧ M' = (ab_S nr h g rr)) := by
  intro fu_
  induction fu_ with
  | zero => intro k  h1 h2; omega
  | succ fu_ ih =>
    intro k  hN_ hn_ 
    have r1_ := sp_rv_le (sp_ok1 T Z) x
    have r2_ := sp_to_lt (f := (sp_ok1 T Z))
    have r3_ := sp_vt_le T (sp_ok1 T Z) m i (sp_rv (sp_ok1 T Z) x) k
    have r4_ := sp_as_le (sp_vt T (sp_ok1 T Z) m i (sp_rv (sp_ok1 T Z) x)) (sp_rv (sp_ok1 T Z) x) k
    refine ab_iload de_M_asked_14 4 rfl ?_
    refine ab_sipush (v := 252) de_M_asked_16 rfl ?_
    refine ab_icmp_ge (tgt := 111) de_M_asked_19 rfl (fun c_19_1 => ?_) (fun c_19_1 => ?_)
    · have hk := ab_le_of (n := 252) (by decide) (by omega) rfl c_19_1
      refine ab_iload_n de_M_asked_111 2 rfl ?_
      exact ab_ret (v := some (.int ((sp_as (sp_vt T (sp_ok1 T Z) m i (sp_rv (sp_ok1 T Z) x)) (sp_rv (sp_ok1 T Z) x) k).2))) de_M_asked_112 ⟨_, rfl⟩ ⟨by rw [md_as_256 hO, show k = 252 by omega], rfl⟩
    · have hk := ab_nle_of (n := 252) (by decide) (by omega) rfl c_19_1
      refine ab_aload_n de_M_asked_22 0 rfl ?_
      refine ab_get (v := .ref 47) fl_M_69 rfl rfl de_M_asked_23 ?_
      refine ab_iload de_M_asked_26 4 rfl ?_
      refine ab_iald (v := h 47 k) rfl (ab_in (by omega) (by decide)) (ab_hv (ab_tn (n := k) (by omega))) de_M_asked_28 ?_
      refine ab_top (v' := nI ((sp_vt T (sp_ok1 T Z) m i (sp_rv (sp_ok1 T Z) x)) k)) (vt_ k (by omega)) ?_
      refine ab_if_eq (tgt := 105) de_M_asked_29 rfl (fun c_29_2 => ?_) (fun c_29_2 => ?_)
      · refine ab_iinc (v := nI (k + 1)) (L' := [(5, .int (nI (k + 1))), (0, .ref 30), (2, .int (nI (sp_rv (sp_ok1 T Z) x))), (3, .int ((sp_as (sp_vt T (sp_ok1 T Z) m i (sp_rv (sp_ok1 T Z) x)) (sp_rv (sp_ok1 T Z) x) k).2)), (4, .int (md_aw (sp_as (sp_vt T (sp_ok1 T Z) m i (sp_rv (sp_ok1 T Z) x)) (sp_rv (sp_ok1 T Z) x) k)))]) de_M_asked_105 4 rfl (by rw [show Int32.ofInt 1 = nI 1 from rfl, ab_add]) (by decide) rfl ?_
        refine ab_goto (tgt := 14) de_M_asked_108 rfl ?_
        refine ab_sub (L' := [(0, .ref 30), (2, .int (nI (sp_rv (sp_ok1 T Z) x))), (3, .int ((sp_as (sp_vt T (sp_ok1 T Z) m i (sp_rv (sp_ok1 T Z) x)) (sp_rv (sp_ok1 T Z) x) k).2)), (4, .int (md_aw (sp_as (sp_vt T (sp_ok1 T Z) m i (sp_rv (sp_ok1 T Z) x)) (sp_rv (sp_ok1 T Z) x) k))), (5, .int (nI (k + 1)))]) [1, 2, 3, 4, 0] rfl ?_
        have e_ : sp_as (sp_vt T (sp_ok1 T Z) m i (sp_rv (sp_ok1 T Z) x)) (sp_rv (sp_ok1 T Z) x) (k + 1) = sp_as (sp_vt T (sp_ok1 T Z) m i (sp_rv (sp_ok1 T Z) x)) (sp_rv (sp_ok1 T Z) x) k := md_as_0 (Or.inl ((ab_inj (b := 0) (by omega) (by decide)).mp c_29_2))
        have z_ := ih (k + 1) (by omega) (by omega)
        rw [e_] at z_
        exact z_
      · refine ab_aload_n de_M_asked_32 0 rfl ?_
        refine ab_get (v := .ref 47) fl_M_69 rfl rfl de_M_asked_33 ?_
        refine ab_iload de_M_asked_36 4 rfl ?_
        refine ab_iald (v := h 47 k) rfl (ab_in (by omega) (by decide)) (ab_hv (ab_tn (n := k) (by omega))) de_M_asked_38 ?_
        refine ab_top (v' := nI ((sp_vt T (sp_ok1 T Z) m i (sp_rv (sp_ok1 T Z) x)) k)) (vt_ k (by omega)) ?_
        refine ab_iload_n de_M_asked_39 1 rfl ?_
        refine ab_icmp_ne (tgt := 46) de_M_asked_40 rfl (fun c_40_3 => ?_) (fun c_40_3 => ?_)
        · refine ab_aload_n de_M_asked_46 0 rfl ?_
          refine ab_get (v := .ref 47) fl_M_69 rfl rfl de_M_asked_47 ?_
          refine ab_iload de_M_asked_50 4 rfl ?_
          refine ab_iald (v := h 47 k) rfl (ab_in (by omega) (by decide)) (ab_hv (ab_tn (n := k) (by omega))) de_M_asked_52 ?_
          refine ab_top (v' := nI ((sp_vt T (sp_ok1 T Z) m i (sp_rv (sp_ok1 T Z) x)) k)) (vt_ k (by omega)) ?_
          refine ab_iload_n de_M_asked_53 1 rfl ?_
          refine ab_aload_n de_M_asked_54 0 rfl ?_
          refine ab_get (v := .ref 47) fl_M_69 rfl rfl de_M_asked_55 ?_
          refine ab_iload de_M_asked_58 4 rfl ?_
          refine ab_iald (v := h 47 k) rfl (ab_in (by omega) (by decide)) (ab_hv (ab_tn (n := k) (by omega))) de_M_asked_60 ?_
          refine ab_top (v' := nI ((sp_vt T (sp_ok1 T Z) m i (sp_rv (sp_ok1 T Z) x)) k)) (vt_ k (by omega)) ?_
          refine ab_isub de_M_asked_61 ?_
          refine ab_top (v' := nI ((sp_rv (sp_ok1 T Z) x) - (sp_vt T (sp_ok1 T Z) m i (sp_rv (sp_ok1 T Z) x)) k)) (ab_sub_k (by omega)) ?_
          refine ab_icmp_le (tgt := 75) de_M_asked_62 rfl (fun c_62_4 => ?_) (fun c_62_4 => ?_)
          · refine ab_iload_n de_M_asked_75 1 rfl ?_
            refine ab_aload_n de_M_asked_76 0 rfl ?_
            refine ab_get (v := .ref 47) fl_M_69 rfl rfl de_M_asked_77 ?_
            refine ab_iload de_M_asked_80 4 rfl ?_
            refine ab_iald (v := h 47 k) rfl (ab_in (by omega) (by decide)) (ab_hv (ab_tn (n := k) (by omega))) de_M_asked_82 ?_
            refine ab_top (v' := nI ((sp_vt T (sp_ok1 T Z) m i (sp_rv (sp_ok1 T Z) x)) k)) (vt_ k (by omega)) ?_
            refine ab_isub de_M_asked_83 ?_
            refine ab_top (v' := nI (max ((sp_vt T (sp_ok1 T Z) m i (sp_rv (sp_ok1 T Z) x)) k) ((sp_rv (sp_ok1 T Z) x) - (sp_vt T (sp_ok1 T Z) m i (sp_rv (sp_ok1 T Z) x)) k))) ((ab_sub_k (by omega)).trans (congrArg nI (Nat.max_eq_right ((ab_le (by omega) (by omega)).mp c_62_4)).symm)) ?_
            refine ab_istore (L' := [(6, .int (nI (max ((sp_vt T (sp_ok1 T Z) m i (sp_rv (sp_ok1 T Z) x)) k) ((sp_rv (sp_ok1 T Z) x) - (sp_vt T (sp_ok1 T Z) m i (sp_rv (sp_ok1 T Z) x)) k)))), (0, .ref 30), (2, .int (nI (sp_rv (sp_ok1 T Z) x))), (3, .int ((sp_as (sp_vt T (sp_ok1 T Z) m i (sp_rv (sp_ok1 T Z) x)) (sp_rv (sp_ok1 T Z) x) k).2)), (4, .int (md_aw (sp_as (sp_vt T (sp_ok1 T Z) m i (sp_rv (sp_ok1 T Z) x)) (sp_rv (sp_ok1 T Z) x) k))), (5, .int (nI k))]) de_M_asked_84 (by decide) rfl ?_
            refine ab_iload_n de_M_asked_86 3 rfl ?_
            refine ab_iconst (v := -1) de_M_asked_87 rfl ?_
            refine ab_icmp_eq (tgt := 98) de_M_asked_88 rfl (fun c_88_5 => ?_) (fun c_88_5 => ?_)
            · refine ab_iload de_M_asked_98 0 rfl ?_
              refine ab_istore (L' := [(4, .int (nI (max ((sp_vt T (sp_ok1 T Z) m i (sp_rv (sp_ok1 T Z) x)) k) ((sp_rv (sp_ok1 T Z) x) - (sp_vt T (sp_ok1 T Z) m i (sp_rv (sp_ok1 T Z) x)) k)))), (6, .int (nI (max ((sp_vt T (sp_ok1 T Z) m i (sp_rv (sp_ok1 T Z) x)) k) ((sp_rv (sp_ok1 T Z) x) - (sp_vt T (sp_ok1 T Z) m i (sp_rv (sp_ok1 T Z) x)) k)))), (0, .ref 30), (2, .int (nI (sp_rv (sp_ok1 T Z) x))), (3, .int ((sp_as (sp_vt T (sp_ok1 T Z) m i (sp_rv (sp_ok1 T Z) x)) (sp_rv (sp_ok1 T Z) x) k).2)), (5, .int (nI k))]) de_M_asked_100 (by decide) rfl ?_
              refine ab_iload de_M_asked_102 5 rfl ?_
              refine ab_istore_n (L' := [(3, .int (nI k)), (4, .int (nI (max ((sp_vt T (sp_ok1 T Z) m i (sp_rv (sp_ok1 T Z) x)) k) ((sp_rv (sp_ok1 T Z) x) - (sp_vt T (sp_ok1 T Z) m i (sp_rv (sp_ok1 T Z) x)) k)))), (6, .int (nI (max ((sp_vt T (sp_ok1 T Z) m i (sp_rv (sp_ok1 T Z) x)) k) ((sp_rv (sp_ok1 T Z) x) - (sp_vt T (sp_ok1 T Z) m i (sp_rv (sp_ok1 T Z) x)) k)))), (0, .ref 30), (2, .int (nI (sp_rv (sp_ok1 T Z) x))), (5, .int (nI k))]) de_M_asked_104 (by decide) rfl ?_
              refine ab_iinc (v := nI (k + 1)) (L' := [(5, .int (nI (k + 1))), (3, .int (nI k)), (4, .int (nI (max ((sp_vt T (sp_ok1 T Z) m i (sp_rv (sp_ok1 T Z) x)) k) ((sp_rv (sp_ok1 T Z) x) - (sp_vt T (sp_ok1 T Z) m i (sp_rv (sp_ok1 T Z) x)) k)))), (6, .int (nI (max ((sp_vt T (sp_ok1 T Z) m i (sp_rv (sp_ok1 T Z) x)) k) ((sp_rv (sp_ok1 T Z) x) - (sp_vt T (sp_ok1 T Z) m i (sp_rv (sp_ok1 T Z) x)) k)))), (0, .ref 30), (2, .int (nI (sp_rv (sp_ok1 T Z) x)))]) de_M_asked_105 5 rfl (by rw [show Int32.ofInt 1 = nI 1 from rfl, ab_add]) (by decide) rfl ?_
              refine ab_goto (tgt := 14) de_M_asked_108 rfl ?_
              refine ab_sub (L' := [(0, .ref 30), (2, .int (nI (sp_rv (sp_ok1 T Z) x))), (3, .int (nI k)), (4, .int (nI (max ((sp_vt T (sp_ok1 T Z) m i (sp_rv (sp_ok1 T Z) x)) k) ((sp_rv (sp_ok1 T Z) x) - (sp_vt T (sp_ok1 T Z) m i (sp_rv (sp_ok1 T Z) x)) k)))), (5, .int (nI (k + 1)))]) [4, 5, 1, 2, 0] rfl ?_
              have v0_ : ¬ (sp_vt T (sp_ok1 T Z) m i (sp_rv (sp_ok1 T Z) x)) k = 0 := fun z => c_29_2 (by rw [z]; rfl)
              have v1_ : ¬ (sp_vt T (sp_ok1 T Z) m i (sp_rv (sp_ok1 T Z) x)) k = (sp_rv (sp_ok1 T Z) x) := fun z => c_40_3 (by rw [z])
              have a1_ : (sp_as (sp_vt T (sp_ok1 T Z) m i (sp_rv (sp_ok1 T Z) x)) (sp_rv (sp_ok1 T Z) x) k).1 = (sp_rv (sp_ok1 T Z) x) := by
                rcases md_as_c (sp_vt T (sp_ok1 T Z) m i (sp_rv (sp_ok1 T Z) x)) (sp_rv (sp_ok1 T Z) x) k with z | ⟨a, z1, z2, z3⟩
                · rw [z]
                · exfalso; have w := c_88_5; rw [z2] at w; exact sp_nI_ne (by omega) w
              have y_ : max ((sp_vt T (sp_ok1 T Z) m i (sp_rv (sp_ok1 T Z) x)) k) ((sp_rv (sp_ok1 T Z) x) - (sp_vt T (sp_ok1 T Z) m i (sp_rv (sp_ok1 T Z) x)) k) < (sp_as (sp_vt T (sp_ok1 T Z) m i (sp_rv (sp_ok1 T Z) x)) (sp_rv (sp_ok1 T Z) x) k).1 := by rw [a1_]; omega
              have e_ := md_as_y y_
              have z_ := ih (k + 1) (by omega) (by omega)
              rw [e_, show md_aw (max ((sp_vt T (sp_ok1 T Z) m i (sp_rv (sp_ok1 T Z) x)) k) ((sp_rv (sp_ok1 T Z) x) - (sp_vt T (sp_ok1 T Z) m i (sp_rv (sp_ok1 T Z) x)) k), nI k) = nI (max ((sp_vt T (sp_ok1 T Z) m i (sp_rv (sp_ok1 T Z) x)) k) ((sp_rv (sp_ok1 T Z) x) - (sp_vt T (sp_ok1 T Z) m i (sp_rv (sp_ok1 T Z) x)) k)) from if_neg (sp_nI_ne (by omega))] at z_
              exact z_
            · refine ab_iload de_M_asked_91 0 rfl ?_
              refine ab_iload de_M_asked_93 4 rfl ?_
              refine ab_icmp_ge (tgt := 105) de_M_asked_95 rfl (fun c_95_6 => ?_) (fun c_95_6 => ?_)
              · refine ab_iinc (v := nI (k + 1)) (L' := [(5, .int (nI (k + 1))), (6, .int (nI (max ((sp_vt T (sp_ok1 T Z) m i (sp_rv (sp_ok1 T Z) x)) k) ((sp_rv (sp_ok1 T Z) x) - (sp_vt T (sp_ok1 T Z) m i (sp_rv (sp_ok1 T Z) x)) k)))), (0, .ref 30), (2, .int (nI (sp_rv (sp_ok1 T Z) x))), (3, .int ((sp_as (sp_vt T (sp_ok1 T Z) m i (sp_rv (sp_ok1 T Z) x)) (sp_rv (sp_ok1 T Z) x) k).2)), (4, .int (md_aw (sp_as (sp_vt T (sp_ok1 T Z) m i (sp_rv (sp_ok1 T Z) x)) (sp_rv (sp_ok1 T Z) x) k)))]) de_M_asked_105 5 rfl (by rw [show Int32.ofInt 1 = nI 1 from rfl, ab_add]) (by decide) rfl ?_
                refine ab_goto (tgt := 14) de_M_asked_108 rfl ?_
                refine ab_sub (L' := [(0, .ref 30), (2, .int (nI (sp_rv (sp_ok1 T Z) x))), (3, .int ((sp_as (sp_vt T (sp_ok1 T Z) m i (sp_rv (sp_ok1 T Z) x)) (sp_rv (sp_ok1 T Z) x) k).2)), (4, .int (md_aw (sp_as (sp_vt T (sp_ok1 T Z) m i (sp_rv (sp_ok1 T Z) x)) (sp_rv (sp_ok1 T Z) x) k))), (5, .int (nI (k + 1)))]) [2, 3, 4, 5, 0] rfl ?_
                have w_ : md_aw (sp_as (sp_vt T (sp_ok1 T Z) m i (sp_rv (sp_ok1 T Z) x)) (sp_rv (sp_ok1 T Z) x) k) = nI (sp_as (sp_vt T (sp_ok1 T Z) m i (sp_rv (sp_ok1 T Z) x)) (sp_rv (sp_ok1 T Z) x) k).1 := if_neg c_88_5
                have c_ := c_95_6
                rw [w_] at c_
                have e_ : sp_as (sp_vt T (sp_ok1 T Z) m i (sp_rv (sp_ok1 T Z) x)) (sp_rv (sp_ok1 T Z) x) (k + 1) = sp_as (sp_vt T (sp_ok1 T Z) m i (sp_rv (sp_ok1 T Z) x)) (sp_rv (sp_ok1 T Z) x) k := md_as_n (Nat.not_lt.mpr ((ab_le (by omega) (by omega)).mp c_))
                have z_ := ih (k + 1) (by omega) (by omega)
                rw [e_] at z_
                exact z_
              · refine ab_iload de_M_asked_98 0 rfl ?_
                refine ab_istore (L' := [(4, .int (nI (max ((sp_vt T (sp_ok1 T Z) m i (sp_rv (sp_ok1 T Z) x)) k) ((sp_rv (sp_ok1 T Z) x) - (sp_vt T (sp_ok1 T Z) m i (sp_rv (sp_ok1 T Z) x)) k)))), (6, .int (nI (max ((sp_vt T (sp_ok1 T Z) m i (sp_rv (sp_ok1 T Z) x)) k) ((sp_rv (sp_ok1 T Z) x) - (sp_vt T (sp_ok1 T Z) m i (sp_rv (sp_ok1 T Z) x)) k)))), (0, .ref 30), (2, .int (nI (sp_rv (sp_ok1 T Z) x))), (3, .int ((sp_as (sp_vt T (sp_ok1 T Z) m i (sp_rv (sp_ok1 T Z) x)) (sp_rv (sp_ok1 T Z) x) k).2)), (5, .int (nI k))]) de_M_asked_100 (by decide) rfl ?_
                refine ab_iload de_M_asked_102 5 rfl ?_
                refine ab_istore_n (L' := [(3, .int (nI k)), (4, .int (nI (max ((sp_vt T (sp_ok1 T Z) m i (sp_rv (sp_ok1 T Z) x)) k) ((sp_rv (sp_ok1 T Z) x) - (sp_vt T (sp_ok1 T Z) m i (sp_rv (sp_ok1 T Z) x)) k)))), (6, .int (nI (max ((sp_vt T (sp_ok1 T Z) m i (sp_rv (sp_ok1 T Z) x)) k) ((sp_rv (sp_ok1 T Z) x) - (sp_vt T (sp_ok1 T Z) m i (sp_rv (sp_ok1 T Z) x)) k)))), (0, .ref 30), (2, .int (nI (sp_rv (sp_ok1 T Z) x))), (5, .int (nI k))]) de_M_asked_104 (by decide) rfl ?_
                refine ab_iinc (v := nI (k + 1)) (L' := [(5, .int (nI (k + 1))), (3, .int (nI k)), (4, .int (nI (max ((sp_vt T (sp_ok1 T Z) m i (sp_rv (sp_ok1 T Z) x)) k) ((sp_rv (sp_ok1 T Z) x) - (sp_vt T (sp_ok1 T Z) m i (sp_rv (sp_ok1 T Z) x)) k)))), (6, .int (nI (max ((sp_vt T (sp_ok1 T Z) m i (sp_rv (sp_ok1 T Z) x)) k) ((sp_rv (sp_ok1 T Z) x) - (sp_vt T (sp_ok1 T Z) m i (sp_rv (sp_ok1 T Z) x)) k)))), (0, .ref 30), (2, .int (nI (sp_rv (sp_ok1 T Z) x)))]) de_M_asked_105 5 rfl (by rw [show Int32.ofInt 1 = nI 1 from rfl, ab_add]) (by decide) rfl ?_
                refine ab_goto (tgt := 14) de_M_asked_108 rfl ?_
                refine ab_sub (L' := [(0, .ref 30), (2, .int (nI (sp_rv (sp_ok1 T Z) x))), (3, .int (nI k)), (4, .int (nI (max ((sp_vt T (sp_ok1 T Z) m i (sp_rv (sp_ok1 T Z) x)) k) ((sp_rv (sp_ok1 T Z) x) - (sp_vt T (sp_ok1 T Z) m i (sp_rv (sp_ok1 T Z) x)) k)))), (5, .int (nI (k + 1)))]) [4, 5, 1, 2, 0] rfl ?_
                have w_ : md_aw (sp_as (sp_vt T (sp_ok1 T Z) m i (sp_rv (sp_ok1 T Z) x)) (sp_rv (sp_ok1 T Z) x) k) = nI (sp_as (sp_vt T (sp_ok1 T Z) m i (sp_rv (sp_ok1 T Z) x)) (sp_rv (sp_ok1 T Z) x) k).1 := if_neg c_88_5
                have c_ := c_95_6
                rw [w_] at c_
                have y_ : max ((sp_vt T (sp_ok1 T Z) m i (sp_rv (sp_ok1 T Z) x)) k) ((sp_rv (sp_ok1 T Z) x) - (sp_vt T (sp_ok1 T Z) m i (sp_rv (sp_ok1 T Z) x)) k) < (sp_as (sp_vt T (sp_ok1 T Z) m i (sp_rv (sp_ok1 T Z) x)) (sp_rv (sp_ok1 T Z) x) k).1 := Nat.lt_of_not_le (fun z => c_ ((ab_le (by omega) (by omega)).mpr z))
                have e_ := md_as_y y_
                have z_ := ih (k + 1) (by omega) (by omega)
                rw [e_, show md_aw (max ((sp_vt T (sp_ok1 T Z) m i (sp_rv (sp_ok1 T Z) x)) k) ((sp_rv (sp_ok1 T Z) x) - (sp_vt T (sp_ok1 T Z) m i (sp_rv (sp_ok1 T Z) x)) k), nI k) = nI (max ((sp_vt T (sp_ok1 T Z) m i (sp_rv (sp_ok1 T Z) x)) k) ((sp_rv (sp_ok1 T Z) x) - (sp_vt T (sp_ok1 T Z) m i (sp_rv (sp_ok1 T Z) x)) k)) from if_neg (sp_nI_ne (by omega))] at z_
                exact z_
          · refine ab_aload_n de_M_asked_65 0 rfl ?_
            refine ab_get (v := .ref 47) fl_M_69 rfl rfl de_M_asked_66 ?_
            refine ab_iload de_M_asked_69 4 rfl ?_
            refine ab_iald (v := h 47 k) rfl (ab_in (by omega) (by decide)) (ab_hv (ab_tn (n := k) (by omega))) de_M_asked_71 ?_
            refine ab_top (v' := nI (max ((sp_vt T (sp_ok1 T Z) m i (sp_rv (sp_ok1 T Z) x)) k) ((sp_rv (sp_ok1 T Z) x) - (sp_vt T (sp_ok1 T Z) m i (sp_rv (sp_ok1 T Z) x)) k))) ((vt_ k (by omega)).trans (congrArg nI (Nat.max_eq_left (Nat.le_of_not_le (fun z => c_62_4 ((ab_le (by omega) (by omega)).mpr z)))).symm)) ?_
            refine ab_goto (tgt := 84) de_M_asked_72 rfl ?_
            refine ab_istore (L' := [(6, .int (nI (max ((sp_vt T (sp_ok1 T Z) m i (sp_rv (sp_ok1 T Z) x)) k) ((sp_rv (sp_ok1 T Z) x) - (sp_vt T (sp_ok1 T Z) m i (sp_rv (sp_ok1 T Z) x)) k)))), (0, .ref 30), (2, .int (nI (sp_rv (sp_ok1 T Z) x))), (3, .int ((sp_as (sp_vt T (sp_ok1 T Z) m i (sp_rv (sp_ok1 T Z) x)) (sp_rv (sp_ok1 T Z) x) k).2)), (4, .int (md_aw (sp_as (sp_vt T (sp_ok1 T Z) m i (sp_rv (sp_ok1 T Z) x)) (sp_rv (sp_ok1 T Z) x) k))), (5, .int (nI k))]) de_M_asked_84 (by decide) rfl ?_
            refine ab_iload_n de_M_asked_86 3 rfl ?_
            refine ab_iconst (v := -1) de_M_asked_87 rfl ?_
            refine ab_icmp_eq (tgt := 98) de_M_asked_88 rfl (fun c_88_7 => ?_) (fun c_88_7 => ?_)
            · refine ab_iload de_M_asked_98 0 rfl ?_
              refine ab_istore (L' := [(4, .int (nI (max ((sp_vt T (sp_ok1 T Z) m i (sp_rv (sp_ok1 T Z) x)) k) ((sp_rv (sp_ok1 T Z) x) - (sp_vt T (sp_ok1 T Z) m i (sp_rv (sp_ok1 T Z) x)) k)))), (6, .int (nI (max ((sp_vt T (sp_ok1 T Z) m i (sp_rv (sp_ok1 T Z) x)) k) ((sp_rv (sp_ok1 T Z) x) - (sp_vt T (sp_ok1 T Z) m i (sp_rv (sp_ok1 T Z) x)) k)))), (0, .ref 30), (2, .int (nI (sp_rv (sp_ok1 T Z) x))), (3, .int ((sp_as (sp_vt T (sp_ok1 T Z) m i (sp_rv (sp_ok1 T Z) x)) (sp_rv (sp_ok1 T Z) x) k).2)), (5, .int (nI k))]) de_M_asked_100 (by decide) rfl ?_
              refine ab_iload de_M_asked_102 5 rfl ?_
              refine ab_istore_n (L' := [(3, .int (nI k)), (4, .int (nI (max ((sp_vt T (sp_ok1 T Z) m i (sp_rv (sp_ok1 T Z) x)) k) ((sp_rv (sp_ok1 T Z) x) - (sp_vt T (sp_ok1 T Z) m i (sp_rv (sp_ok1 T Z) x)) k)))), (6, .int (nI (max ((sp_vt T (sp_ok1 T Z) m i (sp_rv (sp_ok1 T Z) x)) k) ((sp_rv (sp_ok1 T Z) x) - (sp_vt T (sp_ok1 T Z) m i (sp_rv (sp_ok1 T Z) x)) k)))), (0, .ref 30), (2, .int (nI (sp_rv (sp_ok1 T Z) x))), (5, .int (nI k))]) de_M_asked_104 (by decide) rfl ?_
              refine ab_iinc (v := nI (k + 1)) (L' := [(5, .int (nI (k + 1))), (3, .int (nI k)), (4, .int (nI (max ((sp_vt T (sp_ok1 T Z) m i (sp_rv (sp_ok1 T Z) x)) k) ((sp_rv (sp_ok1 T Z) x) - (sp_vt T (sp_ok1 T Z) m i (sp_rv (sp_ok1 T Z) x)) k)))), (6, .int (nI (max ((sp_vt T (sp_ok1 T Z) m i (sp_rv (sp_ok1 T Z) x)) k) ((sp_rv (sp_ok1 T Z) x) - (sp_vt T (sp_ok1 T Z) m i (sp_rv (sp_ok1 T Z) x)) k)))), (0, .ref 30), (2, .int (nI (sp_rv (sp_ok1 T Z) x)))]) de_M_asked_105 5 rfl (by rw [show Int32.ofInt 1 = nI 1 from rfl, ab_add]) (by decide) rfl ?_
              refine ab_goto (tgt := 14) de_M_asked_108 rfl ?_
              refine ab_sub (L' := [(0, .ref 30), (2, .int (nI (sp_rv (sp_ok1 T Z) x))), (3, .int (nI k)), (4, .int (nI (max ((sp_vt T (sp_ok1 T Z) m i (sp_rv (sp_ok1 T Z) x)) k) ((sp_rv (sp_ok1 T Z) x) - (sp_vt T (sp_ok1 T Z) m i (sp_rv (sp_ok1 T Z) x)) k)))), (5, .int (nI (k + 1)))]) [4, 5, 1, 2, 0] rfl ?_
              have v0_ : ¬ (sp_vt T (sp_ok1 T Z) m i (sp_rv (sp_ok1 T Z) x)) k = 0 := fun z => c_29_2 (by rw [z]; rfl)
              have v1_ : ¬ (sp_vt T (sp_ok1 T Z) m i (sp_rv (sp_ok1 T Z) x)) k = (sp_rv (sp_ok1 T Z) x) := fun z => c_40_3 (by rw [z])
              have a1_ : (sp_as (sp_vt T (sp_ok1 T Z) m i (sp_rv (sp_ok1 T Z) x)) (sp_rv (sp_ok1 T Z) x) k).1 = (sp_rv (sp_ok1 T Z) x) := by
                rcases md_as_c (sp_vt T (sp_ok1 T Z) m i (sp_rv (sp_ok1 T Z) x)) (sp_rv (sp_ok1 T Z) x) k with z | ⟨a, z1, z2, z3⟩
                · rw [z]
                · exfalso; have w := c_88_7; rw [z2] at w; exact sp_nI_ne (by omega) w
              have y_ : max ((sp_vt T (sp_ok1 T Z) m i (sp_rv (sp_ok1 T Z) x)) k) ((sp_rv (sp_ok1 T Z) x) - (sp_vt T (sp_ok1 T Z) m i (sp_rv (sp_ok1 T Z) x)) k) < (sp_as (sp_vt T (sp_ok1 T Z) m i (sp_rv (sp_ok1 T Z) x)) (sp_rv (sp_ok1 T Z) x) k).1 := by rw [a1_]; omega
              have e_ := md_as_y y_
              have z_ := ih (k + 1) (by omega) (by omega)
              rw [e_, show md_aw (max ((sp_vt T (sp_ok1 T Z) m i (sp_rv (sp_ok1 T Z) x)) k) ((sp_rv (sp_ok1 T Z) x) - (sp_vt T (sp_ok1 T Z) m i (sp_rv (sp_ok1 T Z) x)) k), nI k) = nI (max ((sp_vt T (sp_ok1 T Z) m i (sp_rv (sp_ok1 T Z) x)) k) ((sp_rv (sp_ok1 T Z) x) - (sp_vt T (sp_ok1 T Z) m i (sp_rv (sp_ok1 T Z) x)) k)) from if_neg (sp_nI_ne (by omega))] at z_
              exact z_
            · refine ab_iload de_M_asked_91 0 rfl ?_
              refine ab_iload de_M_asked_93 4 rfl ?_
              refine ab_icmp_ge (tgt := 105) de_M_asked_95 rfl (fun c_95_8 => ?_) (fun c_95_8 => ?_)
              · refine ab_iinc (v := nI (k + 1)) (L' := [(5, .int (nI (k + 1))), (6, .int (nI (max ((sp_vt T (sp_ok1 T Z) m i (sp_rv (sp_ok1 T Z) x)) k) ((sp_rv (sp_ok1 T Z) x) - (sp_vt T (sp_ok1 T Z) m i (sp_rv (sp_ok1 T Z) x)) k)))), (0, .ref 30), (2, .int (nI (sp_rv (sp_ok1 T Z) x))), (3, .int ((sp_as (sp_vt T (sp_ok1 T Z) m i (sp_rv (sp_ok1 T Z) x)) (sp_rv (sp_ok1 T Z) x) k).2)), (4, .int (md_aw (sp_as (sp_vt T (sp_ok1 T Z) m i (sp_rv (sp_ok1 T Z) x)) (sp_rv (sp_ok1 T Z) x) k)))]) de_M_asked_105 5 rfl (by rw [show Int32.ofInt 1 = nI 1 from rfl, ab_add]) (by decide) rfl ?_
                refine ab_goto (tgt := 14) de_M_asked_108 rfl ?_
                refine ab_sub (L' := [(0, .ref 30), (2, .int (nI (sp_rv (sp_ok1 T Z) x))), (3, .int ((sp_as (sp_vt T (sp_ok1 T Z) m i (sp_rv (sp_ok1 T Z) x)) (sp_rv (sp_ok1 T Z) x) k).2)), (4, .int (md_aw (sp_as (sp_vt T (sp_ok1 T Z) m i (sp_rv (sp_ok1 T Z) x)) (sp_rv (sp_ok1 T Z) x) k))), (5, .int (nI (k + 1)))]) [2, 3, 4, 5, 0] rfl ?_
                have w_ : md_aw (sp_as (sp_vt T (sp_ok1 T Z) m i (sp_rv (sp_ok1 T Z) x)) (sp_rv (sp_ok1 T Z) x) k) = nI (sp_as (sp_vt T (sp_ok1 T Z) m i (sp_rv (sp_ok1 T Z) x)) (sp_rv (sp_ok1 T Z) x) k).1 := if_neg c_88_7
                have c_ := c_95_8
                rw [w_] at c_
                have e_ : sp_as (sp_vt T (sp_ok1 T Z) m i (sp_rv (sp_ok1 T Z) x)) (sp_rv (sp_ok1 T Z) x) (k + 1) = sp_as (sp_vt T (sp_ok1 T Z) m i (sp_rv (sp_ok1 T Z) x)) (sp_rv (sp_ok1 T Z) x) k := md_as_n (Nat.not_lt.mpr ((ab_le (by omega) (by omega)).mp c_))
                have z_ := ih (k + 1) (by omega) (by omega)
                rw [e_] at z_
                exact z_
              · refine ab_iload de_M_asked_98 0 rfl ?_
                refine ab_istore (L' := [(4, .int (nI (max ((sp_vt T (sp_ok1 T Z) m i (sp_rv (sp_ok1 T Z) x)) k) ((sp_rv (sp_ok1 T Z) x) - (sp_vt T (sp_ok1 T Z) m i (sp_rv (sp_ok1 T Z) x)) k)))), (6, .int (nI (max ((sp_vt T (sp_ok1 T Z) m i (sp_rv (sp_ok1 T Z) x)) k) ((sp_rv (sp_ok1 T Z) x) - (sp_vt T (sp_ok1 T Z) m i (sp_rv (sp_ok1 T Z) x)) k)))), (0, .ref 30), (2, .int (nI (sp_rv (sp_ok1 T Z) x))), (3, .int ((sp_as (sp_vt T (sp_ok1 T Z) m i (sp_rv (sp_ok1 T Z) x)) (sp_rv (sp_ok1 T Z) x) k).2)), (5, .int (nI k))]) de_M_asked_100 (by decide) rfl ?_
                refine ab_iload de_M_asked_102 5 rfl ?_
                refine ab_istore_n (L' := [(3, .int (nI k)), (4, .int (nI (max ((sp_vt T (sp_ok1 T Z) m i (sp_rv (sp_ok1 T Z) x)) k) ((sp_rv (sp_ok1 T Z) x) - (sp_vt T (sp_ok1 T Z) m i (sp_rv (sp_ok1 T Z) x)) k)))), (6, .int (nI (max ((sp_vt T (sp_ok1 T Z) m i (sp_rv (sp_ok1 T Z) x)) k) ((sp_rv (sp_ok1 T Z) x) - (sp_vt T (sp_ok1 T Z) m i (sp_rv (sp_ok1 T Z) x)) k)))), (0, .ref 30), (2, .int (nI (sp_rv (sp_ok1 T Z) x))), (5, .int (nI k))]) de_M_asked_104 (by decide) rfl ?_
                refine ab_iinc (v := nI (k + 1)) (L' := [(5, .int (nI (k + 1))), (3, .int (nI k)), (4, .int (nI (max ((sp_vt T (sp_ok1 T Z) m i (sp_rv (sp_ok1 T Z) x)) k) ((sp_rv (sp_ok1 T Z) x) - (sp_vt T (sp_ok1 T Z) m i (sp_rv (sp_ok1 T Z) x)) k)))), (6, .int (nI (max ((sp_vt T (sp_ok1 T Z) m i (sp_rv (sp_ok1 T Z) x)) k) ((sp_rv (sp_ok1 T Z) x) - (sp_vt T (sp_ok1 T Z) m i (sp_rv (sp_ok1 T Z) x)) k)))), (0, .ref 30), (2, .int (nI (sp_rv (sp_ok1 T Z) x)))]) de_M_asked_105 5 rfl (by rw [show Int32.ofInt 1 = nI 1 from rfl, ab_add]) (by decide) rfl ?_
                refine ab_goto (tgt := 14) de_M_asked_108 rfl ?_
                refine ab_sub (L' := [(0, .ref 30), (2, .int (nI (sp_rv (sp_ok1 T Z) x))), (3, .int (nI k)), (4, .int (nI (max ((sp_vt T (sp_ok1 T Z) m i (sp_rv (sp_ok1 T Z) x)) k) ((sp_rv (sp_ok1 T Z) x) - (sp_vt T (sp_ok1 T Z) m i (sp_rv (sp_ok1 T Z) x)) k)))), (5, .int (nI (k + 1)))]) [4, 5, 1, 2, 0] rfl ?_
                have w_ : md_aw (sp_as (sp_vt T (sp_ok1 T Z) m i (sp_rv (sp_ok1 T Z) x)) (sp_rv (sp_ok1 T Z) x) k) = nI (sp_as (sp_vt T (sp_ok1 T Z) m i (sp_rv (sp_ok1 T Z) x)) (sp_rv (sp_ok1 T Z) x) k).1 := if_neg c_88_7
                have c_ := c_95_8
                rw [w_] at c_
                have y_ : max ((sp_vt T (sp_ok1 T Z) m i (sp_rv (sp_ok1 T Z) x)) k) ((sp_rv (sp_ok1 T Z) x) - (sp_vt T (sp_ok1 T Z) m i (sp_rv (sp_ok1 T Z) x)) k) < (sp_as (sp_vt T (sp_ok1 T Z) m i (sp_rv (sp_ok1 T Z) x)) (sp_rv (sp_ok1 T Z) x) k).1 := Nat.lt_of_not_le (fun z => c_ ((ab_le (by omega) (by omega)).mpr z))
                have e_ := md_as_y y_
                have z_ := ih (k + 1) (by omega) (by omega)
                rw [e_, show md_aw (max ((sp_vt T (sp_ok1 T Z) m i (sp_rv (sp_ok1 T Z) x)) k) ((sp_rv (sp_ok1 T Z) x) - (sp_vt T (sp_ok1 T Z) m i (sp_rv (sp_ok1 T Z) x)) k), nI k) = nI (max ((sp_vt T (sp_ok1 T Z) m i (sp_rv (sp_ok1 T Z) x)) k) ((sp_rv (sp_ok1 T Z) x) - (sp_vt T (sp_ok1 T Z) m i (sp_rv (sp_ok1 T Z) x)) k)) from if_neg (sp_nI_ne (by omega))] at z_
                exact z_
        · refine ab_goto (tgt := 105) de_M_asked_43 rfl ?_
          refine ab_iinc (v := nI (k + 1)) (L' := [(5, .int (nI (k + 1))), (0, .ref 30), (2, .int (nI (sp_rv (sp_ok1 T Z) x))), (3, .int ((sp_as (sp_vt T (sp_ok1 T Z) m i (sp_rv (sp_ok1 T Z) x)) (sp_rv (sp_ok1 T Z) x) k).2)), (4, .int (md_aw (sp_as (sp_vt T (sp_ok1 T Z) m i (sp_rv (sp_ok1 T Z) x)) (sp_rv (sp_ok1 T Z) x) k)))]) de_M_asked_105 4 rfl (by rw [show Int32.ofInt 1 = nI 1 from rfl, ab_add]) (by decide) rfl ?_
          refine ab_goto (tgt := 14) de_M_asked_108 rfl ?_
          refine ab_sub (L' := [(0, .ref 30), (2, .int (nI (sp_rv (sp_ok1 T Z) x))), (3, .int ((sp_as (sp_vt T (sp_ok1 T Z) m i (sp_rv (sp_ok1 T Z) x)) (sp_rv (sp_ok1 T Z) x) k).2)), (4, .int (md_aw (sp_as (sp_vt T (sp_ok1 T Z) m i (sp_rv (sp_ok1 T Z) x)) (sp_rv (sp_ok1 T Z) x) k))), (5, .int (nI (k + 1)))]) [1, 2, 3, 4, 0] rfl ?_
          have e_ : sp_as (sp_vt T (sp_ok1 T Z) m i (sp_rv (sp_ok1 T Z) x)) (sp_rv (sp_ok1 T Z) x) (k + 1) = sp_as (sp_vt T (sp_ok1 T Z) m i (sp_rv (sp_ok1 T Z) x)) (sp_rv (sp_ok1 T Z) x) k := md_as_0 (Or.inr ((ab_inj (by omega) (by omega)).mp c_40_3))
          have z_ := ih (k + 1) (by omega) (by omega)
          rw [e_] at z_
          exact z_
set_option maxHeartbeats 1000000 in
set_option maxRecDepth 10000 in
theorem ct_M_asked (l : Launch) (d : Nat) (nr : Nat) (h : Nat → Nat → Int32) (g : Nat → Nat → Int64) (rr : Nat → Option Nat) {T : Nat → Nat → Nat} (hTM : bo_T T h 32) (hO : sp_ok T) {Z : sp_G} (hZ : gm_ok Z) (hG : md_G Z h) (hK : md_K T Z h) {m i t : Nat} (hm : m < 4096) (hi : i < 4096) (ht : t < 2) (hB : md_bd m i t h) {x : Nat} (hx : x < 10) : ab_C l am_M_asked (d + 10) 0 0 [.ref 30, .int (nI x)] (ab_S nr h g rr) (fun (r_ : Option Value) (M' : ab_Me) => r_ = some (.int ((sp_as (sp_vt T (sp_ok1 T Z) m i (sp_rv (sp_ok1 T Z) x)) (sp_rv (sp_ok1 T Z) x) 256).2)) ∧ ∃ h', M' = ab_S nr h' g rr ∧ md_kr h h' ∧ md_K T Z h' ∧ md_fk (sp_ok1 T Z) h' ∧ ∀ v, v < 256 → h' 47 v = nI ((sp_vt T (sp_ok1 T Z) m i (sp_rv (sp_ok1 T Z) x)) v)) := by
  refine ab_C_of (by decide +kernel) rfl (Nat.le_of_ble_eq_true rfl) ?_
  refine ab_aload_n de_M_asked_0 0 rfl ?_
  refine ab_iload_n de_M_asked_1 1 rfl ?_
  refine ab_cV (as := [.int (nI x)]) (st := []) (ct_M_counts l _ nr h g rr (md_T_kr (md_kr_rf h) hTM) hO hZ (md_G_kr (md_kr_rf h) hG) hK hm hi ht (md_bd_kr (md_kr_rf h) hB) (x := x) (by omega)) mo_M_counts mi_M_counts ml_M_275 rfl (by decide) rfl rfl rfl (Nat.le_of_ble_eq_true rfl) de_M_asked_2 (fun v_ M_ hK_ hl_ hv_ => ?_)
  obtain ⟨rfl, h1_, rfl, k1_, kk_h1_, k2_, vt_⟩ := hK_
  change ab_G _ _ _ _ _ _ _ [(0, .ref 30), (1, .int (nI x))] [.int (nI (sp_rv (sp_ok1 T Z) x))] (ab_S nr h1_ g rr) _
  have ff_h1_ : md_kr h h1_ := md_kr_tr (md_kr_rf h) k1_
  have fo_h1_ := k2_.2
  refine ab_istore_n (L' := [(2, .int (nI (sp_rv (sp_ok1 T Z) x))), (0, .ref 30), (1, .int (nI x))]) de_M_asked_5 (by decide) rfl ?_
  refine ab_iconst (v := -1) de_M_asked_6 rfl ?_
  refine ab_istore_n (L' := [(3, .int (-1 : Int32)), (2, .int (nI (sp_rv (sp_ok1 T Z) x))), (0, .ref 30), (1, .int (nI x))]) de_M_asked_7 (by decide) rfl ?_
  refine ab_iconst (v := 0) de_M_asked_8 rfl ?_
  refine ab_istore (L' := [(4, .int (0 : Int32)), (3, .int (-1 : Int32)), (2, .int (nI (sp_rv (sp_ok1 T Z) x))), (0, .ref 30), (1, .int (nI x))]) de_M_asked_9 (by decide) rfl ?_
  refine ab_iconst (v := 0) de_M_asked_11 rfl ?_
  refine ab_istore (L' := [(5, .int (0 : Int32)), (4, .int (0 : Int32)), (3, .int (-1 : Int32)), (2, .int (nI (sp_rv (sp_ok1 T Z) x))), (0, .ref 30), (1, .int (nI x))]) de_M_asked_12 (by decide) rfl ?_
  refine ab_sub (L' := [(0, .ref 30), (2, .int (nI (sp_rv (sp_ok1 T Z) x))), (3, .int (sp_as (sp_vt T (sp_ok1 T Z) m i (sp_rv (sp_ok1 T Z) x)) (sp_rv (sp_ok1 T Z) x) 0).2), (4, .int (md_aw (sp_as (sp_vt T (sp_ok1 T Z) m i (sp_rv (sp_ok1 T Z) x)) (sp_rv (sp_ok1 T Z) x) 0))), (5, .int (nI 0))]) [4, 3, 2, 1, 0] rfl ?_
  refine ab_wk (fun r_ M_ z => ?_) (lp_M_asked l (d + 1) nr h1_ g rr (md_T_kr k1_ hTM) hO hZ (md_G_kr k1_ hG) kk_h1_ hm hi ht (md_bd_kr k1_ hB) hx vt_ 253 0 (by omega) (by omega))
  exact ⟨z.1, h1_, z.2, k1_, kk_h1_, k2_, vt_⟩
def fx_M_ask (h : Nat → Nat → Int32) (T : Nat → Nat → Nat) (m i t : Nat) (Z : sp_G) (x : Int32) : Option Value × (Nat → Nat → Int32) :=
  if (ab_bz (sp_x9 x)) = 0 then
    (some (.int (-16 : Int32)), (ab_u2 h 31 6 (h 31 6 + 1)))
  else
    (some (.int ((sp_as (sp_vt T (sp_ok1 T Z) m i (sp_rv (sp_ok1 T Z) x.toNatClampNeg)) (sp_rv (sp_ok1 T Z) x.toNatClampNeg) 256).2)), h)
set_option maxHeartbeats 1000000 in
set_option maxRecDepth 10000 in
theorem ct_M_ask (l : Launch) (d : Nat) (nr : Nat) (h : Nat → Nat → Int32) (g : Nat → Nat → Int64) (rr : Nat → Option Nat) {T : Nat → Nat → Nat} (hTM : bo_T T h 32) (hO : sp_ok T) {m i t : Nat} (hm : m < 4096) (hi : i < 4096) (ht : t < 2) (hd : sp_dj m i) (hB : md_bd m i t h) {Z : sp_G} (hZ : gm_ok Z) (hG : md_G Z h) (hK : md_K T Z h) (x : Int32) : ab_C l am_M_ask (d + 11) 0 0 [.ref 30, .int x] (ab_S nr h g rr) (fun r_ M' => ∃ X h', (r_, X) = fx_M_ask h T m i t Z x ∧ M' = ab_S nr h' g rr ∧ md_K T Z h' ∧ md_kr X h') := by
  have ff_h := md_kr_rf h
  have kk_h := hK
  refine ab_C_of (by decide +kernel) rfl (Nat.le_of_ble_eq_true rfl) ?_
  refine ab_aload_n de_M_ask_0 0 rfl ?_
  refine ab_iload_n de_M_ask_1 1 rfl ?_
  refine ab_cV (as := [.int x]) (st := []) (ct_M_isX l _ (ab_S nr h g rr) (x)) mo_M_isX mi_M_isX ml_M_266 rfl (by decide) rfl rfl rfl (Nat.le_of_ble_eq_true rfl) de_M_ask_2 (fun v_ M_ hK_ hl_ hv_ => ?_)
  obtain ⟨rfl, hm_⟩ := hK_
  have hm_ := hm_.symm
  subst hm_
  change ab_G _ _ _ _ _ _ _ [(0, .ref 30), (1, .int x)] [.int (ab_bz (sp_x9 x))] (ab_S nr h g rr) _
  refine ab_if_eq (tgt := 16) de_M_ask_5 rfl (fun c_5_1 => ?_) (fun c_5_1 => ?_)
  · refine ab_aload_n de_M_ask_16 0 rfl ?_
    refine ab_bipush (v := -6) de_M_ask_17 rfl ?_
    refine ab_cV (as := [.int (-6 : Int32)]) (st := []) (ct_M_noTen l _ nr h g rr (r := (-6 : Int32)) (k := 6) (by decide) (by decide)) mo_M_noTen mi_M_noTen ml_M_222 rfl (by decide) rfl rfl rfl (Nat.le_of_ble_eq_true rfl) de_M_ask_19 (fun v_ M_ hK_ hl_ hv_ => ?_)
    obtain ⟨rfl, hm_⟩ := hK_
    have hm_ := hm_.symm
    subst hm_
    change ab_G _ _ _ _ _ _ _ [(0, .ref 30), (1, .int x)] [.int (-16 : Int32)] (ab_S nr (ab_u2 h 31 6 (h 31 6 + 1)) g rr) _
    exact ab_ret (v := some (.int (-16 : Int32))) de_M_ask_22 ⟨_, rfl⟩ ⟨_, _, (by unfold fx_M_ask; rw [if_pos c_5_1]), rfl, (md_K_31 kk_h _ _), (md_kr_31 ff_h _)⟩
  · obtain ⟨xn, hxn, rfl⟩ := sp_x9_n c_5_1
    refine ab_aload_n de_M_ask_8 0 rfl ?_
    refine ab_iload_n de_M_ask_9 1 rfl ?_
    refine ab_cV (as := [.int (nI xn)]) (st := []) (ct_M_asked l _ nr h g rr (md_T_kr (md_kr_rf h) hTM) hO hZ (md_G_kr (md_kr_rf h) hG) hK hm hi ht (md_bd_kr (md_kr_rf h) hB) (x := xn) (by omega)) mo_M_asked mi_M_asked ml_M_278 rfl (by decide) rfl rfl rfl (Nat.le_of_ble_eq_true rfl) de_M_ask_10 (fun v_ M_ hK_ hl_ hv_ => ?_)
    obtain ⟨rfl, h1_, rfl, k1_, kk_h1_, k2_, vt_⟩ := hK_
    change ab_G _ _ _ _ _ _ _ [(0, .ref 30), (1, .int (nI xn))] [.int ((sp_as (sp_vt T (sp_ok1 T Z) m i (sp_rv (sp_ok1 T Z) xn)) (sp_rv (sp_ok1 T Z) xn) 256).2)] (ab_S nr h1_ g rr) _
    have ff_h1_ : md_kr h h1_ := md_kr_tr (md_kr_rf h) k1_
    have fo_h1_ := k2_.2
    refine ab_goto (tgt := 22) de_M_ask_13 rfl ?_
    exact ab_ret (v := some (.int ((sp_as (sp_vt T (sp_ok1 T Z) m i (sp_rv (sp_ok1 T Z) xn)) (sp_rv (sp_ok1 T Z) xn) 256).2))) de_M_ask_22 ⟨_, rfl⟩ ⟨_, _, (by unfold fx_M_ask; try simp only [ab_tn (show xn < 2 ^ 31 by omega)]; rw [if_neg c_5_1]), rfl, kk_h1_, ff_h1_⟩
def fx_M_sure (h : Nat → Nat → Int32) (T : Nat → Nat → Nat) (m i t : Nat) (Z : sp_G) (x y : Int32) : Option Value × (Nat → Nat → Int32) :=
  if (nI (sp_to (sp_ok1 T Z))) = 0 then
    (some (.int (-5 : Int32)), (ab_u2 h 31 5 (h 31 5 + 1)))
  else
    if (ab_bz (sp_x9 y)) = 0 then
      (some (.int (-6 : Int32)), (ab_u2 h 31 6 (h 31 6 + 1)))
    else
      if (ab_bz (sp_im x)) = 0 then
        (some (.int (-6 : Int32)), (ab_u2 h 31 6 (h 31 6 + 1)))
      else
        if (nI (sp_vt T (sp_ok1 T Z) m i (sp_rv (sp_ok1 T Z) y.toNatClampNeg) x.toNatClampNeg)) = (nI (sp_rv (sp_ok1 T Z) y.toNatClampNeg)) then
          (some (.int (1 : Int32)), h)
        else
          if (nI (sp_vt T (sp_ok1 T Z) m i (sp_rv (sp_ok1 T Z) y.toNatClampNeg) x.toNatClampNeg)) = 0 then
            (some (.int (0 : Int32)), h)
          else
            (some (.int (2 : Int32)), h)
set_option maxHeartbeats 1000000 in
set_option maxRecDepth 10000 in
theorem ct_M_sure (l : Launch) (d : Nat) (nr : Nat) (h : Nat → Nat → Int32) (g : Nat → Nat → Int64) (rr : Nat → Option Nat) {T : Nat → Nat → Nat} (hTM : bo_T T h 32) (hO : sp_ok T) {m i t : Nat} (hm : m < 4096) (hi : i < 4096) (ht : t < 2) (hd : sp_dj m i) (hB : md_bd m i t h) {Z : sp_G} (hZ : gm_ok Z) (hG : md_G Z h) (hK : md_K T Z h) (x y : Int32) : ab_C l am_M_sure (d + 10) 0 0 [.ref 30, .int x, .int y] (ab_S nr h g rr) (fun r_ M' => ∃ X h', (r_, X) = fx_M_sure h T m i t Z x y ∧ M' = ab_S nr h' g rr ∧ md_K T Z h' ∧ md_kr X h') := by
  have ff_h := md_kr_rf h
  have kk_h := hK
  refine ab_C_of (by decide +kernel) rfl (Nat.le_of_ble_eq_true rfl) ?_
  refine ab_aload_n de_M_sure_0 0 rfl ?_
  refine ab_cV (as := []) (st := []) (ct_M_fitting l _ nr h g rr (md_T_kr (md_kr_rf h) hTM) hO hZ (md_G_kr (md_kr_rf h) hG) hK.1) mo_M_fitting mi_M_fitting ml_M_264 rfl (by decide) rfl rfl rfl (Nat.le_of_ble_eq_true rfl) de_M_sure_1 (fun v_ M_ hK_ hl_ hv_ => ?_)
  obtain ⟨rfl, h1_, rfl, k1_, k2_, k3_, k4_⟩ := hK_
  change ab_G _ _ _ _ _ _ _ [(0, .ref 30), (1, .int x), (2, .int y)] [.int (nI (sp_to (sp_ok1 T Z)))] (ab_S nr h1_ g rr) _
  have kk_h1_ : md_K T Z h1_ := md_K_fit hK k2_ k3_ k4_
  have ff_h1_ : md_kr h h1_ := md_kr_tr (md_kr_rf h) k1_
  have fo_h1_ := k2_.2
  refine ab_if_ne (tgt := 14) de_M_sure_4 rfl (fun c_4_1 => ?_) (fun c_4_1 => ?_)
  · refine ab_aload_n de_M_sure_14 0 rfl ?_
    refine ab_iload_n de_M_sure_15 2 rfl ?_
    refine ab_cV (as := [.int y]) (st := []) (ct_M_isX l _ (ab_S nr h1_ g rr) (y)) mo_M_isX mi_M_isX ml_M_266 rfl (by decide) rfl rfl rfl (Nat.le_of_ble_eq_true rfl) de_M_sure_16 (fun v_ M_ hK_ hl_ hv_ => ?_)
    obtain ⟨rfl, hm_⟩ := hK_
    have hm_ := hm_.symm
    subst hm_
    change ab_G _ _ _ _ _ _ _ [(0, .ref 30), (1, .int x), (2, .int y)] [.int (ab_bz (sp_x9 y))] (ab_S nr h1_ g rr) _
    refine ab_if_eq (tgt := 30) de_M_sure_19 rfl (fun c_19_2 => ?_) (fun c_19_2 => ?_)
    · refine ab_aload_n de_M_sure_30 0 rfl ?_
      refine ab_bipush (v := -6) de_M_sure_31 rfl ?_
      refine ab_cV (as := [.int (-6 : Int32)]) (st := []) (ct_M_no l _ nr h1_ g rr (r := (-6 : Int32)) (k := 6) (by decide) (by decide)) mo_M_no mi_M_no ml_M_94 rfl (by decide) rfl rfl rfl (Nat.le_of_ble_eq_true rfl) de_M_sure_33 (fun v_ M_ hK_ hl_ hv_ => ?_)
      obtain ⟨rfl, hm_⟩ := hK_
      have hm_ := hm_.symm
      subst hm_
      change ab_G _ _ _ _ _ _ _ [(0, .ref 30), (1, .int x), (2, .int y)] [.int (-6 : Int32)] (ab_S nr (ab_u2 h1_ 31 6 (h1_ 31 6 + 1)) g rr) _
      exact ab_ret (v := some (.int (-6 : Int32))) de_M_sure_36 ⟨_, rfl⟩ ⟨_, _, (by unfold fx_M_sure; rw [if_neg c_4_1, if_pos c_19_2]), rfl, (md_K_31 kk_h1_ _ _), (md_kr_31 ff_h1_ _)⟩
    · obtain ⟨yn, hyn, rfl⟩ := sp_x9_n c_19_2
      refine ab_aload_n de_M_sure_22 0 rfl ?_
      refine ab_iload_n de_M_sure_23 1 rfl ?_
      refine ab_cV (as := [.int x]) (st := []) (ct_M_isMove l _ nr h1_ g rr x) mo_M_isMove mi_M_isMove ml_M_201 rfl (by decide) rfl rfl rfl (Nat.le_of_ble_eq_true rfl) de_M_sure_24 (fun v_ M_ hK_ hl_ hv_ => ?_)
      obtain ⟨rfl, hm_⟩ := hK_
      have hm_ := hm_.symm
      subst hm_
      change ab_G _ _ _ _ _ _ _ [(0, .ref 30), (1, .int x), (2, .int (nI yn))] [.int (ab_bz (sp_im x))] (ab_S nr h1_ g rr) _
      refine ab_if_ne (tgt := 37) de_M_sure_27 rfl (fun c_27_3 => ?_) (fun c_27_3 => ?_)
      · obtain ⟨xn, hxn, rfl⟩ := im_n c_27_3
        refine ab_aload_n de_M_sure_37 0 rfl ?_
        refine ab_iload_n de_M_sure_38 2 rfl ?_
        refine ab_cV (as := [.int (nI yn)]) (st := []) (ct_M_counts l _ nr h1_ g rr (md_T_kr ff_h1_ hTM) hO hZ (md_G_kr ff_h1_ hG) kk_h1_ hm hi ht (md_bd_kr ff_h1_ hB) (x := yn) (by omega)) mo_M_counts mi_M_counts ml_M_275 rfl (by decide) rfl rfl rfl (Nat.le_of_ble_eq_true rfl) de_M_sure_39 (fun v_ M_ hK_ hl_ hv_ => ?_)
        obtain ⟨rfl, h2_, rfl, k1_, kk_h2_, k2_, vt_⟩ := hK_
        change ab_G _ _ _ _ _ _ _ [(0, .ref 30), (1, .int (nI xn)), (2, .int (nI yn))] [.int (nI (sp_rv (sp_ok1 T Z) yn))] (ab_S nr h2_ g rr) _
        have ff_h2_ : md_kr h h2_ := md_kr_tr ff_h1_ k1_
        have fo_h2_ := k2_.2
        refine ab_istore_n (L' := [(3, .int (nI (sp_rv (sp_ok1 T Z) yn))), (0, .ref 30), (1, .int (nI xn)), (2, .int (nI yn))]) de_M_sure_42 (by decide) rfl ?_
        refine ab_aload_n de_M_sure_43 1 rfl ?_
        refine ab_get (v := .ref 47) fl_M_69 rfl rfl de_M_sure_44 ?_
        refine ab_iload_n de_M_sure_47 2 rfl ?_
        refine ab_iald (v := h2_ 47 xn) rfl (ab_in (by omega) (by decide)) (ab_hv (ab_tn (n := xn) (by omega))) de_M_sure_48 ?_
        refine ab_top (v' := nI (sp_vt T (sp_ok1 T Z) m i (sp_rv (sp_ok1 T Z) yn) xn)) (vt_ xn (by omega)) ?_
        refine ab_iload_n de_M_sure_49 0 rfl ?_
        refine ab_icmp_ne (tgt := 57) de_M_sure_50 rfl (fun c_50_4 => ?_) (fun c_50_4 => ?_)
        · refine ab_aload_n de_M_sure_57 1 rfl ?_
          refine ab_get (v := .ref 47) fl_M_69 rfl rfl de_M_sure_58 ?_
          refine ab_iload_n de_M_sure_61 2 rfl ?_
          refine ab_iald (v := h2_ 47 xn) rfl (ab_in (by omega) (by decide)) (ab_hv (ab_tn (n := xn) (by omega))) de_M_sure_62 ?_
          refine ab_top (v' := nI (sp_vt T (sp_ok1 T Z) m i (sp_rv (sp_ok1 T Z) yn) xn)) (vt_ xn (by omega)) ?_
          refine ab_if_ne (tgt := 70) de_M_sure_63 rfl (fun c_63_5 => ?_) (fun c_63_5 => ?_)
          · refine ab_iconst (v := 2) de_M_sure_70 rfl ?_
            exact ab_ret (v := some (.int (2 : Int32))) de_M_sure_71 ⟨_, rfl⟩ ⟨_, _, (by unfold fx_M_sure; try simp only [ab_tn (show yn < 2 ^ 31 by omega), ab_tn (show xn < 2 ^ 31 by omega)]; rw [if_neg c_4_1, if_neg c_19_2, if_neg c_27_3, if_neg c_50_4, if_neg c_63_5]), rfl, kk_h2_, ff_h2_⟩
          · refine ab_iconst (v := 0) de_M_sure_66 rfl ?_
            refine ab_goto (tgt := 71) de_M_sure_67 rfl ?_
            exact ab_ret (v := some (.int (0 : Int32))) de_M_sure_71 ⟨_, rfl⟩ ⟨_, _, (by unfold fx_M_sure; try simp only [ab_tn (show yn < 2 ^ 31 by omega), ab_tn (show xn < 2 ^ 31 by omega)]; rw [if_neg c_4_1, if_neg c_19_2, if_neg c_27_3, if_neg c_50_4, if_pos c_63_5]), rfl, kk_h2_, ff_h2_⟩
        · refine ab_iconst (v := 1) de_M_sure_53 rfl ?_
          refine ab_goto (tgt := 71) de_M_sure_54 rfl ?_
          exact ab_ret (v := some (.int (1 : Int32))) de_M_sure_71 ⟨_, rfl⟩ ⟨_, _, (by unfold fx_M_sure; try simp only [ab_tn (show yn < 2 ^ 31 by omega), ab_tn (show xn < 2 ^ 31 by omega)]; rw [if_neg c_4_1, if_neg c_19_2, if_neg c_27_3, if_pos c_50_4]), rfl, kk_h2_, ff_h2_⟩
      · refine ab_aload_n de_M_sure_30 0 rfl ?_
        refine ab_bipush (v := -6) de_M_sure_31 rfl ?_
        refine ab_cV (as := [.int (-6 : Int32)]) (st := []) (ct_M_no l _ nr h1_ g rr (r := (-6 : Int32)) (k := 6) (by decide) (by decide)) mo_M_no mi_M_no ml_M_94 rfl (by decide) rfl rfl rfl (Nat.le_of_ble_eq_true rfl) de_M_sure_33 (fun v_ M_ hK_ hl_ hv_ => ?_)
        obtain ⟨rfl, hm_⟩ := hK_
        have hm_ := hm_.symm
        subst hm_
        change ab_G _ _ _ _ _ _ _ [(0, .ref 30), (1, .int x), (2, .int (nI yn))] [.int (-6 : Int32)] (ab_S nr (ab_u2 h1_ 31 6 (h1_ 31 6 + 1)) g rr) _
        exact ab_ret (v := some (.int (-6 : Int32))) de_M_sure_36 ⟨_, rfl⟩ ⟨_, _, (by unfold fx_M_sure; try simp only [ab_tn (show yn < 2 ^ 31 by omega)]; rw [if_neg c_4_1, if_neg c_19_2, if_pos c_27_3]), rfl, (md_K_31 kk_h1_ _ _), (md_kr_31 ff_h1_ _)⟩
  · refine ab_aload_n de_M_sure_7 0 rfl ?_
    refine ab_bipush (v := -5) de_M_sure_8 rfl ?_
    refine ab_cV (as := [.int (-5 : Int32)]) (st := []) (ct_M_no l _ nr h1_ g rr (r := (-5 : Int32)) (k := 5) (by decide) (by decide)) mo_M_no mi_M_no ml_M_94 rfl (by decide) rfl rfl rfl (Nat.le_of_ble_eq_true rfl) de_M_sure_10 (fun v_ M_ hK_ hl_ hv_ => ?_)
    obtain ⟨rfl, hm_⟩ := hK_
    have hm_ := hm_.symm
    subst hm_
    change ab_G _ _ _ _ _ _ _ [(0, .ref 30), (1, .int x), (2, .int y)] [.int (-5 : Int32)] (ab_S nr (ab_u2 h1_ 31 5 (h1_ 31 5 + 1)) g rr) _
    exact ab_ret (v := some (.int (-5 : Int32))) de_M_sure_13 ⟨_, rfl⟩ ⟨_, _, (by unfold fx_M_sure; rw [if_pos c_4_1]), rfl, (md_K_31 kk_h1_ _ _), (md_kr_31 ff_h1_ _)⟩
def fx_M_left (h : Nat → Nat → Int32) (T : Nat → Nat → Nat) (m i t : Nat) (Z : sp_G) (x : Int32) : Option Value × (Nat → Nat → Int32) := if ab_bz (sp_x9 x) = 0 then (some (.int (-6 : Int32)), ab_u2 h 31 6 (h 31 6 + 1)) else (some (.int (md_aw (sp_as (sp_vt T (sp_ok1 T Z) m i (sp_rv (sp_ok1 T Z) x.toNatClampNeg)) (sp_rv (sp_ok1 T Z) x.toNatClampNeg) 256))), h)
set_option maxHeartbeats 1000000 in
set_option maxRecDepth 10000 in
theorem ct_M_left (l : Launch) (d : Nat) (nr : Nat) (h : Nat → Nat → Int32) (g : Nat → Nat → Int64) (rr : Nat → Option Nat) {T : Nat → Nat → Nat} (hTM : bo_T T h 32) (hO : sp_ok T) {Z : sp_G} (hZ : gm_ok Z) (hG : md_G Z h) (hK : md_K T Z h) {m i t : Nat} (hm : m < 4096) (hi : i < 4096) (ht : t < 2) (hB : md_bd m i t h) (x : Int32) : ab_C l am_M_left (d + 11) 0 0 [.ref 30, .int x] (ab_S nr h g rr) (fun r_ M' => ∃ X h', (r_, X) = fx_M_left h T m i t Z x ∧ M' = ab_S nr h' g rr ∧ md_K T Z h' ∧ md_kr X h') := by
  have ff_h := md_kr_rf h
  have kk_h := hK
  refine ab_C_of (by decide +kernel) rfl (Nat.le_of_ble_eq_true rfl) ?_
  refine ab_aload_n de_M_left_0 0 rfl ?_
  refine ab_iload_n de_M_left_1 1 rfl ?_
  refine ab_cV (as := [.int x]) (st := []) (ct_M_isX l _ (ab_S nr h g rr) (x)) mo_M_isX mi_M_isX ml_M_266 rfl (by decide) rfl rfl rfl (Nat.le_of_ble_eq_true rfl) de_M_left_2 (fun v_ M_ hK_ hl_ hv_ => ?_)
  obtain ⟨rfl, hm_⟩ := hK_
  have hm_ := hm_.symm
  subst hm_
  change ab_G _ _ _ _ _ _ _ [(0, .ref 30), (1, .int x)] [.int (ab_bz (sp_x9 x))] (ab_S nr h g rr) _
  refine ab_if_ne (tgt := 15) de_M_left_5 rfl (fun c_5_1 => ?_) (fun c_5_1 => ?_)
  · obtain ⟨xn, hxn, rfl⟩ := sp_x9_n c_5_1
    refine ab_aload_n de_M_left_15 0 rfl ?_
    refine ab_iload_n de_M_left_16 1 rfl ?_
    refine ab_cV (as := [.int (nI xn)]) (st := []) (ct_M_asked l _ nr h g rr (md_T_kr (md_kr_rf h) hTM) hO hZ (md_G_kr (md_kr_rf h) hG) hK hm hi ht (md_bd_kr (md_kr_rf h) hB) (x := xn) (by omega)) mo_M_asked mi_M_asked ml_M_278 rfl (by decide) rfl rfl rfl (Nat.le_of_ble_eq_true rfl) de_M_left_17 (fun v_ M_ hK_ hl_ hv_ => ?_)
    obtain ⟨rfl, h1_, rfl, k1_, kk_h1_, k2_, vt_⟩ := hK_
    change ab_G _ _ _ _ _ _ _ [(0, .ref 30), (1, .int (nI xn))] [.int ((sp_as (sp_vt T (sp_ok1 T Z) m i (sp_rv (sp_ok1 T Z) xn)) (sp_rv (sp_ok1 T Z) xn) 256).2)] (ab_S nr h1_ g rr) _
    have ff_h1_ : md_kr h h1_ := md_kr_tr (md_kr_rf h) k1_
    have fo_h1_ := k2_.2
    refine ab_istore_n (L' := [(2, .int ((sp_as (sp_vt T (sp_ok1 T Z) m i (sp_rv (sp_ok1 T Z) xn)) (sp_rv (sp_ok1 T Z) xn) 256).2)), (0, .ref 30), (1, .int (nI xn))]) de_M_left_20 (by decide) rfl ?_
    refine ab_aload_n de_M_left_21 1 rfl ?_
    refine ab_iload_n de_M_left_22 2 rfl ?_
    refine ab_cV (as := [.int (nI xn)]) (st := []) (ct_M_rivalsBy_k l _ nr h1_ g rr (md_T_kr ff_h1_ hTM) hO hZ (md_G_kr ff_h1_ hG) k2_ (x := xn) (by omega)) mo_M_rivalsBy mi_M_rivalsBy ml_M_269 rfl (by decide) rfl rfl rfl (Nat.le_of_ble_eq_true rfl) de_M_left_23 (fun v_ M_ hK_ hl_ hv_ => ?_)
    obtain ⟨rfl, hm_⟩ := hK_
    have hm_ := hm_.symm
    subst hm_
    change ab_G _ _ _ _ _ _ _ [(2, .int ((sp_as (sp_vt T (sp_ok1 T Z) m i (sp_rv (sp_ok1 T Z) xn)) (sp_rv (sp_ok1 T Z) xn) 256).2)), (0, .ref 30), (1, .int (nI xn))] [.int (nI (sp_rv (sp_ok1 T Z) xn))] (ab_S nr h1_ g rr) _
    refine ab_istore_n (L' := [(3, .int (nI (sp_rv (sp_ok1 T Z) xn))), (2, .int ((sp_as (sp_vt T (sp_ok1 T Z) m i (sp_rv (sp_ok1 T Z) xn)) (sp_rv (sp_ok1 T Z) xn) 256).2)), (0, .ref 30), (1, .int (nI xn))]) de_M_left_26 (by decide) rfl ?_
    refine ab_iload_n de_M_left_27 1 rfl ?_
    refine ab_iconst (v := -1) de_M_left_28 rfl ?_
    refine ab_icmp_ne (tgt := 36) de_M_left_29 rfl (fun c_29_2 => ?_) (fun c_29_2 => ?_)
    · have le_ := sp_vt_le T (sp_ok1 T Z) m i (sp_rv (sp_ok1 T Z) xn)
      have rl_ := sp_rv_le (sp_ok1 T Z) xn
      have rt_ := sp_to_lt (f := (sp_ok1 T Z))
      obtain ⟨a_, ea_, ea1_, ea2_⟩ : ∃ a_, a_ < 252 ∧ (sp_as (sp_vt T (sp_ok1 T Z) m i (sp_rv (sp_ok1 T Z) xn)) (sp_rv (sp_ok1 T Z) xn) 256).1 = max ((sp_vt T (sp_ok1 T Z) m i (sp_rv (sp_ok1 T Z) xn)) a_) ((sp_rv (sp_ok1 T Z) xn) - (sp_vt T (sp_ok1 T Z) m i (sp_rv (sp_ok1 T Z) xn)) a_) ∧ (sp_as (sp_vt T (sp_ok1 T Z) m i (sp_rv (sp_ok1 T Z) xn)) (sp_rv (sp_ok1 T Z) xn) 256).2 = nI a_ := by
        rcases md_as_c (sp_vt T (sp_ok1 T Z) m i (sp_rv (sp_ok1 T Z) xn)) (sp_rv (sp_ok1 T Z) xn) 252 with z | ⟨a, z1, z2, z3⟩
        · exfalso; apply c_29_2; rw [md_as_256 hO, z]
        · exact ⟨a, z1, by rw [md_as_256 hO, z2], by rw [md_as_256 hO, z2]⟩
      have la_ := le_ a_
      refine ab_aload_n de_M_left_36 2 rfl ?_
      refine ab_get (v := .ref 47) fl_M_69 rfl rfl de_M_left_37 ?_
      refine ab_iload_n de_M_left_40 1 rfl ?_
      refine ab_iald (v := h1_ 47 a_) rfl (by rw [ea2_]; exact ab_in (by omega) (by decide)) (by rw [ea2_]; exact ab_hv (ab_tn (n := a_) (by omega))) de_M_left_41 ?_
      refine ab_top (v' := nI ((sp_vt T (sp_ok1 T Z) m i (sp_rv (sp_ok1 T Z) xn)) a_)) (vt_ a_ (by omega)) ?_
      refine ab_iload_n de_M_left_42 0 rfl ?_
      refine ab_aload_n de_M_left_43 2 rfl ?_
      refine ab_get (v := .ref 47) fl_M_69 rfl rfl de_M_left_44 ?_
      refine ab_iload_n de_M_left_47 1 rfl ?_
      refine ab_iald (v := h1_ 47 a_) rfl (by rw [ea2_]; exact ab_in (by omega) (by decide)) (by rw [ea2_]; exact ab_hv (ab_tn (n := a_) (by omega))) de_M_left_48 ?_
      refine ab_top (v' := nI ((sp_vt T (sp_ok1 T Z) m i (sp_rv (sp_ok1 T Z) xn)) a_)) (vt_ a_ (by omega)) ?_
      refine ab_isub de_M_left_49 ?_
      refine ab_top (v' := nI ((sp_rv (sp_ok1 T Z) xn) - (sp_vt T (sp_ok1 T Z) m i (sp_rv (sp_ok1 T Z) xn)) a_)) (ab_sub_k (by omega)) ?_
      refine ab_icmp_le (tgt := 62) de_M_left_50 rfl (fun c_50_3 => ?_) (fun c_50_3 => ?_)
      · refine ab_iload_n de_M_left_62 0 rfl ?_
        refine ab_aload_n de_M_left_63 2 rfl ?_
        refine ab_get (v := .ref 47) fl_M_69 rfl rfl de_M_left_64 ?_
        refine ab_iload_n de_M_left_67 1 rfl ?_
        refine ab_iald (v := h1_ 47 a_) rfl (by rw [ea2_]; exact ab_in (by omega) (by decide)) (by rw [ea2_]; exact ab_hv (ab_tn (n := a_) (by omega))) de_M_left_68 ?_
        refine ab_top (v' := nI ((sp_vt T (sp_ok1 T Z) m i (sp_rv (sp_ok1 T Z) xn)) a_)) (vt_ a_ (by omega)) ?_
        refine ab_isub de_M_left_69 ?_
        refine ab_top (v' := nI ((sp_rv (sp_ok1 T Z) xn) - (sp_vt T (sp_ok1 T Z) m i (sp_rv (sp_ok1 T Z) xn)) a_)) (ab_sub_k (by omega)) ?_
        exact ab_ret (v := some (.int (nI ((sp_rv (sp_ok1 T Z) xn) - (sp_vt T (sp_ok1 T Z) m i (sp_rv (sp_ok1 T Z) xn)) a_)))) de_M_left_70 ⟨_, rfl⟩ ⟨_, _, (by unfold fx_M_left; rw [if_neg c_5_1, ab_tn (show xn < 2 ^ 31 by omega)]; refine congrArg (fun z => (some (Value.int z), h)) ?_; rw [show md_aw (sp_as (sp_vt T (sp_ok1 T Z) m i (sp_rv (sp_ok1 T Z) xn)) (sp_rv (sp_ok1 T Z) xn) 256) = nI (sp_as (sp_vt T (sp_ok1 T Z) m i (sp_rv (sp_ok1 T Z) xn)) (sp_rv (sp_ok1 T Z) xn) 256).1 from if_neg c_29_2, ea1_]; exact congrArg nI (Nat.max_eq_right ((ab_le (by omega) (by omega)).mp c_50_3)).symm), rfl, kk_h1_, ff_h1_⟩
      · refine ab_aload_n de_M_left_53 2 rfl ?_
        refine ab_get (v := .ref 47) fl_M_69 rfl rfl de_M_left_54 ?_
        refine ab_iload_n de_M_left_57 1 rfl ?_
        refine ab_iald (v := h1_ 47 a_) rfl (by rw [ea2_]; exact ab_in (by omega) (by decide)) (by rw [ea2_]; exact ab_hv (ab_tn (n := a_) (by omega))) de_M_left_58 ?_
        refine ab_top (v' := nI ((sp_vt T (sp_ok1 T Z) m i (sp_rv (sp_ok1 T Z) xn)) a_)) (vt_ a_ (by omega)) ?_
        refine ab_goto (tgt := 70) de_M_left_59 rfl ?_
        exact ab_ret (v := some (.int (nI ((sp_vt T (sp_ok1 T Z) m i (sp_rv (sp_ok1 T Z) xn)) a_)))) de_M_left_70 ⟨_, rfl⟩ ⟨_, _, (by unfold fx_M_left; rw [if_neg c_5_1, ab_tn (show xn < 2 ^ 31 by omega)]; refine congrArg (fun z => (some (Value.int z), h)) ?_; rw [show md_aw (sp_as (sp_vt T (sp_ok1 T Z) m i (sp_rv (sp_ok1 T Z) xn)) (sp_rv (sp_ok1 T Z) xn) 256) = nI (sp_as (sp_vt T (sp_ok1 T Z) m i (sp_rv (sp_ok1 T Z) xn)) (sp_rv (sp_ok1 T Z) xn) 256).1 from if_neg c_29_2, ea1_]; exact congrArg nI (Nat.max_eq_left (Nat.le_of_not_le (fun z => c_50_3 ((ab_le (by omega) (by omega)).mpr z)))).symm), rfl, kk_h1_, ff_h1_⟩
    · refine ab_iconst (v := 0) de_M_left_32 rfl ?_
      refine ab_goto (tgt := 70) de_M_left_33 rfl ?_
      exact ab_ret (v := some (.int (0 : Int32))) de_M_left_70 ⟨_, rfl⟩ ⟨_, _, (by unfold fx_M_left; rw [if_neg c_5_1, ab_tn (show xn < 2 ^ 31 by omega)]; refine congrArg (fun z => (some (Value.int z), h)) ?_; exact (if_pos c_29_2).symm), rfl, kk_h1_, ff_h1_⟩
  · refine ab_aload_n de_M_left_8 0 rfl ?_
    refine ab_bipush (v := -6) de_M_left_9 rfl ?_
    refine ab_cV (as := [.int (-6 : Int32)]) (st := []) (ct_M_no l _ nr h g rr (r := (-6 : Int32)) (k := 6) (by decide) (by decide)) mo_M_no mi_M_no ml_M_94 rfl (by decide) rfl rfl rfl (Nat.le_of_ble_eq_true rfl) de_M_left_11 (fun v_ M_ hK_ hl_ hv_ => ?_)
    obtain ⟨rfl, hm_⟩ := hK_
    have hm_ := hm_.symm
    subst hm_
    change ab_G _ _ _ _ _ _ _ [(0, .ref 30), (1, .int x)] [.int (-6 : Int32)] (ab_S nr (ab_u2 h 31 6 (h 31 6 + 1)) g rr) _
    exact ab_ret (v := some (.int (-6 : Int32))) de_M_left_14 ⟨_, rfl⟩ ⟨_, _, (by unfold fx_M_left; rw [if_pos c_5_1]), rfl, md_K_31 kk_h _ _, md_kr_31 ff_h _⟩
