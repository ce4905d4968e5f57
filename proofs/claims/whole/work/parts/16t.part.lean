/-! the reference: where two CODES part -/
theorem md_r16_cong {F G : Nat → List Nat} : ∀ n p, (∀ j, p ≤ j → j < p + n → F j = G j) → sp_r16 F n p = sp_r16 G n p
  | 0, p, _ => rfl
  | n + 1, p, h => by rw [sp_r16, sp_r16, h p (Nat.le_refl p) (by omega), md_r16_cong n (p + 1) (fun j h1 h2 => h j (by omega) (by omega))]
theorem md_ml_eq {T : Nat → Nat → Nat} (hO : sp_ok T) {v w m i : Nat} : sp_ml T v m i = sp_ml T w m i ↔ ∀ p, p < 16 → sp_tg T v m i p = sp_tg T w m i p := by
  constructor
  · intro h p hp
    refine sp_ext (sp_tg_lt hO v m i p) (sp_tg_lt hO w m i p) (fun q hq => ?_)
    have h1 := md_ml_ct hO (v := v) (m := m) (i := i) (x := 16 * p + q) (by omega)
    have h2 := md_ml_ct hO (v := w) (m := m) (i := i) (x := 16 * p + q) (by omega)
    rw [h, h2] at h1
    unfold sp_iv at h1
    rw [show (16 * p + q) / 16 = p by omega, show (16 * p + q) % 16 = q by omega] at h1
    revert h1
    cases (sp_tg T v m i p).testBit q <;> cases (sp_tg T w m i p).testBit q <;> decide
  · intro h
    refine md_r16_cong 16 0 (fun j _ hj => ?_)
    unfold sp_mp
    rw [h j (by omega)]
theorem md_pk {T : Nat → Nat → Nat} (hO : sp_ok T) {c e : Nat} {Z : sp_G} {y k : Nat} : sp_pk T c e Z y k = !decide (sp_ml T (sp_lv T c (sp_sg T c Z y k).1 (sp_sg T c Z y k).2) (sp_sg T c Z y k).1 (sp_sg T c Z y k).2 = sp_ml T (sp_lv T e (sp_sg T c Z y k).1 (sp_sg T c Z y k).2) (sp_sg T c Z y k).1 (sp_sg T c Z y k).2) := by
  unfold sp_pk
  by_cases h : sp_ml T (sp_lv T c (sp_sg T c Z y k).1 (sp_sg T c Z y k).2) (sp_sg T c Z y k).1 (sp_sg T c Z y k).2 = sp_ml T (sp_lv T e (sp_sg T c Z y k).1 (sp_sg T c Z y k).2) (sp_sg T c Z y k).1 (sp_sg T c Z y k).2
  · rw [decide_eq_true h]
    refine (sp_any_no _ _).mpr (fun p hp => ?_)
    rw [decide_eq_true ((md_ml_eq hO).mp h p hp)]
    rfl
  · rw [decide_eq_false h]
    refine (sp_any_iff _ _).mpr ?_
    apply Decidable.byContradiction
    intro n
    apply h
    refine (md_ml_eq hO).mpr (fun p hp => ?_)
    apply Decidable.byContradiction
    intro n2
    exact n ⟨p, hp, by rw [decide_eq_false n2]; rfl⟩
def md_eqk (l1 l2 : List Nat) (k : Nat) : Bool := decide (l1.length = l2.length ∧ l1.take k = l2.take k)
theorem md_eqk_0 (l1 l2 : List Nat) : md_eqk l1 l2 0 = decide (l1.length = l2.length) := by
  unfold md_eqk
  exact decide_eq_decide.mpr ⟨fun z => z.1, fun z => ⟨z, rfl⟩⟩
theorem md_eqk_s {l1 l2 : List Nat} {k : Nat} (h1 : k < l1.length) (h2 : k < l2.length) (h : md_eqk l1 l2 k = true) : md_eqk l1 l2 (k + 1) = decide (l1[k] = l2[k]) := by
  obtain ⟨a, b⟩ := of_decide_eq_true h
  unfold md_eqk
  rw [md_take h1, md_take h2, b]
  refine decide_eq_decide.mpr ⟨fun z => ?_, fun z => ⟨a, by rw [z]⟩⟩
  have := List.append_cancel_left z.2
  exact List.head_eq_of_cons_eq this
theorem md_eqk_e {l1 l2 : List Nat} {k : Nat} (h : md_eqk l1 l2 k = true) (hk : l1.length ≤ k) : l1 = l2 := by
  obtain ⟨a, b⟩ := of_decide_eq_true h
  rwa [List.take_of_length_le hk, List.take_of_length_le (by omega)] at b
theorem md_eqk_n {l1 l2 : List Nat} {k : Nat} (h : md_eqk l1 l2 k = false) : ¬ l1 = l2 := by
  rintro rfl
  exact of_decide_eq_false h ⟨rfl, rfl⟩
set_option maxHeartbeats 1000000 in
set_option maxRecDepth 10000 in
theorem lp_M_part_j (l : Launch) (d : Nat) (nr : Nat) (h : Nat → Nat → Int32) (g : Nat → Nat → Int64) (rr : Nat → Option Nat) {c e y k : Nat} {l1 l2 : List Nat} (hl1 : md_at h 0 l1) (hl2 : md_at h 200 l2) (h1 : l1.length ≤ 144) (h2 : l2.length ≤ 144) (h3 : ∀ a, a ∈ l1 → a < 2 ^ 31) (h4 : ∀ a, a ∈ l2 → a < 2 ^ 31) {K : Option Value → ab_Me → Prop} (kx : ∀ w, w = ab_bz (decide (l1 = l2)) → ab_G l none am_M_part2 (d + 6) 0 0 148 [(0, .ref 30), (1, .int (nI c)), (2, .int (nI e)), (3, .int (nI y)), (4, .int (nI k)), (7, .int w)] [] (ab_S nr h g rr) (K)) : ∀ (fu_ j : Nat), j ≤ l1.length → l1.length < j + fu_ → ab_G l none am_M_part2 (d + 6) 0 0 102 [(0, .ref 30), (1, .int (nI c)), (2, .int (nI e)), (3, .int (nI y)), (4, .int (nI k)), (5, .int (nI l1.length)), (6, .int (nI l2.length)), (7, .int (ab_bz (md_eqk l1 l2 j))), (8, .int (nI j))] [] (ab_S nr h g rr) (K) := by
  intro fu_
  induction fu_ with
  | zero => intro j  h1 h2; omega
  | succ fu_ ih =>
    intro j  hN_ hn_ 
    refine ab_iload de_M_part2_102 8 rfl ?_
    refine ab_iload de_M_part2_104 5 rfl ?_
    refine ab_icmp_ge (tgt := 148) de_M_part2_106 rfl (fun c_106_1 => ?_) (fun c_106_1 => ?_)
    · have hj := c_106_1
      refine ab_sub (L' := [(0, .ref 30), (1, .int (nI c)), (2, .int (nI e)), (3, .int (nI y)), (4, .int (nI k)), (7, .int (ab_bz (md_eqk l1 l2 j)))]) [0, 1, 2, 3, 4, 7] rfl ?_
      refine kx _ ?_
      rw [show decide (l1 = l2) = md_eqk l1 l2 j from ?_]
      have q_ := (ab_le (by omega) (by omega)).mp c_106_1
      cases w_ : md_eqk l1 l2 j with
      | true => exact decide_eq_true (md_eqk_e w_ q_)
      | false => exact decide_eq_false (md_eqk_n w_)
    · have hj := Nat.lt_of_not_le (fun z_ => c_106_1 ((ab_le (by omega) (by omega)).mpr z_))
      refine ab_iload de_M_part2_109 7 rfl ?_
      refine ab_if_eq (tgt := 148) de_M_part2_111 rfl (fun c_111_2 => ?_) (fun c_111_2 => ?_)
      · refine ab_sub (L' := [(0, .ref 30), (1, .int (nI c)), (2, .int (nI e)), (3, .int (nI y)), (4, .int (nI k)), (7, .int (ab_bz (md_eqk l1 l2 j)))]) [0, 1, 2, 3, 4, 7] rfl ?_
        refine kx _ ?_
        rw [(ab_bz0 _).mp c_111_2, decide_eq_false (md_eqk_n ((ab_bz0 _).mp c_111_2))]
      · have j2_ : j < l2.length := by
          have := (of_decide_eq_true ((ab_bz1 _).mp c_111_2)).1
          omega
        have a1_ := h3 _ (List.getElem_mem hj)
        have a2_ := h4 _ (List.getElem_mem j2_)
        refine ab_aload_n de_M_part2_114 0 rfl ?_
        refine ab_get (v := .ref 44) fl_M_54 rfl rfl de_M_part2_115 ?_
        refine ab_iload de_M_part2_118 8 rfl ?_
        refine ab_iald (v := h 44 j) rfl (ab_in (by omega) (by decide)) (ab_hv (ab_tn (n := j) (by omega))) de_M_part2_120 ?_
        refine ab_top (v' := nI (l1[j])) (by have z := hl1 j hj; rwa [Nat.zero_add] at z) ?_
        refine ab_aload_n de_M_part2_121 0 rfl ?_
        refine ab_get (v := .ref 44) fl_M_54 rfl rfl de_M_part2_122 ?_
        refine ab_sipush (v := 200) de_M_part2_125 rfl ?_
        refine ab_iload de_M_part2_128 8 rfl ?_
        refine ab_iadd de_M_part2_130 ?_
        refine ab_top (v' := nI (200 + j)) (ab_add _ _) ?_
        refine ab_iald (v := h 44 (200 + j)) rfl (ab_in (by omega) (by decide)) (ab_hv (ab_tn (n := (200 + j)) (by omega))) de_M_part2_131 ?_
        refine ab_top (v' := nI (l2[j])) (hl2 j j2_) ?_
        refine ab_icmp_ne (tgt := 139) de_M_part2_132 rfl (fun c_132_3 => ?_) (fun c_132_3 => ?_)
        · refine ab_iconst (v := 0) de_M_part2_139 rfl ?_
          refine ab_istore (L' := [(7, .int (0 : Int32)), (0, .ref 30), (1, .int (nI c)), (2, .int (nI e)), (3, .int (nI y)), (4, .int (nI k)), (5, .int (nI l1.length)), (6, .int (nI l2.length)), (8, .int (nI j))]) de_M_part2_140 (by decide) rfl ?_
          refine ab_iinc (v := nI (j + 1)) (L' := [(8, .int (nI (j + 1))), (7, .int (0 : Int32)), (0, .ref 30), (1, .int (nI c)), (2, .int (nI e)), (3, .int (nI y)), (4, .int (nI k)), (5, .int (nI l1.length)), (6, .int (nI l2.length))]) de_M_part2_142 8 rfl (by rw [show Int32.ofInt 1 = nI 1 from rfl, ab_add]) (by decide) rfl ?_
          refine ab_goto (tgt := 102) de_M_part2_145 rfl ?_
          refine ab_sub (L' := [(0, .ref 30), (1, .int (nI c)), (2, .int (nI e)), (3, .int (nI y)), (4, .int (nI k)), (5, .int (nI l1.length)), (6, .int (nI l2.length)), (7, .int (0 : Int32)), (8, .int (nI (j + 1)))]) [2, 3, 4, 5, 6, 7, 8, 1, 0] rfl ?_
          have e_ : ab_bz (md_eqk l1 l2 (j + 1)) = 0 := by
            rw [md_eqk_s hj j2_ ((ab_bz1 _).mp c_111_2), decide_eq_false (fun z => c_132_3 (by rw [z]))]
            rfl
          have z_ := ih (j + 1) (by omega) (by omega)
          rw [e_] at z_
          exact z_
        · refine ab_iconst (v := 1) de_M_part2_135 rfl ?_
          refine ab_goto (tgt := 140) de_M_part2_136 rfl ?_
          refine ab_istore (L' := [(7, .int (1 : Int32)), (0, .ref 30), (1, .int (nI c)), (2, .int (nI e)), (3, .int (nI y)), (4, .int (nI k)), (5, .int (nI l1.length)), (6, .int (nI l2.length)), (8, .int (nI j))]) de_M_part2_140 (by decide) rfl ?_
          refine ab_iinc (v := nI (j + 1)) (L' := [(8, .int (nI (j + 1))), (7, .int (1 : Int32)), (0, .ref 30), (1, .int (nI c)), (2, .int (nI e)), (3, .int (nI y)), (4, .int (nI k)), (5, .int (nI l1.length)), (6, .int (nI l2.length))]) de_M_part2_142 8 rfl (by rw [show Int32.ofInt 1 = nI 1 from rfl, ab_add]) (by decide) rfl ?_
          refine ab_goto (tgt := 102) de_M_part2_145 rfl ?_
          refine ab_sub (L' := [(0, .ref 30), (1, .int (nI c)), (2, .int (nI e)), (3, .int (nI y)), (4, .int (nI k)), (5, .int (nI l1.length)), (6, .int (nI l2.length)), (7, .int (1 : Int32)), (8, .int (nI (j + 1)))]) [2, 3, 4, 5, 6, 7, 8, 1, 0] rfl ?_
          have e_ : ab_bz (md_eqk l1 l2 (j + 1)) = 1 := by
            rw [md_eqk_s hj j2_ ((ab_bz1 _).mp c_111_2), decide_eq_true ((ab_inj (by omega) (by omega)).mp c_132_3)]
            rfl
          have z_ := ih (j + 1) (by omega) (by omega)
          rw [e_] at z_
          exact z_
set_option maxHeartbeats 1000000 in
set_option maxRecDepth 10000 in
theorem lp_M_part_k (l : Launch) (d : Nat) (nr : Nat) (h : Nat → Nat → Int32) (g : Nat → Nat → Int64) (rr : Nat → Option Nat) {T : Nat → Nat → Nat} (hTM : bo_T T h 32) (hO : sp_ok T) {c : Nat} (hc : c < 4096) {Z : sp_G} (hZ : gm_ok Z) (hG : md_G Z h) {y : Nat} (hy : y < gN Z) {e : Nat} (he : e < 4096) (hpv : ∀ g, g < y → (fun g => sp_any (sp_pk T c e Z g) (gL Z g)) g = false) (kx : ∀ (hh : Nat → Nat → Int32), md_sc h hh → (fun g => sp_any (sp_pk T c e Z g) (gL Z g)) y = false → ab_G l none am_M_part2 (d + 6) 0 0 184 [(0, .ref 30), (1, .int (nI c)), (2, .int (nI e)), (3, .int (nI y))] [] (ab_S nr hh g rr) (fun (r_ : Option Value) (M' : ab_Me) => r_ = some (.int (sp_pa T c e Z)) ∧ ∃ h', M' = ab_S nr h' g rr ∧ md_sc h h')) : ∀ (fu_ k : Nat) (hh : Nat → Nat → Int32), k ≤ (gL Z y) → (gL Z y) < k + fu_ → md_sc h hh → hh 30 27 = nI (sp_sg T c Z y k).1 → hh 30 28 = nI (sp_sg T c Z y k).2 → (∀ j, j < k → (sp_pk T c e Z y) j = false) → ab_G l none am_M_part2 (d + 6) 0 0 40 [(0, .ref 30), (1, .int (nI c)), (2, .int (nI e)), (3, .int (nI y)), (4, .int (nI k))] [] (ab_S nr hh g rr) (fun (r_ : Option Value) (M' : ab_Me) => r_ = some (.int (sp_pa T c e Z)) ∧ ∃ h', M' = ab_S nr h' g rr ∧ md_sc h h') := by
  intro fu_
  induction fu_ with
  | zero => intro k hh h1 h2; omega
  | succ fu_ ih =>
    intro k hh hN_ hn_ hf0 hf1 hf2 hf3
    obtain ⟨sm_, si_, sd_⟩ := sp_sg_ok (T := T) (c := c) hZ hy k (by omega)
    have hTh := md_T_sc hf0 hTM
    have hGh := md_G_sc hf0 hG
    have y6_ := hZ.1
    have l20_ := (hZ.2 y hy).2.2.2.1
    refine ab_iload de_M_part2_40 4 rfl ?_
    refine ab_aload_n de_M_part2_42 0 rfl ?_
    refine ab_get (v := .ref 36) fl_M_29 rfl rfl de_M_part2_43 ?_
    refine ab_iload_n de_M_part2_46 3 rfl ?_
    refine ab_iald (v := hh 36 y) rfl (ab_in (by omega) (by decide)) (ab_hv (ab_tn (n := y) (by omega))) de_M_part2_47 ?_
    refine ab_top (v' := nI (gL Z y)) ((hGh.2 y hy).2.1) ?_
    refine ab_icmp_ge (tgt := 184) de_M_part2_48 rfl (fun c_48_1 => ?_) (fun c_48_1 => ?_)
    · have hk := (ab_le (by omega) (by omega)).mp c_48_1
      refine ab_sub (L' := [(0, .ref 30), (1, .int (nI c)), (2, .int (nI e)), (3, .int (nI y))]) [0, 1, 2, 3] rfl ?_
      exact kx hh hf0 ((sp_any_no _ _).mpr (fun j hj => hf3 j (by omega)))
    · have hk := Nat.lt_of_not_le (fun z_ => c_48_1 ((ab_le (by omega) (by omega)).mpr z_))
      have sx_ := (hZ.2 y hy).2.2.2.2.1 k hk
      have mx_ := sx_.1
      refine ab_aload_n de_M_part2_51 0 rfl ?_
      refine ab_iload_n de_M_part2_52 1 rfl ?_
      refine ab_aload_n de_M_part2_53 0 rfl ?_
      refine ab_get (v := .int (hh 30 27)) fl_M_239 rfl rfl de_M_part2_54 ?_
      refine ab_top (v' := nI (sp_sg T c Z y k).1) (hf1) ?_
      refine ab_aload_n de_M_part2_57 0 rfl ?_
      refine ab_get (v := .int (hh 30 28)) fl_M_242 rfl rfl de_M_part2_58 ?_
      refine ab_top (v' := nI (sp_sg T c Z y k).2) (hf2) ?_
      refine ab_iconst (v := 0) de_M_part2_61 rfl ?_
      refine ab_cV (as := [.int (nI c), .int (nI (sp_sg T c Z y k).1), .int (nI (sp_sg T c Z y k).2), .int (0 : Int32)]) (st := []) (ct_M_lists l _ nr hh g rr hTh hO hc sm_ si_ (p0 := 0) (by omega)) mo_M_lists mi_M_lists ml_M_219 rfl (by decide) rfl rfl rfl (Nat.le_of_ble_eq_true rfl) de_M_part2_62 (fun v_ M_ hK_ hl_ hv_ => ?_)
      obtain ⟨rfl, h1_, rfl, s1_, s2_⟩ := hK_
      change ab_G _ _ _ _ _ _ _ [(0, .ref 30), (1, .int (nI c)), (2, .int (nI e)), (3, .int (nI y)), (4, .int (nI k))] [.int (nI (sp_ml T (sp_lv T c (sp_sg T c Z y k).1 (sp_sg T c Z y k).2) (sp_sg T c Z y k).1 (sp_sg T c Z y k).2).length)] (ab_S nr h1_ g rr) _
      have c1_ := md_sc_44 s1_
      have f1_ : h1_ 30 27 = nI (sp_sg T c Z y k).1 := (congrFun (s1_.1 30 (by decide)) 27).trans hf1
      have f2_ : h1_ 30 28 = nI (sp_sg T c Z y k).2 := (congrFun (s1_.1 30 (by decide)) 28).trans hf2
      refine ab_istore (L' := [(5, .int (nI (sp_ml T (sp_lv T c (sp_sg T c Z y k).1 (sp_sg T c Z y k).2) (sp_sg T c Z y k).1 (sp_sg T c Z y k).2).length)), (0, .ref 30), (1, .int (nI c)), (2, .int (nI e)), (3, .int (nI y)), (4, .int (nI k))]) de_M_part2_65 (by decide) rfl ?_
      refine ab_aload_n de_M_part2_67 1 rfl ?_
      refine ab_iload_n de_M_part2_68 3 rfl ?_
      refine ab_aload_n de_M_part2_69 1 rfl ?_
      refine ab_get (v := .int (h1_ 30 27)) fl_M_239 rfl rfl de_M_part2_70 ?_
      refine ab_top (v' := nI (sp_sg T c Z y k).1) (f1_) ?_
      refine ab_aload_n de_M_part2_73 1 rfl ?_
      refine ab_get (v := .int (h1_ 30 28)) fl_M_242 rfl rfl de_M_part2_74 ?_
      refine ab_top (v' := nI (sp_sg T c Z y k).2) (f2_) ?_
      refine ab_sipush (v := 200) de_M_part2_77 rfl ?_
      refine ab_cV (as := [.int (nI e), .int (nI (sp_sg T c Z y k).1), .int (nI (sp_sg T c Z y k).2), .int (200 : Int32)]) (st := []) (ct_M_lists l _ nr h1_ g rr (md_T_sc (md_sc_tr hf0 c1_) hTM) hO he sm_ si_ (p0 := 200) (by omega)) mo_M_lists mi_M_lists ml_M_219 rfl (by decide) rfl rfl rfl (Nat.le_of_ble_eq_true rfl) de_M_part2_80 (fun v_ M_ hK_ hl_ hv_ => ?_)
      obtain ⟨rfl, h2_, rfl, s3_, s4_⟩ := hK_
      change ab_G _ _ _ _ _ _ _ [(5, .int (nI (sp_ml T (sp_lv T c (sp_sg T c Z y k).1 (sp_sg T c Z y k).2) (sp_sg T c Z y k).1 (sp_sg T c Z y k).2).length)), (0, .ref 30), (1, .int (nI c)), (2, .int (nI e)), (3, .int (nI y)), (4, .int (nI k))] [.int (nI (sp_ml T (sp_lv T e (sp_sg T c Z y k).1 (sp_sg T c Z y k).2) (sp_sg T c Z y k).1 (sp_sg T c Z y k).2).length)] (ab_S nr h2_ g rr) _
      have c3_ := md_sc_44 s3_
      have t2_ := md_sc_tr (md_sc_tr hf0 c1_) c3_
      have f3_ : h2_ 30 27 = nI (sp_sg T c Z y k).1 := (congrFun (s3_.1 30 (by decide)) 27).trans f1_
      have f4_ : h2_ 30 28 = nI (sp_sg T c Z y k).2 := (congrFun (s3_.1 30 (by decide)) 28).trans f2_
      have at1_ : md_at h2_ 0 (sp_ml T (sp_lv T c (sp_sg T c Z y k).1 (sp_sg T c Z y k).2) (sp_sg T c Z y k).1 (sp_sg T c Z y k).2) := fun j hj => by
        have := md_ml_le T (sp_lv T c (sp_sg T c Z y k).1 (sp_sg T c Z y k).2) (sp_sg T c Z y k).1 (sp_sg T c Z y k).2
        exact (s3_.2 (0 + j) (Or.inl (by omega))).trans (s2_ j hj)
      have T2_ := md_T_sc t2_ hTM
      have G2_ := md_G_sc t2_ hG
      have n1_ := md_ml_le T (sp_lv T c (sp_sg T c Z y k).1 (sp_sg T c Z y k).2) (sp_sg T c Z y k).1 (sp_sg T c Z y k).2
      have n2_ := md_ml_le T (sp_lv T e (sp_sg T c Z y k).1 (sp_sg T c Z y k).2) (sp_sg T c Z y k).1 (sp_sg T c Z y k).2
      refine ab_istore (L' := [(6, .int (nI (sp_ml T (sp_lv T e (sp_sg T c Z y k).1 (sp_sg T c Z y k).2) (sp_sg T c Z y k).1 (sp_sg T c Z y k).2).length)), (5, .int (nI (sp_ml T (sp_lv T c (sp_sg T c Z y k).1 (sp_sg T c Z y k).2) (sp_sg T c Z y k).1 (sp_sg T c Z y k).2).length)), (0, .ref 30), (1, .int (nI c)), (2, .int (nI e)), (3, .int (nI y)), (4, .int (nI k))]) de_M_part2_83 (by decide) rfl ?_
      refine ab_iload de_M_part2_85 1 rfl ?_
      refine ab_iload de_M_part2_87 0 rfl ?_
      refine ab_icmp_ne (tgt := 96) de_M_part2_89 rfl (fun c_89_2 => ?_) (fun c_89_2 => ?_)
      · refine ab_iconst (v := 0) de_M_part2_96 rfl ?_
        refine ab_istore (L' := [(7, .int (0 : Int32)), (6, .int (nI (sp_ml T (sp_lv T e (sp_sg T c Z y k).1 (sp_sg T c Z y k).2) (sp_sg T c Z y k).1 (sp_sg T c Z y k).2).length)), (5, .int (nI (sp_ml T (sp_lv T c (sp_sg T c Z y k).1 (sp_sg T c Z y k).2) (sp_sg T c Z y k).1 (sp_sg T c Z y k).2).length)), (0, .ref 30), (1, .int (nI c)), (2, .int (nI e)), (3, .int (nI y)), (4, .int (nI k))]) de_M_part2_97 (by decide) rfl ?_
        refine ab_iconst (v := 0) de_M_part2_99 rfl ?_
        refine ab_istore (L' := [(8, .int (0 : Int32)), (7, .int (0 : Int32)), (6, .int (nI (sp_ml T (sp_lv T e (sp_sg T c Z y k).1 (sp_sg T c Z y k).2) (sp_sg T c Z y k).1 (sp_sg T c Z y k).2).length)), (5, .int (nI (sp_ml T (sp_lv T c (sp_sg T c Z y k).1 (sp_sg T c Z y k).2) (sp_sg T c Z y k).1 (sp_sg T c Z y k).2).length)), (0, .ref 30), (1, .int (nI c)), (2, .int (nI e)), (3, .int (nI y)), (4, .int (nI k))]) de_M_part2_100 (by decide) rfl ?_
        refine ab_sub (L' := [(0, .ref 30), (1, .int (nI c)), (2, .int (nI e)), (3, .int (nI y)), (4, .int (nI k)), (5, .int (nI (sp_ml T (sp_lv T c (sp_sg T c Z y k).1 (sp_sg T c Z y k).2) (sp_sg T c Z y k).1 (sp_sg T c Z y k).2).length)), (6, .int (nI (sp_ml T (sp_lv T e (sp_sg T c Z y k).1 (sp_sg T c Z y k).2) (sp_sg T c Z y k).1 (sp_sg T c Z y k).2).length)), (7, .int (0 : Int32)), (8, .int (nI 0))]) [4, 5, 6, 7, 8, 3, 2, 1, 0] rfl ?_
        have e0_ : ab_bz (md_eqk (sp_ml T (sp_lv T c (sp_sg T c Z y k).1 (sp_sg T c Z y k).2) (sp_sg T c Z y k).1 (sp_sg T c Z y k).2) (sp_ml T (sp_lv T e (sp_sg T c Z y k).1 (sp_sg T c Z y k).2) (sp_sg T c Z y k).1 (sp_sg T c Z y k).2) 0) = 0 := by
          rw [md_eqk_0, decide_eq_false (fun z => c_89_2 (by rw [z]))]
          rfl
        refine ab_eq (L' := [(0, .ref 30), (1, .int (nI c)), (2, .int (nI e)), (3, .int (nI y)), (4, .int (nI k)), (5, .int (nI (sp_ml T (sp_lv T c (sp_sg T c Z y k).1 (sp_sg T c Z y k).2) (sp_sg T c Z y k).1 (sp_sg T c Z y k).2).length)), (6, .int (nI (sp_ml T (sp_lv T e (sp_sg T c Z y k).1 (sp_sg T c Z y k).2) (sp_sg T c Z y k).1 (sp_sg T c Z y k).2).length)), (7, .int (ab_bz (md_eqk (sp_ml T (sp_lv T c (sp_sg T c Z y k).1 (sp_sg T c Z y k).2) (sp_sg T c Z y k).1 (sp_sg T c Z y k).2) (sp_ml T (sp_lv T e (sp_sg T c Z y k).1 (sp_sg T c Z y k).2) (sp_sg T c Z y k).1 (sp_sg T c Z y k).2) 0))), (8, .int (nI 0))]) rfl (by rw [e0_]) rfl rfl ?_
        refine lp_M_part_j l d nr h2_ g rr at1_ s4_ n1_ n2_ (fun a ha => sp_ml_lt ha) (fun a ha => sp_ml_lt ha) (fun w hw => ?_) ((sp_ml T (sp_lv T c (sp_sg T c Z y k).1 (sp_sg T c Z y k).2) (sp_sg T c Z y k).1 (sp_sg T c Z y k).2).length + 1) 0 (by omega) (by omega)
        refine ab_iload de_M_part2_148 5 rfl ?_
        refine ab_if_ne (tgt := 161) de_M_part2_150 rfl (fun c_150_3 => ?_) (fun c_150_3 => ?_)
        · refine ab_aload_n de_M_part2_161 0 rfl ?_
          refine ab_iload_n de_M_part2_162 1 rfl ?_
          refine ab_aload_n de_M_part2_163 0 rfl ?_
          refine ab_get (v := .ref 35) fl_M_26 rfl rfl de_M_part2_164 ?_
          refine ab_bipush (v := 20) de_M_part2_167 rfl ?_
          refine ab_iload_n de_M_part2_169 3 rfl ?_
          refine ab_imul de_M_part2_170 ?_
          refine ab_top (v' := nI (20 * y)) (ab_mul _ _) ?_
          refine ab_iload de_M_part2_171 4 rfl ?_
          refine ab_iadd de_M_part2_173 ?_
          refine ab_top (v' := nI ((20 * y) + k)) (ab_add _ _) ?_
          refine ab_iald (v := h2_ 35 ((20 * y) + k)) rfl (ab_in (by omega) (by decide)) (ab_hv (ab_tn (n := ((20 * y) + k)) (by omega))) de_M_part2_174 ?_
          refine ab_top (v' := nI (gV Z y k)) ((G2_.2 y hy).2.2.2 k hk) ?_
          refine ab_cV (as := [.int (nI c), .int (nI (gV Z y k))]) (st := []) (ct_M_steps l _ nr h2_ g rr T2_ hO hc sm_ si_ (x := (gV Z y k)) sx_ sd_ f3_ f4_) mo_M_steps mi_M_steps ml_M_249 rfl (by decide) rfl rfl rfl (Nat.le_of_ble_eq_true rfl) de_M_part2_175 (fun v_ M_ hK_ hl_ hv_ => ?_)
          obtain ⟨rfl, h3_, rfl, s1_, s2_, s3_⟩ := hK_
          change ab_G _ _ _ _ _ _ _ [(0, .ref 30), (1, .int (nI c)), (2, .int (nI e)), (3, .int (nI y)), (4, .int (nI k)), (7, .int w)] [] (ab_S nr h3_ g rr) _
          refine ab_iinc (v := nI (k + 1)) (L' := [(4, .int (nI (k + 1))), (0, .ref 30), (1, .int (nI c)), (2, .int (nI e)), (3, .int (nI y)), (7, .int w)]) de_M_part2_178 4 rfl (by rw [show Int32.ofInt 1 = nI 1 from rfl, ab_add]) (by decide) rfl ?_
          refine ab_goto (tgt := 40) de_M_part2_181 rfl ?_
          refine ab_sub (L' := [(0, .ref 30), (1, .int (nI c)), (2, .int (nI e)), (3, .int (nI y)), (4, .int (nI (k + 1)))]) [1, 2, 3, 4, 0] rfl ?_
          exact ih (k + 1) h3_ (by omega) (by omega) (md_sc_tr t2_ s1_) (s2_) (s3_) (fun j hj => by
            by_cases e_ : j = k
            · rw [e_, md_pk hO]
              cases q_ : decide ((sp_ml T (sp_lv T c (sp_sg T c Z y k).1 (sp_sg T c Z y k).2) (sp_sg T c Z y k).1 (sp_sg T c Z y k).2) = (sp_ml T (sp_lv T e (sp_sg T c Z y k).1 (sp_sg T c Z y k).2) (sp_sg T c Z y k).1 (sp_sg T c Z y k).2)) with
              | true => rfl
              | false => exfalso; rw [q_] at hw; exact c_150_3 (by rw [hw]; rfl)
            · exact hf3 j (by omega))
        · refine ab_bipush (v := 100) de_M_part2_153 rfl ?_
          refine ab_iload_n de_M_part2_155 3 rfl ?_
          refine ab_imul de_M_part2_156 ?_
          refine ab_top (v' := nI (100 * y)) (ab_mul _ _) ?_
          refine ab_iload de_M_part2_157 4 rfl ?_
          refine ab_iadd de_M_part2_159 ?_
          refine ab_top (v' := nI ((100 * y) + k)) (ab_add _ _) ?_
          exact ab_ret (v := some (.int (nI ((100 * y) + k)))) de_M_part2_160 ⟨_, rfl⟩ (by
    have p1_ : sp_pk T c e Z y k = true := by
      rw [md_pk hO]
      cases q_ : decide ((sp_ml T (sp_lv T c (sp_sg T c Z y k).1 (sp_sg T c Z y k).2) (sp_sg T c Z y k).1 (sp_sg T c Z y k).2) = (sp_ml T (sp_lv T e (sp_sg T c Z y k).1 (sp_sg T c Z y k).2) (sp_sg T c Z y k).1 (sp_sg T c Z y k).2)) with
      | false => rfl
      | true => exfalso; rw [q_] at hw; rw [hw] at c_150_3; exact absurd c_150_3 (by decide)
    have p2_ : (fun g => sp_any (sp_pk T c e Z g) (gL Z g)) y = true := (sp_any_iff _ _).mpr ⟨k, hk, p1_⟩
    have p3_ := sp_ft_at (f := (fun g => sp_any (sp_pk T c e Z g) (gL Z g))) (k := y) p2_ hpv (gN Z) hy
    have p4_ := sp_ft_at (f := (sp_pk T c e Z y)) (k := k) p1_ hf3 (gL Z y) hk
    exact ⟨congrArg (fun z => some (Value.int z)) (by unfold sp_pa; rw [p3_, if_pos hy, p4_]), h2_, rfl, t2_⟩)
      · refine ab_iconst (v := 1) de_M_part2_92 rfl ?_
        refine ab_goto (tgt := 97) de_M_part2_93 rfl ?_
        refine ab_istore (L' := [(7, .int (1 : Int32)), (6, .int (nI (sp_ml T (sp_lv T e (sp_sg T c Z y k).1 (sp_sg T c Z y k).2) (sp_sg T c Z y k).1 (sp_sg T c Z y k).2).length)), (5, .int (nI (sp_ml T (sp_lv T c (sp_sg T c Z y k).1 (sp_sg T c Z y k).2) (sp_sg T c Z y k).1 (sp_sg T c Z y k).2).length)), (0, .ref 30), (1, .int (nI c)), (2, .int (nI e)), (3, .int (nI y)), (4, .int (nI k))]) de_M_part2_97 (by decide) rfl ?_
        refine ab_iconst (v := 0) de_M_part2_99 rfl ?_
        refine ab_istore (L' := [(8, .int (0 : Int32)), (7, .int (1 : Int32)), (6, .int (nI (sp_ml T (sp_lv T e (sp_sg T c Z y k).1 (sp_sg T c Z y k).2) (sp_sg T c Z y k).1 (sp_sg T c Z y k).2).length)), (5, .int (nI (sp_ml T (sp_lv T c (sp_sg T c Z y k).1 (sp_sg T c Z y k).2) (sp_sg T c Z y k).1 (sp_sg T c Z y k).2).length)), (0, .ref 30), (1, .int (nI c)), (2, .int (nI e)), (3, .int (nI y)), (4, .int (nI k))]) de_M_part2_100 (by decide) rfl ?_
        refine ab_sub (L' := [(0, .ref 30), (1, .int (nI c)), (2, .int (nI e)), (3, .int (nI y)), (4, .int (nI k)), (5, .int (nI (sp_ml T (sp_lv T c (sp_sg T c Z y k).1 (sp_sg T c Z y k).2) (sp_sg T c Z y k).1 (sp_sg T c Z y k).2).length)), (6, .int (nI (sp_ml T (sp_lv T e (sp_sg T c Z y k).1 (sp_sg T c Z y k).2) (sp_sg T c Z y k).1 (sp_sg T c Z y k).2).length)), (7, .int (1 : Int32)), (8, .int (nI 0))]) [4, 5, 6, 7, 8, 3, 2, 1, 0] rfl ?_
        have e0_ : ab_bz (md_eqk (sp_ml T (sp_lv T c (sp_sg T c Z y k).1 (sp_sg T c Z y k).2) (sp_sg T c Z y k).1 (sp_sg T c Z y k).2) (sp_ml T (sp_lv T e (sp_sg T c Z y k).1 (sp_sg T c Z y k).2) (sp_sg T c Z y k).1 (sp_sg T c Z y k).2) 0) = 1 := by
          rw [md_eqk_0, decide_eq_true ((ab_inj (by omega) (by omega)).mp c_89_2)]
          rfl
        refine ab_eq (L' := [(0, .ref 30), (1, .int (nI c)), (2, .int (nI e)), (3, .int (nI y)), (4, .int (nI k)), (5, .int (nI (sp_ml T (sp_lv T c (sp_sg T c Z y k).1 (sp_sg T c Z y k).2) (sp_sg T c Z y k).1 (sp_sg T c Z y k).2).length)), (6, .int (nI (sp_ml T (sp_lv T e (sp_sg T c Z y k).1 (sp_sg T c Z y k).2) (sp_sg T c Z y k).1 (sp_sg T c Z y k).2).length)), (7, .int (ab_bz (md_eqk (sp_ml T (sp_lv T c (sp_sg T c Z y k).1 (sp_sg T c Z y k).2) (sp_sg T c Z y k).1 (sp_sg T c Z y k).2) (sp_ml T (sp_lv T e (sp_sg T c Z y k).1 (sp_sg T c Z y k).2) (sp_sg T c Z y k).1 (sp_sg T c Z y k).2) 0))), (8, .int (nI 0))]) rfl (by rw [e0_]) rfl rfl ?_
        refine lp_M_part_j l d nr h2_ g rr at1_ s4_ n1_ n2_ (fun a ha => sp_ml_lt ha) (fun a ha => sp_ml_lt ha) (fun w hw => ?_) ((sp_ml T (sp_lv T c (sp_sg T c Z y k).1 (sp_sg T c Z y k).2) (sp_sg T c Z y k).1 (sp_sg T c Z y k).2).length + 1) 0 (by omega) (by omega)
        refine ab_iload de_M_part2_148 5 rfl ?_
        refine ab_if_ne (tgt := 161) de_M_part2_150 rfl (fun c_150_4 => ?_) (fun c_150_4 => ?_)
        · refine ab_aload_n de_M_part2_161 0 rfl ?_
          refine ab_iload_n de_M_part2_162 1 rfl ?_
          refine ab_aload_n de_M_part2_163 0 rfl ?_
          refine ab_get (v := .ref 35) fl_M_26 rfl rfl de_M_part2_164 ?_
          refine ab_bipush (v := 20) de_M_part2_167 rfl ?_
          refine ab_iload_n de_M_part2_169 3 rfl ?_
          refine ab_imul de_M_part2_170 ?_
          refine ab_top (v' := nI (20 * y)) (ab_mul _ _) ?_
          refine ab_iload de_M_part2_171 4 rfl ?_
          refine ab_iadd de_M_part2_173 ?_
          refine ab_top (v' := nI ((20 * y) + k)) (ab_add _ _) ?_
          refine ab_iald (v := h2_ 35 ((20 * y) + k)) rfl (ab_in (by omega) (by decide)) (ab_hv (ab_tn (n := ((20 * y) + k)) (by omega))) de_M_part2_174 ?_
          refine ab_top (v' := nI (gV Z y k)) ((G2_.2 y hy).2.2.2 k hk) ?_
          refine ab_cV (as := [.int (nI c), .int (nI (gV Z y k))]) (st := []) (ct_M_steps l _ nr h2_ g rr T2_ hO hc sm_ si_ (x := (gV Z y k)) sx_ sd_ f3_ f4_) mo_M_steps mi_M_steps ml_M_249 rfl (by decide) rfl rfl rfl (Nat.le_of_ble_eq_true rfl) de_M_part2_175 (fun v_ M_ hK_ hl_ hv_ => ?_)
          obtain ⟨rfl, h3_, rfl, s1_, s2_, s3_⟩ := hK_
          change ab_G _ _ _ _ _ _ _ [(0, .ref 30), (1, .int (nI c)), (2, .int (nI e)), (3, .int (nI y)), (4, .int (nI k)), (7, .int w)] [] (ab_S nr h3_ g rr) _
          refine ab_iinc (v := nI (k + 1)) (L' := [(4, .int (nI (k + 1))), (0, .ref 30), (1, .int (nI c)), (2, .int (nI e)), (3, .int (nI y)), (7, .int w)]) de_M_part2_178 4 rfl (by rw [show Int32.ofInt 1 = nI 1 from rfl, ab_add]) (by decide) rfl ?_
          refine ab_goto (tgt := 40) de_M_part2_181 rfl ?_
          refine ab_sub (L' := [(0, .ref 30), (1, .int (nI c)), (2, .int (nI e)), (3, .int (nI y)), (4, .int (nI (k + 1)))]) [1, 2, 3, 4, 0] rfl ?_
          exact ih (k + 1) h3_ (by omega) (by omega) (md_sc_tr t2_ s1_) (s2_) (s3_) (fun j hj => by
            by_cases e_ : j = k
            · rw [e_, md_pk hO]
              cases q_ : decide ((sp_ml T (sp_lv T c (sp_sg T c Z y k).1 (sp_sg T c Z y k).2) (sp_sg T c Z y k).1 (sp_sg T c Z y k).2) = (sp_ml T (sp_lv T e (sp_sg T c Z y k).1 (sp_sg T c Z y k).2) (sp_sg T c Z y k).1 (sp_sg T c Z y k).2)) with
              | true => rfl
              | false => exfalso; rw [q_] at hw; exact c_150_4 (by rw [hw]; rfl)
            · exact hf3 j (by omega))
        · refine ab_bipush (v := 100) de_M_part2_153 rfl ?_
          refine ab_iload_n de_M_part2_155 3 rfl ?_
          refine ab_imul de_M_part2_156 ?_
          refine ab_top (v' := nI (100 * y)) (ab_mul _ _) ?_
          refine ab_iload de_M_part2_157 4 rfl ?_
          refine ab_iadd de_M_part2_159 ?_
          refine ab_top (v' := nI ((100 * y) + k)) (ab_add _ _) ?_
          exact ab_ret (v := some (.int (nI ((100 * y) + k)))) de_M_part2_160 ⟨_, rfl⟩ (by
    have p1_ : sp_pk T c e Z y k = true := by
      rw [md_pk hO]
      cases q_ : decide ((sp_ml T (sp_lv T c (sp_sg T c Z y k).1 (sp_sg T c Z y k).2) (sp_sg T c Z y k).1 (sp_sg T c Z y k).2) = (sp_ml T (sp_lv T e (sp_sg T c Z y k).1 (sp_sg T c Z y k).2) (sp_sg T c Z y k).1 (sp_sg T c Z y k).2)) with
      | false => rfl
      | true => exfalso; rw [q_] at hw; rw [hw] at c_150_4; exact absurd c_150_4 (by decide)
    have p2_ : (fun g => sp_any (sp_pk T c e Z g) (gL Z g)) y = true := (sp_any_iff _ _).mpr ⟨k, hk, p1_⟩
    have p3_ := sp_ft_at (f := (fun g => sp_any (sp_pk T c e Z g) (gL Z g))) (k := y) p2_ hpv (gN Z) hy
    have p4_ := sp_ft_at (f := (sp_pk T c e Z y)) (k := k) p1_ hf3 (gL Z y) hk
    exact ⟨congrArg (fun z => some (Value.int z)) (by unfold sp_pa; rw [p3_, if_pos hy, p4_]), h2_, rfl, t2_⟩)
set_option maxHeartbeats 1000000 in
set_option maxRecDepth 10000 in
theorem lp_M_part (l : Launch) (d : Nat) (nr : Nat) (h : Nat → Nat → Int32) (g : Nat → Nat → Int64) (rr : Nat → Option Nat) {T : Nat → Nat → Nat} (hTM : bo_T T h 32) (hO : sp_ok T) {c e : Nat} (hc : c < 4096) (he : e < 4096) {Z : sp_G} (hZ : gm_ok Z) (hG : md_G Z h) : ∀ (fu_ y : Nat) (hh : Nat → Nat → Int32), y ≤ (gN Z) → (gN Z) < y + fu_ → md_sc h hh → (∀ g, g < y → (fun g => sp_any (sp_pk T c e Z g) (gL Z g)) g = false) → ab_G l none am_M_part2 (d + 6) 0 0 24 [(0, .ref 30), (1, .int (nI c)), (2, .int (nI e)), (3, .int (nI y))] [] (ab_S nr hh g rr) (fun (r_ : Option Value) (M' : ab_Me) => r_ = some (.int (sp_pa T c e Z)) ∧ ∃ h', M' = ab_S nr h' g rr ∧ md_sc h h') := by
  intro fu_
  induction fu_ with
  | zero => intro y hh h1 h2; omega
  | succ fu_ ih =>
    intro y hh hN_ hn_ hf0 hf1
    have y6_ := hZ.1
    have hGh := md_G_sc hf0 hG
    refine ab_iload_n de_M_part2_24 3 rfl ?_
    refine ab_aload_n de_M_part2_25 0 rfl ?_
    refine ab_get (v := .int (hh 30 1)) fl_M_84 rfl rfl de_M_part2_26 ?_
    refine ab_top (v' := nI (gN Z)) (hGh.1) ?_
    refine ab_icmp_ge (tgt := 190) de_M_part2_29 rfl (fun c_29_1 => ?_) (fun c_29_1 => ?_)
    · have hy := (ab_le (by omega) (by omega)).mp c_29_1
      refine ab_iconst (v := -1) de_M_part2_190 rfl ?_
      exact ab_ret (v := some (.int (-1 : Int32))) de_M_part2_191 ⟨_, rfl⟩ (by
    have p1_ := sp_ft_no (f := (fun g => sp_any (sp_pk T c e Z g) (gL Z g))) (gN Z) (fun j hj => hf1 j (by omega))
    exact ⟨congrArg (fun z => some (Value.int z)) (by unfold sp_pa; rw [p1_, if_neg (Nat.lt_irrefl _)]), hh, rfl, hf0⟩)
    · have hy := Nat.lt_of_not_le (fun z_ => c_29_1 ((ab_le (by omega) (by omega)).mpr z_))
      have l20_ := (hZ.2 y hy).2.2.2.1
      refine ab_aload_n de_M_part2_32 0 rfl ?_
      refine ab_iload_n de_M_part2_33 3 rfl ?_
      refine ab_cV (as := [.int (nI y)]) (st := []) (ct_M_begins l _ nr hh g rr hZ hGh (y := y) hy) mo_M_begins mi_M_begins ml_M_245 rfl (by decide) rfl rfl rfl (Nat.le_of_ble_eq_true rfl) de_M_part2_34 (fun v_ M_ hK_ hl_ hv_ => ?_)
      obtain ⟨rfl, hm_⟩ := hK_
      have hm_ := hm_.symm
      subst hm_
      change ab_G _ _ _ _ _ _ _ [(0, .ref 30), (1, .int (nI c)), (2, .int (nI e)), (3, .int (nI y))] [] (ab_S nr (md_gp hh (gA Z y) (gB Z y)) g rr) _
      refine ab_iconst (v := 0) de_M_part2_37 rfl ?_
      refine ab_istore (L' := [(4, .int (0 : Int32)), (0, .ref 30), (1, .int (nI c)), (2, .int (nI e)), (3, .int (nI y))]) de_M_part2_38 (by decide) rfl ?_
      refine ab_sub (L' := [(0, .ref 30), (1, .int (nI c)), (2, .int (nI e)), (3, .int (nI y)), (4, .int (nI 0))]) [1, 2, 3, 4, 0] rfl ?_
      refine lp_M_part_k l d nr h g rr hTM hO hc hZ hG hy he hf1 (fun hh h0_ h1_ => ?_) (gL Z y + 1) 0 (md_gp hh (gA Z y) (gB Z y)) (by omega) (by omega) (md_sc_tr hf0 (md_gp_sc hh _ _)) rfl rfl (fun j hj => absurd hj (Nat.not_lt_zero j))
      refine ab_iinc (v := nI (y + 1)) (L' := [(3, .int (nI (y + 1))), (0, .ref 30), (1, .int (nI c)), (2, .int (nI e))]) de_M_part2_184 3 rfl (by rw [show Int32.ofInt 1 = nI 1 from rfl, ab_add]) (by decide) rfl ?_
      refine ab_goto (tgt := 24) de_M_part2_187 rfl ?_
      refine ab_sub (L' := [(0, .ref 30), (1, .int (nI c)), (2, .int (nI e)), (3, .int (nI (y + 1)))]) [1, 2, 3, 0] rfl ?_
      exact ih (y + 1) hh (by omega) (by omega) h0_ (fun g hg => by
        by_cases e_ : g = y
        · rw [e_]; exact h1_
        · exact hf1 g (by omega))
def fx_M_part2 (h : Nat → Nat → Int32) (T : Nat → Nat → Nat) (Z : sp_G) (x y : Int32) : Option Value × (Nat → Nat → Int32) :=
  if ab_bz (sp_cd x) = 0 then (some (.int (-11 : Int32)), ab_u2 h 31 1 (h 31 1 + 1))
  else if ab_bz (sp_cd y) = 0 then (some (.int (-11 : Int32)), ab_u2 h 31 1 (h 31 1 + 1))
  else (some (.int (sp_pa T x.toNatClampNeg y.toNatClampNeg Z)), h)
set_option maxHeartbeats 1000000 in
set_option maxRecDepth 10000 in
theorem ct_M_part2 (l : Launch) (d : Nat) (nr : Nat) (h : Nat → Nat → Int32) (g : Nat → Nat → Int64) (rr : Nat → Option Nat) {T : Nat → Nat → Nat} (hTM : bo_T T h 32) (hO : sp_ok T) {Z : sp_G} (hZ : gm_ok Z) (hG : md_G Z h) (hK : md_K T Z h) (x y : Int32) : ab_C l am_M_part2 (d + 6) 0 0 [.ref 30, .int x, .int y] (ab_S nr h g rr) (fun r_ M' => ∃ X h', (r_, X) = fx_M_part2 h T Z x y ∧ M' = ab_S nr h' g rr ∧ md_K T Z h' ∧ md_kr X h') := by
  refine ab_C_of (by decide +kernel) rfl (Nat.le_of_ble_eq_true rfl) ?_
  refine ab_aload_n de_M_part2_0 0 rfl ?_
  refine ab_iload_n de_M_part2_1 1 rfl ?_
  refine ab_cV (as := [.int x]) (st := []) (ct_M_isCode l _ (ab_S nr h g rr) (x)) mo_M_isCode mi_M_isCode ml_M_168 rfl (by decide) rfl rfl rfl (Nat.le_of_ble_eq_true rfl) de_M_part2_2 (fun v_ M_ hK_ hl_ hv_ => ?_)
  obtain ⟨rfl, hm_⟩ := hK_
  have hm_ := hm_.symm
  subst hm_
  change ab_G _ _ _ _ _ _ _ [(0, .ref 30), (1, .int x), (2, .int y)] [.int (ab_bz (sp_cd x))] (ab_S nr h g rr) _
  refine ab_if_eq (tgt := 16) de_M_part2_5 rfl (fun c_5_1 => ?_) (fun c_5_1 => ?_)
  · refine ab_aload_n de_M_part2_16 0 rfl ?_
    refine ab_iconst (v := -1) de_M_part2_17 rfl ?_
    refine ab_cV (as := [.int (-1 : Int32)]) (st := []) (ct_M_noTen l _ nr h g rr (r := (-1 : Int32)) (k := 1) (by decide) (by decide)) mo_M_noTen mi_M_noTen ml_M_222 rfl (by decide) rfl rfl rfl (Nat.le_of_ble_eq_true rfl) de_M_part2_18 (fun v_ M_ hK_ hl_ hv_ => ?_)
    obtain ⟨rfl, hm_⟩ := hK_
    have hm_ := hm_.symm
    subst hm_
    change ab_G _ _ _ _ _ _ _ [(0, .ref 30), (1, .int x), (2, .int y)] [.int (-11 : Int32)] (ab_S nr (ab_u2 h 31 1 (h 31 1 + 1)) g rr) _
    exact ab_ret (v := some (.int (-11 : Int32))) de_M_part2_21 ⟨_, rfl⟩ ⟨_, _, (by unfold fx_M_part2; rw [if_pos c_5_1]), rfl, md_K_31 hK _ _, md_kr_31 (md_kr_rf h) _⟩
  · obtain ⟨xn, hxn, rfl⟩ := sp_cd_n c_5_1
    refine ab_aload_n de_M_part2_8 0 rfl ?_
    refine ab_iload_n de_M_part2_9 2 rfl ?_
    refine ab_cV (as := [.int y]) (st := []) (ct_M_isCode l _ (ab_S nr h g rr) (y)) mo_M_isCode mi_M_isCode ml_M_168 rfl (by decide) rfl rfl rfl (Nat.le_of_ble_eq_true rfl) de_M_part2_10 (fun v_ M_ hK_ hl_ hv_ => ?_)
    obtain ⟨rfl, hm_⟩ := hK_
    have hm_ := hm_.symm
    subst hm_
    change ab_G _ _ _ _ _ _ _ [(0, .ref 30), (1, .int (nI xn)), (2, .int y)] [.int (ab_bz (sp_cd y))] (ab_S nr h g rr) _
    refine ab_if_ne (tgt := 22) de_M_part2_13 rfl (fun c_13_2 => ?_) (fun c_13_2 => ?_)
    · obtain ⟨yn, hyn, rfl⟩ := sp_cd_n c_13_2
      refine ab_iconst (v := 0) de_M_part2_22 rfl ?_
      refine ab_istore_n (L' := [(3, .int (0 : Int32)), (0, .ref 30), (1, .int (nI xn)), (2, .int (nI yn))]) de_M_part2_23 (by decide) rfl ?_
      refine ab_sub (L' := [(0, .ref 30), (1, .int (nI xn)), (2, .int (nI yn)), (3, .int (nI 0))]) [1, 2, 3, 0] rfl ?_
      refine ab_wk (fun r_ M_ q => ?_) (lp_M_part l d nr h g rr hTM hO (c := xn) (e := yn) (by omega) (by omega) hZ hG (gN Z + 1) 0 h (by omega) (by omega) (md_sc_rf h) (fun g hg => absurd hg (Nat.not_lt_zero g)))
      obtain ⟨q1, h1_, q2, q3⟩ := q
      refine ⟨_, h1_, ?_, q2, md_K_sc q3 hK, md_kr_sc q3⟩
      unfold fx_M_part2
      rw [if_neg c_5_1, if_neg c_13_2, ab_tn (show xn < 2 ^ 31 by omega), ab_tn (show yn < 2 ^ 31 by omega), q1]
    · refine ab_aload_n de_M_part2_16 0 rfl ?_
      refine ab_iconst (v := -1) de_M_part2_17 rfl ?_
      refine ab_cV (as := [.int (-1 : Int32)]) (st := []) (ct_M_noTen l _ nr h g rr (r := (-1 : Int32)) (k := 1) (by decide) (by decide)) mo_M_noTen mi_M_noTen ml_M_222 rfl (by decide) rfl rfl rfl (Nat.le_of_ble_eq_true rfl) de_M_part2_18 (fun v_ M_ hK_ hl_ hv_ => ?_)
      obtain ⟨rfl, hm_⟩ := hK_
      have hm_ := hm_.symm
      subst hm_
      change ab_G _ _ _ _ _ _ _ [(0, .ref 30), (1, .int (nI xn)), (2, .int y)] [.int (-11 : Int32)] (ab_S nr (ab_u2 h 31 1 (h 31 1 + 1)) g rr) _
      exact ab_ret (v := some (.int (-11 : Int32))) de_M_part2_21 ⟨_, rfl⟩ ⟨_, _, (by unfold fx_M_part2; rw [if_neg c_5_1, if_pos c_13_2]), rfl, md_K_31 hK _ _, md_kr_31 (md_kr_rf h) _⟩
