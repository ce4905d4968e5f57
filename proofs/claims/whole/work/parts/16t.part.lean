/-! the reference: where two CODES part -/
theorem md_r16_cong {F G : Nat → List Nat} : ∀ n p, (∀ j, p ≤ j → j < p + n → F j = G j) → sp_r16 F n p = sp_r16 G n p
  | 0, p, _ => rfl
  | n + 1, p, h => by rw [sp_r16, sp_r16, h p (Nat.le_refl p) (by omega), md_r16_cong n (p + 1) (fun j h1 h2 => h j (by omega) (by omega))]
theorem md_ml_eq {T : Nat → Nat → Nat} (hO : sp_ok T) {v w m i : Nat} : sp_ml T v m i = sp_ml T w m i ↔ ∀ p, p < 16 → sp_tg T v m i p = sp_tg T w m i p := by
  constructor
  · intro h p hp
    refine sp_ext (sp_tg_lt hO v m i p) (sp_tg_lt hO w m i p) (fun q hq => ?_)
    have h1 := md_ml_ct hO (v := v) (m := m) (i := i) (x := 16 * p + q) (by omega)
    have h2 := md_ml_ct hO (v := w) (m := m) (i := i) (x := 16 * p + q) (by omega)
    rw [h, h2] at h1
    unfold sp_iv at h1
    rw [show (16 * p + q) / 16 = p by omega, show (16 * p + q) % 16 = q by omega] at h1
    revert h1
    cases (sp_tg T v m i p).testBit q <;> cases (sp_tg T w m i p).testBit q <;> decide
  · intro h
    refine md_r16_cong 16 0 (fun j _ hj => ?_)
    unfold sp_mp
    rw [h j (by omega)]
theorem md_pk {T : Nat → Nat → Nat} (hO : sp_ok T) {c e : Nat} {Z : sp_G} {y k : Nat} : sp_pk T c e Z y k = !decide (sp_ml T (sp_lv T c (sp_sg T c Z y k).1 (sp_sg T c Z y k).2) (sp_sg T c Z y k).1 (sp_sg T c Z y k).2 = sp_ml T (sp_lv T e (sp_sg T c Z y k).1 (sp_sg T c Z y k).2) (sp_sg T c Z y k).1 (sp_sg T c Z y k).2) := by
  unfold sp_pk
  by_cases h : sp_ml T (sp_lv T c (sp_sg T c Z y k).1 (sp_sg T c Z y k).2) (sp_sg T c Z y k).1 (sp_sg T c Z y k).2 = sp_ml T (sp_lv T e (sp_sg T c Z y k).1 (sp_sg T c Z y k).2) (sp_sg T c Z y k).1 (sp_sg T c Z y k).2
  · rw [decide_eq_true h]
    refine (sp_any_no _ _).mpr (fun p hp => ?_)
    rw [decide_eq_true ((md_ml_eq hO).mp h p hp)]
    rfl
  · rw [decide_eq_false h]
    refine (sp_any_iff _ _).mpr ?_
    apply Decidable.byContradiction
    intro n
    apply h
    refine (md_ml_eq hO).mpr (fun p hp => ?_)
    apply Decidable.byContradiction
    intro n2
    exact n ⟨p, hp, by rw [decide_eq_false n2]; rfl⟩
def md_eqk (l1 l2 : List Nat) (k : Nat) : Bool := decide (l1.length = l2.length ∧ l1.take k = l2.take k)
theorem md_eqk_0 (l1 l2 : List Nat) : md_eqk l1 l2 0 = decide (l1.length = l2.length) := by
  unfold md_eqk
  exact decide_eq_decide.mpr ⟨fun z => z.1, fun z => ⟨z, rfl⟩⟩
theorem md_eqk_s {l1 l2 : List Nat} {k : Nat} (h1 : k < l1.length) (h2 : k < l2.length) (h : md_eqk l1 l2 k = true) : md_eqk l1 l2 (k + 1) = decide (l1[k] = l2[k]) := by
  obtain ⟨a, b⟩ := of_decide_eq_true h
  unfold md_eqk
  rw [md_take h1, md_take h2, b]
  refine decide_eq_decide.mpr ⟨fun z => ?_, fun z => ⟨a, by rw [z]⟩⟩
  have := List.append_cancel_left z.2
  exact List.head_eq_of_cons_eq this
theorem md_eqk_e {l1 l2 : List Nat} {k : Nat} (h : md_eqk l1 l2 k = true) (hk : l1.length ≤ k) : l1 = l2 := by
  obtain ⟨a, b⟩ := of_decide_eq_true h
  rwa [List.take_of_length_le hk, List.take_of_length_le (by omega)] at b
theorem md_eqk_n {l1 l2 : List Nat} {k : Nat} (h : md_eqk l1 l2 k = false) : ¬ l1 = l2 := by
  rintro rfl
  exact of_decide_eq_false h ⟨rfl, rfl⟩
set_option maxHeartbeats 1000000 in
set_option maxRecDepth 10000 in
theorem lp_M_part_j (l : Launch) (d : Nat) (nr : Nat) (h : Nat → Nat → Int32) (g : Nat → Nat → Int64) (rr : Nat → Option Nat) {c e y k : Nat} {l1 l2 : List Nat} (hl1 : md_at h 0 l1) (hl2 : md_at h 200 l2) (h1 : l1.length ≤ 144) (h2 : l2.length ≤ 144) (h3 : ∀ a, a ∈ l1 → a < 2 ^ 31) (h4 : ∀ a, a ∈ l2 → a < 2 ^ 31) {K : Option Value → ab_Me → Prop} (kx : ∀ w, w = ab_bz (decide (l1 = l2)) → ab_G l none am_M_part2 (d + 6) 0 0 148 [(0, .ref 30), (1, .int (nI c)), (2, .int (nI e)), (3, .int (nI y)), (4, .int (nI k)), (7, .int w)] [] (ab_S nr h g rr) (K)) : ∀ (fu_ j : Nat), j ≤ l1.length → l1.length < j + fu_ → ab_G l none am_M_part2 (d + 6) 0 0 102 [(0, .ref 30), (1, .int (nI c)), (2, .int (nI e)), (3, .int (nI y)), (4, .int (nI k)), (5, .int (nI l1.length)), (6, .int (nI l2.length)), (7, .int (ab_bz (md_eqk l1 l2 j))), (8, .int (nI j))] [] (ab_S nr h g rr) (K) := by
  intro fu_
  induction fu_ with
  | zero => intro j  h1 h2; omega
  | succ fu_ ih =>
    intro j  hN_ hn_ 
    refine ab_iload de_M_part2_102 8 rfl ?_
    refine ab_iload de_M_part2_104 5 rfl ?_
    refine ab_icmp_ge (tgt := 148) de_M_part2_106 rfl (fun c_106_1 => ?_) (fun c_106_1 => ?_)
    · have hj := c_106_1
      refine ab_sub (L' := [(0, .ref 30), (1, .int (nI c)), (2, .int (nI e)), (3, .int (nI y)), (4, .int (nI k)), (7, .int (ab_bz (md_eqk l1 l2 j)))]) [0, 1, 2, 3, 4, 7] rfl ?_
      refine kx _ ?_
      rw [show decide (l1 = l2) = md_eqk l1 l2 j from ?_]
      have q_ := (ab_le (by omega) (by omega)).mp c_106_1
      cases w_ : md_eqk l1 l2 j with
      | true => exact decide_eq_true (md_eqk_e w_ q_)
      | false => exact decide_eq_false (md_eqk_n w_)
    · have hj := Nat.lt_of_not_le (fun z_ => c_106_1 ((ab_le (by omega) (by omega)).mpr z_))
      refine ab_iload de_M_part2_109 7 rfl ?_
      refine ab_if_eq (tgt := 148) de_M_part2_111 rfl (fun c_111_2 => ?_) (fun c_111_2 => ?_)
      · refine ab_sub (L' := [(0, .ref 30), (1, .int (nI c)), (2, .int (nI e)), (3, .int (nI y)), (4, .int (nI k)), (7, .int (ab_bz (md_eqk l1 l2 j)))]) [0, 1, 2, 3, 4, 7] rfl ?_
        refine kx _ ?_
        rw [(ab_bz0 _).mp c_111_2, decide_eq_false (md_eqk_n ((ab_bz0 _).mp c_111_2))]
      · have j2_ : j < l2.length := by
          have := (of_decide_eq_true ((ab_bz1 _).mp c_111_2)).1
          omega
        have a1_ := h3 _ (List.getElem_mem hj)
        have a2_ := h4 _ (List.getElem_mem j2_)
        refine ab_aload_n de_M_part2_114 0 rfl ?_
        refine ab_get (v := .ref 44) fl_M_54 rfl rfl de_M_part2_115 ?_
        refine ab_iload de_M_part2_118 8 rfl ?_
        refine ab_iald (v := h 44 j) rfl (ab_in (by omega) (by decide)) (ab_hv (ab_tn (n := j) (by omega))) de_M_part2_120 ?_
        refine ab_top (v' := nI (l1[j])) (by have z := hl1 j hj; rwa [Nat.zero_add] at z) ?_
        refine ab_aload_n de_M_part2_121 0 rfl ?_
        refine ab_get (v := .ref 44) fl_M_54 rfl rfl de_M_part2_122 ?_
        refine ab_sipush (v := 200) de_M_part2_125 rfl ?_
        refine ab_iload de_M_part2_128 8 rfl ?_
        refine ab_iadd de_M_part2_130 ?_
        refine ab_top (v' := nI (200 + j)) (ab_add _ _) ?_
        refine ab_iald (v := h 44 (200 + j)) rfl (ab_in (by omega) (by decide)) (ab_hv (ab_tn (n := (200 + j)) (by omega))) de_M_part2_131 ?_
        refine ab_top (v' := nI (l2[j])) (hl2 j j2_) ?_
        refine ab_icmp_ne (tgt := 139) de_M_part2_132 rfl (fun c_132_3 => ?_) (fun c_132_3 => ?_)
        · refine ab_iconst (v := 0) de_M_part2_139 rfl ?_
          refine ab_istore (L' := [(7, .int (0 : Int32)), (0, .ref 30), (1, .int (nI c)), (2, .int (nI e)), (3, .int (nI y)), (4, .int (nI k)), (5, .int (nI l1.length)), (6, .int (nI l2.length)), (8, .int (nI j))]) de_M_part2_140 (by decide) rfl ?_
          refine ab_iinc (v := nI (j + 1)) (L' := [(8, .int (nI (j + 1))), (7, .int (0 : Int32)), (0, .ref 30), (1, .int (nI c)), (2, .int (nI e)), (3, .int (nI y)), (4, .int (nI k)), (5, .int (nI l1.length)), (6, .int (nI l2.length))]) de_M_part2_142 8 rfl (by rw [show Int32.ofInt 1 = nI 1 from rfl, ab_add]) (by decide) rfl ?_
          refine ab_goto (tgt := 102) de_M_part2_145 rfl ?_
          refine ab_sub (L' := [(0, .ref 30), (1, .int (nI c)), (2, .int (nI e)), (3, .int (nI y)), (4, .int (nI k)), (5, .int (nI l1.length)), (6, .int (nI l2.length)), (7, .int (0 : Int32)), (8, .int (nI (j + 1)))]) [2, 3, 4, 5, 6, 7, 8, 1, 0] rfl ?_
          have e_ : ab_bz (md_eqk l1 l2 (j + 1)) = 0 := by
            rw [md_eqk_s hj j2_ ((ab_bz1 _).mp c_111_2), decide_eq_false (fun z => c_132_3 (by rw [z]))]
            rfl
          have z_ := ih (j + 1) (by omega) (by omega)
          rw [e_] at z_
          exact z_
        · refine ab_iconst (v := 1) de_M_part2_135 rfl ?_
          refine ab_goto (tgt := 140) de_M_part2_136 rfl ?_
          refine ab_istore (L' := [(7, .int (1 : Int32)), (0, .ref 30), (1, .int (nI c)), (2, .int (nI e)), (3, .int (nI y)), (4, .int (nI k)), (5, .int (nI l1.length)), (6, .int (nI l2.length)), (8, .int (nI j))]) de_M_part2_140 (by decide) rfl ?_
          refine ab_iinc (v := nI (j + 1)) (L' := [(8, .int (nI (j + 1))), (7, .int (1 : Int32)), (0, .ref 30), (1, .int (nI c)), (2, .int (nI e)), (3, .int (nI y)), (4, .int (nI k)), (5, .int (nI l1.length)), (6, .int (nI l2.length))]) de_M_part2_142 8 rfl (by rw [show Int32.ofInt 1 = nI 1 from rfl, ab_add]) (by decide) rfl ?_
          refine ab_goto (tgt := 102) de_M_part2_145 rfl ?_
          refine ab_sub (L' := [(0, .ref 30), (1, .int (nI c)), (2, .int (nI e)), (3, .int (nI y)), (4, .int (nI k)), (5, .int (nI l1.length)), (6, .int (nI l2.length)), (7, .int (1 : Int32)), (8, .int (nI (j + 1)))]) [2, 3, 4, 5, 6, 7, 8, 1, 0] rfl ?_
          have e_ : ab_bz (md_eqk l1 l2 (j + 1)) = 1 := by
            rw [md_eqk_s hj j2_ ((ab_bz1 _).mp c_111_2), decide_eq_true ((ab_inj (by omega) (by omega)).mp c_132_3)]
            rfl
          have z_ := ih (j + 1) (by omega) (by omega)
          rw [e_] at z_
          exact z_
