/-! the reference: best -/
theorem md_ng {p q : Int32} (hp : sp_rg p) (hq : q = 2 ∨ sp_rg q) : -p = -q ↔ p = q := by rcases hp with rfl | rfl | rfl <;> rcases hq with rfl | rfl | rfl | rfl <;> decide
theorem md_bo_ov {T : Nat → Nat → Nat} (hO : sp_ok T) {c n m i : Nat} (hm : m < 4096) (h : sp_ov T c m i = true) : sp_bo T c n m i = -1 := by
  unfold sp_bo
  rw [md_ov_ml hO hm h]
  rfl
theorem md_bo_at {T : Nat → Nat → Nat} {c n m i k : Nat} (hk : k < (sp_ml T (sp_lv T c m i) m i).length) (h0 : ∀ j (hj : j < (sp_ml T (sp_lv T c m i) m i).length), j < k → ¬ md_F T c n m i (sp_ml T (sp_lv T c m i) m i)[j] = md_mu (md_F T c n m i) (sp_ml T (sp_lv T c m i) m i)) (h1 : md_F T c n m i (sp_ml T (sp_lv T c m i) m i)[k] = md_mu (md_F T c n m i) (sp_ml T (sp_lv T c m i) m i)) : sp_bo T c n m i = nI (sp_ml T (sp_lv T c m i) m i)[k] := by
  show (sp_bl (md_F T c n m i) (sp_ml T (sp_lv T c m i) m i) (-1, 2)).1 = _
  rw [md_bl_p2 (md_F_rg T c n m i) _ k hk (-1) 2 (fun j hj hjk => by rw [h1]; exact h0 j hj hjk) (fun a ha => by rw [h1]; exact (md_bl_le (md_F_rg T c n m i) _ (-1) 2 (Or.inl rfl)).2.2 a ha) (md_rg2 (md_F_rg T c n m i _))]
theorem md_bo_no {T : Nat → Nat → Nat} {c n m i : Nat} (h0 : ∀ j (hj : j < (sp_ml T (sp_lv T c m i) m i).length), ¬ md_F T c n m i (sp_ml T (sp_lv T c m i) m i)[j] = md_mu (md_F T c n m i) (sp_ml T (sp_lv T c m i) m i)) : sp_bo T c n m i = -1 := by
  show (sp_bl (md_F T c n m i) (sp_ml T (sp_lv T c m i) m i) (-1, 2)).1 = _
  rcases sp_bl_at (f := md_F T c n m i) (sp_ml T (sp_lv T c m i) m i) (-1) 2 with z | ⟨a, z1, z2, z3⟩
  · exact z.1
  · obtain ⟨j, hj, e⟩ := List.mem_iff_getElem.mp z1
    exact absurd (by rw [e]; exact z3.symm) (h0 j hj)
set_option maxHeartbeats 1000000 in
set_option maxRecDepth 10000 in
theorem lp_M_best (l : Launch) (d : Nat) (nr : Nat) (h : Nat → Nat → Int32) (g : Nat → Nat → Int64) (rr : Nat → Option Nat) {T : Nat → Nat → Nat} (hTM : bo_T T h 32) (hO : sp_ok T) {c m i : Nat} (hc : c < 4096) (hm : m < 4096) (hi : i < 4096) (hd : sp_dj m i) {n : Nat} (hn : n < 3) (hov : sp_ov T c m i = false) (hat : md_at h 450 (sp_ml T (sp_lv T c m i) m i)) : ∀ (fu_ k : Nat) (hh : Nat → Nat → Int32), k ≤ (sp_ml T (sp_lv T c m i) m i).length → (sp_ml T (sp_lv T c m i) m i).length < k + fu_ → md_sc h hh → (∀ b, 450 ≤ b → hh 44 b = h 44 b) → (∀ j (hj : j < (sp_ml T (sp_lv T c m i) m i).length), j < k → ¬ (md_F T c n m i) (sp_ml T (sp_lv T c m i) m i)[j] = md_mu (md_F T c n m i) (sp_ml T (sp_lv T c m i) m i)) → ab_G l none am_M_best (d + 8) 0 0 82 [(0, .ref 30), (1, .int (nI c)), (2, .int (nI (n + 1))), (3, .int (nI m)), (4, .int (nI i)), (5, .int (sp_vl T c (n + 1) m i)), (6, .int (nI (sp_ml T (sp_lv T c m i) m i).length)), (7, .int (nI k))] [] (ab_S nr hh g rr) (fun (r_ : Option Value) (M' : ab_Me) => r_ = some (.int (sp_bo T c n m i)) ∧ ∃ h', M' = ab_S nr h' g rr ∧ md_sc h h') := by
  intro fu_
  induction fu_ with
  | zero => intro k hh h1 h2; omega
  | succ fu_ ih =>
    intro k hh hN_ hn_ hf0 hf1 hf2
    have le_ := md_ml_le T (sp_lv T c m i) m i
    refine ab_iload de_M_best_82 7 rfl ?_
    refine ab_iload de_M_best_84 6 rfl ?_
    refine ab_icmp_ge (tgt := 148) de_M_best_86 rfl (fun c_86_1 => ?_) (fun c_86_1 => ?_)
    · have hk := c_86_1
      refine ab_iconst (v := -1) de_M_best_148 rfl ?_
      exact ab_ret (v := some (.int (-1 : Int32))) de_M_best_149 ⟨_, rfl⟩ (by
    have q_ := (ab_le (by omega) (by omega)).mp c_86_1
    exact ⟨by rw [md_bo_no (fun j hj => hf2 j hj (by omega))], hh, rfl, hf0⟩)
    · have hk := Nat.lt_of_not_le (fun z_ => c_86_1 ((ab_le (by omega) (by omega)).mpr z_))
      have mv_ := sp_ml_mv hm (List.getElem_mem hk)
      have m252_ := mv_.1
      have ve_ : sp_vl T c (n + 1) m i = -(md_mu (md_F T c n m i) (sp_ml T (sp_lv T c m i) m i)) := by rw [md_vl_s hov, if_neg (show ¬ (sp_ml T (sp_lv T c m i) m i).length = 0 by omega)]
      refine ab_aload_n de_M_best_89 0 rfl ?_
      refine ab_iload_n de_M_best_90 1 rfl ?_
      refine ab_aload_n de_M_best_91 0 rfl ?_
      refine ab_get (v := .ref 44) fl_M_54 rfl rfl de_M_best_92 ?_
      refine ab_sipush (v := 450) de_M_best_95 rfl ?_
      refine ab_iload de_M_best_98 7 rfl ?_
      refine ab_iadd de_M_best_100 ?_
      refine ab_top (v' := nI (450 + k)) (ab_add _ _) ?_
      refine ab_iald (v := hh 44 (450 + k)) rfl (ab_in (by omega) (by decide)) (ab_hv (ab_tn (n := (450 + k)) (by omega))) de_M_best_101 ?_
      refine ab_top (v' := nI ((sp_ml T (sp_lv T c m i) m i)[k])) ((hf1 _ (by omega)).trans (hat k hk)) ?_
      refine ab_iload_n de_M_best_102 3 rfl ?_
      refine ab_iload de_M_best_103 4 rfl ?_
      refine ab_cV (as := [.int (nI c), .int (nI ((sp_ml T (sp_lv T c m i) m i)[k])), .int (nI m), .int (nI i)]) (st := []) (ct_M_does l _ nr hh g rr (md_T_sc hf0 hTM) hO hc hm hi (x := (sp_ml T (sp_lv T c m i) m i)[k]) mv_ hd) mo_M_does mi_M_does ml_M_228 rfl (by decide) rfl rfl rfl (Nat.le_of_ble_eq_true rfl) de_M_best_105 (fun v_ M_ hK_ hl_ hv_ => ?_)
      obtain ⟨rfl, hm_⟩ := hK_
      have hm_ := hm_.symm
      subst hm_
      change ab_G _ _ _ _ _ _ _ [(0, .ref 30), (1, .int (nI c)), (2, .int (nI (n + 1))), (3, .int (nI m)), (4, .int (nI i)), (5, .int (sp_vl T c (n + 1) m i)), (6, .int (nI (sp_ml T (sp_lv T c m i) m i).length)), (7, .int (nI k))] [] (ab_S nr (ab_u2 (ab_u2 hh 30 24 (nI (sp_d2 T (sp_lv T c m i) m i ((sp_ml T (sp_lv T c m i) m i)[k])))) 30 25 (nI (sp_d1 T (sp_lv T c m i) m i ((sp_ml T (sp_lv T c m i) m i)[k])))) g rr) _
      have s5_ : md_sc hh (ab_u2 (ab_u2 hh 30 24 (nI (sp_d2 T (sp_lv T c m i) m i ((sp_ml T (sp_lv T c m i) m i)[k])))) 30 25 (nI (sp_d1 T (sp_lv T c m i) m i ((sp_ml T (sp_lv T c m i) m i)[k])))) := md_sc_put (md_sc_put (md_sc_rf hh) (Or.inr ⟨rfl, Or.inl rfl⟩) _) (Or.inr ⟨rfl, Or.inr (Or.inl rfl)⟩) _
      refine ab_aload_n de_M_best_108 0 rfl ?_
      refine ab_iload_n de_M_best_109 1 rfl ?_
      refine ab_iload_n de_M_best_110 2 rfl ?_
      refine ab_iconst (v := 1) de_M_best_111 rfl ?_
      refine ab_isub de_M_best_112 ?_
      refine ab_top (v' := nI n) (ab_sub_k (a := n + 1) (b := 1) (by omega)) ?_
      refine ab_aload_n de_M_best_113 0 rfl ?_
      refine ab_get (v := .int ((ab_u2 (ab_u2 hh 30 24 (nI (sp_d2 T (sp_lv T c m i) m i ((sp_ml T (sp_lv T c m i) m i)[k])))) 30 25 (nI (sp_d1 T (sp_lv T c m i) m i ((sp_ml T (sp_lv T c m i) m i)[k])))) 30 24)) fl_M_207 rfl rfl de_M_best_114 ?_
      refine ab_top (v' := nI (sp_d2 T (sp_lv T c m i) m i ((sp_ml T (sp_lv T c m i) m i)[k]))) (rfl) ?_
      refine ab_aload_n de_M_best_117 0 rfl ?_
      refine ab_get (v := .int ((ab_u2 (ab_u2 hh 30 24 (nI (sp_d2 T (sp_lv T c m i) m i ((sp_ml T (sp_lv T c m i) m i)[k])))) 30 25 (nI (sp_d1 T (sp_lv T c m i) m i ((sp_ml T (sp_lv T c m i) m i)[k])))) 30 25)) fl_M_210 rfl rfl de_M_best_118 ?_
      refine ab_top (v' := nI (sp_d1 T (sp_lv T c m i) m i ((sp_ml T (sp_lv T c m i) m i)[k]))) (rfl) ?_
      refine ab_cV (as := [.int (nI c), .int (nI n), .int (nI (sp_d2 T (sp_lv T c m i) m i ((sp_ml T (sp_lv T c m i) m i)[k]))), .int (nI (sp_d1 T (sp_lv T c m i) m i ((sp_ml T (sp_lv T c m i) m i)[k])))]) (st := []) (ct_M_vo l d nr (ab_u2 (ab_u2 hh 30 24 (nI (sp_d2 T (sp_lv T c m i) m i ((sp_ml T (sp_lv T c m i) m i)[k])))) 30 25 (nI (sp_d1 T (sp_lv T c m i) m i ((sp_ml T (sp_lv T c m i) m i)[k])))) g rr (md_T_sc (md_sc_tr hf0 s5_) hTM) hO hc (sp_d2_lt hi mv_.2.1) (sp_d1_lt hm mv_.2.1) (sp_dj_next hm hi hd mv_.2.1) (n := n) (by omega)) mo_M_valueOf mi_M_valueOf ml_M_284 rfl (by decide) rfl rfl rfl (Nat.le_of_ble_eq_true rfl) de_M_best_121 (fun v_ M_ hK_ hl_ hv_ => ?_)
      obtain ⟨rfl, h2_, rfl, s6_, s7_⟩ := hK_
      change ab_G _ _ _ _ _ _ _ [(0, .ref 30), (1, .int (nI c)), (2, .int (nI (n + 1))), (3, .int (nI m)), (4, .int (nI i)), (5, .int (sp_vl T c (n + 1) m i)), (6, .int (nI (sp_ml T (sp_lv T c m i) m i).length)), (7, .int (nI k))] [.int (md_F T c n m i ((sp_ml T (sp_lv T c m i) m i)[k]))] (ab_S nr h2_ g rr) _
      refine ab_ineg de_M_best_124 ?_
      refine ab_iload de_M_best_125 5 rfl ?_
      refine ab_icmp_ne (tgt := 142) de_M_best_127 rfl (fun c_127_2 => ?_) (fun c_127_2 => ?_)
      · refine ab_iinc (v := nI (k + 1)) (L' := [(7, .int (nI (k + 1))), (0, .ref 30), (1, .int (nI c)), (2, .int (nI (n + 1))), (3, .int (nI m)), (4, .int (nI i)), (5, .int (sp_vl T c (n + 1) m i)), (6, .int (nI (sp_ml T (sp_lv T c m i) m i).length))]) de_M_best_142 7 rfl (by rw [show Int32.ofInt 1 = nI 1 from rfl, ab_add]) (by decide) rfl ?_
        refine ab_goto (tgt := 82) de_M_best_145 rfl ?_
        refine ab_sub (L' := [(0, .ref 30), (1, .int (nI c)), (2, .int (nI (n + 1))), (3, .int (nI m)), (4, .int (nI i)), (5, .int (sp_vl T c (n + 1) m i)), (6, .int (nI (sp_ml T (sp_lv T c m i) m i).length)), (7, .int (nI (k + 1)))]) [1, 2, 3, 4, 5, 6, 7, 0] rfl ?_
        exact ih (k + 1) h2_ (by omega) (by omega) (md_sc_tr (md_sc_tr hf0 s5_) s6_) (fun b hb => (s7_ b (by omega)).trans (hf1 b hb)) (fun j hj hjk => by
          by_cases e_ : j = k
          · have q_ := c_127_2
            rw [ve_] at q_
            have w_ : ¬ (md_F T c n m i) ((sp_ml T (sp_lv T c m i) m i)[k]) = md_mu (md_F T c n m i) (sp_ml T (sp_lv T c m i) m i) := fun z => q_ ((md_ng (md_F_rg T c n m i _) (md_mu_rg (fun x => md_F_rg T c n m i x) (fun a ha => sp_ml_lt ha))).mpr z)
            simp only [e_]
            exact w_
          · exact hf2 j hj (by omega))
      · refine ab_aload_n de_M_best_130 0 rfl ?_
        refine ab_get (v := .ref 44) fl_M_54 rfl rfl de_M_best_131 ?_
        refine ab_sipush (v := 450) de_M_best_134 rfl ?_
        refine ab_iload de_M_best_137 7 rfl ?_
        refine ab_iadd de_M_best_139 ?_
        refine ab_top (v' := nI (450 + k)) (ab_add _ _) ?_
        refine ab_iald (v := h2_ 44 (450 + k)) rfl (ab_in (by omega) (by decide)) (ab_hv (ab_tn (n := (450 + k)) (by omega))) de_M_best_140 ?_
        refine ab_top (v' := nI ((sp_ml T (sp_lv T c m i) m i)[k])) ((s7_ _ (by omega)).trans ((hf1 _ (by omega)).trans (hat k hk))) ?_
        exact ab_ret (v := some (.int (nI ((sp_ml T (sp_lv T c m i) m i)[k])))) de_M_best_141 ⟨_, rfl⟩ (by
    have q_ := c_127_2
    rw [ve_] at q_
    exact ⟨by rw [md_bo_at hk hf2 ((md_ng (md_F_rg T c n m i _) (md_mu_rg (fun x => md_F_rg T c n m i x) (fun a ha => sp_ml_lt ha))).mp q_)], h2_, rfl, md_sc_tr (md_sc_tr hf0 s5_) s6_⟩)
def fx_M_best (h : Nat → Nat → Int32) (T : Nat → Nat → Nat) (m i t : Nat) (x y : Int32) : Option Value × (Nat → Nat → Int32) :=
  if ab_bz (sp_cd x) = 0 then (some (.int (-11 : Int32)), ab_u2 h 31 1 (h 31 1 + 1))
  else if y < 1 then (some (.int (-16 : Int32)), ab_u2 h 31 6 (h 31 6 + 1))
  else if y ≤ 3 then (some (.int (sp_bo T x.toNatClampNeg (y.toNatClampNeg - 1) m i)), h)
  else (some (.int (-16 : Int32)), ab_u2 h 31 6 (h 31 6 + 1))
theorem md_b3 {y : Int32} (h1 : ¬ y < 1) (h2 : y ≤ 3) : ∃ q n, n < 3 ∧ q = n + 1 ∧ y = nI q := by
  obtain ⟨q, hq, rfl⟩ := sp_btl_n (a := 1) (N := 3) (by decide) (Int32.not_lt.mp h1) (by decide) h2
  exact ⟨q, q - 1, by omega, by omega, rfl⟩
set_option maxHeartbeats 1000000 in
set_option maxRecDepth 10000 in
theorem ct_M_best (l : Launch) (d : Nat) (nr : Nat) (h : Nat → Nat → Int32) (g : Nat → Nat → Int64) (rr : Nat → Option Nat) {T : Nat → Nat → Nat} (hTM : bo_T T h 32) (hO : sp_ok T) {Z : sp_G} (hZ : gm_ok Z) (hG : md_G Z h) (hK : md_K T Z h) {m i t : Nat} (hm : m < 4096) (hi : i < 4096) (ht : t < 2) (hd : sp_dj m i) (hB : md_bd m i t h) (x y : Int32) : ab_C l am_M_best (d + 9) 0 0 [.ref 30, .int x, .int y] (ab_S nr h g rr) (fun r_ M' => ∃ X h', (r_, X) = fx_M_best h T m i t x y ∧ M' = ab_S nr h' g rr ∧ md_K T Z h' ∧ md_kr X h') := by
  refine ab_C_of (by decide +kernel) rfl (Nat.le_of_ble_eq_true rfl) ?_
  refine ab_aload_n de_M_best_0 0 rfl ?_
  refine ab_iload_n de_M_best_1 1 rfl ?_
  refine ab_cV (as := [.int x]) (st := []) (ct_M_isCode l _ (ab_S nr h g rr) (x)) mo_M_isCode mi_M_isCode ml_M_168 rfl (by decide) rfl rfl rfl (Nat.le_of_ble_eq_true rfl) de_M_best_2 (fun v_ M_ hK_ hl_ hv_ => ?_)
  obtain ⟨rfl, hm_⟩ := hK_
  have hm_ := hm_.symm
  subst hm_
  change ab_G _ _ _ _ _ _ _ [(0, .ref 30), (1, .int x), (2, .int y)] [.int (ab_bz (sp_cd x))] (ab_S nr h g rr) _
  refine ab_if_ne (tgt := 14) de_M_best_5 rfl (fun c_5_1 => ?_) (fun c_5_1 => ?_)
  · obtain ⟨xn, hxn, rfl⟩ := sp_cd_n c_5_1
    refine ab_iload_n de_M_best_14 2 rfl ?_
    refine ab_iconst (v := 1) de_M_best_15 rfl ?_
    refine ab_icmp_lt (tgt := 24) de_M_best_16 rfl (fun c_16_2 => ?_) (fun c_16_2 => ?_)
    · refine ab_aload_n de_M_best_24 0 rfl ?_
      refine ab_bipush (v := -6) de_M_best_25 rfl ?_
      refine ab_cV (as := [.int (-6 : Int32)]) (st := []) (ct_M_noTen l _ nr h g rr (r := (-6 : Int32)) (k := 6) (by decide) (by decide)) mo_M_noTen mi_M_noTen ml_M_222 rfl (by decide) rfl rfl rfl (Nat.le_of_ble_eq_true rfl) de_M_best_27 (fun v_ M_ hK_ hl_ hv_ => ?_)
      obtain ⟨rfl, hm_⟩ := hK_
      have hm_ := hm_.symm
      subst hm_
      change ab_G _ _ _ _ _ _ _ [(0, .ref 30), (1, .int (nI xn)), (2, .int y)] [.int (-16 : Int32)] (ab_S nr (ab_u2 h 31 6 (h 31 6 + 1)) g rr) _
      exact ab_ret (v := some (.int (-16 : Int32))) de_M_best_30 ⟨_, rfl⟩ ⟨_, _, (by unfold fx_M_best; rw [if_neg c_5_1, if_pos c_16_2]), rfl, md_K_31 hK _ _, md_kr_31 (md_kr_rf h) _⟩
    · have c16_ := c_16_2
      refine ab_iload_n de_M_best_19 2 rfl ?_
      refine ab_iconst (v := 3) de_M_best_20 rfl ?_
      refine ab_icmp_le (tgt := 31) de_M_best_21 rfl (fun c_21_3 => ?_) (fun c_21_3 => ?_)
      · have c20_ := c_21_3
        obtain ⟨yn, n, hn, ey_, rfl⟩ := md_b3 c16_ c_21_3
        refine ab_aload_n de_M_best_31 0 rfl ?_
        refine ab_cV (as := []) (st := []) (ct_M_mineNow l _ nr h g rr hB ht) mo_M_mineNow mi_M_mineNow ml_M_213 rfl (by decide) rfl rfl rfl (Nat.le_of_ble_eq_true rfl) de_M_best_32 (fun v_ M_ hK_ hl_ hv_ => ?_)
        obtain ⟨rfl, hm_⟩ := hK_
        have hm_ := hm_.symm
        subst hm_
        change ab_G _ _ _ _ _ _ _ [(0, .ref 30), (1, .int (nI xn)), (2, .int (nI yn))] [.int (nI m)] (ab_S nr h g rr) _
        refine ab_istore_n (L' := [(3, .int (nI m)), (0, .ref 30), (1, .int (nI xn)), (2, .int (nI yn))]) de_M_best_35 (by decide) rfl ?_
        refine ab_aload_n de_M_best_36 1 rfl ?_
        refine ab_cV (as := []) (st := []) (ct_M_itsNow l _ nr h g rr hB ht) mo_M_itsNow mi_M_itsNow ml_M_216 rfl (by decide) rfl rfl rfl (Nat.le_of_ble_eq_true rfl) de_M_best_37 (fun v_ M_ hK_ hl_ hv_ => ?_)
        obtain ⟨rfl, hm_⟩ := hK_
        have hm_ := hm_.symm
        subst hm_
        change ab_G _ _ _ _ _ _ _ [(3, .int (nI m)), (0, .ref 30), (1, .int (nI xn)), (2, .int (nI yn))] [.int (nI i)] (ab_S nr h g rr) _
        refine ab_istore (L' := [(4, .int (nI i)), (3, .int (nI m)), (0, .ref 30), (1, .int (nI xn)), (2, .int (nI yn))]) de_M_best_40 (by decide) rfl ?_
        refine ab_aload_n de_M_best_42 2 rfl ?_
        refine ab_iload_n de_M_best_43 3 rfl ?_
        refine ab_iload_n de_M_best_44 1 rfl ?_
        refine ab_iload de_M_best_45 0 rfl ?_
        refine ab_cV (as := [.int (nI xn), .int (nI m), .int (nI i)]) (st := []) (ct_M_isOver l _ nr h g rr hTM hO (by omega) hm hi) mo_M_isOver mi_M_isOver ml_M_225 rfl (by decide) rfl rfl rfl (Nat.le_of_ble_eq_true rfl) de_M_best_47 (fun v_ M_ hK_ hl_ hv_ => ?_)
        obtain ⟨rfl, hm_⟩ := hK_
        have hm_ := hm_.symm
        subst hm_
        change ab_G _ _ _ _ _ _ _ [(4, .int (nI i)), (3, .int (nI m)), (0, .ref 30), (1, .int (nI xn)), (2, .int (nI yn))] [.int (ab_bz (sp_ov T xn m i))] (ab_S nr h g rr) _
        refine ab_if_eq (tgt := 55) de_M_best_50 rfl (fun c_50_4 => ?_) (fun c_50_4 => ?_)
        · refine ab_aload_n de_M_best_55 2 rfl ?_
          refine ab_iload_n de_M_best_56 3 rfl ?_
          refine ab_iload_n de_M_best_57 4 rfl ?_
          refine ab_iload_n de_M_best_58 1 rfl ?_
          refine ab_iload de_M_best_59 0 rfl ?_
          refine ab_cV (as := [.int (nI xn), .int (nI yn), .int (nI m), .int (nI i)]) (st := []) (ct_M_vo l (d + 1) nr h g rr hTM hO (c := xn) (by omega) hm hi hd (n := yn) (by omega)) mo_M_valueOf mi_M_valueOf ml_M_284 rfl (by decide) rfl rfl rfl (Nat.le_of_ble_eq_true rfl) de_M_best_61 (fun v_ M_ hK_ hl_ hv_ => ?_)
          obtain ⟨rfl, h1_, rfl, s1_, s2_⟩ := hK_
          change ab_G _ _ _ _ _ _ _ [(4, .int (nI i)), (3, .int (nI m)), (0, .ref 30), (1, .int (nI xn)), (2, .int (nI yn))] [.int (sp_vl T xn yn m i)] (ab_S nr h1_ g rr) _
          refine ab_istore (L' := [(5, .int (sp_vl T xn yn m i)), (4, .int (nI i)), (3, .int (nI m)), (0, .ref 30), (1, .int (nI xn)), (2, .int (nI yn))]) de_M_best_64 (by decide) rfl ?_
          refine ab_aload_n de_M_best_66 3 rfl ?_
          refine ab_iload_n de_M_best_67 4 rfl ?_
          refine ab_iload_n de_M_best_68 2 rfl ?_
          refine ab_iload de_M_best_69 1 rfl ?_
          refine ab_sipush (v := 450) de_M_best_71 rfl ?_
          refine ab_cV (as := [.int (nI xn), .int (nI m), .int (nI i), .int (450 : Int32)]) (st := []) (ct_M_lists l _ nr h1_ g rr (md_T_sc s1_ hTM) hO (c := xn) (by omega) hm hi (p0 := 450) (by omega)) mo_M_lists mi_M_lists ml_M_219 rfl (by decide) rfl rfl rfl (Nat.le_of_ble_eq_true rfl) de_M_best_74 (fun v_ M_ hK_ hl_ hv_ => ?_)
          obtain ⟨rfl, h2_, rfl, s3_, s4_⟩ := hK_
          change ab_G _ _ _ _ _ _ _ [(5, .int (sp_vl T xn yn m i)), (4, .int (nI i)), (3, .int (nI m)), (0, .ref 30), (1, .int (nI xn)), (2, .int (nI yn))] [.int (nI (sp_ml T (sp_lv T xn m i) m i).length)] (ab_S nr h2_ g rr) _
          refine ab_istore (L' := [(6, .int (nI (sp_ml T (sp_lv T xn m i) m i).length)), (5, .int (sp_vl T xn yn m i)), (4, .int (nI i)), (3, .int (nI m)), (0, .ref 30), (1, .int (nI xn)), (2, .int (nI yn))]) de_M_best_77 (by decide) rfl ?_
          refine ab_iconst (v := 0) de_M_best_79 rfl ?_
          refine ab_istore (L' := [(7, .int (0 : Int32)), (6, .int (nI (sp_ml T (sp_lv T xn m i) m i).length)), (5, .int (sp_vl T xn yn m i)), (4, .int (nI i)), (3, .int (nI m)), (0, .ref 30), (1, .int (nI xn)), (2, .int (nI yn))]) de_M_best_80 (by decide) rfl ?_
          refine ab_sub (L' := [(0, .ref 30), (1, .int (nI xn)), (2, .int (nI yn)), (3, .int (nI m)), (4, .int (nI i)), (5, .int (sp_vl T xn yn m i)), (6, .int (nI (sp_ml T (sp_lv T xn m i) m i).length)), (7, .int (nI 0))]) [5, 6, 7, 4, 3, 2, 1, 0] rfl ?_
          subst ey_
          have t1_ := md_sc_tr s1_ (md_sc_44 s3_)
          refine ab_wk (fun r_ M_ q => ?_) (lp_M_best l (d + 1) nr h2_ g rr (md_T_sc t1_ hTM) hO (by omega) hm hi hd hn ((ab_bz0 _).mp c_50_4) s4_ ((sp_ml T (sp_lv T xn m i) m i).length + 1) 0 h2_ (by omega) (by omega) (md_sc_rf h2_) (fun _ _ => rfl) (fun j hj hjk => absurd hjk (Nat.not_lt_zero j)))
          obtain ⟨q1, h3_, q2, q3⟩ := q
          have t2_ := md_sc_tr t1_ q3
          refine ⟨_, h3_, ?_, q2, md_K_sc t2_ hK, md_kr_sc t2_⟩
          unfold fx_M_best
          rw [if_neg c_5_1, if_neg c_16_2, if_pos c20_, ab_tn (show xn < 2 ^ 31 by omega), ab_tn (show n + 1 < 2 ^ 31 by omega), q1]
          rfl
        · refine ab_iconst (v := -1) de_M_best_53 rfl ?_
          exact ab_ret (v := some (.int (-1 : Int32))) de_M_best_54 ⟨_, rfl⟩ (by
    refine ⟨_, _, ?_, rfl, hK, md_kr_rf h⟩
    unfold fx_M_best
    rw [if_neg c_5_1, if_neg c_16_2, if_pos c20_, md_bo_ov hO hm (by rw [ab_tn (show xn < 2 ^ 31 by omega)]; exact (ab_bz1 _).mp c_50_4)])
      · refine ab_aload_n de_M_best_24 0 rfl ?_
        refine ab_bipush (v := -6) de_M_best_25 rfl ?_
        refine ab_cV (as := [.int (-6 : Int32)]) (st := []) (ct_M_noTen l _ nr h g rr (r := (-6 : Int32)) (k := 6) (by decide) (by decide)) mo_M_noTen mi_M_noTen ml_M_222 rfl (by decide) rfl rfl rfl (Nat.le_of_ble_eq_true rfl) de_M_best_27 (fun v_ M_ hK_ hl_ hv_ => ?_)
        obtain ⟨rfl, hm_⟩ := hK_
        have hm_ := hm_.symm
        subst hm_
        change ab_G _ _ _ _ _ _ _ [(0, .ref 30), (1, .int (nI xn)), (2, .int y)] [.int (-16 : Int32)] (ab_S nr (ab_u2 h 31 6 (h 31 6 + 1)) g rr) _
        exact ab_ret (v := some (.int (-16 : Int32))) de_M_best_30 ⟨_, rfl⟩ ⟨_, _, (by unfold fx_M_best; rw [if_neg c_5_1, if_neg c_16_2, if_neg c_21_3]), rfl, md_K_31 hK _ _, md_kr_31 (md_kr_rf h) _⟩
  · refine ab_aload_n de_M_best_8 0 rfl ?_
    refine ab_iconst (v := -1) de_M_best_9 rfl ?_
    refine ab_cV (as := [.int (-1 : Int32)]) (st := []) (ct_M_noTen l _ nr h g rr (r := (-1 : Int32)) (k := 1) (by decide) (by decide)) mo_M_noTen mi_M_noTen ml_M_222 rfl (by decide) rfl rfl rfl (Nat.le_of_ble_eq_true rfl) de_M_best_10 (fun v_ M_ hK_ hl_ hv_ => ?_)
    obtain ⟨rfl, hm_⟩ := hK_
    have hm_ := hm_.symm
    subst hm_
    change ab_G _ _ _ _ _ _ _ [(0, .ref 30), (1, .int x), (2, .int y)] [.int (-11 : Int32)] (ab_S nr (ab_u2 h 31 1 (h 31 1 + 1)) g rr) _
    exact ab_ret (v := some (.int (-11 : Int32))) de_M_best_13 ⟨_, rfl⟩ ⟨_, _, (by unfold fx_M_best; rw [if_pos c_5_1]), rfl, md_K_31 hK _ _, md_kr_31 (md_kr_rf h) _⟩
