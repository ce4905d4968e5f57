/-! the reference: value, best -/
theorem md_bl_app (f : Nat → Int32) : ∀ (l1 l2 : List Nat) (s : Int32 × Int32), sp_bl f (l1 ++ l2) s = sp_bl f l2 (sp_bl f l1 s)
  | [], l2, s => rfl
  | a :: l, l2, s => md_bl_app f l l2 _
theorem md_bl_ne {f : Nat → Int32} : ∀ (l : List Nat) (b le : Int32), (∀ a, a ∈ l → a < 2 ^ 31) → ¬ b = -1 → ¬ (sp_bl f l (b, le)).1 = -1
  | [], b, le, _, h => h
  | a :: l, b, le, ha, h => by
    rw [sp_bl]
    split
    · exact md_bl_ne l _ _ (fun x hx => ha x (List.mem_cons_of_mem _ hx)) (sp_nI_ne (ha a List.mem_cons_self))
    · exact md_bl_ne l _ _ (fun x hx => ha x (List.mem_cons_of_mem _ hx)) h
theorem md_rg2 {p : Int32} (h : sp_rg p) : p < 2 := by rcases h with rfl | rfl | rfl <;> decide
theorem md_bl_nn {f : Nat → Int32} (hf : ∀ x, sp_rg (f x)) {l : List Nat} (ha : ∀ a, a ∈ l → a < 2 ^ 31) (hl : ¬ l.length = 0) : ¬ (sp_bl f l (-1, 2)).1 = -1 := by
  cases l with
  | nil => exact absurd rfl hl
  | cons a l =>
    rw [sp_bl, if_pos (md_rg2 (hf a))]
    exact md_bl_ne l _ _ (fun x hx => ha x (List.mem_cons_of_mem _ hx)) (sp_nI_ne (ha a List.mem_cons_self))
def md_mu (f : Nat → Int32) (l : List Nat) : Int32 := (sp_bl f l (-1, 2)).2
theorem md_mu_rg {f : Nat → Int32} (hf : ∀ x, sp_rg (f x)) {l : List Nat} (ha : ∀ a, a ∈ l → a < 2 ^ 31) : md_mu f l = 2 ∨ sp_rg (md_mu f l) := by
  rcases sp_bl_rg hf l (-1) 2 ha (Or.inl ⟨rfl, rfl⟩) with z | z
  · exact Or.inl z.2
  · exact Or.inr z.2
theorem md_mu_s (f : Nat → Int32) (l : List Nat) (a : Nat) : md_mu f (l ++ [a]) = if f a < md_mu f l then f a else md_mu f l := by
  unfold md_mu
  rw [md_bl_app]
  show (if f a < (sp_bl f l (-1, 2)).2 then (nI a, f a) else sp_bl f l (-1, 2)).2 = _
  split <;> rfl
theorem md_neg {p q : Int32} (hp : sp_rg p) (hq : q = 2 ∨ sp_rg q) : -p ≤ -q ↔ ¬ p < q := by
  rcases hp with rfl | rfl | rfl <;> rcases hq with rfl | rfl | rfl | rfl <;> decide
theorem md_neg1 {q : Int32} (hq : q = 2 ∨ sp_rg q) (h : (1 : Int32) ≤ -q) : q = -1 := by
  rcases hq with rfl | rfl | rfl | rfl
  · exact absurd h (by decide)
  · rfl
  · exact absurd h (by decide)
  · exact absurd h (by decide)
theorem md_mu_end {f : Nat → Int32} (hf : ∀ x, sp_rg (f x)) {l : List Nat} {k : Nat} (h : md_mu f (l.take k) = -1) : md_mu f l = -1 := by
  have e := md_bl_app f (l.take k) (l.drop k) (-1, 2)
  rw [List.take_append_drop] at e
  unfold md_mu at h ⊢
  rw [e, show sp_bl f (l.take k) (-1, 2) = ((sp_bl f (l.take k) (-1, 2)).1, -1) from Prod.ext rfl h, sp_bl_1 (fun x => sp_rg_ge (hf x))]
/-- what the value of a place is seen from -/
def md_F (T : Nat → Nat → Nat) (c n m i : Nat) : Nat → Int32 := fun x => sp_vl T c n (sp_d2 T (sp_lv T c m i) m i x) (sp_d1 T (sp_lv T c m i) m i x)
theorem md_F_rg (T : Nat → Nat → Nat) (c n m i x : Nat) : sp_rg (md_F T c n m i x) := sp_vl_rg T c n _ _
theorem md_vl_s {T : Nat → Nat → Nat} {c n m i : Nat} (h : sp_ov T c m i = false) : sp_vl T c (n + 1) m i = if (sp_ml T (sp_lv T c m i) m i).length = 0 then 0 else -(md_mu (md_F T c n m i) (sp_ml T (sp_lv T c m i) m i)) := by
  rw [sp_vl, if_neg (by rw [h]; decide)]
  by_cases e : (sp_ml T (sp_lv T c m i) m i).length = 0
  · rw [if_pos e, List.eq_nil_of_length_eq_zero e]
    rfl
  · rw [if_neg e, if_neg (md_bl_nn (fun x => sp_vl_rg T c n _ _) (fun a ha => sp_ml_lt ha) e)]
    rfl
theorem md_take_lt {T : Nat → Nat → Nat} {v m i k : Nat} : ∀ a, a ∈ (sp_ml T v m i).take k → a < 2 ^ 31 := fun a ha => sp_ml_lt (List.mem_of_mem_take ha)
set_option maxHeartbeats 1000000 in
set_option maxRecDepth 10000 in
theorem ct_M_vo0 (l : Launch) (d : Nat) (nr : Nat) (h : Nat → Nat → Int32) (g : Nat → Nat → Int64) (rr : Nat → Option Nat) {T : Nat → Nat → Nat} (hTM : bo_T T h 32) (hO : sp_ok T) {c m i : Nat} (hc : c < 4096) (hm : m < 4096) (hi : i < 4096) (hd : sp_dj m i) : ab_C l am_M_valueOf (d + 4) 0 0 [.ref 30, .int (nI c), .int (nI 0), .int (nI m), .int (nI i)] (ab_S nr h g rr) (fun (r_ : Option Value) (M' : ab_Me) => r_ = some (.int (sp_vl T c 0 m i)) ∧ ∃ h', M' = ab_S nr h' g rr ∧ md_sc h h' ∧ ∀ b, 150 * 0 ≤ b → h' 44 b = h 44 b) := by
  refine ab_C_of (by decide +kernel) rfl (Nat.le_of_ble_eq_true rfl) ?_
  refine ab_aload_n de_M_valueOf_0 0 rfl ?_
  refine ab_iload_n de_M_valueOf_1 1 rfl ?_
  refine ab_iload_n de_M_valueOf_2 3 rfl ?_
  refine ab_iload de_M_valueOf_3 4 rfl ?_
  refine ab_cV (as := [.int (nI c), .int (nI m), .int (nI i)]) (st := []) (ct_M_isOver l _ nr h g rr hTM hO hc hm hi) mo_M_isOver mi_M_isOver ml_M_225 rfl (by decide) rfl rfl rfl (Nat.le_of_ble_eq_true rfl) de_M_valueOf_5 (fun v_ M_ hK_ hl_ hv_ => ?_)
  obtain ⟨rfl, hm_⟩ := hK_
  have hm_ := hm_.symm
  subst hm_
  change ab_G _ _ _ _ _ _ _ [(0, .ref 30), (1, .int (nI c)), (2, .int (nI 0)), (3, .int (nI m)), (4, .int (nI i))] [.int (ab_bz (sp_ov T c m i))] (ab_S nr h g rr) _
  refine ab_if_eq (tgt := 13) de_M_valueOf_8 rfl (fun c_8_1 => ?_) (fun c_8_1 => ?_)
  · refine ab_iload_n de_M_valueOf_13 2 rfl ?_
    refine ab_if_ne (tgt := 19) de_M_valueOf_14 rfl (fun c_14_2 => ?_) (fun c_14_2 => ?_)
    · exact absurd rfl c_14_2
    · refine ab_iconst (v := 0) de_M_valueOf_17 rfl ?_
      exact ab_ret (v := some (.int (0 : Int32))) de_M_valueOf_18 ⟨_, rfl⟩ ⟨congrArg (fun z => some (Value.int z)) (by rw [sp_vl, if_neg (by rw [(ab_bz0 _).mp c_8_1]; decide)]), h, rfl, md_sc_rf h, fun _ _ => rfl⟩
  · refine ab_iconst (v := -1) de_M_valueOf_11 rfl ?_
    exact ab_ret (v := some (.int (-1 : Int32))) de_M_valueOf_12 ⟨_, rfl⟩ ⟨congrArg (fun z => some (Value.int z)) (by rw [sp_vl, if_pos ((ab_bz1 _).mp c_8_1)]), h, rfl, md_sc_rf h, fun _ _ => rfl⟩
set_option maxHeartbeats 1000000 in
set_option maxRecDepth 10000 in
theorem lp_M_valueOf (l : Launch) (d : Nat) (nr : Nat) (h : Nat → Nat → Int32) (g : Nat → Nat → Int64) (rr : Nat → Option Nat) {T : Nat → Nat → Nat} (hTM : bo_T T h 32) (hO : sp_ok T) {c m i : Nat} (hc : c < 4096) (hm : m < 4096) (hi : i < 4096) (hd : sp_dj m i) {n : Nat} (hn : n < 3) (hov : sp_ov T c m i = false) {h0 : Nat → Nat → Int32} (hs0 : md_sc h0 h) (hs1 : ∀ b, 150 * (n + 1) ≤ b → h 44 b = h0 44 b) (hat : md_at h (150 * n) (sp_ml T (sp_lv T c m i) m i)) (IH : ∀ (h : Nat → Nat → Int32) (m i : Nat), bo_T T h 32 → m < 4096 → i < 4096 → sp_dj m i → ab_C l am_M_valueOf (d + 4) 0 0 [.ref 30, .int (nI c), .int (nI n), .int (nI m), .int (nI i)] (ab_S nr h g rr) (fun (r_ : Option Value) (M' : ab_Me) => r_ = some (.int (sp_vl T c n m i)) ∧ ∃ h', M' = ab_S nr h' g rr ∧ md_sc h h' ∧ ∀ b, 150 * n ≤ b → h' 44 b = h 44 b)) : ∀ (fu_ k : Nat) (hh : Nat → Nat → Int32), k ≤ (sp_ml T (sp_lv T c m i) m i).length → (sp_ml T (sp_lv T c m i) m i).length < k + fu_ → md_sc h hh → (∀ b, 150 * n ≤ b → hh 44 b = h 44 b) → ab_G l none am_M_valueOf (d + 5) 0 0 43 [(0, .ref 30), (1, .int (nI c)), (2, .int (nI (n + 1))), (3, .int (nI m)), (4, .int (nI i)), (5, .int (nI (sp_ml T (sp_lv T c m i) m i).length)), (6, .int (-(md_mu (md_F T c n m i) ((sp_ml T (sp_lv T c m i) m i).take k)))), (7, .int (nI k))] [] (ab_S nr hh g rr) (fun (r_ : Option Value) (M' : ab_Me) => r_ = some (.int (sp_vl T c (n + 1) m i)) ∧ ∃ h', M' = ab_S nr h' g rr ∧ md_sc h0 h' ∧ ∀ b, 150 * (n + 1) ≤ b → h' 44 b = h0 44 b) := by
  intro fu_
  induction fu_ with
  | zero => intro k hh h1 h2; omega
  | succ fu_ ih =>
    intro k hh hN_ hn_ hf0 hf1
    have le_ := md_ml_le T (sp_lv T c m i) m i
    refine ab_iload de_M_valueOf_43 7 rfl ?_
    refine ab_iload de_M_valueOf_45 5 rfl ?_
    refine ab_icmp_ge (tgt := 120) de_M_valueOf_47 rfl (fun c_47_1 => ?_) (fun c_47_1 => ?_)
    · have hk := c_47_1
      refine ab_iload de_M_valueOf_120 5 rfl ?_
      refine ab_if_ne (tgt := 129) de_M_valueOf_122 rfl (fun c_122_2 => ?_) (fun c_122_2 => ?_)
      · refine ab_iload de_M_valueOf_129 6 rfl ?_
        exact ab_ret (v := some (.int (-(md_mu (md_F T c n m i) ((sp_ml T (sp_lv T c m i) m i).take k))))) de_M_valueOf_131 ⟨_, rfl⟩ ⟨congrArg (fun z => some (Value.int z)) (by
      rw [md_vl_s hov, if_neg (fun z => c_122_2 (by rw [z]; rfl))]
      rw [List.take_of_length_le (by have := (ab_le (by omega) (by omega)).mp c_47_1; omega)]), hh, rfl, md_sc_tr hs0 hf0, fun b hb => (hf1 b (by omega)).trans (hs1 b hb)⟩
      · refine ab_iconst (v := 0) de_M_valueOf_125 rfl ?_
        refine ab_goto (tgt := 131) de_M_valueOf_126 rfl ?_
        exact ab_ret (v := some (.int (0 : Int32))) de_M_valueOf_131 ⟨_, rfl⟩ ⟨congrArg (fun z => some (Value.int z)) (by
      rw [md_vl_s hov, if_pos ((ab_inj (b := 0) (by omega) (by decide)).mp c_122_2)]), hh, rfl, md_sc_tr hs0 hf0, fun b hb => (hf1 b (by omega)).trans (hs1 b hb)⟩
    · have hk := Nat.lt_of_not_le (fun z_ => c_47_1 ((ab_le (by omega) (by omega)).mpr z_))
      have mv_ := sp_ml_mv hm (List.getElem_mem hk)
      have m252_ := mv_.1
      refine ab_iload de_M_valueOf_50 6 rfl ?_
      refine ab_iconst (v := 1) de_M_valueOf_52 rfl ?_
      refine ab_icmp_ge (tgt := 120) de_M_valueOf_53 rfl (fun c_53_3 => ?_) (fun c_53_3 => ?_)
      · refine ab_iload de_M_valueOf_120 5 rfl ?_
        refine ab_if_ne (tgt := 129) de_M_valueOf_122 rfl (fun c_122_4 => ?_) (fun c_122_4 => ?_)
        · refine ab_iload de_M_valueOf_129 6 rfl ?_
          exact ab_ret (v := some (.int (-(md_mu (md_F T c n m i) ((sp_ml T (sp_lv T c m i) m i).take k))))) de_M_valueOf_131 ⟨_, rfl⟩ ⟨congrArg (fun z => some (Value.int z)) (by
      rw [md_vl_s hov, if_neg (fun z => c_122_4 (by rw [z]; rfl))]
      have w_ := md_neg1 (md_mu_rg (fun x => md_F_rg T c n m i x) md_take_lt) c_53_3
      rw [w_, md_mu_end (fun x => md_F_rg T c n m i x) w_]), hh, rfl, md_sc_tr hs0 hf0, fun b hb => (hf1 b (by omega)).trans (hs1 b hb)⟩
        · refine ab_iconst (v := 0) de_M_valueOf_125 rfl ?_
          refine ab_goto (tgt := 131) de_M_valueOf_126 rfl ?_
          exact ab_ret (v := some (.int (0 : Int32))) de_M_valueOf_131 ⟨_, rfl⟩ ⟨congrArg (fun z => some (Value.int z)) (by
      rw [md_vl_s hov, if_pos ((ab_inj (b := 0) (by omega) (by decide)).mp c_122_4)]), hh, rfl, md_sc_tr hs0 hf0, fun b hb => (hf1 b (by omega)).trans (hs1 b hb)⟩
      · refine ab_aload_n de_M_valueOf_56 0 rfl ?_
        refine ab_iload_n de_M_valueOf_57 1 rfl ?_
        refine ab_aload_n de_M_valueOf_58 0 rfl ?_
        refine ab_get (v := .ref 44) fl_M_54 rfl rfl de_M_valueOf_59 ?_
        refine ab_sipush (v := 150) de_M_valueOf_62 rfl ?_
        refine ab_iload_n de_M_valueOf_65 2 rfl ?_
        refine ab_iconst (v := 1) de_M_valueOf_66 rfl ?_
        refine ab_isub de_M_valueOf_67 ?_
        refine ab_top (v' := nI n) (ab_sub_k (a := n + 1) (b := 1) (by omega)) ?_
        refine ab_imul de_M_valueOf_68 ?_
        refine ab_top (v' := nI (150 * n)) (ab_mul _ _) ?_
        refine ab_iload de_M_valueOf_69 7 rfl ?_
        refine ab_iadd de_M_valueOf_71 ?_
        refine ab_top (v' := nI ((150 * n) + k)) (ab_add _ _) ?_
        refine ab_iald (v := hh 44 ((150 * n) + k)) rfl (ab_in (by omega) (by decide)) (ab_hv (ab_tn (n := ((150 * n) + k)) (by omega))) de_M_valueOf_72 ?_
        refine ab_top (v' := nI ((sp_ml T (sp_lv T c m i) m i)[k])) ((hf1 _ (by omega)).trans (hat k hk)) ?_
        refine ab_iload_n de_M_valueOf_73 3 rfl ?_
        refine ab_iload de_M_valueOf_74 4 rfl ?_
        refine ab_cV (as := [.int (nI c), .int (nI ((sp_ml T (sp_lv T c m i) m i)[k])), .int (nI m), .int (nI i)]) (st := []) (ct_M_does l _ nr hh g rr (md_T_sc hf0 hTM) hO hc hm hi (x := (sp_ml T (sp_lv T c m i) m i)[k]) mv_ hd) mo_M_does mi_M_does ml_M_228 rfl (by decide) rfl rfl rfl (Nat.le_of_ble_eq_true rfl) de_M_valueOf_76 (fun v_ M_ hK_ hl_ hv_ => ?_)
        obtain ⟨rfl, hm_⟩ := hK_
        have hm_ := hm_.symm
        subst hm_
        change ab_G _ _ _ _ _ _ _ [(0, .ref 30), (1, .int (nI c)), (2, .int (nI (n + 1))), (3, .int (nI m)), (4, .int (nI i)), (5, .int (nI (sp_ml T (sp_lv T c m i) m i).length)), (6, .int (-(md_mu (md_F T c n m i) ((sp_ml T (sp_lv T c m i) m i).take k)))), (7, .int (nI k))] [] (ab_S nr (ab_u2 (ab_u2 hh 30 24 (nI (sp_d2 T (sp_lv T c m i) m i ((sp_ml T (sp_lv T c m i) m i)[k])))) 30 25 (nI (sp_d1 T (sp_lv T c m i) m i ((sp_ml T (sp_lv T c m i) m i)[k])))) g rr) _
        have s5_ : md_sc hh (ab_u2 (ab_u2 hh 30 24 (nI (sp_d2 T (sp_lv T c m i) m i ((sp_ml T (sp_lv T c m i) m i)[k])))) 30 25 (nI (sp_d1 T (sp_lv T c m i) m i ((sp_ml T (sp_lv T c m i) m i)[k])))) := md_sc_put (md_sc_put (md_sc_rf hh) (Or.inr ⟨rfl, Or.inl rfl⟩) _) (Or.inr ⟨rfl, Or.inr (Or.inl rfl)⟩) _
        refine ab_aload_n de_M_valueOf_79 0 rfl ?_
        refine ab_iload_n de_M_valueOf_80 1 rfl ?_
        refine ab_iload_n de_M_valueOf_81 2 rfl ?_
        refine ab_iconst (v := 1) de_M_valueOf_82 rfl ?_
        refine ab_isub de_M_valueOf_83 ?_
        refine ab_top (v' := nI n) (ab_sub_k (a := n + 1) (b := 1) (by omega)) ?_
        refine ab_aload_n de_M_valueOf_84 0 rfl ?_
        refine ab_get (v := .int ((ab_u2 (ab_u2 hh 30 24 (nI (sp_d2 T (sp_lv T c m i) m i ((sp_ml T (sp_lv T c m i) m i)[k])))) 30 25 (nI (sp_d1 T (sp_lv T c m i) m i ((sp_ml T (sp_lv T c m i) m i)[k])))) 30 24)) fl_M_207 rfl rfl de_M_valueOf_85 ?_
        refine ab_top (v' := nI (sp_d2 T (sp_lv T c m i) m i ((sp_ml T (sp_lv T c m i) m i)[k]))) (rfl) ?_
        refine ab_aload_n de_M_valueOf_88 0 rfl ?_
        refine ab_get (v := .int ((ab_u2 (ab_u2 hh 30 24 (nI (sp_d2 T (sp_lv T c m i) m i ((sp_ml T (sp_lv T c m i) m i)[k])))) 30 25 (nI (sp_d1 T (sp_lv T c m i) m i ((sp_ml T (sp_lv T c m i) m i)[k])))) 30 25)) fl_M_210 rfl rfl de_M_valueOf_89 ?_
        refine ab_top (v' := nI (sp_d1 T (sp_lv T c m i) m i ((sp_ml T (sp_lv T c m i) m i)[k]))) (rfl) ?_
        refine ab_cV (as := [.int (nI c), .int (nI n), .int (nI (sp_d2 T (sp_lv T c m i) m i ((sp_ml T (sp_lv T c m i) m i)[k]))), .int (nI (sp_d1 T (sp_lv T c m i) m i ((sp_ml T (sp_lv T c m i) m i)[k])))]) (st := []) (IH (ab_u2 (ab_u2 hh 30 24 (nI (sp_d2 T (sp_lv T c m i) m i ((sp_ml T (sp_lv T c m i) m i)[k])))) 30 25 (nI (sp_d1 T (sp_lv T c m i) m i ((sp_ml T (sp_lv T c m i) m i)[k])))) _ _ (md_T_sc (md_sc_tr hf0 s5_) hTM) (sp_d2_lt hi mv_.2.1) (sp_d1_lt hm mv_.2.1) (sp_dj_next hm hi hd mv_.2.1)) mo_M_valueOf mi_M_valueOf ml_M_284 rfl (by decide) rfl rfl rfl (Nat.le_of_ble_eq_true rfl) de_M_valueOf_92 (fun v_ M_ hK_ hl_ hv_ => ?_)
        obtain ⟨rfl, h2_, rfl, s6_, s7_⟩ := hK_
        change ab_G _ _ _ _ _ _ _ [(0, .ref 30), (1, .int (nI c)), (2, .int (nI (n + 1))), (3, .int (nI m)), (4, .int (nI i)), (5, .int (nI (sp_ml T (sp_lv T c m i) m i).length)), (6, .int (-(md_mu (md_F T c n m i) ((sp_ml T (sp_lv T c m i) m i).take k)))), (7, .int (nI k))] [.int (md_F T c n m i ((sp_ml T (sp_lv T c m i) m i)[k]))] (ab_S nr h2_ g rr) _
        refine ab_ineg de_M_valueOf_95 ?_
        refine ab_istore (L' := [(8, .int (-(md_F T c n m i ((sp_ml T (sp_lv T c m i) m i)[k])))), (0, .ref 30), (1, .int (nI c)), (2, .int (nI (n + 1))), (3, .int (nI m)), (4, .int (nI i)), (5, .int (nI (sp_ml T (sp_lv T c m i) m i).length)), (6, .int (-(md_mu (md_F T c n m i) ((sp_ml T (sp_lv T c m i) m i).take k)))), (7, .int (nI k))]) de_M_valueOf_96 (by decide) rfl ?_
        refine ab_iload de_M_valueOf_98 0 rfl ?_
        refine ab_iload de_M_valueOf_100 7 rfl ?_
        refine ab_icmp_le (tgt := 110) de_M_valueOf_102 rfl (fun c_102_5 => ?_) (fun c_102_5 => ?_)
        · refine ab_iload de_M_valueOf_110 7 rfl ?_
          refine ab_istore (L' := [(6, .int (-(md_mu (md_F T c n m i) ((sp_ml T (sp_lv T c m i) m i).take k)))), (8, .int (-(md_F T c n m i ((sp_ml T (sp_lv T c m i) m i)[k])))), (0, .ref 30), (1, .int (nI c)), (2, .int (nI (n + 1))), (3, .int (nI m)), (4, .int (nI i)), (5, .int (nI (sp_ml T (sp_lv T c m i) m i).length)), (7, .int (nI k))]) de_M_valueOf_112 (by decide) rfl ?_
          refine ab_iinc (v := nI (k + 1)) (L' := [(7, .int (nI (k + 1))), (6, .int (-(md_mu (md_F T c n m i) ((sp_ml T (sp_lv T c m i) m i).take k)))), (8, .int (-(md_F T c n m i ((sp_ml T (sp_lv T c m i) m i)[k])))), (0, .ref 30), (1, .int (nI c)), (2, .int (nI (n + 1))), (3, .int (nI m)), (4, .int (nI i)), (5, .int (nI (sp_ml T (sp_lv T c m i) m i).length))]) de_M_valueOf_114 8 rfl (by rw [show Int32.ofInt 1 = nI 1 from rfl, ab_add]) (by decide) rfl ?_
          refine ab_goto (tgt := 43) de_M_valueOf_117 rfl ?_
          refine ab_sub (L' := [(0, .ref 30), (1, .int (nI c)), (2, .int (nI (n + 1))), (3, .int (nI m)), (4, .int (nI i)), (5, .int (nI (sp_ml T (sp_lv T c m i) m i).length)), (6, .int (-(md_mu (md_F T c n m i) ((sp_ml T (sp_lv T c m i) m i).take k)))), (7, .int (nI (k + 1)))]) [3, 4, 5, 6, 7, 8, 1, 0] rfl ?_
          have e_ : md_mu (md_F T c n m i) ((sp_ml T (sp_lv T c m i) m i).take (k + 1)) = md_mu (md_F T c n m i) ((sp_ml T (sp_lv T c m i) m i).take k) := by
            rw [md_take hk, md_mu_s, if_neg ((md_neg (md_F_rg T c n m i ((sp_ml T (sp_lv T c m i) m i)[k])) (md_mu_rg (fun x => md_F_rg T c n m i x) md_take_lt)).mp c_102_5)]
          have z_ := ih (k + 1) h2_ (by omega) (by omega) (md_sc_tr (md_sc_tr hf0 s5_) s6_) (fun b hb => (s7_ b (by omega)).trans (hf1 b hb))
          rw [e_] at z_
          exact z_
        · refine ab_iload de_M_valueOf_105 0 rfl ?_
          refine ab_goto (tgt := 112) de_M_valueOf_107 rfl ?_
          refine ab_istore (L' := [(6, .int (-(md_F T c n m i ((sp_ml T (sp_lv T c m i) m i)[k])))), (8, .int (-(md_F T c n m i ((sp_ml T (sp_lv T c m i) m i)[k])))), (0, .ref 30), (1, .int (nI c)), (2, .int (nI (n + 1))), (3, .int (nI m)), (4, .int (nI i)), (5, .int (nI (sp_ml T (sp_lv T c m i) m i).length)), (7, .int (nI k))]) de_M_valueOf_112 (by decide) rfl ?_
          refine ab_iinc (v := nI (k + 1)) (L' := [(7, .int (nI (k + 1))), (6, .int (-(md_F T c n m i ((sp_ml T (sp_lv T c m i) m i)[k])))), (8, .int (-(md_F T c n m i ((sp_ml T (sp_lv T c m i) m i)[k])))), (0, .ref 30), (1, .int (nI c)), (2, .int (nI (n + 1))), (3, .int (nI m)), (4, .int (nI i)), (5, .int (nI (sp_ml T (sp_lv T c m i) m i).length))]) de_M_valueOf_114 8 rfl (by rw [show Int32.ofInt 1 = nI 1 from rfl, ab_add]) (by decide) rfl ?_
          refine ab_goto (tgt := 43) de_M_valueOf_117 rfl ?_
          refine ab_sub (L' := [(0, .ref 30), (1, .int (nI c)), (2, .int (nI (n + 1))), (3, .int (nI m)), (4, .int (nI i)), (5, .int (nI (sp_ml T (sp_lv T c m i) m i).length)), (6, .int (-(md_F T c n m i ((sp_ml T (sp_lv T c m i) m i)[k])))), (7, .int (nI (k + 1)))]) [3, 4, 5, 6, 7, 8, 1, 0] rfl ?_
          have e_ : md_mu (md_F T c n m i) ((sp_ml T (sp_lv T c m i) m i).take (k + 1)) = (md_F T c n m i) ((sp_ml T (sp_lv T c m i) m i)[k]) := by
            rw [md_take hk, md_mu_s, if_pos (Decidable.not_not.mp (fun z => c_102_5 ((md_neg (md_F_rg T c n m i ((sp_ml T (sp_lv T c m i) m i)[k])) (md_mu_rg (fun x => md_F_rg T c n m i x) md_take_lt)).mpr z)))]
          have z_ := ih (k + 1) h2_ (by omega) (by omega) (md_sc_tr (md_sc_tr hf0 s5_) s6_) (fun b hb => (s7_ b (by omega)).trans (hf1 b hb))
          rw [e_] at z_
          exact z_
set_option maxHeartbeats 1000000 in
set_option maxRecDepth 10000 in
theorem ct_M_vo_s (l : Launch) (d : Nat) (nr : Nat) (h : Nat → Nat → Int32) (g : Nat → Nat → Int64) (rr : Nat → Option Nat) {T : Nat → Nat → Nat} (hTM : bo_T T h 32) (hO : sp_ok T) {c m i : Nat} (hc : c < 4096) (hm : m < 4096) (hi : i < 4096) (hd : sp_dj m i) {n : Nat} (hn : n < 3) (IH : ∀ (h : Nat → Nat → Int32) (m i : Nat), bo_T T h 32 → m < 4096 → i < 4096 → sp_dj m i → ab_C l am_M_valueOf (d + 4) 0 0 [.ref 30, .int (nI c), .int (nI n), .int (nI m), .int (nI i)] (ab_S nr h g rr) (fun (r_ : Option Value) (M' : ab_Me) => r_ = some (.int (sp_vl T c n m i)) ∧ ∃ h', M' = ab_S nr h' g rr ∧ md_sc h h' ∧ ∀ b, 150 * n ≤ b → h' 44 b = h 44 b)) : ab_C l am_M_valueOf (d + 5) 0 0 [.ref 30, .int (nI c), .int (nI (n + 1)), .int (nI m), .int (nI i)] (ab_S nr h g rr) (fun (r_ : Option Value) (M' : ab_Me) => r_ = some (.int (sp_vl T c (n + 1) m i)) ∧ ∃ h', M' = ab_S nr h' g rr ∧ md_sc h h' ∧ ∀ b, 150 * (n + 1) ≤ b → h' 44 b = h 44 b) := by
  refine ab_C_of (by decide +kernel) rfl (Nat.le_of_ble_eq_true rfl) ?_
  refine ab_aload_n de_M_valueOf_0 0 rfl ?_
  refine ab_iload_n de_M_valueOf_1 1 rfl ?_
  refine ab_iload_n de_M_valueOf_2 3 rfl ?_
  refine ab_iload de_M_valueOf_3 4 rfl ?_
  refine ab_cV (as := [.int (nI c), .int (nI m), .int (nI i)]) (st := []) (ct_M_isOver l _ nr h g rr hTM hO hc hm hi) mo_M_isOver mi_M_isOver ml_M_225 rfl (by decide) rfl rfl rfl (Nat.le_of_ble_eq_true rfl) de_M_valueOf_5 (fun v_ M_ hK_ hl_ hv_ => ?_)
  obtain ⟨rfl, hm_⟩ := hK_
  have hm_ := hm_.symm
  subst hm_
  change ab_G _ _ _ _ _ _ _ [(0, .ref 30), (1, .int (nI c)), (2, .int (nI (n + 1))), (3, .int (nI m)), (4, .int (nI i))] [.int (ab_bz (sp_ov T c m i))] (ab_S nr h g rr) _
  refine ab_if_eq (tgt := 13) de_M_valueOf_8 rfl (fun c_8_1 => ?_) (fun c_8_1 => ?_)
  · refine ab_iload_n de_M_valueOf_13 2 rfl ?_
    refine ab_if_ne (tgt := 19) de_M_valueOf_14 rfl (fun c_14_2 => ?_) (fun c_14_2 => ?_)
    · refine ab_aload_n de_M_valueOf_19 0 rfl ?_
      refine ab_iload_n de_M_valueOf_20 1 rfl ?_
      refine ab_iload_n de_M_valueOf_21 3 rfl ?_
      refine ab_iload de_M_valueOf_22 4 rfl ?_
      refine ab_sipush (v := 150) de_M_valueOf_24 rfl ?_
      refine ab_iload_n de_M_valueOf_27 2 rfl ?_
      refine ab_iconst (v := 1) de_M_valueOf_28 rfl ?_
      refine ab_isub de_M_valueOf_29 ?_
      refine ab_top (v' := nI n) (ab_sub_k (a := n + 1) (b := 1) (by omega)) ?_
      refine ab_imul de_M_valueOf_30 ?_
      refine ab_top (v' := nI (150 * n)) (ab_mul _ _) ?_
      refine ab_cV (as := [.int (nI c), .int (nI m), .int (nI i), .int (nI (150 * n))]) (st := []) (ct_M_lists l _ nr h g rr hTM hO hc hm hi (p0 := (150 * n)) (by omega)) mo_M_lists mi_M_lists ml_M_219 rfl (by decide) rfl rfl rfl (Nat.le_of_ble_eq_true rfl) de_M_valueOf_31 (fun v_ M_ hK_ hl_ hv_ => ?_)
      obtain ⟨rfl, h1_, rfl, s1_, s2_⟩ := hK_
      change ab_G _ _ _ _ _ _ _ [(0, .ref 30), (1, .int (nI c)), (2, .int (nI (n + 1))), (3, .int (nI m)), (4, .int (nI i))] [.int (nI (sp_ml T (sp_lv T c m i) m i).length)] (ab_S nr h1_ g rr) _
      refine ab_istore (L' := [(5, .int (nI (sp_ml T (sp_lv T c m i) m i).length)), (0, .ref 30), (1, .int (nI c)), (2, .int (nI (n + 1))), (3, .int (nI m)), (4, .int (nI i))]) de_M_valueOf_34 (by decide) rfl ?_
      refine ab_bipush (v := -2) de_M_valueOf_36 rfl ?_
      refine ab_istore (L' := [(6, .int (-2 : Int32)), (5, .int (nI (sp_ml T (sp_lv T c m i) m i).length)), (0, .ref 30), (1, .int (nI c)), (2, .int (nI (n + 1))), (3, .int (nI m)), (4, .int (nI i))]) de_M_valueOf_38 (by decide) rfl ?_
      refine ab_iconst (v := 0) de_M_valueOf_40 rfl ?_
      refine ab_istore (L' := [(7, .int (0 : Int32)), (6, .int (-2 : Int32)), (5, .int (nI (sp_ml T (sp_lv T c m i) m i).length)), (0, .ref 30), (1, .int (nI c)), (2, .int (nI (n + 1))), (3, .int (nI m)), (4, .int (nI i))]) de_M_valueOf_41 (by decide) rfl ?_
      refine ab_sub (L' := [(0, .ref 30), (1, .int (nI c)), (2, .int (nI (n + 1))), (3, .int (nI m)), (4, .int (nI i)), (5, .int (nI (sp_ml T (sp_lv T c m i) m i).length)), (6, .int (-(md_mu (md_F T c n m i) ((sp_ml T (sp_lv T c m i) m i).take 0)))), (7, .int (nI 0))]) [3, 4, 5, 6, 7, 2, 1, 0] rfl ?_
      exact lp_M_valueOf l d nr h1_ g rr (md_T_sc (md_sc_44 s1_) hTM) hO hc hm hi hd hn ((ab_bz0 _).mp c_8_1) (md_sc_44 s1_) (fun b hb => s1_.2 b (Or.inr (by omega))) s2_ IH ((sp_ml T (sp_lv T c m i) m i).length + 1) 0 h1_ (by omega) (by omega) (md_sc_rf h1_) (fun _ _ => rfl)
    · exact absurd c_14_2 (ab_no0 _ (by omega) (by omega))
  · refine ab_iconst (v := -1) de_M_valueOf_11 rfl ?_
    exact ab_ret (v := some (.int (-1 : Int32))) de_M_valueOf_12 ⟨_, rfl⟩ ⟨congrArg (fun z => some (Value.int z)) (by rw [sp_vl, if_pos ((ab_bz1 _).mp c_8_1)]), h, rfl, md_sc_rf h, fun _ _ => rfl⟩
theorem ct_M_vo (l : Launch) (d : Nat) (nr : Nat) (h : Nat → Nat → Int32) (g : Nat → Nat → Int64) (rr : Nat → Option Nat) {T : Nat → Nat → Nat} (hTM : bo_T T h 32) (hO : sp_ok T) {c m i : Nat} (hc : c < 4096) (hm : m < 4096) (hi : i < 4096) (hd : sp_dj m i) {n : Nat} (hn : n < 4) : ab_C l am_M_valueOf (d + 7) 0 0 [.ref 30, .int (nI c), .int (nI n), .int (nI m), .int (nI i)] (ab_S nr h g rr) (fun (r_ : Option Value) (M' : ab_Me) => r_ = some (.int (sp_vl T c n m i)) ∧ ∃ h', M' = ab_S nr h' g rr ∧ md_sc h h' ∧ ∀ b, 150 * n ≤ b → h' 44 b = h 44 b) := by
  rcases (by omega : n = 0 ∨ n = 1 ∨ n = 2 ∨ n = 3) with rfl | rfl | rfl | rfl
  · exact ct_M_vo0 l (d + 3) nr h g rr hTM hO hc hm hi hd
  · exact ct_M_vo_s l (d + 2) nr h g rr hTM hO hc hm hi hd (n := 0) (by decide) (fun h1 m1 i1 a1 a2 a3 a4 => ct_M_vo0 l (d + 2) nr h1 g rr a1 hO hc a2 a3 a4)
  · exact ct_M_vo_s l (d + 2) nr h g rr hTM hO hc hm hi hd (n := 1) (by decide) (fun h1 m1 i1 a1 a2 a3 a4 => ct_M_vo_s l (d + 1) nr h1 g rr a1 hO hc a2 a3 a4 (n := 0) (by decide) (fun h2 m2 i2 b1 b2 b3 b4 => ct_M_vo0 l (d + 1) nr h2 g rr b1 hO hc b2 b3 b4))
  · exact ct_M_vo_s l (d + 2) nr h g rr hTM hO hc hm hi hd (n := 2) (by decide) (fun h1 m1 i1 a1 a2 a3 a4 => ct_M_vo_s l (d + 1) nr h1 g rr a1 hO hc a2 a3 a4 (n := 1) (by decide) (fun h2 m2 i2 b1 b2 b3 b4 => ct_M_vo_s l d nr h2 g rr b1 hO hc b2 b3 b4 (n := 0) (by decide) (fun h3 m3 i3 c1 c2 c3 c4 => ct_M_vo0 l d nr h3 g rr c1 hO hc c2 c3 c4)))
