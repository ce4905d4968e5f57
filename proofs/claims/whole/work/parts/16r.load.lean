/-! the reference: value, best, load -/
theorem md_le2 {p q : Int32} (hp : sp_rg p) (hq : sp_rg q) : ¬ p < q ↔ q ≤ p := by rcases hp with rfl | rfl | rfl <;> rcases hq with rfl | rfl | rfl <;> decide
theorem md_bl_p1 {f : Nat → Int32} : ∀ (l : List Nat) (b le : Int32), (∀ a, a ∈ l → ¬ f a < le) → sp_bl f l (b, le) = (b, le)
  | [], b, le, _ => rfl
  | a :: l, b, le, h => by
    rw [sp_bl, if_neg (h a List.mem_cons_self)]
    exact md_bl_p1 l b le (fun x hx => h x (List.mem_cons_of_mem _ hx))
theorem md_rg_lt {p q : Int32} (hp : sp_rg p) (hq : sp_rg q) (h1 : ¬ p < q) (h2 : ¬ p = q) : q < p := by
  rcases hp with rfl | rfl | rfl <;> rcases hq with rfl | rfl | rfl <;> first | exact absurd rfl h2 | decide | exact absurd (by decide) h1
theorem md_bl_p2 {f : Nat → Int32} (hf : ∀ x, sp_rg (f x)) : ∀ (l : List Nat) (k : Nat) (hk : k < l.length) (b le : Int32), (∀ j (hj : j < l.length), j < k → ¬ f l[j] = f l[k]) → (∀ a, a ∈ l → ¬ f a < f l[k]) → f l[k] < le → sp_bl f l (b, le) = (nI l[k], f l[k])
  | [], k, hk, b, le, _, _, _ => absurd hk (Nat.not_lt_zero k)
  | a :: l, 0, hk, b, le, _, h2, h3 => by
    rw [sp_bl]
    show sp_bl f l (if f a < le then (nI a, f a) else (b, le)) = _
    rw [if_pos (show f a < le from h3)]
    exact md_bl_p1 l _ _ (fun x hx => h2 x (List.mem_cons_of_mem _ hx))
  | a :: l, k + 1, hk, b, le, h1, h2, h3 => by
    have hk' : k < l.length := by rw [List.length_cons] at hk; omega
    have e : (a :: l)[k + 1] = l[k] := rfl
    have ih := fun b le => md_bl_p2 hf l k hk' b le (fun j hj hjk => by
      have := h1 (j + 1) (by rw [List.length_cons]; omega) (by omega)
      exact this) (fun x hx => h2 x (List.mem_cons_of_mem _ hx))
    rw [sp_bl]
    show sp_bl f l (if f a < le then (nI a, f a) else (b, le)) = _
    split
    · refine ih _ _ ?_
      have n1 : ¬ f a = f l[k] := h1 0 (by rw [List.length_cons]; omega) (by omega)
      have n2 : ¬ f a < f l[k] := h2 a List.mem_cons_self
      exact md_rg_lt (hf a) (hf _) n2 n1
    · exact ih _ _ h3
theorem md_bl_le {f : Nat → Int32} (hf : ∀ x, sp_rg (f x)) : ∀ (l : List Nat) (b le : Int32), (le = 2 ∨ sp_rg le) → ((sp_bl f l (b, le)).2 = 2 ∨ sp_rg (sp_bl f l (b, le)).2) ∧ ¬ le < (sp_bl f l (b, le)).2 ∧ ∀ a, a ∈ l → ¬ f a < (sp_bl f l (b, le)).2
  | [], b, le, h => ⟨h, Int32.lt_irrefl, fun a ha => absurd ha List.not_mem_nil⟩
  | a :: l, b, le, h => by
    rw [sp_bl]
    show ((sp_bl f l (if f a < le then (nI a, f a) else (b, le))).2 = 2 ∨ _) ∧ ¬ le < (sp_bl f l (if f a < le then (nI a, f a) else (b, le))).2 ∧ ∀ x, x ∈ a :: l → ¬ f x < (sp_bl f l (if f a < le then (nI a, f a) else (b, le))).2
    by_cases c : f a < le
    · rw [if_pos c]
      obtain ⟨i0, i1, i2⟩ := md_bl_le hf l (nI a) (f a) (Or.inr (hf a))
      refine ⟨i0, ?_, fun x hx => ?_⟩
      · intro z
        exact i1 (Int32.lt_trans c z)
      · rcases List.mem_cons.mp hx with rfl | hx
        · exact i1
        · exact i2 x hx
    · rw [if_neg c]
      obtain ⟨i0, i1, i2⟩ := md_bl_le hf l b le h
      refine ⟨i0, i1, fun x hx => ?_⟩
      rcases List.mem_cons.mp hx with rfl | hx
      · intro z
        revert i1 c z
        have hx2 := hf x
        generalize f x = p at hx2 ⊢
        generalize (sp_bl f l (b, le)).2 = q at i0 ⊢
        rcases h with rfl | rfl | rfl | rfl <;> rcases hx2 with rfl | rfl | rfl <;> rcases i0 with rfl | rfl | rfl | rfl <;> decide
      · exact i2 x hx
theorem md_al_mem {T : Nat → Nat → Nat} (hO : sp_ok T) {v m i a : Nat} (hm : m < 4096) (h : a ∈ sp_ml T v m i) : sp_al T v m i a = true := by
  have h1 := md_ml_ct hO (v := v) (m := m) (i := i) (x := a) (by have := (sp_ml_mv hm h).1; omega)
  have h2 := List.count_pos_iff.mpr h
  rw [h1] at h2
  unfold sp_iv at h2
  unfold sp_al
  cases hb : (sp_tg T v m i (a / 16)).testBit (a % 16) with
  | true => rfl
  | false => rw [hb] at h2; exact absurd h2 (by decide)
theorem md_ov_ml {T : Nat → Nat → Nat} (hO : sp_ok T) {c m i : Nat} (hm : m < 4096) (h : sp_ov T c m i = true) : sp_ml T (sp_lv T c m i) m i = [] := by
  cases e : sp_ml T (sp_lv T c m i) m i with
  | nil => rfl
  | cons a l =>
    have ha : a ∈ sp_ml T (sp_lv T c m i) m i := by rw [e]; exact List.mem_cons_self
    rw [md_al_ov hO hm (sp_ml_mv hm ha).2.1 (md_al_mem hO hm ha)] at h
    cases h
def fx_M_value (h : Nat → Nat → Int32) (T : Nat → Nat → Nat) (m i t : Nat) (Z : sp_G) (x y : Int32) : Option Value × (Nat → Nat → Int32) :=
  if (ab_bz (sp_cd x)) = 0 then
    (some (.int (-11 : Int32)), (ab_u2 h 31 1 (h 31 1 + 1)))
  else
    if y < 0 then
      (some (.int (-16 : Int32)), (ab_u2 h 31 6 (h 31 6 + 1)))
    else
      if y ≤ (3 : Int32) then
        (some (.int (sp_vl T x.toNatClampNeg y.toNatClampNeg m i)), h)
      else
        (some (.int (-16 : Int32)), (ab_u2 h 31 6 (h 31 6 + 1)))
set_option maxHeartbeats 1000000 in
set_option maxRecDepth 10000 in
theorem ct_M_value (l : Launch) (d : Nat) (nr : Nat) (h : Nat → Nat → Int32) (g : Nat → Nat → Int64) (rr : Nat → Option Nat) {T : Nat → Nat → Nat} (hTM : bo_T T h 32) (hO : sp_ok T) {m i t : Nat} (hm : m < 4096) (hi : i < 4096) (ht : t < 2) (hd : sp_dj m i) (hB : md_bd m i t h) {Z : sp_G} (hZ : gm_ok Z) (hG : md_G Z h) (hK : md_K T Z h) (x y : Int32) : ab_C l am_M_value (d + 8) 0 0 [.ref 30, .int x, .int y] (ab_S nr h g rr) (fun r_ M' => ∃ X h', (r_, X) = fx_M_value h T m i t Z x y ∧ M' = ab_S nr h' g rr ∧ md_K T Z h' ∧ md_kr X h') := by
  have ff_h := md_kr_rf h
  have kk_h := hK
  refine ab_C_of (by decide +kernel) rfl (Nat.le_of_ble_eq_true rfl) ?_
  refine ab_aload_n de_M_value_0 0 rfl ?_
  refine ab_iload_n de_M_value_1 1 rfl ?_
  refine ab_cV (as := [.int x]) (st := []) (ct_M_isCode l _ (ab_S nr h g rr) (x)) mo_M_isCode mi_M_isCode ml_M_168 rfl (by decide) rfl rfl rfl (Nat.le_of_ble_eq_true rfl) de_M_value_2 (fun v_ M_ hK_ hl_ hv_ => ?_)
  obtain ⟨rfl, hm_⟩ := hK_
  have hm_ := hm_.symm
  subst hm_
  change ab_G _ _ _ _ _ _ _ [(0, .ref 30), (1, .int x), (2, .int y)] [.int (ab_bz (sp_cd x))] (ab_S nr h g rr) _
  refine ab_if_ne (tgt := 14) de_M_value_5 rfl (fun c_5_1 => ?_) (fun c_5_1 => ?_)
  · obtain ⟨xn, hxn, rfl⟩ := sp_cd_n c_5_1
    refine ab_iload_n de_M_value_14 2 rfl ?_
    refine ab_if_lt (tgt := 23) de_M_value_15 rfl (fun c_15_2 => ?_) (fun c_15_2 => ?_)
    · refine ab_aload_n de_M_value_23 0 rfl ?_
      refine ab_bipush (v := -6) de_M_value_24 rfl ?_
      refine ab_cV (as := [.int (-6 : Int32)]) (st := []) (ct_M_noTen l _ nr h g rr (r := (-6 : Int32)) (k := 6) (by decide) (by decide)) mo_M_noTen mi_M_noTen ml_M_222 rfl (by decide) rfl rfl rfl (Nat.le_of_ble_eq_true rfl) de_M_value_26 (fun v_ M_ hK_ hl_ hv_ => ?_)
      obtain ⟨rfl, hm_⟩ := hK_
      have hm_ := hm_.symm
      subst hm_
      change ab_G _ _ _ _ _ _ _ [(0, .ref 30), (1, .int (nI xn)), (2, .int y)] [.int (-16 : Int32)] (ab_S nr (ab_u2 h 31 6 (h 31 6 + 1)) g rr) _
      exact ab_ret (v := some (.int (-16 : Int32))) de_M_value_29 ⟨_, rfl⟩ ⟨_, _, (by unfold fx_M_value; try simp only [ab_tn (show xn < 2 ^ 31 by omega)]; rw [if_neg c_5_1, if_pos c_15_2]), rfl, (md_K_31 kk_h _ _), (md_kr_31 ff_h _)⟩
    · have c15 := c_15_2
      refine ab_iload_n de_M_value_18 2 rfl ?_
      refine ab_iconst (v := 3) de_M_value_19 rfl ?_
      refine ab_icmp_le (tgt := 30) de_M_value_20 rfl (fun c_20_3 => ?_) (fun c_20_3 => ?_)
      · obtain ⟨yn, hyn, rfl⟩ := sp_btl_n (a := 0) (N := 3) (by decide) (Int32.not_lt.mp c15) (by decide) c_20_3
        refine ab_aload_n de_M_value_30 0 rfl ?_
        refine ab_iload_n de_M_value_31 1 rfl ?_
        refine ab_iload_n de_M_value_32 2 rfl ?_
        refine ab_aload_n de_M_value_33 0 rfl ?_
        refine ab_cV (as := []) (st := [.int (nI yn), .int (nI xn), .ref 30]) (ct_M_mineNow l _ nr h g rr hB ht) mo_M_mineNow mi_M_mineNow ml_M_213 rfl (by decide) rfl rfl rfl (Nat.le_of_ble_eq_true rfl) de_M_value_34 (fun v_ M_ hK_ hl_ hv_ => ?_)
        obtain ⟨rfl, hm_⟩ := hK_
        have hm_ := hm_.symm
        subst hm_
        change ab_G _ _ _ _ _ _ _ [(0, .ref 30), (1, .int (nI xn)), (2, .int (nI yn))] [.int (nI m), .int (nI yn), .int (nI xn), .ref 30] (ab_S nr h g rr) _
        refine ab_aload_n de_M_value_37 0 rfl ?_
        refine ab_cV (as := []) (st := [.int (nI m), .int (nI yn), .int (nI xn), .ref 30]) (ct_M_itsNow l _ nr h g rr hB ht) mo_M_itsNow mi_M_itsNow ml_M_216 rfl (by decide) rfl rfl rfl (Nat.le_of_ble_eq_true rfl) de_M_value_38 (fun v_ M_ hK_ hl_ hv_ => ?_)
        obtain ⟨rfl, hm_⟩ := hK_
        have hm_ := hm_.symm
        subst hm_
        change ab_G _ _ _ _ _ _ _ [(0, .ref 30), (1, .int (nI xn)), (2, .int (nI yn))] [.int (nI i), .int (nI m), .int (nI yn), .int (nI xn), .ref 30] (ab_S nr h g rr) _
        refine ab_cV (as := [.int (nI xn), .int (nI yn), .int (nI m), .int (nI i)]) (st := []) (ct_M_vo l d nr h g rr hTM hO (c := xn) (by omega) hm hi hd (n := yn) (by omega)) mo_M_valueOf mi_M_valueOf ml_M_284 rfl (by decide) rfl rfl rfl (Nat.le_of_ble_eq_true rfl) de_M_value_41 (fun v_ M_ hK_ hl_ hv_ => ?_)
        obtain ⟨rfl, h1_, rfl, s1_, s2_⟩ := hK_
        change ab_G _ _ _ _ _ _ _ [(0, .ref 30), (1, .int (nI xn)), (2, .int (nI yn))] [.int (sp_vl T xn yn m i)] (ab_S nr h1_ g rr) _
        have ff_h1_ := md_kr_sc s1_
        have kk_h1_ := md_K_sc s1_ hK
        exact ab_ret (v := some (.int (sp_vl T xn yn m i))) de_M_value_44 ⟨_, rfl⟩ ⟨_, _, (by unfold fx_M_value; try simp only [ab_tn (show xn < 2 ^ 31 by omega), ab_tn (show yn < 2 ^ 31 by omega)]; rw [if_neg c_5_1, if_neg c_15_2, if_pos c_20_3]), rfl, kk_h1_, ff_h1_⟩
      · refine ab_aload_n de_M_value_23 0 rfl ?_
        refine ab_bipush (v := -6) de_M_value_24 rfl ?_
        refine ab_cV (as := [.int (-6 : Int32)]) (st := []) (ct_M_noTen l _ nr h g rr (r := (-6 : Int32)) (k := 6) (by decide) (by decide)) mo_M_noTen mi_M_noTen ml_M_222 rfl (by decide) rfl rfl rfl (Nat.le_of_ble_eq_true rfl) de_M_value_26 (fun v_ M_ hK_ hl_ hv_ => ?_)
        obtain ⟨rfl, hm_⟩ := hK_
        have hm_ := hm_.symm
        subst hm_
        change ab_G _ _ _ _ _ _ _ [(0, .ref 30), (1, .int (nI xn)), (2, .int y)] [.int (-16 : Int32)] (ab_S nr (ab_u2 h 31 6 (h 31 6 + 1)) g rr) _
        exact ab_ret (v := some (.int (-16 : Int32))) de_M_value_29 ⟨_, rfl⟩ ⟨_, _, (by unfold fx_M_value; try simp only [ab_tn (show xn < 2 ^ 31 by omega)]; rw [if_neg c_5_1, if_neg c_15_2, if_neg c_20_3]), rfl, (md_K_31 kk_h _ _), (md_kr_31 ff_h _)⟩
  · refine ab_aload_n de_M_value_8 0 rfl ?_
    refine ab_iconst (v := -1) de_M_value_9 rfl ?_
    refine ab_cV (as := [.int (-1 : Int32)]) (st := []) (ct_M_noTen l _ nr h g rr (r := (-1 : Int32)) (k := 1) (by decide) (by decide)) mo_M_noTen mi_M_noTen ml_M_222 rfl (by decide) rfl rfl rfl (Nat.le_of_ble_eq_true rfl) de_M_value_10 (fun v_ M_ hK_ hl_ hv_ => ?_)
    obtain ⟨rfl, hm_⟩ := hK_
    have hm_ := hm_.symm
    subst hm_
    change ab_G _ _ _ _ _ _ _ [(0, .ref 30), (1, .int x), (2, .int y)] [.int (-11 : Int32)] (ab_S nr (ab_u2 h 31 1 (h 31 1 + 1)) g rr) _
    exact ab_ret (v := some (.int (-11 : Int32))) de_M_value_13 ⟨_, rfl⟩ ⟨_, _, (by unfold fx_M_value; rw [if_pos c_5_1]), rfl, (md_K_31 kk_h _ _), (md_kr_31 ff_h _)⟩
theorem md_ld {h hh : Nat → Nat → Int32} (H : md_sc h hh) (a b c : Int32) : md_kr (ab_u2 (ab_u2 (ab_u2 h 30 5 a) 30 3 b) 30 4 c) (ab_u2 (ab_u2 (ab_u2 hh 30 5 a) 30 3 b) 30 4 c) := fun x y n => by
  unfold ab_u2
  rw [md_kr_sc H x y n]
set_option maxHeartbeats 1000000 in
set_option maxRecDepth 10000 in
theorem lp_M_load (l : Launch) (d : Nat) (nr : Nat) (h : Nat → Nat → Int32) (g : Nat → Nat → Int64) (rr : Nat → Option Nat) {T : Nat → Nat → Nat} (hTM : bo_T T h 32) (hO : sp_ok T) {c : Nat} (hc : c < 4096) {Z : sp_G} (hZ : gm_ok Z) (hG : md_G Z h) {y : Nat} (hy : y < gN Z) (hK : md_K T Z h) {k0 : Nat} (hk0 : k0 ≤ gL Z y) : ∀ (fu_ k : Nat) (hh : Nat → Nat → Int32), k ≤ k0 → k0 < k + fu_ → md_sc h hh → hh 30 27 = nI (sp_sg T c Z y k).1 → hh 30 28 = nI (sp_sg T c Z y k).2 → ab_G l none am_M_load (d + 5) 0 0 51 [(0, .ref 30), (1, .int (nI y)), (2, .int (nI k0)), (3, .int (nI c)), (4, .int (nI k))] [] (ab_S nr hh g rr) (fun (r_ : Option Value) (M' : ab_Me) => r_ = some (.int (nI (k0 % 2))) ∧ ∃ h', M' = ab_S nr h' g rr ∧ md_K T Z h' ∧ md_kr (ab_u2 (ab_u2 (ab_u2 h 30 5 (nI (k0 % 2))) 30 3 (nI (if k0 % 2 = 0 then (sp_sg T c Z y k0).1 else (sp_sg T c Z y k0).2))) 30 4 (nI (if k0 % 2 = 0 then (sp_sg T c Z y k0).2 else (sp_sg T c Z y k0).1))) h') := by
  intro fu_
  induction fu_ with
  | zero => intro k hh h1 h2; omega
  | succ fu_ ih =>
    intro k hh hN_ hn_ hf0 hf1 hf2
    obtain ⟨sm_, si_, sd_⟩ := sp_sg_ok (T := T) (c := c) hZ hy k (by omega)
    have hTh := md_T_sc hf0 hTM
    have hGh := md_G_sc hf0 hG
    have y6_ := hZ.1
    have l20_ := (hZ.2 y hy).2.2.2.1
    refine ab_iload de_M_load_51 4 rfl ?_
    refine ab_iload_n de_M_load_53 2 rfl ?_
    refine ab_icmp_ge (tgt := 80) de_M_load_54 rfl (fun c_54_1 => ?_) (fun c_54_1 => ?_)
    · have hk := (ab_le (by omega) (by omega)).mp c_54_1
      have ke_ : k = k0 := by omega
      refine ab_aload_n de_M_load_80 0 rfl ?_
      refine ab_iload_n de_M_load_81 2 rfl ?_
      refine ab_iconst (v := 2) de_M_load_82 rfl ?_
      refine ab_irem de_M_load_83 (by decide) ?_
      refine ab_top (v' := nI (k0 % 2)) (ab_rem (b := 2) (by omega) (by decide)) ?_
      refine ab_putI (x := 30) (j := 5) fl_M_177 rfl (Or.inl rfl) rfl rfl rfl de_M_load_84 ?_
      change ab_G _ _ _ _ _ _ _ _ _ (ab_S nr (ab_u2 hh 30 5 (nI (k0 % 2))) g rr) _
      refine ab_aload_n de_M_load_87 0 rfl ?_
      refine ab_aload_n de_M_load_88 0 rfl ?_
      refine ab_get (v := .int ((ab_u2 hh 30 5 (nI (k0 % 2))) 30 5)) fl_M_177 rfl rfl de_M_load_89 ?_
      refine ab_top (v' := nI (k0 % 2)) (ab_u2_at) ?_
      refine ab_if_ne (tgt := 102) de_M_load_92 rfl (fun c_92_2 => ?_) (fun c_92_2 => ?_)
      · have t0a_ : ¬ k0 % 2 = 0 := fun z => c_92_2 (by rw [z]; rfl)
        refine ab_aload_n de_M_load_102 0 rfl ?_
        refine ab_get (v := .int ((ab_u2 hh 30 5 (nI (k0 % 2))) 30 28)) fl_M_242 rfl rfl de_M_load_103 ?_
        refine ab_top (v' := nI (if k0 % 2 = 0 then (sp_sg T c Z y k0).1 else (sp_sg T c Z y k0).2)) ((show hh 30 28 = _ from hf2.trans (by rw [ke_, if_neg t0a_]))) ?_
        refine ab_putI (x := 30) (j := 3) fl_M_171 rfl (Or.inl rfl) rfl rfl rfl de_M_load_106 ?_
        change ab_G _ _ _ _ _ _ _ _ _ (ab_S nr (ab_u2 (ab_u2 hh 30 5 (nI (k0 % 2))) 30 3 (nI (if k0 % 2 = 0 then (sp_sg T c Z y k0).1 else (sp_sg T c Z y k0).2))) g rr) _
        refine ab_aload_n de_M_load_109 0 rfl ?_
        refine ab_aload_n de_M_load_110 0 rfl ?_
        refine ab_get (v := .int ((ab_u2 (ab_u2 hh 30 5 (nI (k0 % 2))) 30 3 (nI (if k0 % 2 = 0 then (sp_sg T c Z y k0).1 else (sp_sg T c Z y k0).2))) 30 5)) fl_M_177 rfl rfl de_M_load_111 ?_
        refine ab_top (v' := nI (k0 % 2)) (rfl) ?_
        refine ab_if_ne (tgt := 124) de_M_load_114 rfl (fun c_114_3 => ?_) (fun c_114_3 => ?_)
        · have t0b_ : ¬ k0 % 2 = 0 := fun z => c_114_3 (by rw [z]; rfl)
          refine ab_aload_n de_M_load_124 0 rfl ?_
          refine ab_get (v := .int ((ab_u2 (ab_u2 hh 30 5 (nI (k0 % 2))) 30 3 (nI (if k0 % 2 = 0 then (sp_sg T c Z y k0).1 else (sp_sg T c Z y k0).2))) 30 27)) fl_M_239 rfl rfl de_M_load_125 ?_
          refine ab_top (v' := nI (if k0 % 2 = 0 then (sp_sg T c Z y k0).2 else (sp_sg T c Z y k0).1)) ((show hh 30 27 = _ from hf1.trans (by rw [ke_, if_neg t0b_]))) ?_
          refine ab_putI (x := 30) (j := 4) fl_M_174 rfl (Or.inl rfl) rfl rfl rfl de_M_load_128 ?_
          change ab_G _ _ _ _ _ _ _ _ _ (ab_S nr (ab_u2 (ab_u2 (ab_u2 hh 30 5 (nI (k0 % 2))) 30 3 (nI (if k0 % 2 = 0 then (sp_sg T c Z y k0).1 else (sp_sg T c Z y k0).2))) 30 4 (nI (if k0 % 2 = 0 then (sp_sg T c Z y k0).2 else (sp_sg T c Z y k0).1))) g rr) _
          refine ab_aload_n de_M_load_131 0 rfl ?_
          refine ab_get (v := .int ((ab_u2 (ab_u2 (ab_u2 hh 30 5 (nI (k0 % 2))) 30 3 (nI (if k0 % 2 = 0 then (sp_sg T c Z y k0).1 else (sp_sg T c Z y k0).2))) 30 4 (nI (if k0 % 2 = 0 then (sp_sg T c Z y k0).2 else (sp_sg T c Z y k0).1))) 30 5)) fl_M_177 rfl rfl de_M_load_132 ?_
          refine ab_top (v' := nI (k0 % 2)) (rfl) ?_
          exact ab_ret (v := some (.int (nI (k0 % 2)))) de_M_load_135 ⟨_, rfl⟩ (by
    have k_ : k = k0 := by omega
    subst k_
    exact ⟨rfl, _, rfl, md_K_fr (h := hh) rfl rfl rfl rfl rfl (md_K_sc hf0 hK), md_ld hf0 _ _ _⟩)
        · have t0b_ : k0 % 2 = 0 := (ab_inj (b := 0) (by omega) (by decide)).mp c_114_3
          refine ab_aload_n de_M_load_117 0 rfl ?_
          refine ab_get (v := .int ((ab_u2 (ab_u2 hh 30 5 (nI (k0 % 2))) 30 3 (nI (if k0 % 2 = 0 then (sp_sg T c Z y k0).1 else (sp_sg T c Z y k0).2))) 30 28)) fl_M_242 rfl rfl de_M_load_118 ?_
          refine ab_top (v' := nI (if k0 % 2 = 0 then (sp_sg T c Z y k0).2 else (sp_sg T c Z y k0).1)) ((show hh 30 28 = _ from hf2.trans (by rw [ke_, if_pos t0b_]))) ?_
          refine ab_goto (tgt := 128) de_M_load_121 rfl ?_
          refine ab_putI (x := 30) (j := 4) fl_M_174 rfl (Or.inl rfl) rfl rfl rfl de_M_load_128 ?_
          change ab_G _ _ _ _ _ _ _ _ _ (ab_S nr (ab_u2 (ab_u2 (ab_u2 hh 30 5 (nI (k0 % 2))) 30 3 (nI (if k0 % 2 = 0 then (sp_sg T c Z y k0).1 else (sp_sg T c Z y k0).2))) 30 4 (nI (if k0 % 2 = 0 then (sp_sg T c Z y k0).2 else (sp_sg T c Z y k0).1))) g rr) _
          refine ab_aload_n de_M_load_131 0 rfl ?_
          refine ab_get (v := .int ((ab_u2 (ab_u2 (ab_u2 hh 30 5 (nI (k0 % 2))) 30 3 (nI (if k0 % 2 = 0 then (sp_sg T c Z y k0).1 else (sp_sg T c Z y k0).2))) 30 4 (nI (if k0 % 2 = 0 then (sp_sg T c Z y k0).2 else (sp_sg T c Z y k0).1))) 30 5)) fl_M_177 rfl rfl de_M_load_132 ?_
          refine ab_top (v' := nI (k0 % 2)) (rfl) ?_
          exact ab_ret (v := some (.int (nI (k0 % 2)))) de_M_load_135 ⟨_, rfl⟩ (by
    have k_ : k = k0 := by omega
    subst k_
    exact ⟨rfl, _, rfl, md_K_fr (h := hh) rfl rfl rfl rfl rfl (md_K_sc hf0 hK), md_ld hf0 _ _ _⟩)
      · have t0a_ : k0 % 2 = 0 := (ab_inj (b := 0) (by omega) (by decide)).mp c_92_2
        refine ab_aload_n de_M_load_95 0 rfl ?_
        refine ab_get (v := .int ((ab_u2 hh 30 5 (nI (k0 % 2))) 30 27)) fl_M_239 rfl rfl de_M_load_96 ?_
        refine ab_top (v' := nI (if k0 % 2 = 0 then (sp_sg T c Z y k0).1 else (sp_sg T c Z y k0).2)) ((show hh 30 27 = _ from hf1.trans (by rw [ke_, if_pos t0a_]))) ?_
        refine ab_goto (tgt := 106) de_M_load_99 rfl ?_
        refine ab_putI (x := 30) (j := 3) fl_M_171 rfl (Or.inl rfl) rfl rfl rfl de_M_load_106 ?_
        change ab_G _ _ _ _ _ _ _ _ _ (ab_S nr (ab_u2 (ab_u2 hh 30 5 (nI (k0 % 2))) 30 3 (nI (if k0 % 2 = 0 then (sp_sg T c Z y k0).1 else (sp_sg T c Z y k0).2))) g rr) _
        refine ab_aload_n de_M_load_109 0 rfl ?_
        refine ab_aload_n de_M_load_110 0 rfl ?_
        refine ab_get (v := .int ((ab_u2 (ab_u2 hh 30 5 (nI (k0 % 2))) 30 3 (nI (if k0 % 2 = 0 then (sp_sg T c Z y k0).1 else (sp_sg T c Z y k0).2))) 30 5)) fl_M_177 rfl rfl de_M_load_111 ?_
        refine ab_top (v' := nI (k0 % 2)) (rfl) ?_
        refine ab_if_ne (tgt := 124) de_M_load_114 rfl (fun c_114_4 => ?_) (fun c_114_4 => ?_)
        · have t0b_ : ¬ k0 % 2 = 0 := fun z => c_114_4 (by rw [z]; rfl)
          refine ab_aload_n de_M_load_124 0 rfl ?_
          refine ab_get (v := .int ((ab_u2 (ab_u2 hh 30 5 (nI (k0 % 2))) 30 3 (nI (if k0 % 2 = 0 then (sp_sg T c Z y k0).1 else (sp_sg T c Z y k0).2))) 30 27)) fl_M_239 rfl rfl de_M_load_125 ?_
          refine ab_top (v' := nI (if k0 % 2 = 0 then (sp_sg T c Z y k0).2 else (sp_sg T c Z y k0).1)) ((show hh 30 27 = _ from hf1.trans (by rw [ke_, if_neg t0b_]))) ?_
          refine ab_putI (x := 30) (j := 4) fl_M_174 rfl (Or.inl rfl) rfl rfl rfl de_M_load_128 ?_
          change ab_G _ _ _ _ _ _ _ _ _ (ab_S nr (ab_u2 (ab_u2 (ab_u2 hh 30 5 (nI (k0 % 2))) 30 3 (nI (if k0 % 2 = 0 then (sp_sg T c Z y k0).1 else (sp_sg T c Z y k0).2))) 30 4 (nI (if k0 % 2 = 0 then (sp_sg T c Z y k0).2 else (sp_sg T c Z y k0).1))) g rr) _
          refine ab_aload_n de_M_load_131 0 rfl ?_
          refine ab_get (v := .int ((ab_u2 (ab_u2 (ab_u2 hh 30 5 (nI (k0 % 2))) 30 3 (nI (if k0 % 2 = 0 then (sp_sg T c Z y k0).1 else (sp_sg T c Z y k0).2))) 30 4 (nI (if k0 % 2 = 0 then (sp_sg T c Z y k0).2 else (sp_sg T c Z y k0).1))) 30 5)) fl_M_177 rfl rfl de_M_load_132 ?_
          refine ab_top (v' := nI (k0 % 2)) (rfl) ?_
          exact ab_ret (v := some (.int (nI (k0 % 2)))) de_M_load_135 ⟨_, rfl⟩ (by
    have k_ : k = k0 := by omega
    subst k_
    exact ⟨rfl, _, rfl, md_K_fr (h := hh) rfl rfl rfl rfl rfl (md_K_sc hf0 hK), md_ld hf0 _ _ _⟩)
        · have t0b_ : k0 % 2 = 0 := (ab_inj (b := 0) (by omega) (by decide)).mp c_114_4
          refine ab_aload_n de_M_load_117 0 rfl ?_
          refine ab_get (v := .int ((ab_u2 (ab_u2 hh 30 5 (nI (k0 % 2))) 30 3 (nI (if k0 % 2 = 0 then (sp_sg T c Z y k0).1 else (sp_sg T c Z y k0).2))) 30 28)) fl_M_242 rfl rfl de_M_load_118 ?_
          refine ab_top (v' := nI (if k0 % 2 = 0 then (sp_sg T c Z y k0).2 else (sp_sg T c Z y k0).1)) ((show hh 30 28 = _ from hf2.trans (by rw [ke_, if_pos t0b_]))) ?_
          refine ab_goto (tgt := 128) de_M_load_121 rfl ?_
          refine ab_putI (x := 30) (j := 4) fl_M_174 rfl (Or.inl rfl) rfl rfl rfl de_M_load_128 ?_
          change ab_G _ _ _ _ _ _ _ _ _ (ab_S nr (ab_u2 (ab_u2 (ab_u2 hh 30 5 (nI (k0 % 2))) 30 3 (nI (if k0 % 2 = 0 then (sp_sg T c Z y k0).1 else (sp_sg T c Z y k0).2))) 30 4 (nI (if k0 % 2 = 0 then (sp_sg T c Z y k0).2 else (sp_sg T c Z y k0).1))) g rr) _
          refine ab_aload_n de_M_load_131 0 rfl ?_
          refine ab_get (v := .int ((ab_u2 (ab_u2 (ab_u2 hh 30 5 (nI (k0 % 2))) 30 3 (nI (if k0 % 2 = 0 then (sp_sg T c Z y k0).1 else (sp_sg T c Z y k0).2))) 30 4 (nI (if k0 % 2 = 0 then (sp_sg T c Z y k0).2 else (sp_sg T c Z y k0).1))) 30 5)) fl_M_177 rfl rfl de_M_load_132 ?_
          refine ab_top (v' := nI (k0 % 2)) (rfl) ?_
          exact ab_ret (v := some (.int (nI (k0 % 2)))) de_M_load_135 ⟨_, rfl⟩ (by
    have k_ : k = k0 := by omega
    subst k_
    exact ⟨rfl, _, rfl, md_K_fr (h := hh) rfl rfl rfl rfl rfl (md_K_sc hf0 hK), md_ld hf0 _ _ _⟩)
    · have hk := Nat.lt_of_not_le (fun z_ => c_54_1 ((ab_le (by omega) (by omega)).mpr z_))
      have sx_ := (hZ.2 y hy).2.2.2.2.1 k (by omega)
      have mx_ := sx_.1
      refine ab_aload_n de_M_load_57 0 rfl ?_
      refine ab_iload_n de_M_load_58 3 rfl ?_
      refine ab_aload_n de_M_load_59 0 rfl ?_
      refine ab_get (v := .ref 35) fl_M_26 rfl rfl de_M_load_60 ?_
      refine ab_bipush (v := 20) de_M_load_63 rfl ?_
      refine ab_iload_n de_M_load_65 1 rfl ?_
      refine ab_imul de_M_load_66 ?_
      refine ab_top (v' := nI (20 * y)) (ab_mul _ _) ?_
      refine ab_iload de_M_load_67 4 rfl ?_
      refine ab_iadd de_M_load_69 ?_
      refine ab_top (v' := nI ((20 * y) + k)) (ab_add _ _) ?_
      refine ab_iald (v := hh 35 ((20 * y) + k)) rfl (ab_in (by omega) (by decide)) (ab_hv (ab_tn (n := ((20 * y) + k)) (by omega))) de_M_load_70 ?_
      refine ab_top (v' := nI (gV Z y k)) ((hGh.2 y hy).2.2.2 k (by omega)) ?_
      refine ab_cV (as := [.int (nI c), .int (nI (gV Z y k))]) (st := []) (ct_M_steps l _ nr hh g rr hTh hO hc sm_ si_ (x := (gV Z y k)) sx_ sd_ hf1 hf2) mo_M_steps mi_M_steps ml_M_249 rfl (by decide) rfl rfl rfl (Nat.le_of_ble_eq_true rfl) de_M_load_71 (fun v_ M_ hK_ hl_ hv_ => ?_)
      obtain ⟨rfl, h1_, rfl, s1_, s2_, s3_⟩ := hK_
      change ab_G _ _ _ _ _ _ _ [(0, .ref 30), (1, .int (nI y)), (2, .int (nI k0)), (3, .int (nI c)), (4, .int (nI k))] [] (ab_S nr h1_ g rr) _
      refine ab_iinc (v := nI (k + 1)) (L' := [(4, .int (nI (k + 1))), (0, .ref 30), (1, .int (nI y)), (2, .int (nI k0)), (3, .int (nI c))]) de_M_load_74 4 rfl (by rw [show Int32.ofInt 1 = nI 1 from rfl, ab_add]) (by decide) rfl ?_
      refine ab_goto (tgt := 51) de_M_load_77 rfl ?_
      refine ab_sub (L' := [(0, .ref 30), (1, .int (nI y)), (2, .int (nI k0)), (3, .int (nI c)), (4, .int (nI (k + 1)))]) [1, 2, 3, 4, 0] rfl ?_
      exact ih (k + 1) h1_ (by omega) (by omega) (md_sc_tr hf0 s1_) (s2_) (s3_)
def md_lx (h : Nat → Nat → Int32) (k : Nat) (s : Nat × Nat) : Nat → Nat → Int32 := ab_u2 (ab_u2 (ab_u2 h 30 5 (nI (k % 2))) 30 3 (nI (if k % 2 = 0 then s.1 else s.2))) 30 4 (nI (if k % 2 = 0 then s.2 else s.1))
def fx_M_load (h : Nat → Nat → Int32) (T : Nat → Nat → Nat) (Z : sp_G) (x y z : Int32) : Option Value × (Nat → Nat → Int32) :=
  if ab_bz (decide (0 ≤ x ∧ x < nI (gN Z))) = 0 then (some (.int (-1 : Int32)), ab_u2 h 31 1 (h 31 1 + 1))
  else if ab_bz (sp_cd z) = 0 then (some (.int (-1 : Int32)), ab_u2 h 31 1 (h 31 1 + 1))
  else if y < 0 then (some (.int (-6 : Int32)), ab_u2 h 31 6 (h 31 6 + 1))
  else if y ≤ nI (gL Z (x.toNatClampNeg)) then (some (.int (nI ((y.toNatClampNeg) % 2))), md_lx h (y.toNatClampNeg) (sp_sg T (z.toNatClampNeg) Z (x.toNatClampNeg) (y.toNatClampNeg)))
  else (some (.int (-6 : Int32)), ab_u2 h 31 6 (h 31 6 + 1))
set_option maxHeartbeats 1000000 in
set_option maxRecDepth 10000 in
theorem ct_M_load (l : Launch) (d : Nat) (nr : Nat) (h : Nat → Nat → Int32) (g : Nat → Nat → Int64) (rr : Nat → Option Nat) {T : Nat → Nat → Nat} (hTM : bo_T T h 32) (hO : sp_ok T) {Z : sp_G} (hZ : gm_ok Z) (hG : md_G Z h) (hK : md_K T Z h) (x y z : Int32) : ab_C l am_M_load (d + 6) 0 0 [.ref 30, .int x, .int y, .int z] (ab_S nr h g rr) (fun r_ M' => ∃ X h', (r_, X) = fx_M_load h T Z x y z ∧ M' = ab_S nr h' g rr ∧ md_K T Z h' ∧ md_kr X h') := by
  have h6_ := hZ.1
  refine ab_C_of (by decide +kernel) rfl (Nat.le_of_ble_eq_true rfl) ?_
  refine ab_aload_n de_M_load_0 0 rfl ?_
  refine ab_iload_n de_M_load_1 1 rfl ?_
  refine ab_cV (as := [.int x]) (st := []) (ct_M_isGame l _ nr h g rr hG.1 x) mo_M_isGame mi_M_isGame ml_M_236 rfl (by decide) rfl rfl rfl (Nat.le_of_ble_eq_true rfl) de_M_load_2 (fun v_ M_ hK_ hl_ hv_ => ?_)
  obtain ⟨rfl, hm_⟩ := hK_
  have hm_ := hm_.symm
  subst hm_
  change ab_G _ _ _ _ _ _ _ [(0, .ref 30), (1, .int x), (2, .int y), (3, .int z)] [.int (ab_bz (decide (0 ≤ x ∧ x < nI (gN Z))))] (ab_S nr h g rr) _
  refine ab_if_eq (tgt := 16) de_M_load_5 rfl (fun c_5_1 => ?_) (fun c_5_1 => ?_)
  · refine ab_aload_n de_M_load_16 0 rfl ?_
    refine ab_iconst (v := -1) de_M_load_17 rfl ?_
    refine ab_cV (as := [.int (-1 : Int32)]) (st := []) (ct_M_no l _ nr h g rr (r := (-1 : Int32)) (k := 1) (by decide) (by decide)) mo_M_no mi_M_no ml_M_94 rfl (by decide) rfl rfl rfl (Nat.le_of_ble_eq_true rfl) de_M_load_18 (fun v_ M_ hK_ hl_ hv_ => ?_)
    obtain ⟨rfl, hm_⟩ := hK_
    have hm_ := hm_.symm
    subst hm_
    change ab_G _ _ _ _ _ _ _ [(0, .ref 30), (1, .int x), (2, .int y), (3, .int z)] [.int (-1 : Int32)] (ab_S nr (ab_u2 h 31 1 (h 31 1 + 1)) g rr) _
    exact ab_ret (v := some (.int (-1 : Int32))) de_M_load_21 ⟨_, rfl⟩ ⟨_, _, (by unfold fx_M_load; rw [if_pos c_5_1]), rfl, md_K_31 hK _ _, md_kr_31 (md_kr_rf h) _⟩
  · obtain ⟨xn, hxn, rfl⟩ := sp_ra_n (by omega) c_5_1
    refine ab_aload_n de_M_load_8 0 rfl ?_
    refine ab_iload_n de_M_load_9 3 rfl ?_
    refine ab_cV (as := [.int z]) (st := []) (ct_M_isCode l _ (ab_S nr h g rr) (z)) mo_M_isCode mi_M_isCode ml_M_168 rfl (by decide) rfl rfl rfl (Nat.le_of_ble_eq_true rfl) de_M_load_10 (fun v_ M_ hK_ hl_ hv_ => ?_)
    obtain ⟨rfl, hm_⟩ := hK_
    have hm_ := hm_.symm
    subst hm_
    change ab_G _ _ _ _ _ _ _ [(0, .ref 30), (1, .int (nI xn)), (2, .int y), (3, .int z)] [.int (ab_bz (sp_cd z))] (ab_S nr h g rr) _
    refine ab_if_ne (tgt := 22) de_M_load_13 rfl (fun c_13_2 => ?_) (fun c_13_2 => ?_)
    · obtain ⟨zn, hzn, rfl⟩ := sp_cd_n c_13_2
      refine ab_iload_n de_M_load_22 2 rfl ?_
      refine ab_if_lt (tgt := 36) de_M_load_23 rfl (fun c_23_3 => ?_) (fun c_23_3 => ?_)
      · refine ab_aload_n de_M_load_36 0 rfl ?_
        refine ab_bipush (v := -6) de_M_load_37 rfl ?_
        refine ab_cV (as := [.int (-6 : Int32)]) (st := []) (ct_M_no l _ nr h g rr (r := (-6 : Int32)) (k := 6) (by decide) (by decide)) mo_M_no mi_M_no ml_M_94 rfl (by decide) rfl rfl rfl (Nat.le_of_ble_eq_true rfl) de_M_load_39 (fun v_ M_ hK_ hl_ hv_ => ?_)
        obtain ⟨rfl, hm_⟩ := hK_
        have hm_ := hm_.symm
        subst hm_
        change ab_G _ _ _ _ _ _ _ [(0, .ref 30), (1, .int (nI xn)), (2, .int y), (3, .int (nI zn))] [.int (-6 : Int32)] (ab_S nr (ab_u2 h 31 6 (h 31 6 + 1)) g rr) _
        exact ab_ret (v := some (.int (-6 : Int32))) de_M_load_42 ⟨_, rfl⟩ ⟨_, _, (by unfold fx_M_load; try simp only [ab_tn (show xn < 2 ^ 31 by omega)]; rw [if_neg c_5_1, if_neg c_13_2, if_pos c_23_3]), rfl, md_K_31 hK _ _, md_kr_31 (md_kr_rf h) _⟩
      · have c23 := c_23_3
        refine ab_iload_n de_M_load_26 2 rfl ?_
        refine ab_aload_n de_M_load_27 0 rfl ?_
        refine ab_get (v := .ref 36) fl_M_29 rfl rfl de_M_load_28 ?_
        refine ab_iload_n de_M_load_31 1 rfl ?_
        refine ab_iald (v := h 36 xn) rfl (ab_in (by omega) (by decide)) (ab_hv (ab_tn (n := xn) (by omega))) de_M_load_32 ?_
        refine ab_top (v' := nI (gL Z xn)) ((hG.2 xn (by omega)).2.1) ?_
        refine ab_icmp_le (tgt := 43) de_M_load_33 rfl (fun c_33_4 => ?_) (fun c_33_4 => ?_)
        · have l20_ := (hZ.2 xn (by omega)).2.2.2.1
          have c32_ := c_33_4
          obtain ⟨yn, hyn, rfl⟩ := sp_btl_n (a := 0) (N := gL Z xn) (by omega) (Int32.not_lt.mp c23) (by decide) c_33_4
          refine ab_aload_n de_M_load_43 0 rfl ?_
          refine ab_iload_n de_M_load_44 1 rfl ?_
          refine ab_cV (as := [.int (nI xn)]) (st := []) (ct_M_begins l _ nr h g rr hZ hG (y := xn) (by omega)) mo_M_begins mi_M_begins ml_M_245 rfl (by decide) rfl rfl rfl (Nat.le_of_ble_eq_true rfl) de_M_load_45 (fun v_ M_ hK_ hl_ hv_ => ?_)
          obtain ⟨rfl, hm_⟩ := hK_
          have hm_ := hm_.symm
          subst hm_
          change ab_G _ _ _ _ _ _ _ [(0, .ref 30), (1, .int (nI xn)), (2, .int (nI yn)), (3, .int (nI zn))] [] (ab_S nr (md_gp h (gA Z xn) (gB Z xn)) g rr) _
          refine ab_iconst (v := 0) de_M_load_48 rfl ?_
          refine ab_istore (L' := [(4, .int (0 : Int32)), (0, .ref 30), (1, .int (nI xn)), (2, .int (nI yn)), (3, .int (nI zn))]) de_M_load_49 (by decide) rfl ?_
          refine ab_sub (L' := [(0, .ref 30), (1, .int (nI xn)), (2, .int (nI yn)), (3, .int (nI zn)), (4, .int (nI 0))]) [1, 2, 3, 4, 0] rfl ?_
          refine ab_wk (fun r_ M_ q => ?_) (lp_M_load l (d + 1) nr h g rr hTM hO (by omega) hZ hG (y := xn) (by omega) hK (k0 := yn) hyn.2 (yn + 1) 0 (md_gp h (gA Z xn) (gB Z xn)) (by omega) (by omega) (md_gp_sc h _ _) rfl rfl)
          obtain ⟨q1, h1_, q2, q3, q4⟩ := q
          refine ⟨_, h1_, ?_, q2, q3, q4⟩
          unfold fx_M_load
          rw [if_neg c_5_1, if_neg c_13_2, if_neg c_23_3]
          simp only [ab_tn (show xn < 2 ^ 31 by omega), ab_tn (show yn < 2 ^ 31 by omega), ab_tn (show zn < 2 ^ 31 by omega)]
          rw [if_pos (show nI yn ≤ nI (gL Z xn) from c32_), q1]
          rfl
        · refine ab_aload_n de_M_load_36 0 rfl ?_
          refine ab_bipush (v := -6) de_M_load_37 rfl ?_
          refine ab_cV (as := [.int (-6 : Int32)]) (st := []) (ct_M_no l _ nr h g rr (r := (-6 : Int32)) (k := 6) (by decide) (by decide)) mo_M_no mi_M_no ml_M_94 rfl (by decide) rfl rfl rfl (Nat.le_of_ble_eq_true rfl) de_M_load_39 (fun v_ M_ hK_ hl_ hv_ => ?_)
          obtain ⟨rfl, hm_⟩ := hK_
          have hm_ := hm_.symm
          subst hm_
          change ab_G _ _ _ _ _ _ _ [(0, .ref 30), (1, .int (nI xn)), (2, .int y), (3, .int (nI zn))] [.int (-6 : Int32)] (ab_S nr (ab_u2 h 31 6 (h 31 6 + 1)) g rr) _
          exact ab_ret (v := some (.int (-6 : Int32))) de_M_load_42 ⟨_, rfl⟩ ⟨_, _, (by unfold fx_M_load; try simp only [ab_tn (show xn < 2 ^ 31 by omega)]; rw [if_neg c_5_1, if_neg c_13_2, if_neg c_23_3, if_neg c_33_4]), rfl, md_K_31 hK _ _, md_kr_31 (md_kr_rf h) _⟩
    · refine ab_aload_n de_M_load_16 0 rfl ?_
      refine ab_iconst (v := -1) de_M_load_17 rfl ?_
      refine ab_cV (as := [.int (-1 : Int32)]) (st := []) (ct_M_no l _ nr h g rr (r := (-1 : Int32)) (k := 1) (by decide) (by decide)) mo_M_no mi_M_no ml_M_94 rfl (by decide) rfl rfl rfl (Nat.le_of_ble_eq_true rfl) de_M_load_18 (fun v_ M_ hK_ hl_ hv_ => ?_)
      obtain ⟨rfl, hm_⟩ := hK_
      have hm_ := hm_.symm
      subst hm_
      change ab_G _ _ _ _ _ _ _ [(0, .ref 30), (1, .int (nI xn)), (2, .int y), (3, .int z)] [.int (-1 : Int32)] (ab_S nr (ab_u2 h 31 1 (h 31 1 + 1)) g rr) _
      exact ab_ret (v := some (.int (-1 : Int32))) de_M_load_21 ⟨_, rfl⟩ ⟨_, _, (by unfold fx_M_load; try simp only [ab_tn (show xn < 2 ^ 31 by omega)]; rw [if_neg c_5_1, if_pos c_13_2]), rfl, md_K_31 hK _ _, md_kr_31 (md_kr_rf h) _⟩
