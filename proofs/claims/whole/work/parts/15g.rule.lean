/-! rule(): a RULE is made -/
theorem ab_Sl {nr : Nat} {h : Nat → Nat → Int32} {g : Nat → Nat → Int64} {rr : Nat → Option Nat} : (ab_S nr h g rr).1.length = 51 + nr := by
  show (ab_K0 ++ List.replicate nr (0, 3)).length = _
  rw [List.length_append, List.length_replicate]
  rfl
theorem ab_ok1 {nr : Nat} {v : Value} (h : ab_okv 51 v = true) : ab_okv (51 + nr) v = true := by
  cases v <;> first | rfl | skip
  unfold ab_okv at h ⊢
  exact decide_eq_true (Nat.lt_of_lt_of_le (of_decide_eq_true h) (Nat.le_add_right 51 nr))
theorem ab_okS {nr : Nat} {st : List Value} (h : st.all (ab_okv 51) = true) : st.all (ab_okv (51 + nr)) = true :=
  List.all_eq_true.mpr fun v hv => ab_ok1 (List.all_eq_true.mp h v hv)
theorem ab_okL {nr : Nat} {L : List (Nat × Value)} (h : L.all (fun q => ab_okv 51 q.2) = true) : L.all (fun q => ab_okv (51 + nr) q.2) = true :=
  List.all_eq_true.mpr fun v hv => ab_ok1 (List.all_eq_true.mp h v hv)
theorem hz_ne {n a b : Nat} {h : Nat → Nat → Int32} (e : a ≠ n) : hz_ n h a b = h a b := if_neg e
theorem ab_nxS {nr : Nat} {h : Nat → Nat → Int32} {g : Nat → Nat → Int64} {rr : Nat → Option Nat} : ab_nx (ab_S nr h g rr) (0, 3) = (ab_K0 ++ List.replicate (nr + 1) (0, 3), hz_ (51 + nr) h, gz_ (51 + nr) g, rz_ (51 + nr) (ab_lay nr rr)) := by
  unfold ab_nx
  rw [ab_Sl]
  refine congrArg (fun z => (z, _)) ?_
  show (ab_K0 ++ List.replicate nr (0, 3)) ++ [(0, 3)] = _
  rw [List.append_assoc, List.replicate_succ']
theorem ab_lay_hi {nr : Nat} {rr : Nat → Option Nat} {k j : Nat} (hk : 51 ≤ k) : ab_lay nr rr k j = if k < 51 + nr ∧ j = 4 then some 13 else none := by
  obtain ⟨q, rfl⟩ : ∃ q, k = 51 + q := ⟨k - 51, by omega⟩
  rw [show 51 + q = q + 50 + 1 by omega]
  show (if 51 ≤ q + 50 + 1 ∧ q + 50 + 1 < 51 + nr ∧ j = 4 then some 13 else none) = _
  by_cases h : q + 50 + 1 < 51 + nr ∧ j = 4
  · rw [if_pos ⟨by omega, h⟩, if_pos h]
  · rw [if_neg (fun z => h z.2), if_neg h]
theorem ab_lay_lo {nr nr2 : Nat} {rr rr2 : Nat → Option Nat} : ∀ k j, k < 51 → k ≠ 12 → ab_lay nr rr k j = ab_lay nr2 rr2 k j
  | 0, j, _, h => rfl
  | 1, j, _, h => rfl
  | 2, j, _, h => rfl
  | 3, j, _, h => rfl
  | 4, j, _, h => rfl
  | 5, j, _, h => rfl
  | 6, j, _, h => rfl
  | 7, j, _, h => rfl
  | 8, j, _, h => rfl
  | 9, j, _, h => rfl
  | 10, j, _, h => rfl
  | 11, j, _, h => rfl
  | 12, j, _, h => absurd rfl h
  | 13, j, _, h => rfl
  | 14, j, _, h => rfl
  | 15, j, _, h => rfl
  | 16, j, _, h => rfl
  | 17, j, _, h => rfl
  | 18, j, _, h => rfl
  | 19, j, _, h => rfl
  | 20, j, _, h => rfl
  | 21, j, _, h => rfl
  | 22, j, _, h => rfl
  | 23, j, _, h => rfl
  | 24, j, _, h => rfl
  | 25, j, _, h => rfl
  | 26, j, _, h => rfl
  | 27, j, _, h => rfl
  | 28, j, _, h => rfl
  | 29, j, _, h => rfl
  | 30, j, _, h => rfl
  | 31, j, _, h => rfl
  | 32, j, _, h => rfl
  | 33, j, _, h => rfl
  | 34, j, _, h => rfl
  | 35, j, _, h => rfl
  | 36, j, _, h => rfl
  | 37, j, _, h => rfl
  | 38, j, _, h => rfl
  | 39, j, _, h => rfl
  | 40, j, _, h => rfl
  | 41, j, _, h => rfl
  | 42, j, _, h => rfl
  | 43, j, _, h => rfl
  | 44, j, _, h => rfl
  | 45, j, _, h => rfl
  | 46, j, _, h => rfl
  | 47, j, _, h => rfl
  | 48, j, _, h => rfl
  | 49, j, _, h => rfl
  | 50, j, _, h => rfl
  | k + 51, j, h, _ => absurd h (by omega)
theorem ab_ruS {nr n c : Nat} {num k2 k3 : Int32} {h : Nat → Nat → Int32} {g : Nat → Nat → Int64} {rr : Nat → Option Nat} : ab_uR (ab_uR (ab_uI (ab_uI (ab_uI (ab_uI (ab_K0 ++ List.replicate (nr + 1) (0, 3), hz_ (51 + nr) h, gz_ (51 + nr) g, rz_ (51 + nr) (ab_lay nr rr)) (51 + nr) 0 num) (51 + nr) 1 (nI c)) (51 + nr) 2 k2) (51 + nr) 3 k3) (51 + nr) 4 (some 13)) 12 n (some (51 + nr)) = ab_S (nr + 1) (ab_u2 (ab_u2 (ab_u2 (ab_u2 (hz_ (51 + nr) h) (51 + nr) 0 num) (51 + nr) 1 (nI c)) (51 + nr) 2 k2) (51 + nr) 3 k3) (gz_ (51 + nr) g) (fun j => if j = n then some (51 + nr) else rr j) := by
  show (_, _, _, _) = (_, _, _, _)
  refine congrArg (fun z => (ab_K0 ++ List.replicate (nr + 1) (0, 3), ab_u2 (ab_u2 (ab_u2 (ab_u2 (hz_ (51 + nr) h) (51 + nr) 0 num) (51 + nr) 1 (nI c)) (51 + nr) 2 k2) (51 + nr) 3 k3, gz_ (51 + nr) g, z)) ?_
  funext k j
  show ab_u2 (ab_u2 (rz_ (51 + nr) (ab_lay nr rr)) (51 + nr) 4 (some 13)) 12 n (some (51 + nr)) k j = _
  by_cases h12 : k = 12
  · subst h12
    show _ = (if j = n then some (51 + nr) else rr j)
    by_cases hj : j = n
    · subst hj
      rw [ab_u2_at, if_pos rfl]
    · rw [ab_u2_ne (fun z => hj z.2), ab_u2_k (by omega), if_neg hj]
      show (if 12 = 51 + nr then none else rr j) = rr j
      rw [if_neg (by omega)]
  · rw [ab_u2_k h12]
    by_cases hk : k < 51
    · rw [ab_u2_k (by omega)]
      show (if k = 51 + nr then none else ab_lay nr rr k j) = _
      rw [if_neg (by omega)]
      exact ab_lay_lo k j hk h12
    · rw [ab_lay_hi (by omega)]
      by_cases he : k = 51 + nr
      · subst he
        by_cases hj : j = 4
        · subst hj
          rw [ab_u2_at, if_pos ⟨by omega, rfl⟩]
        · rw [ab_u2_ne (fun z => hj z.2), if_neg (fun z => hj z.2)]
          exact if_pos rfl
      · rw [ab_u2_k he]
        show (if k = 51 + nr then none else ab_lay nr rr k j) = _
        rw [if_neg he, ab_lay_hi (by omega)]
        by_cases hj : k < 51 + nr ∧ j = 4
        · rw [if_pos hj, if_pos ⟨by omega, hj.2⟩]
        · rw [if_neg hj, if_neg (fun z => hj ⟨by omega, z.2⟩)]
theorem sp_rs_pos (f : Nat → Int32) : ∀ n, (sp_rs f n).2.2.2 = true → 1 ≤ (sp_rs f n).1
  | 0, h => by cases h
  | n + 1, h => by
    have h2 : (sp_rst (f n) (sp_rs f n)).2.2.2 = true := h
    show 1 ≤ (sp_rst (f n) (sp_rs f n)).1
    unfold sp_rst at h2 ⊢
    by_cases hw : (sp_rs f n).2.2.2 = true
    · rw [if_pos hw] at h2
      cases h2
    · rw [if_neg hw] at h2 ⊢
      have h3 : ¬ sp_ww (sp_gn (sp_rs f n).2.1 (sp_rs f n).2.2.1 (f n)) ((sp_rs f n).2.2.1 + 1) = 0 := by simpa using h2
      have h4 : 1 ≤ sp_ww (sp_gn (sp_rs f n).2.1 (sp_rs f n).2.2.1 (f n)) ((sp_rs f n).2.2.1 + 1) := by omega
      exact Nat.le_trans h4 Nat.right_le_or
theorem sp_m1n (k : Nat) (hk : k < 100) : ¬ (0 : Int32) ≤ -1 - nI k := by
  have : ∀ k, k < 100 → ¬ (0 : Int32) ≤ -1 - nI k := by decide
  exact this k hk
theorem sp_rd_c {f : Nat → Int32} {n : Nat} (hn : n ≤ 60) (h : 0 ≤ sp_rd f n) : ∃ c, sp_rd f n = nI c ∧ 1 ≤ c ∧ c < 4096 := by
  unfold sp_rd at h ⊢
  by_cases h1 : sp_rdk f n < n
  · rw [if_pos h1] at h
    exact absurd h (sp_m1n _ (by omega))
  · rw [if_neg h1] at h ⊢
    by_cases h2 : (sp_rs f n).2.2.2 = true
    · rw [if_pos h2]
      exact ⟨_, rfl, sp_rs_pos f n h2, (sp_rs_ok f n).1⟩
    · rw [if_neg h2] at h
      exact absurd h (sp_m1n _ (by omega))
def fx_W_rule (nr : Nat) (h : Nat → Nat → Int32) (g : Nat → Nat → Int64) (rr : Nat → Option Nat) (zs : Nat → Nat) (n_ : Nat) (s : Int32) : Option Value × ab_Me :=
  if fv_W_rowRefusal h s = 0 then
    if 0 ≤ (sp_rd (fun i => (g (4 + s.toNatClampNeg) i).toInt32) (zs s.toNatClampNeg)) then
      if nI n_ < 8 then
        (some (.int (nI n_)), ab_S (nr + 1) (ab_u2 (ab_u2 (ab_u2 (ab_u2 (ab_u2 (hz_ (51 + nr) (ab_u2 h 0 5 (-1 : Int32))) (51 + nr) 0 (nI n_)) (51 + nr) 1 (sp_rd (fun i => (g (4 + s.toNatClampNeg) i).toInt32) (zs s.toNatClampNeg))) (51 + nr) 2 (nI (sp_kd (sp_rd (fun i => (g (4 + s.toNatClampNeg) i).toInt32) (zs s.toNatClampNeg)).toNatClampNeg))) (51 + nr) 3 (nI (sp_pr (sp_rd (fun i => (g (4 + s.toNatClampNeg) i).toInt32) (zs s.toNatClampNeg)).toNatClampNeg))) 0 4 (nI (n_ + 1))) (gz_ (51 + nr) g) (fun j => if j = n_ then some (51 + nr) else rr j))
      else (some (.int (-7 : Int32)), ab_S nr (ab_u2 (ab_u2 h 0 5 (-1 : Int32)) 28 7 (ab_u2 h 0 5 (-1 : Int32) 28 7 + 1)) g rr)
    else (some (.int (-6 : Int32)), ab_S nr (ab_u2 (ab_u2 h 0 5 ((-1 : Int32) - (sp_rd (fun i => (g (4 + s.toNatClampNeg) i).toInt32) (zs s.toNatClampNeg)))) 28 6 (ab_u2 h 0 5 ((-1 : Int32) - (sp_rd (fun i => (g (4 + s.toNatClampNeg) i).toInt32) (zs s.toNatClampNeg))) 28 6 + 1)) g rr)
  else (some (.int (fv_W_rowRefusal h s)), ab_S nr (ab_u2 h 28 (-(fv_W_rowRefusal h s)).toNatClampNeg (h 28 (-(fv_W_rowRefusal h s)).toNatClampNeg + 1)) g rr)
set_option maxHeartbeats 1000000 in
set_option maxRecDepth 10000 in
theorem ct_W_rule {n0 : Nat} {xs0 : Nat → Int32} (l : Launch) (d : Nat) (nr : Nat) (h : Nat → Nat → Int32) (g : Nat → Nat → Int64) (rr : Nat → Option Nat) {n_ : Nat} (hn8 : n_ ≤ 8) (hR0 : h 0 4 = nI n_) {q cs : Nat → Nat} (hR : ru_ok nr n_ q cs h rr) {zs : Nat → Nat} (hzs : ∀ s, s < 8 → zs s ≤ 60 ∧ h 2 s = nI (zs s)) (s : Int32) : ab_CX l (some (n0, xs0)) am_W_rule (d + 7) 1 5 [.ref 0, .int s] (ab_S nr h g rr) (fun r_ M' => (r_, M') = fx_W_rule nr h g rr zs n_ s) := by
  refine ab_CX_of (by decide +kernel) rfl (Nat.le_of_ble_eq_true rfl) ?_
  refine ab_aload_n de_W_rule_0 0 rfl ?_
  refine ab_iload_n de_W_rule_1 1 rfl ?_
  refine ab_cV (as := [.int s]) (st := []) (ct_W_rowRefusal l _ nr h g rr (s)) mo_W_rowRefusal mi_W_rowRefusal ml_W_95 rfl (by decide) rfl rfl rfl (Nat.le_of_ble_eq_true rfl) de_W_rule_2 (fun v_ M_ hK_ hl_ hv_ => ?_)
  obtain ⟨rfl, hm_⟩ := hK_
  have hm_ := hm_.symm
  subst hm_
  change ab_G _ _ _ _ _ _ _ [(0, .ref 0), (1, .int s)] [.int (fv_W_rowRefusal h s)] (ab_S nr h g rr) _
  refine ab_istore_n (L' := [(2, .int (fv_W_rowRefusal h s)), (0, .ref 0), (1, .int s)]) de_W_rule_5 (by decide) rfl ?_
  refine ab_iload_n de_W_rule_6 0 rfl ?_
  refine ab_if_eq (tgt := 16) de_W_rule_7 rfl (fun c_7_1 => ?_) (fun c_7_1 => ?_)
  · obtain ⟨sn, hsn, rfl⟩ := rf_row0 c_7_1
    have hz60 := (hzs sn (by omega)).1
    refine ab_aload_n de_W_rule_16 1 rfl ?_
    refine ab_get (v := .ref 3) fl_W_18 rfl rfl de_W_rule_17 ?_
    refine ab_iload_n de_W_rule_20 2 rfl ?_
    refine ab_rald (v := .ref (4 + sn)) rfl (ab_in (by omega) (by decide)) (ab_r3 (by omega)) de_W_rule_21 ?_
    refine ab_aload_n de_W_rule_22 1 rfl ?_
    refine ab_get (v := .ref 2) fl_W_13 rfl rfl de_W_rule_23 ?_
    refine ab_iload_n de_W_rule_26 2 rfl ?_
    refine ab_iald (v := h 2 sn) rfl (ab_in (by omega) (by decide)) (ab_hv (ab_tn (n := sn) (by omega))) de_W_rule_27 ?_
    refine ab_top (v' := nI (zs sn)) ((hzs sn (by omega)).2) ?_
    refine ab_cSX (as := [.ref (4 + sn), .int (nI (zs sn))]) (st := []) (ct_R_read l _ nr h g rr (s := sn) (n := zs sn) (by omega) (by omega) (f := (fun i => (g (4 + sn) i).toInt32)) (fun _ => rfl)) mo_R_read ms_R_read ml_W_152 rfl rfl (Nat.le_of_ble_eq_true rfl) de_W_rule_28 (fun v_ M_ hK_ hl_ hv_ => ?_)
    obtain ⟨rfl, hm_⟩ := hK_
    have hm_ := hm_.symm
    subst hm_
    change ab_G _ _ _ _ _ _ _ [(2, .int (fv_W_rowRefusal h (nI sn))), (0, .ref 0), (1, .int (nI sn))] [.int (sp_rd (fun i => (g (4 + sn) i).toInt32) (zs sn))] (ab_S nr h g rr) _
    refine ab_istore_n (L' := [(3, .int (sp_rd (fun i => (g (4 + sn) i).toInt32) (zs sn))), (2, .int (fv_W_rowRefusal h (nI sn))), (0, .ref 0), (1, .int (nI sn))]) de_W_rule_31 (by decide) rfl ?_
    refine ab_aload_n de_W_rule_32 2 rfl ?_
    refine ab_iload_n de_W_rule_33 0 rfl ?_
    refine ab_if_ge (tgt := 43) de_W_rule_34 rfl (fun c_34_2 => ?_) (fun c_34_2 => ?_)
    · refine ab_iconst (v := -1) de_W_rule_43 rfl ?_
      refine ab_putI (x := 0) (j := 5) fl_W_31 rfl (Or.inl rfl) rfl rfl rfl de_W_rule_44 ?_
      change ab_G _ _ _ _ _ _ _ _ _ (ab_S nr (ab_u2 h 0 5 (-1 : Int32)) g rr) _
      refine ab_iload_n de_W_rule_47 0 rfl ?_
      refine ab_if_ge (tgt := 58) de_W_rule_48 rfl (fun c_48_3 => ?_) (fun c_48_3 => ?_)
      · refine ab_aload_n de_W_rule_58 2 rfl ?_
        refine ab_get (v := .int ((ab_u2 h 0 5 (-1 : Int32)) 0 4)) fl_W_27 rfl rfl de_W_rule_59 ?_
        refine ab_top (v' := nI n_) ((ab_u2_ne (by omega)).trans hR0) ?_
        refine ab_bipush (v := 8) de_W_rule_62 rfl ?_
        refine ab_icmp_lt (tgt := 74) de_W_rule_64 rfl (fun c_64_4 => ?_) (fun c_64_4 => ?_)
        · obtain ⟨c_, ec_, hc1_, hc2_⟩ := sp_rd_c (f := (fun i => (g (4 + sn) i).toInt32)) (by omega) c_34_2
          have n8_ : n_ < 8 := (ab_lt (b := 8) (by omega) (by decide)).mp c_64_4
          have hkr_ : (ab_K0 ++ List.replicate (nr + 1) (0, 3))[51 + nr]? = some (0, 3) := ab_rk (nr := nr + 1) (j := nr) (by omega)
          have hlen_ : (ab_K0 ++ List.replicate (nr + 1) (0, 3)).length = 51 + (nr + 1) := ab_Sl (h := h) (g := g) (rr := rr)
          refine ab_aload_n de_W_rule_74 2 rfl ?_
          refine ab_get (v := .ref 12) fl_W_23 rfl rfl de_W_rule_75 ?_
          refine ab_aload_n de_W_rule_78 2 rfl ?_
          refine ab_get (v := .int ((ab_u2 h 0 5 (-1 : Int32)) 0 4)) fl_W_27 rfl rfl de_W_rule_79 ?_
          refine ab_top (v' := nI n_) ((ab_u2_ne (by omega)).trans hR0) ?_
          refine ab_new (ci := 3) (kc2 := 0) (ks2 := 0) (by decide) (ab_w1 25 rfl rfl) (ab_w2 107 rfl rfl) (ab_w1 10 rfl rfl) (by rw [ab_Sl]; exact ab_okL rfl) (by rw [ab_Sl]; exact ab_okS rfl) de_W_rule_82 ?_
          rw [ab_Sl]
          refine ab_mm (M' := (ab_K0 ++ List.replicate (nr + 1) (0, 3), hz_ (51 + nr) (ab_u2 h 0 5 (-1 : Int32)), gz_ (51 + nr) g, rz_ (51 + nr) (ab_lay nr rr))) ab_nxS ?_
          refine ab_dup de_W_rule_85 rfl ?_
          refine ab_aload_n de_W_rule_86 2 rfl ?_
          refine ab_get (v := .int (hz_ (51 + nr) (ab_u2 h 0 5 (-1 : Int32)) 0 4)) fl_W_27 rfl rfl de_W_rule_87 ?_
          refine ab_top (v' := nI n_) ((hz_ne (by omega)).trans ((ab_u2_ne (by omega)).trans hR0)) ?_
          refine ab_iload_n de_W_rule_90 0 rfl ?_
          refine ab_top (v' := nI c_) ec_ ?_
          refine ab_aload_n de_W_rule_91 2 rfl ?_
          refine ab_get (v := .ref 13) fl_W_34 rfl (by show va_rf (if 0 = 51 + nr then none else some 13) = _; rw [if_neg (by omega)]; rfl) de_W_rule_92 ?_
          refine ab_cI (as := [.int (nI n_), .int (nI c_), .ref 13]) (st := [.ref (51 + nr), .int (nI n_), .ref 12]) (ct_R_init l _ (ab_K0 ++ List.replicate (nr + 1) (0, 3), hz_ (51 + nr) (ab_u2 h 0 5 (-1 : Int32)), gz_ (51 + nr) g, rz_ (51 + nr) (ab_lay nr rr)) (x := 51 + nr) (c := c_) hkr_ (by rw [hlen_]; omega) hc2_ (nI n_)) mo_R_init mi_R_init rfl rfl ml_W_156 rfl rfl (Nat.le_of_ble_eq_true rfl) de_W_rule_95 (fun v_ M_ hK_ hl_ hv_ => ?_)
          obtain ⟨rfl, rfl⟩ := hK_
          change ab_G _ _ _ _ _ _ _ [(3, .int (sp_rd (fun i => (g (4 + sn) i).toInt32) (zs sn))), (2, .int (fv_W_rowRefusal h (nI sn))), (0, .ref 0), (1, .int (nI sn))] [.ref (51 + nr), .int (nI n_), .ref 12] (ri_M (ab_K0 ++ List.replicate (nr + 1) (0, 3), hz_ (51 + nr) (ab_u2 h 0 5 (-1 : Int32)), gz_ (51 + nr) g, rz_ (51 + nr) (ab_lay nr rr)) (51 + nr) c_ (nI n_)) _
          refine ab_aast (x := 12) (n := 8) (r := 51 + nr) rfl hkr_ (ab_in n8_ (by decide)) de_W_rule_98 ?_
          rw [ab_tn (n := n_) (by omega)]
          refine ab_mm (M' := (ab_S (nr + 1) (ab_u2 (ab_u2 (ab_u2 (ab_u2 (hz_ (51 + nr) (ab_u2 h 0 5 (-1 : Int32))) (51 + nr) 0 (nI n_)) (51 + nr) 1 (nI c_)) (51 + nr) 2 (nI (sp_kd c_))) (51 + nr) 3 (nI (sp_pr c_))) (gz_ (51 + nr) g) (fun j => if j = n_ then some (51 + nr) else rr j))) ab_ruS ?_
          refine ab_aload_n de_W_rule_99 2 rfl ?_
          refine ab_dup de_W_rule_100 rfl ?_
          refine ab_get (v := .int ((ab_u2 (ab_u2 (ab_u2 (ab_u2 (hz_ (51 + nr) (ab_u2 h 0 5 (-1 : Int32))) (51 + nr) 0 (nI n_)) (51 + nr) 1 (nI c_)) (51 + nr) 2 (nI (sp_kd c_))) (51 + nr) 3 (nI (sp_pr c_))) 0 4)) fl_W_27 rfl rfl de_W_rule_101 ?_
          refine ab_top (v' := nI n_) (by rw [ab_u2_k (by omega), ab_u2_k (by omega), ab_u2_k (by omega), ab_u2_k (by omega), hz_ne (by omega), ab_u2_ne (by omega)]; exact hR0) ?_
          refine ab_iconst (v := 1) de_W_rule_104 rfl ?_
          refine ab_iadd de_W_rule_105 ?_
          refine ab_top (v' := nI (n_ + 1)) (ab_add _ 1) ?_
          refine ab_putI (x := 0) (j := 4) fl_W_27 rfl (Or.inl rfl) rfl rfl rfl de_W_rule_106 ?_
          change ab_G _ _ _ _ _ _ _ [(3, .int (sp_rd (fun i => (g (4 + sn) i).toInt32) (zs sn))), (2, .int (fv_W_rowRefusal h (nI sn))), (0, .ref 0), (1, .int (nI sn))] [] (ab_S (nr + 1) (ab_u2 (ab_u2 (ab_u2 (ab_u2 (ab_u2 (hz_ (51 + nr) (ab_u2 h 0 5 (-1 : Int32))) (51 + nr) 0 (nI n_)) (51 + nr) 1 (nI c_)) (51 + nr) 2 (nI (sp_kd c_))) (51 + nr) 3 (nI (sp_pr c_))) 0 4 (nI (n_ + 1))) (gz_ (51 + nr) g) (fun j => if j = n_ then some (51 + nr) else rr j)) _
          refine ab_aload_n de_W_rule_109 2 rfl ?_
          refine ab_get (v := .int (nI (n_ + 1))) fl_W_27 rfl rfl de_W_rule_110 ?_
          refine ab_iconst (v := 1) de_W_rule_113 rfl ?_
          refine ab_isub de_W_rule_114 ?_
          refine ab_top (v' := nI n_) (by rw [show (1 : Int32) = nI 1 from rfl, ab_sub_k (by omega), Nat.add_sub_cancel]) ?_
          exact ab_ret (v := some (.int (nI n_))) de_W_rule_115 ⟨_, rfl⟩ (by unfold fx_W_rule; try simp only [ab_tn (show sn < 2 ^ 31 by omega)]; rw [if_pos c_7_1, if_pos c_34_2, if_pos c_64_4]; rw [ec_, ab_tn (show c_ < 2 ^ 31 by omega)])
        · refine ab_aload_n de_W_rule_67 2 rfl ?_
          refine ab_bipush (v := -7) de_W_rule_68 rfl ?_
          refine ab_cV (as := [.int (-7 : Int32)]) (st := []) (ct_W_refuse l _ nr (ab_u2 h 0 5 (-1 : Int32)) g rr (r := (-7 : Int32)) (k := 7) (by decide) (by decide)) mo_W_refuse mi_W_refuse ml_W_88 rfl (by decide) rfl rfl rfl (Nat.le_of_ble_eq_true rfl) de_W_rule_70 (fun v_ M_ hK_ hl_ hv_ => ?_)
          obtain ⟨rfl, hm_⟩ := hK_
          have hm_ := hm_.symm
          subst hm_
          change ab_G _ _ _ _ _ _ _ [(3, .int (sp_rd (fun i => (g (4 + sn) i).toInt32) (zs sn))), (2, .int (fv_W_rowRefusal h (nI sn))), (0, .ref 0), (1, .int (nI sn))] [.int (-7 : Int32)] (ab_S nr (ab_u2 (ab_u2 h 0 5 (-1 : Int32)) 28 7 ((ab_u2 h 0 5 (-1 : Int32)) 28 7 + 1)) g rr) _
          exact ab_ret (v := some (.int (-7 : Int32))) de_W_rule_73 ⟨_, rfl⟩ (by unfold fx_W_rule; try simp only [ab_tn (show sn < 2 ^ 31 by omega)]; rw [if_pos c_7_1, if_pos c_34_2, if_neg c_64_4])
      · exact absurd c_34_2 c_48_3
    · refine ab_iconst (v := -1) de_W_rule_37 rfl ?_
      refine ab_iload_n de_W_rule_38 0 rfl ?_
      refine ab_isub de_W_rule_39 ?_
      refine ab_goto (tgt := 44) de_W_rule_40 rfl ?_
      refine ab_putI (x := 0) (j := 5) fl_W_31 rfl (Or.inl rfl) rfl rfl rfl de_W_rule_44 ?_
      change ab_G _ _ _ _ _ _ _ _ _ (ab_S nr (ab_u2 h 0 5 ((-1 : Int32) - (sp_rd (fun i => (g (4 + sn) i).toInt32) (zs sn)))) g rr) _
      refine ab_iload_n de_W_rule_47 0 rfl ?_
      refine ab_if_ge (tgt := 58) de_W_rule_48 rfl (fun c_48_5 => ?_) (fun c_48_5 => ?_)
      · exact absurd c_48_5 c_34_2
      · refine ab_aload_n de_W_rule_51 2 rfl ?_
        refine ab_bipush (v := -6) de_W_rule_52 rfl ?_
        refine ab_cV (as := [.int (-6 : Int32)]) (st := []) (ct_W_refuse l _ nr (ab_u2 h 0 5 ((-1 : Int32) - (sp_rd (fun i => (g (4 + sn) i).toInt32) (zs sn)))) g rr (r := (-6 : Int32)) (k := 6) (by decide) (by decide)) mo_W_refuse mi_W_refuse ml_W_88 rfl (by decide) rfl rfl rfl (Nat.le_of_ble_eq_true rfl) de_W_rule_54 (fun v_ M_ hK_ hl_ hv_ => ?_)
        obtain ⟨rfl, hm_⟩ := hK_
        have hm_ := hm_.symm
        subst hm_
        change ab_G _ _ _ _ _ _ _ [(3, .int (sp_rd (fun i => (g (4 + sn) i).toInt32) (zs sn))), (2, .int (fv_W_rowRefusal h (nI sn))), (0, .ref 0), (1, .int (nI sn))] [.int (-6 : Int32)] (ab_S nr (ab_u2 (ab_u2 h 0 5 ((-1 : Int32) - (sp_rd (fun i => (g (4 + sn) i).toInt32) (zs sn)))) 28 6 ((ab_u2 h 0 5 ((-1 : Int32) - (sp_rd (fun i => (g (4 + sn) i).toInt32) (zs sn)))) 28 6 + 1)) g rr) _
        exact ab_ret (v := some (.int (-6 : Int32))) de_W_rule_57 ⟨_, rfl⟩ (by unfold fx_W_rule; try simp only [ab_tn (show sn < 2 ^ 31 by omega)]; rw [if_pos c_7_1, if_neg c_34_2])
  · refine ab_aload_n de_W_rule_10 1 rfl ?_
    refine ab_iload_n de_W_rule_11 0 rfl ?_
    refine ab_cV (as := [.int (fv_W_rowRefusal h s)]) (st := []) (ct_W_refuse l _ nr h g rr (r := fv_W_rowRefusal h s) (k := (-(fv_W_rowRefusal h s)).toNatClampNeg) (rf_v (rf_row h s)).1 (rf_v (rf_row h s)).2) mo_W_refuse mi_W_refuse ml_W_88 rfl (by decide) rfl rfl rfl (Nat.le_of_ble_eq_true rfl) de_W_rule_12 (fun v_ M_ hK_ hl_ hv_ => ?_)
    obtain ⟨rfl, hm_⟩ := hK_
    have hm_ := hm_.symm
    subst hm_
    change ab_G _ _ _ _ _ _ _ [(2, .int (fv_W_rowRefusal h s)), (0, .ref 0), (1, .int s)] [.int (fv_W_rowRefusal h s)] (ab_S nr (ab_u2 h 28 (-(fv_W_rowRefusal h s)).toNatClampNeg (h 28 (-(fv_W_rowRefusal h s)).toNatClampNeg + 1)) g rr) _
    exact ab_ret (v := some (.int (fv_W_rowRefusal h s))) de_W_rule_15 ⟨_, rfl⟩ (by unfold fx_W_rule; rw [if_neg c_7_1])
