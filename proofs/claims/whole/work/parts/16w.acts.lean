/-! the reference: the bodies that run -/
def mt_ok (h : Nat → Nat → Int32) (bs : List Int32) : Prop := h 30 37 = nI bs.length ∧ ∀ i b, bs[i]? = some b → h 49 i = b
def md_tf (h h' : Nat → Nat → Int32) : Prop := (∀ a, a ≠ 49 → a ≠ 30 → h' a = h a) ∧ ∀ b, b ≠ 37 → h' 30 b = h 30 b
theorem md_tf_rf (h : Nat → Nat → Int32) : md_tf h h := ⟨fun _ _ _ => rfl, fun _ _ => rfl⟩
theorem md_tf_tr {h h1 h2 : Nat → Nat → Int32} (a : md_tf h h1) (b : md_tf h1 h2) : md_tf h h2 := ⟨fun x y z => (b.1 x y z).trans (a.1 x y z), fun x y => (b.2 x y).trans (a.2 x y)⟩
theorem mt_put {h : Nat → Nat → Int32} {bs : List Int32} (ht : mt_ok h bs) (b : Int32) : mt_ok (ab_u2 (ab_u2 h 49 bs.length b) 30 37 (nI (bs.length + 1))) (bs ++ [b]) := by
  refine ⟨by rw [ab_u2_at, List.length_append]; rfl, fun i c hi => ?_⟩
  rw [ab_u2_k (by decide)]
  by_cases e : i = bs.length
  · subst e
    rw [List.getElem?_append_right (Nat.le_refl _), Nat.sub_self] at hi
    cases hi
    exact ab_u2_at
  · rw [ab_u2_ne (fun z => e z.2)]
    refine ht.2 i c ?_
    rcases Nat.lt_or_ge i bs.length with w | w
    · rwa [List.getElem?_append_left w] at hi
    · rw [List.getElem?_eq_none (by rw [List.length_append]; show bs.length + 1 ≤ i; omega)] at hi
      cases hi
theorem md_tf_put {h : Nat → Nat → Int32} (k : Nat) (b v : Int32) : md_tf h (ab_u2 (ab_u2 h 49 k b) 30 37 v) := by
  constructor
  · intro a h1 h2
    rw [ab_u2_row h2, ab_u2_row h1]
  · intro a h1
    rw [ab_u2_ne (fun z => h1 z.2), ab_u2_k (by decide)]
theorem sp_kd_rg (c : Nat) : sp_kd c = 1 ∨ sp_kd c = 2 ∨ sp_kd c = 3 ∨ sp_kd c = 4 ∨ sp_kd c = 5 ∨ sp_kd c = 6 ∨ sp_kd c = 7 := by
  unfold sp_kd
  repeat' split
  all_goals simp
set_option maxHeartbeats 1000000 in
set_option maxRecDepth 10000 in
theorem ct_M_body (l : Launch) (d : Nat) (nr : Nat) (h : Nat → Nat → Int32) (g : Nat → Nat → Int64) (rr : Nat → Option Nat) {bs : List Int32} (hbs : mt_ok h bs) (hln : bs.length < 20) (x : Int32) : ab_C l am_M_body d 0 0 [.ref 30, .int x] (ab_S nr h g rr) (fun (r_ : Option Value) (M' : ab_Me) => r_ = none ∧ ∃ h', M' = ab_S nr h' g rr ∧ md_tf h h' ∧ mt_ok h' (bs ++ [x])) := by
  refine ab_C_of (by decide +kernel) rfl (Nat.le_of_ble_eq_true rfl) ?_
  refine ab_aload_n de_M_body_0 0 rfl ?_
  refine ab_get (v := .int (h 30 37)) fl_M_287 rfl rfl de_M_body_1 ?_
  refine ab_top (v' := nI bs.length) (hbs.1) ?_
  refine ab_bipush (v := 20) de_M_body_4 rfl ?_
  refine ab_icmp_ge (tgt := 19) de_M_body_6 rfl (fun c_6_1 => ?_) (fun c_6_1 => ?_)
  · exact absurd ((ab_le (a := 20) (by decide) (by omega)).mp c_6_1) (by omega)
  · refine ab_aload_n de_M_body_9 0 rfl ?_
    refine ab_get (v := .ref 49) fl_M_75 rfl rfl de_M_body_10 ?_
    refine ab_aload_n de_M_body_13 0 rfl ?_
    refine ab_get (v := .int (h 30 37)) fl_M_287 rfl rfl de_M_body_14 ?_
    refine ab_top (v' := nI bs.length) (hbs.1) ?_
    refine ab_iload_n de_M_body_17 1 rfl ?_
    refine ab_iast (x := 49) rfl (ab_in (by omega) (by decide)) de_M_body_18 ?_
    rw [(ab_tn (n := bs.length) (by omega))]
    change ab_G _ _ _ _ _ _ _ _ _ (ab_S nr (ab_u2 h 49 bs.length x) g rr) _
    refine ab_aload_n de_M_body_19 0 rfl ?_
    refine ab_dup de_M_body_20 rfl ?_
    refine ab_get (v := .int ((ab_u2 h 49 bs.length x) 30 37)) fl_M_287 rfl rfl de_M_body_21 ?_
    refine ab_top (v' := nI bs.length) (hbs.1) ?_
    refine ab_iconst (v := 1) de_M_body_24 rfl ?_
    refine ab_iadd de_M_body_25 ?_
    refine ab_top (v' := nI (bs.length + 1)) (ab_add _ _) ?_
    refine ab_putI (x := 30) (j := 37) fl_M_287 rfl (Or.inl rfl) rfl rfl rfl de_M_body_26 ?_
    change ab_G _ _ _ _ _ _ _ _ _ (ab_S nr (ab_u2 (ab_u2 h 49 bs.length x) 30 37 (nI (bs.length + 1))) g rr) _
    exact ab_ret (v := none) de_M_body_29 rfl ⟨rfl, _, rfl, md_tf_put _ _ _, mt_put hbs x⟩
set_option maxHeartbeats 1000000 in
set_option maxRecDepth 10000 in
theorem ct_M_going_1 (l : Launch) (d : Nat) (nr : Nat) (h : Nat → Nat → Int32) (g : Nat → Nat → Int64) (rr : Nat → Option Nat) {n_ : Nat} (hMR : h 30 0 = nI n_) (hn5 : n_ ≤ 8) {cs : Nat → Nat} (hcs : ∀ k, k < n_ → h 33 k = nI (cs k) ∧ 1 ≤ cs k ∧ cs k < 4096) {bs : List Int32} (hbs : mt_ok h bs) (hln : bs.length ≤ 16) {j : Nat} (hj : j < n_) (hk : sp_kd (cs j) = 1) (x : Int32) : ab_C l am_M_going (d + 3) 0 0 [.ref 30, .int (nI j), .int x] (ab_S nr h g rr) (fun (r_ : Option Value) (M' : ab_Me) => r_ = some (.int (sp_go (1 : Int32) (nI j) x)) ∧ ∃ h', M' = ab_S nr h' g rr ∧ md_tf h h' ∧ mt_ok h' (bs ++ sp_gob (1 : Int32))) := by
  refine ab_C_of (by decide +kernel) rfl (Nat.le_of_ble_eq_true rfl) ?_
  refine ab_aload_n de_M_going_0 0 rfl ?_
  refine ab_aload_n de_M_going_1 0 rfl ?_
  refine ab_get (v := .ref 33) fl_M_20 rfl rfl de_M_going_2 ?_
  refine ab_iload_n de_M_going_5 1 rfl ?_
  refine ab_iald (v := h 33 j) rfl (ab_in (by omega) (by decide)) (ab_hv (ab_tn (n := j) (by omega))) de_M_going_6 ?_
  refine ab_top (v' := nI (cs j)) ((hcs j hj).1) ?_
  refine ab_cV (as := [.int (nI (cs j))]) (st := []) (ct_M_kindOf l _ nr h g rr (c := cs j) (hcs j hj).2.2 (hcs j hj).2.1) mo_M_kindOf mi_M_kindOf ml_M_110 rfl (by decide) rfl rfl rfl (Nat.le_of_ble_eq_true rfl) de_M_going_7 (fun v_ M_ hK_ hl_ hv_ => ?_)
  obtain ⟨rfl, hm_⟩ := hK_
  have hm_ := hm_.symm
  subst hm_
  change ab_G _ _ _ _ _ _ _ [(0, .ref 30), (1, .int (nI j)), (2, .int x)] [.int (nI (sp_kd (cs j)))] (ab_S nr h g rr) _
  refine ab_top (v' := (1 : Int32)) (by rw [hk]; rfl) ?_
  refine ab_istore_n (L' := [(3, .int (1 : Int32)), (0, .ref 30), (1, .int (nI j)), (2, .int x)]) de_M_going_10 (by decide) rfl ?_
  refine ab_iload_n de_M_going_11 3 rfl ?_
  refine ab_istore (L' := [(4, .int x), (3, .int (1 : Int32)), (0, .ref 30), (1, .int (nI j)), (2, .int x)]) de_M_going_12 (by decide) rfl ?_
  refine ab_iload_n de_M_going_14 1 rfl ?_
  refine ab_bipush (v := 7) de_M_going_15 rfl ?_
  refine ab_icmp_ne (tgt := 26) de_M_going_17 rfl (fun c_17_1 => ?_) (fun c_17_1 => ?_)
  · refine ab_iload_n de_M_going_26 1 rfl ?_
    refine ab_iconst (v := 2) de_M_going_27 rfl ?_
    refine ab_icmp_ne (tgt := 42) de_M_going_28 rfl (fun c_28_2 => ?_) (fun c_28_2 => ?_)
    · refine ab_iload_n de_M_going_42 1 rfl ?_
      refine ab_iconst (v := 1) de_M_going_43 rfl ?_
      refine ab_icmp_eq (tgt := 52) de_M_going_44 rfl (fun c_44_3 => ?_) (fun c_44_3 => ?_)
      · refine ab_aload_n de_M_going_52 2 rfl ?_
        refine ab_bipush (v := 20) de_M_going_53 rfl ?_
        refine ab_cV (as := [.int (20 : Int32)]) (st := []) (ct_M_body l _ nr h g rr (bs := bs) hbs (by (try simp only [List.length_append, List.length_cons, List.length_nil]); omega) (20 : Int32)) mo_M_body mi_M_body ml_M_290 rfl (by decide) rfl rfl rfl (Nat.le_of_ble_eq_true rfl) de_M_going_55 (fun v_ M_ hK_ hl_ hv_ => ?_)
        obtain ⟨rfl, h1_, rfl, tf1_, mt1_⟩ := hK_
        change ab_G _ _ _ _ _ _ _ [(4, .int x), (3, .int (1 : Int32)), (0, .ref 30), (1, .int (nI j)), (2, .int x)] [] (ab_S nr h1_ g rr) _
        have tt1_ : md_tf h h1_ := md_tf_tr (md_tf_rf h) tf1_
        refine ab_aload_n de_M_going_58 2 rfl ?_
        refine ab_bipush (v := 10) de_M_going_59 rfl ?_
        refine ab_cV (as := [.int (10 : Int32)]) (st := []) (ct_M_body l _ nr h1_ g rr (bs := (bs ++ [(20 : Int32)])) mt1_ (by (try simp only [List.length_append, List.length_cons, List.length_nil]); omega) (10 : Int32)) mo_M_body mi_M_body ml_M_290 rfl (by decide) rfl rfl rfl (Nat.le_of_ble_eq_true rfl) de_M_going_61 (fun v_ M_ hK_ hl_ hv_ => ?_)
        obtain ⟨rfl, h2_, rfl, tf2_, mt2_⟩ := hK_
        change ab_G _ _ _ _ _ _ _ [(4, .int x), (3, .int (1 : Int32)), (0, .ref 30), (1, .int (nI j)), (2, .int x)] [] (ab_S nr h2_ g rr) _
        have tt2_ : md_tf h h2_ := md_tf_tr (tt1_) tf2_
        refine ab_iload de_M_going_64 0 rfl ?_
        refine ab_iload_n de_M_going_66 3 rfl ?_
        refine ab_iadd de_M_going_67 ?_
        refine ab_istore (L' := [(5, .int (x + (nI j))), (4, .int x), (3, .int (1 : Int32)), (0, .ref 30), (1, .int (nI j)), (2, .int x)]) de_M_going_68 (by decide) rfl ?_
        refine ab_iload_n de_M_going_70 2 rfl ?_
        refine ab_iconst (v := 1) de_M_going_71 rfl ?_
        refine ab_icmp_eq (tgt := 80) de_M_going_72 rfl (fun c_72_4 => ?_) (fun c_72_4 => ?_)
        · refine ab_iload de_M_going_80 0 rfl ?_
          refine ab_iconst (v := 3) de_M_going_82 rfl ?_
          refine ab_imul de_M_going_83 ?_
          refine ab_istore (L' := [(5, .int ((x + (nI j)) * (3 : Int32))), (4, .int x), (3, .int (1 : Int32)), (0, .ref 30), (1, .int (nI j)), (2, .int x)]) de_M_going_84 (by decide) rfl ?_
          refine ab_iload_n de_M_going_86 2 rfl ?_
          refine ab_bipush (v := 7) de_M_going_87 rfl ?_
          refine ab_icmp_ne (tgt := 100) de_M_going_89 rfl (fun c_89_5 => ?_) (fun c_89_5 => ?_)
          · refine ab_iload de_M_going_100 0 rfl ?_
            exact ab_ret (v := some (.int ((x + (nI j)) * (3 : Int32)))) de_M_going_102 ⟨_, rfl⟩ ⟨congrArg (fun z => some (Value.int z)) (by rfl), h2_, rfl, tt2_, by have z_ := mt2_; (try simp only [List.append_assoc] at z_); exact z_⟩
          · exact absurd c_89_5 (by decide)
        · exact absurd rfl c_72_4
      · exact absurd rfl c_44_3
    · exact absurd c_28_2 (by decide)
  · exact absurd c_17_1 (by decide)
set_option maxHeartbeats 1000000 in
set_option maxRecDepth 10000 in
theorem ct_M_letting_1 (l : Launch) (d : Nat) (nr : Nat) (h : Nat → Nat → Int32) (g : Nat → Nat → Int64) (rr : Nat → Option Nat) {n_ : Nat} (hMR : h 30 0 = nI n_) (hn5 : n_ ≤ 8) {cs : Nat → Nat} (hcs : ∀ k, k < n_ → h 33 k = nI (cs k) ∧ 1 ≤ cs k ∧ cs k < 4096) {bs : List Int32} (hbs : mt_ok h bs) (hln : bs.length ≤ 14) {j : Nat} (hj : j < n_) (hk : sp_kd (cs j) = 1) (x : Int32) : ab_C l am_M_letting (d + 4) 0 0 [.ref 30, .int (nI j), .int x] (ab_S nr h g rr) (fun (r_ : Option Value) (M' : ab_Me) => r_ = some (.int (sp_le (1 : Int32) (nI j) (nI (sp_pr (cs j))) x)) ∧ ∃ h', M' = ab_S nr h' g rr ∧ md_tf h h' ∧ mt_ok h' (bs ++ sp_leb (1 : Int32))) := by
  refine ab_C_of (by decide +kernel) rfl (Nat.le_of_ble_eq_true rfl) ?_
  refine ab_aload_n de_M_letting_0 0 rfl ?_
  refine ab_aload_n de_M_letting_1 0 rfl ?_
  refine ab_get (v := .ref 33) fl_M_20 rfl rfl de_M_letting_2 ?_
  refine ab_iload_n de_M_letting_5 1 rfl ?_
  refine ab_iald (v := h 33 j) rfl (ab_in (by omega) (by decide)) (ab_hv (ab_tn (n := j) (by omega))) de_M_letting_6 ?_
  refine ab_top (v' := nI (cs j)) ((hcs j hj).1) ?_
  refine ab_cV (as := [.int (nI (cs j))]) (st := []) (ct_M_kindOf l _ nr h g rr (c := cs j) (hcs j hj).2.2 (hcs j hj).2.1) mo_M_kindOf mi_M_kindOf ml_M_110 rfl (by decide) rfl rfl rfl (Nat.le_of_ble_eq_true rfl) de_M_letting_7 (fun v_ M_ hK_ hl_ hv_ => ?_)
  obtain ⟨rfl, hm_⟩ := hK_
  have hm_ := hm_.symm
  subst hm_
  change ab_G _ _ _ _ _ _ _ [(0, .ref 30), (1, .int (nI j)), (2, .int x)] [.int (nI (sp_kd (cs j)))] (ab_S nr h g rr) _
  refine ab_top (v' := (1 : Int32)) (by rw [hk]; rfl) ?_
  refine ab_istore_n (L' := [(3, .int (1 : Int32)), (0, .ref 30), (1, .int (nI j)), (2, .int x)]) de_M_letting_10 (by decide) rfl ?_
  refine ab_iload_n de_M_letting_11 0 rfl ?_
  refine ab_iconst (v := 2) de_M_letting_12 rfl ?_
  refine ab_icmp_ne (tgt := 22) de_M_letting_13 rfl (fun c_13_1 => ?_) (fun c_13_1 => ?_)
  · refine ab_iload_n de_M_letting_22 0 rfl ?_
    refine ab_iconst (v := 3) de_M_letting_23 rfl ?_
    refine ab_icmp_ne (tgt := 33) de_M_letting_24 rfl (fun c_24_2 => ?_) (fun c_24_2 => ?_)
    · refine ab_iload_n de_M_letting_33 0 rfl ?_
      refine ab_iconst (v := 5) de_M_letting_34 rfl ?_
      refine ab_icmp_ne (tgt := 44) de_M_letting_35 rfl (fun c_35_3 => ?_) (fun c_35_3 => ?_)
      · refine ab_aload_n de_M_letting_44 1 rfl ?_
        refine ab_bipush (v := 11) de_M_letting_45 rfl ?_
        refine ab_cV (as := [.int (11 : Int32)]) (st := []) (ct_M_body l _ nr h g rr (bs := bs) hbs (by (try simp only [List.length_append, List.length_cons, List.length_nil]); omega) (11 : Int32)) mo_M_body mi_M_body ml_M_290 rfl (by decide) rfl rfl rfl (Nat.le_of_ble_eq_true rfl) de_M_letting_47 (fun v_ M_ hK_ hl_ hv_ => ?_)
        obtain ⟨rfl, h1_, rfl, tf1_, mt1_⟩ := hK_
        change ab_G _ _ _ _ _ _ _ [(3, .int (1 : Int32)), (0, .ref 30), (1, .int (nI j)), (2, .int x)] [] (ab_S nr h1_ g rr) _
        have tt1_ : md_tf h h1_ := md_tf_tr (md_tf_rf h) tf1_
        refine ab_aload_n de_M_letting_50 1 rfl ?_
        refine ab_iload_n de_M_letting_51 2 rfl ?_
        refine ab_iload_n de_M_letting_52 3 rfl ?_
        refine ab_cV (as := [.int (nI j), .int x]) (st := []) (ct_M_going_1 l _ nr h1_ g rr ((tt1_.2 0 (by decide)).trans hMR) hn5 (fun y hy => ⟨(congrFun (tt1_.1 33 (by decide) (by decide)) y).trans (hcs y hy).1, (hcs y hy).2⟩) (bs := (bs ++ [(11 : Int32)])) mt1_ (by (try simp only [List.length_append, List.length_cons, List.length_nil]); have l1_ := sp_leb_le (1 : Int32); omega) hj hk (x)) mo_M_going mi_M_going ml_M_293 rfl (by decide) rfl rfl rfl (Nat.le_of_ble_eq_true rfl) de_M_letting_53 (fun v_ M_ hK_ hl_ hv_ => ?_)
        obtain ⟨rfl, h2_, rfl, tf2_, mt2_⟩ := hK_
        change ab_G _ _ _ _ _ _ _ [(3, .int (1 : Int32)), (0, .ref 30), (1, .int (nI j)), (2, .int x)] [.int (sp_go (1 : Int32) (nI j) (x))] (ab_S nr h2_ g rr) _
        have tt2_ : md_tf h h2_ := md_tf_tr (tt1_) tf2_
        refine ab_iconst (v := 2) de_M_letting_56 rfl ?_
        refine ab_imul de_M_letting_57 ?_
        refine ab_istore (L' := [(4, .int ((sp_go (1 : Int32) (nI j) (x)) * (2 : Int32))), (3, .int (1 : Int32)), (0, .ref 30), (1, .int (nI j)), (2, .int x)]) de_M_letting_58 (by decide) rfl ?_
        refine ab_iload_n de_M_letting_60 1 rfl ?_
        refine ab_iconst (v := 2) de_M_letting_61 rfl ?_
        refine ab_icmp_ne (tgt := 81) de_M_letting_62 rfl (fun c_62_4 => ?_) (fun c_62_4 => ?_)
        · refine ab_iload_n de_M_letting_81 1 rfl ?_
          refine ab_iconst (v := 3) de_M_letting_82 rfl ?_
          refine ab_icmp_ne (tgt := 92) de_M_letting_83 rfl (fun c_83_5 => ?_) (fun c_83_5 => ?_)
          · refine ab_iload_n de_M_letting_92 1 rfl ?_
            refine ab_iconst (v := 5) de_M_letting_93 rfl ?_
            refine ab_icmp_ne (tgt := 105) de_M_letting_94 rfl (fun c_94_6 => ?_) (fun c_94_6 => ?_)
            · refine ab_iload de_M_letting_105 0 rfl ?_
              exact ab_ret (v := some (.int ((sp_go (1 : Int32) (nI j) (x)) * (2 : Int32)))) de_M_letting_107 ⟨_, rfl⟩ ⟨congrArg (fun z => some (Value.int z)) (by rfl), h2_, rfl, tt2_, by have z_ := mt2_; (try simp only [List.append_assoc] at z_); exact z_⟩
            · exact absurd c_94_6 (by decide)
          · exact absurd c_83_5 (by decide)
        · exact absurd c_62_4 (by decide)
      · exact absurd c_35_3 (by decide)
    · exact absurd c_24_2 (by decide)
  · exact absurd c_13_1 (by decide)
set_option maxHeartbeats 1000000 in
set_option maxRecDepth 10000 in
theorem ct_M_ending_1 (l : Launch) (d : Nat) (nr : Nat) (h : Nat → Nat → Int32) (g : Nat → Nat → Int64) (rr : Nat → Option Nat) {n_ : Nat} (hMR : h 30 0 = nI n_) (hn5 : n_ ≤ 8) {cs : Nat → Nat} (hcs : ∀ k, k < n_ → h 33 k = nI (cs k) ∧ 1 ≤ cs k ∧ cs k < 4096) {bs : List Int32} (hbs : mt_ok h bs) (hln : bs.length ≤ 9) {j : Nat} (hj : j < n_) (hk : sp_kd (cs j) = 1) (x : Int32) : ab_C l am_M_ending (d + 5) 0 0 [.ref 30, .int (nI j), .int x] (ab_S nr h g rr) (fun (r_ : Option Value) (M' : ab_Me) => r_ = some (.int (sp_ed (1 : Int32) (nI j) (nI (sp_pr (cs j))) x)) ∧ ∃ h', M' = ab_S nr h' g rr ∧ md_tf h h' ∧ mt_ok h' (bs ++ sp_edb (1 : Int32))) := by
  refine ab_C_of (by decide +kernel) rfl (Nat.le_of_ble_eq_true rfl) ?_
  refine ab_aload_n de_M_ending_0 0 rfl ?_
  refine ab_aload_n de_M_ending_1 0 rfl ?_
  refine ab_get (v := .ref 33) fl_M_20 rfl rfl de_M_ending_2 ?_
  refine ab_iload_n de_M_ending_5 1 rfl ?_
  refine ab_iald (v := h 33 j) rfl (ab_in (by omega) (by decide)) (ab_hv (ab_tn (n := j) (by omega))) de_M_ending_6 ?_
  refine ab_top (v' := nI (cs j)) ((hcs j hj).1) ?_
  refine ab_cV (as := [.int (nI (cs j))]) (st := []) (ct_M_kindOf l _ nr h g rr (c := cs j) (hcs j hj).2.2 (hcs j hj).2.1) mo_M_kindOf mi_M_kindOf ml_M_110 rfl (by decide) rfl rfl rfl (Nat.le_of_ble_eq_true rfl) de_M_ending_7 (fun v_ M_ hK_ hl_ hv_ => ?_)
  obtain ⟨rfl, hm_⟩ := hK_
  have hm_ := hm_.symm
  subst hm_
  change ab_G _ _ _ _ _ _ _ [(0, .ref 30), (1, .int (nI j)), (2, .int x)] [.int (nI (sp_kd (cs j)))] (ab_S nr h g rr) _
  refine ab_top (v' := (1 : Int32)) (by rw [hk]; rfl) ?_
  refine ab_istore_n (L' := [(3, .int (1 : Int32)), (0, .ref 30), (1, .int (nI j)), (2, .int x)]) de_M_ending_10 (by decide) rfl ?_
  refine ab_aload_n de_M_ending_11 1 rfl ?_
  refine ab_aload_n de_M_ending_12 1 rfl ?_
  refine ab_get (v := .ref 33) fl_M_20 rfl rfl de_M_ending_13 ?_
  refine ab_iload_n de_M_ending_16 2 rfl ?_
  refine ab_iald (v := h 33 j) rfl (ab_in (by omega) (by decide)) (ab_hv (ab_tn (n := j) (by omega))) de_M_ending_17 ?_
  refine ab_top (v' := nI (cs j)) ((hcs j hj).1) ?_
  refine ab_cV (as := [.int (nI (cs j))]) (st := []) (ct_M_priceOf l _ nr h g rr (c := cs j) (hcs j hj).2.2) mo_M_priceOf mi_M_priceOf ml_M_116 rfl (by decide) rfl rfl rfl (Nat.le_of_ble_eq_true rfl) de_M_ending_18 (fun v_ M_ hK_ hl_ hv_ => ?_)
  obtain ⟨rfl, hm_⟩ := hK_
  have hm_ := hm_.symm
  subst hm_
  change ab_G _ _ _ _ _ _ _ [(3, .int (1 : Int32)), (0, .ref 30), (1, .int (nI j)), (2, .int x)] [.int (nI (sp_pr (cs j)))] (ab_S nr h g rr) _
  refine ab_istore (L' := [(4, .int (nI (sp_pr (cs j)))), (3, .int (1 : Int32)), (0, .ref 30), (1, .int (nI j)), (2, .int x)]) de_M_ending_21 (by decide) rfl ?_
  refine ab_iload_n de_M_ending_23 4 rfl ?_
  refine ab_istore (L' := [(5, .int x), (4, .int (nI (sp_pr (cs j)))), (3, .int (1 : Int32)), (0, .ref 30), (1, .int (nI j)), (2, .int x)]) de_M_ending_24 (by decide) rfl ?_
  refine ab_iload_n de_M_ending_26 2 rfl ?_
  refine ab_iconst (v := 4) de_M_ending_27 rfl ?_
  refine ab_icmp_ne (tgt := 37) de_M_ending_28 rfl (fun c_28_1 => ?_) (fun c_28_1 => ?_)
  · refine ab_iload_n de_M_ending_37 2 rfl ?_
    refine ab_bipush (v := 6) de_M_ending_38 rfl ?_
    refine ab_icmp_ne (tgt := 49) de_M_ending_40 rfl (fun c_40_2 => ?_) (fun c_40_2 => ?_)
    · refine ab_iload_n de_M_ending_49 2 rfl ?_
      refine ab_bipush (v := 7) de_M_ending_50 rfl ?_
      refine ab_icmp_ne (tgt := 67) de_M_ending_52 rfl (fun c_52_3 => ?_) (fun c_52_3 => ?_)
      · refine ab_aload_n de_M_ending_67 3 rfl ?_
        refine ab_bipush (v := 12) de_M_ending_68 rfl ?_
        refine ab_cV (as := [.int (12 : Int32)]) (st := []) (ct_M_body l _ nr h g rr (bs := bs) hbs (by (try simp only [List.length_append, List.length_cons, List.length_nil]); omega) (12 : Int32)) mo_M_body mi_M_body ml_M_290 rfl (by decide) rfl rfl rfl (Nat.le_of_ble_eq_true rfl) de_M_ending_70 (fun v_ M_ hK_ hl_ hv_ => ?_)
        obtain ⟨rfl, h1_, rfl, tf1_, mt1_⟩ := hK_
        change ab_G _ _ _ _ _ _ _ [(5, .int x), (4, .int (nI (sp_pr (cs j)))), (3, .int (1 : Int32)), (0, .ref 30), (1, .int (nI j)), (2, .int x)] [] (ab_S nr h1_ g rr) _
        have tt1_ : md_tf h h1_ := md_tf_tr (md_tf_rf h) tf1_
        refine ab_aload_n de_M_ending_73 3 rfl ?_
        refine ab_iload_n de_M_ending_74 4 rfl ?_
        refine ab_iload de_M_ending_75 0 rfl ?_
        refine ab_cV (as := [.int (nI j), .int x]) (st := []) (ct_M_letting_1 l _ nr h1_ g rr ((tt1_.2 0 (by decide)).trans hMR) hn5 (fun y hy => ⟨(congrFun (tt1_.1 33 (by decide) (by decide)) y).trans (hcs y hy).1, (hcs y hy).2⟩) (bs := (bs ++ [(12 : Int32)])) mt1_ (by (try simp only [List.length_append, List.length_cons, List.length_nil]); have l1_ := sp_leb_le (1 : Int32); omega) hj hk (x)) mo_M_letting mi_M_letting ml_M_296 rfl (by decide) rfl rfl rfl (Nat.le_of_ble_eq_true rfl) de_M_ending_77 (fun v_ M_ hK_ hl_ hv_ => ?_)
        obtain ⟨rfl, h2_, rfl, tf2_, mt2_⟩ := hK_
        change ab_G _ _ _ _ _ _ _ [(5, .int x), (4, .int (nI (sp_pr (cs j)))), (3, .int (1 : Int32)), (0, .ref 30), (1, .int (nI j)), (2, .int x)] [.int (sp_le (1 : Int32) (nI j) (nI (sp_pr (cs j))) (x))] (ab_S nr h2_ g rr) _
        have tt2_ : md_tf h h2_ := md_tf_tr (tt1_) tf2_
        refine ab_istore (L' := [(6, .int (sp_le (1 : Int32) (nI j) (nI (sp_pr (cs j))) (x))), (5, .int x), (4, .int (nI (sp_pr (cs j)))), (3, .int (1 : Int32)), (0, .ref 30), (1, .int (nI j)), (2, .int x)]) de_M_ending_80 (by decide) rfl ?_
        refine ab_iload de_M_ending_82 0 rfl ?_
        refine ab_aload_n de_M_ending_84 4 rfl ?_
        refine ab_iload_n de_M_ending_85 5 rfl ?_
        refine ab_iload de_M_ending_86 1 rfl ?_
        refine ab_iload de_M_ending_88 2 rfl ?_
        refine ab_isub de_M_ending_90 ?_
        refine ab_cV (as := [.int (nI j), .int (x - (nI (sp_pr (cs j))))]) (st := [.int (sp_le (1 : Int32) (nI j) (nI (sp_pr (cs j))) (x))]) (ct_M_going_1 l _ nr h2_ g rr ((tt2_.2 0 (by decide)).trans hMR) hn5 (fun y hy => ⟨(congrFun (tt2_.1 33 (by decide) (by decide)) y).trans (hcs y hy).1, (hcs y hy).2⟩) (bs := ((bs ++ [(12 : Int32)]) ++ sp_leb (1 : Int32))) mt2_ (by (try simp only [List.length_append, List.length_cons, List.length_nil]); have l1_ := sp_leb_le (1 : Int32); omega) hj hk (x - (nI (sp_pr (cs j))))) mo_M_going mi_M_going ml_M_293 rfl (by decide) rfl rfl rfl (Nat.le_of_ble_eq_true rfl) de_M_ending_91 (fun v_ M_ hK_ hl_ hv_ => ?_)
        obtain ⟨rfl, h3_, rfl, tf3_, mt3_⟩ := hK_
        change ab_G _ _ _ _ _ _ _ [(6, .int (sp_le (1 : Int32) (nI j) (nI (sp_pr (cs j))) (x))), (5, .int x), (4, .int (nI (sp_pr (cs j)))), (3, .int (1 : Int32)), (0, .ref 30), (1, .int (nI j)), (2, .int x)] [.int (sp_go (1 : Int32) (nI j) (x - (nI (sp_pr (cs j))))), .int (sp_le (1 : Int32) (nI j) (nI (sp_pr (cs j))) (x))] (ab_S nr h3_ g rr) _
        have tt3_ : md_tf h h3_ := md_tf_tr (tt2_) tf3_
        refine ab_ixor de_M_ending_94 ?_
        refine ab_istore (L' := [(6, .int ((sp_le (1 : Int32) (nI j) (nI (sp_pr (cs j))) (x)) ^^^ (sp_go (1 : Int32) (nI j) (x - (nI (sp_pr (cs j))))))), (5, .int x), (4, .int (nI (sp_pr (cs j)))), (3, .int (1 : Int32)), (0, .ref 30), (1, .int (nI j)), (2, .int x)]) de_M_ending_95 (by decide) rfl ?_
        refine ab_iload_n de_M_ending_97 3 rfl ?_
        refine ab_iconst (v := 4) de_M_ending_98 rfl ?_
        refine ab_icmp_ne (tgt := 109) de_M_ending_99 rfl (fun c_99_4 => ?_) (fun c_99_4 => ?_)
        · refine ab_iload_n de_M_ending_109 3 rfl ?_
          refine ab_bipush (v := 6) de_M_ending_110 rfl ?_
          refine ab_icmp_ne (tgt := 122) de_M_ending_112 rfl (fun c_112_5 => ?_) (fun c_112_5 => ?_)
          · refine ab_iload de_M_ending_122 0 rfl ?_
            exact ab_ret (v := some (.int ((sp_le (1 : Int32) (nI j) (nI (sp_pr (cs j))) (x)) ^^^ (sp_go (1 : Int32) (nI j) (x - (nI (sp_pr (cs j)))))))) de_M_ending_124 ⟨_, rfl⟩ ⟨congrArg (fun z => some (Value.int z)) (by rfl), h3_, rfl, tt3_, by have z_ := mt3_; (try simp only [List.append_assoc] at z_); exact z_⟩
          · exact absurd c_112_5 (by decide)
        · exact absurd c_99_4 (by decide)
      · exact absurd c_52_3 (by decide)
    · exact absurd c_40_2 (by decide)
  · exact absurd c_28_1 (by decide)
set_option maxHeartbeats 1000000 in
set_option maxRecDepth 10000 in
theorem ct_M_going_2 (l : Launch) (d : Nat) (nr : Nat) (h : Nat → Nat → Int32) (g : Nat → Nat → Int64) (rr : Nat → Option Nat) {n_ : Nat} (hMR : h 30 0 = nI n_) (hn5 : n_ ≤ 8) {cs : Nat → Nat} (hcs : ∀ k, k < n_ → h 33 k = nI (cs k) ∧ 1 ≤ cs k ∧ cs k < 4096) {bs : List Int32} (hbs : mt_ok h bs) (hln : bs.length ≤ 16) {j : Nat} (hj : j < n_) (hk : sp_kd (cs j) = 2) (x : Int32) : ab_C l am_M_going (d + 3) 0 0 [.ref 30, .int (nI j), .int x] (ab_S nr h g rr) (fun (r_ : Option Value) (M' : ab_Me) => r_ = some (.int (sp_go (2 : Int32) (nI j) x)) ∧ ∃ h', M' = ab_S nr h' g rr ∧ md_tf h h' ∧ mt_ok h' (bs ++ sp_gob (2 : Int32))) := by
  refine ab_C_of (by decide +kernel) rfl (Nat.le_of_ble_eq_true rfl) ?_
  refine ab_aload_n de_M_going_0 0 rfl ?_
  refine ab_aload_n de_M_going_1 0 rfl ?_
  refine ab_get (v := .ref 33) fl_M_20 rfl rfl de_M_going_2 ?_
  refine ab_iload_n de_M_going_5 1 rfl ?_
  refine ab_iald (v := h 33 j) rfl (ab_in (by omega) (by decide)) (ab_hv (ab_tn (n := j) (by omega))) de_M_going_6 ?_
  refine ab_top (v' := nI (cs j)) ((hcs j hj).1) ?_
  refine ab_cV (as := [.int (nI (cs j))]) (st := []) (ct_M_kindOf l _ nr h g rr (c := cs j) (hcs j hj).2.2 (hcs j hj).2.1) mo_M_kindOf mi_M_kindOf ml_M_110 rfl (by decide) rfl rfl rfl (Nat.le_of_ble_eq_true rfl) de_M_going_7 (fun v_ M_ hK_ hl_ hv_ => ?_)
  obtain ⟨rfl, hm_⟩ := hK_
  have hm_ := hm_.symm
  subst hm_
  change ab_G _ _ _ _ _ _ _ [(0, .ref 30), (1, .int (nI j)), (2, .int x)] [.int (nI (sp_kd (cs j)))] (ab_S nr h g rr) _
  refine ab_top (v' := (2 : Int32)) (by rw [hk]; rfl) ?_
  refine ab_istore_n (L' := [(3, .int (2 : Int32)), (0, .ref 30), (1, .int (nI j)), (2, .int x)]) de_M_going_10 (by decide) rfl ?_
  refine ab_iload_n de_M_going_11 3 rfl ?_
  refine ab_istore (L' := [(4, .int x), (3, .int (2 : Int32)), (0, .ref 30), (1, .int (nI j)), (2, .int x)]) de_M_going_12 (by decide) rfl ?_
  refine ab_iload_n de_M_going_14 1 rfl ?_
  refine ab_bipush (v := 7) de_M_going_15 rfl ?_
  refine ab_icmp_ne (tgt := 26) de_M_going_17 rfl (fun c_17_1 => ?_) (fun c_17_1 => ?_)
  · refine ab_iload_n de_M_going_26 1 rfl ?_
    refine ab_iconst (v := 2) de_M_going_27 rfl ?_
    refine ab_icmp_ne (tgt := 42) de_M_going_28 rfl (fun c_28_2 => ?_) (fun c_28_2 => ?_)
    · exact absurd rfl c_28_2
    · refine ab_aload_n de_M_going_31 2 rfl ?_
      refine ab_bipush (v := 30) de_M_going_32 rfl ?_
      refine ab_cV (as := [.int (30 : Int32)]) (st := []) (ct_M_body l _ nr h g rr (bs := bs) hbs (by (try simp only [List.length_append, List.length_cons, List.length_nil]); omega) (30 : Int32)) mo_M_body mi_M_body ml_M_290 rfl (by decide) rfl rfl rfl (Nat.le_of_ble_eq_true rfl) de_M_going_34 (fun v_ M_ hK_ hl_ hv_ => ?_)
      obtain ⟨rfl, h1_, rfl, tf1_, mt1_⟩ := hK_
      change ab_G _ _ _ _ _ _ _ [(4, .int x), (3, .int (2 : Int32)), (0, .ref 30), (1, .int (nI j)), (2, .int x)] [] (ab_S nr h1_ g rr) _
      have tt1_ : md_tf h h1_ := md_tf_tr (md_tf_rf h) tf1_
      refine ab_iload_n de_M_going_37 4 rfl ?_
      refine ab_iconst (v := 1) de_M_going_38 rfl ?_
      refine ab_iadd de_M_going_39 ?_
      refine ab_istore (L' := [(4, .int (x + (1 : Int32))), (3, .int (2 : Int32)), (0, .ref 30), (1, .int (nI j)), (2, .int x)]) de_M_going_40 (by decide) rfl ?_
      refine ab_iload_n de_M_going_42 1 rfl ?_
      refine ab_iconst (v := 1) de_M_going_43 rfl ?_
      refine ab_icmp_eq (tgt := 52) de_M_going_44 rfl (fun c_44_3 => ?_) (fun c_44_3 => ?_)
      · exact absurd c_44_3 (by decide)
      · refine ab_iload_n de_M_going_47 1 rfl ?_
        refine ab_iconst (v := 2) de_M_going_48 rfl ?_
        refine ab_icmp_ne (tgt := 58) de_M_going_49 rfl (fun c_49_4 => ?_) (fun c_49_4 => ?_)
        · exact absurd rfl c_49_4
        · refine ab_aload_n de_M_going_52 2 rfl ?_
          refine ab_bipush (v := 20) de_M_going_53 rfl ?_
          refine ab_cV (as := [.int (20 : Int32)]) (st := []) (ct_M_body l _ nr h1_ g rr (bs := (bs ++ [(30 : Int32)])) mt1_ (by (try simp only [List.length_append, List.length_cons, List.length_nil]); omega) (20 : Int32)) mo_M_body mi_M_body ml_M_290 rfl (by decide) rfl rfl rfl (Nat.le_of_ble_eq_true rfl) de_M_going_55 (fun v_ M_ hK_ hl_ hv_ => ?_)
          obtain ⟨rfl, h2_, rfl, tf2_, mt2_⟩ := hK_
          change ab_G _ _ _ _ _ _ _ [(4, .int (x + (1 : Int32))), (3, .int (2 : Int32)), (0, .ref 30), (1, .int (nI j)), (2, .int x)] [] (ab_S nr h2_ g rr) _
          have tt2_ : md_tf h h2_ := md_tf_tr (tt1_) tf2_
          refine ab_aload_n de_M_going_58 2 rfl ?_
          refine ab_bipush (v := 10) de_M_going_59 rfl ?_
          refine ab_cV (as := [.int (10 : Int32)]) (st := []) (ct_M_body l _ nr h2_ g rr (bs := ((bs ++ [(30 : Int32)]) ++ [(20 : Int32)])) mt2_ (by (try simp only [List.length_append, List.length_cons, List.length_nil]); omega) (10 : Int32)) mo_M_body mi_M_body ml_M_290 rfl (by decide) rfl rfl rfl (Nat.le_of_ble_eq_true rfl) de_M_going_61 (fun v_ M_ hK_ hl_ hv_ => ?_)
          obtain ⟨rfl, h3_, rfl, tf3_, mt3_⟩ := hK_
          change ab_G _ _ _ _ _ _ _ [(4, .int (x + (1 : Int32))), (3, .int (2 : Int32)), (0, .ref 30), (1, .int (nI j)), (2, .int x)] [] (ab_S nr h3_ g rr) _
          have tt3_ : md_tf h h3_ := md_tf_tr (tt2_) tf3_
          refine ab_iload de_M_going_64 0 rfl ?_
          refine ab_iload_n de_M_going_66 3 rfl ?_
          refine ab_iadd de_M_going_67 ?_
          refine ab_istore (L' := [(5, .int ((x + (1 : Int32)) + (nI j))), (4, .int (x + (1 : Int32))), (3, .int (2 : Int32)), (0, .ref 30), (1, .int (nI j)), (2, .int x)]) de_M_going_68 (by decide) rfl ?_
          refine ab_iload_n de_M_going_70 2 rfl ?_
          refine ab_iconst (v := 1) de_M_going_71 rfl ?_
          refine ab_icmp_eq (tgt := 80) de_M_going_72 rfl (fun c_72_5 => ?_) (fun c_72_5 => ?_)
          · exact absurd c_72_5 (by decide)
          · refine ab_iload_n de_M_going_75 2 rfl ?_
            refine ab_iconst (v := 2) de_M_going_76 rfl ?_
            refine ab_icmp_ne (tgt := 86) de_M_going_77 rfl (fun c_77_6 => ?_) (fun c_77_6 => ?_)
            · exact absurd rfl c_77_6
            · refine ab_iload de_M_going_80 0 rfl ?_
              refine ab_iconst (v := 3) de_M_going_82 rfl ?_
              refine ab_imul de_M_going_83 ?_
              refine ab_istore (L' := [(5, .int (((x + (1 : Int32)) + (nI j)) * (3 : Int32))), (4, .int (x + (1 : Int32))), (3, .int (2 : Int32)), (0, .ref 30), (1, .int (nI j)), (2, .int x)]) de_M_going_84 (by decide) rfl ?_
              refine ab_iload_n de_M_going_86 2 rfl ?_
              refine ab_bipush (v := 7) de_M_going_87 rfl ?_
              refine ab_icmp_ne (tgt := 100) de_M_going_89 rfl (fun c_89_7 => ?_) (fun c_89_7 => ?_)
              · refine ab_iload de_M_going_100 0 rfl ?_
                exact ab_ret (v := some (.int (((x + (1 : Int32)) + (nI j)) * (3 : Int32)))) de_M_going_102 ⟨_, rfl⟩ ⟨congrArg (fun z => some (Value.int z)) (by rfl), h3_, rfl, tt3_, by have z_ := mt3_; (try simp only [List.append_assoc] at z_); exact z_⟩
              · exact absurd c_89_7 (by decide)
  · exact absurd c_17_1 (by decide)
set_option maxHeartbeats 1000000 in
set_option maxRecDepth 10000 in
theorem ct_M_letting_2 (l : Launch) (d : Nat) (nr : Nat) (h : Nat → Nat → Int32) (g : Nat → Nat → Int64) (rr : Nat → Option Nat) {n_ : Nat} (hMR : h 30 0 = nI n_) (hn5 : n_ ≤ 8) {cs : Nat → Nat} (hcs : ∀ k, k < n_ → h 33 k = nI (cs k) ∧ 1 ≤ cs k ∧ cs k < 4096) {bs : List Int32} (hbs : mt_ok h bs) (hln : bs.length ≤ 14) {j : Nat} (hj : j < n_) (hk : sp_kd (cs j) = 2) (x : Int32) : ab_C l am_M_letting (d + 4) 0 0 [.ref 30, .int (nI j), .int x] (ab_S nr h g rr) (fun (r_ : Option Value) (M' : ab_Me) => r_ = some (.int (sp_le (2 : Int32) (nI j) (nI (sp_pr (cs j))) x)) ∧ ∃ h', M' = ab_S nr h' g rr ∧ md_tf h h' ∧ mt_ok h' (bs ++ sp_leb (2 : Int32))) := by
  refine ab_C_of (by decide +kernel) rfl (Nat.le_of_ble_eq_true rfl) ?_
  refine ab_aload_n de_M_letting_0 0 rfl ?_
  refine ab_aload_n de_M_letting_1 0 rfl ?_
  refine ab_get (v := .ref 33) fl_M_20 rfl rfl de_M_letting_2 ?_
  refine ab_iload_n de_M_letting_5 1 rfl ?_
  refine ab_iald (v := h 33 j) rfl (ab_in (by omega) (by decide)) (ab_hv (ab_tn (n := j) (by omega))) de_M_letting_6 ?_
  refine ab_top (v' := nI (cs j)) ((hcs j hj).1) ?_
  refine ab_cV (as := [.int (nI (cs j))]) (st := []) (ct_M_kindOf l _ nr h g rr (c := cs j) (hcs j hj).2.2 (hcs j hj).2.1) mo_M_kindOf mi_M_kindOf ml_M_110 rfl (by decide) rfl rfl rfl (Nat.le_of_ble_eq_true rfl) de_M_letting_7 (fun v_ M_ hK_ hl_ hv_ => ?_)
  obtain ⟨rfl, hm_⟩ := hK_
  have hm_ := hm_.symm
  subst hm_
  change ab_G _ _ _ _ _ _ _ [(0, .ref 30), (1, .int (nI j)), (2, .int x)] [.int (nI (sp_kd (cs j)))] (ab_S nr h g rr) _
  refine ab_top (v' := (2 : Int32)) (by rw [hk]; rfl) ?_
  refine ab_istore_n (L' := [(3, .int (2 : Int32)), (0, .ref 30), (1, .int (nI j)), (2, .int x)]) de_M_letting_10 (by decide) rfl ?_
  refine ab_iload_n de_M_letting_11 0 rfl ?_
  refine ab_iconst (v := 2) de_M_letting_12 rfl ?_
  refine ab_icmp_ne (tgt := 22) de_M_letting_13 rfl (fun c_13_1 => ?_) (fun c_13_1 => ?_)
  · exact absurd rfl c_13_1
  · refine ab_aload_n de_M_letting_16 1 rfl ?_
    refine ab_bipush (v := 31) de_M_letting_17 rfl ?_
    refine ab_cV (as := [.int (31 : Int32)]) (st := []) (ct_M_body l _ nr h g rr (bs := bs) hbs (by (try simp only [List.length_append, List.length_cons, List.length_nil]); omega) (31 : Int32)) mo_M_body mi_M_body ml_M_290 rfl (by decide) rfl rfl rfl (Nat.le_of_ble_eq_true rfl) de_M_letting_19 (fun v_ M_ hK_ hl_ hv_ => ?_)
    obtain ⟨rfl, h1_, rfl, tf1_, mt1_⟩ := hK_
    change ab_G _ _ _ _ _ _ _ [(3, .int (2 : Int32)), (0, .ref 30), (1, .int (nI j)), (2, .int x)] [] (ab_S nr h1_ g rr) _
    have tt1_ : md_tf h h1_ := md_tf_tr (md_tf_rf h) tf1_
    refine ab_iload_n de_M_letting_22 0 rfl ?_
    refine ab_iconst (v := 3) de_M_letting_23 rfl ?_
    refine ab_icmp_ne (tgt := 33) de_M_letting_24 rfl (fun c_24_2 => ?_) (fun c_24_2 => ?_)
    · refine ab_iload_n de_M_letting_33 0 rfl ?_
      refine ab_iconst (v := 5) de_M_letting_34 rfl ?_
      refine ab_icmp_ne (tgt := 44) de_M_letting_35 rfl (fun c_35_3 => ?_) (fun c_35_3 => ?_)
      · refine ab_aload_n de_M_letting_44 1 rfl ?_
        refine ab_bipush (v := 11) de_M_letting_45 rfl ?_
        refine ab_cV (as := [.int (11 : Int32)]) (st := []) (ct_M_body l _ nr h1_ g rr (bs := (bs ++ [(31 : Int32)])) mt1_ (by (try simp only [List.length_append, List.length_cons, List.length_nil]); omega) (11 : Int32)) mo_M_body mi_M_body ml_M_290 rfl (by decide) rfl rfl rfl (Nat.le_of_ble_eq_true rfl) de_M_letting_47 (fun v_ M_ hK_ hl_ hv_ => ?_)
        obtain ⟨rfl, h2_, rfl, tf2_, mt2_⟩ := hK_
        change ab_G _ _ _ _ _ _ _ [(3, .int (2 : Int32)), (0, .ref 30), (1, .int (nI j)), (2, .int x)] [] (ab_S nr h2_ g rr) _
        have tt2_ : md_tf h h2_ := md_tf_tr (tt1_) tf2_
        refine ab_aload_n de_M_letting_50 1 rfl ?_
        refine ab_iload_n de_M_letting_51 2 rfl ?_
        refine ab_iload_n de_M_letting_52 3 rfl ?_
        refine ab_cV (as := [.int (nI j), .int x]) (st := []) (ct_M_going_2 l _ nr h2_ g rr ((tt2_.2 0 (by decide)).trans hMR) hn5 (fun y hy => ⟨(congrFun (tt2_.1 33 (by decide) (by decide)) y).trans (hcs y hy).1, (hcs y hy).2⟩) (bs := ((bs ++ [(31 : Int32)]) ++ [(11 : Int32)])) mt2_ (by (try simp only [List.length_append, List.length_cons, List.length_nil]); have l1_ := sp_leb_le (2 : Int32); omega) hj hk (x)) mo_M_going mi_M_going ml_M_293 rfl (by decide) rfl rfl rfl (Nat.le_of_ble_eq_true rfl) de_M_letting_53 (fun v_ M_ hK_ hl_ hv_ => ?_)
        obtain ⟨rfl, h3_, rfl, tf3_, mt3_⟩ := hK_
        change ab_G _ _ _ _ _ _ _ [(3, .int (2 : Int32)), (0, .ref 30), (1, .int (nI j)), (2, .int x)] [.int (sp_go (2 : Int32) (nI j) (x))] (ab_S nr h3_ g rr) _
        have tt3_ : md_tf h h3_ := md_tf_tr (tt2_) tf3_
        refine ab_iconst (v := 2) de_M_letting_56 rfl ?_
        refine ab_imul de_M_letting_57 ?_
        refine ab_istore (L' := [(4, .int ((sp_go (2 : Int32) (nI j) (x)) * (2 : Int32))), (3, .int (2 : Int32)), (0, .ref 30), (1, .int (nI j)), (2, .int x)]) de_M_letting_58 (by decide) rfl ?_
        refine ab_iload_n de_M_letting_60 1 rfl ?_
        refine ab_iconst (v := 2) de_M_letting_61 rfl ?_
        refine ab_icmp_ne (tgt := 81) de_M_letting_62 rfl (fun c_62_4 => ?_) (fun c_62_4 => ?_)
        · exact absurd rfl c_62_4
        · refine ab_iload de_M_letting_65 0 rfl ?_
          refine ab_aload_n de_M_letting_67 2 rfl ?_
          refine ab_aload_n de_M_letting_68 2 rfl ?_
          refine ab_get (v := .ref 33) fl_M_20 rfl rfl de_M_letting_69 ?_
          refine ab_iload_n de_M_letting_72 3 rfl ?_
          refine ab_iald (v := h3_ 33 j) rfl (ab_in (by omega) (by decide)) (ab_hv (ab_tn (n := j) (by omega))) de_M_letting_73 ?_
          refine ab_top (v' := nI (cs j)) ((congrFun (tt3_.1 33 (by decide) (by decide)) j).trans (hcs j hj).1) ?_
          refine ab_cV (as := [.int (nI (cs j))]) (st := [.int ((sp_go (2 : Int32) (nI j) (x)) * (2 : Int32))]) (ct_M_priceOf l _ nr h3_ g rr (c := cs j) (hcs j hj).2.2) mo_M_priceOf mi_M_priceOf ml_M_116 rfl (by decide) rfl rfl rfl (Nat.le_of_ble_eq_true rfl) de_M_letting_74 (fun v_ M_ hK_ hl_ hv_ => ?_)
          obtain ⟨rfl, hm_⟩ := hK_
          have hm_ := hm_.symm
          subst hm_
          change ab_G _ _ _ _ _ _ _ [(4, .int ((sp_go (2 : Int32) (nI j) (x)) * (2 : Int32))), (3, .int (2 : Int32)), (0, .ref 30), (1, .int (nI j)), (2, .int x)] [.int (nI (sp_pr (cs j))), .int ((sp_go (2 : Int32) (nI j) (x)) * (2 : Int32))] (ab_S nr h3_ g rr) _
          refine ab_isub de_M_letting_77 ?_
          refine ab_goto (tgt := 107) de_M_letting_78 rfl ?_
          exact ab_ret (v := some (.int (((sp_go (2 : Int32) (nI j) (x)) * (2 : Int32)) - (nI (sp_pr (cs j)))))) de_M_letting_107 ⟨_, rfl⟩ ⟨congrArg (fun z => some (Value.int z)) (by rfl), h3_, rfl, tt3_, by have z_ := mt3_; (try simp only [List.append_assoc] at z_); exact z_⟩
      · exact absurd c_35_3 (by decide)
    · exact absurd c_24_2 (by decide)
set_option maxHeartbeats 1000000 in
set_option maxRecDepth 10000 in
theorem ct_M_ending_2 (l : Launch) (d : Nat) (nr : Nat) (h : Nat → Nat → Int32) (g : Nat → Nat → Int64) (rr : Nat → Option Nat) {n_ : Nat} (hMR : h 30 0 = nI n_) (hn5 : n_ ≤ 8) {cs : Nat → Nat} (hcs : ∀ k, k < n_ → h 33 k = nI (cs k) ∧ 1 ≤ cs k ∧ cs k < 4096) {bs : List Int32} (hbs : mt_ok h bs) (hln : bs.length ≤ 9) {j : Nat} (hj : j < n_) (hk : sp_kd (cs j) = 2) (x : Int32) : ab_C l am_M_ending (d + 5) 0 0 [.ref 30, .int (nI j), .int x] (ab_S nr h g rr) (fun (r_ : Option Value) (M' : ab_Me) => r_ = some (.int (sp_ed (2 : Int32) (nI j) (nI (sp_pr (cs j))) x)) ∧ ∃ h', M' = ab_S nr h' g rr ∧ md_tf h h' ∧ mt_ok h' (bs ++ sp_edb (2 : Int32))) := by
  refine ab_C_of (by decide +kernel) rfl (Nat.le_of_ble_eq_true rfl) ?_
  refine ab_aload_n de_M_ending_0 0 rfl ?_
  refine ab_aload_n de_M_ending_1 0 rfl ?_
  refine ab_get (v := .ref 33) fl_M_20 rfl rfl de_M_ending_2 ?_
  refine ab_iload_n de_M_ending_5 1 rfl ?_
  refine ab_iald (v := h 33 j) rfl (ab_in (by omega) (by decide)) (ab_hv (ab_tn (n := j) (by omega))) de_M_ending_6 ?_
  refine ab_top (v' := nI (cs j)) ((hcs j hj).1) ?_
  refine ab_cV (as := [.int (nI (cs j))]) (st := []) (ct_M_kindOf l _ nr h g rr (c := cs j) (hcs j hj).2.2 (hcs j hj).2.1) mo_M_kindOf mi_M_kindOf ml_M_110 rfl (by decide) rfl rfl rfl (Nat.le_of_ble_eq_true rfl) de_M_ending_7 (fun v_ M_ hK_ hl_ hv_ => ?_)
  obtain ⟨rfl, hm_⟩ := hK_
  have hm_ := hm_.symm
  subst hm_
  change ab_G _ _ _ _ _ _ _ [(0, .ref 30), (1, .int (nI j)), (2, .int x)] [.int (nI (sp_kd (cs j)))] (ab_S nr h g rr) _
  refine ab_top (v' := (2 : Int32)) (by rw [hk]; rfl) ?_
  refine ab_istore_n (L' := [(3, .int (2 : Int32)), (0, .ref 30), (1, .int (nI j)), (2, .int x)]) de_M_ending_10 (by decide) rfl ?_
  refine ab_aload_n de_M_ending_11 1 rfl ?_
  refine ab_aload_n de_M_ending_12 1 rfl ?_
  refine ab_get (v := .ref 33) fl_M_20 rfl rfl de_M_ending_13 ?_
  refine ab_iload_n de_M_ending_16 2 rfl ?_
  refine ab_iald (v := h 33 j) rfl (ab_in (by omega) (by decide)) (ab_hv (ab_tn (n := j) (by omega))) de_M_ending_17 ?_
  refine ab_top (v' := nI (cs j)) ((hcs j hj).1) ?_
  refine ab_cV (as := [.int (nI (cs j))]) (st := []) (ct_M_priceOf l _ nr h g rr (c := cs j) (hcs j hj).2.2) mo_M_priceOf mi_M_priceOf ml_M_116 rfl (by decide) rfl rfl rfl (Nat.le_of_ble_eq_true rfl) de_M_ending_18 (fun v_ M_ hK_ hl_ hv_ => ?_)
  obtain ⟨rfl, hm_⟩ := hK_
  have hm_ := hm_.symm
  subst hm_
  change ab_G _ _ _ _ _ _ _ [(3, .int (2 : Int32)), (0, .ref 30), (1, .int (nI j)), (2, .int x)] [.int (nI (sp_pr (cs j)))] (ab_S nr h g rr) _
  refine ab_istore (L' := [(4, .int (nI (sp_pr (cs j)))), (3, .int (2 : Int32)), (0, .ref 30), (1, .int (nI j)), (2, .int x)]) de_M_ending_21 (by decide) rfl ?_
  refine ab_iload_n de_M_ending_23 4 rfl ?_
  refine ab_istore (L' := [(5, .int x), (4, .int (nI (sp_pr (cs j)))), (3, .int (2 : Int32)), (0, .ref 30), (1, .int (nI j)), (2, .int x)]) de_M_ending_24 (by decide) rfl ?_
  refine ab_iload_n de_M_ending_26 2 rfl ?_
  refine ab_iconst (v := 4) de_M_ending_27 rfl ?_
  refine ab_icmp_ne (tgt := 37) de_M_ending_28 rfl (fun c_28_1 => ?_) (fun c_28_1 => ?_)
  · refine ab_iload_n de_M_ending_37 2 rfl ?_
    refine ab_bipush (v := 6) de_M_ending_38 rfl ?_
    refine ab_icmp_ne (tgt := 49) de_M_ending_40 rfl (fun c_40_2 => ?_) (fun c_40_2 => ?_)
    · refine ab_iload_n de_M_ending_49 2 rfl ?_
      refine ab_bipush (v := 7) de_M_ending_50 rfl ?_
      refine ab_icmp_ne (tgt := 67) de_M_ending_52 rfl (fun c_52_3 => ?_) (fun c_52_3 => ?_)
      · refine ab_aload_n de_M_ending_67 3 rfl ?_
        refine ab_bipush (v := 12) de_M_ending_68 rfl ?_
        refine ab_cV (as := [.int (12 : Int32)]) (st := []) (ct_M_body l _ nr h g rr (bs := bs) hbs (by (try simp only [List.length_append, List.length_cons, List.length_nil]); omega) (12 : Int32)) mo_M_body mi_M_body ml_M_290 rfl (by decide) rfl rfl rfl (Nat.le_of_ble_eq_true rfl) de_M_ending_70 (fun v_ M_ hK_ hl_ hv_ => ?_)
        obtain ⟨rfl, h1_, rfl, tf1_, mt1_⟩ := hK_
        change ab_G _ _ _ _ _ _ _ [(5, .int x), (4, .int (nI (sp_pr (cs j)))), (3, .int (2 : Int32)), (0, .ref 30), (1, .int (nI j)), (2, .int x)] [] (ab_S nr h1_ g rr) _
        have tt1_ : md_tf h h1_ := md_tf_tr (md_tf_rf h) tf1_
        refine ab_aload_n de_M_ending_73 3 rfl ?_
        refine ab_iload_n de_M_ending_74 4 rfl ?_
        refine ab_iload de_M_ending_75 0 rfl ?_
        refine ab_cV (as := [.int (nI j), .int x]) (st := []) (ct_M_letting_2 l _ nr h1_ g rr ((tt1_.2 0 (by decide)).trans hMR) hn5 (fun y hy => ⟨(congrFun (tt1_.1 33 (by decide) (by decide)) y).trans (hcs y hy).1, (hcs y hy).2⟩) (bs := (bs ++ [(12 : Int32)])) mt1_ (by (try simp only [List.length_append, List.length_cons, List.length_nil]); have l1_ := sp_leb_le (2 : Int32); omega) hj hk (x)) mo_M_letting mi_M_letting ml_M_296 rfl (by decide) rfl rfl rfl (Nat.le_of_ble_eq_true rfl) de_M_ending_77 (fun v_ M_ hK_ hl_ hv_ => ?_)
        obtain ⟨rfl, h2_, rfl, tf2_, mt2_⟩ := hK_
        change ab_G _ _ _ _ _ _ _ [(5, .int x), (4, .int (nI (sp_pr (cs j)))), (3, .int (2 : Int32)), (0, .ref 30), (1, .int (nI j)), (2, .int x)] [.int (sp_le (2 : Int32) (nI j) (nI (sp_pr (cs j))) (x))] (ab_S nr h2_ g rr) _
        have tt2_ : md_tf h h2_ := md_tf_tr (tt1_) tf2_
        refine ab_istore (L' := [(6, .int (sp_le (2 : Int32) (nI j) (nI (sp_pr (cs j))) (x))), (5, .int x), (4, .int (nI (sp_pr (cs j)))), (3, .int (2 : Int32)), (0, .ref 30), (1, .int (nI j)), (2, .int x)]) de_M_ending_80 (by decide) rfl ?_
        refine ab_iload de_M_ending_82 0 rfl ?_
        refine ab_aload_n de_M_ending_84 4 rfl ?_
        refine ab_iload_n de_M_ending_85 5 rfl ?_
        refine ab_iload de_M_ending_86 1 rfl ?_
        refine ab_iload de_M_ending_88 2 rfl ?_
        refine ab_isub de_M_ending_90 ?_
        refine ab_cV (as := [.int (nI j), .int (x - (nI (sp_pr (cs j))))]) (st := [.int (sp_le (2 : Int32) (nI j) (nI (sp_pr (cs j))) (x))]) (ct_M_going_2 l _ nr h2_ g rr ((tt2_.2 0 (by decide)).trans hMR) hn5 (fun y hy => ⟨(congrFun (tt2_.1 33 (by decide) (by decide)) y).trans (hcs y hy).1, (hcs y hy).2⟩) (bs := ((bs ++ [(12 : Int32)]) ++ sp_leb (2 : Int32))) mt2_ (by (try simp only [List.length_append, List.length_cons, List.length_nil]); have l1_ := sp_leb_le (2 : Int32); omega) hj hk (x - (nI (sp_pr (cs j))))) mo_M_going mi_M_going ml_M_293 rfl (by decide) rfl rfl rfl (Nat.le_of_ble_eq_true rfl) de_M_ending_91 (fun v_ M_ hK_ hl_ hv_ => ?_)
        obtain ⟨rfl, h3_, rfl, tf3_, mt3_⟩ := hK_
        change ab_G _ _ _ _ _ _ _ [(6, .int (sp_le (2 : Int32) (nI j) (nI (sp_pr (cs j))) (x))), (5, .int x), (4, .int (nI (sp_pr (cs j)))), (3, .int (2 : Int32)), (0, .ref 30), (1, .int (nI j)), (2, .int x)] [.int (sp_go (2 : Int32) (nI j) (x - (nI (sp_pr (cs j))))), .int (sp_le (2 : Int32) (nI j) (nI (sp_pr (cs j))) (x))] (ab_S nr h3_ g rr) _
        have tt3_ : md_tf h h3_ := md_tf_tr (tt2_) tf3_
        refine ab_ixor de_M_ending_94 ?_
        refine ab_istore (L' := [(6, .int ((sp_le (2 : Int32) (nI j) (nI (sp_pr (cs j))) (x)) ^^^ (sp_go (2 : Int32) (nI j) (x - (nI (sp_pr (cs j))))))), (5, .int x), (4, .int (nI (sp_pr (cs j)))), (3, .int (2 : Int32)), (0, .ref 30), (1, .int (nI j)), (2, .int x)]) de_M_ending_95 (by decide) rfl ?_
        refine ab_iload_n de_M_ending_97 3 rfl ?_
        refine ab_iconst (v := 4) de_M_ending_98 rfl ?_
        refine ab_icmp_ne (tgt := 109) de_M_ending_99 rfl (fun c_99_4 => ?_) (fun c_99_4 => ?_)
        · refine ab_iload_n de_M_ending_109 3 rfl ?_
          refine ab_bipush (v := 6) de_M_ending_110 rfl ?_
          refine ab_icmp_ne (tgt := 122) de_M_ending_112 rfl (fun c_112_5 => ?_) (fun c_112_5 => ?_)
          · refine ab_iload de_M_ending_122 0 rfl ?_
            exact ab_ret (v := some (.int ((sp_le (2 : Int32) (nI j) (nI (sp_pr (cs j))) (x)) ^^^ (sp_go (2 : Int32) (nI j) (x - (nI (sp_pr (cs j)))))))) de_M_ending_124 ⟨_, rfl⟩ ⟨congrArg (fun z => some (Value.int z)) (by rfl), h3_, rfl, tt3_, by have z_ := mt3_; (try simp only [List.append_assoc] at z_); exact z_⟩
          · exact absurd c_112_5 (by decide)
        · exact absurd c_99_4 (by decide)
      · exact absurd c_52_3 (by decide)
    · exact absurd c_40_2 (by decide)
  · exact absurd c_28_1 (by decide)
set_option maxHeartbeats 1000000 in
set_option maxRecDepth 10000 in
theorem ct_M_going_3 (l : Launch) (d : Nat) (nr : Nat) (h : Nat → Nat → Int32) (g : Nat → Nat → Int64) (rr : Nat → Option Nat) {n_ : Nat} (hMR : h 30 0 = nI n_) (hn5 : n_ ≤ 8) {cs : Nat → Nat} (hcs : ∀ k, k < n_ → h 33 k = nI (cs k) ∧ 1 ≤ cs k ∧ cs k < 4096) {bs : List Int32} (hbs : mt_ok h bs) (hln : bs.length ≤ 16) {j : Nat} (hj : j < n_) (hk : sp_kd (cs j) = 3) (x : Int32) : ab_C l am_M_going (d + 3) 0 0 [.ref 30, .int (nI j), .int x] (ab_S nr h g rr) (fun (r_ : Option Value) (M' : ab_Me) => r_ = some (.int (sp_go (3 : Int32) (nI j) x)) ∧ ∃ h', M' = ab_S nr h' g rr ∧ md_tf h h' ∧ mt_ok h' (bs ++ sp_gob (3 : Int32))) := by
  refine ab_C_of (by decide +kernel) rfl (Nat.le_of_ble_eq_true rfl) ?_
  refine ab_aload_n de_M_going_0 0 rfl ?_
  refine ab_aload_n de_M_going_1 0 rfl ?_
  refine ab_get (v := .ref 33) fl_M_20 rfl rfl de_M_going_2 ?_
  refine ab_iload_n de_M_going_5 1 rfl ?_
  refine ab_iald (v := h 33 j) rfl (ab_in (by omega) (by decide)) (ab_hv (ab_tn (n := j) (by omega))) de_M_going_6 ?_
  refine ab_top (v' := nI (cs j)) ((hcs j hj).1) ?_
  refine ab_cV (as := [.int (nI (cs j))]) (st := []) (ct_M_kindOf l _ nr h g rr (c := cs j) (hcs j hj).2.2 (hcs j hj).2.1) mo_M_kindOf mi_M_kindOf ml_M_110 rfl (by decide) rfl rfl rfl (Nat.le_of_ble_eq_true rfl) de_M_going_7 (fun v_ M_ hK_ hl_ hv_ => ?_)
  obtain ⟨rfl, hm_⟩ := hK_
  have hm_ := hm_.symm
  subst hm_
  change ab_G _ _ _ _ _ _ _ [(0, .ref 30), (1, .int (nI j)), (2, .int x)] [.int (nI (sp_kd (cs j)))] (ab_S nr h g rr) _
  refine ab_top (v' := (3 : Int32)) (by rw [hk]; rfl) ?_
  refine ab_istore_n (L' := [(3, .int (3 : Int32)), (0, .ref 30), (1, .int (nI j)), (2, .int x)]) de_M_going_10 (by decide) rfl ?_
  refine ab_iload_n de_M_going_11 3 rfl ?_
  refine ab_istore (L' := [(4, .int x), (3, .int (3 : Int32)), (0, .ref 30), (1, .int (nI j)), (2, .int x)]) de_M_going_12 (by decide) rfl ?_
  refine ab_iload_n de_M_going_14 1 rfl ?_
  refine ab_bipush (v := 7) de_M_going_15 rfl ?_
  refine ab_icmp_ne (tgt := 26) de_M_going_17 rfl (fun c_17_1 => ?_) (fun c_17_1 => ?_)
  · refine ab_iload_n de_M_going_26 1 rfl ?_
    refine ab_iconst (v := 2) de_M_going_27 rfl ?_
    refine ab_icmp_ne (tgt := 42) de_M_going_28 rfl (fun c_28_2 => ?_) (fun c_28_2 => ?_)
    · refine ab_iload_n de_M_going_42 1 rfl ?_
      refine ab_iconst (v := 1) de_M_going_43 rfl ?_
      refine ab_icmp_eq (tgt := 52) de_M_going_44 rfl (fun c_44_3 => ?_) (fun c_44_3 => ?_)
      · exact absurd c_44_3 (by decide)
      · refine ab_iload_n de_M_going_47 1 rfl ?_
        refine ab_iconst (v := 2) de_M_going_48 rfl ?_
        refine ab_icmp_ne (tgt := 58) de_M_going_49 rfl (fun c_49_4 => ?_) (fun c_49_4 => ?_)
        · refine ab_aload_n de_M_going_58 2 rfl ?_
          refine ab_bipush (v := 10) de_M_going_59 rfl ?_
          refine ab_cV (as := [.int (10 : Int32)]) (st := []) (ct_M_body l _ nr h g rr (bs := bs) hbs (by (try simp only [List.length_append, List.length_cons, List.length_nil]); omega) (10 : Int32)) mo_M_body mi_M_body ml_M_290 rfl (by decide) rfl rfl rfl (Nat.le_of_ble_eq_true rfl) de_M_going_61 (fun v_ M_ hK_ hl_ hv_ => ?_)
          obtain ⟨rfl, h1_, rfl, tf1_, mt1_⟩ := hK_
          change ab_G _ _ _ _ _ _ _ [(4, .int x), (3, .int (3 : Int32)), (0, .ref 30), (1, .int (nI j)), (2, .int x)] [] (ab_S nr h1_ g rr) _
          have tt1_ : md_tf h h1_ := md_tf_tr (md_tf_rf h) tf1_
          refine ab_iload de_M_going_64 0 rfl ?_
          refine ab_iload_n de_M_going_66 3 rfl ?_
          refine ab_iadd de_M_going_67 ?_
          refine ab_istore (L' := [(5, .int (x + (nI j))), (4, .int x), (3, .int (3 : Int32)), (0, .ref 30), (1, .int (nI j)), (2, .int x)]) de_M_going_68 (by decide) rfl ?_
          refine ab_iload_n de_M_going_70 2 rfl ?_
          refine ab_iconst (v := 1) de_M_going_71 rfl ?_
          refine ab_icmp_eq (tgt := 80) de_M_going_72 rfl (fun c_72_5 => ?_) (fun c_72_5 => ?_)
          · exact absurd c_72_5 (by decide)
          · refine ab_iload_n de_M_going_75 2 rfl ?_
            refine ab_iconst (v := 2) de_M_going_76 rfl ?_
            refine ab_icmp_ne (tgt := 86) de_M_going_77 rfl (fun c_77_6 => ?_) (fun c_77_6 => ?_)
            · refine ab_iload_n de_M_going_86 2 rfl ?_
              refine ab_bipush (v := 7) de_M_going_87 rfl ?_
              refine ab_icmp_ne (tgt := 100) de_M_going_89 rfl (fun c_89_7 => ?_) (fun c_89_7 => ?_)
              · refine ab_iload de_M_going_100 0 rfl ?_
                exact ab_ret (v := some (.int (x + (nI j)))) de_M_going_102 ⟨_, rfl⟩ ⟨congrArg (fun z => some (Value.int z)) (by rfl), h1_, rfl, tt1_, by have z_ := mt1_; (try simp only [List.append_assoc] at z_); exact z_⟩
              · exact absurd c_89_7 (by decide)
            · exact absurd c_77_6 (by decide)
        · exact absurd c_49_4 (by decide)
    · exact absurd c_28_2 (by decide)
  · exact absurd c_17_1 (by decide)
set_option maxHeartbeats 1000000 in
set_option maxRecDepth 10000 in
theorem ct_M_letting_3 (l : Launch) (d : Nat) (nr : Nat) (h : Nat → Nat → Int32) (g : Nat → Nat → Int64) (rr : Nat → Option Nat) {n_ : Nat} (hMR : h 30 0 = nI n_) (hn5 : n_ ≤ 8) {cs : Nat → Nat} (hcs : ∀ k, k < n_ → h 33 k = nI (cs k) ∧ 1 ≤ cs k ∧ cs k < 4096) {bs : List Int32} (hbs : mt_ok h bs) (hln : bs.length ≤ 14) {j : Nat} (hj : j < n_) (hk : sp_kd (cs j) = 3) (x : Int32) : ab_C l am_M_letting (d + 4) 0 0 [.ref 30, .int (nI j), .int x] (ab_S nr h g rr) (fun (r_ : Option Value) (M' : ab_Me) => r_ = some (.int (sp_le (3 : Int32) (nI j) (nI (sp_pr (cs j))) x)) ∧ ∃ h', M' = ab_S nr h' g rr ∧ md_tf h h' ∧ mt_ok h' (bs ++ sp_leb (3 : Int32))) := by
  refine ab_C_of (by decide +kernel) rfl (Nat.le_of_ble_eq_true rfl) ?_
  refine ab_aload_n de_M_letting_0 0 rfl ?_
  refine ab_aload_n de_M_letting_1 0 rfl ?_
  refine ab_get (v := .ref 33) fl_M_20 rfl rfl de_M_letting_2 ?_
  refine ab_iload_n de_M_letting_5 1 rfl ?_
  refine ab_iald (v := h 33 j) rfl (ab_in (by omega) (by decide)) (ab_hv (ab_tn (n := j) (by omega))) de_M_letting_6 ?_
  refine ab_top (v' := nI (cs j)) ((hcs j hj).1) ?_
  refine ab_cV (as := [.int (nI (cs j))]) (st := []) (ct_M_kindOf l _ nr h g rr (c := cs j) (hcs j hj).2.2 (hcs j hj).2.1) mo_M_kindOf mi_M_kindOf ml_M_110 rfl (by decide) rfl rfl rfl (Nat.le_of_ble_eq_true rfl) de_M_letting_7 (fun v_ M_ hK_ hl_ hv_ => ?_)
  obtain ⟨rfl, hm_⟩ := hK_
  have hm_ := hm_.symm
  subst hm_
  change ab_G _ _ _ _ _ _ _ [(0, .ref 30), (1, .int (nI j)), (2, .int x)] [.int (nI (sp_kd (cs j)))] (ab_S nr h g rr) _
  refine ab_top (v' := (3 : Int32)) (by rw [hk]; rfl) ?_
  refine ab_istore_n (L' := [(3, .int (3 : Int32)), (0, .ref 30), (1, .int (nI j)), (2, .int x)]) de_M_letting_10 (by decide) rfl ?_
  refine ab_iload_n de_M_letting_11 0 rfl ?_
  refine ab_iconst (v := 2) de_M_letting_12 rfl ?_
  refine ab_icmp_ne (tgt := 22) de_M_letting_13 rfl (fun c_13_1 => ?_) (fun c_13_1 => ?_)
  · refine ab_iload_n de_M_letting_22 0 rfl ?_
    refine ab_iconst (v := 3) de_M_letting_23 rfl ?_
    refine ab_icmp_ne (tgt := 33) de_M_letting_24 rfl (fun c_24_2 => ?_) (fun c_24_2 => ?_)
    · exact absurd rfl c_24_2
    · refine ab_aload_n de_M_letting_27 1 rfl ?_
      refine ab_bipush (v := 40) de_M_letting_28 rfl ?_
      refine ab_cV (as := [.int (40 : Int32)]) (st := []) (ct_M_body l _ nr h g rr (bs := bs) hbs (by (try simp only [List.length_append, List.length_cons, List.length_nil]); omega) (40 : Int32)) mo_M_body mi_M_body ml_M_290 rfl (by decide) rfl rfl rfl (Nat.le_of_ble_eq_true rfl) de_M_letting_30 (fun v_ M_ hK_ hl_ hv_ => ?_)
      obtain ⟨rfl, h1_, rfl, tf1_, mt1_⟩ := hK_
      change ab_G _ _ _ _ _ _ _ [(3, .int (3 : Int32)), (0, .ref 30), (1, .int (nI j)), (2, .int x)] [] (ab_S nr h1_ g rr) _
      have tt1_ : md_tf h h1_ := md_tf_tr (md_tf_rf h) tf1_
      refine ab_iload_n de_M_letting_33 0 rfl ?_
      refine ab_iconst (v := 5) de_M_letting_34 rfl ?_
      refine ab_icmp_ne (tgt := 44) de_M_letting_35 rfl (fun c_35_3 => ?_) (fun c_35_3 => ?_)
      · refine ab_aload_n de_M_letting_44 1 rfl ?_
        refine ab_bipush (v := 11) de_M_letting_45 rfl ?_
        refine ab_cV (as := [.int (11 : Int32)]) (st := []) (ct_M_body l _ nr h1_ g rr (bs := (bs ++ [(40 : Int32)])) mt1_ (by (try simp only [List.length_append, List.length_cons, List.length_nil]); omega) (11 : Int32)) mo_M_body mi_M_body ml_M_290 rfl (by decide) rfl rfl rfl (Nat.le_of_ble_eq_true rfl) de_M_letting_47 (fun v_ M_ hK_ hl_ hv_ => ?_)
        obtain ⟨rfl, h2_, rfl, tf2_, mt2_⟩ := hK_
        change ab_G _ _ _ _ _ _ _ [(3, .int (3 : Int32)), (0, .ref 30), (1, .int (nI j)), (2, .int x)] [] (ab_S nr h2_ g rr) _
        have tt2_ : md_tf h h2_ := md_tf_tr (tt1_) tf2_
        refine ab_aload_n de_M_letting_50 1 rfl ?_
        refine ab_iload_n de_M_letting_51 2 rfl ?_
        refine ab_iload_n de_M_letting_52 3 rfl ?_
        refine ab_cV (as := [.int (nI j), .int x]) (st := []) (ct_M_going_3 l _ nr h2_ g rr ((tt2_.2 0 (by decide)).trans hMR) hn5 (fun y hy => ⟨(congrFun (tt2_.1 33 (by decide) (by decide)) y).trans (hcs y hy).1, (hcs y hy).2⟩) (bs := ((bs ++ [(40 : Int32)]) ++ [(11 : Int32)])) mt2_ (by (try simp only [List.length_append, List.length_cons, List.length_nil]); have l1_ := sp_leb_le (3 : Int32); omega) hj hk (x)) mo_M_going mi_M_going ml_M_293 rfl (by decide) rfl rfl rfl (Nat.le_of_ble_eq_true rfl) de_M_letting_53 (fun v_ M_ hK_ hl_ hv_ => ?_)
        obtain ⟨rfl, h3_, rfl, tf3_, mt3_⟩ := hK_
        change ab_G _ _ _ _ _ _ _ [(3, .int (3 : Int32)), (0, .ref 30), (1, .int (nI j)), (2, .int x)] [.int (sp_go (3 : Int32) (nI j) (x))] (ab_S nr h3_ g rr) _
        have tt3_ : md_tf h h3_ := md_tf_tr (tt2_) tf3_
        refine ab_iconst (v := 2) de_M_letting_56 rfl ?_
        refine ab_imul de_M_letting_57 ?_
        refine ab_istore (L' := [(4, .int ((sp_go (3 : Int32) (nI j) (x)) * (2 : Int32))), (3, .int (3 : Int32)), (0, .ref 30), (1, .int (nI j)), (2, .int x)]) de_M_letting_58 (by decide) rfl ?_
        refine ab_iload_n de_M_letting_60 1 rfl ?_
        refine ab_iconst (v := 2) de_M_letting_61 rfl ?_
        refine ab_icmp_ne (tgt := 81) de_M_letting_62 rfl (fun c_62_4 => ?_) (fun c_62_4 => ?_)
        · refine ab_iload_n de_M_letting_81 1 rfl ?_
          refine ab_iconst (v := 3) de_M_letting_82 rfl ?_
          refine ab_icmp_ne (tgt := 92) de_M_letting_83 rfl (fun c_83_5 => ?_) (fun c_83_5 => ?_)
          · exact absurd rfl c_83_5
          · refine ab_iload de_M_letting_86 0 rfl ?_
            refine ab_ineg de_M_letting_88 ?_
            refine ab_goto (tgt := 107) de_M_letting_89 rfl ?_
            exact ab_ret (v := some (.int (-((sp_go (3 : Int32) (nI j) (x)) * (2 : Int32))))) de_M_letting_107 ⟨_, rfl⟩ ⟨congrArg (fun z => some (Value.int z)) (by rfl), h3_, rfl, tt3_, by have z_ := mt3_; (try simp only [List.append_assoc] at z_); exact z_⟩
        · exact absurd c_62_4 (by decide)
      · exact absurd c_35_3 (by decide)
  · exact absurd c_13_1 (by decide)
set_option maxHeartbeats 1000000 in
set_option maxRecDepth 10000 in
theorem ct_M_ending_3 (l : Launch) (d : Nat) (nr : Nat) (h : Nat → Nat → Int32) (g : Nat → Nat → Int64) (rr : Nat → Option Nat) {n_ : Nat} (hMR : h 30 0 = nI n_) (hn5 : n_ ≤ 8) {cs : Nat → Nat} (hcs : ∀ k, k < n_ → h 33 k = nI (cs k) ∧ 1 ≤ cs k ∧ cs k < 4096) {bs : List Int32} (hbs : mt_ok h bs) (hln : bs.length ≤ 9) {j : Nat} (hj : j < n_) (hk : sp_kd (cs j) = 3) (x : Int32) : ab_C l am_M_ending (d + 5) 0 0 [.ref 30, .int (nI j), .int x] (ab_S nr h g rr) (fun (r_ : Option Value) (M' : ab_Me) => r_ = some (.int (sp_ed (3 : Int32) (nI j) (nI (sp_pr (cs j))) x)) ∧ ∃ h', M' = ab_S nr h' g rr ∧ md_tf h h' ∧ mt_ok h' (bs ++ sp_edb (3 : Int32))) := by
  refine ab_C_of (by decide +kernel) rfl (Nat.le_of_ble_eq_true rfl) ?_
  refine ab_aload_n de_M_ending_0 0 rfl ?_
  refine ab_aload_n de_M_ending_1 0 rfl ?_
  refine ab_get (v := .ref 33) fl_M_20 rfl rfl de_M_ending_2 ?_
  refine ab_iload_n de_M_ending_5 1 rfl ?_
  refine ab_iald (v := h 33 j) rfl (ab_in (by omega) (by decide)) (ab_hv (ab_tn (n := j) (by omega))) de_M_ending_6 ?_
  refine ab_top (v' := nI (cs j)) ((hcs j hj).1) ?_
  refine ab_cV (as := [.int (nI (cs j))]) (st := []) (ct_M_kindOf l _ nr h g rr (c := cs j) (hcs j hj).2.2 (hcs j hj).2.1) mo_M_kindOf mi_M_kindOf ml_M_110 rfl (by decide) rfl rfl rfl (Nat.le_of_ble_eq_true rfl) de_M_ending_7 (fun v_ M_ hK_ hl_ hv_ => ?_)
  obtain ⟨rfl, hm_⟩ := hK_
  have hm_ := hm_.symm
  subst hm_
  change ab_G _ _ _ _ _ _ _ [(0, .ref 30), (1, .int (nI j)), (2, .int x)] [.int (nI (sp_kd (cs j)))] (ab_S nr h g rr) _
  refine ab_top (v' := (3 : Int32)) (by rw [hk]; rfl) ?_
  refine ab_istore_n (L' := [(3, .int (3 : Int32)), (0, .ref 30), (1, .int (nI j)), (2, .int x)]) de_M_ending_10 (by decide) rfl ?_
  refine ab_aload_n de_M_ending_11 1 rfl ?_
  refine ab_aload_n de_M_ending_12 1 rfl ?_
  refine ab_get (v := .ref 33) fl_M_20 rfl rfl de_M_ending_13 ?_
  refine ab_iload_n de_M_ending_16 2 rfl ?_
  refine ab_iald (v := h 33 j) rfl (ab_in (by omega) (by decide)) (ab_hv (ab_tn (n := j) (by omega))) de_M_ending_17 ?_
  refine ab_top (v' := nI (cs j)) ((hcs j hj).1) ?_
  refine ab_cV (as := [.int (nI (cs j))]) (st := []) (ct_M_priceOf l _ nr h g rr (c := cs j) (hcs j hj).2.2) mo_M_priceOf mi_M_priceOf ml_M_116 rfl (by decide) rfl rfl rfl (Nat.le_of_ble_eq_true rfl) de_M_ending_18 (fun v_ M_ hK_ hl_ hv_ => ?_)
  obtain ⟨rfl, hm_⟩ := hK_
  have hm_ := hm_.symm
  subst hm_
  change ab_G _ _ _ _ _ _ _ [(3, .int (3 : Int32)), (0, .ref 30), (1, .int (nI j)), (2, .int x)] [.int (nI (sp_pr (cs j)))] (ab_S nr h g rr) _
  refine ab_istore (L' := [(4, .int (nI (sp_pr (cs j)))), (3, .int (3 : Int32)), (0, .ref 30), (1, .int (nI j)), (2, .int x)]) de_M_ending_21 (by decide) rfl ?_
  refine ab_iload_n de_M_ending_23 4 rfl ?_
  refine ab_istore (L' := [(5, .int x), (4, .int (nI (sp_pr (cs j)))), (3, .int (3 : Int32)), (0, .ref 30), (1, .int (nI j)), (2, .int x)]) de_M_ending_24 (by decide) rfl ?_
  refine ab_iload_n de_M_ending_26 2 rfl ?_
  refine ab_iconst (v := 4) de_M_ending_27 rfl ?_
  refine ab_icmp_ne (tgt := 37) de_M_ending_28 rfl (fun c_28_1 => ?_) (fun c_28_1 => ?_)
  · refine ab_iload_n de_M_ending_37 2 rfl ?_
    refine ab_bipush (v := 6) de_M_ending_38 rfl ?_
    refine ab_icmp_ne (tgt := 49) de_M_ending_40 rfl (fun c_40_2 => ?_) (fun c_40_2 => ?_)
    · refine ab_iload_n de_M_ending_49 2 rfl ?_
      refine ab_bipush (v := 7) de_M_ending_50 rfl ?_
      refine ab_icmp_ne (tgt := 67) de_M_ending_52 rfl (fun c_52_3 => ?_) (fun c_52_3 => ?_)
      · refine ab_aload_n de_M_ending_67 3 rfl ?_
        refine ab_bipush (v := 12) de_M_ending_68 rfl ?_
        refine ab_cV (as := [.int (12 : Int32)]) (st := []) (ct_M_body l _ nr h g rr (bs := bs) hbs (by (try simp only [List.length_append, List.length_cons, List.length_nil]); omega) (12 : Int32)) mo_M_body mi_M_body ml_M_290 rfl (by decide) rfl rfl rfl (Nat.le_of_ble_eq_true rfl) de_M_ending_70 (fun v_ M_ hK_ hl_ hv_ => ?_)
        obtain ⟨rfl, h1_, rfl, tf1_, mt1_⟩ := hK_
        change ab_G _ _ _ _ _ _ _ [(5, .int x), (4, .int (nI (sp_pr (cs j)))), (3, .int (3 : Int32)), (0, .ref 30), (1, .int (nI j)), (2, .int x)] [] (ab_S nr h1_ g rr) _
        have tt1_ : md_tf h h1_ := md_tf_tr (md_tf_rf h) tf1_
        refine ab_aload_n de_M_ending_73 3 rfl ?_
        refine ab_iload_n de_M_ending_74 4 rfl ?_
        refine ab_iload de_M_ending_75 0 rfl ?_
        refine ab_cV (as := [.int (nI j), .int x]) (st := []) (ct_M_letting_3 l _ nr h1_ g rr ((tt1_.2 0 (by decide)).trans hMR) hn5 (fun y hy => ⟨(congrFun (tt1_.1 33 (by decide) (by decide)) y).trans (hcs y hy).1, (hcs y hy).2⟩) (bs := (bs ++ [(12 : Int32)])) mt1_ (by (try simp only [List.length_append, List.length_cons, List.length_nil]); have l1_ := sp_leb_le (3 : Int32); omega) hj hk (x)) mo_M_letting mi_M_letting ml_M_296 rfl (by decide) rfl rfl rfl (Nat.le_of_ble_eq_true rfl) de_M_ending_77 (fun v_ M_ hK_ hl_ hv_ => ?_)
        obtain ⟨rfl, h2_, rfl, tf2_, mt2_⟩ := hK_
        change ab_G _ _ _ _ _ _ _ [(5, .int x), (4, .int (nI (sp_pr (cs j)))), (3, .int (3 : Int32)), (0, .ref 30), (1, .int (nI j)), (2, .int x)] [.int (sp_le (3 : Int32) (nI j) (nI (sp_pr (cs j))) (x))] (ab_S nr h2_ g rr) _
        have tt2_ : md_tf h h2_ := md_tf_tr (tt1_) tf2_
        refine ab_istore (L' := [(6, .int (sp_le (3 : Int32) (nI j) (nI (sp_pr (cs j))) (x))), (5, .int x), (4, .int (nI (sp_pr (cs j)))), (3, .int (3 : Int32)), (0, .ref 30), (1, .int (nI j)), (2, .int x)]) de_M_ending_80 (by decide) rfl ?_
        refine ab_iload de_M_ending_82 0 rfl ?_
        refine ab_aload_n de_M_ending_84 4 rfl ?_
        refine ab_iload_n de_M_ending_85 5 rfl ?_
        refine ab_iload de_M_ending_86 1 rfl ?_
        refine ab_iload de_M_ending_88 2 rfl ?_
        refine ab_isub de_M_ending_90 ?_
        refine ab_cV (as := [.int (nI j), .int (x - (nI (sp_pr (cs j))))]) (st := [.int (sp_le (3 : Int32) (nI j) (nI (sp_pr (cs j))) (x))]) (ct_M_going_3 l _ nr h2_ g rr ((tt2_.2 0 (by decide)).trans hMR) hn5 (fun y hy => ⟨(congrFun (tt2_.1 33 (by decide) (by decide)) y).trans (hcs y hy).1, (hcs y hy).2⟩) (bs := ((bs ++ [(12 : Int32)]) ++ sp_leb (3 : Int32))) mt2_ (by (try simp only [List.length_append, List.length_cons, List.length_nil]); have l1_ := sp_leb_le (3 : Int32); omega) hj hk (x - (nI (sp_pr (cs j))))) mo_M_going mi_M_going ml_M_293 rfl (by decide) rfl rfl rfl (Nat.le_of_ble_eq_true rfl) de_M_ending_91 (fun v_ M_ hK_ hl_ hv_ => ?_)
        obtain ⟨rfl, h3_, rfl, tf3_, mt3_⟩ := hK_
        change ab_G _ _ _ _ _ _ _ [(6, .int (sp_le (3 : Int32) (nI j) (nI (sp_pr (cs j))) (x))), (5, .int x), (4, .int (nI (sp_pr (cs j)))), (3, .int (3 : Int32)), (0, .ref 30), (1, .int (nI j)), (2, .int x)] [.int (sp_go (3 : Int32) (nI j) (x - (nI (sp_pr (cs j))))), .int (sp_le (3 : Int32) (nI j) (nI (sp_pr (cs j))) (x))] (ab_S nr h3_ g rr) _
        have tt3_ : md_tf h h3_ := md_tf_tr (tt2_) tf3_
        refine ab_ixor de_M_ending_94 ?_
        refine ab_istore (L' := [(6, .int ((sp_le (3 : Int32) (nI j) (nI (sp_pr (cs j))) (x)) ^^^ (sp_go (3 : Int32) (nI j) (x - (nI (sp_pr (cs j))))))), (5, .int x), (4, .int (nI (sp_pr (cs j)))), (3, .int (3 : Int32)), (0, .ref 30), (1, .int (nI j)), (2, .int x)]) de_M_ending_95 (by decide) rfl ?_
        refine ab_iload_n de_M_ending_97 3 rfl ?_
        refine ab_iconst (v := 4) de_M_ending_98 rfl ?_
        refine ab_icmp_ne (tgt := 109) de_M_ending_99 rfl (fun c_99_4 => ?_) (fun c_99_4 => ?_)
        · refine ab_iload_n de_M_ending_109 3 rfl ?_
          refine ab_bipush (v := 6) de_M_ending_110 rfl ?_
          refine ab_icmp_ne (tgt := 122) de_M_ending_112 rfl (fun c_112_5 => ?_) (fun c_112_5 => ?_)
          · refine ab_iload de_M_ending_122 0 rfl ?_
            exact ab_ret (v := some (.int ((sp_le (3 : Int32) (nI j) (nI (sp_pr (cs j))) (x)) ^^^ (sp_go (3 : Int32) (nI j) (x - (nI (sp_pr (cs j)))))))) de_M_ending_124 ⟨_, rfl⟩ ⟨congrArg (fun z => some (Value.int z)) (by rfl), h3_, rfl, tt3_, by have z_ := mt3_; (try simp only [List.append_assoc] at z_); exact z_⟩
          · exact absurd c_112_5 (by decide)
        · exact absurd c_99_4 (by decide)
      · exact absurd c_52_3 (by decide)
    · exact absurd c_40_2 (by decide)
  · exact absurd c_28_1 (by decide)
set_option maxHeartbeats 1000000 in
set_option maxRecDepth 10000 in
theorem ct_M_going_4 (l : Launch) (d : Nat) (nr : Nat) (h : Nat → Nat → Int32) (g : Nat → Nat → Int64) (rr : Nat → Option Nat) {n_ : Nat} (hMR : h 30 0 = nI n_) (hn5 : n_ ≤ 8) {cs : Nat → Nat} (hcs : ∀ k, k < n_ → h 33 k = nI (cs k) ∧ 1 ≤ cs k ∧ cs k < 4096) {bs : List Int32} (hbs : mt_ok h bs) (hln : bs.length ≤ 16) {j : Nat} (hj : j < n_) (hk : sp_kd (cs j) = 4) (x : Int32) : ab_C l am_M_going (d + 3) 0 0 [.ref 30, .int (nI j), .int x] (ab_S nr h g rr) (fun (r_ : Option Value) (M' : ab_Me) => r_ = some (.int (sp_go (4 : Int32) (nI j) x)) ∧ ∃ h', M' = ab_S nr h' g rr ∧ md_tf h h' ∧ mt_ok h' (bs ++ sp_gob (4 : Int32))) := by
  refine ab_C_of (by decide +kernel) rfl (Nat.le_of_ble_eq_true rfl) ?_
  refine ab_aload_n de_M_going_0 0 rfl ?_
  refine ab_aload_n de_M_going_1 0 rfl ?_
  refine ab_get (v := .ref 33) fl_M_20 rfl rfl de_M_going_2 ?_
  refine ab_iload_n de_M_going_5 1 rfl ?_
  refine ab_iald (v := h 33 j) rfl (ab_in (by omega) (by decide)) (ab_hv (ab_tn (n := j) (by omega))) de_M_going_6 ?_
  refine ab_top (v' := nI (cs j)) ((hcs j hj).1) ?_
  refine ab_cV (as := [.int (nI (cs j))]) (st := []) (ct_M_kindOf l _ nr h g rr (c := cs j) (hcs j hj).2.2 (hcs j hj).2.1) mo_M_kindOf mi_M_kindOf ml_M_110 rfl (by decide) rfl rfl rfl (Nat.le_of_ble_eq_true rfl) de_M_going_7 (fun v_ M_ hK_ hl_ hv_ => ?_)
  obtain ⟨rfl, hm_⟩ := hK_
  have hm_ := hm_.symm
  subst hm_
  change ab_G _ _ _ _ _ _ _ [(0, .ref 30), (1, .int (nI j)), (2, .int x)] [.int (nI (sp_kd (cs j)))] (ab_S nr h g rr) _
  refine ab_top (v' := (4 : Int32)) (by rw [hk]; rfl) ?_
  refine ab_istore_n (L' := [(3, .int (4 : Int32)), (0, .ref 30), (1, .int (nI j)), (2, .int x)]) de_M_going_10 (by decide) rfl ?_
  refine ab_iload_n de_M_going_11 3 rfl ?_
  refine ab_istore (L' := [(4, .int x), (3, .int (4 : Int32)), (0, .ref 30), (1, .int (nI j)), (2, .int x)]) de_M_going_12 (by decide) rfl ?_
  refine ab_iload_n de_M_going_14 1 rfl ?_
  refine ab_bipush (v := 7) de_M_going_15 rfl ?_
  refine ab_icmp_ne (tgt := 26) de_M_going_17 rfl (fun c_17_1 => ?_) (fun c_17_1 => ?_)
  · refine ab_iload_n de_M_going_26 1 rfl ?_
    refine ab_iconst (v := 2) de_M_going_27 rfl ?_
    refine ab_icmp_ne (tgt := 42) de_M_going_28 rfl (fun c_28_2 => ?_) (fun c_28_2 => ?_)
    · refine ab_iload_n de_M_going_42 1 rfl ?_
      refine ab_iconst (v := 1) de_M_going_43 rfl ?_
      refine ab_icmp_eq (tgt := 52) de_M_going_44 rfl (fun c_44_3 => ?_) (fun c_44_3 => ?_)
      · exact absurd c_44_3 (by decide)
      · refine ab_iload_n de_M_going_47 1 rfl ?_
        refine ab_iconst (v := 2) de_M_going_48 rfl ?_
        refine ab_icmp_ne (tgt := 58) de_M_going_49 rfl (fun c_49_4 => ?_) (fun c_49_4 => ?_)
        · refine ab_aload_n de_M_going_58 2 rfl ?_
          refine ab_bipush (v := 10) de_M_going_59 rfl ?_
          refine ab_cV (as := [.int (10 : Int32)]) (st := []) (ct_M_body l _ nr h g rr (bs := bs) hbs (by (try simp only [List.length_append, List.length_cons, List.length_nil]); omega) (10 : Int32)) mo_M_body mi_M_body ml_M_290 rfl (by decide) rfl rfl rfl (Nat.le_of_ble_eq_true rfl) de_M_going_61 (fun v_ M_ hK_ hl_ hv_ => ?_)
          obtain ⟨rfl, h1_, rfl, tf1_, mt1_⟩ := hK_
          change ab_G _ _ _ _ _ _ _ [(4, .int x), (3, .int (4 : Int32)), (0, .ref 30), (1, .int (nI j)), (2, .int x)] [] (ab_S nr h1_ g rr) _
          have tt1_ : md_tf h h1_ := md_tf_tr (md_tf_rf h) tf1_
          refine ab_iload de_M_going_64 0 rfl ?_
          refine ab_iload_n de_M_going_66 3 rfl ?_
          refine ab_iadd de_M_going_67 ?_
          refine ab_istore (L' := [(5, .int (x + (nI j))), (4, .int x), (3, .int (4 : Int32)), (0, .ref 30), (1, .int (nI j)), (2, .int x)]) de_M_going_68 (by decide) rfl ?_
          refine ab_iload_n de_M_going_70 2 rfl ?_
          refine ab_iconst (v := 1) de_M_going_71 rfl ?_
          refine ab_icmp_eq (tgt := 80) de_M_going_72 rfl (fun c_72_5 => ?_) (fun c_72_5 => ?_)
          · exact absurd c_72_5 (by decide)
          · refine ab_iload_n de_M_going_75 2 rfl ?_
            refine ab_iconst (v := 2) de_M_going_76 rfl ?_
            refine ab_icmp_ne (tgt := 86) de_M_going_77 rfl (fun c_77_6 => ?_) (fun c_77_6 => ?_)
            · refine ab_iload_n de_M_going_86 2 rfl ?_
              refine ab_bipush (v := 7) de_M_going_87 rfl ?_
              refine ab_icmp_ne (tgt := 100) de_M_going_89 rfl (fun c_89_7 => ?_) (fun c_89_7 => ?_)
              · refine ab_iload de_M_going_100 0 rfl ?_
                exact ab_ret (v := some (.int (x + (nI j)))) de_M_going_102 ⟨_, rfl⟩ ⟨congrArg (fun z => some (Value.int z)) (by rfl), h1_, rfl, tt1_, by have z_ := mt1_; (try simp only [List.append_assoc] at z_); exact z_⟩
              · exact absurd c_89_7 (by decide)
            · exact absurd c_77_6 (by decide)
        · exact absurd c_49_4 (by decide)
    · exact absurd c_28_2 (by decide)
  · exact absurd c_17_1 (by decide)
set_option maxHeartbeats 1000000 in
set_option maxRecDepth 10000 in
theorem ct_M_letting_4 (l : Launch) (d : Nat) (nr : Nat) (h : Nat → Nat → Int32) (g : Nat → Nat → Int64) (rr : Nat → Option Nat) {n_ : Nat} (hMR : h 30 0 = nI n_) (hn5 : n_ ≤ 8) {cs : Nat → Nat} (hcs : ∀ k, k < n_ → h 33 k = nI (cs k) ∧ 1 ≤ cs k ∧ cs k < 4096) {bs : List Int32} (hbs : mt_ok h bs) (hln : bs.length ≤ 14) {j : Nat} (hj : j < n_) (hk : sp_kd (cs j) = 4) (x : Int32) : ab_C l am_M_letting (d + 4) 0 0 [.ref 30, .int (nI j), .int x] (ab_S nr h g rr) (fun (r_ : Option Value) (M' : ab_Me) => r_ = some (.int (sp_le (4 : Int32) (nI j) (nI (sp_pr (cs j))) x)) ∧ ∃ h', M' = ab_S nr h' g rr ∧ md_tf h h' ∧ mt_ok h' (bs ++ sp_leb (4 : Int32))) := by
  refine ab_C_of (by decide +kernel) rfl (Nat.le_of_ble_eq_true rfl) ?_
  refine ab_aload_n de_M_letting_0 0 rfl ?_
  refine ab_aload_n de_M_letting_1 0 rfl ?_
  refine ab_get (v := .ref 33) fl_M_20 rfl rfl de_M_letting_2 ?_
  refine ab_iload_n de_M_letting_5 1 rfl ?_
  refine ab_iald (v := h 33 j) rfl (ab_in (by omega) (by decide)) (ab_hv (ab_tn (n := j) (by omega))) de_M_letting_6 ?_
  refine ab_top (v' := nI (cs j)) ((hcs j hj).1) ?_
  refine ab_cV (as := [.int (nI (cs j))]) (st := []) (ct_M_kindOf l _ nr h g rr (c := cs j) (hcs j hj).2.2 (hcs j hj).2.1) mo_M_kindOf mi_M_kindOf ml_M_110 rfl (by decide) rfl rfl rfl (Nat.le_of_ble_eq_true rfl) de_M_letting_7 (fun v_ M_ hK_ hl_ hv_ => ?_)
  obtain ⟨rfl, hm_⟩ := hK_
  have hm_ := hm_.symm
  subst hm_
  change ab_G _ _ _ _ _ _ _ [(0, .ref 30), (1, .int (nI j)), (2, .int x)] [.int (nI (sp_kd (cs j)))] (ab_S nr h g rr) _
  refine ab_top (v' := (4 : Int32)) (by rw [hk]; rfl) ?_
  refine ab_istore_n (L' := [(3, .int (4 : Int32)), (0, .ref 30), (1, .int (nI j)), (2, .int x)]) de_M_letting_10 (by decide) rfl ?_
  refine ab_iload_n de_M_letting_11 0 rfl ?_
  refine ab_iconst (v := 2) de_M_letting_12 rfl ?_
  refine ab_icmp_ne (tgt := 22) de_M_letting_13 rfl (fun c_13_1 => ?_) (fun c_13_1 => ?_)
  · refine ab_iload_n de_M_letting_22 0 rfl ?_
    refine ab_iconst (v := 3) de_M_letting_23 rfl ?_
    refine ab_icmp_ne (tgt := 33) de_M_letting_24 rfl (fun c_24_2 => ?_) (fun c_24_2 => ?_)
    · refine ab_iload_n de_M_letting_33 0 rfl ?_
      refine ab_iconst (v := 5) de_M_letting_34 rfl ?_
      refine ab_icmp_ne (tgt := 44) de_M_letting_35 rfl (fun c_35_3 => ?_) (fun c_35_3 => ?_)
      · refine ab_aload_n de_M_letting_44 1 rfl ?_
        refine ab_bipush (v := 11) de_M_letting_45 rfl ?_
        refine ab_cV (as := [.int (11 : Int32)]) (st := []) (ct_M_body l _ nr h g rr (bs := bs) hbs (by (try simp only [List.length_append, List.length_cons, List.length_nil]); omega) (11 : Int32)) mo_M_body mi_M_body ml_M_290 rfl (by decide) rfl rfl rfl (Nat.le_of_ble_eq_true rfl) de_M_letting_47 (fun v_ M_ hK_ hl_ hv_ => ?_)
        obtain ⟨rfl, h1_, rfl, tf1_, mt1_⟩ := hK_
        change ab_G _ _ _ _ _ _ _ [(3, .int (4 : Int32)), (0, .ref 30), (1, .int (nI j)), (2, .int x)] [] (ab_S nr h1_ g rr) _
        have tt1_ : md_tf h h1_ := md_tf_tr (md_tf_rf h) tf1_
        refine ab_aload_n de_M_letting_50 1 rfl ?_
        refine ab_iload_n de_M_letting_51 2 rfl ?_
        refine ab_iload_n de_M_letting_52 3 rfl ?_
        refine ab_cV (as := [.int (nI j), .int x]) (st := []) (ct_M_going_4 l _ nr h1_ g rr ((tt1_.2 0 (by decide)).trans hMR) hn5 (fun y hy => ⟨(congrFun (tt1_.1 33 (by decide) (by decide)) y).trans (hcs y hy).1, (hcs y hy).2⟩) (bs := (bs ++ [(11 : Int32)])) mt1_ (by (try simp only [List.length_append, List.length_cons, List.length_nil]); have l1_ := sp_leb_le (4 : Int32); omega) hj hk (x)) mo_M_going mi_M_going ml_M_293 rfl (by decide) rfl rfl rfl (Nat.le_of_ble_eq_true rfl) de_M_letting_53 (fun v_ M_ hK_ hl_ hv_ => ?_)
        obtain ⟨rfl, h2_, rfl, tf2_, mt2_⟩ := hK_
        change ab_G _ _ _ _ _ _ _ [(3, .int (4 : Int32)), (0, .ref 30), (1, .int (nI j)), (2, .int x)] [.int (sp_go (4 : Int32) (nI j) (x))] (ab_S nr h2_ g rr) _
        have tt2_ : md_tf h h2_ := md_tf_tr (tt1_) tf2_
        refine ab_iconst (v := 2) de_M_letting_56 rfl ?_
        refine ab_imul de_M_letting_57 ?_
        refine ab_istore (L' := [(4, .int ((sp_go (4 : Int32) (nI j) (x)) * (2 : Int32))), (3, .int (4 : Int32)), (0, .ref 30), (1, .int (nI j)), (2, .int x)]) de_M_letting_58 (by decide) rfl ?_
        refine ab_iload_n de_M_letting_60 1 rfl ?_
        refine ab_iconst (v := 2) de_M_letting_61 rfl ?_
        refine ab_icmp_ne (tgt := 81) de_M_letting_62 rfl (fun c_62_4 => ?_) (fun c_62_4 => ?_)
        · refine ab_iload_n de_M_letting_81 1 rfl ?_
          refine ab_iconst (v := 3) de_M_letting_82 rfl ?_
          refine ab_icmp_ne (tgt := 92) de_M_letting_83 rfl (fun c_83_5 => ?_) (fun c_83_5 => ?_)
          · refine ab_iload_n de_M_letting_92 1 rfl ?_
            refine ab_iconst (v := 5) de_M_letting_93 rfl ?_
            refine ab_icmp_ne (tgt := 105) de_M_letting_94 rfl (fun c_94_6 => ?_) (fun c_94_6 => ?_)
            · refine ab_iload de_M_letting_105 0 rfl ?_
              exact ab_ret (v := some (.int ((sp_go (4 : Int32) (nI j) (x)) * (2 : Int32)))) de_M_letting_107 ⟨_, rfl⟩ ⟨congrArg (fun z => some (Value.int z)) (by rfl), h2_, rfl, tt2_, by have z_ := mt2_; (try simp only [List.append_assoc] at z_); exact z_⟩
            · exact absurd c_94_6 (by decide)
          · exact absurd c_83_5 (by decide)
        · exact absurd c_62_4 (by decide)
      · exact absurd c_35_3 (by decide)
    · exact absurd c_24_2 (by decide)
  · exact absurd c_13_1 (by decide)
set_option maxHeartbeats 1000000 in
set_option maxRecDepth 10000 in
theorem ct_M_ending_4 (l : Launch) (d : Nat) (nr : Nat) (h : Nat → Nat → Int32) (g : Nat → Nat → Int64) (rr : Nat → Option Nat) {n_ : Nat} (hMR : h 30 0 = nI n_) (hn5 : n_ ≤ 8) {cs : Nat → Nat} (hcs : ∀ k, k < n_ → h 33 k = nI (cs k) ∧ 1 ≤ cs k ∧ cs k < 4096) {bs : List Int32} (hbs : mt_ok h bs) (hln : bs.length ≤ 9) {j : Nat} (hj : j < n_) (hk : sp_kd (cs j) = 4) (x : Int32) : ab_C l am_M_ending (d + 5) 0 0 [.ref 30, .int (nI j), .int x] (ab_S nr h g rr) (fun (r_ : Option Value) (M' : ab_Me) => r_ = some (.int (sp_ed (4 : Int32) (nI j) (nI (sp_pr (cs j))) x)) ∧ ∃ h', M' = ab_S nr h' g rr ∧ md_tf h h' ∧ mt_ok h' (bs ++ sp_edb (4 : Int32))) := by
  refine ab_C_of (by decide +kernel) rfl (Nat.le_of_ble_eq_true rfl) ?_
  refine ab_aload_n de_M_ending_0 0 rfl ?_
  refine ab_aload_n de_M_ending_1 0 rfl ?_
  refine ab_get (v := .ref 33) fl_M_20 rfl rfl de_M_ending_2 ?_
  refine ab_iload_n de_M_ending_5 1 rfl ?_
  refine ab_iald (v := h 33 j) rfl (ab_in (by omega) (by decide)) (ab_hv (ab_tn (n := j) (by omega))) de_M_ending_6 ?_
  refine ab_top (v' := nI (cs j)) ((hcs j hj).1) ?_
  refine ab_cV (as := [.int (nI (cs j))]) (st := []) (ct_M_kindOf l _ nr h g rr (c := cs j) (hcs j hj).2.2 (hcs j hj).2.1) mo_M_kindOf mi_M_kindOf ml_M_110 rfl (by decide) rfl rfl rfl (Nat.le_of_ble_eq_true rfl) de_M_ending_7 (fun v_ M_ hK_ hl_ hv_ => ?_)
  obtain ⟨rfl, hm_⟩ := hK_
  have hm_ := hm_.symm
  subst hm_
  change ab_G _ _ _ _ _ _ _ [(0, .ref 30), (1, .int (nI j)), (2, .int x)] [.int (nI (sp_kd (cs j)))] (ab_S nr h g rr) _
  refine ab_top (v' := (4 : Int32)) (by rw [hk]; rfl) ?_
  refine ab_istore_n (L' := [(3, .int (4 : Int32)), (0, .ref 30), (1, .int (nI j)), (2, .int x)]) de_M_ending_10 (by decide) rfl ?_
  refine ab_aload_n de_M_ending_11 1 rfl ?_
  refine ab_aload_n de_M_ending_12 1 rfl ?_
  refine ab_get (v := .ref 33) fl_M_20 rfl rfl de_M_ending_13 ?_
  refine ab_iload_n de_M_ending_16 2 rfl ?_
  refine ab_iald (v := h 33 j) rfl (ab_in (by omega) (by decide)) (ab_hv (ab_tn (n := j) (by omega))) de_M_ending_17 ?_
  refine ab_top (v' := nI (cs j)) ((hcs j hj).1) ?_
  refine ab_cV (as := [.int (nI (cs j))]) (st := []) (ct_M_priceOf l _ nr h g rr (c := cs j) (hcs j hj).2.2) mo_M_priceOf mi_M_priceOf ml_M_116 rfl (by decide) rfl rfl rfl (Nat.le_of_ble_eq_true rfl) de_M_ending_18 (fun v_ M_ hK_ hl_ hv_ => ?_)
  obtain ⟨rfl, hm_⟩ := hK_
  have hm_ := hm_.symm
  subst hm_
  change ab_G _ _ _ _ _ _ _ [(3, .int (4 : Int32)), (0, .ref 30), (1, .int (nI j)), (2, .int x)] [.int (nI (sp_pr (cs j)))] (ab_S nr h g rr) _
  refine ab_istore (L' := [(4, .int (nI (sp_pr (cs j)))), (3, .int (4 : Int32)), (0, .ref 30), (1, .int (nI j)), (2, .int x)]) de_M_ending_21 (by decide) rfl ?_
  refine ab_iload_n de_M_ending_23 4 rfl ?_
  refine ab_istore (L' := [(5, .int x), (4, .int (nI (sp_pr (cs j)))), (3, .int (4 : Int32)), (0, .ref 30), (1, .int (nI j)), (2, .int x)]) de_M_ending_24 (by decide) rfl ?_
  refine ab_iload_n de_M_ending_26 2 rfl ?_
  refine ab_iconst (v := 4) de_M_ending_27 rfl ?_
  refine ab_icmp_ne (tgt := 37) de_M_ending_28 rfl (fun c_28_1 => ?_) (fun c_28_1 => ?_)
  · exact absurd rfl c_28_1
  · refine ab_aload_n de_M_ending_31 3 rfl ?_
    refine ab_bipush (v := 50) de_M_ending_32 rfl ?_
    refine ab_cV (as := [.int (50 : Int32)]) (st := []) (ct_M_body l _ nr h g rr (bs := bs) hbs (by (try simp only [List.length_append, List.length_cons, List.length_nil]); omega) (50 : Int32)) mo_M_body mi_M_body ml_M_290 rfl (by decide) rfl rfl rfl (Nat.le_of_ble_eq_true rfl) de_M_ending_34 (fun v_ M_ hK_ hl_ hv_ => ?_)
    obtain ⟨rfl, h1_, rfl, tf1_, mt1_⟩ := hK_
    change ab_G _ _ _ _ _ _ _ [(5, .int x), (4, .int (nI (sp_pr (cs j)))), (3, .int (4 : Int32)), (0, .ref 30), (1, .int (nI j)), (2, .int x)] [] (ab_S nr h1_ g rr) _
    have tt1_ : md_tf h h1_ := md_tf_tr (md_tf_rf h) tf1_
    refine ab_iload_n de_M_ending_37 2 rfl ?_
    refine ab_bipush (v := 6) de_M_ending_38 rfl ?_
    refine ab_icmp_ne (tgt := 49) de_M_ending_40 rfl (fun c_40_2 => ?_) (fun c_40_2 => ?_)
    · refine ab_iload_n de_M_ending_49 2 rfl ?_
      refine ab_bipush (v := 7) de_M_ending_50 rfl ?_
      refine ab_icmp_ne (tgt := 67) de_M_ending_52 rfl (fun c_52_3 => ?_) (fun c_52_3 => ?_)
      · refine ab_aload_n de_M_ending_67 3 rfl ?_
        refine ab_bipush (v := 12) de_M_ending_68 rfl ?_
        refine ab_cV (as := [.int (12 : Int32)]) (st := []) (ct_M_body l _ nr h1_ g rr (bs := (bs ++ [(50 : Int32)])) mt1_ (by (try simp only [List.length_append, List.length_cons, List.length_nil]); omega) (12 : Int32)) mo_M_body mi_M_body ml_M_290 rfl (by decide) rfl rfl rfl (Nat.le_of_ble_eq_true rfl) de_M_ending_70 (fun v_ M_ hK_ hl_ hv_ => ?_)
        obtain ⟨rfl, h2_, rfl, tf2_, mt2_⟩ := hK_
        change ab_G _ _ _ _ _ _ _ [(5, .int x), (4, .int (nI (sp_pr (cs j)))), (3, .int (4 : Int32)), (0, .ref 30), (1, .int (nI j)), (2, .int x)] [] (ab_S nr h2_ g rr) _
        have tt2_ : md_tf h h2_ := md_tf_tr (tt1_) tf2_
        refine ab_aload_n de_M_ending_73 3 rfl ?_
        refine ab_iload_n de_M_ending_74 4 rfl ?_
        refine ab_iload de_M_ending_75 0 rfl ?_
        refine ab_cV (as := [.int (nI j), .int x]) (st := []) (ct_M_letting_4 l _ nr h2_ g rr ((tt2_.2 0 (by decide)).trans hMR) hn5 (fun y hy => ⟨(congrFun (tt2_.1 33 (by decide) (by decide)) y).trans (hcs y hy).1, (hcs y hy).2⟩) (bs := ((bs ++ [(50 : Int32)]) ++ [(12 : Int32)])) mt2_ (by (try simp only [List.length_append, List.length_cons, List.length_nil]); have l1_ := sp_leb_le (4 : Int32); omega) hj hk (x)) mo_M_letting mi_M_letting ml_M_296 rfl (by decide) rfl rfl rfl (Nat.le_of_ble_eq_true rfl) de_M_ending_77 (fun v_ M_ hK_ hl_ hv_ => ?_)
        obtain ⟨rfl, h3_, rfl, tf3_, mt3_⟩ := hK_
        change ab_G _ _ _ _ _ _ _ [(5, .int x), (4, .int (nI (sp_pr (cs j)))), (3, .int (4 : Int32)), (0, .ref 30), (1, .int (nI j)), (2, .int x)] [.int (sp_le (4 : Int32) (nI j) (nI (sp_pr (cs j))) (x))] (ab_S nr h3_ g rr) _
        have tt3_ : md_tf h h3_ := md_tf_tr (tt2_) tf3_
        refine ab_istore (L' := [(6, .int (sp_le (4 : Int32) (nI j) (nI (sp_pr (cs j))) (x))), (5, .int x), (4, .int (nI (sp_pr (cs j)))), (3, .int (4 : Int32)), (0, .ref 30), (1, .int (nI j)), (2, .int x)]) de_M_ending_80 (by decide) rfl ?_
        refine ab_iload de_M_ending_82 0 rfl ?_
        refine ab_aload_n de_M_ending_84 4 rfl ?_
        refine ab_iload_n de_M_ending_85 5 rfl ?_
        refine ab_iload de_M_ending_86 1 rfl ?_
        refine ab_iload de_M_ending_88 2 rfl ?_
        refine ab_isub de_M_ending_90 ?_
        refine ab_cV (as := [.int (nI j), .int (x - (nI (sp_pr (cs j))))]) (st := [.int (sp_le (4 : Int32) (nI j) (nI (sp_pr (cs j))) (x))]) (ct_M_going_4 l _ nr h3_ g rr ((tt3_.2 0 (by decide)).trans hMR) hn5 (fun y hy => ⟨(congrFun (tt3_.1 33 (by decide) (by decide)) y).trans (hcs y hy).1, (hcs y hy).2⟩) (bs := (((bs ++ [(50 : Int32)]) ++ [(12 : Int32)]) ++ sp_leb (4 : Int32))) mt3_ (by (try simp only [List.length_append, List.length_cons, List.length_nil]); have l1_ := sp_leb_le (4 : Int32); omega) hj hk (x - (nI (sp_pr (cs j))))) mo_M_going mi_M_going ml_M_293 rfl (by decide) rfl rfl rfl (Nat.le_of_ble_eq_true rfl) de_M_ending_91 (fun v_ M_ hK_ hl_ hv_ => ?_)
        obtain ⟨rfl, h4_, rfl, tf4_, mt4_⟩ := hK_
        change ab_G _ _ _ _ _ _ _ [(6, .int (sp_le (4 : Int32) (nI j) (nI (sp_pr (cs j))) (x))), (5, .int x), (4, .int (nI (sp_pr (cs j)))), (3, .int (4 : Int32)), (0, .ref 30), (1, .int (nI j)), (2, .int x)] [.int (sp_go (4 : Int32) (nI j) (x - (nI (sp_pr (cs j))))), .int (sp_le (4 : Int32) (nI j) (nI (sp_pr (cs j))) (x))] (ab_S nr h4_ g rr) _
        have tt4_ : md_tf h h4_ := md_tf_tr (tt3_) tf4_
        refine ab_ixor de_M_ending_94 ?_
        refine ab_istore (L' := [(6, .int ((sp_le (4 : Int32) (nI j) (nI (sp_pr (cs j))) (x)) ^^^ (sp_go (4 : Int32) (nI j) (x - (nI (sp_pr (cs j))))))), (5, .int x), (4, .int (nI (sp_pr (cs j)))), (3, .int (4 : Int32)), (0, .ref 30), (1, .int (nI j)), (2, .int x)]) de_M_ending_95 (by decide) rfl ?_
        refine ab_iload_n de_M_ending_97 3 rfl ?_
        refine ab_iconst (v := 4) de_M_ending_98 rfl ?_
        refine ab_icmp_ne (tgt := 109) de_M_ending_99 rfl (fun c_99_4 => ?_) (fun c_99_4 => ?_)
        · exact absurd rfl c_99_4
        · refine ab_iload de_M_ending_102 0 rfl ?_
          refine ab_iload_n de_M_ending_104 5 rfl ?_
          refine ab_iadd de_M_ending_105 ?_
          refine ab_goto (tgt := 124) de_M_ending_106 rfl ?_
          exact ab_ret (v := some (.int (((sp_le (4 : Int32) (nI j) (nI (sp_pr (cs j))) (x)) ^^^ (sp_go (4 : Int32) (nI j) (x - (nI (sp_pr (cs j)))))) + (nI j)))) de_M_ending_124 ⟨_, rfl⟩ ⟨congrArg (fun z => some (Value.int z)) (by rfl), h4_, rfl, tt4_, by have z_ := mt4_; (try simp only [List.append_assoc] at z_); exact z_⟩
      · exact absurd c_52_3 (by decide)
    · exact absurd c_40_2 (by decide)
set_option maxHeartbeats 1000000 in
set_option maxRecDepth 10000 in
theorem ct_M_going_5 (l : Launch) (d : Nat) (nr : Nat) (h : Nat → Nat → Int32) (g : Nat → Nat → Int64) (rr : Nat → Option Nat) {n_ : Nat} (hMR : h 30 0 = nI n_) (hn5 : n_ ≤ 8) {cs : Nat → Nat} (hcs : ∀ k, k < n_ → h 33 k = nI (cs k) ∧ 1 ≤ cs k ∧ cs k < 4096) {bs : List Int32} (hbs : mt_ok h bs) (hln : bs.length ≤ 16) {j : Nat} (hj : j < n_) (hk : sp_kd (cs j) = 5) (x : Int32) : ab_C l am_M_going (d + 3) 0 0 [.ref 30, .int (nI j), .int x] (ab_S nr h g rr) (fun (r_ : Option Value) (M' : ab_Me) => r_ = some (.int (sp_go (5 : Int32) (nI j) x)) ∧ ∃ h', M' = ab_S nr h' g rr ∧ md_tf h h' ∧ mt_ok h' (bs ++ sp_gob (5 : Int32))) := by
  refine ab_C_of (by decide +kernel) rfl (Nat.le_of_ble_eq_true rfl) ?_
  refine ab_aload_n de_M_going_0 0 rfl ?_
  refine ab_aload_n de_M_going_1 0 rfl ?_
  refine ab_get (v := .ref 33) fl_M_20 rfl rfl de_M_going_2 ?_
  refine ab_iload_n de_M_going_5 1 rfl ?_
  refine ab_iald (v := h 33 j) rfl (ab_in (by omega) (by decide)) (ab_hv (ab_tn (n := j) (by omega))) de_M_going_6 ?_
  refine ab_top (v' := nI (cs j)) ((hcs j hj).1) ?_
  refine ab_cV (as := [.int (nI (cs j))]) (st := []) (ct_M_kindOf l _ nr h g rr (c := cs j) (hcs j hj).2.2 (hcs j hj).2.1) mo_M_kindOf mi_M_kindOf ml_M_110 rfl (by decide) rfl rfl rfl (Nat.le_of_ble_eq_true rfl) de_M_going_7 (fun v_ M_ hK_ hl_ hv_ => ?_)
  obtain ⟨rfl, hm_⟩ := hK_
  have hm_ := hm_.symm
  subst hm_
  change ab_G _ _ _ _ _ _ _ [(0, .ref 30), (1, .int (nI j)), (2, .int x)] [.int (nI (sp_kd (cs j)))] (ab_S nr h g rr) _
  refine ab_top (v' := (5 : Int32)) (by rw [hk]; rfl) ?_
  refine ab_istore_n (L' := [(3, .int (5 : Int32)), (0, .ref 30), (1, .int (nI j)), (2, .int x)]) de_M_going_10 (by decide) rfl ?_
  refine ab_iload_n de_M_going_11 3 rfl ?_
  refine ab_istore (L' := [(4, .int x), (3, .int (5 : Int32)), (0, .ref 30), (1, .int (nI j)), (2, .int x)]) de_M_going_12 (by decide) rfl ?_
  refine ab_iload_n de_M_going_14 1 rfl ?_
  refine ab_bipush (v := 7) de_M_going_15 rfl ?_
  refine ab_icmp_ne (tgt := 26) de_M_going_17 rfl (fun c_17_1 => ?_) (fun c_17_1 => ?_)
  · refine ab_iload_n de_M_going_26 1 rfl ?_
    refine ab_iconst (v := 2) de_M_going_27 rfl ?_
    refine ab_icmp_ne (tgt := 42) de_M_going_28 rfl (fun c_28_2 => ?_) (fun c_28_2 => ?_)
    · refine ab_iload_n de_M_going_42 1 rfl ?_
      refine ab_iconst (v := 1) de_M_going_43 rfl ?_
      refine ab_icmp_eq (tgt := 52) de_M_going_44 rfl (fun c_44_3 => ?_) (fun c_44_3 => ?_)
      · exact absurd c_44_3 (by decide)
      · refine ab_iload_n de_M_going_47 1 rfl ?_
        refine ab_iconst (v := 2) de_M_going_48 rfl ?_
        refine ab_icmp_ne (tgt := 58) de_M_going_49 rfl (fun c_49_4 => ?_) (fun c_49_4 => ?_)
        · refine ab_aload_n de_M_going_58 2 rfl ?_
          refine ab_bipush (v := 10) de_M_going_59 rfl ?_
          refine ab_cV (as := [.int (10 : Int32)]) (st := []) (ct_M_body l _ nr h g rr (bs := bs) hbs (by (try simp only [List.length_append, List.length_cons, List.length_nil]); omega) (10 : Int32)) mo_M_body mi_M_body ml_M_290 rfl (by decide) rfl rfl rfl (Nat.le_of_ble_eq_true rfl) de_M_going_61 (fun v_ M_ hK_ hl_ hv_ => ?_)
          obtain ⟨rfl, h1_, rfl, tf1_, mt1_⟩ := hK_
          change ab_G _ _ _ _ _ _ _ [(4, .int x), (3, .int (5 : Int32)), (0, .ref 30), (1, .int (nI j)), (2, .int x)] [] (ab_S nr h1_ g rr) _
          have tt1_ : md_tf h h1_ := md_tf_tr (md_tf_rf h) tf1_
          refine ab_iload de_M_going_64 0 rfl ?_
          refine ab_iload_n de_M_going_66 3 rfl ?_
          refine ab_iadd de_M_going_67 ?_
          refine ab_istore (L' := [(5, .int (x + (nI j))), (4, .int x), (3, .int (5 : Int32)), (0, .ref 30), (1, .int (nI j)), (2, .int x)]) de_M_going_68 (by decide) rfl ?_
          refine ab_iload_n de_M_going_70 2 rfl ?_
          refine ab_iconst (v := 1) de_M_going_71 rfl ?_
          refine ab_icmp_eq (tgt := 80) de_M_going_72 rfl (fun c_72_5 => ?_) (fun c_72_5 => ?_)
          · exact absurd c_72_5 (by decide)
          · refine ab_iload_n de_M_going_75 2 rfl ?_
            refine ab_iconst (v := 2) de_M_going_76 rfl ?_
            refine ab_icmp_ne (tgt := 86) de_M_going_77 rfl (fun c_77_6 => ?_) (fun c_77_6 => ?_)
            · refine ab_iload_n de_M_going_86 2 rfl ?_
              refine ab_bipush (v := 7) de_M_going_87 rfl ?_
              refine ab_icmp_ne (tgt := 100) de_M_going_89 rfl (fun c_89_7 => ?_) (fun c_89_7 => ?_)
              · refine ab_iload de_M_going_100 0 rfl ?_
                exact ab_ret (v := some (.int (x + (nI j)))) de_M_going_102 ⟨_, rfl⟩ ⟨congrArg (fun z => some (Value.int z)) (by rfl), h1_, rfl, tt1_, by have z_ := mt1_; (try simp only [List.append_assoc] at z_); exact z_⟩
              · exact absurd c_89_7 (by decide)
            · exact absurd c_77_6 (by decide)
        · exact absurd c_49_4 (by decide)
    · exact absurd c_28_2 (by decide)
  · exact absurd c_17_1 (by decide)
set_option maxHeartbeats 1000000 in
set_option maxRecDepth 10000 in
theorem ct_M_letting_5 (l : Launch) (d : Nat) (nr : Nat) (h : Nat → Nat → Int32) (g : Nat → Nat → Int64) (rr : Nat → Option Nat) {n_ : Nat} (hMR : h 30 0 = nI n_) (hn5 : n_ ≤ 8) {cs : Nat → Nat} (hcs : ∀ k, k < n_ → h 33 k = nI (cs k) ∧ 1 ≤ cs k ∧ cs k < 4096) {bs : List Int32} (hbs : mt_ok h bs) (hln : bs.length ≤ 14) {j : Nat} (hj : j < n_) (hk : sp_kd (cs j) = 5) (x : Int32) : ab_C l am_M_letting (d + 4) 0 0 [.ref 30, .int (nI j), .int x] (ab_S nr h g rr) (fun (r_ : Option Value) (M' : ab_Me) => r_ = some (.int (sp_le (5 : Int32) (nI j) (nI (sp_pr (cs j))) x)) ∧ ∃ h', M' = ab_S nr h' g rr ∧ md_tf h h' ∧ mt_ok h' (bs ++ sp_leb (5 : Int32))) := by
  refine ab_C_of (by decide +kernel) rfl (Nat.le_of_ble_eq_true rfl) ?_
  refine ab_aload_n de_M_letting_0 0 rfl ?_
  refine ab_aload_n de_M_letting_1 0 rfl ?_
  refine ab_get (v := .ref 33) fl_M_20 rfl rfl de_M_letting_2 ?_
  refine ab_iload_n de_M_letting_5 1 rfl ?_
  refine ab_iald (v := h 33 j) rfl (ab_in (by omega) (by decide)) (ab_hv (ab_tn (n := j) (by omega))) de_M_letting_6 ?_
  refine ab_top (v' := nI (cs j)) ((hcs j hj).1) ?_
  refine ab_cV (as := [.int (nI (cs j))]) (st := []) (ct_M_kindOf l _ nr h g rr (c := cs j) (hcs j hj).2.2 (hcs j hj).2.1) mo_M_kindOf mi_M_kindOf ml_M_110 rfl (by decide) rfl rfl rfl (Nat.le_of_ble_eq_true rfl) de_M_letting_7 (fun v_ M_ hK_ hl_ hv_ => ?_)
  obtain ⟨rfl, hm_⟩ := hK_
  have hm_ := hm_.symm
  subst hm_
  change ab_G _ _ _ _ _ _ _ [(0, .ref 30), (1, .int (nI j)), (2, .int x)] [.int (nI (sp_kd (cs j)))] (ab_S nr h g rr) _
  refine ab_top (v' := (5 : Int32)) (by rw [hk]; rfl) ?_
  refine ab_istore_n (L' := [(3, .int (5 : Int32)), (0, .ref 30), (1, .int (nI j)), (2, .int x)]) de_M_letting_10 (by decide) rfl ?_
  refine ab_iload_n de_M_letting_11 0 rfl ?_
  refine ab_iconst (v := 2) de_M_letting_12 rfl ?_
  refine ab_icmp_ne (tgt := 22) de_M_letting_13 rfl (fun c_13_1 => ?_) (fun c_13_1 => ?_)
  · refine ab_iload_n de_M_letting_22 0 rfl ?_
    refine ab_iconst (v := 3) de_M_letting_23 rfl ?_
    refine ab_icmp_ne (tgt := 33) de_M_letting_24 rfl (fun c_24_2 => ?_) (fun c_24_2 => ?_)
    · refine ab_iload_n de_M_letting_33 0 rfl ?_
      refine ab_iconst (v := 5) de_M_letting_34 rfl ?_
      refine ab_icmp_ne (tgt := 44) de_M_letting_35 rfl (fun c_35_3 => ?_) (fun c_35_3 => ?_)
      · exact absurd rfl c_35_3
      · refine ab_aload_n de_M_letting_38 1 rfl ?_
        refine ab_bipush (v := 60) de_M_letting_39 rfl ?_
        refine ab_cV (as := [.int (60 : Int32)]) (st := []) (ct_M_body l _ nr h g rr (bs := bs) hbs (by (try simp only [List.length_append, List.length_cons, List.length_nil]); omega) (60 : Int32)) mo_M_body mi_M_body ml_M_290 rfl (by decide) rfl rfl rfl (Nat.le_of_ble_eq_true rfl) de_M_letting_41 (fun v_ M_ hK_ hl_ hv_ => ?_)
        obtain ⟨rfl, h1_, rfl, tf1_, mt1_⟩ := hK_
        change ab_G _ _ _ _ _ _ _ [(3, .int (5 : Int32)), (0, .ref 30), (1, .int (nI j)), (2, .int x)] [] (ab_S nr h1_ g rr) _
        have tt1_ : md_tf h h1_ := md_tf_tr (md_tf_rf h) tf1_
        refine ab_aload_n de_M_letting_44 1 rfl ?_
        refine ab_bipush (v := 11) de_M_letting_45 rfl ?_
        refine ab_cV (as := [.int (11 : Int32)]) (st := []) (ct_M_body l _ nr h1_ g rr (bs := (bs ++ [(60 : Int32)])) mt1_ (by (try simp only [List.length_append, List.length_cons, List.length_nil]); omega) (11 : Int32)) mo_M_body mi_M_body ml_M_290 rfl (by decide) rfl rfl rfl (Nat.le_of_ble_eq_true rfl) de_M_letting_47 (fun v_ M_ hK_ hl_ hv_ => ?_)
        obtain ⟨rfl, h2_, rfl, tf2_, mt2_⟩ := hK_
        change ab_G _ _ _ _ _ _ _ [(3, .int (5 : Int32)), (0, .ref 30), (1, .int (nI j)), (2, .int x)] [] (ab_S nr h2_ g rr) _
        have tt2_ : md_tf h h2_ := md_tf_tr (tt1_) tf2_
        refine ab_aload_n de_M_letting_50 1 rfl ?_
        refine ab_iload_n de_M_letting_51 2 rfl ?_
        refine ab_iload_n de_M_letting_52 3 rfl ?_
        refine ab_cV (as := [.int (nI j), .int x]) (st := []) (ct_M_going_5 l _ nr h2_ g rr ((tt2_.2 0 (by decide)).trans hMR) hn5 (fun y hy => ⟨(congrFun (tt2_.1 33 (by decide) (by decide)) y).trans (hcs y hy).1, (hcs y hy).2⟩) (bs := ((bs ++ [(60 : Int32)]) ++ [(11 : Int32)])) mt2_ (by (try simp only [List.length_append, List.length_cons, List.length_nil]); have l1_ := sp_leb_le (5 : Int32); omega) hj hk (x)) mo_M_going mi_M_going ml_M_293 rfl (by decide) rfl rfl rfl (Nat.le_of_ble_eq_true rfl) de_M_letting_53 (fun v_ M_ hK_ hl_ hv_ => ?_)
        obtain ⟨rfl, h3_, rfl, tf3_, mt3_⟩ := hK_
        change ab_G _ _ _ _ _ _ _ [(3, .int (5 : Int32)), (0, .ref 30), (1, .int (nI j)), (2, .int x)] [.int (sp_go (5 : Int32) (nI j) (x))] (ab_S nr h3_ g rr) _
        have tt3_ : md_tf h h3_ := md_tf_tr (tt2_) tf3_
        refine ab_iconst (v := 2) de_M_letting_56 rfl ?_
        refine ab_imul de_M_letting_57 ?_
        refine ab_istore (L' := [(4, .int ((sp_go (5 : Int32) (nI j) (x)) * (2 : Int32))), (3, .int (5 : Int32)), (0, .ref 30), (1, .int (nI j)), (2, .int x)]) de_M_letting_58 (by decide) rfl ?_
        refine ab_iload_n de_M_letting_60 1 rfl ?_
        refine ab_iconst (v := 2) de_M_letting_61 rfl ?_
        refine ab_icmp_ne (tgt := 81) de_M_letting_62 rfl (fun c_62_4 => ?_) (fun c_62_4 => ?_)
        · refine ab_iload_n de_M_letting_81 1 rfl ?_
          refine ab_iconst (v := 3) de_M_letting_82 rfl ?_
          refine ab_icmp_ne (tgt := 92) de_M_letting_83 rfl (fun c_83_5 => ?_) (fun c_83_5 => ?_)
          · refine ab_iload_n de_M_letting_92 1 rfl ?_
            refine ab_iconst (v := 5) de_M_letting_93 rfl ?_
            refine ab_icmp_ne (tgt := 105) de_M_letting_94 rfl (fun c_94_6 => ?_) (fun c_94_6 => ?_)
            · exact absurd rfl c_94_6
            · refine ab_iload de_M_letting_97 0 rfl ?_
              refine ab_bipush (v := 9) de_M_letting_99 rfl ?_
              refine ab_ixor de_M_letting_101 ?_
              refine ab_goto (tgt := 107) de_M_letting_102 rfl ?_
              exact ab_ret (v := some (.int (((sp_go (5 : Int32) (nI j) (x)) * (2 : Int32)) ^^^ (9 : Int32)))) de_M_letting_107 ⟨_, rfl⟩ ⟨congrArg (fun z => some (Value.int z)) (by rfl), h3_, rfl, tt3_, by have z_ := mt3_; (try simp only [List.append_assoc] at z_); exact z_⟩
          · exact absurd c_83_5 (by decide)
        · exact absurd c_62_4 (by decide)
    · exact absurd c_24_2 (by decide)
  · exact absurd c_13_1 (by decide)
set_option maxHeartbeats 1000000 in
set_option maxRecDepth 10000 in
theorem ct_M_ending_5 (l : Launch) (d : Nat) (nr : Nat) (h : Nat → Nat → Int32) (g : Nat → Nat → Int64) (rr : Nat → Option Nat) {n_ : Nat} (hMR : h 30 0 = nI n_) (hn5 : n_ ≤ 8) {cs : Nat → Nat} (hcs : ∀ k, k < n_ → h 33 k = nI (cs k) ∧ 1 ≤ cs k ∧ cs k < 4096) {bs : List Int32} (hbs : mt_ok h bs) (hln : bs.length ≤ 9) {j : Nat} (hj : j < n_) (hk : sp_kd (cs j) = 5) (x : Int32) : ab_C l am_M_ending (d + 5) 0 0 [.ref 30, .int (nI j), .int x] (ab_S nr h g rr) (fun (r_ : Option Value) (M' : ab_Me) => r_ = some (.int (sp_ed (5 : Int32) (nI j) (nI (sp_pr (cs j))) x)) ∧ ∃ h', M' = ab_S nr h' g rr ∧ md_tf h h' ∧ mt_ok h' (bs ++ sp_edb (5 : Int32))) := by
  refine ab_C_of (by decide +kernel) rfl (Nat.le_of_ble_eq_true rfl) ?_
  refine ab_aload_n de_M_ending_0 0 rfl ?_
  refine ab_aload_n de_M_ending_1 0 rfl ?_
  refine ab_get (v := .ref 33) fl_M_20 rfl rfl de_M_ending_2 ?_
  refine ab_iload_n de_M_ending_5 1 rfl ?_
  refine ab_iald (v := h 33 j) rfl (ab_in (by omega) (by decide)) (ab_hv (ab_tn (n := j) (by omega))) de_M_ending_6 ?_
  refine ab_top (v' := nI (cs j)) ((hcs j hj).1) ?_
  refine ab_cV (as := [.int (nI (cs j))]) (st := []) (ct_M_kindOf l _ nr h g rr (c := cs j) (hcs j hj).2.2 (hcs j hj).2.1) mo_M_kindOf mi_M_kindOf ml_M_110 rfl (by decide) rfl rfl rfl (Nat.le_of_ble_eq_true rfl) de_M_ending_7 (fun v_ M_ hK_ hl_ hv_ => ?_)
  obtain ⟨rfl, hm_⟩ := hK_
  have hm_ := hm_.symm
  subst hm_
  change ab_G _ _ _ _ _ _ _ [(0, .ref 30), (1, .int (nI j)), (2, .int x)] [.int (nI (sp_kd (cs j)))] (ab_S nr h g rr) _
  refine ab_top (v' := (5 : Int32)) (by rw [hk]; rfl) ?_
  refine ab_istore_n (L' := [(3, .int (5 : Int32)), (0, .ref 30), (1, .int (nI j)), (2, .int x)]) de_M_ending_10 (by decide) rfl ?_
  refine ab_aload_n de_M_ending_11 1 rfl ?_
  refine ab_aload_n de_M_ending_12 1 rfl ?_
  refine ab_get (v := .ref 33) fl_M_20 rfl rfl de_M_ending_13 ?_
  refine ab_iload_n de_M_ending_16 2 rfl ?_
  refine ab_iald (v := h 33 j) rfl (ab_in (by omega) (by decide)) (ab_hv (ab_tn (n := j) (by omega))) de_M_ending_17 ?_
  refine ab_top (v' := nI (cs j)) ((hcs j hj).1) ?_
  refine ab_cV (as := [.int (nI (cs j))]) (st := []) (ct_M_priceOf l _ nr h g rr (c := cs j) (hcs j hj).2.2) mo_M_priceOf mi_M_priceOf ml_M_116 rfl (by decide) rfl rfl rfl (Nat.le_of_ble_eq_true rfl) de_M_ending_18 (fun v_ M_ hK_ hl_ hv_ => ?_)
  obtain ⟨rfl, hm_⟩ := hK_
  have hm_ := hm_.symm
  subst hm_
  change ab_G _ _ _ _ _ _ _ [(3, .int (5 : Int32)), (0, .ref 30), (1, .int (nI j)), (2, .int x)] [.int (nI (sp_pr (cs j)))] (ab_S nr h g rr) _
  refine ab_istore (L' := [(4, .int (nI (sp_pr (cs j)))), (3, .int (5 : Int32)), (0, .ref 30), (1, .int (nI j)), (2, .int x)]) de_M_ending_21 (by decide) rfl ?_
  refine ab_iload_n de_M_ending_23 4 rfl ?_
  refine ab_istore (L' := [(5, .int x), (4, .int (nI (sp_pr (cs j)))), (3, .int (5 : Int32)), (0, .ref 30), (1, .int (nI j)), (2, .int x)]) de_M_ending_24 (by decide) rfl ?_
  refine ab_iload_n de_M_ending_26 2 rfl ?_
  refine ab_iconst (v := 4) de_M_ending_27 rfl ?_
  refine ab_icmp_ne (tgt := 37) de_M_ending_28 rfl (fun c_28_1 => ?_) (fun c_28_1 => ?_)
  · refine ab_iload_n de_M_ending_37 2 rfl ?_
    refine ab_bipush (v := 6) de_M_ending_38 rfl ?_
    refine ab_icmp_ne (tgt := 49) de_M_ending_40 rfl (fun c_40_2 => ?_) (fun c_40_2 => ?_)
    · refine ab_iload_n de_M_ending_49 2 rfl ?_
      refine ab_bipush (v := 7) de_M_ending_50 rfl ?_
      refine ab_icmp_ne (tgt := 67) de_M_ending_52 rfl (fun c_52_3 => ?_) (fun c_52_3 => ?_)
      · refine ab_aload_n de_M_ending_67 3 rfl ?_
        refine ab_bipush (v := 12) de_M_ending_68 rfl ?_
        refine ab_cV (as := [.int (12 : Int32)]) (st := []) (ct_M_body l _ nr h g rr (bs := bs) hbs (by (try simp only [List.length_append, List.length_cons, List.length_nil]); omega) (12 : Int32)) mo_M_body mi_M_body ml_M_290 rfl (by decide) rfl rfl rfl (Nat.le_of_ble_eq_true rfl) de_M_ending_70 (fun v_ M_ hK_ hl_ hv_ => ?_)
        obtain ⟨rfl, h1_, rfl, tf1_, mt1_⟩ := hK_
        change ab_G _ _ _ _ _ _ _ [(5, .int x), (4, .int (nI (sp_pr (cs j)))), (3, .int (5 : Int32)), (0, .ref 30), (1, .int (nI j)), (2, .int x)] [] (ab_S nr h1_ g rr) _
        have tt1_ : md_tf h h1_ := md_tf_tr (md_tf_rf h) tf1_
        refine ab_aload_n de_M_ending_73 3 rfl ?_
        refine ab_iload_n de_M_ending_74 4 rfl ?_
        refine ab_iload de_M_ending_75 0 rfl ?_
        refine ab_cV (as := [.int (nI j), .int x]) (st := []) (ct_M_letting_5 l _ nr h1_ g rr ((tt1_.2 0 (by decide)).trans hMR) hn5 (fun y hy => ⟨(congrFun (tt1_.1 33 (by decide) (by decide)) y).trans (hcs y hy).1, (hcs y hy).2⟩) (bs := (bs ++ [(12 : Int32)])) mt1_ (by (try simp only [List.length_append, List.length_cons, List.length_nil]); have l1_ := sp_leb_le (5 : Int32); omega) hj hk (x)) mo_M_letting mi_M_letting ml_M_296 rfl (by decide) rfl rfl rfl (Nat.le_of_ble_eq_true rfl) de_M_ending_77 (fun v_ M_ hK_ hl_ hv_ => ?_)
        obtain ⟨rfl, h2_, rfl, tf2_, mt2_⟩ := hK_
        change ab_G _ _ _ _ _ _ _ [(5, .int x), (4, .int (nI (sp_pr (cs j)))), (3, .int (5 : Int32)), (0, .ref 30), (1, .int (nI j)), (2, .int x)] [.int (sp_le (5 : Int32) (nI j) (nI (sp_pr (cs j))) (x))] (ab_S nr h2_ g rr) _
        have tt2_ : md_tf h h2_ := md_tf_tr (tt1_) tf2_
        refine ab_istore (L' := [(6, .int (sp_le (5 : Int32) (nI j) (nI (sp_pr (cs j))) (x))), (5, .int x), (4, .int (nI (sp_pr (cs j)))), (3, .int (5 : Int32)), (0, .ref 30), (1, .int (nI j)), (2, .int x)]) de_M_ending_80 (by decide) rfl ?_
        refine ab_iload de_M_ending_82 0 rfl ?_
        refine ab_aload_n de_M_ending_84 4 rfl ?_
        refine ab_iload_n de_M_ending_85 5 rfl ?_
        refine ab_iload de_M_ending_86 1 rfl ?_
        refine ab_iload de_M_ending_88 2 rfl ?_
        refine ab_isub de_M_ending_90 ?_
        refine ab_cV (as := [.int (nI j), .int (x - (nI (sp_pr (cs j))))]) (st := [.int (sp_le (5 : Int32) (nI j) (nI (sp_pr (cs j))) (x))]) (ct_M_going_5 l _ nr h2_ g rr ((tt2_.2 0 (by decide)).trans hMR) hn5 (fun y hy => ⟨(congrFun (tt2_.1 33 (by decide) (by decide)) y).trans (hcs y hy).1, (hcs y hy).2⟩) (bs := ((bs ++ [(12 : Int32)]) ++ sp_leb (5 : Int32))) mt2_ (by (try simp only [List.length_append, List.length_cons, List.length_nil]); have l1_ := sp_leb_le (5 : Int32); omega) hj hk (x - (nI (sp_pr (cs j))))) mo_M_going mi_M_going ml_M_293 rfl (by decide) rfl rfl rfl (Nat.le_of_ble_eq_true rfl) de_M_ending_91 (fun v_ M_ hK_ hl_ hv_ => ?_)
        obtain ⟨rfl, h3_, rfl, tf3_, mt3_⟩ := hK_
        change ab_G _ _ _ _ _ _ _ [(6, .int (sp_le (5 : Int32) (nI j) (nI (sp_pr (cs j))) (x))), (5, .int x), (4, .int (nI (sp_pr (cs j)))), (3, .int (5 : Int32)), (0, .ref 30), (1, .int (nI j)), (2, .int x)] [.int (sp_go (5 : Int32) (nI j) (x - (nI (sp_pr (cs j))))), .int (sp_le (5 : Int32) (nI j) (nI (sp_pr (cs j))) (x))] (ab_S nr h3_ g rr) _
        have tt3_ : md_tf h h3_ := md_tf_tr (tt2_) tf3_
        refine ab_ixor de_M_ending_94 ?_
        refine ab_istore (L' := [(6, .int ((sp_le (5 : Int32) (nI j) (nI (sp_pr (cs j))) (x)) ^^^ (sp_go (5 : Int32) (nI j) (x - (nI (sp_pr (cs j))))))), (5, .int x), (4, .int (nI (sp_pr (cs j)))), (3, .int (5 : Int32)), (0, .ref 30), (1, .int (nI j)), (2, .int x)]) de_M_ending_95 (by decide) rfl ?_
        refine ab_iload_n de_M_ending_97 3 rfl ?_
        refine ab_iconst (v := 4) de_M_ending_98 rfl ?_
        refine ab_icmp_ne (tgt := 109) de_M_ending_99 rfl (fun c_99_4 => ?_) (fun c_99_4 => ?_)
        · refine ab_iload_n de_M_ending_109 3 rfl ?_
          refine ab_bipush (v := 6) de_M_ending_110 rfl ?_
          refine ab_icmp_ne (tgt := 122) de_M_ending_112 rfl (fun c_112_5 => ?_) (fun c_112_5 => ?_)
          · refine ab_iload de_M_ending_122 0 rfl ?_
            exact ab_ret (v := some (.int ((sp_le (5 : Int32) (nI j) (nI (sp_pr (cs j))) (x)) ^^^ (sp_go (5 : Int32) (nI j) (x - (nI (sp_pr (cs j)))))))) de_M_ending_124 ⟨_, rfl⟩ ⟨congrArg (fun z => some (Value.int z)) (by rfl), h3_, rfl, tt3_, by have z_ := mt3_; (try simp only [List.append_assoc] at z_); exact z_⟩
          · exact absurd c_112_5 (by decide)
        · exact absurd c_99_4 (by decide)
      · exact absurd c_52_3 (by decide)
    · exact absurd c_40_2 (by decide)
  · exact absurd c_28_1 (by decide)
set_option maxHeartbeats 1000000 in
set_option maxRecDepth 10000 in
theorem ct_M_going_6 (l : Launch) (d : Nat) (nr : Nat) (h : Nat → Nat → Int32) (g : Nat → Nat → Int64) (rr : Nat → Option Nat) {n_ : Nat} (hMR : h 30 0 = nI n_) (hn5 : n_ ≤ 8) {cs : Nat → Nat} (hcs : ∀ k, k < n_ → h 33 k = nI (cs k) ∧ 1 ≤ cs k ∧ cs k < 4096) {bs : List Int32} (hbs : mt_ok h bs) (hln : bs.length ≤ 16) {j : Nat} (hj : j < n_) (hk : sp_kd (cs j) = 6) (x : Int32) : ab_C l am_M_going (d + 3) 0 0 [.ref 30, .int (nI j), .int x] (ab_S nr h g rr) (fun (r_ : Option Value) (M' : ab_Me) => r_ = some (.int (sp_go (6 : Int32) (nI j) x)) ∧ ∃ h', M' = ab_S nr h' g rr ∧ md_tf h h' ∧ mt_ok h' (bs ++ sp_gob (6 : Int32))) := by
  refine ab_C_of (by decide +kernel) rfl (Nat.le_of_ble_eq_true rfl) ?_
  refine ab_aload_n de_M_going_0 0 rfl ?_
  refine ab_aload_n de_M_going_1 0 rfl ?_
  refine ab_get (v := .ref 33) fl_M_20 rfl rfl de_M_going_2 ?_
  refine ab_iload_n de_M_going_5 1 rfl ?_
  refine ab_iald (v := h 33 j) rfl (ab_in (by omega) (by decide)) (ab_hv (ab_tn (n := j) (by omega))) de_M_going_6 ?_
  refine ab_top (v' := nI (cs j)) ((hcs j hj).1) ?_
  refine ab_cV (as := [.int (nI (cs j))]) (st := []) (ct_M_kindOf l _ nr h g rr (c := cs j) (hcs j hj).2.2 (hcs j hj).2.1) mo_M_kindOf mi_M_kindOf ml_M_110 rfl (by decide) rfl rfl rfl (Nat.le_of_ble_eq_true rfl) de_M_going_7 (fun v_ M_ hK_ hl_ hv_ => ?_)
  obtain ⟨rfl, hm_⟩ := hK_
  have hm_ := hm_.symm
  subst hm_
  change ab_G _ _ _ _ _ _ _ [(0, .ref 30), (1, .int (nI j)), (2, .int x)] [.int (nI (sp_kd (cs j)))] (ab_S nr h g rr) _
  refine ab_top (v' := (6 : Int32)) (by rw [hk]; rfl) ?_
  refine ab_istore_n (L' := [(3, .int (6 : Int32)), (0, .ref 30), (1, .int (nI j)), (2, .int x)]) de_M_going_10 (by decide) rfl ?_
  refine ab_iload_n de_M_going_11 3 rfl ?_
  refine ab_istore (L' := [(4, .int x), (3, .int (6 : Int32)), (0, .ref 30), (1, .int (nI j)), (2, .int x)]) de_M_going_12 (by decide) rfl ?_
  refine ab_iload_n de_M_going_14 1 rfl ?_
  refine ab_bipush (v := 7) de_M_going_15 rfl ?_
  refine ab_icmp_ne (tgt := 26) de_M_going_17 rfl (fun c_17_1 => ?_) (fun c_17_1 => ?_)
  · refine ab_iload_n de_M_going_26 1 rfl ?_
    refine ab_iconst (v := 2) de_M_going_27 rfl ?_
    refine ab_icmp_ne (tgt := 42) de_M_going_28 rfl (fun c_28_2 => ?_) (fun c_28_2 => ?_)
    · refine ab_iload_n de_M_going_42 1 rfl ?_
      refine ab_iconst (v := 1) de_M_going_43 rfl ?_
      refine ab_icmp_eq (tgt := 52) de_M_going_44 rfl (fun c_44_3 => ?_) (fun c_44_3 => ?_)
      · exact absurd c_44_3 (by decide)
      · refine ab_iload_n de_M_going_47 1 rfl ?_
        refine ab_iconst (v := 2) de_M_going_48 rfl ?_
        refine ab_icmp_ne (tgt := 58) de_M_going_49 rfl (fun c_49_4 => ?_) (fun c_49_4 => ?_)
        · refine ab_aload_n de_M_going_58 2 rfl ?_
          refine ab_bipush (v := 10) de_M_going_59 rfl ?_
          refine ab_cV (as := [.int (10 : Int32)]) (st := []) (ct_M_body l _ nr h g rr (bs := bs) hbs (by (try simp only [List.length_append, List.length_cons, List.length_nil]); omega) (10 : Int32)) mo_M_body mi_M_body ml_M_290 rfl (by decide) rfl rfl rfl (Nat.le_of_ble_eq_true rfl) de_M_going_61 (fun v_ M_ hK_ hl_ hv_ => ?_)
          obtain ⟨rfl, h1_, rfl, tf1_, mt1_⟩ := hK_
          change ab_G _ _ _ _ _ _ _ [(4, .int x), (3, .int (6 : Int32)), (0, .ref 30), (1, .int (nI j)), (2, .int x)] [] (ab_S nr h1_ g rr) _
          have tt1_ : md_tf h h1_ := md_tf_tr (md_tf_rf h) tf1_
          refine ab_iload de_M_going_64 0 rfl ?_
          refine ab_iload_n de_M_going_66 3 rfl ?_
          refine ab_iadd de_M_going_67 ?_
          refine ab_istore (L' := [(5, .int (x + (nI j))), (4, .int x), (3, .int (6 : Int32)), (0, .ref 30), (1, .int (nI j)), (2, .int x)]) de_M_going_68 (by decide) rfl ?_
          refine ab_iload_n de_M_going_70 2 rfl ?_
          refine ab_iconst (v := 1) de_M_going_71 rfl ?_
          refine ab_icmp_eq (tgt := 80) de_M_going_72 rfl (fun c_72_5 => ?_) (fun c_72_5 => ?_)
          · exact absurd c_72_5 (by decide)
          · refine ab_iload_n de_M_going_75 2 rfl ?_
            refine ab_iconst (v := 2) de_M_going_76 rfl ?_
            refine ab_icmp_ne (tgt := 86) de_M_going_77 rfl (fun c_77_6 => ?_) (fun c_77_6 => ?_)
            · refine ab_iload_n de_M_going_86 2 rfl ?_
              refine ab_bipush (v := 7) de_M_going_87 rfl ?_
              refine ab_icmp_ne (tgt := 100) de_M_going_89 rfl (fun c_89_7 => ?_) (fun c_89_7 => ?_)
              · refine ab_iload de_M_going_100 0 rfl ?_
                exact ab_ret (v := some (.int (x + (nI j)))) de_M_going_102 ⟨_, rfl⟩ ⟨congrArg (fun z => some (Value.int z)) (by rfl), h1_, rfl, tt1_, by have z_ := mt1_; (try simp only [List.append_assoc] at z_); exact z_⟩
              · exact absurd c_89_7 (by decide)
            · exact absurd c_77_6 (by decide)
        · exact absurd c_49_4 (by decide)
    · exact absurd c_28_2 (by decide)
  · exact absurd c_17_1 (by decide)
set_option maxHeartbeats 1000000 in
set_option maxRecDepth 10000 in
theorem ct_M_letting_6 (l : Launch) (d : Nat) (nr : Nat) (h : Nat → Nat → Int32) (g : Nat → Nat → Int64) (rr : Nat → Option Nat) {n_ : Nat} (hMR : h 30 0 = nI n_) (hn5 : n_ ≤ 8) {cs : Nat → Nat} (hcs : ∀ k, k < n_ → h 33 k = nI (cs k) ∧ 1 ≤ cs k ∧ cs k < 4096) {bs : List Int32} (hbs : mt_ok h bs) (hln : bs.length ≤ 14) {j : Nat} (hj : j < n_) (hk : sp_kd (cs j) = 6) (x : Int32) : ab_C l am_M_letting (d + 4) 0 0 [.ref 30, .int (nI j), .int x] (ab_S nr h g rr) (fun (r_ : Option Value) (M' : ab_Me) => r_ = some (.int (sp_le (6 : Int32) (nI j) (nI (sp_pr (cs j))) x)) ∧ ∃ h', M' = ab_S nr h' g rr ∧ md_tf h h' ∧ mt_ok h' (bs ++ sp_leb (6 : Int32))) := by
  refine ab_C_of (by decide +kernel) rfl (Nat.le_of_ble_eq_true rfl) ?_
  refine ab_aload_n de_M_letting_0 0 rfl ?_
  refine ab_aload_n de_M_letting_1 0 rfl ?_
  refine ab_get (v := .ref 33) fl_M_20 rfl rfl de_M_letting_2 ?_
  refine ab_iload_n de_M_letting_5 1 rfl ?_
  refine ab_iald (v := h 33 j) rfl (ab_in (by omega) (by decide)) (ab_hv (ab_tn (n := j) (by omega))) de_M_letting_6 ?_
  refine ab_top (v' := nI (cs j)) ((hcs j hj).1) ?_
  refine ab_cV (as := [.int (nI (cs j))]) (st := []) (ct_M_kindOf l _ nr h g rr (c := cs j) (hcs j hj).2.2 (hcs j hj).2.1) mo_M_kindOf mi_M_kindOf ml_M_110 rfl (by decide) rfl rfl rfl (Nat.le_of_ble_eq_true rfl) de_M_letting_7 (fun v_ M_ hK_ hl_ hv_ => ?_)
  obtain ⟨rfl, hm_⟩ := hK_
  have hm_ := hm_.symm
  subst hm_
  change ab_G _ _ _ _ _ _ _ [(0, .ref 30), (1, .int (nI j)), (2, .int x)] [.int (nI (sp_kd (cs j)))] (ab_S nr h g rr) _
  refine ab_top (v' := (6 : Int32)) (by rw [hk]; rfl) ?_
  refine ab_istore_n (L' := [(3, .int (6 : Int32)), (0, .ref 30), (1, .int (nI j)), (2, .int x)]) de_M_letting_10 (by decide) rfl ?_
  refine ab_iload_n de_M_letting_11 0 rfl ?_
  refine ab_iconst (v := 2) de_M_letting_12 rfl ?_
  refine ab_icmp_ne (tgt := 22) de_M_letting_13 rfl (fun c_13_1 => ?_) (fun c_13_1 => ?_)
  · refine ab_iload_n de_M_letting_22 0 rfl ?_
    refine ab_iconst (v := 3) de_M_letting_23 rfl ?_
    refine ab_icmp_ne (tgt := 33) de_M_letting_24 rfl (fun c_24_2 => ?_) (fun c_24_2 => ?_)
    · refine ab_iload_n de_M_letting_33 0 rfl ?_
      refine ab_iconst (v := 5) de_M_letting_34 rfl ?_
      refine ab_icmp_ne (tgt := 44) de_M_letting_35 rfl (fun c_35_3 => ?_) (fun c_35_3 => ?_)
      · refine ab_aload_n de_M_letting_44 1 rfl ?_
        refine ab_bipush (v := 11) de_M_letting_45 rfl ?_
        refine ab_cV (as := [.int (11 : Int32)]) (st := []) (ct_M_body l _ nr h g rr (bs := bs) hbs (by (try simp only [List.length_append, List.length_cons, List.length_nil]); omega) (11 : Int32)) mo_M_body mi_M_body ml_M_290 rfl (by decide) rfl rfl rfl (Nat.le_of_ble_eq_true rfl) de_M_letting_47 (fun v_ M_ hK_ hl_ hv_ => ?_)
        obtain ⟨rfl, h1_, rfl, tf1_, mt1_⟩ := hK_
        change ab_G _ _ _ _ _ _ _ [(3, .int (6 : Int32)), (0, .ref 30), (1, .int (nI j)), (2, .int x)] [] (ab_S nr h1_ g rr) _
        have tt1_ : md_tf h h1_ := md_tf_tr (md_tf_rf h) tf1_
        refine ab_aload_n de_M_letting_50 1 rfl ?_
        refine ab_iload_n de_M_letting_51 2 rfl ?_
        refine ab_iload_n de_M_letting_52 3 rfl ?_
        refine ab_cV (as := [.int (nI j), .int x]) (st := []) (ct_M_going_6 l _ nr h1_ g rr ((tt1_.2 0 (by decide)).trans hMR) hn5 (fun y hy => ⟨(congrFun (tt1_.1 33 (by decide) (by decide)) y).trans (hcs y hy).1, (hcs y hy).2⟩) (bs := (bs ++ [(11 : Int32)])) mt1_ (by (try simp only [List.length_append, List.length_cons, List.length_nil]); have l1_ := sp_leb_le (6 : Int32); omega) hj hk (x)) mo_M_going mi_M_going ml_M_293 rfl (by decide) rfl rfl rfl (Nat.le_of_ble_eq_true rfl) de_M_letting_53 (fun v_ M_ hK_ hl_ hv_ => ?_)
        obtain ⟨rfl, h2_, rfl, tf2_, mt2_⟩ := hK_
        change ab_G _ _ _ _ _ _ _ [(3, .int (6 : Int32)), (0, .ref 30), (1, .int (nI j)), (2, .int x)] [.int (sp_go (6 : Int32) (nI j) (x))] (ab_S nr h2_ g rr) _
        have tt2_ : md_tf h h2_ := md_tf_tr (tt1_) tf2_
        refine ab_iconst (v := 2) de_M_letting_56 rfl ?_
        refine ab_imul de_M_letting_57 ?_
        refine ab_istore (L' := [(4, .int ((sp_go (6 : Int32) (nI j) (x)) * (2 : Int32))), (3, .int (6 : Int32)), (0, .ref 30), (1, .int (nI j)), (2, .int x)]) de_M_letting_58 (by decide) rfl ?_
        refine ab_iload_n de_M_letting_60 1 rfl ?_
        refine ab_iconst (v := 2) de_M_letting_61 rfl ?_
        refine ab_icmp_ne (tgt := 81) de_M_letting_62 rfl (fun c_62_4 => ?_) (fun c_62_4 => ?_)
        · refine ab_iload_n de_M_letting_81 1 rfl ?_
          refine ab_iconst (v := 3) de_M_letting_82 rfl ?_
          refine ab_icmp_ne (tgt := 92) de_M_letting_83 rfl (fun c_83_5 => ?_) (fun c_83_5 => ?_)
          · refine ab_iload_n de_M_letting_92 1 rfl ?_
            refine ab_iconst (v := 5) de_M_letting_93 rfl ?_
            refine ab_icmp_ne (tgt := 105) de_M_letting_94 rfl (fun c_94_6 => ?_) (fun c_94_6 => ?_)
            · refine ab_iload de_M_letting_105 0 rfl ?_
              exact ab_ret (v := some (.int ((sp_go (6 : Int32) (nI j) (x)) * (2 : Int32)))) de_M_letting_107 ⟨_, rfl⟩ ⟨congrArg (fun z => some (Value.int z)) (by rfl), h2_, rfl, tt2_, by have z_ := mt2_; (try simp only [List.append_assoc] at z_); exact z_⟩
            · exact absurd c_94_6 (by decide)
          · exact absurd c_83_5 (by decide)
        · exact absurd c_62_4 (by decide)
      · exact absurd c_35_3 (by decide)
    · exact absurd c_24_2 (by decide)
  · exact absurd c_13_1 (by decide)
set_option maxHeartbeats 1000000 in
set_option maxRecDepth 10000 in
theorem ct_M_ending_6 (l : Launch) (d : Nat) (nr : Nat) (h : Nat → Nat → Int32) (g : Nat → Nat → Int64) (rr : Nat → Option Nat) {n_ : Nat} (hMR : h 30 0 = nI n_) (hn5 : n_ ≤ 8) {cs : Nat → Nat} (hcs : ∀ k, k < n_ → h 33 k = nI (cs k) ∧ 1 ≤ cs k ∧ cs k < 4096) {bs : List Int32} (hbs : mt_ok h bs) (hln : bs.length ≤ 9) {j : Nat} (hj : j < n_) (hk : sp_kd (cs j) = 6) (x : Int32) : ab_C l am_M_ending (d + 5) 0 0 [.ref 30, .int (nI j), .int x] (ab_S nr h g rr) (fun (r_ : Option Value) (M' : ab_Me) => r_ = some (.int (sp_ed (6 : Int32) (nI j) (nI (sp_pr (cs j))) x)) ∧ ∃ h', M' = ab_S nr h' g rr ∧ md_tf h h' ∧ mt_ok h' (bs ++ sp_edb (6 : Int32))) := by
  refine ab_C_of (by decide +kernel) rfl (Nat.le_of_ble_eq_true rfl) ?_
  refine ab_aload_n de_M_ending_0 0 rfl ?_
  refine ab_aload_n de_M_ending_1 0 rfl ?_
  refine ab_get (v := .ref 33) fl_M_20 rfl rfl de_M_ending_2 ?_
  refine ab_iload_n de_M_ending_5 1 rfl ?_
  refine ab_iald (v := h 33 j) rfl (ab_in (by omega) (by decide)) (ab_hv (ab_tn (n := j) (by omega))) de_M_ending_6 ?_
  refine ab_top (v' := nI (cs j)) ((hcs j hj).1) ?_
  refine ab_cV (as := [.int (nI (cs j))]) (st := []) (ct_M_kindOf l _ nr h g rr (c := cs j) (hcs j hj).2.2 (hcs j hj).2.1) mo_M_kindOf mi_M_kindOf ml_M_110 rfl (by decide) rfl rfl rfl (Nat.le_of_ble_eq_true rfl) de_M_ending_7 (fun v_ M_ hK_ hl_ hv_ => ?_)
  obtain ⟨rfl, hm_⟩ := hK_
  have hm_ := hm_.symm
  subst hm_
  change ab_G _ _ _ _ _ _ _ [(0, .ref 30), (1, .int (nI j)), (2, .int x)] [.int (nI (sp_kd (cs j)))] (ab_S nr h g rr) _
  refine ab_top (v' := (6 : Int32)) (by rw [hk]; rfl) ?_
  refine ab_istore_n (L' := [(3, .int (6 : Int32)), (0, .ref 30), (1, .int (nI j)), (2, .int x)]) de_M_ending_10 (by decide) rfl ?_
  refine ab_aload_n de_M_ending_11 1 rfl ?_
  refine ab_aload_n de_M_ending_12 1 rfl ?_
  refine ab_get (v := .ref 33) fl_M_20 rfl rfl de_M_ending_13 ?_
  refine ab_iload_n de_M_ending_16 2 rfl ?_
  refine ab_iald (v := h 33 j) rfl (ab_in (by omega) (by decide)) (ab_hv (ab_tn (n := j) (by omega))) de_M_ending_17 ?_
  refine ab_top (v' := nI (cs j)) ((hcs j hj).1) ?_
  refine ab_cV (as := [.int (nI (cs j))]) (st := []) (ct_M_priceOf l _ nr h g rr (c := cs j) (hcs j hj).2.2) mo_M_priceOf mi_M_priceOf ml_M_116 rfl (by decide) rfl rfl rfl (Nat.le_of_ble_eq_true rfl) de_M_ending_18 (fun v_ M_ hK_ hl_ hv_ => ?_)
  obtain ⟨rfl, hm_⟩ := hK_
  have hm_ := hm_.symm
  subst hm_
  change ab_G _ _ _ _ _ _ _ [(3, .int (6 : Int32)), (0, .ref 30), (1, .int (nI j)), (2, .int x)] [.int (nI (sp_pr (cs j)))] (ab_S nr h g rr) _
  refine ab_istore (L' := [(4, .int (nI (sp_pr (cs j)))), (3, .int (6 : Int32)), (0, .ref 30), (1, .int (nI j)), (2, .int x)]) de_M_ending_21 (by decide) rfl ?_
  refine ab_iload_n de_M_ending_23 4 rfl ?_
  refine ab_istore (L' := [(5, .int x), (4, .int (nI (sp_pr (cs j)))), (3, .int (6 : Int32)), (0, .ref 30), (1, .int (nI j)), (2, .int x)]) de_M_ending_24 (by decide) rfl ?_
  refine ab_iload_n de_M_ending_26 2 rfl ?_
  refine ab_iconst (v := 4) de_M_ending_27 rfl ?_
  refine ab_icmp_ne (tgt := 37) de_M_ending_28 rfl (fun c_28_1 => ?_) (fun c_28_1 => ?_)
  · refine ab_iload_n de_M_ending_37 2 rfl ?_
    refine ab_bipush (v := 6) de_M_ending_38 rfl ?_
    refine ab_icmp_ne (tgt := 49) de_M_ending_40 rfl (fun c_40_2 => ?_) (fun c_40_2 => ?_)
    · exact absurd rfl c_40_2
    · refine ab_aload_n de_M_ending_43 3 rfl ?_
      refine ab_bipush (v := 70) de_M_ending_44 rfl ?_
      refine ab_cV (as := [.int (70 : Int32)]) (st := []) (ct_M_body l _ nr h g rr (bs := bs) hbs (by (try simp only [List.length_append, List.length_cons, List.length_nil]); omega) (70 : Int32)) mo_M_body mi_M_body ml_M_290 rfl (by decide) rfl rfl rfl (Nat.le_of_ble_eq_true rfl) de_M_ending_46 (fun v_ M_ hK_ hl_ hv_ => ?_)
      obtain ⟨rfl, h1_, rfl, tf1_, mt1_⟩ := hK_
      change ab_G _ _ _ _ _ _ _ [(5, .int x), (4, .int (nI (sp_pr (cs j)))), (3, .int (6 : Int32)), (0, .ref 30), (1, .int (nI j)), (2, .int x)] [] (ab_S nr h1_ g rr) _
      have tt1_ : md_tf h h1_ := md_tf_tr (md_tf_rf h) tf1_
      refine ab_iload_n de_M_ending_49 2 rfl ?_
      refine ab_bipush (v := 7) de_M_ending_50 rfl ?_
      refine ab_icmp_ne (tgt := 67) de_M_ending_52 rfl (fun c_52_3 => ?_) (fun c_52_3 => ?_)
      · refine ab_aload_n de_M_ending_67 3 rfl ?_
        refine ab_bipush (v := 12) de_M_ending_68 rfl ?_
        refine ab_cV (as := [.int (12 : Int32)]) (st := []) (ct_M_body l _ nr h1_ g rr (bs := (bs ++ [(70 : Int32)])) mt1_ (by (try simp only [List.length_append, List.length_cons, List.length_nil]); omega) (12 : Int32)) mo_M_body mi_M_body ml_M_290 rfl (by decide) rfl rfl rfl (Nat.le_of_ble_eq_true rfl) de_M_ending_70 (fun v_ M_ hK_ hl_ hv_ => ?_)
        obtain ⟨rfl, h2_, rfl, tf2_, mt2_⟩ := hK_
        change ab_G _ _ _ _ _ _ _ [(5, .int x), (4, .int (nI (sp_pr (cs j)))), (3, .int (6 : Int32)), (0, .ref 30), (1, .int (nI j)), (2, .int x)] [] (ab_S nr h2_ g rr) _
        have tt2_ : md_tf h h2_ := md_tf_tr (tt1_) tf2_
        refine ab_aload_n de_M_ending_73 3 rfl ?_
        refine ab_iload_n de_M_ending_74 4 rfl ?_
        refine ab_iload de_M_ending_75 0 rfl ?_
        refine ab_cV (as := [.int (nI j), .int x]) (st := []) (ct_M_letting_6 l _ nr h2_ g rr ((tt2_.2 0 (by decide)).trans hMR) hn5 (fun y hy => ⟨(congrFun (tt2_.1 33 (by decide) (by decide)) y).trans (hcs y hy).1, (hcs y hy).2⟩) (bs := ((bs ++ [(70 : Int32)]) ++ [(12 : Int32)])) mt2_ (by (try simp only [List.length_append, List.length_cons, List.length_nil]); have l1_ := sp_leb_le (6 : Int32); omega) hj hk (x)) mo_M_letting mi_M_letting ml_M_296 rfl (by decide) rfl rfl rfl (Nat.le_of_ble_eq_true rfl) de_M_ending_77 (fun v_ M_ hK_ hl_ hv_ => ?_)
        obtain ⟨rfl, h3_, rfl, tf3_, mt3_⟩ := hK_
        change ab_G _ _ _ _ _ _ _ [(5, .int x), (4, .int (nI (sp_pr (cs j)))), (3, .int (6 : Int32)), (0, .ref 30), (1, .int (nI j)), (2, .int x)] [.int (sp_le (6 : Int32) (nI j) (nI (sp_pr (cs j))) (x))] (ab_S nr h3_ g rr) _
        have tt3_ : md_tf h h3_ := md_tf_tr (tt2_) tf3_
        refine ab_istore (L' := [(6, .int (sp_le (6 : Int32) (nI j) (nI (sp_pr (cs j))) (x))), (5, .int x), (4, .int (nI (sp_pr (cs j)))), (3, .int (6 : Int32)), (0, .ref 30), (1, .int (nI j)), (2, .int x)]) de_M_ending_80 (by decide) rfl ?_
        refine ab_iload de_M_ending_82 0 rfl ?_
        refine ab_aload_n de_M_ending_84 4 rfl ?_
        refine ab_iload_n de_M_ending_85 5 rfl ?_
        refine ab_iload de_M_ending_86 1 rfl ?_
        refine ab_iload de_M_ending_88 2 rfl ?_
        refine ab_isub de_M_ending_90 ?_
        refine ab_cV (as := [.int (nI j), .int (x - (nI (sp_pr (cs j))))]) (st := [.int (sp_le (6 : Int32) (nI j) (nI (sp_pr (cs j))) (x))]) (ct_M_going_6 l _ nr h3_ g rr ((tt3_.2 0 (by decide)).trans hMR) hn5 (fun y hy => ⟨(congrFun (tt3_.1 33 (by decide) (by decide)) y).trans (hcs y hy).1, (hcs y hy).2⟩) (bs := (((bs ++ [(70 : Int32)]) ++ [(12 : Int32)]) ++ sp_leb (6 : Int32))) mt3_ (by (try simp only [List.length_append, List.length_cons, List.length_nil]); have l1_ := sp_leb_le (6 : Int32); omega) hj hk (x - (nI (sp_pr (cs j))))) mo_M_going mi_M_going ml_M_293 rfl (by decide) rfl rfl rfl (Nat.le_of_ble_eq_true rfl) de_M_ending_91 (fun v_ M_ hK_ hl_ hv_ => ?_)
        obtain ⟨rfl, h4_, rfl, tf4_, mt4_⟩ := hK_
        change ab_G _ _ _ _ _ _ _ [(6, .int (sp_le (6 : Int32) (nI j) (nI (sp_pr (cs j))) (x))), (5, .int x), (4, .int (nI (sp_pr (cs j)))), (3, .int (6 : Int32)), (0, .ref 30), (1, .int (nI j)), (2, .int x)] [.int (sp_go (6 : Int32) (nI j) (x - (nI (sp_pr (cs j))))), .int (sp_le (6 : Int32) (nI j) (nI (sp_pr (cs j))) (x))] (ab_S nr h4_ g rr) _
        have tt4_ : md_tf h h4_ := md_tf_tr (tt3_) tf4_
        refine ab_ixor de_M_ending_94 ?_
        refine ab_istore (L' := [(6, .int ((sp_le (6 : Int32) (nI j) (nI (sp_pr (cs j))) (x)) ^^^ (sp_go (6 : Int32) (nI j) (x - (nI (sp_pr (cs j))))))), (5, .int x), (4, .int (nI (sp_pr (cs j)))), (3, .int (6 : Int32)), (0, .ref 30), (1, .int (nI j)), (2, .int x)]) de_M_ending_95 (by decide) rfl ?_
        refine ab_iload_n de_M_ending_97 3 rfl ?_
        refine ab_iconst (v := 4) de_M_ending_98 rfl ?_
        refine ab_icmp_ne (tgt := 109) de_M_ending_99 rfl (fun c_99_4 => ?_) (fun c_99_4 => ?_)
        · refine ab_iload_n de_M_ending_109 3 rfl ?_
          refine ab_bipush (v := 6) de_M_ending_110 rfl ?_
          refine ab_icmp_ne (tgt := 122) de_M_ending_112 rfl (fun c_112_5 => ?_) (fun c_112_5 => ?_)
          · exact absurd rfl c_112_5
          · refine ab_iload de_M_ending_115 0 rfl ?_
            refine ab_iconst (v := 2) de_M_ending_117 rfl ?_
            refine ab_imul de_M_ending_118 ?_
            refine ab_goto (tgt := 124) de_M_ending_119 rfl ?_
            exact ab_ret (v := some (.int (((sp_le (6 : Int32) (nI j) (nI (sp_pr (cs j))) (x)) ^^^ (sp_go (6 : Int32) (nI j) (x - (nI (sp_pr (cs j)))))) * (2 : Int32)))) de_M_ending_124 ⟨_, rfl⟩ ⟨congrArg (fun z => some (Value.int z)) (by rfl), h4_, rfl, tt4_, by have z_ := mt4_; (try simp only [List.append_assoc] at z_); exact z_⟩
        · exact absurd c_99_4 (by decide)
      · exact absurd c_52_3 (by decide)
  · exact absurd c_28_1 (by decide)
set_option maxHeartbeats 1000000 in
set_option maxRecDepth 10000 in
theorem ct_M_going_7 (l : Launch) (d : Nat) (nr : Nat) (h : Nat → Nat → Int32) (g : Nat → Nat → Int64) (rr : Nat → Option Nat) {n_ : Nat} (hMR : h 30 0 = nI n_) (hn5 : n_ ≤ 8) {cs : Nat → Nat} (hcs : ∀ k, k < n_ → h 33 k = nI (cs k) ∧ 1 ≤ cs k ∧ cs k < 4096) {bs : List Int32} (hbs : mt_ok h bs) (hln : bs.length ≤ 16) {j : Nat} (hj : j < n_) (hk : sp_kd (cs j) = 7) (x : Int32) : ab_C l am_M_going (d + 3) 0 0 [.ref 30, .int (nI j), .int x] (ab_S nr h g rr) (fun (r_ : Option Value) (M' : ab_Me) => r_ = some (.int (sp_go (7 : Int32) (nI j) x)) ∧ ∃ h', M' = ab_S nr h' g rr ∧ md_tf h h' ∧ mt_ok h' (bs ++ sp_gob (7 : Int32))) := by
  refine ab_C_of (by decide +kernel) rfl (Nat.le_of_ble_eq_true rfl) ?_
  refine ab_aload_n de_M_going_0 0 rfl ?_
  refine ab_aload_n de_M_going_1 0 rfl ?_
  refine ab_get (v := .ref 33) fl_M_20 rfl rfl de_M_going_2 ?_
  refine ab_iload_n de_M_going_5 1 rfl ?_
  refine ab_iald (v := h 33 j) rfl (ab_in (by omega) (by decide)) (ab_hv (ab_tn (n := j) (by omega))) de_M_going_6 ?_
  refine ab_top (v' := nI (cs j)) ((hcs j hj).1) ?_
  refine ab_cV (as := [.int (nI (cs j))]) (st := []) (ct_M_kindOf l _ nr h g rr (c := cs j) (hcs j hj).2.2 (hcs j hj).2.1) mo_M_kindOf mi_M_kindOf ml_M_110 rfl (by decide) rfl rfl rfl (Nat.le_of_ble_eq_true rfl) de_M_going_7 (fun v_ M_ hK_ hl_ hv_ => ?_)
  obtain ⟨rfl, hm_⟩ := hK_
  have hm_ := hm_.symm
  subst hm_
  change ab_G _ _ _ _ _ _ _ [(0, .ref 30), (1, .int (nI j)), (2, .int x)] [.int (nI (sp_kd (cs j)))] (ab_S nr h g rr) _
  refine ab_top (v' := (7 : Int32)) (by rw [hk]; rfl) ?_
  refine ab_istore_n (L' := [(3, .int (7 : Int32)), (0, .ref 30), (1, .int (nI j)), (2, .int x)]) de_M_going_10 (by decide) rfl ?_
  refine ab_iload_n de_M_going_11 3 rfl ?_
  refine ab_istore (L' := [(4, .int x), (3, .int (7 : Int32)), (0, .ref 30), (1, .int (nI j)), (2, .int x)]) de_M_going_12 (by decide) rfl ?_
  refine ab_iload_n de_M_going_14 1 rfl ?_
  refine ab_bipush (v := 7) de_M_going_15 rfl ?_
  refine ab_icmp_ne (tgt := 26) de_M_going_17 rfl (fun c_17_1 => ?_) (fun c_17_1 => ?_)
  · exact absurd rfl c_17_1
  · refine ab_aload_n de_M_going_20 2 rfl ?_
    refine ab_bipush (v := 80) de_M_going_21 rfl ?_
    refine ab_cV (as := [.int (80 : Int32)]) (st := []) (ct_M_body l _ nr h g rr (bs := bs) hbs (by (try simp only [List.length_append, List.length_cons, List.length_nil]); omega) (80 : Int32)) mo_M_body mi_M_body ml_M_290 rfl (by decide) rfl rfl rfl (Nat.le_of_ble_eq_true rfl) de_M_going_23 (fun v_ M_ hK_ hl_ hv_ => ?_)
    obtain ⟨rfl, h1_, rfl, tf1_, mt1_⟩ := hK_
    change ab_G _ _ _ _ _ _ _ [(4, .int x), (3, .int (7 : Int32)), (0, .ref 30), (1, .int (nI j)), (2, .int x)] [] (ab_S nr h1_ g rr) _
    have tt1_ : md_tf h h1_ := md_tf_tr (md_tf_rf h) tf1_
    refine ab_iload_n de_M_going_26 1 rfl ?_
    refine ab_iconst (v := 2) de_M_going_27 rfl ?_
    refine ab_icmp_ne (tgt := 42) de_M_going_28 rfl (fun c_28_2 => ?_) (fun c_28_2 => ?_)
    · refine ab_iload_n de_M_going_42 1 rfl ?_
      refine ab_iconst (v := 1) de_M_going_43 rfl ?_
      refine ab_icmp_eq (tgt := 52) de_M_going_44 rfl (fun c_44_3 => ?_) (fun c_44_3 => ?_)
      · exact absurd c_44_3 (by decide)
      · refine ab_iload_n de_M_going_47 1 rfl ?_
        refine ab_iconst (v := 2) de_M_going_48 rfl ?_
        refine ab_icmp_ne (tgt := 58) de_M_going_49 rfl (fun c_49_4 => ?_) (fun c_49_4 => ?_)
        · refine ab_aload_n de_M_going_58 2 rfl ?_
          refine ab_bipush (v := 10) de_M_going_59 rfl ?_
          refine ab_cV (as := [.int (10 : Int32)]) (st := []) (ct_M_body l _ nr h1_ g rr (bs := (bs ++ [(80 : Int32)])) mt1_ (by (try simp only [List.length_append, List.length_cons, List.length_nil]); omega) (10 : Int32)) mo_M_body mi_M_body ml_M_290 rfl (by decide) rfl rfl rfl (Nat.le_of_ble_eq_true rfl) de_M_going_61 (fun v_ M_ hK_ hl_ hv_ => ?_)
          obtain ⟨rfl, h2_, rfl, tf2_, mt2_⟩ := hK_
          change ab_G _ _ _ _ _ _ _ [(4, .int x), (3, .int (7 : Int32)), (0, .ref 30), (1, .int (nI j)), (2, .int x)] [] (ab_S nr h2_ g rr) _
          have tt2_ : md_tf h h2_ := md_tf_tr (tt1_) tf2_
          refine ab_iload de_M_going_64 0 rfl ?_
          refine ab_iload_n de_M_going_66 3 rfl ?_
          refine ab_iadd de_M_going_67 ?_
          refine ab_istore (L' := [(5, .int (x + (nI j))), (4, .int x), (3, .int (7 : Int32)), (0, .ref 30), (1, .int (nI j)), (2, .int x)]) de_M_going_68 (by decide) rfl ?_
          refine ab_iload_n de_M_going_70 2 rfl ?_
          refine ab_iconst (v := 1) de_M_going_71 rfl ?_
          refine ab_icmp_eq (tgt := 80) de_M_going_72 rfl (fun c_72_5 => ?_) (fun c_72_5 => ?_)
          · exact absurd c_72_5 (by decide)
          · refine ab_iload_n de_M_going_75 2 rfl ?_
            refine ab_iconst (v := 2) de_M_going_76 rfl ?_
            refine ab_icmp_ne (tgt := 86) de_M_going_77 rfl (fun c_77_6 => ?_) (fun c_77_6 => ?_)
            · refine ab_iload_n de_M_going_86 2 rfl ?_
              refine ab_bipush (v := 7) de_M_going_87 rfl ?_
              refine ab_icmp_ne (tgt := 100) de_M_going_89 rfl (fun c_89_7 => ?_) (fun c_89_7 => ?_)
              · exact absurd rfl c_89_7
              · refine ab_iload de_M_going_92 0 rfl ?_
                refine ab_bipush (v := 7) de_M_going_94 rfl ?_
                refine ab_isub de_M_going_96 ?_
                refine ab_goto (tgt := 102) de_M_going_97 rfl ?_
                exact ab_ret (v := some (.int ((x + (nI j)) - (7 : Int32)))) de_M_going_102 ⟨_, rfl⟩ ⟨congrArg (fun z => some (Value.int z)) (by rfl), h2_, rfl, tt2_, by have z_ := mt2_; (try simp only [List.append_assoc] at z_); exact z_⟩
            · exact absurd c_77_6 (by decide)
        · exact absurd c_49_4 (by decide)
    · exact absurd c_28_2 (by decide)
set_option maxHeartbeats 1000000 in
set_option maxRecDepth 10000 in
theorem ct_M_letting_7 (l : Launch) (d : Nat) (nr : Nat) (h : Nat → Nat → Int32) (g : Nat → Nat → Int64) (rr : Nat → Option Nat) {n_ : Nat} (hMR : h 30 0 = nI n_) (hn5 : n_ ≤ 8) {cs : Nat → Nat} (hcs : ∀ k, k < n_ → h 33 k = nI (cs k) ∧ 1 ≤ cs k ∧ cs k < 4096) {bs : List Int32} (hbs : mt_ok h bs) (hln : bs.length ≤ 14) {j : Nat} (hj : j < n_) (hk : sp_kd (cs j) = 7) (x : Int32) : ab_C l am_M_letting (d + 4) 0 0 [.ref 30, .int (nI j), .int x] (ab_S nr h g rr) (fun (r_ : Option Value) (M' : ab_Me) => r_ = some (.int (sp_le (7 : Int32) (nI j) (nI (sp_pr (cs j))) x)) ∧ ∃ h', M' = ab_S nr h' g rr ∧ md_tf h h' ∧ mt_ok h' (bs ++ sp_leb (7 : Int32))) := by
  refine ab_C_of (by decide +kernel) rfl (Nat.le_of_ble_eq_true rfl) ?_
  refine ab_aload_n de_M_letting_0 0 rfl ?_
  refine ab_aload_n de_M_letting_1 0 rfl ?_
  refine ab_get (v := .ref 33) fl_M_20 rfl rfl de_M_letting_2 ?_
  refine ab_iload_n de_M_letting_5 1 rfl ?_
  refine ab_iald (v := h 33 j) rfl (ab_in (by omega) (by decide)) (ab_hv (ab_tn (n := j) (by omega))) de_M_letting_6 ?_
  refine ab_top (v' := nI (cs j)) ((hcs j hj).1) ?_
  refine ab_cV (as := [.int (nI (cs j))]) (st := []) (ct_M_kindOf l _ nr h g rr (c := cs j) (hcs j hj).2.2 (hcs j hj).2.1) mo_M_kindOf mi_M_kindOf ml_M_110 rfl (by decide) rfl rfl rfl (Nat.le_of_ble_eq_true rfl) de_M_letting_7 (fun v_ M_ hK_ hl_ hv_ => ?_)
  obtain ⟨rfl, hm_⟩ := hK_
  have hm_ := hm_.symm
  subst hm_
  change ab_G _ _ _ _ _ _ _ [(0, .ref 30), (1, .int (nI j)), (2, .int x)] [.int (nI (sp_kd (cs j)))] (ab_S nr h g rr) _
  refine ab_top (v' := (7 : Int32)) (by rw [hk]; rfl) ?_
  refine ab_istore_n (L' := [(3, .int (7 : Int32)), (0, .ref 30), (1, .int (nI j)), (2, .int x)]) de_M_letting_10 (by decide) rfl ?_
  refine ab_iload_n de_M_letting_11 0 rfl ?_
  refine ab_iconst (v := 2) de_M_letting_12 rfl ?_
  refine ab_icmp_ne (tgt := 22) de_M_letting_13 rfl (fun c_13_1 => ?_) (fun c_13_1 => ?_)
  · refine ab_iload_n de_M_letting_22 0 rfl ?_
    refine ab_iconst (v := 3) de_M_letting_23 rfl ?_
    refine ab_icmp_ne (tgt := 33) de_M_letting_24 rfl (fun c_24_2 => ?_) (fun c_24_2 => ?_)
    · refine ab_iload_n de_M_letting_33 0 rfl ?_
      refine ab_iconst (v := 5) de_M_letting_34 rfl ?_
      refine ab_icmp_ne (tgt := 44) de_M_letting_35 rfl (fun c_35_3 => ?_) (fun c_35_3 => ?_)
      · refine ab_aload_n de_M_letting_44 1 rfl ?_
        refine ab_bipush (v := 11) de_M_letting_45 rfl ?_
        refine ab_cV (as := [.int (11 : Int32)]) (st := []) (ct_M_body l _ nr h g rr (bs := bs) hbs (by (try simp only [List.length_append, List.length_cons, List.length_nil]); omega) (11 : Int32)) mo_M_body mi_M_body ml_M_290 rfl (by decide) rfl rfl rfl (Nat.le_of_ble_eq_true rfl) de_M_letting_47 (fun v_ M_ hK_ hl_ hv_ => ?_)
        obtain ⟨rfl, h1_, rfl, tf1_, mt1_⟩ := hK_
        change ab_G _ _ _ _ _ _ _ [(3, .int (7 : Int32)), (0, .ref 30), (1, .int (nI j)), (2, .int x)] [] (ab_S nr h1_ g rr) _
        have tt1_ : md_tf h h1_ := md_tf_tr (md_tf_rf h) tf1_
        refine ab_aload_n de_M_letting_50 1 rfl ?_
        refine ab_iload_n de_M_letting_51 2 rfl ?_
        refine ab_iload_n de_M_letting_52 3 rfl ?_
        refine ab_cV (as := [.int (nI j), .int x]) (st := []) (ct_M_going_7 l _ nr h1_ g rr ((tt1_.2 0 (by decide)).trans hMR) hn5 (fun y hy => ⟨(congrFun (tt1_.1 33 (by decide) (by decide)) y).trans (hcs y hy).1, (hcs y hy).2⟩) (bs := (bs ++ [(11 : Int32)])) mt1_ (by (try simp only [List.length_append, List.length_cons, List.length_nil]); have l1_ := sp_leb_le (7 : Int32); omega) hj hk (x)) mo_M_going mi_M_going ml_M_293 rfl (by decide) rfl rfl rfl (Nat.le_of_ble_eq_true rfl) de_M_letting_53 (fun v_ M_ hK_ hl_ hv_ => ?_)
        obtain ⟨rfl, h2_, rfl, tf2_, mt2_⟩ := hK_
        change ab_G _ _ _ _ _ _ _ [(3, .int (7 : Int32)), (0, .ref 30), (1, .int (nI j)), (2, .int x)] [.int (sp_go (7 : Int32) (nI j) (x))] (ab_S nr h2_ g rr) _
        have tt2_ : md_tf h h2_ := md_tf_tr (tt1_) tf2_
        refine ab_iconst (v := 2) de_M_letting_56 rfl ?_
        refine ab_imul de_M_letting_57 ?_
        refine ab_istore (L' := [(4, .int ((sp_go (7 : Int32) (nI j) (x)) * (2 : Int32))), (3, .int (7 : Int32)), (0, .ref 30), (1, .int (nI j)), (2, .int x)]) de_M_letting_58 (by decide) rfl ?_
        refine ab_iload_n de_M_letting_60 1 rfl ?_
        refine ab_iconst (v := 2) de_M_letting_61 rfl ?_
        refine ab_icmp_ne (tgt := 81) de_M_letting_62 rfl (fun c_62_4 => ?_) (fun c_62_4 => ?_)
        · refine ab_iload_n de_M_letting_81 1 rfl ?_
          refine ab_iconst (v := 3) de_M_letting_82 rfl ?_
          refine ab_icmp_ne (tgt := 92) de_M_letting_83 rfl (fun c_83_5 => ?_) (fun c_83_5 => ?_)
          · refine ab_iload_n de_M_letting_92 1 rfl ?_
            refine ab_iconst (v := 5) de_M_letting_93 rfl ?_
            refine ab_icmp_ne (tgt := 105) de_M_letting_94 rfl (fun c_94_6 => ?_) (fun c_94_6 => ?_)
            · refine ab_iload de_M_letting_105 0 rfl ?_
              exact ab_ret (v := some (.int ((sp_go (7 : Int32) (nI j) (x)) * (2 : Int32)))) de_M_letting_107 ⟨_, rfl⟩ ⟨congrArg (fun z => some (Value.int z)) (by rfl), h2_, rfl, tt2_, by have z_ := mt2_; (try simp only [List.append_assoc] at z_); exact z_⟩
            · exact absurd c_94_6 (by decide)
          · exact absurd c_83_5 (by decide)
        · exact absurd c_62_4 (by decide)
      · exact absurd c_35_3 (by decide)
    · exact absurd c_24_2 (by decide)
  · exact absurd c_13_1 (by decide)
set_option maxHeartbeats 1000000 in
set_option maxRecDepth 10000 in
theorem ct_M_ending_7 (l : Launch) (d : Nat) (nr : Nat) (h : Nat → Nat → Int32) (g : Nat → Nat → Int64) (rr : Nat → Option Nat) {n_ : Nat} (hMR : h 30 0 = nI n_) (hn5 : n_ ≤ 8) {cs : Nat → Nat} (hcs : ∀ k, k < n_ → h 33 k = nI (cs k) ∧ 1 ≤ cs k ∧ cs k < 4096) {bs : List Int32} (hbs : mt_ok h bs) (hln : bs.length ≤ 9) {j : Nat} (hj : j < n_) (hk : sp_kd (cs j) = 7) (x : Int32) : ab_C l am_M_ending (d + 5) 0 0 [.ref 30, .int (nI j), .int x] (ab_S nr h g rr) (fun (r_ : Option Value) (M' : ab_Me) => r_ = some (.int (sp_ed (7 : Int32) (nI j) (nI (sp_pr (cs j))) x)) ∧ ∃ h', M' = ab_S nr h' g rr ∧ md_tf h h' ∧ mt_ok h' (bs ++ sp_edb (7 : Int32))) := by
  refine ab_C_of (by decide +kernel) rfl (Nat.le_of_ble_eq_true rfl) ?_
  refine ab_aload_n de_M_ending_0 0 rfl ?_
  refine ab_aload_n de_M_ending_1 0 rfl ?_
  refine ab_get (v := .ref 33) fl_M_20 rfl rfl de_M_ending_2 ?_
  refine ab_iload_n de_M_ending_5 1 rfl ?_
  refine ab_iald (v := h 33 j) rfl (ab_in (by omega) (by decide)) (ab_hv (ab_tn (n := j) (by omega))) de_M_ending_6 ?_
  refine ab_top (v' := nI (cs j)) ((hcs j hj).1) ?_
  refine ab_cV (as := [.int (nI (cs j))]) (st := []) (ct_M_kindOf l _ nr h g rr (c := cs j) (hcs j hj).2.2 (hcs j hj).2.1) mo_M_kindOf mi_M_kindOf ml_M_110 rfl (by decide) rfl rfl rfl (Nat.le_of_ble_eq_true rfl) de_M_ending_7 (fun v_ M_ hK_ hl_ hv_ => ?_)
  obtain ⟨rfl, hm_⟩ := hK_
  have hm_ := hm_.symm
  subst hm_
  change ab_G _ _ _ _ _ _ _ [(0, .ref 30), (1, .int (nI j)), (2, .int x)] [.int (nI (sp_kd (cs j)))] (ab_S nr h g rr) _
  refine ab_top (v' := (7 : Int32)) (by rw [hk]; rfl) ?_
  refine ab_istore_n (L' := [(3, .int (7 : Int32)), (0, .ref 30), (1, .int (nI j)), (2, .int x)]) de_M_ending_10 (by decide) rfl ?_
  refine ab_aload_n de_M_ending_11 1 rfl ?_
  refine ab_aload_n de_M_ending_12 1 rfl ?_
  refine ab_get (v := .ref 33) fl_M_20 rfl rfl de_M_ending_13 ?_
  refine ab_iload_n de_M_ending_16 2 rfl ?_
  refine ab_iald (v := h 33 j) rfl (ab_in (by omega) (by decide)) (ab_hv (ab_tn (n := j) (by omega))) de_M_ending_17 ?_
  refine ab_top (v' := nI (cs j)) ((hcs j hj).1) ?_
  refine ab_cV (as := [.int (nI (cs j))]) (st := []) (ct_M_priceOf l _ nr h g rr (c := cs j) (hcs j hj).2.2) mo_M_priceOf mi_M_priceOf ml_M_116 rfl (by decide) rfl rfl rfl (Nat.le_of_ble_eq_true rfl) de_M_ending_18 (fun v_ M_ hK_ hl_ hv_ => ?_)
  obtain ⟨rfl, hm_⟩ := hK_
  have hm_ := hm_.symm
  subst hm_
  change ab_G _ _ _ _ _ _ _ [(3, .int (7 : Int32)), (0, .ref 30), (1, .int (nI j)), (2, .int x)] [.int (nI (sp_pr (cs j)))] (ab_S nr h g rr) _
  refine ab_istore (L' := [(4, .int (nI (sp_pr (cs j)))), (3, .int (7 : Int32)), (0, .ref 30), (1, .int (nI j)), (2, .int x)]) de_M_ending_21 (by decide) rfl ?_
  refine ab_iload_n de_M_ending_23 4 rfl ?_
  refine ab_istore (L' := [(5, .int x), (4, .int (nI (sp_pr (cs j)))), (3, .int (7 : Int32)), (0, .ref 30), (1, .int (nI j)), (2, .int x)]) de_M_ending_24 (by decide) rfl ?_
  refine ab_iload_n de_M_ending_26 2 rfl ?_
  refine ab_iconst (v := 4) de_M_ending_27 rfl ?_
  refine ab_icmp_ne (tgt := 37) de_M_ending_28 rfl (fun c_28_1 => ?_) (fun c_28_1 => ?_)
  · refine ab_iload_n de_M_ending_37 2 rfl ?_
    refine ab_bipush (v := 6) de_M_ending_38 rfl ?_
    refine ab_icmp_ne (tgt := 49) de_M_ending_40 rfl (fun c_40_2 => ?_) (fun c_40_2 => ?_)
    · refine ab_iload_n de_M_ending_49 2 rfl ?_
      refine ab_bipush (v := 7) de_M_ending_50 rfl ?_
      refine ab_icmp_ne (tgt := 67) de_M_ending_52 rfl (fun c_52_3 => ?_) (fun c_52_3 => ?_)
      · exact absurd rfl c_52_3
      · refine ab_aload_n de_M_ending_55 3 rfl ?_
        refine ab_bipush (v := 81) de_M_ending_56 rfl ?_
        refine ab_cV (as := [.int (81 : Int32)]) (st := []) (ct_M_body l _ nr h g rr (bs := bs) hbs (by (try simp only [List.length_append, List.length_cons, List.length_nil]); omega) (81 : Int32)) mo_M_body mi_M_body ml_M_290 rfl (by decide) rfl rfl rfl (Nat.le_of_ble_eq_true rfl) de_M_ending_58 (fun v_ M_ hK_ hl_ hv_ => ?_)
        obtain ⟨rfl, h1_, rfl, tf1_, mt1_⟩ := hK_
        change ab_G _ _ _ _ _ _ _ [(5, .int x), (4, .int (nI (sp_pr (cs j)))), (3, .int (7 : Int32)), (0, .ref 30), (1, .int (nI j)), (2, .int x)] [] (ab_S nr h1_ g rr) _
        have tt1_ : md_tf h h1_ := md_tf_tr (md_tf_rf h) tf1_
        refine ab_iload_n de_M_ending_61 5 rfl ?_
        refine ab_iload de_M_ending_62 1 rfl ?_
        refine ab_iadd de_M_ending_64 ?_
        refine ab_istore (L' := [(5, .int (x + (nI (sp_pr (cs j))))), (4, .int (nI (sp_pr (cs j)))), (3, .int (7 : Int32)), (0, .ref 30), (1, .int (nI j)), (2, .int x)]) de_M_ending_65 (by decide) rfl ?_
        refine ab_aload_n de_M_ending_67 3 rfl ?_
        refine ab_bipush (v := 12) de_M_ending_68 rfl ?_
        refine ab_cV (as := [.int (12 : Int32)]) (st := []) (ct_M_body l _ nr h1_ g rr (bs := (bs ++ [(81 : Int32)])) mt1_ (by (try simp only [List.length_append, List.length_cons, List.length_nil]); omega) (12 : Int32)) mo_M_body mi_M_body ml_M_290 rfl (by decide) rfl rfl rfl (Nat.le_of_ble_eq_true rfl) de_M_ending_70 (fun v_ M_ hK_ hl_ hv_ => ?_)
        obtain ⟨rfl, h2_, rfl, tf2_, mt2_⟩ := hK_
        change ab_G _ _ _ _ _ _ _ [(5, .int (x + (nI (sp_pr (cs j))))), (4, .int (nI (sp_pr (cs j)))), (3, .int (7 : Int32)), (0, .ref 30), (1, .int (nI j)), (2, .int x)] [] (ab_S nr h2_ g rr) _
        have tt2_ : md_tf h h2_ := md_tf_tr (tt1_) tf2_
        refine ab_aload_n de_M_ending_73 3 rfl ?_
        refine ab_iload_n de_M_ending_74 4 rfl ?_
        refine ab_iload de_M_ending_75 0 rfl ?_
        refine ab_cV (as := [.int (nI j), .int (x + (nI (sp_pr (cs j))))]) (st := []) (ct_M_letting_7 l _ nr h2_ g rr ((tt2_.2 0 (by decide)).trans hMR) hn5 (fun y hy => ⟨(congrFun (tt2_.1 33 (by decide) (by decide)) y).trans (hcs y hy).1, (hcs y hy).2⟩) (bs := ((bs ++ [(81 : Int32)]) ++ [(12 : Int32)])) mt2_ (by (try simp only [List.length_append, List.length_cons, List.length_nil]); have l1_ := sp_leb_le (7 : Int32); omega) hj hk (x + (nI (sp_pr (cs j))))) mo_M_letting mi_M_letting ml_M_296 rfl (by decide) rfl rfl rfl (Nat.le_of_ble_eq_true rfl) de_M_ending_77 (fun v_ M_ hK_ hl_ hv_ => ?_)
        obtain ⟨rfl, h3_, rfl, tf3_, mt3_⟩ := hK_
        change ab_G _ _ _ _ _ _ _ [(5, .int (x + (nI (sp_pr (cs j))))), (4, .int (nI (sp_pr (cs j)))), (3, .int (7 : Int32)), (0, .ref 30), (1, .int (nI j)), (2, .int x)] [.int (sp_le (7 : Int32) (nI j) (nI (sp_pr (cs j))) (x + (nI (sp_pr (cs j)))))] (ab_S nr h3_ g rr) _
        have tt3_ : md_tf h h3_ := md_tf_tr (tt2_) tf3_
        refine ab_istore (L' := [(6, .int (sp_le (7 : Int32) (nI j) (nI (sp_pr (cs j))) (x + (nI (sp_pr (cs j)))))), (5, .int (x + (nI (sp_pr (cs j))))), (4, .int (nI (sp_pr (cs j)))), (3, .int (7 : Int32)), (0, .ref 30), (1, .int (nI j)), (2, .int x)]) de_M_ending_80 (by decide) rfl ?_
        refine ab_iload de_M_ending_82 0 rfl ?_
        refine ab_aload_n de_M_ending_84 4 rfl ?_
        refine ab_iload_n de_M_ending_85 5 rfl ?_
        refine ab_iload de_M_ending_86 1 rfl ?_
        refine ab_iload de_M_ending_88 2 rfl ?_
        refine ab_isub de_M_ending_90 ?_
        refine ab_cV (as := [.int (nI j), .int ((x + (nI (sp_pr (cs j)))) - (nI (sp_pr (cs j))))]) (st := [.int (sp_le (7 : Int32) (nI j) (nI (sp_pr (cs j))) (x + (nI (sp_pr (cs j)))))]) (ct_M_going_7 l _ nr h3_ g rr ((tt3_.2 0 (by decide)).trans hMR) hn5 (fun y hy => ⟨(congrFun (tt3_.1 33 (by decide) (by decide)) y).trans (hcs y hy).1, (hcs y hy).2⟩) (bs := (((bs ++ [(81 : Int32)]) ++ [(12 : Int32)]) ++ sp_leb (7 : Int32))) mt3_ (by (try simp only [List.length_append, List.length_cons, List.length_nil]); have l1_ := sp_leb_le (7 : Int32); omega) hj hk ((x + (nI (sp_pr (cs j)))) - (nI (sp_pr (cs j))))) mo_M_going mi_M_going ml_M_293 rfl (by decide) rfl rfl rfl (Nat.le_of_ble_eq_true rfl) de_M_ending_91 (fun v_ M_ hK_ hl_ hv_ => ?_)
        obtain ⟨rfl, h4_, rfl, tf4_, mt4_⟩ := hK_
        change ab_G _ _ _ _ _ _ _ [(6, .int (sp_le (7 : Int32) (nI j) (nI (sp_pr (cs j))) (x + (nI (sp_pr (cs j)))))), (5, .int (x + (nI (sp_pr (cs j))))), (4, .int (nI (sp_pr (cs j)))), (3, .int (7 : Int32)), (0, .ref 30), (1, .int (nI j)), (2, .int x)] [.int (sp_go (7 : Int32) (nI j) ((x + (nI (sp_pr (cs j)))) - (nI (sp_pr (cs j))))), .int (sp_le (7 : Int32) (nI j) (nI (sp_pr (cs j))) (x + (nI (sp_pr (cs j)))))] (ab_S nr h4_ g rr) _
        have tt4_ : md_tf h h4_ := md_tf_tr (tt3_) tf4_
        refine ab_ixor de_M_ending_94 ?_
        refine ab_istore (L' := [(6, .int ((sp_le (7 : Int32) (nI j) (nI (sp_pr (cs j))) (x + (nI (sp_pr (cs j))))) ^^^ (sp_go (7 : Int32) (nI j) ((x + (nI (sp_pr (cs j)))) - (nI (sp_pr (cs j))))))), (5, .int (x + (nI (sp_pr (cs j))))), (4, .int (nI (sp_pr (cs j)))), (3, .int (7 : Int32)), (0, .ref 30), (1, .int (nI j)), (2, .int x)]) de_M_ending_95 (by decide) rfl ?_
        refine ab_iload_n de_M_ending_97 3 rfl ?_
        refine ab_iconst (v := 4) de_M_ending_98 rfl ?_
        refine ab_icmp_ne (tgt := 109) de_M_ending_99 rfl (fun c_99_4 => ?_) (fun c_99_4 => ?_)
        · refine ab_iload_n de_M_ending_109 3 rfl ?_
          refine ab_bipush (v := 6) de_M_ending_110 rfl ?_
          refine ab_icmp_ne (tgt := 122) de_M_ending_112 rfl (fun c_112_5 => ?_) (fun c_112_5 => ?_)
          · refine ab_iload de_M_ending_122 0 rfl ?_
            exact ab_ret (v := some (.int ((sp_le (7 : Int32) (nI j) (nI (sp_pr (cs j))) (x + (nI (sp_pr (cs j))))) ^^^ (sp_go (7 : Int32) (nI j) ((x + (nI (sp_pr (cs j)))) - (nI (sp_pr (cs j)))))))) de_M_ending_124 ⟨_, rfl⟩ ⟨congrArg (fun z => some (Value.int z)) (by rfl), h4_, rfl, tt4_, by have z_ := mt4_; (try simp only [List.append_assoc] at z_); exact z_⟩
          · exact absurd c_112_5 (by decide)
        · exact absurd c_99_4 (by decide)
    · exact absurd c_40_2 (by decide)
  · exact absurd c_28_1 (by decide)
theorem ct_M_going (l : Launch) (d : Nat) (nr : Nat) (h : Nat → Nat → Int32) (g : Nat → Nat → Int64) (rr : Nat → Option Nat) {n_ : Nat} (hMR : h 30 0 = nI n_) (hn5 : n_ ≤ 8) {cs : Nat → Nat} (hcs : ∀ k, k < n_ → h 33 k = nI (cs k) ∧ 1 ≤ cs k ∧ cs k < 4096) {bs : List Int32} (hbs : mt_ok h bs) (hln : bs.length ≤ 16) {j : Nat} (hj : j < n_) (x : Int32) : ab_C l am_M_going (d + 3) 0 0 [.ref 30, .int (nI j), .int x] (ab_S nr h g rr) (fun (r_ : Option Value) (M' : ab_Me) => r_ = some (.int (sp_go (nI (sp_kd (cs j))) (nI j) x)) ∧ ∃ h', M' = ab_S nr h' g rr ∧ md_tf h h' ∧ mt_ok h' (bs ++ sp_gob (nI (sp_kd (cs j))))) := by
  rcases sp_kd_rg (cs j) with hk | hk | hk | hk | hk | hk | hk
  · rw [hk]; exact ct_M_going_1 l d nr h g rr hMR hn5 hcs hbs hln hj hk x
  · rw [hk]; exact ct_M_going_2 l d nr h g rr hMR hn5 hcs hbs hln hj hk x
  · rw [hk]; exact ct_M_going_3 l d nr h g rr hMR hn5 hcs hbs hln hj hk x
  · rw [hk]; exact ct_M_going_4 l d nr h g rr hMR hn5 hcs hbs hln hj hk x
  · rw [hk]; exact ct_M_going_5 l d nr h g rr hMR hn5 hcs hbs hln hj hk x
  · rw [hk]; exact ct_M_going_6 l d nr h g rr hMR hn5 hcs hbs hln hj hk x
  · rw [hk]; exact ct_M_going_7 l d nr h g rr hMR hn5 hcs hbs hln hj hk x
theorem ct_M_letting (l : Launch) (d : Nat) (nr : Nat) (h : Nat → Nat → Int32) (g : Nat → Nat → Int64) (rr : Nat → Option Nat) {n_ : Nat} (hMR : h 30 0 = nI n_) (hn5 : n_ ≤ 8) {cs : Nat → Nat} (hcs : ∀ k, k < n_ → h 33 k = nI (cs k) ∧ 1 ≤ cs k ∧ cs k < 4096) {bs : List Int32} (hbs : mt_ok h bs) (hln : bs.length ≤ 14) {j : Nat} (hj : j < n_) (x : Int32) : ab_C l am_M_letting (d + 4) 0 0 [.ref 30, .int (nI j), .int x] (ab_S nr h g rr) (fun (r_ : Option Value) (M' : ab_Me) => r_ = some (.int (sp_le (nI (sp_kd (cs j))) (nI j) (nI (sp_pr (cs j))) x)) ∧ ∃ h', M' = ab_S nr h' g rr ∧ md_tf h h' ∧ mt_ok h' (bs ++ sp_leb (nI (sp_kd (cs j))))) := by
  rcases sp_kd_rg (cs j) with hk | hk | hk | hk | hk | hk | hk
  · rw [hk]; exact ct_M_letting_1 l d nr h g rr hMR hn5 hcs hbs hln hj hk x
  · rw [hk]; exact ct_M_letting_2 l d nr h g rr hMR hn5 hcs hbs hln hj hk x
  · rw [hk]; exact ct_M_letting_3 l d nr h g rr hMR hn5 hcs hbs hln hj hk x
  · rw [hk]; exact ct_M_letting_4 l d nr h g rr hMR hn5 hcs hbs hln hj hk x
  · rw [hk]; exact ct_M_letting_5 l d nr h g rr hMR hn5 hcs hbs hln hj hk x
  · rw [hk]; exact ct_M_letting_6 l d nr h g rr hMR hn5 hcs hbs hln hj hk x
  · rw [hk]; exact ct_M_letting_7 l d nr h g rr hMR hn5 hcs hbs hln hj hk x
theorem ct_M_ending (l : Launch) (d : Nat) (nr : Nat) (h : Nat → Nat → Int32) (g : Nat → Nat → Int64) (rr : Nat → Option Nat) {n_ : Nat} (hMR : h 30 0 = nI n_) (hn5 : n_ ≤ 8) {cs : Nat → Nat} (hcs : ∀ k, k < n_ → h 33 k = nI (cs k) ∧ 1 ≤ cs k ∧ cs k < 4096) {bs : List Int32} (hbs : mt_ok h bs) (hln : bs.length ≤ 9) {j : Nat} (hj : j < n_) (x : Int32) : ab_C l am_M_ending (d + 5) 0 0 [.ref 30, .int (nI j), .int x] (ab_S nr h g rr) (fun (r_ : Option Value) (M' : ab_Me) => r_ = some (.int (sp_ed (nI (sp_kd (cs j))) (nI j) (nI (sp_pr (cs j))) x)) ∧ ∃ h', M' = ab_S nr h' g rr ∧ md_tf h h' ∧ mt_ok h' (bs ++ sp_edb (nI (sp_kd (cs j))))) := by
  rcases sp_kd_rg (cs j) with hk | hk | hk | hk | hk | hk | hk
  · rw [hk]; exact ct_M_ending_1 l d nr h g rr hMR hn5 hcs hbs hln hj hk x
  · rw [hk]; exact ct_M_ending_2 l d nr h g rr hMR hn5 hcs hbs hln hj hk x
  · rw [hk]; exact ct_M_ending_3 l d nr h g rr hMR hn5 hcs hbs hln hj hk x
  · rw [hk]; exact ct_M_ending_4 l d nr h g rr hMR hn5 hcs hbs hln hj hk x
  · rw [hk]; exact ct_M_ending_5 l d nr h g rr hMR hn5 hcs hbs hln hj hk x
  · rw [hk]; exact ct_M_ending_6 l d nr h g rr hMR hn5 hcs hbs hln hj hk x
  · rw [hk]; exact ct_M_ending_7 l d nr h g rr hMR hn5 hcs hbs hln hj hk x
theorem mt_0 (h : Nat → Nat → Int32) : mt_ok (ab_u2 h 30 37 0) [] := ⟨ab_u2_at, fun i b z => by simp at z⟩
theorem md_tf_0 (h : Nat → Nat → Int32) : md_tf h (ab_u2 h 30 37 0) := ⟨fun a _ h2 => ab_u2_row h2, fun b h1 => ab_u2_ne (fun z => h1 z.2)⟩
set_option maxHeartbeats 1000000 in
set_option maxRecDepth 10000 in
theorem ct_M_act (l : Launch) (d : Nat) (nr : Nat) (h : Nat → Nat → Int32) (g : Nat → Nat → Int64) (rr : Nat → Option Nat) {n_ : Nat} (hMR : h 30 0 = nI n_) (hn5 : n_ ≤ 8) {cs : Nat → Nat} (hcs : ∀ k, k < n_ → h 33 k = nI (cs k) ∧ 1 ≤ cs k ∧ cs k < 4096) (x y z : Int32) : ab_C l am_M_act (d + 6) 0 0 [.ref 30, .int x, .int y, .int z] (ab_S nr h g rr) (fun r_ M' => ∃ h', M' = ab_S nr h' g rr ∧ md_tf h h' ∧ ∃ bs, mt_ok h' bs ∧ (r_, bs) = fx_W_act n_ cs x y z) := by
  refine ab_C_of (by decide +kernel) rfl (Nat.le_of_ble_eq_true rfl) ?_
  refine ab_aload_n de_M_act_0 0 rfl ?_
  refine ab_iconst (v := 0) de_M_act_1 rfl ?_
  refine ab_putI (x := 30) (j := 37) fl_M_287 rfl (Or.inl rfl) rfl rfl rfl de_M_act_2 ?_
  change ab_G _ _ _ _ _ _ _ _ _ (ab_S nr (ab_u2 h 30 37 (0 : Int32)) g rr) _
  refine ab_aload_n de_M_act_5 0 rfl ?_
  refine ab_iload_n de_M_act_6 1 rfl ?_
  refine ab_cV (as := [.int x]) (st := []) (ct_M_isRule l _ nr (ab_u2 h 30 37 (0 : Int32)) g rr (show ab_u2 h 30 37 0 30 0 = nI n_ from hMR) x) mo_M_isRule mi_M_isRule ml_M_98 rfl (by decide) rfl rfl rfl (Nat.le_of_ble_eq_true rfl) de_M_act_7 (fun v_ M_ hK_ hl_ hv_ => ?_)
  obtain ⟨rfl, hm_⟩ := hK_
  have hm_ := hm_.symm
  subst hm_
  change ab_G _ _ _ _ _ _ _ [(0, .ref 30), (1, .int x), (2, .int y), (3, .int z)] [.int (ab_bz (decide (0 ≤ x ∧ x < nI n_)))] (ab_S nr (ab_u2 h 30 37 (0 : Int32)) g rr) _
  refine ab_if_eq (tgt := 22) de_M_act_10 rfl (fun c_10_1 => ?_) (fun c_10_1 => ?_)
  · refine ab_iconst (v := 0) de_M_act_22 rfl ?_
    exact ab_ret (v := some (.int (0 : Int32))) de_M_act_23 ⟨_, rfl⟩ ⟨_, rfl, md_tf_0 h, [], mt_0 h, by unfold fx_W_act; rw [if_neg (of_decide_eq_false ((ab_bz0 _).mp c_10_1))]⟩
  · obtain ⟨xn, hxn, rfl⟩ := sp_ra_n (by omega) c_10_1
    refine ab_iload_n de_M_act_13 2 rfl ?_
    refine ab_if_lt (tgt := 22) de_M_act_14 rfl (fun c_14_2 => ?_) (fun c_14_2 => ?_)
    · refine ab_iconst (v := 0) de_M_act_22 rfl ?_
      exact ab_ret (v := some (.int (0 : Int32))) de_M_act_23 ⟨_, rfl⟩ ⟨_, rfl, md_tf_0 h, [], mt_0 h, by unfold fx_W_act; rw [if_pos (of_decide_eq_true ((ab_bz1 _).mp c_10_1)), if_pos c_14_2]⟩
    · refine ab_iload_n de_M_act_17 2 rfl ?_
      refine ab_iconst (v := 2) de_M_act_18 rfl ?_
      refine ab_icmp_le (tgt := 24) de_M_act_19 rfl (fun c_19_3 => ?_) (fun c_19_3 => ?_)
      · refine ab_iload_n de_M_act_24 2 rfl ?_
        refine ab_if_ne (tgt := 37) de_M_act_25 rfl (fun c_25_4 => ?_) (fun c_25_4 => ?_)
        · refine ab_iload_n de_M_act_37 2 rfl ?_
          refine ab_iconst (v := 1) de_M_act_38 rfl ?_
          refine ab_icmp_ne (tgt := 51) de_M_act_39 rfl (fun c_39_5 => ?_) (fun c_39_5 => ?_)
          · refine ab_aload_n de_M_act_51 0 rfl ?_
            refine ab_iload_n de_M_act_52 1 rfl ?_
            refine ab_iload_n de_M_act_53 3 rfl ?_
            refine ab_cV (as := [.int (nI xn), .int z]) (st := []) (ct_M_ending l (d + 0) nr (ab_u2 h 30 37 (0 : Int32)) g rr hMR hn5 hcs (bs := []) (mt_0 h) (by simp) (j := xn) (by omega) z) mo_M_ending mi_M_ending ml_M_299 rfl (by decide) rfl rfl rfl (Nat.le_of_ble_eq_true rfl) de_M_act_54 (fun v_ M_ hK_ hl_ hv_ => ?_)
            obtain ⟨rfl, h1_, rfl, tf1_, mt1_⟩ := hK_
            change ab_G _ _ _ _ _ _ _ [(0, .ref 30), (1, .int (nI xn)), (2, .int y), (3, .int z)] [.int (sp_ed (nI (sp_kd (cs xn))) (nI xn) (nI (sp_pr (cs xn))) z)] (ab_S nr h1_ g rr) _
            exact ab_ret (v := some (.int (sp_ed (nI (sp_kd (cs xn))) (nI xn) (nI (sp_pr (cs xn))) z))) de_M_act_57 ⟨_, rfl⟩ ⟨h1_, rfl, md_tf_tr (md_tf_0 h) tf1_, _, mt1_, by unfold fx_W_act; rw [if_pos (of_decide_eq_true ((ab_bz1 _).mp c_10_1)), if_neg c_14_2, if_pos c_19_3, if_neg c_25_4, if_neg c_39_5]; simp only [ab_tn (show xn < 2 ^ 31 by omega)]; rfl⟩
          · refine ab_aload_n de_M_act_42 0 rfl ?_
            refine ab_iload_n de_M_act_43 1 rfl ?_
            refine ab_iload_n de_M_act_44 3 rfl ?_
            refine ab_cV (as := [.int (nI xn), .int z]) (st := []) (ct_M_letting l (d + 1) nr (ab_u2 h 30 37 (0 : Int32)) g rr hMR hn5 hcs (bs := []) (mt_0 h) (by simp) (j := xn) (by omega) z) mo_M_letting mi_M_letting ml_M_296 rfl (by decide) rfl rfl rfl (Nat.le_of_ble_eq_true rfl) de_M_act_45 (fun v_ M_ hK_ hl_ hv_ => ?_)
            obtain ⟨rfl, h1_, rfl, tf1_, mt1_⟩ := hK_
            change ab_G _ _ _ _ _ _ _ [(0, .ref 30), (1, .int (nI xn)), (2, .int y), (3, .int z)] [.int (sp_le (nI (sp_kd (cs xn))) (nI xn) (nI (sp_pr (cs xn))) z)] (ab_S nr h1_ g rr) _
            refine ab_goto (tgt := 57) de_M_act_48 rfl ?_
            exact ab_ret (v := some (.int (sp_le (nI (sp_kd (cs xn))) (nI xn) (nI (sp_pr (cs xn))) z))) de_M_act_57 ⟨_, rfl⟩ ⟨h1_, rfl, md_tf_tr (md_tf_0 h) tf1_, _, mt1_, by unfold fx_W_act; rw [if_pos (of_decide_eq_true ((ab_bz1 _).mp c_10_1)), if_neg c_14_2, if_pos c_19_3, if_neg c_25_4, if_pos c_39_5]; simp only [ab_tn (show xn < 2 ^ 31 by omega)]; rfl⟩
        · refine ab_aload_n de_M_act_28 0 rfl ?_
          refine ab_iload_n de_M_act_29 1 rfl ?_
          refine ab_iload_n de_M_act_30 3 rfl ?_
          refine ab_cV (as := [.int (nI xn), .int z]) (st := []) (ct_M_going l (d + 2) nr (ab_u2 h 30 37 (0 : Int32)) g rr hMR hn5 hcs (bs := []) (mt_0 h) (by simp) (j := xn) (by omega) z) mo_M_going mi_M_going ml_M_293 rfl (by decide) rfl rfl rfl (Nat.le_of_ble_eq_true rfl) de_M_act_31 (fun v_ M_ hK_ hl_ hv_ => ?_)
          obtain ⟨rfl, h1_, rfl, tf1_, mt1_⟩ := hK_
          change ab_G _ _ _ _ _ _ _ [(0, .ref 30), (1, .int (nI xn)), (2, .int y), (3, .int z)] [.int (sp_go (nI (sp_kd (cs xn))) (nI xn) z)] (ab_S nr h1_ g rr) _
          refine ab_goto (tgt := 57) de_M_act_34 rfl ?_
          exact ab_ret (v := some (.int (sp_go (nI (sp_kd (cs xn))) (nI xn) z))) de_M_act_57 ⟨_, rfl⟩ ⟨h1_, rfl, md_tf_tr (md_tf_0 h) tf1_, _, mt1_, by unfold fx_W_act; rw [if_pos (of_decide_eq_true ((ab_bz1 _).mp c_10_1)), if_neg c_14_2, if_pos c_19_3, if_pos c_25_4]; simp only [ab_tn (show xn < 2 ^ 31 by omega)]; rfl⟩
      · refine ab_iconst (v := 0) de_M_act_22 rfl ?_
        exact ab_ret (v := some (.int (0 : Int32))) de_M_act_23 ⟨_, rfl⟩ ⟨_, rfl, md_tf_0 h, [], mt_0 h, by unfold fx_W_act; rw [if_pos (of_decide_eq_true ((ab_bz1 _).mp c_10_1)), if_neg c_14_2, if_neg c_19_3]⟩
