/-! the reference: reads, rule -/
set_option maxHeartbeats 1000000 in
set_option maxRecDepth 10000 in
theorem lp_M_reads (l : Launch) (d : Nat) (nr : Nat) (h : Nat → Nat → Int32) (g : Nat → Nat → Int64) (rr : Nat → Option Nat) {n s : Nat} {w : Int32} (hs : s < 8) (hn60 : n ≤ 60) (hbase : h 30 19 = nI (60 * s)) (hend : h 30 21 = nI n) : ∀ (fu_ b c : Nat), b ≤ n → n < b + fu_ → c < 4096 → md_wh (md_f g s) b c → ab_G l none am_M_reads (d + 5) 0 0 14 [(0, .ref 30)] [] (ab_S nr (md_ps h b w c) g rr) (fun (r_ : Option Value) (M' : ab_Me) => (r_ = some (.int (1 : Int32)) ∧ ∃ c', c' < 4096 ∧ md_wh (md_f g s) n c' ∧ M' = (ab_S nr (md_ps h n w c') g rr)) ∨ (r_ = some (.int (0 : Int32)) ∧ ∃ i j c', md_fb (md_f g s) n j ∧ M' = (ab_S nr (md_ps h i (nI j) c') g rr))) := by
  intro fu_
  induction fu_ with
  | zero => intro b c h1 h2; omega
  | succ fu_ ih =>
    intro b c hN_ hn_ hc_ hw_
    refine ab_aload_n de_M_reads_14 0 rfl ?_
    refine ab_get (v := .int ((md_ps h b w c) 30 20)) fl_M_125 rfl rfl de_M_reads_15 ?_
    refine ab_top (v' := nI b) (rfl) ?_
    refine ab_aload_n de_M_reads_18 0 rfl ?_
    refine ab_get (v := .int ((md_ps h b w c) 30 21)) fl_M_128 rfl rfl de_M_reads_19 ?_
    refine ab_top (v' := nI n) (hend) ?_
    refine ab_icmp_ge (tgt := 43) de_M_reads_22 rfl (fun c_22_1 => ?_) (fun c_22_1 => ?_)
    · have hb_ : b = n := by have le_ := (ab_le (by omega) (by omega)).mp c_22_1; omega
      refine ab_iconst (v := 1) de_M_reads_43 rfl ?_
      exact ab_ret (v := some (.int (1 : Int32))) de_M_reads_44 ⟨_, rfl, rfl⟩ (Or.inl ⟨rfl, c, hc_, hb_ ▸ hw_, by rw [hb_]⟩)
    · have lt_ : b < n := Nat.lt_of_not_le (fun z_ => c_22_1 ((ab_le (by omega) (by omega)).mpr z_))
      refine ab_aload_n de_M_reads_25 0 rfl ?_
      refine ab_bipush (v := 59) de_M_reads_26 rfl ?_
      by_cases c_28_2 : b < n ∧ md_f g s b = 59
      · have hg_ := md_semi hw_ c_28_2.2
        refine ab_cV (as := [.int (59 : Int32)]) (st := []) (ct_M_takes_1 l _ nr h g rr (i := b) (w := w) (r := c) (n := n) (s := s) (c := (59 : Int32)) hs hn60 hbase hend c_28_2.1 c_28_2.2) mo_M_takes mi_M_takes ml_M_151 rfl (by decide) rfl rfl rfl (Nat.le_of_ble_eq_true rfl) de_M_reads_28 (fun v_ M_ hK_ hl_ hv_ => ?_)
        obtain ⟨rfl, hm_⟩ := hK_
        have hm_ := hm_.symm
        subst hm_
        change ab_G _ _ _ _ _ _ _ [(0, .ref 30)] [.int (1 : Int32)] (ab_S nr (md_ps h (b + 1) w c) g rr) _
        refine ab_if_eq (tgt := 41) de_M_reads_31 rfl (fun c_31_3 => ?_) (fun c_31_3 => ?_)
        · exact absurd c_31_3 (by decide)
        · refine ab_aload_n de_M_reads_34 0 rfl ?_
          refine ab_cV (as := []) (st := []) (ct_M_part0 l _ nr h g rr (a := b + 1) (n := n) (s := s) (c := c) (w := w) hs hn60 hbase hend hc_ hg_ (by omega)) mo_M_part0 mi_M_part0 ml_M_158 rfl (by decide) rfl rfl rfl (Nat.le_of_ble_eq_true rfl) de_M_reads_35 (fun v_ M_ hK_ hl_ hv_ => ?_)
          rcases hK_ with ⟨rfl, b2_, c2_, hb2_, hbn_, hc2_, hw2_, hm_⟩ | ⟨rfl, i2_, j2_, fb_, hm_⟩
          · have hm_ := hm_.symm
            subst hm_
            change ab_G _ _ _ _ _ _ _ [(0, .ref 30)] [.int (1 : Int32)] (ab_S nr (md_ps h b2_ w c2_) g rr) _
            refine ab_if_ne (tgt := 14) de_M_reads_38 rfl (fun c_38_4 => ?_) (fun c_38_4 => ?_)
            · exact ih b2_ c2_ hbn_ (by omega) hc2_ hw2_
            · exact absurd c_38_4 (by decide)
          · have hm_ := hm_.symm
            subst hm_
            change ab_G _ _ _ _ _ _ _ [(0, .ref 30)] [.int (0 : Int32)] (ab_S nr (md_ps h i2_ (nI j2_) c) g rr) _
            refine ab_if_ne (tgt := 14) de_M_reads_38 rfl (fun c_38_5 => ?_) (fun c_38_5 => ?_)
            · exact absurd rfl c_38_5
            · refine ab_iconst (v := 0) de_M_reads_41 rfl ?_
              exact ab_ret (v := some (.int (0 : Int32))) de_M_reads_42 ⟨_, rfl, rfl⟩ (Or.inr ⟨rfl, _, _, _, fb_, rfl⟩)
      · have fb_ := md_nosemi (n := n) lt_ hw_ (fun q_ => c_28_2 ⟨lt_, q_⟩)
        refine ab_cV (as := [.int (59 : Int32)]) (st := []) (ct_M_takes_0 l _ nr h g rr (i := b) (w := w) (r := c) (n := n) (s := s) (c := (59 : Int32)) hs hn60 hbase hend (by omega) c_28_2) mo_M_takes mi_M_takes ml_M_151 rfl (by decide) rfl rfl rfl (Nat.le_of_ble_eq_true rfl) de_M_reads_28 (fun v_ M_ hK_ hl_ hv_ => ?_)
        obtain ⟨rfl, hm_⟩ := hK_
        have hm_ := hm_.symm
        subst hm_
        change ab_G _ _ _ _ _ _ _ [(0, .ref 30)] [.int (0 : Int32)] (ab_S nr (md_ps h b (nI b) c) g rr) _
        refine ab_if_eq (tgt := 41) de_M_reads_31 rfl (fun c_31_6 => ?_) (fun c_31_6 => ?_)
        · refine ab_iconst (v := 0) de_M_reads_41 rfl ?_
          exact ab_ret (v := some (.int (0 : Int32))) de_M_reads_42 ⟨_, rfl, rfl⟩ (Or.inr ⟨rfl, _, _, _, fb_, rfl⟩)
        · exact absurd rfl c_31_6
set_option maxHeartbeats 1000000 in
set_option maxRecDepth 10000 in
theorem ct_M_reads (l : Launch) (d : Nat) (nr : Nat) (h : Nat → Nat → Int32) (g : Nat → Nat → Int64) (rr : Nat → Option Nat) {n s : Nat} (hs : s < 8) (hn60 : n ≤ 60) (hbase : h 30 19 = nI (60 * s)) (hend : h 30 21 = nI n) (h20 : h 30 20 = nI 0) : ab_C l am_M_reads (d + 5) 0 0 [.ref 30] (ab_S nr h g rr) (fun (r_ : Option Value) (M' : ab_Me) => (r_ = some (.int (1 : Int32)) ∧ ∃ c', c' < 4096 ∧ md_wh (md_f g s) n c' ∧ M' = (ab_S nr (md_ps h n (h 30 22) c') g rr)) ∨ (r_ = some (.int (0 : Int32)) ∧ ∃ i j c', md_fb (md_f g s) n j ∧ M' = (ab_S nr (md_ps h i (nI j) c') g rr))) := by
  refine ab_C_of (by decide +kernel) rfl (Nat.le_of_ble_eq_true rfl) ?_
  refine ab_aload_n de_M_reads_0 0 rfl ?_
  refine ab_iconst (v := 0) de_M_reads_1 rfl ?_
  refine ab_putI (x := 30) (j := 23) fl_M_148 rfl (Or.inl rfl) rfl rfl rfl de_M_reads_2 ?_
  change ab_G _ _ _ _ _ _ _ _ _ (ab_S nr (ab_u2 h 30 23 (0 : Int32)) g rr) _
  refine ab_hm (h' := md_ps h 0 (h 30 22) 0) (md_ps_in (i := 0) h20 0) ?_
  refine ab_aload_n de_M_reads_5 0 rfl ?_
  refine ab_cV (as := []) (st := []) (ct_M_part0 l _ nr h g rr (a := 0) (n := n) (s := s) (c := 0) (w := h 30 22) hs hn60 hbase hend (by decide) ⟨rfl, fun j hj => absurd hj (Nat.not_lt_zero j)⟩ (Nat.zero_le _)) mo_M_part0 mi_M_part0 ml_M_158 rfl (by decide) rfl rfl rfl (Nat.le_of_ble_eq_true rfl) de_M_reads_6 (fun v_ M_ hK_ hl_ hv_ => ?_)
  rcases hK_ with ⟨rfl, b2_, c2_, hb2_, hbn_, hc2_, hw2_, hm_⟩ | ⟨rfl, i2_, j2_, fb_, hm_⟩
  · have hm_ := hm_.symm
    subst hm_
    change ab_G _ _ _ _ _ _ _ [(0, .ref 30)] [.int (1 : Int32)] (ab_S nr (md_ps h b2_ (h 30 22) c2_) g rr) _
    refine ab_if_ne (tgt := 14) de_M_reads_9 rfl (fun c_9_1 => ?_) (fun c_9_1 => ?_)
    · exact lp_M_reads l d nr h g rr hs hn60 hbase hend (n + 1) b2_ c2_ hbn_ (by omega) hc2_ hw2_
    · exact absurd c_9_1 (by decide)
  · have hm_ := hm_.symm
    subst hm_
    change ab_G _ _ _ _ _ _ _ [(0, .ref 30)] [.int (0 : Int32)] (ab_S nr (md_ps h i2_ (nI j2_) 0) g rr) _
    refine ab_if_ne (tgt := 14) de_M_reads_9 rfl (fun c_9_2 => ?_) (fun c_9_2 => ?_)
    · exact absurd rfl c_9_2
    · refine ab_iconst (v := 0) de_M_reads_12 rfl ?_
      exact ab_ret (v := some (.int (0 : Int32))) de_M_reads_13 ⟨_, rfl, rfl⟩ (Or.inr ⟨rfl, _, _, _, fb_, rfl⟩)
def md_ku (h h' : Nat → Nat → Int32) : Prop := ∀ a b, ¬ (a = 30 ∧ 19 ≤ b ∧ b ≤ 23) → h' a b = h a b
theorem md_ku_rf (h : Nat → Nat → Int32) : md_ku h h := fun _ _ _ => rfl
theorem md_ku_tr {h h1 h2 : Nat → Nat → Int32} (a : md_ku h h1) (b : md_ku h1 h2) : md_ku h h2 := fun x y z => (b x y z).trans (a x y z)
theorem md_ku_u2 {h h' : Nat → Nat → Int32} (H : md_ku h h') (a b : Nat) (v : Int32) : md_ku (ab_u2 h a b v) (ab_u2 h' a b v) := by
  intro x y z
  by_cases e : x = a ∧ y = b
  · rw [e.1, e.2, ab_u2_at, ab_u2_at]
  · rw [ab_u2_ne e, ab_u2_ne e]
    exact H x y z
theorem md_ku_r {h h' : Nat → Nat → Int32} (H : md_ku h h') {b : Nat} (hb : 19 ≤ b ∧ b ≤ 23) (v : Int32) : md_ku h (ab_u2 h' 30 b v) := by
  intro x y z
  rw [ab_u2_ne (fun e => z ⟨e.1, by omega⟩)]
  exact H x y z
theorem md_ku_ps (h : Nat → Nat → Int32) (i : Nat) (w : Int32) (r : Nat) : md_ku h (md_ps h i w r) := by
  intro x y z
  unfold md_ps
  rw [if_neg (fun e => z ⟨e.1, by omega⟩), if_neg (fun e => z ⟨e.1, by omega⟩), if_neg (fun e => z ⟨e.1, by omega⟩)]
theorem md_ku_o {h h' : Nat → Nat → Int32} {x : Int32} (H : md_ku (ab_u2 h 30 2 x) h') (v : Int32) : md_ku (ab_u2 h 30 2 v) (ab_u2 h' 30 2 v) := by
  intro a b z
  by_cases e : a = 30 ∧ b = 2
  · rw [e.1, e.2, ab_u2_at, ab_u2_at]
  · rw [ab_u2_ne e, ab_u2_ne e, H a b z, ab_u2_ne e]
def md_r4 (h : Nat → Nat → Int32) (s n : Nat) : Nat → Nat → Int32 := ab_u2 (ab_u2 (ab_u2 (ab_u2 h 30 19 (nI (60 * s))) 30 20 (0 : Int32)) 30 21 (nI n)) 30 2 (-1 : Int32)
theorem md_ku_r4 (h : Nat → Nat → Int32) (s n : Nat) : md_ku (ab_u2 h 30 2 (-1)) (md_r4 h s n) :=
  md_ku_u2 (md_ku_r (md_ku_r (md_ku_r (md_ku_rf h) (by decide) _) (by decide) _) (by decide) _) 30 2 (-1)
theorem md_fm1 : ∀ j, j < 61 → ¬ (0 : Int32) ≤ -1 - nI j := by decide +kernel
theorem md_fm2 : ∀ j, j < 61 → (-1 : Int32) - (-1 - nI j) = nI j := by decide +kernel
def fx_M_rule2 (h : Nat → Nat → Int32) (g : Nat → Nat → Int64) (n n_ s : Nat) : Option Value × (Nat → Nat → Int32) :=
  if 0 ≤ sp_rd (md_f g s) n then
    if n_ = 8 then (some (.int (-7 : Int32)), ab_u2 (ab_u2 h 30 2 (-1 : Int32)) 31 7 (h 31 7 + 1))
    else (some (.int (nI n_)), ab_u2 (ab_u2 (ab_u2 h 30 2 (-1 : Int32)) 33 n_ (sp_rd (md_f g s) n)) 30 0 (nI (n_ + 1)))
  else (some (.int (-6 : Int32)), ab_u2 (ab_u2 h 30 2 (-1 - sp_rd (md_f g s) n)) 31 6 (h 31 6 + 1))
def fx_M_rule (h : Nat → Nat → Int32) (g : Nat → Nat → Int64) (zs : Nat → Nat) (n_ : Nat) (s : Int32) : Option Value × (Nat → Nat → Int32) :=
  if ab_bz (sp_sh s) = 0 then (some (.int (-1 : Int32)), ab_u2 h 31 1 (h 31 1 + 1))
  else if h 38 s.toNatClampNeg = 2 then (some (.int (-2 : Int32)), ab_u2 h 31 2 (h 31 2 + 1))
  else if h 38 s.toNatClampNeg = 0 then (some (.int (-3 : Int32)), ab_u2 h 31 3 (h 31 3 + 1))
  else fx_M_rule2 h g (zs s.toNatClampNeg) n_ s.toNatClampNeg
set_option maxHeartbeats 1000000 in
set_option maxRecDepth 10000 in
theorem ct_M_rule_1 (l : Launch) (d : Nat) (nr : Nat) (h : Nat → Nat → Int32) (g : Nat → Nat → Int64) (rr : Nat → Option Nat) {zs : Nat → Nat} {n_ : Nat} (s : Int32) (hw_ : fx_M_wants nr h g rr s = (some (.int (-1 : Int32)), ab_S nr h g rr)) (he_ : fx_M_rule h g zs n_ s = (some (.int (-1 : Int32)), ab_u2 h 31 1 (h 31 1 + 1))) : ab_C l am_M_rule (d + 2) 0 0 [.ref 30, .int s] (ab_S nr h g rr) (fun (r_ : Option Value) (M' : ab_Me) => ∃ X h', (r_, X) = fx_M_rule h g zs n_ s ∧ M' = ab_S nr h' g rr ∧ md_ku X h') := by
  refine ab_C_of (by decide +kernel) rfl (Nat.le_of_ble_eq_true rfl) ?_
  refine ab_aload_n de_M_rule_0 0 rfl ?_
  refine ab_iload_n de_M_rule_1 1 rfl ?_
  refine ab_cV (as := [.int s]) (st := []) (ct_M_wants l _ nr h g rr s) mo_M_wants mi_M_wants ml_M_162 rfl (by decide) rfl rfl rfl (Nat.le_of_ble_eq_true rfl) de_M_rule_2 (fun v_ M_ hK_ hl_ hv_ => ?_)
  rw [hw_] at hK_
  obtain ⟨rfl, hm_⟩ := Prod.mk.inj hK_
  have hm_ := hm_.symm
  subst hm_
  change ab_G _ _ _ _ _ _ _ [(0, .ref 30), (1, .int s)] [.int (-1 : Int32)] (ab_S nr h g rr) _
  refine ab_istore_n (L' := [(2, .int (-1 : Int32)), (0, .ref 30), (1, .int s)]) de_M_rule_5 (by decide) rfl ?_
  refine ab_iload_n de_M_rule_6 0 rfl ?_
  refine ab_if_eq (tgt := 16) de_M_rule_7 rfl (fun c_7_1 => ?_) (fun c_7_1 => ?_)
  · exact absurd c_7_1 (by decide)
  · refine ab_aload_n de_M_rule_10 1 rfl ?_
    refine ab_iload_n de_M_rule_11 0 rfl ?_
    refine ab_cV (as := [.int (-1 : Int32)]) (st := []) (ct_M_no l _ nr h g rr (r := (-1 : Int32)) (k := 1) (by decide) (by decide)) mo_M_no mi_M_no ml_M_94 rfl (by decide) rfl rfl rfl (Nat.le_of_ble_eq_true rfl) de_M_rule_12 (fun v_ M_ hK_ hl_ hv_ => ?_)
    obtain ⟨rfl, hm_⟩ := hK_
    have hm_ := hm_.symm
    subst hm_
    change ab_G _ _ _ _ _ _ _ [(2, .int (-1 : Int32)), (0, .ref 30), (1, .int s)] [.int (-1 : Int32)] (ab_S nr (ab_u2 h 31 1 (h 31 1 + 1)) g rr) _
    exact ab_ret (v := some (.int (-1 : Int32))) de_M_rule_15 ⟨_, rfl⟩ ⟨_, _, he_.symm, rfl, md_ku_rf _⟩
set_option maxHeartbeats 1000000 in
set_option maxRecDepth 10000 in
theorem ct_M_rule_2 (l : Launch) (d : Nat) (nr : Nat) (h : Nat → Nat → Int32) (g : Nat → Nat → Int64) (rr : Nat → Option Nat) {zs : Nat → Nat} {n_ : Nat} (s : Int32) (hw_ : fx_M_wants nr h g rr s = (some (.int (-2 : Int32)), ab_S nr h g rr)) (he_ : fx_M_rule h g zs n_ s = (some (.int (-2 : Int32)), ab_u2 h 31 2 (h 31 2 + 1))) : ab_C l am_M_rule (d + 2) 0 0 [.ref 30, .int s] (ab_S nr h g rr) (fun (r_ : Option Value) (M' : ab_Me) => ∃ X h', (r_, X) = fx_M_rule h g zs n_ s ∧ M' = ab_S nr h' g rr ∧ md_ku X h') := by
  refine ab_C_of (by decide +kernel) rfl (Nat.le_of_ble_eq_true rfl) ?_
  refine ab_aload_n de_M_rule_0 0 rfl ?_
  refine ab_iload_n de_M_rule_1 1 rfl ?_
  refine ab_cV (as := [.int s]) (st := []) (ct_M_wants l _ nr h g rr s) mo_M_wants mi_M_wants ml_M_162 rfl (by decide) rfl rfl rfl (Nat.le_of_ble_eq_true rfl) de_M_rule_2 (fun v_ M_ hK_ hl_ hv_ => ?_)
  rw [hw_] at hK_
  obtain ⟨rfl, hm_⟩ := Prod.mk.inj hK_
  have hm_ := hm_.symm
  subst hm_
  change ab_G _ _ _ _ _ _ _ [(0, .ref 30), (1, .int s)] [.int (-2 : Int32)] (ab_S nr h g rr) _
  refine ab_istore_n (L' := [(2, .int (-2 : Int32)), (0, .ref 30), (1, .int s)]) de_M_rule_5 (by decide) rfl ?_
  refine ab_iload_n de_M_rule_6 0 rfl ?_
  refine ab_if_eq (tgt := 16) de_M_rule_7 rfl (fun c_7_1 => ?_) (fun c_7_1 => ?_)
  · exact absurd c_7_1 (by decide)
  · refine ab_aload_n de_M_rule_10 1 rfl ?_
    refine ab_iload_n de_M_rule_11 0 rfl ?_
    refine ab_cV (as := [.int (-2 : Int32)]) (st := []) (ct_M_no l _ nr h g rr (r := (-2 : Int32)) (k := 2) (by decide) (by decide)) mo_M_no mi_M_no ml_M_94 rfl (by decide) rfl rfl rfl (Nat.le_of_ble_eq_true rfl) de_M_rule_12 (fun v_ M_ hK_ hl_ hv_ => ?_)
    obtain ⟨rfl, hm_⟩ := hK_
    have hm_ := hm_.symm
    subst hm_
    change ab_G _ _ _ _ _ _ _ [(2, .int (-2 : Int32)), (0, .ref 30), (1, .int s)] [.int (-2 : Int32)] (ab_S nr (ab_u2 h 31 2 (h 31 2 + 1)) g rr) _
    exact ab_ret (v := some (.int (-2 : Int32))) de_M_rule_15 ⟨_, rfl⟩ ⟨_, _, he_.symm, rfl, md_ku_rf _⟩
set_option maxHeartbeats 1000000 in
set_option maxRecDepth 10000 in
theorem ct_M_rule_3 (l : Launch) (d : Nat) (nr : Nat) (h : Nat → Nat → Int32) (g : Nat → Nat → Int64) (rr : Nat → Option Nat) {zs : Nat → Nat} {n_ : Nat} (s : Int32) (hw_ : fx_M_wants nr h g rr s = (some (.int (-3 : Int32)), ab_S nr h g rr)) (he_ : fx_M_rule h g zs n_ s = (some (.int (-3 : Int32)), ab_u2 h 31 3 (h 31 3 + 1))) : ab_C l am_M_rule (d + 2) 0 0 [.ref 30, .int s] (ab_S nr h g rr) (fun (r_ : Option Value) (M' : ab_Me) => ∃ X h', (r_, X) = fx_M_rule h g zs n_ s ∧ M' = ab_S nr h' g rr ∧ md_ku X h') := by
  refine ab_C_of (by decide +kernel) rfl (Nat.le_of_ble_eq_true rfl) ?_
  refine ab_aload_n de_M_rule_0 0 rfl ?_
  refine ab_iload_n de_M_rule_1 1 rfl ?_
  refine ab_cV (as := [.int s]) (st := []) (ct_M_wants l _ nr h g rr s) mo_M_wants mi_M_wants ml_M_162 rfl (by decide) rfl rfl rfl (Nat.le_of_ble_eq_true rfl) de_M_rule_2 (fun v_ M_ hK_ hl_ hv_ => ?_)
  rw [hw_] at hK_
  obtain ⟨rfl, hm_⟩ := Prod.mk.inj hK_
  have hm_ := hm_.symm
  subst hm_
  change ab_G _ _ _ _ _ _ _ [(0, .ref 30), (1, .int s)] [.int (-3 : Int32)] (ab_S nr h g rr) _
  refine ab_istore_n (L' := [(2, .int (-3 : Int32)), (0, .ref 30), (1, .int s)]) de_M_rule_5 (by decide) rfl ?_
  refine ab_iload_n de_M_rule_6 0 rfl ?_
  refine ab_if_eq (tgt := 16) de_M_rule_7 rfl (fun c_7_1 => ?_) (fun c_7_1 => ?_)
  · exact absurd c_7_1 (by decide)
  · refine ab_aload_n de_M_rule_10 1 rfl ?_
    refine ab_iload_n de_M_rule_11 0 rfl ?_
    refine ab_cV (as := [.int (-3 : Int32)]) (st := []) (ct_M_no l _ nr h g rr (r := (-3 : Int32)) (k := 3) (by decide) (by decide)) mo_M_no mi_M_no ml_M_94 rfl (by decide) rfl rfl rfl (Nat.le_of_ble_eq_true rfl) de_M_rule_12 (fun v_ M_ hK_ hl_ hv_ => ?_)
    obtain ⟨rfl, hm_⟩ := hK_
    have hm_ := hm_.symm
    subst hm_
    change ab_G _ _ _ _ _ _ _ [(2, .int (-3 : Int32)), (0, .ref 30), (1, .int s)] [.int (-3 : Int32)] (ab_S nr (ab_u2 h 31 3 (h 31 3 + 1)) g rr) _
    exact ab_ret (v := some (.int (-3 : Int32))) de_M_rule_15 ⟨_, rfl⟩ ⟨_, _, he_.symm, rfl, md_ku_rf _⟩
set_option maxHeartbeats 1000000 in
set_option maxRecDepth 10000 in
theorem ct_M_rule_0 (l : Launch) (d : Nat) (nr : Nat) (h : Nat → Nat → Int32) (g : Nat → Nat → Int64) (rr : Nat → Option Nat) {n_ : Nat} (hMR : h 30 0 = nI n_) (hn8 : n_ ≤ 8) {zs : Nat → Nat} (hzs : ∀ s, s < 8 → zs s ≤ 60 ∧ h 40 s = nI (zs s)) {sn : Nat} (hs : sn < 8) (hw_ : fx_M_wants nr h g rr (nI sn) = (some (.int (0 : Int32)), ab_S nr h g rr)) : ab_C l am_M_rule (d + 6) 0 0 [.ref 30, .int (nI sn)] (ab_S nr h g rr) (fun (r_ : Option Value) (M' : ab_Me) => ∃ X h', (r_, X) = fx_M_rule2 h g (zs sn) n_ sn ∧ M' = ab_S nr h' g rr ∧ md_ku X h') := by
  refine ab_C_of (by decide +kernel) rfl (Nat.le_of_ble_eq_true rfl) ?_
  refine ab_aload_n de_M_rule_0 0 rfl ?_
  refine ab_iload_n de_M_rule_1 1 rfl ?_
  refine ab_cV (as := [.int (nI sn)]) (st := []) (ct_M_wants l _ nr h g rr (nI sn)) mo_M_wants mi_M_wants ml_M_162 rfl (by decide) rfl rfl rfl (Nat.le_of_ble_eq_true rfl) de_M_rule_2 (fun v_ M_ hK_ hl_ hv_ => ?_)
  rw [hw_] at hK_
  obtain ⟨rfl, hm_⟩ := Prod.mk.inj hK_
  have hm_ := hm_.symm
  subst hm_
  change ab_G _ _ _ _ _ _ _ [(0, .ref 30), (1, .int (nI sn))] [.int (0 : Int32)] (ab_S nr h g rr) _
  refine ab_istore_n (L' := [(2, .int (0 : Int32)), (0, .ref 30), (1, .int (nI sn))]) de_M_rule_5 (by decide) rfl ?_
  refine ab_iload_n de_M_rule_6 0 rfl ?_
  refine ab_if_eq (tgt := 16) de_M_rule_7 rfl (fun c_7_1 => ?_) (fun c_7_1 => ?_)
  · refine ab_aload_n de_M_rule_16 1 rfl ?_
    refine ab_bipush (v := 60) de_M_rule_17 rfl ?_
    refine ab_iload_n de_M_rule_19 2 rfl ?_
    refine ab_imul de_M_rule_20 ?_
    refine ab_top (v' := nI (60 * sn)) (ab_mul _ _) ?_
    refine ab_putI (x := 30) (j := 19) fl_M_131 rfl (Or.inl rfl) rfl rfl rfl de_M_rule_21 ?_
    change ab_G _ _ _ _ _ _ _ _ _ (ab_S nr (ab_u2 h 30 19 (nI (60 * sn))) g rr) _
    refine ab_aload_n de_M_rule_24 1 rfl ?_
    refine ab_iconst (v := 0) de_M_rule_25 rfl ?_
    refine ab_putI (x := 30) (j := 20) fl_M_125 rfl (Or.inl rfl) rfl rfl rfl de_M_rule_26 ?_
    change ab_G _ _ _ _ _ _ _ _ _ (ab_S nr (ab_u2 (ab_u2 h 30 19 (nI (60 * sn))) 30 20 (0 : Int32)) g rr) _
    refine ab_aload_n de_M_rule_29 1 rfl ?_
    refine ab_aload_n de_M_rule_30 1 rfl ?_
    refine ab_get (v := .ref 40) fl_M_41 rfl rfl de_M_rule_31 ?_
    refine ab_iload_n de_M_rule_34 2 rfl ?_
    refine ab_iald (v := (ab_u2 (ab_u2 h 30 19 (nI (60 * sn))) 30 20 (0 : Int32)) 40 sn) rfl (ab_in (by omega) (by decide)) (ab_hv (ab_tn (n := sn) (by omega))) de_M_rule_35 ?_
    refine ab_top (v' := nI (zs sn)) ((hzs sn hs).2) ?_
    refine ab_putI (x := 30) (j := 21) fl_M_128 rfl (Or.inl rfl) rfl rfl rfl de_M_rule_36 ?_
    change ab_G _ _ _ _ _ _ _ _ _ (ab_S nr (ab_u2 (ab_u2 (ab_u2 h 30 19 (nI (60 * sn))) 30 20 (0 : Int32)) 30 21 (nI (zs sn))) g rr) _
    refine ab_aload_n de_M_rule_39 1 rfl ?_
    refine ab_iconst (v := -1) de_M_rule_40 rfl ?_
    refine ab_putI (x := 30) (j := 2) fl_M_9 rfl (Or.inl rfl) rfl rfl rfl de_M_rule_41 ?_
    change ab_G _ _ _ _ _ _ _ _ _ (ab_S nr (ab_u2 (ab_u2 (ab_u2 (ab_u2 h 30 19 (nI (60 * sn))) 30 20 (0 : Int32)) 30 21 (nI (zs sn))) 30 2 (-1 : Int32)) g rr) _
    refine ab_hm (h' := md_r4 h sn (zs sn)) (rfl) ?_
    refine ab_aload_n de_M_rule_44 1 rfl ?_
    refine ab_cV (as := []) (st := []) (ct_M_reads l _ nr (md_r4 h sn (zs sn)) g rr (n := zs sn) (s := sn) hs (hzs sn hs).1 rfl rfl rfl) mo_M_reads mi_M_reads ml_M_165 rfl (by decide) rfl rfl rfl (Nat.le_of_ble_eq_true rfl) de_M_rule_45 (fun v_ M_ hK_ hl_ hv_ => ?_)
    rcases hK_ with ⟨rfl, c2_, hc2_, hw2_, hm_⟩ | ⟨rfl, i2_, j2_, c2_, fb_, hm_⟩
    · have hm_ := hm_.symm
      subst hm_
      change ab_G _ _ _ _ _ _ _ [(2, .int (0 : Int32)), (0, .ref 30), (1, .int (nI sn))] [.int (1 : Int32)] (ab_S nr (md_ps (md_r4 h sn (zs sn)) (zs sn) (md_r4 h sn (zs sn) 30 22) c2_) g rr) _
      refine ab_if_ne (tgt := 66) de_M_rule_48 rfl (fun c_48_2 => ?_) (fun c_48_2 => ?_)
      · refine ab_aload_n de_M_rule_66 1 rfl ?_
        refine ab_get (v := .int ((md_ps (md_r4 h sn (zs sn)) (zs sn) (md_r4 h sn (zs sn) 30 22) c2_) 30 0)) fl_M_87 rfl rfl de_M_rule_67 ?_
        refine ab_top (v' := nI n_) (hMR) ?_
        refine ab_bipush (v := 8) de_M_rule_70 rfl ?_
        refine ab_icmp_ne (tgt := 82) de_M_rule_72 rfl (fun c_72_3 => ?_) (fun c_72_3 => ?_)
        · have n8_ : ¬ n_ = 8 := fun z => c_72_3 (by rw [z]; rfl)
          refine ab_aload_n de_M_rule_82 1 rfl ?_
          refine ab_get (v := .ref 33) fl_M_20 rfl rfl de_M_rule_83 ?_
          refine ab_aload_n de_M_rule_86 1 rfl ?_
          refine ab_get (v := .int ((md_ps (md_r4 h sn (zs sn)) (zs sn) (md_r4 h sn (zs sn) 30 22) c2_) 30 0)) fl_M_87 rfl rfl de_M_rule_87 ?_
          refine ab_top (v' := nI n_) (hMR) ?_
          refine ab_aload_n de_M_rule_90 1 rfl ?_
          refine ab_get (v := .int ((md_ps (md_r4 h sn (zs sn)) (zs sn) (md_r4 h sn (zs sn) 30 22) c2_) 30 23)) fl_M_148 rfl rfl de_M_rule_91 ?_
          refine ab_top (v' := nI c2_) (rfl) ?_
          refine ab_iast (x := 33) rfl (ab_in (by omega) (by decide)) de_M_rule_94 ?_
          rw [(ab_tn (n := n_) (by omega))]
          change ab_G _ _ _ _ _ _ _ _ _ (ab_S nr (ab_u2 (md_ps (md_r4 h sn (zs sn)) (zs sn) (md_r4 h sn (zs sn) 30 22) c2_) 33 n_ (nI c2_)) g rr) _
          refine ab_aload_n de_M_rule_95 1 rfl ?_
          refine ab_dup de_M_rule_96 rfl ?_
          refine ab_get (v := .int ((ab_u2 (md_ps (md_r4 h sn (zs sn)) (zs sn) (md_r4 h sn (zs sn) 30 22) c2_) 33 n_ (nI c2_)) 30 0)) fl_M_87 rfl rfl de_M_rule_97 ?_
          refine ab_top (v' := nI n_) (hMR) ?_
          refine ab_dup_x1 de_M_rule_100 rfl rfl ?_
          refine ab_iconst (v := 1) de_M_rule_101 rfl ?_
          refine ab_iadd de_M_rule_102 ?_
          refine ab_top (v' := nI (n_ + 1)) (ab_add _ _) ?_
          refine ab_putI (x := 30) (j := 0) fl_M_87 rfl (Or.inl rfl) rfl rfl rfl de_M_rule_103 ?_
          change ab_G _ _ _ _ _ _ _ _ _ (ab_S nr (ab_u2 (ab_u2 (md_ps (md_r4 h sn (zs sn)) (zs sn) (md_r4 h sn (zs sn) 30 22) c2_) 33 n_ (nI c2_)) 30 0 (nI (n_ + 1))) g rr) _
          exact ab_ret (v := some (.int (nI n_))) de_M_rule_106 ⟨_, rfl⟩ ⟨ab_u2 (ab_u2 (ab_u2 h 30 2 (-1 : Int32)) 33 n_ (nI c2_)) 30 0 (nI (n_ + 1)), _, (by unfold fx_M_rule2; rw [md_wh_rd hw2_, if_pos (show (0 : Int32) ≤ nI c2_ from (ab_le (a := 0) (by decide) (by omega)).mpr (Nat.zero_le _)), if_neg n8_]), rfl, md_ku_u2 (md_ku_u2 (md_ku_tr (md_ku_r4 _ _ _) (md_ku_ps _ _ _ _)) _ _ _) _ _ _⟩
        · have n8_ : n_ = 8 := (ab_inj (b := 8) (by omega) (by decide)).mp c_72_3
          refine ab_aload_n de_M_rule_75 1 rfl ?_
          refine ab_bipush (v := -7) de_M_rule_76 rfl ?_
          refine ab_cV (as := [.int (-7 : Int32)]) (st := []) (ct_M_no l _ nr (md_ps (md_r4 h sn (zs sn)) (zs sn) (md_r4 h sn (zs sn) 30 22) c2_) g rr (r := (-7 : Int32)) (k := 7) (by decide) (by decide)) mo_M_no mi_M_no ml_M_94 rfl (by decide) rfl rfl rfl (Nat.le_of_ble_eq_true rfl) de_M_rule_78 (fun v_ M_ hK_ hl_ hv_ => ?_)
          obtain ⟨rfl, hm_⟩ := hK_
          have hm_ := hm_.symm
          subst hm_
          change ab_G _ _ _ _ _ _ _ [(2, .int (0 : Int32)), (0, .ref 30), (1, .int (nI sn))] [.int (-7 : Int32)] (ab_S nr (ab_u2 (md_ps (md_r4 h sn (zs sn)) (zs sn) (md_r4 h sn (zs sn) 30 22) c2_) 31 7 ((md_ps (md_r4 h sn (zs sn)) (zs sn) (md_r4 h sn (zs sn) 30 22) c2_) 31 7 + 1)) g rr) _
          exact ab_ret (v := some (.int (-7 : Int32))) de_M_rule_81 ⟨_, rfl⟩ ⟨ab_u2 (ab_u2 h 30 2 (-1 : Int32)) 31 7 (h 31 7 + 1), _, (by unfold fx_M_rule2; rw [md_wh_rd hw2_, if_pos (show (0 : Int32) ≤ nI c2_ from (ab_le (a := 0) (by decide) (by omega)).mpr (Nat.zero_le _)), if_pos n8_]), rfl, md_ku_u2 (md_ku_tr (md_ku_r4 _ _ _) (md_ku_ps _ _ _ _)) _ _ _⟩
      · exact absurd c_48_2 (by decide)
    · have hm_ := hm_.symm
      subst hm_
      have j60_ : j2_ < 61 := Nat.lt_of_le_of_lt fb_.1 (Nat.lt_succ_of_le (hzs sn hs).1)
      change ab_G _ _ _ _ _ _ _ [(2, .int (0 : Int32)), (0, .ref 30), (1, .int (nI sn))] [.int (0 : Int32)] (ab_S nr (md_ps (md_r4 h sn (zs sn)) i2_ (nI j2_) c2_) g rr) _
      refine ab_if_ne (tgt := 66) de_M_rule_48 rfl (fun c_48_4 => ?_) (fun c_48_4 => ?_)
      · exact absurd rfl c_48_4
      · refine ab_aload_n de_M_rule_51 1 rfl ?_
        refine ab_aload_n de_M_rule_52 1 rfl ?_
        refine ab_get (v := .int ((md_ps (md_r4 h sn (zs sn)) i2_ (nI j2_) c2_) 30 22)) fl_M_138 rfl rfl de_M_rule_53 ?_
        refine ab_top (v' := nI j2_) (rfl) ?_
        refine ab_putI (x := 30) (j := 2) fl_M_9 rfl (Or.inl rfl) rfl rfl rfl de_M_rule_56 ?_
        change ab_G _ _ _ _ _ _ _ _ _ (ab_S nr (ab_u2 (md_ps (md_r4 h sn (zs sn)) i2_ (nI j2_) c2_) 30 2 (nI j2_)) g rr) _
        refine ab_aload_n de_M_rule_59 1 rfl ?_
        refine ab_bipush (v := -6) de_M_rule_60 rfl ?_
        refine ab_cV (as := [.int (-6 : Int32)]) (st := []) (ct_M_no l _ nr (ab_u2 (md_ps (md_r4 h sn (zs sn)) i2_ (nI j2_) c2_) 30 2 (nI j2_)) g rr (r := (-6 : Int32)) (k := 6) (by decide) (by decide)) mo_M_no mi_M_no ml_M_94 rfl (by decide) rfl rfl rfl (Nat.le_of_ble_eq_true rfl) de_M_rule_62 (fun v_ M_ hK_ hl_ hv_ => ?_)
        obtain ⟨rfl, hm_⟩ := hK_
        have hm_ := hm_.symm
        subst hm_
        change ab_G _ _ _ _ _ _ _ [(2, .int (0 : Int32)), (0, .ref 30), (1, .int (nI sn))] [.int (-6 : Int32)] (ab_S nr (ab_u2 (ab_u2 (md_ps (md_r4 h sn (zs sn)) i2_ (nI j2_) c2_) 30 2 (nI j2_)) 31 6 ((ab_u2 (md_ps (md_r4 h sn (zs sn)) i2_ (nI j2_) c2_) 30 2 (nI j2_)) 31 6 + 1)) g rr) _
        exact ab_ret (v := some (.int (-6 : Int32))) de_M_rule_65 ⟨_, rfl⟩ ⟨ab_u2 (ab_u2 h 30 2 (nI j2_)) 31 6 (h 31 6 + 1), _, (by unfold fx_M_rule2; rw [md_fb_rd fb_, if_neg (md_fm1 _ j60_), md_fm2 _ j60_]), rfl, md_ku_u2 (md_ku_o (md_ku_tr (md_ku_r4 _ _ _) (md_ku_ps _ _ _ _)) _) _ _ _⟩
  · exact absurd rfl c_7_1
theorem ct_M_rule (l : Launch) (d : Nat) (nr : Nat) (h : Nat → Nat → Int32) (g : Nat → Nat → Int64) (rr : Nat → Option Nat) {n_ : Nat} (hMR : h 30 0 = nI n_) (hn8 : n_ ≤ 8) {zs : Nat → Nat} (hzs : ∀ s, s < 8 → zs s ≤ 60 ∧ h 40 s = nI (zs s)) (s : Int32) : ab_C l am_M_rule (d + 6) 0 0 [.ref 30, .int s] (ab_S nr h g rr) (fun (r_ : Option Value) (M' : ab_Me) => ∃ X h', (r_, X) = fx_M_rule h g zs n_ s ∧ M' = ab_S nr h' g rr ∧ md_ku X h') := by
  by_cases c1 : ab_bz (sp_sh s) = 0
  · exact ct_M_rule_1 l (d + 4) nr h g rr s (by unfold fx_M_wants; rw [if_pos c1]) (by unfold fx_M_rule; rw [if_pos c1])
  · obtain ⟨sn, hsn, rfl⟩ := sp_sh_n c1
    have ts : (nI sn).toNatClampNeg = sn := ab_tn (by omega)
    by_cases c2 : h 38 sn = 2
    · exact ct_M_rule_2 l (d + 4) nr h g rr (nI sn) (by unfold fx_M_wants; rw [ts, if_neg c1, if_pos c2]) (by unfold fx_M_rule; rw [ts, if_neg c1, if_pos c2])
    · by_cases c3 : h 38 sn = 0
      · exact ct_M_rule_3 l (d + 4) nr h g rr (nI sn) (by unfold fx_M_wants; rw [ts, if_neg c1, if_neg c2, if_pos c3]) (by unfold fx_M_rule; rw [ts, if_neg c1, if_neg c2, if_pos c3])
      · have e : fx_M_rule h g zs n_ (nI sn) = fx_M_rule2 h g (zs sn) n_ sn := by unfold fx_M_rule; rw [ts, if_neg c1, if_neg c2, if_neg c3]
        rw [e]
        exact ct_M_rule_0 l d nr h g rr hMR hn8 hzs hsn (by unfold fx_M_wants; rw [ts, if_neg c1, if_neg c2, if_neg c3])
