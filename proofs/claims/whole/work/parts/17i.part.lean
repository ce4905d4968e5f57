/-! the reference: reading letters -/
theorem md_gn0 {W k : Nat} {l : List Int32} (hl : ∀ w, w < 13 → W.testBit w = true → nI (sp_wb (8 * w + k)) ∈ l) {x : Int32} (hx : ¬ x ∈ l) : sp_gn W k x = 0 := by
  unfold sp_gn
  split
  · rw [sp_or_cong (g := fun _ => 0) (fun w hw => show sp_gnf W k x w = 0 from if_neg (fun q : W.testBit w = true ∧ nI (sp_wb (8 * w + k)) = x => hx (q.2 ▸ hl w hw q.1)))]
    rfl
  · rfl
theorem md_1 {x c : Int32} (h : ¬ x = c) : ¬ x ∈ [c] := fun z => h (List.mem_singleton.mp z)
theorem sp_th_0 (c : Nat) : sp_th c 0 = false := by
  unfold sp_th
  refine decide_eq_false (fun z => ?_)
  rcases z with z | z
  · exact z (Nat.and_zero c)
  · exact z.2 rfl
def md_go (f : Nat → Int32) (i c W p : Nat) : Prop := sp_rs f i = (c, W, p, false) ∧ ∀ j, j < i → sp_rok (f j) (sp_rs f j) = true
def md_wh (f : Nat → Int32) (i c : Nat) : Prop := ((sp_rs f i).1 = c ∧ (sp_rs f i).2.2.2 = true) ∧ ∀ j, j < i → sp_rok (f j) (sp_rs f j) = true
/-- the FAULT -/
def md_fb (f : Nat → Int32) (n j : Nat) : Prop := j ≤ n ∧ (∀ k, k < j → sp_rok (f k) (sp_rs f k) = true) ∧ (j < n → sp_rok (f j) (sp_rs f j) = false) ∧ (j = n → (sp_rs f n).2.2.2 = false)
theorem md_fb_rd {f : Nat → Int32} {n j : Nat} (h : md_fb f n j) : sp_rd f n = -1 - nI j := by
  unfold sp_rd sp_rdk
  rcases Nat.lt_or_ge j n with e | e
  · rw [sp_ft_at (f := fun i => !sp_rok (f i) (sp_rs f i)) (k := j) (by show (!sp_rok (f j) (sp_rs f j)) = true; rw [h.2.2.1 e]; rfl) (fun q hq => by show (!sp_rok (f q) (sp_rs f q)) = false; rw [h.2.1 q hq]; rfl) n e, if_pos e]
  · have e2 : j = n := Nat.le_antisymm h.1 e
    rw [sp_ft_no n (fun q hq => by show (!sp_rok (f q) (sp_rs f q)) = false; rw [h.2.1 q (by omega)]; rfl), if_neg (Nat.lt_irrefl _), if_neg (by rw [h.2.2.2 e2]; decide), e2]
theorem md_wh_rd {f : Nat → Int32} {n c : Nat} (h : md_wh f n c) : sp_rd f n = nI c := by
  unfold sp_rd sp_rdk
  rw [sp_ft_no n (fun q hq => by show (!sp_rok (f q) (sp_rs f q)) = false; rw [h.2 q hq]; rfl), if_neg (Nat.lt_irrefl _), if_pos h.1.2, h.1.1]
theorem md_rok {f : Nat → Int32} {i c W p : Nat} (hg : md_go f i c W p) : sp_rok (f i) (sp_rs f i) = (!decide (sp_gn W p (f i) = 0) && !sp_th c (sp_ww (sp_gn W p (f i)) (p + 1))) := by
  rw [hg.1]
  rfl
theorem md_rnx {f : Nat → Int32} {i c W p : Nat} (hg : md_go f i c W p) : sp_rs f (i + 1) = (c ||| sp_ww (sp_gn W p (f i)) (p + 1), sp_gn W p (f i), p + 1, !decide (sp_ww (sp_gn W p (f i)) (p + 1) = 0)) := by
  show sp_rst (f i) (sp_rs f i) = _
  rw [hg.1]
  rfl
theorem md_lts {i j : Nat} {P : Nat → Prop} (h : ∀ j, j < i → P j) (hi : P i) (hj : j < i + 1) : P j := by
  rcases Nat.lt_or_ge j i with e | e
  · exact h j e
  · rw [show j = i by omega]; exact hi
theorem md_stp {f : Nat → Int32} {i c W p V : Nat} (hg : md_go f i c W p) (hW : sp_gn W p (f i) = V) (h0 : ¬ V = 0) (hw : sp_ww V (p + 1) = 0) : md_go f (i + 1) c V (p + 1) := by
  refine ⟨?_, fun j hj => md_lts (P := fun j => sp_rok (f j) (sp_rs f j) = true) hg.2 ?_ hj⟩
  · rw [md_rnx hg, hW, hw, Nat.or_zero]
    rfl
  · show sp_rok (f i) (sp_rs f i) = true
    rw [md_rok hg, hW, hw, decide_eq_false h0, sp_th_0]
    rfl
theorem md_lst {f : Nat → Int32} {i c W p V b : Nat} (hg : md_go f i c W p) (hW : sp_gn W p (f i) = V) (h0 : ¬ V = 0) (hw : sp_ww V (p + 1) = b) (hb : ¬ b = 0) (ht : sp_th c b = false) : md_wh f (i + 1) (c ||| b) := by
  refine ⟨?_, fun j hj => md_lts (P := fun j => sp_rok (f j) (sp_rs f j) = true) hg.2 ?_ hj⟩
  · rw [md_rnx hg, hW, hw, decide_eq_false hb]
    exact ⟨rfl, rfl⟩
  · show sp_rok (f i) (sp_rs f i) = true
    rw [md_rok hg, hW, hw, decide_eq_false h0, ht]
    rfl
theorem md_thb {f : Nat → Int32} {i n c W p V b : Nat} (hi : i < n) (hg : md_go f i c W p) (hW : sp_gn W p (f i) = V) (hw : sp_ww V (p + 1) = b) (ht : sp_th c b = true) : md_fb f n i := by
  refine ⟨by omega, hg.2, fun _ => ?_, fun z => absurd z (by omega)⟩
  rw [md_rok hg, hW, hw, ht, Bool.not_true, Bool.and_false]
theorem md_no {f : Nat → Int32} {i n c W p : Nat} (hi : i ≤ n) (hg : md_go f i c W p) (h0 : i < n → sp_gn W p (f i) = 0) : md_fb f n i := by
  refine ⟨hi, hg.2, fun z => ?_, fun z => by rw [← z, hg.1]⟩
  rw [md_rok hg, h0 z]
  rfl
theorem md_semi {f : Nat → Int32} {i c : Nat} (hg : md_wh f i c) (h : f i = 59) : md_go f (i + 1) c 8191 0 := by
  refine ⟨?_, fun j hj => md_lts (P := fun j => sp_rok (f j) (sp_rs f j) = true) hg.2 ?_ hj⟩
  · show sp_rst (f i) (sp_rs f i) = _
    unfold sp_rst
    rw [if_pos hg.1.2, hg.1.1]
  · show sp_rok (f i) (sp_rs f i) = true
    unfold sp_rok
    rw [if_pos hg.1.2]
    exact decide_eq_true h
theorem md_nosemi {f : Nat → Int32} {i n c : Nat} (hi : i < n) (hg : md_wh f i c) (h : ¬ f i = 59) : md_fb f n i := by
  refine ⟨by omega, hg.2, fun _ => ?_, fun z => absurd z (by omega)⟩
  unfold sp_rok
  rw [if_pos hg.1.2]
  exact decide_eq_false h
theorem sp_thl {c b : Nat} (hb : b / 1024 = 0) : sp_th c b = decide (¬ c &&& b = 0) := by
  unfold sp_th
  rw [decide_eq_decide]
  constructor
  · rintro (z | z)
    · exact z
    · exact absurd hb z.2
  · exact Or.inl
theorem sp_th3a : ∀ a, a < 64 → ∀ b, b < 64 → ((64 * a + b) &&& 3072 = 0 ↔ (64 * a + b) / 1024 = 0) := by decide +kernel
theorem sp_th3b : ∀ a, a < 64 → ∀ b, b < 64 → (64 * a + b) &&& 3072 = 0 → ((64 * a + b) &&& 1024 = 0 ∧ (64 * a + b) &&& 2048 = 0) := by decide +kernel
theorem sp_thh {c e : Nat} (hc : c < 4096) (h1 : 1 ≤ e) (h3 : e ≤ 3) : sp_th c (1024 * e) = decide (¬ c &&& 3072 = 0) := by
  have ha := sp_th3a (c / 64) (by omega) (c % 64) (by omega)
  have hb := sp_th3b (c / 64) (by omega) (c % 64) (by omega)
  rw [show 64 * (c / 64) + c % 64 = c by omega] at ha hb
  unfold sp_th
  rw [decide_eq_decide]
  constructor
  · rintro (z | z)
    · intro q
      refine z ?_
      rcases (by omega : e = 1 ∨ e = 2 ∨ e = 3) with r | r | r
      · rw [r]; exact (hb q).1
      · rw [r]; exact (hb q).2
      · rw [r]; exact q
    · exact fun q => z.1 (ha.mp q)
  · intro z
    exact Or.inr ⟨fun q => z (ha.mpr q), by omega⟩
theorem md_dg3 {x : Int32} (h0 : ¬ x < 48) (h1 : x ≤ 50) : ∃ e, e < 3 ∧ x = nI (48 + e) := by
  have a : 48 ≤ x.toInt := by have := Int32.not_lt.mp h0; exact Int32.le_iff_toInt_le.mp this
  have b : x.toInt ≤ 50 := Int32.le_iff_toInt_le.mp h1
  refine ⟨(x.toInt - 48).toNat, by omega, ?_⟩
  apply Int32.toInt_inj.mp
  rw [nI_toInt (by omega)]
  omega
theorem md_dg1 {x : Int32} (h0 : ¬ x < 49) (h1 : x ≤ 51) : ∃ e, (1 ≤ e ∧ e ≤ 3) ∧ x = nI (48 + e) := by
  have a : 49 ≤ x.toInt := by have := Int32.not_lt.mp h0; exact Int32.le_iff_toInt_le.mp this
  have b : x.toInt ≤ 51 := Int32.le_iff_toInt_le.mp h1
  refine ⟨(x.toInt - 48).toNat, by omega, ?_⟩
  apply Int32.toInt_inj.mp
  rw [nI_toInt (by omega)]
  omega
/-- where a rule's letters are read: the place, the wrong place, the CODE so far -/
def md_ps (h : Nat → Nat → Int32) (i : Nat) (w : Int32) (r : Nat) : Nat → Nat → Int32 := fun a b => if a = 30 ∧ b = 20 then nI i else if a = 30 ∧ b = 22 then w else if a = 30 ∧ b = 23 then nI r else h a b
theorem md_ps_20 (h : Nat → Nat → Int32) (i j : Nat) (w : Int32) (r : Nat) : ab_u2 (md_ps h i w r) 30 20 (nI j) = md_ps h j w r := by
  funext a b
  unfold ab_u2 md_ps
  by_cases e : a = 30 ∧ b = 20
  · simp only [if_pos e]
  · simp only [if_neg e]
theorem md_ps_22 (h : Nat → Nat → Int32) (i : Nat) (w x : Int32) (r : Nat) : ab_u2 (md_ps h i w r) 30 22 x = md_ps h i x r := by
  funext a b
  unfold ab_u2 md_ps
  by_cases e : a = 30 ∧ b = 22
  · simp only [if_pos e]
    rw [if_neg (fun z => by omega)]
  · simp only [if_neg e]
theorem md_ps_23 (h : Nat → Nat → Int32) (i : Nat) (w : Int32) (r q : Nat) : ab_u2 (md_ps h i w r) 30 23 (nI q) = md_ps h i w q := by
  funext a b
  unfold ab_u2 md_ps
  by_cases e : a = 30 ∧ b = 23
  · simp only [if_pos e]
    rw [if_neg (fun z => by omega), if_neg (fun z => by omega)]
  · simp only [if_neg e]
theorem md_ps_in {h : Nat → Nat → Int32} {i : Nat} (h20 : h 30 20 = nI i) (q : Nat) : ab_u2 h 30 23 (nI q) = md_ps h i (h 30 22) q := by
  funext a b
  unfold ab_u2 md_ps
  by_cases e : a = 30 ∧ b = 23
  · simp only [if_pos e]
    rw [if_neg (fun z => by omega), if_neg (fun z => by omega)]
  · simp only [if_neg e]
    by_cases f : a = 30 ∧ b = 20
    · rw [if_pos f, f.1, f.2, h20]
    · rw [if_neg f]
      by_cases k : a = 30 ∧ b = 22
      · rw [if_pos k, k.1, k.2]
      · rw [if_neg k]
def md_f (g : Nat → Nat → Int64) (s : Nat) : Nat → Int32 := fun i => (g 42 ((60 * s) + i)).toInt32
set_option maxHeartbeats 1000000 in
set_option maxRecDepth 10000 in
theorem ct_M_intAt_0 (l : Launch) (d : Nat) (nr : Nat) (h : Nat → Nat → Int32) (g : Nat → Nat → Int64) (rr : Nat → Option Nat) {j : Nat} (hj : j < 480) : ab_C l am_M_intAt d 0 0 [.ref 30, .int (0 : Int32), .int (nI j)] (ab_S nr h g rr) (fun (r_ : Option Value) (M' : ab_Me) => r_ = some (.int ((g 42 j).toInt32)) ∧ M' = (ab_S nr h g rr)) := by
  refine ab_C_of (by decide +kernel) rfl (Nat.le_of_ble_eq_true rfl) ?_
  refine ab_aload_n de_M_intAt_0 0 rfl ?_
  refine ab_get (v := .ref 42) fl_M_47 rfl rfl de_M_intAt_1 ?_
  refine ab_bipush (v := 60) de_M_intAt_4 rfl ?_
  refine ab_iload_n de_M_intAt_6 1 rfl ?_
  refine ab_imul de_M_intAt_7 ?_
  refine ab_top (v' := nI (60 * 0)) (ab_mul _ _) ?_
  refine ab_iload_n de_M_intAt_8 2 rfl ?_
  refine ab_iadd de_M_intAt_9 ?_
  refine ab_top (v' := nI ((60 * 0) + j)) (ab_add _ _) ?_
  refine ab_lald (v := g 42 ((60 * 0) + j)) rfl (ab_in (by omega) (by decide)) (ab_gv (ab_tn (n := ((60 * 0) + j)) (by omega))) de_M_intAt_10 ?_
  refine ab_l2i de_M_intAt_11 rfl ?_
  exact ab_ret (v := some (.int ((g 42 ((60 * 0) + j)).toInt32))) de_M_intAt_12 ⟨_, rfl⟩ ⟨congrArg (fun z => some (Value.int (g 42 z).toInt32)) (by omega), rfl⟩
set_option maxHeartbeats 1000000 in
set_option maxRecDepth 10000 in
theorem ct_M_letter (l : Launch) (d : Nat) (nr : Nat) (h : Nat → Nat → Int32) (g : Nat → Nat → Int64) (rr : Nat → Option Nat) {i n s r : Nat} {w : Int32} (hs : s < 8) (hn60 : n ≤ 60) (hbase : h 30 19 = nI (60 * s)) (hend : h 30 21 = nI n) (hi : i < n) : ab_C l am_M_letter (d + 1) 0 0 [.ref 30] (ab_S nr (md_ps h i w r) g rr) (fun (r_ : Option Value) (M' : ab_Me) => r_ = some (.int (md_f g s i)) ∧ M' = (ab_S nr (md_ps h i w r) g rr)) := by
  refine ab_C_of (by decide +kernel) rfl (Nat.le_of_ble_eq_true rfl) ?_
  refine ab_aload_n de_M_letter_0 0 rfl ?_
  refine ab_get (v := .int ((md_ps h i w r) 30 20)) fl_M_125 rfl rfl de_M_letter_1 ?_
  refine ab_top (v' := nI i) (rfl) ?_
  refine ab_aload_n de_M_letter_4 0 rfl ?_
  refine ab_get (v := .int ((md_ps h i w r) 30 21)) fl_M_128 rfl rfl de_M_letter_5 ?_
  refine ab_top (v' := nI n) (hend) ?_
  refine ab_icmp_ge (tgt := 28) de_M_letter_8 rfl (fun c_8_1 => ?_) (fun c_8_1 => ?_)
  · exact absurd ((ab_le (by omega) (by omega)).mp c_8_1) (by omega)
  · refine ab_aload_n de_M_letter_11 0 rfl ?_
    refine ab_iconst (v := 0) de_M_letter_12 rfl ?_
    refine ab_aload_n de_M_letter_13 0 rfl ?_
    refine ab_get (v := .int ((md_ps h i w r) 30 19)) fl_M_131 rfl rfl de_M_letter_14 ?_
    refine ab_top (v' := nI (60 * s)) (hbase) ?_
    refine ab_aload_n de_M_letter_17 0 rfl ?_
    refine ab_get (v := .int ((md_ps h i w r) 30 20)) fl_M_125 rfl rfl de_M_letter_18 ?_
    refine ab_top (v' := nI i) (rfl) ?_
    refine ab_iadd de_M_letter_21 ?_
    refine ab_top (v' := nI ((60 * s) + i)) (ab_add _ _) ?_
    refine ab_cV (as := [.int (0 : Int32), .int (nI ((60 * s) + i))]) (st := []) (ct_M_intAt_0 l _ nr (md_ps h i w r) g rr (j := ((60 * s) + i)) (by omega)) mo_M_intAt mi_M_intAt ml_M_134 rfl (by decide) rfl rfl rfl (Nat.le_of_ble_eq_true rfl) de_M_letter_22 (fun v_ M_ hK_ hl_ hv_ => ?_)
    obtain ⟨rfl, hm_⟩ := hK_
    have hm_ := hm_.symm
    subst hm_
    change ab_G _ _ _ _ _ _ _ [(0, .ref 30)] [.int ((g 42 ((60 * s) + i)).toInt32)] (ab_S nr (md_ps h i w r) g rr) _
    refine ab_goto (tgt := 29) de_M_letter_25 rfl ?_
    exact ab_ret (v := some (.int ((g 42 ((60 * s) + i)).toInt32))) de_M_letter_29 ⟨_, rfl⟩ ⟨rfl, rfl⟩
set_option maxHeartbeats 1000000 in
set_option maxRecDepth 10000 in
theorem ct_M_wrong (l : Launch) (d : Nat) (nr : Nat) (h : Nat → Nat → Int32) (g : Nat → Nat → Int64) (rr : Nat → Option Nat) {i r : Nat} {w : Int32} (x : Int32) : ab_C l am_M_wrong d 0 0 [.ref 30, .int x] (ab_S nr (md_ps h i w r) g rr) (fun (r_ : Option Value) (M' : ab_Me) => r_ = some (.int (0 : Int32)) ∧ M' = (ab_S nr (md_ps h i x r) g rr)) := by
  refine ab_C_of (by decide +kernel) rfl (Nat.le_of_ble_eq_true rfl) ?_
  refine ab_aload_n de_M_wrong_0 0 rfl ?_
  refine ab_iload_n de_M_wrong_1 1 rfl ?_
  refine ab_putI (x := 30) (j := 22) fl_M_138 rfl (Or.inl rfl) rfl rfl rfl de_M_wrong_2 ?_
  change ab_G _ _ _ _ _ _ _ _ _ (ab_S nr (ab_u2 (md_ps h i w r) 30 22 x) g rr) _
  refine ab_hm (h' := md_ps h i x r) (md_ps_22 _ _ _ _ _) ?_
  refine ab_iconst (v := 0) de_M_wrong_5 rfl ?_
  exact ab_ret (v := some (.int (0 : Int32))) de_M_wrong_6 ⟨_, rfl, rfl⟩ ⟨rfl, rfl⟩
set_option maxHeartbeats 1000000 in
set_option maxRecDepth 10000 in
theorem ct_M_takes_1 (l : Launch) (d : Nat) (nr : Nat) (h : Nat → Nat → Int32) (g : Nat → Nat → Int64) (rr : Nat → Option Nat) {i n s r : Nat} {w : Int32} (hs : s < 8) (hn60 : n ≤ 60) (hbase : h 30 19 = nI (60 * s)) (hend : h 30 21 = nI n) {c : Int32} (hi : i < n) (hc : md_f g s i = c) : ab_C l am_M_takes (d + 2) 0 0 [.ref 30, .int c] (ab_S nr (md_ps h i w r) g rr) (fun (r_ : Option Value) (M' : ab_Me) => r_ = some (.int (1 : Int32)) ∧ M' = (ab_S nr (md_ps h (i + 1) w r) g rr)) := by
  refine ab_C_of (by decide +kernel) rfl (Nat.le_of_ble_eq_true rfl) ?_
  refine ab_aload_n de_M_takes_0 0 rfl ?_
  refine ab_get (v := .int ((md_ps h i w r) 30 20)) fl_M_125 rfl rfl de_M_takes_1 ?_
  refine ab_top (v' := nI i) (rfl) ?_
  refine ab_aload_n de_M_takes_4 0 rfl ?_
  refine ab_get (v := .int ((md_ps h i w r) 30 21)) fl_M_128 rfl rfl de_M_takes_5 ?_
  refine ab_top (v' := nI n) (hend) ?_
  refine ab_icmp_ge (tgt := 19) de_M_takes_8 rfl (fun c_8_1 => ?_) (fun c_8_1 => ?_)
  · exact absurd ((ab_le (by omega) (by omega)).mp c_8_1) (by omega)
  · refine ab_aload_n de_M_takes_11 0 rfl ?_
    refine ab_cV (as := []) (st := []) (ct_M_letter l _ nr h g rr (i := i) (w := w) (r := r) hs hn60 hbase hend (by omega)) mo_M_letter mi_M_letter ml_M_141 rfl (by decide) rfl rfl rfl (Nat.le_of_ble_eq_true rfl) de_M_takes_12 (fun v_ M_ hK_ hl_ hv_ => ?_)
    obtain ⟨rfl, hm_⟩ := hK_
    have hm_ := hm_.symm
    subst hm_
    change ab_G _ _ _ _ _ _ _ [(0, .ref 30), (1, .int c)] [.int (md_f g s i)] (ab_S nr (md_ps h i w r) g rr) _
    refine ab_top (v' := c) (hc) ?_
    refine ab_iload_n de_M_takes_15 1 rfl ?_
    refine ab_icmp_eq (tgt := 28) de_M_takes_16 rfl (fun c_16_2 => ?_) (fun c_16_2 => ?_)
    · refine ab_aload_n de_M_takes_28 0 rfl ?_
      refine ab_dup de_M_takes_29 rfl ?_
      refine ab_get (v := .int ((md_ps h i w r) 30 20)) fl_M_125 rfl rfl de_M_takes_30 ?_
      refine ab_top (v' := nI i) (rfl) ?_
      refine ab_iconst (v := 1) de_M_takes_33 rfl ?_
      refine ab_iadd de_M_takes_34 ?_
      refine ab_top (v' := nI (i + 1)) (ab_add _ _) ?_
      refine ab_putI (x := 30) (j := 20) fl_M_125 rfl (Or.inl rfl) rfl rfl rfl de_M_takes_35 ?_
      change ab_G _ _ _ _ _ _ _ _ _ (ab_S nr (ab_u2 (md_ps h i w r) 30 20 (nI (i + 1))) g rr) _
      refine ab_hm (h' := md_ps h (i + 1) w r) (md_ps_20 _ _ _ _ _) ?_
      refine ab_iconst (v := 1) de_M_takes_38 rfl ?_
      exact ab_ret (v := some (.int (1 : Int32))) de_M_takes_39 ⟨_, rfl, rfl⟩ ⟨rfl, rfl⟩
    · exact absurd rfl c_16_2
set_option maxHeartbeats 1000000 in
set_option maxRecDepth 10000 in
theorem ct_M_takes_0 (l : Launch) (d : Nat) (nr : Nat) (h : Nat → Nat → Int32) (g : Nat → Nat → Int64) (rr : Nat → Option Nat) {i n s r : Nat} {w : Int32} (hs : s < 8) (hn60 : n ≤ 60) (hbase : h 30 19 = nI (60 * s)) (hend : h 30 21 = nI n) {c : Int32} (hle : i ≤ n) (hne : ¬ (i < n ∧ md_f g s i = c)) : ab_C l am_M_takes (d + 2) 0 0 [.ref 30, .int c] (ab_S nr (md_ps h i w r) g rr) (fun (r_ : Option Value) (M' : ab_Me) => r_ = some (.int (0 : Int32)) ∧ M' = (ab_S nr (md_ps h i (nI i) r) g rr)) := by
  refine ab_C_of (by decide +kernel) rfl (Nat.le_of_ble_eq_true rfl) ?_
  refine ab_aload_n de_M_takes_0 0 rfl ?_
  refine ab_get (v := .int ((md_ps h i w r) 30 20)) fl_M_125 rfl rfl de_M_takes_1 ?_
  refine ab_top (v' := nI i) (rfl) ?_
  refine ab_aload_n de_M_takes_4 0 rfl ?_
  refine ab_get (v := .int ((md_ps h i w r) 30 21)) fl_M_128 rfl rfl de_M_takes_5 ?_
  refine ab_top (v' := nI n) (hend) ?_
  refine ab_icmp_ge (tgt := 19) de_M_takes_8 rfl (fun c_8_1 => ?_) (fun c_8_1 => ?_)
  · refine ab_aload_n de_M_takes_19 0 rfl ?_
    refine ab_aload_n de_M_takes_20 0 rfl ?_
    refine ab_get (v := .int ((md_ps h i w r) 30 20)) fl_M_125 rfl rfl de_M_takes_21 ?_
    refine ab_top (v' := nI i) (rfl) ?_
    refine ab_cV (as := [.int (nI i)]) (st := []) (ct_M_wrong l _ nr h g rr (i := i) (w := w) (r := r) (nI i)) mo_M_wrong mi_M_wrong ml_M_145 rfl (by decide) rfl rfl rfl (Nat.le_of_ble_eq_true rfl) de_M_takes_24 (fun v_ M_ hK_ hl_ hv_ => ?_)
    obtain ⟨rfl, hm_⟩ := hK_
    have hm_ := hm_.symm
    subst hm_
    change ab_G _ _ _ _ _ _ _ [(0, .ref 30), (1, .int c)] [.int (0 : Int32)] (ab_S nr (md_ps h i (nI i) r) g rr) _
    exact ab_ret (v := some (.int (0 : Int32))) de_M_takes_27 ⟨_, rfl, rfl⟩ ⟨rfl, rfl⟩
  · have hi_ : i < n := Nat.lt_of_not_le (fun z_ => c_8_1 ((ab_le (by omega) (by omega)).mpr z_))
    refine ab_aload_n de_M_takes_11 0 rfl ?_
    refine ab_cV (as := []) (st := []) (ct_M_letter l _ nr h g rr (i := i) (w := w) (r := r) hs hn60 hbase hend (by omega)) mo_M_letter mi_M_letter ml_M_141 rfl (by decide) rfl rfl rfl (Nat.le_of_ble_eq_true rfl) de_M_takes_12 (fun v_ M_ hK_ hl_ hv_ => ?_)
    obtain ⟨rfl, hm_⟩ := hK_
    have hm_ := hm_.symm
    subst hm_
    change ab_G _ _ _ _ _ _ _ [(0, .ref 30), (1, .int c)] [.int (md_f g s i)] (ab_S nr (md_ps h i w r) g rr) _
    refine ab_iload_n de_M_takes_15 1 rfl ?_
    refine ab_icmp_eq (tgt := 28) de_M_takes_16 rfl (fun c_16_2 => ?_) (fun c_16_2 => ?_)
    · exact absurd ⟨hi_, c_16_2⟩ hne
    · refine ab_aload_n de_M_takes_19 0 rfl ?_
      refine ab_aload_n de_M_takes_20 0 rfl ?_
      refine ab_get (v := .int ((md_ps h i w r) 30 20)) fl_M_125 rfl rfl de_M_takes_21 ?_
      refine ab_top (v' := nI i) (rfl) ?_
      refine ab_cV (as := [.int (nI i)]) (st := []) (ct_M_wrong l _ nr h g rr (i := i) (w := w) (r := r) (nI i)) mo_M_wrong mi_M_wrong ml_M_145 rfl (by decide) rfl rfl rfl (Nat.le_of_ble_eq_true rfl) de_M_takes_24 (fun v_ M_ hK_ hl_ hv_ => ?_)
      obtain ⟨rfl, hm_⟩ := hK_
      have hm_ := hm_.symm
      subst hm_
      change ab_G _ _ _ _ _ _ _ [(0, .ref 30), (1, .int c)] [.int (0 : Int32)] (ab_S nr (md_ps h i (nI i) r) g rr) _
      exact ab_ret (v := some (.int (0 : Int32))) de_M_takes_27 ⟨_, rfl, rfl⟩ ⟨rfl, rfl⟩
set_option maxHeartbeats 1000000 in
set_option maxRecDepth 10000 in
theorem ct_M_adds_1 (l : Launch) (d : Nat) (nr : Nat) (h : Nat → Nat → Int32) (g : Nat → Nat → Int64) (rr : Nat → Option Nat) {i r : Nat} {w : Int32} {b o : Nat} (hr : r &&& o = 0) : ab_C l am_M_adds (d + 1) 0 0 [.ref 30, .int (nI b), .int (nI o)] (ab_S nr (md_ps h i w r) g rr) (fun (r_ : Option Value) (M' : ab_Me) => r_ = some (.int (1 : Int32)) ∧ M' = (ab_S nr (md_ps h i w (r ||| b)) g rr)) := by
  refine ab_C_of (by decide +kernel) rfl (Nat.le_of_ble_eq_true rfl) ?_
  refine ab_aload_n de_M_adds_0 0 rfl ?_
  refine ab_get (v := .int ((md_ps h i w r) 30 23)) fl_M_148 rfl rfl de_M_adds_1 ?_
  refine ab_top (v' := nI r) (rfl) ?_
  refine ab_iload_n de_M_adds_4 2 rfl ?_
  refine ab_iand de_M_adds_5 ?_
  refine ab_top (v' := nI (r &&& o)) (ab_and _ _) ?_
  refine ab_if_eq (tgt := 20) de_M_adds_6 rfl (fun c_6_1 => ?_) (fun c_6_1 => ?_)
  · refine ab_aload_n de_M_adds_20 0 rfl ?_
    refine ab_dup de_M_adds_21 rfl ?_
    refine ab_get (v := .int ((md_ps h i w r) 30 23)) fl_M_148 rfl rfl de_M_adds_22 ?_
    refine ab_top (v' := nI r) (rfl) ?_
    refine ab_iload_n de_M_adds_25 1 rfl ?_
    refine ab_ior de_M_adds_26 ?_
    refine ab_top (v' := nI (r ||| b)) (ab_or _ _) ?_
    refine ab_putI (x := 30) (j := 23) fl_M_148 rfl (Or.inl rfl) rfl rfl rfl de_M_adds_27 ?_
    change ab_G _ _ _ _ _ _ _ _ _ (ab_S nr (ab_u2 (md_ps h i w r) 30 23 (nI (r ||| b))) g rr) _
    refine ab_hm (h' := md_ps h i w (r ||| b)) (md_ps_23 _ _ _ _ _) ?_
    refine ab_iconst (v := 1) de_M_adds_30 rfl ?_
    exact ab_ret (v := some (.int (1 : Int32))) de_M_adds_31 ⟨_, rfl, rfl⟩ ⟨rfl, rfl⟩
  · exact absurd (show nI (r &&& o) = 0 by rw [hr]; rfl) c_6_1
set_option maxHeartbeats 1000000 in
set_option maxRecDepth 10000 in
theorem ct_M_adds_0 (l : Launch) (d : Nat) (nr : Nat) (h : Nat → Nat → Int32) (g : Nat → Nat → Int64) (rr : Nat → Option Nat) {i r : Nat} {w : Int32} {b o : Nat} (hr : ¬ r &&& o = 0) (hrl : r < 4096) (hi1 : 1 ≤ i) : ab_C l am_M_adds (d + 1) 0 0 [.ref 30, .int (nI b), .int (nI o)] (ab_S nr (md_ps h i w r) g rr) (fun (r_ : Option Value) (M' : ab_Me) => r_ = some (.int (0 : Int32)) ∧ M' = (ab_S nr (md_ps h i (nI (i - 1)) r) g rr)) := by
  refine ab_C_of (by decide +kernel) rfl (Nat.le_of_ble_eq_true rfl) ?_
  refine ab_aload_n de_M_adds_0 0 rfl ?_
  refine ab_get (v := .int ((md_ps h i w r) 30 23)) fl_M_148 rfl rfl de_M_adds_1 ?_
  refine ab_top (v' := nI r) (rfl) ?_
  refine ab_iload_n de_M_adds_4 2 rfl ?_
  refine ab_iand de_M_adds_5 ?_
  refine ab_top (v' := nI (r &&& o)) (ab_and _ _) ?_
  refine ab_if_eq (tgt := 20) de_M_adds_6 rfl (fun c_6_1 => ?_) (fun c_6_1 => ?_)
  · exact absurd ((ab_inj (b := 0) (Nat.lt_of_le_of_lt Nat.and_le_left (by omega)) (by decide)).mp c_6_1) hr
  · refine ab_aload_n de_M_adds_9 0 rfl ?_
    refine ab_aload_n de_M_adds_10 0 rfl ?_
    refine ab_get (v := .int ((md_ps h i w r) 30 20)) fl_M_125 rfl rfl de_M_adds_11 ?_
    refine ab_top (v' := nI i) (rfl) ?_
    refine ab_iconst (v := 1) de_M_adds_14 rfl ?_
    refine ab_isub de_M_adds_15 ?_
    refine ab_top (v' := nI (i - 1)) (ab_sub_k (b := 1) hi1) ?_
    refine ab_cV (as := [.int (nI (i - 1))]) (st := []) (ct_M_wrong l _ nr h g rr (i := i) (w := w) (r := r) (nI (i - 1))) mo_M_wrong mi_M_wrong ml_M_145 rfl (by decide) rfl rfl rfl (Nat.le_of_ble_eq_true rfl) de_M_adds_16 (fun v_ M_ hK_ hl_ hv_ => ?_)
    obtain ⟨rfl, hm_⟩ := hK_
    have hm_ := hm_.symm
    subst hm_
    change ab_G _ _ _ _ _ _ _ [(0, .ref 30), (1, .int (nI b)), (2, .int (nI o))] [.int (0 : Int32)] (ab_S nr (md_ps h i (nI (i - 1)) r) g rr) _
    exact ab_ret (v := some (.int (0 : Int32))) de_M_adds_19 ⟨_, rfl, rfl⟩ ⟨rfl, rfl⟩
theorem md_gs : ∀ e, e < 3 → sp_gn 7 5 (nI (48 + e)) = 2 ^ (e + 0) ∧ sp_ww (2 ^ (e + 0)) 6 = 2 ^ (e + 0) := by decide +kernel
theorem md_gj : ∀ e, e < 3 → sp_gn 56 5 (nI (48 + e)) = 2 ^ (e + 3) ∧ sp_ww (2 ^ (e + 3)) 6 = 2 ^ (e + 3) := by decide +kernel
theorem md_ge : ∀ e, e < 4 → 1 ≤ e → sp_gn 7680 4 (nI (48 + e)) = 2 ^ (9 + e) ∧ sp_ww (2 ^ (9 + e)) 5 = 1024 * e := by decide +kernel
theorem md_p2 : ∀ k, k < 10 → ¬ 2 ^ k = 0 ∧ 2 ^ k < 4096 ∧ 2 ^ k / 1024 = 0 := by decide
theorem md_n4 {x : Int32} (h : x < 48 ∨ ¬ x ≤ 50) : ¬ x ∈ ([48, 49, 50] : List Int32) := by
  intro m
  simp only [List.mem_cons, List.not_mem_nil, or_false] at m
  rcases m with r | r | r <;> subst r <;> exact absurd h (by decide)
theorem md_n5 {x : Int32} (h0 : ¬ x = 110) (h : x < 49 ∨ ¬ x ≤ 51) : ¬ x ∈ ([110, 49, 50, 51] : List Int32) := by
  intro m
  simp only [List.mem_cons, List.not_mem_nil, or_false] at m
  rcases m with r | r | r | r
  · exact h0 r
  all_goals subst r; exact absurd h (by decide)
theorem md_n6 {x : Int32} (h1 : ¬ x = 115) (h2 : ¬ x = 106) (h3 : ¬ x = 112) (h4 : ¬ x = 116) (h5 : ¬ x = 109) (h6 : ¬ x = 101) : ¬ x ∈ ([115, 106, 112, 116, 109, 101] : List Int32) := by
  intro m
  simp only [List.mem_cons, List.not_mem_nil, or_false] at m
  rcases m with r | r | r | r | r | r
  · exact h1 r
  · exact h2 r
  · exact h3 r
  · exact h4 r
  · exact h5 r
  · exact h6 r
set_option maxHeartbeats 1000000 in
set_option maxRecDepth 10000 in
theorem ct_M_part_p (l : Launch) (d : Nat) (nr : Nat) (h : Nat → Nat → Int32) (g : Nat → Nat → Int64) (rr : Nat → Option Nat) {a n s c : Nat} {w : Int32} (hs : s < 8) (hn60 : n ≤ 60) (hbase : h 30 19 = nI (60 * s)) (hend : h 30 21 = nI n) (hc : c < 4096) (hg0 : md_go (md_f g s) a c 8191 0) (ha : a < n) (hx0 : md_f g s a = 112) : ab_C l am_M_part0 (d + 4) 0 0 [.ref 30] (ab_S nr (md_ps h a w c) g rr) (fun (r_ : Option Value) (M' : ab_Me) => (r_ = some (.int (1 : Int32)) ∧ ∃ b c', a < b ∧ b ≤ n ∧ c' < 4096 ∧ md_wh (md_f g s) b c' ∧ M' = (ab_S nr (md_ps h b w c') g rr)) ∨ (r_ = some (.int (0 : Int32)) ∧ ∃ i j, md_fb (md_f g s) n j ∧ M' = (ab_S nr (md_ps h i (nI j) c) g rr))) := by
  have hg1 : md_go (md_f g s) (a + 1) c 64 1 := md_stp hg0 (V := 64) (by rw [hx0]; decide +kernel) (by decide) (by decide +kernel)
  refine ab_C_of (by decide +kernel) rfl (Nat.le_of_ble_eq_true rfl) ?_
  refine ab_aload_n de_M_part0_0 0 rfl ?_
  refine ab_get (v := .int ((md_ps h a w c) 30 20)) fl_M_125 rfl rfl de_M_part0_1 ?_
  refine ab_top (v' := nI a) (rfl) ?_
  refine ab_aload_n de_M_part0_4 0 rfl ?_
  refine ab_get (v := .int ((md_ps h a w c) 30 21)) fl_M_128 rfl rfl de_M_part0_5 ?_
  refine ab_top (v' := nI n) (hend) ?_
  refine ab_icmp_ge (tgt := 18) de_M_part0_8 rfl (fun c_8_1 => ?_) (fun c_8_1 => ?_)
  · exact absurd ((ab_le (by omega) (by omega)).mp c_8_1) (by omega)
  · refine ab_aload_n de_M_part0_11 0 rfl ?_
    refine ab_cV (as := []) (st := []) (ct_M_letter l _ nr h g rr (i := a) (w := w) (r := c) hs hn60 hbase hend (by omega)) mo_M_letter mi_M_letter ml_M_141 rfl (by decide) rfl rfl rfl (Nat.le_of_ble_eq_true rfl) de_M_part0_12 (fun v_ M_ hK_ hl_ hv_ => ?_)
    obtain ⟨rfl, hm_⟩ := hK_
    have hm_ := hm_.symm
    subst hm_
    change ab_G _ _ _ _ _ _ _ [(0, .ref 30)] [.int (md_f g s a)] (ab_S nr (md_ps h a w c) g rr) _
    refine ab_top (v' := (112 : Int32)) (hx0) ?_
    refine ab_goto (tgt := 19) de_M_part0_15 rfl ?_
    refine ab_istore_n (L' := [(1, .int (112 : Int32)), (0, .ref 30)]) de_M_part0_19 (by decide) rfl ?_
    refine ab_aload_n de_M_part0_20 1 rfl ?_
    refine ab_get (v := .int ((md_ps h a w c) 30 20)) fl_M_125 rfl rfl de_M_part0_21 ?_
    refine ab_top (v' := nI a) (rfl) ?_
    refine ab_aload_n de_M_part0_24 1 rfl ?_
    refine ab_get (v := .int ((md_ps h a w c) 30 21)) fl_M_128 rfl rfl de_M_part0_25 ?_
    refine ab_top (v' := nI n) (hend) ?_
    refine ab_icmp_ge (tgt := 218) de_M_part0_28 rfl (fun c_28_2 => ?_) (fun c_28_2 => ?_)
    · exact absurd ((ab_le (by omega) (by omega)).mp c_28_2) (by omega)
    · refine ab_iload_n de_M_part0_31 0 rfl ?_
      refine ab_bipush (v := 115) de_M_part0_32 rfl ?_
      refine ab_icmp_eq (tgt := 43) de_M_part0_34 rfl (fun c_34_3 => ?_) (fun c_34_3 => ?_)
      · exact absurd c_34_3 (by decide)
      · refine ab_iload_n de_M_part0_37 0 rfl ?_
        refine ab_bipush (v := 106) de_M_part0_38 rfl ?_
        refine ab_icmp_ne (tgt := 218) de_M_part0_40 rfl (fun c_40_4 => ?_) (fun c_40_4 => ?_)
        · refine ab_aload_n de_M_part0_218 1 rfl ?_
          refine ab_get (v := .int ((md_ps h a w c) 30 20)) fl_M_125 rfl rfl de_M_part0_219 ?_
          refine ab_top (v' := nI a) (rfl) ?_
          refine ab_aload_n de_M_part0_222 1 rfl ?_
          refine ab_get (v := .int ((md_ps h a w c) 30 21)) fl_M_128 rfl rfl de_M_part0_223 ?_
          refine ab_top (v' := nI n) (hend) ?_
          refine ab_icmp_ge (tgt := 280) de_M_part0_226 rfl (fun c_226_5 => ?_) (fun c_226_5 => ?_)
          · exact absurd ((ab_le (by omega) (by omega)).mp c_226_5) (by omega)
          · refine ab_iload_n de_M_part0_229 0 rfl ?_
            refine ab_bipush (v := 112) de_M_part0_230 rfl ?_
            refine ab_icmp_ne (tgt := 280) de_M_part0_232 rfl (fun c_232_6 => ?_) (fun c_232_6 => ?_)
            · exact absurd rfl c_232_6
            · refine ab_aload_n de_M_part0_235 1 rfl ?_
              refine ab_dup de_M_part0_236 rfl ?_
              refine ab_get (v := .int ((md_ps h a w c) 30 20)) fl_M_125 rfl rfl de_M_part0_237 ?_
              refine ab_top (v' := nI a) (rfl) ?_
              refine ab_iconst (v := 1) de_M_part0_240 rfl ?_
              refine ab_iadd de_M_part0_241 ?_
              refine ab_top (v' := nI (a + 1)) (ab_add _ _) ?_
              refine ab_putI (x := 30) (j := 20) fl_M_125 rfl (Or.inl rfl) rfl rfl rfl de_M_part0_242 ?_
              change ab_G _ _ _ _ _ _ _ _ _ (ab_S nr (ab_u2 (md_ps h a w c) 30 20 (nI (a + 1))) g rr) _
              refine ab_hm (h' := md_ps h (a + 1) w c) (md_ps_20 _ _ _ _ _) ?_
              refine ab_aload_n de_M_part0_245 1 rfl ?_
              refine ab_bipush (v := 117) de_M_part0_246 rfl ?_
              by_cases c_248_7 : a + 1 < n ∧ md_f g s (a + 1) = 117
              · have lt1_ := c_248_7.1
                have hg2 := md_stp hg1 (V := 64) (by rw [c_248_7.2]; decide +kernel) (by decide) (by decide +kernel)
                refine ab_cV (as := [.int (117 : Int32)]) (st := []) (ct_M_takes_1 l _ nr h g rr (i := a + 1) (w := w) (r := c) (n := n) (s := s) (c := (117 : Int32)) hs hn60 hbase hend c_248_7.1 c_248_7.2) mo_M_takes mi_M_takes ml_M_151 rfl (by decide) rfl rfl rfl (Nat.le_of_ble_eq_true rfl) de_M_part0_248 (fun v_ M_ hK_ hl_ hv_ => ?_)
                obtain ⟨rfl, hm_⟩ := hK_
                have hm_ := hm_.symm
                subst hm_
                change ab_G _ _ _ _ _ _ _ [(1, .int (112 : Int32)), (0, .ref 30)] [.int (1 : Int32)] (ab_S nr (md_ps h (a + 2) w c) g rr) _
                refine ab_if_eq (tgt := 278) de_M_part0_251 rfl (fun c_251_8 => ?_) (fun c_251_8 => ?_)
                · exact absurd c_251_8 (by decide)
                · refine ab_aload_n de_M_part0_254 1 rfl ?_
                  refine ab_bipush (v := 116) de_M_part0_255 rfl ?_
                  by_cases c_257_9 : a + 2 < n ∧ md_f g s (a + 2) = 116
                  · have lt2_ := c_257_9.1
                    have gl_ : sp_gn 64 2 (md_f g s (a + 2)) = 64 := by rw [c_257_9.2]; decide +kernel
                    refine ab_cV (as := [.int (116 : Int32)]) (st := []) (ct_M_takes_1 l _ nr h g rr (i := a + 2) (w := w) (r := c) (n := n) (s := s) (c := (116 : Int32)) hs hn60 hbase hend c_257_9.1 c_257_9.2) mo_M_takes mi_M_takes ml_M_151 rfl (by decide) rfl rfl rfl (Nat.le_of_ble_eq_true rfl) de_M_part0_257 (fun v_ M_ hK_ hl_ hv_ => ?_)
                    obtain ⟨rfl, hm_⟩ := hK_
                    have hm_ := hm_.symm
                    subst hm_
                    change ab_G _ _ _ _ _ _ _ [(1, .int (112 : Int32)), (0, .ref 30)] [.int (1 : Int32)] (ab_S nr (md_ps h (a + 3) w c) g rr) _
                    refine ab_if_eq (tgt := 278) de_M_part0_260 rfl (fun c_260_10 => ?_) (fun c_260_10 => ?_)
                    · exact absurd c_260_10 (by decide)
                    · refine ab_aload_n de_M_part0_263 1 rfl ?_
                      refine ab_bipush (v := 64) de_M_part0_264 rfl ?_
                      refine ab_bipush (v := 64) de_M_part0_266 rfl ?_
                      by_cases c_268_11 : c &&& 64 = 0
                      · have wh_ := md_lst hg2 (V := 64) (b := 64) gl_ (by decide) (by decide +kernel) (by decide) (by rw [sp_thl (b := 64) (by decide)]; exact decide_eq_false (fun z_ => z_ c_268_11))
                        have or_lt_ : c ||| 64 < 4096 := Nat.or_lt_two_pow (n := 12) hc (by decide)
                        refine ab_cV (as := [.int (64 : Int32), .int (64 : Int32)]) (st := []) (ct_M_adds_1 l _ nr h g rr (i := a + 3) (w := w) (r := c) (b := 64) (o := 64) c_268_11) mo_M_adds mi_M_adds ml_M_154 rfl (by decide) rfl rfl rfl (Nat.le_of_ble_eq_true rfl) de_M_part0_268 (fun v_ M_ hK_ hl_ hv_ => ?_)
                        obtain ⟨rfl, hm_⟩ := hK_
                        have hm_ := hm_.symm
                        subst hm_
                        change ab_G _ _ _ _ _ _ _ [(1, .int (112 : Int32)), (0, .ref 30)] [.int (1 : Int32)] (ab_S nr (md_ps h (a + 3) w (c ||| 64)) g rr) _
                        refine ab_if_eq (tgt := 278) de_M_part0_271 rfl (fun c_271_12 => ?_) (fun c_271_12 => ?_)
                        · exact absurd c_271_12 (by decide)
                        · refine ab_iconst (v := 1) de_M_part0_274 rfl ?_
                          refine ab_goto (tgt := 279) de_M_part0_275 rfl ?_
                          exact ab_ret (v := some (.int (1 : Int32))) de_M_part0_279 ⟨_, rfl, rfl⟩ (Or.inl ⟨rfl, _, _, by omega, by omega, or_lt_, wh_, rfl⟩)
                      · have fb_ := md_thb (n := n) lt2_ hg2 (V := 64) (b := 64) gl_ (by decide +kernel) (by rw [sp_thl (b := 64) (by decide)]; exact decide_eq_true c_268_11)
                        refine ab_cV (as := [.int (64 : Int32), .int (64 : Int32)]) (st := []) (ct_M_adds_0 l _ nr h g rr (i := a + 3) (w := w) (r := c) (b := 64) (o := 64) c_268_11 hc (by omega)) mo_M_adds mi_M_adds ml_M_154 rfl (by decide) rfl rfl rfl (Nat.le_of_ble_eq_true rfl) de_M_part0_268 (fun v_ M_ hK_ hl_ hv_ => ?_)
                        obtain ⟨rfl, hm_⟩ := hK_
                        have hm_ := hm_.symm
                        subst hm_
                        change ab_G _ _ _ _ _ _ _ [(1, .int (112 : Int32)), (0, .ref 30)] [.int (0 : Int32)] (ab_S nr (md_ps h (a + 3) (nI (a + 3 - 1)) c) g rr) _
                        refine ab_if_eq (tgt := 278) de_M_part0_271 rfl (fun c_271_13 => ?_) (fun c_271_13 => ?_)
                        · refine ab_iconst (v := 0) de_M_part0_278 rfl ?_
                          exact ab_ret (v := some (.int (0 : Int32))) de_M_part0_279 ⟨_, rfl, rfl⟩ (Or.inr ⟨rfl, _, _, fb_, rfl⟩)
                        · exact absurd rfl c_271_13
                  · have fb_ := md_no (n := n) (i := a + 2) (by omega) hg2 (fun z_ => md_gn0 (l := [116]) (by decide +kernel) (md_1 (fun q_ => c_257_9 ⟨z_, q_⟩)))
                    refine ab_cV (as := [.int (116 : Int32)]) (st := []) (ct_M_takes_0 l _ nr h g rr (i := a + 2) (w := w) (r := c) (n := n) (s := s) (c := (116 : Int32)) hs hn60 hbase hend (by omega) c_257_9) mo_M_takes mi_M_takes ml_M_151 rfl (by decide) rfl rfl rfl (Nat.le_of_ble_eq_true rfl) de_M_part0_257 (fun v_ M_ hK_ hl_ hv_ => ?_)
                    obtain ⟨rfl, hm_⟩ := hK_
                    have hm_ := hm_.symm
                    subst hm_
                    change ab_G _ _ _ _ _ _ _ [(1, .int (112 : Int32)), (0, .ref 30)] [.int (0 : Int32)] (ab_S nr (md_ps h (a + 2) (nI (a + 2)) c) g rr) _
                    refine ab_if_eq (tgt := 278) de_M_part0_260 rfl (fun c_260_14 => ?_) (fun c_260_14 => ?_)
                    · refine ab_iconst (v := 0) de_M_part0_278 rfl ?_
                      exact ab_ret (v := some (.int (0 : Int32))) de_M_part0_279 ⟨_, rfl, rfl⟩ (Or.inr ⟨rfl, _, _, fb_, rfl⟩)
                    · exact absurd rfl c_260_14
              · have fb_ := md_no (n := n) (i := a + 1) (by omega) hg1 (fun z_ => md_gn0 (l := [117]) (by decide +kernel) (md_1 (fun q_ => c_248_7 ⟨z_, q_⟩)))
                refine ab_cV (as := [.int (117 : Int32)]) (st := []) (ct_M_takes_0 l _ nr h g rr (i := a + 1) (w := w) (r := c) (n := n) (s := s) (c := (117 : Int32)) hs hn60 hbase hend (by omega) c_248_7) mo_M_takes mi_M_takes ml_M_151 rfl (by decide) rfl rfl rfl (Nat.le_of_ble_eq_true rfl) de_M_part0_248 (fun v_ M_ hK_ hl_ hv_ => ?_)
                obtain ⟨rfl, hm_⟩ := hK_
                have hm_ := hm_.symm
                subst hm_
                change ab_G _ _ _ _ _ _ _ [(1, .int (112 : Int32)), (0, .ref 30)] [.int (0 : Int32)] (ab_S nr (md_ps h (a + 1) (nI (a + 1)) c) g rr) _
                refine ab_if_eq (tgt := 278) de_M_part0_251 rfl (fun c_251_15 => ?_) (fun c_251_15 => ?_)
                · refine ab_iconst (v := 0) de_M_part0_278 rfl ?_
                  exact ab_ret (v := some (.int (0 : Int32))) de_M_part0_279 ⟨_, rfl, rfl⟩ (Or.inr ⟨rfl, _, _, fb_, rfl⟩)
                · exact absurd rfl c_251_15
        · exact absurd c_40_4 (by decide)
set_option maxHeartbeats 1000000 in
set_option maxRecDepth 10000 in
theorem ct_M_part_t (l : Launch) (d : Nat) (nr : Nat) (h : Nat → Nat → Int32) (g : Nat → Nat → Int64) (rr : Nat → Option Nat) {a n s c : Nat} {w : Int32} (hs : s < 8) (hn60 : n ≤ 60) (hbase : h 30 19 = nI (60 * s)) (hend : h 30 21 = nI n) (hc : c < 4096) (hg0 : md_go (md_f g s) a c 8191 0) (ha : a < n) (hx0 : md_f g s a = 116) : ab_C l am_M_part0 (d + 4) 0 0 [.ref 30] (ab_S nr (md_ps h a w c) g rr) (fun (r_ : Option Value) (M' : ab_Me) => (r_ = some (.int (1 : Int32)) ∧ ∃ b c', a < b ∧ b ≤ n ∧ c' < 4096 ∧ md_wh (md_f g s) b c' ∧ M' = (ab_S nr (md_ps h b w c') g rr)) ∨ (r_ = some (.int (0 : Int32)) ∧ ∃ i j, md_fb (md_f g s) n j ∧ M' = (ab_S nr (md_ps h i (nI j) c) g rr))) := by
  have hg1 : md_go (md_f g s) (a + 1) c 128 1 := md_stp hg0 (V := 128) (by rw [hx0]; decide +kernel) (by decide) (by decide +kernel)
  refine ab_C_of (by decide +kernel) rfl (Nat.le_of_ble_eq_true rfl) ?_
  refine ab_aload_n de_M_part0_0 0 rfl ?_
  refine ab_get (v := .int ((md_ps h a w c) 30 20)) fl_M_125 rfl rfl de_M_part0_1 ?_
  refine ab_top (v' := nI a) (rfl) ?_
  refine ab_aload_n de_M_part0_4 0 rfl ?_
  refine ab_get (v := .int ((md_ps h a w c) 30 21)) fl_M_128 rfl rfl de_M_part0_5 ?_
  refine ab_top (v' := nI n) (hend) ?_
  refine ab_icmp_ge (tgt := 18) de_M_part0_8 rfl (fun c_8_1 => ?_) (fun c_8_1 => ?_)
  · exact absurd ((ab_le (by omega) (by omega)).mp c_8_1) (by omega)
  · refine ab_aload_n de_M_part0_11 0 rfl ?_
    refine ab_cV (as := []) (st := []) (ct_M_letter l _ nr h g rr (i := a) (w := w) (r := c) hs hn60 hbase hend (by omega)) mo_M_letter mi_M_letter ml_M_141 rfl (by decide) rfl rfl rfl (Nat.le_of_ble_eq_true rfl) de_M_part0_12 (fun v_ M_ hK_ hl_ hv_ => ?_)
    obtain ⟨rfl, hm_⟩ := hK_
    have hm_ := hm_.symm
    subst hm_
    change ab_G _ _ _ _ _ _ _ [(0, .ref 30)] [.int (md_f g s a)] (ab_S nr (md_ps h a w c) g rr) _
    refine ab_top (v' := (116 : Int32)) (hx0) ?_
    refine ab_goto (tgt := 19) de_M_part0_15 rfl ?_
    refine ab_istore_n (L' := [(1, .int (116 : Int32)), (0, .ref 30)]) de_M_part0_19 (by decide) rfl ?_
    refine ab_aload_n de_M_part0_20 1 rfl ?_
    refine ab_get (v := .int ((md_ps h a w c) 30 20)) fl_M_125 rfl rfl de_M_part0_21 ?_
    refine ab_top (v' := nI a) (rfl) ?_
    refine ab_aload_n de_M_part0_24 1 rfl ?_
    refine ab_get (v := .int ((md_ps h a w c) 30 21)) fl_M_128 rfl rfl de_M_part0_25 ?_
    refine ab_top (v' := nI n) (hend) ?_
    refine ab_icmp_ge (tgt := 218) de_M_part0_28 rfl (fun c_28_2 => ?_) (fun c_28_2 => ?_)
    · exact absurd ((ab_le (by omega) (by omega)).mp c_28_2) (by omega)
    · refine ab_iload_n de_M_part0_31 0 rfl ?_
      refine ab_bipush (v := 115) de_M_part0_32 rfl ?_
      refine ab_icmp_eq (tgt := 43) de_M_part0_34 rfl (fun c_34_3 => ?_) (fun c_34_3 => ?_)
      · exact absurd c_34_3 (by decide)
      · refine ab_iload_n de_M_part0_37 0 rfl ?_
        refine ab_bipush (v := 106) de_M_part0_38 rfl ?_
        refine ab_icmp_ne (tgt := 218) de_M_part0_40 rfl (fun c_40_4 => ?_) (fun c_40_4 => ?_)
        · refine ab_aload_n de_M_part0_218 1 rfl ?_
          refine ab_get (v := .int ((md_ps h a w c) 30 20)) fl_M_125 rfl rfl de_M_part0_219 ?_
          refine ab_top (v' := nI a) (rfl) ?_
          refine ab_aload_n de_M_part0_222 1 rfl ?_
          refine ab_get (v := .int ((md_ps h a w c) 30 21)) fl_M_128 rfl rfl de_M_part0_223 ?_
          refine ab_top (v' := nI n) (hend) ?_
          refine ab_icmp_ge (tgt := 280) de_M_part0_226 rfl (fun c_226_5 => ?_) (fun c_226_5 => ?_)
          · exact absurd ((ab_le (by omega) (by omega)).mp c_226_5) (by omega)
          · refine ab_iload_n de_M_part0_229 0 rfl ?_
            refine ab_bipush (v := 112) de_M_part0_230 rfl ?_
            refine ab_icmp_ne (tgt := 280) de_M_part0_232 rfl (fun c_232_6 => ?_) (fun c_232_6 => ?_)
            · refine ab_aload_n de_M_part0_280 1 rfl ?_
              refine ab_get (v := .int ((md_ps h a w c) 30 20)) fl_M_125 rfl rfl de_M_part0_281 ?_
              refine ab_top (v' := nI a) (rfl) ?_
              refine ab_aload_n de_M_part0_284 1 rfl ?_
              refine ab_get (v := .int ((md_ps h a w c) 30 21)) fl_M_128 rfl rfl de_M_part0_285 ?_
              refine ab_top (v' := nI n) (hend) ?_
              refine ab_icmp_ge (tgt := 353) de_M_part0_288 rfl (fun c_288_7 => ?_) (fun c_288_7 => ?_)
              · exact absurd ((ab_le (by omega) (by omega)).mp c_288_7) (by omega)
              · refine ab_iload_n de_M_part0_291 0 rfl ?_
                refine ab_bipush (v := 116) de_M_part0_292 rfl ?_
                refine ab_icmp_ne (tgt := 353) de_M_part0_294 rfl (fun c_294_8 => ?_) (fun c_294_8 => ?_)
                · exact absurd rfl c_294_8
                · refine ab_aload_n de_M_part0_297 1 rfl ?_
                  refine ab_dup de_M_part0_298 rfl ?_
                  refine ab_get (v := .int ((md_ps h a w c) 30 20)) fl_M_125 rfl rfl de_M_part0_299 ?_
                  refine ab_top (v' := nI a) (rfl) ?_
                  refine ab_iconst (v := 1) de_M_part0_302 rfl ?_
                  refine ab_iadd de_M_part0_303 ?_
                  refine ab_top (v' := nI (a + 1)) (ab_add _ _) ?_
                  refine ab_putI (x := 30) (j := 20) fl_M_125 rfl (Or.inl rfl) rfl rfl rfl de_M_part0_304 ?_
                  change ab_G _ _ _ _ _ _ _ _ _ (ab_S nr (ab_u2 (md_ps h a w c) 30 20 (nI (a + 1))) g rr) _
                  refine ab_hm (h' := md_ps h (a + 1) w c) (md_ps_20 _ _ _ _ _) ?_
                  refine ab_aload_n de_M_part0_307 1 rfl ?_
                  refine ab_bipush (v := 97) de_M_part0_308 rfl ?_
                  by_cases c_310_9 : a + 1 < n ∧ md_f g s (a + 1) = 97
                  · have lt1_ := c_310_9.1
                    have hg2 := md_stp hg1 (V := 128) (by rw [c_310_9.2]; decide +kernel) (by decide) (by decide +kernel)
                    refine ab_cV (as := [.int (97 : Int32)]) (st := []) (ct_M_takes_1 l _ nr h g rr (i := a + 1) (w := w) (r := c) (n := n) (s := s) (c := (97 : Int32)) hs hn60 hbase hend c_310_9.1 c_310_9.2) mo_M_takes mi_M_takes ml_M_151 rfl (by decide) rfl rfl rfl (Nat.le_of_ble_eq_true rfl) de_M_part0_310 (fun v_ M_ hK_ hl_ hv_ => ?_)
                    obtain ⟨rfl, hm_⟩ := hK_
                    have hm_ := hm_.symm
                    subst hm_
                    change ab_G _ _ _ _ _ _ _ [(1, .int (116 : Int32)), (0, .ref 30)] [.int (1 : Int32)] (ab_S nr (md_ps h (a + 2) w c) g rr) _
                    refine ab_if_eq (tgt := 351) de_M_part0_313 rfl (fun c_313_10 => ?_) (fun c_313_10 => ?_)
                    · exact absurd c_313_10 (by decide)
                    · refine ab_aload_n de_M_part0_316 1 rfl ?_
                      refine ab_bipush (v := 107) de_M_part0_317 rfl ?_
                      by_cases c_319_11 : a + 2 < n ∧ md_f g s (a + 2) = 107
                      · have lt2_ := c_319_11.1
                        have hg3 := md_stp hg2 (V := 128) (by rw [c_319_11.2]; decide +kernel) (by decide) (by decide +kernel)
                        refine ab_cV (as := [.int (107 : Int32)]) (st := []) (ct_M_takes_1 l _ nr h g rr (i := a + 2) (w := w) (r := c) (n := n) (s := s) (c := (107 : Int32)) hs hn60 hbase hend c_319_11.1 c_319_11.2) mo_M_takes mi_M_takes ml_M_151 rfl (by decide) rfl rfl rfl (Nat.le_of_ble_eq_true rfl) de_M_part0_319 (fun v_ M_ hK_ hl_ hv_ => ?_)
                        obtain ⟨rfl, hm_⟩ := hK_
                        have hm_ := hm_.symm
                        subst hm_
                        change ab_G _ _ _ _ _ _ _ [(1, .int (116 : Int32)), (0, .ref 30)] [.int (1 : Int32)] (ab_S nr (md_ps h (a + 3) w c) g rr) _
                        refine ab_if_eq (tgt := 351) de_M_part0_322 rfl (fun c_322_12 => ?_) (fun c_322_12 => ?_)
                        · exact absurd c_322_12 (by decide)
                        · refine ab_aload_n de_M_part0_325 1 rfl ?_
                          refine ab_bipush (v := 101) de_M_part0_326 rfl ?_
                          by_cases c_328_13 : a + 3 < n ∧ md_f g s (a + 3) = 101
                          · have lt3_ := c_328_13.1
                            have gl_ : sp_gn 128 3 (md_f g s (a + 3)) = 128 := by rw [c_328_13.2]; decide +kernel
                            refine ab_cV (as := [.int (101 : Int32)]) (st := []) (ct_M_takes_1 l _ nr h g rr (i := a + 3) (w := w) (r := c) (n := n) (s := s) (c := (101 : Int32)) hs hn60 hbase hend c_328_13.1 c_328_13.2) mo_M_takes mi_M_takes ml_M_151 rfl (by decide) rfl rfl rfl (Nat.le_of_ble_eq_true rfl) de_M_part0_328 (fun v_ M_ hK_ hl_ hv_ => ?_)
                            obtain ⟨rfl, hm_⟩ := hK_
                            have hm_ := hm_.symm
                            subst hm_
                            change ab_G _ _ _ _ _ _ _ [(1, .int (116 : Int32)), (0, .ref 30)] [.int (1 : Int32)] (ab_S nr (md_ps h (a + 4) w c) g rr) _
                            refine ab_if_eq (tgt := 351) de_M_part0_331 rfl (fun c_331_14 => ?_) (fun c_331_14 => ?_)
                            · exact absurd c_331_14 (by decide)
                            · refine ab_aload_n de_M_part0_334 1 rfl ?_
                              refine ab_sipush (v := 128) de_M_part0_335 rfl ?_
                              refine ab_sipush (v := 128) de_M_part0_338 rfl ?_
                              by_cases c_341_15 : c &&& 128 = 0
                              · have wh_ := md_lst hg3 (V := 128) (b := 128) gl_ (by decide) (by decide +kernel) (by decide) (by rw [sp_thl (b := 128) (by decide)]; exact decide_eq_false (fun z_ => z_ c_341_15))
                                have or_lt_ : c ||| 128 < 4096 := Nat.or_lt_two_pow (n := 12) hc (by decide)
                                refine ab_cV (as := [.int (128 : Int32), .int (128 : Int32)]) (st := []) (ct_M_adds_1 l _ nr h g rr (i := a + 4) (w := w) (r := c) (b := 128) (o := 128) c_341_15) mo_M_adds mi_M_adds ml_M_154 rfl (by decide) rfl rfl rfl (Nat.le_of_ble_eq_true rfl) de_M_part0_341 (fun v_ M_ hK_ hl_ hv_ => ?_)
                                obtain ⟨rfl, hm_⟩ := hK_
                                have hm_ := hm_.symm
                                subst hm_
                                change ab_G _ _ _ _ _ _ _ [(1, .int (116 : Int32)), (0, .ref 30)] [.int (1 : Int32)] (ab_S nr (md_ps h (a + 4) w (c ||| 128)) g rr) _
                                refine ab_if_eq (tgt := 351) de_M_part0_344 rfl (fun c_344_16 => ?_) (fun c_344_16 => ?_)
                                · exact absurd c_344_16 (by decide)
                                · refine ab_iconst (v := 1) de_M_part0_347 rfl ?_
                                  refine ab_goto (tgt := 352) de_M_part0_348 rfl ?_
                                  exact ab_ret (v := some (.int (1 : Int32))) de_M_part0_352 ⟨_, rfl, rfl⟩ (Or.inl ⟨rfl, _, _, by omega, by omega, or_lt_, wh_, rfl⟩)
                              · have fb_ := md_thb (n := n) lt3_ hg3 (V := 128) (b := 128) gl_ (by decide +kernel) (by rw [sp_thl (b := 128) (by decide)]; exact decide_eq_true c_341_15)
                                refine ab_cV (as := [.int (128 : Int32), .int (128 : Int32)]) (st := []) (ct_M_adds_0 l _ nr h g rr (i := a + 4) (w := w) (r := c) (b := 128) (o := 128) c_341_15 hc (by omega)) mo_M_adds mi_M_adds ml_M_154 rfl (by decide) rfl rfl rfl (Nat.le_of_ble_eq_true rfl) de_M_part0_341 (fun v_ M_ hK_ hl_ hv_ => ?_)
                                obtain ⟨rfl, hm_⟩ := hK_
                                have hm_ := hm_.symm
                                subst hm_
                                change ab_G _ _ _ _ _ _ _ [(1, .int (116 : Int32)), (0, .ref 30)] [.int (0 : Int32)] (ab_S nr (md_ps h (a + 4) (nI (a + 4 - 1)) c) g rr) _
                                refine ab_if_eq (tgt := 351) de_M_part0_344 rfl (fun c_344_17 => ?_) (fun c_344_17 => ?_)
                                · refine ab_iconst (v := 0) de_M_part0_351 rfl ?_
                                  exact ab_ret (v := some (.int (0 : Int32))) de_M_part0_352 ⟨_, rfl, rfl⟩ (Or.inr ⟨rfl, _, _, fb_, rfl⟩)
                                · exact absurd rfl c_344_17
                          · have fb_ := md_no (n := n) (i := a + 3) (by omega) hg3 (fun z_ => md_gn0 (l := [101]) (by decide +kernel) (md_1 (fun q_ => c_328_13 ⟨z_, q_⟩)))
                            refine ab_cV (as := [.int (101 : Int32)]) (st := []) (ct_M_takes_0 l _ nr h g rr (i := a + 3) (w := w) (r := c) (n := n) (s := s) (c := (101 : Int32)) hs hn60 hbase hend (by omega) c_328_13) mo_M_takes mi_M_takes ml_M_151 rfl (by decide) rfl rfl rfl (Nat.le_of_ble_eq_true rfl) de_M_part0_328 (fun v_ M_ hK_ hl_ hv_ => ?_)
                            obtain ⟨rfl, hm_⟩ := hK_
                            have hm_ := hm_.symm
                            subst hm_
                            change ab_G _ _ _ _ _ _ _ [(1, .int (116 : Int32)), (0, .ref 30)] [.int (0 : Int32)] (ab_S nr (md_ps h (a + 3) (nI (a + 3)) c) g rr) _
                            refine ab_if_eq (tgt := 351) de_M_part0_331 rfl (fun c_331_18 => ?_) (fun c_331_18 => ?_)
                            · refine ab_iconst (v := 0) de_M_part0_351 rfl ?_
                              exact ab_ret (v := some (.int (0 : Int32))) de_M_part0_352 ⟨_, rfl, rfl⟩ (Or.inr ⟨rfl, _, _, fb_, rfl⟩)
                            · exact absurd rfl c_331_18
                      · have fb_ := md_no (n := n) (i := a + 2) (by omega) hg2 (fun z_ => md_gn0 (l := [107]) (by decide +kernel) (md_1 (fun q_ => c_319_11 ⟨z_, q_⟩)))
                        refine ab_cV (as := [.int (107 : Int32)]) (st := []) (ct_M_takes_0 l _ nr h g rr (i := a + 2) (w := w) (r := c) (n := n) (s := s) (c := (107 : Int32)) hs hn60 hbase hend (by omega) c_319_11) mo_M_takes mi_M_takes ml_M_151 rfl (by decide) rfl rfl rfl (Nat.le_of_ble_eq_true rfl) de_M_part0_319 (fun v_ M_ hK_ hl_ hv_ => ?_)
                        obtain ⟨rfl, hm_⟩ := hK_
                        have hm_ := hm_.symm
                        subst hm_
                        change ab_G _ _ _ _ _ _ _ [(1, .int (116 : Int32)), (0, .ref 30)] [.int (0 : Int32)] (ab_S nr (md_ps h (a + 2) (nI (a + 2)) c) g rr) _
                        refine ab_if_eq (tgt := 351) de_M_part0_322 rfl (fun c_322_19 => ?_) (fun c_322_19 => ?_)
                        · refine ab_iconst (v := 0) de_M_part0_351 rfl ?_
                          exact ab_ret (v := some (.int (0 : Int32))) de_M_part0_352 ⟨_, rfl, rfl⟩ (Or.inr ⟨rfl, _, _, fb_, rfl⟩)
                        · exact absurd rfl c_322_19
                  · have fb_ := md_no (n := n) (i := a + 1) (by omega) hg1 (fun z_ => md_gn0 (l := [97]) (by decide +kernel) (md_1 (fun q_ => c_310_9 ⟨z_, q_⟩)))
                    refine ab_cV (as := [.int (97 : Int32)]) (st := []) (ct_M_takes_0 l _ nr h g rr (i := a + 1) (w := w) (r := c) (n := n) (s := s) (c := (97 : Int32)) hs hn60 hbase hend (by omega) c_310_9) mo_M_takes mi_M_takes ml_M_151 rfl (by decide) rfl rfl rfl (Nat.le_of_ble_eq_true rfl) de_M_part0_310 (fun v_ M_ hK_ hl_ hv_ => ?_)
                    obtain ⟨rfl, hm_⟩ := hK_
                    have hm_ := hm_.symm
                    subst hm_
                    change ab_G _ _ _ _ _ _ _ [(1, .int (116 : Int32)), (0, .ref 30)] [.int (0 : Int32)] (ab_S nr (md_ps h (a + 1) (nI (a + 1)) c) g rr) _
                    refine ab_if_eq (tgt := 351) de_M_part0_313 rfl (fun c_313_20 => ?_) (fun c_313_20 => ?_)
                    · refine ab_iconst (v := 0) de_M_part0_351 rfl ?_
                      exact ab_ret (v := some (.int (0 : Int32))) de_M_part0_352 ⟨_, rfl, rfl⟩ (Or.inr ⟨rfl, _, _, fb_, rfl⟩)
                    · exact absurd rfl c_313_20
            · exact absurd c_232_6 (by decide)
        · exact absurd c_40_4 (by decide)
set_option maxHeartbeats 1000000 in
set_option maxRecDepth 10000 in
theorem ct_M_part_m (l : Launch) (d : Nat) (nr : Nat) (h : Nat → Nat → Int32) (g : Nat → Nat → Int64) (rr : Nat → Option Nat) {a n s c : Nat} {w : Int32} (hs : s < 8) (hn60 : n ≤ 60) (hbase : h 30 19 = nI (60 * s)) (hend : h 30 21 = nI n) (hc : c < 4096) (hg0 : md_go (md_f g s) a c 8191 0) (ha : a < n) (hx0 : md_f g s a = 109) : ab_C l am_M_part0 (d + 4) 0 0 [.ref 30] (ab_S nr (md_ps h a w c) g rr) (fun (r_ : Option Value) (M' : ab_Me) => (r_ = some (.int (1 : Int32)) ∧ ∃ b c', a < b ∧ b ≤ n ∧ c' < 4096 ∧ md_wh (md_f g s) b c' ∧ M' = (ab_S nr (md_ps h b w c') g rr)) ∨ (r_ = some (.int (0 : Int32)) ∧ ∃ i j, md_fb (md_f g s) n j ∧ M' = (ab_S nr (md_ps h i (nI j) c) g rr))) := by
  have hg1 : md_go (md_f g s) (a + 1) c 256 1 := md_stp hg0 (V := 256) (by rw [hx0]; decide +kernel) (by decide) (by decide +kernel)
  refine ab_C_of (by decide +kernel) rfl (Nat.le_of_ble_eq_true rfl) ?_
  refine ab_aload_n de_M_part0_0 0 rfl ?_
  refine ab_get (v := .int ((md_ps h a w c) 30 20)) fl_M_125 rfl rfl de_M_part0_1 ?_
  refine ab_top (v' := nI a) (rfl) ?_
  refine ab_aload_n de_M_part0_4 0 rfl ?_
  refine ab_get (v := .int ((md_ps h a w c) 30 21)) fl_M_128 rfl rfl de_M_part0_5 ?_
  refine ab_top (v' := nI n) (hend) ?_
  refine ab_icmp_ge (tgt := 18) de_M_part0_8 rfl (fun c_8_1 => ?_) (fun c_8_1 => ?_)
  · exact absurd ((ab_le (by omega) (by omega)).mp c_8_1) (by omega)
  · refine ab_aload_n de_M_part0_11 0 rfl ?_
    refine ab_cV (as := []) (st := []) (ct_M_letter l _ nr h g rr (i := a) (w := w) (r := c) hs hn60 hbase hend (by omega)) mo_M_letter mi_M_letter ml_M_141 rfl (by decide) rfl rfl rfl (Nat.le_of_ble_eq_true rfl) de_M_part0_12 (fun v_ M_ hK_ hl_ hv_ => ?_)
    obtain ⟨rfl, hm_⟩ := hK_
    have hm_ := hm_.symm
    subst hm_
    change ab_G _ _ _ _ _ _ _ [(0, .ref 30)] [.int (md_f g s a)] (ab_S nr (md_ps h a w c) g rr) _
    refine ab_top (v' := (109 : Int32)) (hx0) ?_
    refine ab_goto (tgt := 19) de_M_part0_15 rfl ?_
    refine ab_istore_n (L' := [(1, .int (109 : Int32)), (0, .ref 30)]) de_M_part0_19 (by decide) rfl ?_
    refine ab_aload_n de_M_part0_20 1 rfl ?_
    refine ab_get (v := .int ((md_ps h a w c) 30 20)) fl_M_125 rfl rfl de_M_part0_21 ?_
    refine ab_top (v' := nI a) (rfl) ?_
    refine ab_aload_n de_M_part0_24 1 rfl ?_
    refine ab_get (v := .int ((md_ps h a w c) 30 21)) fl_M_128 rfl rfl de_M_part0_25 ?_
    refine ab_top (v' := nI n) (hend) ?_
    refine ab_icmp_ge (tgt := 218) de_M_part0_28 rfl (fun c_28_2 => ?_) (fun c_28_2 => ?_)
    · exact absurd ((ab_le (by omega) (by omega)).mp c_28_2) (by omega)
    · refine ab_iload_n de_M_part0_31 0 rfl ?_
      refine ab_bipush (v := 115) de_M_part0_32 rfl ?_
      refine ab_icmp_eq (tgt := 43) de_M_part0_34 rfl (fun c_34_3 => ?_) (fun c_34_3 => ?_)
      · exact absurd c_34_3 (by decide)
      · refine ab_iload_n de_M_part0_37 0 rfl ?_
        refine ab_bipush (v := 106) de_M_part0_38 rfl ?_
        refine ab_icmp_ne (tgt := 218) de_M_part0_40 rfl (fun c_40_4 => ?_) (fun c_40_4 => ?_)
        · refine ab_aload_n de_M_part0_218 1 rfl ?_
          refine ab_get (v := .int ((md_ps h a w c) 30 20)) fl_M_125 rfl rfl de_M_part0_219 ?_
          refine ab_top (v' := nI a) (rfl) ?_
          refine ab_aload_n de_M_part0_222 1 rfl ?_
          refine ab_get (v := .int ((md_ps h a w c) 30 21)) fl_M_128 rfl rfl de_M_part0_223 ?_
          refine ab_top (v' := nI n) (hend) ?_
          refine ab_icmp_ge (tgt := 280) de_M_part0_226 rfl (fun c_226_5 => ?_) (fun c_226_5 => ?_)
          · exact absurd ((ab_le (by omega) (by omega)).mp c_226_5) (by omega)
          · refine ab_iload_n de_M_part0_229 0 rfl ?_
            refine ab_bipush (v := 112) de_M_part0_230 rfl ?_
            refine ab_icmp_ne (tgt := 280) de_M_part0_232 rfl (fun c_232_6 => ?_) (fun c_232_6 => ?_)
            · refine ab_aload_n de_M_part0_280 1 rfl ?_
              refine ab_get (v := .int ((md_ps h a w c) 30 20)) fl_M_125 rfl rfl de_M_part0_281 ?_
              refine ab_top (v' := nI a) (rfl) ?_
              refine ab_aload_n de_M_part0_284 1 rfl ?_
              refine ab_get (v := .int ((md_ps h a w c) 30 21)) fl_M_128 rfl rfl de_M_part0_285 ?_
              refine ab_top (v' := nI n) (hend) ?_
              refine ab_icmp_ge (tgt := 353) de_M_part0_288 rfl (fun c_288_7 => ?_) (fun c_288_7 => ?_)
              · exact absurd ((ab_le (by omega) (by omega)).mp c_288_7) (by omega)
              · refine ab_iload_n de_M_part0_291 0 rfl ?_
                refine ab_bipush (v := 116) de_M_part0_292 rfl ?_
                refine ab_icmp_ne (tgt := 353) de_M_part0_294 rfl (fun c_294_8 => ?_) (fun c_294_8 => ?_)
                · refine ab_aload_n de_M_part0_353 1 rfl ?_
                  refine ab_get (v := .int ((md_ps h a w c) 30 20)) fl_M_125 rfl rfl de_M_part0_354 ?_
                  refine ab_top (v' := nI a) (rfl) ?_
                  refine ab_aload_n de_M_part0_357 1 rfl ?_
                  refine ab_get (v := .int ((md_ps h a w c) 30 21)) fl_M_128 rfl rfl de_M_part0_358 ?_
                  refine ab_top (v' := nI n) (hend) ?_
                  refine ab_icmp_ge (tgt := 426) de_M_part0_361 rfl (fun c_361_9 => ?_) (fun c_361_9 => ?_)
                  · exact absurd ((ab_le (by omega) (by omega)).mp c_361_9) (by omega)
                  · refine ab_iload_n de_M_part0_364 0 rfl ?_
                    refine ab_bipush (v := 109) de_M_part0_365 rfl ?_
                    refine ab_icmp_ne (tgt := 426) de_M_part0_367 rfl (fun c_367_10 => ?_) (fun c_367_10 => ?_)
                    · exact absurd rfl c_367_10
                    · refine ab_aload_n de_M_part0_370 1 rfl ?_
                      refine ab_dup de_M_part0_371 rfl ?_
                      refine ab_get (v := .int ((md_ps h a w c) 30 20)) fl_M_125 rfl rfl de_M_part0_372 ?_
                      refine ab_top (v' := nI a) (rfl) ?_
                      refine ab_iconst (v := 1) de_M_part0_375 rfl ?_
                      refine ab_iadd de_M_part0_376 ?_
                      refine ab_top (v' := nI (a + 1)) (ab_add _ _) ?_
                      refine ab_putI (x := 30) (j := 20) fl_M_125 rfl (Or.inl rfl) rfl rfl rfl de_M_part0_377 ?_
                      change ab_G _ _ _ _ _ _ _ _ _ (ab_S nr (ab_u2 (md_ps h a w c) 30 20 (nI (a + 1))) g rr) _
                      refine ab_hm (h' := md_ps h (a + 1) w c) (md_ps_20 _ _ _ _ _) ?_
                      refine ab_aload_n de_M_part0_380 1 rfl ?_
                      refine ab_bipush (v := 117) de_M_part0_381 rfl ?_
                      by_cases c_383_11 : a + 1 < n ∧ md_f g s (a + 1) = 117
                      · have lt1_ := c_383_11.1
                        have hg2 := md_stp hg1 (V := 256) (by rw [c_383_11.2]; decide +kernel) (by decide) (by decide +kernel)
                        refine ab_cV (as := [.int (117 : Int32)]) (st := []) (ct_M_takes_1 l _ nr h g rr (i := a + 1) (w := w) (r := c) (n := n) (s := s) (c := (117 : Int32)) hs hn60 hbase hend c_383_11.1 c_383_11.2) mo_M_takes mi_M_takes ml_M_151 rfl (by decide) rfl rfl rfl (Nat.le_of_ble_eq_true rfl) de_M_part0_383 (fun v_ M_ hK_ hl_ hv_ => ?_)
                        obtain ⟨rfl, hm_⟩ := hK_
                        have hm_ := hm_.symm
                        subst hm_
                        change ab_G _ _ _ _ _ _ _ [(1, .int (109 : Int32)), (0, .ref 30)] [.int (1 : Int32)] (ab_S nr (md_ps h (a + 2) w c) g rr) _
                        refine ab_if_eq (tgt := 424) de_M_part0_386 rfl (fun c_386_12 => ?_) (fun c_386_12 => ?_)
                        · exact absurd c_386_12 (by decide)
                        · refine ab_aload_n de_M_part0_389 1 rfl ?_
                          refine ab_bipush (v := 115) de_M_part0_390 rfl ?_
                          by_cases c_392_13 : a + 2 < n ∧ md_f g s (a + 2) = 115
                          · have lt2_ := c_392_13.1
                            have hg3 := md_stp hg2 (V := 256) (by rw [c_392_13.2]; decide +kernel) (by decide) (by decide +kernel)
                            refine ab_cV (as := [.int (115 : Int32)]) (st := []) (ct_M_takes_1 l _ nr h g rr (i := a + 2) (w := w) (r := c) (n := n) (s := s) (c := (115 : Int32)) hs hn60 hbase hend c_392_13.1 c_392_13.2) mo_M_takes mi_M_takes ml_M_151 rfl (by decide) rfl rfl rfl (Nat.le_of_ble_eq_true rfl) de_M_part0_392 (fun v_ M_ hK_ hl_ hv_ => ?_)
                            obtain ⟨rfl, hm_⟩ := hK_
                            have hm_ := hm_.symm
                            subst hm_
                            change ab_G _ _ _ _ _ _ _ [(1, .int (109 : Int32)), (0, .ref 30)] [.int (1 : Int32)] (ab_S nr (md_ps h (a + 3) w c) g rr) _
                            refine ab_if_eq (tgt := 424) de_M_part0_395 rfl (fun c_395_14 => ?_) (fun c_395_14 => ?_)
                            · exact absurd c_395_14 (by decide)
                            · refine ab_aload_n de_M_part0_398 1 rfl ?_
                              refine ab_bipush (v := 116) de_M_part0_399 rfl ?_
                              by_cases c_401_15 : a + 3 < n ∧ md_f g s (a + 3) = 116
                              · have lt3_ := c_401_15.1
                                have gl_ : sp_gn 256 3 (md_f g s (a + 3)) = 256 := by rw [c_401_15.2]; decide +kernel
                                refine ab_cV (as := [.int (116 : Int32)]) (st := []) (ct_M_takes_1 l _ nr h g rr (i := a + 3) (w := w) (r := c) (n := n) (s := s) (c := (116 : Int32)) hs hn60 hbase hend c_401_15.1 c_401_15.2) mo_M_takes mi_M_takes ml_M_151 rfl (by decide) rfl rfl rfl (Nat.le_of_ble_eq_true rfl) de_M_part0_401 (fun v_ M_ hK_ hl_ hv_ => ?_)
                                obtain ⟨rfl, hm_⟩ := hK_
                                have hm_ := hm_.symm
                                subst hm_
                                change ab_G _ _ _ _ _ _ _ [(1, .int (109 : Int32)), (0, .ref 30)] [.int (1 : Int32)] (ab_S nr (md_ps h (a + 4) w c) g rr) _
                                refine ab_if_eq (tgt := 424) de_M_part0_404 rfl (fun c_404_16 => ?_) (fun c_404_16 => ?_)
                                · exact absurd c_404_16 (by decide)
                                · refine ab_aload_n de_M_part0_407 1 rfl ?_
                                  refine ab_sipush (v := 256) de_M_part0_408 rfl ?_
                                  refine ab_sipush (v := 256) de_M_part0_411 rfl ?_
                                  by_cases c_414_17 : c &&& 256 = 0
                                  · have wh_ := md_lst hg3 (V := 256) (b := 256) gl_ (by decide) (by decide +kernel) (by decide) (by rw [sp_thl (b := 256) (by decide)]; exact decide_eq_false (fun z_ => z_ c_414_17))
                                    have or_lt_ : c ||| 256 < 4096 := Nat.or_lt_two_pow (n := 12) hc (by decide)
                                    refine ab_cV (as := [.int (256 : Int32), .int (256 : Int32)]) (st := []) (ct_M_adds_1 l _ nr h g rr (i := a + 4) (w := w) (r := c) (b := 256) (o := 256) c_414_17) mo_M_adds mi_M_adds ml_M_154 rfl (by decide) rfl rfl rfl (Nat.le_of_ble_eq_true rfl) de_M_part0_414 (fun v_ M_ hK_ hl_ hv_ => ?_)
                                    obtain ⟨rfl, hm_⟩ := hK_
                                    have hm_ := hm_.symm
                                    subst hm_
                                    change ab_G _ _ _ _ _ _ _ [(1, .int (109 : Int32)), (0, .ref 30)] [.int (1 : Int32)] (ab_S nr (md_ps h (a + 4) w (c ||| 256)) g rr) _
                                    refine ab_if_eq (tgt := 424) de_M_part0_417 rfl (fun c_417_18 => ?_) (fun c_417_18 => ?_)
                                    · exact absurd c_417_18 (by decide)
                                    · refine ab_iconst (v := 1) de_M_part0_420 rfl ?_
                                      refine ab_goto (tgt := 425) de_M_part0_421 rfl ?_
                                      exact ab_ret (v := some (.int (1 : Int32))) de_M_part0_425 ⟨_, rfl, rfl⟩ (Or.inl ⟨rfl, _, _, by omega, by omega, or_lt_, wh_, rfl⟩)
                                  · have fb_ := md_thb (n := n) lt3_ hg3 (V := 256) (b := 256) gl_ (by decide +kernel) (by rw [sp_thl (b := 256) (by decide)]; exact decide_eq_true c_414_17)
                                    refine ab_cV (as := [.int (256 : Int32), .int (256 : Int32)]) (st := []) (ct_M_adds_0 l _ nr h g rr (i := a + 4) (w := w) (r := c) (b := 256) (o := 256) c_414_17 hc (by omega)) mo_M_adds mi_M_adds ml_M_154 rfl (by decide) rfl rfl rfl (Nat.le_of_ble_eq_true rfl) de_M_part0_414 (fun v_ M_ hK_ hl_ hv_ => ?_)
                                    obtain ⟨rfl, hm_⟩ := hK_
                                    have hm_ := hm_.symm
                                    subst hm_
                                    change ab_G _ _ _ _ _ _ _ [(1, .int (109 : Int32)), (0, .ref 30)] [.int (0 : Int32)] (ab_S nr (md_ps h (a + 4) (nI (a + 4 - 1)) c) g rr) _
                                    refine ab_if_eq (tgt := 424) de_M_part0_417 rfl (fun c_417_19 => ?_) (fun c_417_19 => ?_)
                                    · refine ab_iconst (v := 0) de_M_part0_424 rfl ?_
                                      exact ab_ret (v := some (.int (0 : Int32))) de_M_part0_425 ⟨_, rfl, rfl⟩ (Or.inr ⟨rfl, _, _, fb_, rfl⟩)
                                    · exact absurd rfl c_417_19
                              · have fb_ := md_no (n := n) (i := a + 3) (by omega) hg3 (fun z_ => md_gn0 (l := [116]) (by decide +kernel) (md_1 (fun q_ => c_401_15 ⟨z_, q_⟩)))
                                refine ab_cV (as := [.int (116 : Int32)]) (st := []) (ct_M_takes_0 l _ nr h g rr (i := a + 3) (w := w) (r := c) (n := n) (s := s) (c := (116 : Int32)) hs hn60 hbase hend (by omega) c_401_15) mo_M_takes mi_M_takes ml_M_151 rfl (by decide) rfl rfl rfl (Nat.le_of_ble_eq_true rfl) de_M_part0_401 (fun v_ M_ hK_ hl_ hv_ => ?_)
                                obtain ⟨rfl, hm_⟩ := hK_
                                have hm_ := hm_.symm
                                subst hm_
                                change ab_G _ _ _ _ _ _ _ [(1, .int (109 : Int32)), (0, .ref 30)] [.int (0 : Int32)] (ab_S nr (md_ps h (a + 3) (nI (a + 3)) c) g rr) _
                                refine ab_if_eq (tgt := 424) de_M_part0_404 rfl (fun c_404_20 => ?_) (fun c_404_20 => ?_)
                                · refine ab_iconst (v := 0) de_M_part0_424 rfl ?_
                                  exact ab_ret (v := some (.int (0 : Int32))) de_M_part0_425 ⟨_, rfl, rfl⟩ (Or.inr ⟨rfl, _, _, fb_, rfl⟩)
                                · exact absurd rfl c_404_20
                          · have fb_ := md_no (n := n) (i := a + 2) (by omega) hg2 (fun z_ => md_gn0 (l := [115]) (by decide +kernel) (md_1 (fun q_ => c_392_13 ⟨z_, q_⟩)))
                            refine ab_cV (as := [.int (115 : Int32)]) (st := []) (ct_M_takes_0 l _ nr h g rr (i := a + 2) (w := w) (r := c) (n := n) (s := s) (c := (115 : Int32)) hs hn60 hbase hend (by omega) c_392_13) mo_M_takes mi_M_takes ml_M_151 rfl (by decide) rfl rfl rfl (Nat.le_of_ble_eq_true rfl) de_M_part0_392 (fun v_ M_ hK_ hl_ hv_ => ?_)
                            obtain ⟨rfl, hm_⟩ := hK_
                            have hm_ := hm_.symm
                            subst hm_
                            change ab_G _ _ _ _ _ _ _ [(1, .int (109 : Int32)), (0, .ref 30)] [.int (0 : Int32)] (ab_S nr (md_ps h (a + 2) (nI (a + 2)) c) g rr) _
                            refine ab_if_eq (tgt := 424) de_M_part0_395 rfl (fun c_395_21 => ?_) (fun c_395_21 => ?_)
                            · refine ab_iconst (v := 0) de_M_part0_424 rfl ?_
                              exact ab_ret (v := some (.int (0 : Int32))) de_M_part0_425 ⟨_, rfl, rfl⟩ (Or.inr ⟨rfl, _, _, fb_, rfl⟩)
                            · exact absurd rfl c_395_21
                      · have fb_ := md_no (n := n) (i := a + 1) (by omega) hg1 (fun z_ => md_gn0 (l := [117]) (by decide +kernel) (md_1 (fun q_ => c_383_11 ⟨z_, q_⟩)))
                        refine ab_cV (as := [.int (117 : Int32)]) (st := []) (ct_M_takes_0 l _ nr h g rr (i := a + 1) (w := w) (r := c) (n := n) (s := s) (c := (117 : Int32)) hs hn60 hbase hend (by omega) c_383_11) mo_M_takes mi_M_takes ml_M_151 rfl (by decide) rfl rfl rfl (Nat.le_of_ble_eq_true rfl) de_M_part0_383 (fun v_ M_ hK_ hl_ hv_ => ?_)
                        obtain ⟨rfl, hm_⟩ := hK_
                        have hm_ := hm_.symm
                        subst hm_
                        change ab_G _ _ _ _ _ _ _ [(1, .int (109 : Int32)), (0, .ref 30)] [.int (0 : Int32)] (ab_S nr (md_ps h (a + 1) (nI (a + 1)) c) g rr) _
                        refine ab_if_eq (tgt := 424) de_M_part0_386 rfl (fun c_386_22 => ?_) (fun c_386_22 => ?_)
                        · refine ab_iconst (v := 0) de_M_part0_424 rfl ?_
                          exact ab_ret (v := some (.int (0 : Int32))) de_M_part0_425 ⟨_, rfl, rfl⟩ (Or.inr ⟨rfl, _, _, fb_, rfl⟩)
                        · exact absurd rfl c_386_22
                · exact absurd c_294_8 (by decide)
            · exact absurd c_232_6 (by decide)
        · exact absurd c_40_4 (by decide)
set_option maxHeartbeats 1000000 in
set_option maxRecDepth 10000 in
theorem ct_M_part_s (l : Launch) (d : Nat) (nr : Nat) (h : Nat → Nat → Int32) (g : Nat → Nat → Int64) (rr : Nat → Option Nat) {a n s c : Nat} {w : Int32} (hs : s < 8) (hn60 : n ≤ 60) (hbase : h 30 19 = nI (60 * s)) (hend : h 30 21 = nI n) (hc : c < 4096) (hg0 : md_go (md_f g s) a c 8191 0) (ha : a < n) (hx0 : md_f g s a = 115) : ab_C l am_M_part0 (d + 4) 0 0 [.ref 30] (ab_S nr (md_ps h a w c) g rr) (fun (r_ : Option Value) (M' : ab_Me) => (r_ = some (.int (1 : Int32)) ∧ ∃ b c', a < b ∧ b ≤ n ∧ c' < 4096 ∧ md_wh (md_f g s) b c' ∧ M' = (ab_S nr (md_ps h b w c') g rr)) ∨ (r_ = some (.int (0 : Int32)) ∧ ∃ i j, md_fb (md_f g s) n j ∧ M' = (ab_S nr (md_ps h i (nI j) c) g rr))) := by
  have hg1 : md_go (md_f g s) (a + 1) c 7 1 := md_stp hg0 (V := 7) (by rw [hx0]; decide +kernel) (by decide) (by decide +kernel)
  refine ab_C_of (by decide +kernel) rfl (Nat.le_of_ble_eq_true rfl) ?_
  refine ab_aload_n de_M_part0_0 0 rfl ?_
  refine ab_get (v := .int ((md_ps h a w c) 30 20)) fl_M_125 rfl rfl de_M_part0_1 ?_
  refine ab_top (v' := nI a) (rfl) ?_
  refine ab_aload_n de_M_part0_4 0 rfl ?_
  refine ab_get (v := .int ((md_ps h a w c) 30 21)) fl_M_128 rfl rfl de_M_part0_5 ?_
  refine ab_top (v' := nI n) (hend) ?_
  refine ab_icmp_ge (tgt := 18) de_M_part0_8 rfl (fun c_8_1 => ?_) (fun c_8_1 => ?_)
  · exact absurd ((ab_le (by omega) (by omega)).mp c_8_1) (by omega)
  · refine ab_aload_n de_M_part0_11 0 rfl ?_
    refine ab_cV (as := []) (st := []) (ct_M_letter l _ nr h g rr (i := a) (w := w) (r := c) hs hn60 hbase hend (by omega)) mo_M_letter mi_M_letter ml_M_141 rfl (by decide) rfl rfl rfl (Nat.le_of_ble_eq_true rfl) de_M_part0_12 (fun v_ M_ hK_ hl_ hv_ => ?_)
    obtain ⟨rfl, hm_⟩ := hK_
    have hm_ := hm_.symm
    subst hm_
    change ab_G _ _ _ _ _ _ _ [(0, .ref 30)] [.int (md_f g s a)] (ab_S nr (md_ps h a w c) g rr) _
    refine ab_top (v' := (115 : Int32)) (hx0) ?_
    refine ab_goto (tgt := 19) de_M_part0_15 rfl ?_
    refine ab_istore_n (L' := [(1, .int (115 : Int32)), (0, .ref 30)]) de_M_part0_19 (by decide) rfl ?_
    refine ab_aload_n de_M_part0_20 1 rfl ?_
    refine ab_get (v := .int ((md_ps h a w c) 30 20)) fl_M_125 rfl rfl de_M_part0_21 ?_
    refine ab_top (v' := nI a) (rfl) ?_
    refine ab_aload_n de_M_part0_24 1 rfl ?_
    refine ab_get (v := .int ((md_ps h a w c) 30 21)) fl_M_128 rfl rfl de_M_part0_25 ?_
    refine ab_top (v' := nI n) (hend) ?_
    refine ab_icmp_ge (tgt := 218) de_M_part0_28 rfl (fun c_28_2 => ?_) (fun c_28_2 => ?_)
    · exact absurd ((ab_le (by omega) (by omega)).mp c_28_2) (by omega)
    · refine ab_iload_n de_M_part0_31 0 rfl ?_
      refine ab_bipush (v := 115) de_M_part0_32 rfl ?_
      refine ab_icmp_eq (tgt := 43) de_M_part0_34 rfl (fun c_34_3 => ?_) (fun c_34_3 => ?_)
      · refine ab_aload_n de_M_part0_43 1 rfl ?_
        refine ab_dup de_M_part0_44 rfl ?_
        refine ab_get (v := .int ((md_ps h a w c) 30 20)) fl_M_125 rfl rfl de_M_part0_45 ?_
        refine ab_top (v' := nI a) (rfl) ?_
        refine ab_iconst (v := 1) de_M_part0_48 rfl ?_
        refine ab_iadd de_M_part0_49 ?_
        refine ab_top (v' := nI (a + 1)) (ab_add _ _) ?_
        refine ab_putI (x := 30) (j := 20) fl_M_125 rfl (Or.inl rfl) rfl rfl rfl de_M_part0_50 ?_
        change ab_G _ _ _ _ _ _ _ _ _ (ab_S nr (ab_u2 (md_ps h a w c) 30 20 (nI (a + 1))) g rr) _
        refine ab_hm (h' := md_ps h (a + 1) w c) (md_ps_20 _ _ _ _ _) ?_
        refine ab_iload_n de_M_part0_53 0 rfl ?_
        refine ab_bipush (v := 115) de_M_part0_54 rfl ?_
        refine ab_icmp_ne (tgt := 97) de_M_part0_56 rfl (fun c_56_4 => ?_) (fun c_56_4 => ?_)
        · exact absurd rfl c_56_4
        · refine ab_aload_n de_M_part0_59 1 rfl ?_
          refine ab_bipush (v := 116) de_M_part0_60 rfl ?_
          by_cases c_62_5 : a + 1 < n ∧ md_f g s (a + 1) = 116
          · have lt1_ := c_62_5.1
            have hg2 := md_stp hg1 (V := 7) (by rw [c_62_5.2]; decide +kernel) (by decide) (by decide +kernel)
            refine ab_cV (as := [.int (116 : Int32)]) (st := []) (ct_M_takes_1 l _ nr h g rr (i := a + 1) (w := w) (r := c) (n := n) (s := s) (c := (116 : Int32)) hs hn60 hbase hend c_62_5.1 c_62_5.2) mo_M_takes mi_M_takes ml_M_151 rfl (by decide) rfl rfl rfl (Nat.le_of_ble_eq_true rfl) de_M_part0_62 (fun v_ M_ hK_ hl_ hv_ => ?_)
            obtain ⟨rfl, hm_⟩ := hK_
            have hm_ := hm_.symm
            subst hm_
            change ab_G _ _ _ _ _ _ _ [(1, .int (115 : Int32)), (0, .ref 30)] [.int (1 : Int32)] (ab_S nr (md_ps h (a + 2) w c) g rr) _
            refine ab_if_eq (tgt := 95) de_M_part0_65 rfl (fun c_65_6 => ?_) (fun c_65_6 => ?_)
            · exact absurd c_65_6 (by decide)
            · refine ab_aload_n de_M_part0_68 1 rfl ?_
              refine ab_bipush (v := 101) de_M_part0_69 rfl ?_
              by_cases c_71_7 : a + 2 < n ∧ md_f g s (a + 2) = 101
              · have lt2_ := c_71_7.1
                have hg3 := md_stp hg2 (V := 7) (by rw [c_71_7.2]; decide +kernel) (by decide) (by decide +kernel)
                refine ab_cV (as := [.int (101 : Int32)]) (st := []) (ct_M_takes_1 l _ nr h g rr (i := a + 2) (w := w) (r := c) (n := n) (s := s) (c := (101 : Int32)) hs hn60 hbase hend c_71_7.1 c_71_7.2) mo_M_takes mi_M_takes ml_M_151 rfl (by decide) rfl rfl rfl (Nat.le_of_ble_eq_true rfl) de_M_part0_71 (fun v_ M_ hK_ hl_ hv_ => ?_)
                obtain ⟨rfl, hm_⟩ := hK_
                have hm_ := hm_.symm
                subst hm_
                change ab_G _ _ _ _ _ _ _ [(1, .int (115 : Int32)), (0, .ref 30)] [.int (1 : Int32)] (ab_S nr (md_ps h (a + 3) w c) g rr) _
                refine ab_if_eq (tgt := 95) de_M_part0_74 rfl (fun c_74_8 => ?_) (fun c_74_8 => ?_)
                · exact absurd c_74_8 (by decide)
                · refine ab_aload_n de_M_part0_77 1 rfl ?_
                  refine ab_bipush (v := 112) de_M_part0_78 rfl ?_
                  by_cases c_80_9 : a + 3 < n ∧ md_f g s (a + 3) = 112
                  · have lt3_ := c_80_9.1
                    have hg4 := md_stp hg3 (V := 7) (by rw [c_80_9.2]; decide +kernel) (by decide) (by decide +kernel)
                    refine ab_cV (as := [.int (112 : Int32)]) (st := []) (ct_M_takes_1 l _ nr h g rr (i := a + 3) (w := w) (r := c) (n := n) (s := s) (c := (112 : Int32)) hs hn60 hbase hend c_80_9.1 c_80_9.2) mo_M_takes mi_M_takes ml_M_151 rfl (by decide) rfl rfl rfl (Nat.le_of_ble_eq_true rfl) de_M_part0_80 (fun v_ M_ hK_ hl_ hv_ => ?_)
                    obtain ⟨rfl, hm_⟩ := hK_
                    have hm_ := hm_.symm
                    subst hm_
                    change ab_G _ _ _ _ _ _ _ [(1, .int (115 : Int32)), (0, .ref 30)] [.int (1 : Int32)] (ab_S nr (md_ps h (a + 4) w c) g rr) _
                    refine ab_if_eq (tgt := 95) de_M_part0_83 rfl (fun c_83_10 => ?_) (fun c_83_10 => ?_)
                    · exact absurd c_83_10 (by decide)
                    · refine ab_aload_n de_M_part0_86 1 rfl ?_
                      refine ab_bipush (v := 32) de_M_part0_87 rfl ?_
                      by_cases c_89_11 : a + 4 < n ∧ md_f g s (a + 4) = 32
                      · have lt4_ := c_89_11.1
                        have hg5 := md_stp hg4 (V := 7) (by rw [c_89_11.2]; decide +kernel) (by decide) (by decide +kernel)
                        refine ab_cV (as := [.int (32 : Int32)]) (st := []) (ct_M_takes_1 l _ nr h g rr (i := a + 4) (w := w) (r := c) (n := n) (s := s) (c := (32 : Int32)) hs hn60 hbase hend c_89_11.1 c_89_11.2) mo_M_takes mi_M_takes ml_M_151 rfl (by decide) rfl rfl rfl (Nat.le_of_ble_eq_true rfl) de_M_part0_89 (fun v_ M_ hK_ hl_ hv_ => ?_)
                        obtain ⟨rfl, hm_⟩ := hK_
                        have hm_ := hm_.symm
                        subst hm_
                        change ab_G _ _ _ _ _ _ _ [(1, .int (115 : Int32)), (0, .ref 30)] [.int (1 : Int32)] (ab_S nr (md_ps h (a + 5) w c) g rr) _
                        refine ab_if_ne (tgt := 97) de_M_part0_92 rfl (fun c_92_12 => ?_) (fun c_92_12 => ?_)
                        · refine ab_iload_n de_M_part0_97 0 rfl ?_
                          refine ab_bipush (v := 106) de_M_part0_98 rfl ?_
                          refine ab_icmp_ne (tgt := 141) de_M_part0_100 rfl (fun c_100_13 => ?_) (fun c_100_13 => ?_)
                          · refine ab_aload_n de_M_part0_141 1 rfl ?_
                            refine ab_get (v := .int ((md_ps h (a + 5) w c) 30 20)) fl_M_125 rfl rfl de_M_part0_142 ?_
                            refine ab_top (v' := nI (a + 5)) (rfl) ?_
                            refine ab_aload_n de_M_part0_145 1 rfl ?_
                            refine ab_get (v := .int ((md_ps h (a + 5) w c) 30 21)) fl_M_128 rfl rfl de_M_part0_146 ?_
                            refine ab_top (v' := nI n) (hend) ?_
                            refine ab_icmp_ge (tgt := 170) de_M_part0_149 rfl (fun c_149_14 => ?_) (fun c_149_14 => ?_)
                            · have le_ := (ab_le (by omega) (by omega)).mp c_149_14
                              have fb_ := md_no (n := n) (i := a + 5) (by omega) hg5 (fun z_ => absurd z_ (by omega))
                              refine ab_aload_n de_M_part0_170 1 rfl ?_
                              refine ab_aload_n de_M_part0_171 1 rfl ?_
                              refine ab_get (v := .int ((md_ps h (a + 5) w c) 30 20)) fl_M_125 rfl rfl de_M_part0_172 ?_
                              refine ab_top (v' := nI (a + 5)) (rfl) ?_
                              refine ab_cV (as := [.int (nI (a + 5))]) (st := []) (ct_M_wrong l _ nr h g rr (i := a + 5) (w := w) (r := c) (nI (a + 5))) mo_M_wrong mi_M_wrong ml_M_145 rfl (by decide) rfl rfl rfl (Nat.le_of_ble_eq_true rfl) de_M_part0_175 (fun v_ M_ hK_ hl_ hv_ => ?_)
                              obtain ⟨rfl, hm_⟩ := hK_
                              have hm_ := hm_.symm
                              subst hm_
                              change ab_G _ _ _ _ _ _ _ [(1, .int (115 : Int32)), (0, .ref 30)] [.int (0 : Int32)] (ab_S nr (md_ps h (a + 5) (nI (a + 5)) c) g rr) _
                              exact ab_ret (v := some (.int (0 : Int32))) de_M_part0_178 ⟨_, rfl, rfl⟩ (Or.inr ⟨rfl, _, _, fb_, rfl⟩)
                            · have lt5_ : a + 5 < n := Nat.lt_of_not_le (fun z_ => c_149_14 ((ab_le (by omega) (by omega)).mpr z_))
                              refine ab_aload_n de_M_part0_152 1 rfl ?_
                              refine ab_cV (as := []) (st := []) (ct_M_letter l _ nr h g rr (i := a + 5) (w := w) (r := c) hs hn60 hbase hend (by omega)) mo_M_letter mi_M_letter ml_M_141 rfl (by decide) rfl rfl rfl (Nat.le_of_ble_eq_true rfl) de_M_part0_153 (fun v_ M_ hK_ hl_ hv_ => ?_)
                              obtain ⟨rfl, hm_⟩ := hK_
                              have hm_ := hm_.symm
                              subst hm_
                              change ab_G _ _ _ _ _ _ _ [(1, .int (115 : Int32)), (0, .ref 30)] [.int (md_f g s (a + 5))] (ab_S nr (md_ps h (a + 5) w c) g rr) _
                              refine ab_bipush (v := 48) de_M_part0_156 rfl ?_
                              refine ab_icmp_lt (tgt := 170) de_M_part0_158 rfl (fun c_158_15 => ?_) (fun c_158_15 => ?_)
                              · have fb_ := md_no (n := n) (i := a + 5) (by omega) hg5 (fun _ => md_gn0 (l := [48, 49, 50]) (by decide +kernel) (md_n4 (Or.inl c_158_15)))
                                refine ab_aload_n de_M_part0_170 1 rfl ?_
                                refine ab_aload_n de_M_part0_171 1 rfl ?_
                                refine ab_get (v := .int ((md_ps h (a + 5) w c) 30 20)) fl_M_125 rfl rfl de_M_part0_172 ?_
                                refine ab_top (v' := nI (a + 5)) (rfl) ?_
                                refine ab_cV (as := [.int (nI (a + 5))]) (st := []) (ct_M_wrong l _ nr h g rr (i := a + 5) (w := w) (r := c) (nI (a + 5))) mo_M_wrong mi_M_wrong ml_M_145 rfl (by decide) rfl rfl rfl (Nat.le_of_ble_eq_true rfl) de_M_part0_175 (fun v_ M_ hK_ hl_ hv_ => ?_)
                                obtain ⟨rfl, hm_⟩ := hK_
                                have hm_ := hm_.symm
                                subst hm_
                                change ab_G _ _ _ _ _ _ _ [(1, .int (115 : Int32)), (0, .ref 30)] [.int (0 : Int32)] (ab_S nr (md_ps h (a + 5) (nI (a + 5)) c) g rr) _
                                exact ab_ret (v := some (.int (0 : Int32))) de_M_part0_178 ⟨_, rfl, rfl⟩ (Or.inr ⟨rfl, _, _, fb_, rfl⟩)
                              · have c158_ := c_158_15
                                refine ab_aload_n de_M_part0_161 1 rfl ?_
                                refine ab_cV (as := []) (st := []) (ct_M_letter l _ nr h g rr (i := a + 5) (w := w) (r := c) hs hn60 hbase hend (by omega)) mo_M_letter mi_M_letter ml_M_141 rfl (by decide) rfl rfl rfl (Nat.le_of_ble_eq_true rfl) de_M_part0_162 (fun v_ M_ hK_ hl_ hv_ => ?_)
                                obtain ⟨rfl, hm_⟩ := hK_
                                have hm_ := hm_.symm
                                subst hm_
                                change ab_G _ _ _ _ _ _ _ [(1, .int (115 : Int32)), (0, .ref 30)] [.int (md_f g s (a + 5))] (ab_S nr (md_ps h (a + 5) w c) g rr) _
                                refine ab_bipush (v := 50) de_M_part0_165 rfl ?_
                                refine ab_icmp_le (tgt := 179) de_M_part0_167 rfl (fun c_167_16 => ?_) (fun c_167_16 => ?_)
                                · obtain ⟨e_, he_, hx_⟩ := md_dg3 c158_ c_167_16
                                  refine ab_iconst (v := 1) de_M_part0_179 rfl ?_
                                  refine ab_aload_n de_M_part0_180 1 rfl ?_
                                  refine ab_cV (as := []) (st := [.int (1 : Int32)]) (ct_M_letter l _ nr h g rr (i := a + 5) (w := w) (r := c) hs hn60 hbase hend (by omega)) mo_M_letter mi_M_letter ml_M_141 rfl (by decide) rfl rfl rfl (Nat.le_of_ble_eq_true rfl) de_M_part0_181 (fun v_ M_ hK_ hl_ hv_ => ?_)
                                  obtain ⟨rfl, hm_⟩ := hK_
                                  have hm_ := hm_.symm
                                  subst hm_
                                  change ab_G _ _ _ _ _ _ _ [(1, .int (115 : Int32)), (0, .ref 30)] [.int (md_f g s (a + 5)), .int (1 : Int32)] (ab_S nr (md_ps h (a + 5) w c) g rr) _
                                  refine ab_top (v' := nI (48 + e_)) (hx_) ?_
                                  refine ab_bipush (v := 48) de_M_part0_184 rfl ?_
                                  refine ab_isub de_M_part0_186 ?_
                                  refine ab_top (v' := nI e_) ((ab_sub_k (b := 48) (by omega)).trans (congrArg nI (by omega))) ?_
                                  refine ab_iload_n de_M_part0_187 0 rfl ?_
                                  refine ab_bipush (v := 115) de_M_part0_188 rfl ?_
                                  refine ab_icmp_ne (tgt := 197) de_M_part0_190 rfl (fun c_190_17 => ?_) (fun c_190_17 => ?_)
                                  · exact absurd rfl c_190_17
                                  · refine ab_iconst (v := 0) de_M_part0_193 rfl ?_
                                    refine ab_goto (tgt := 198) de_M_part0_194 rfl ?_
                                    refine ab_iadd de_M_part0_198 ?_
                                    refine ab_top (v' := nI (e_ + 0)) (ab_add _ _) ?_
                                    refine ab_ishl de_M_part0_199 ?_
                                    refine ab_top (v' := nI (2 ^ (e_ + 0))) ((ab_shl 1 (by omega)).trans (congrArg nI (Nat.one_shiftLeft _))) ?_
                                    refine ab_istore_n (L' := [(2, .int (nI (2 ^ (e_ + 0)))), (1, .int (115 : Int32)), (0, .ref 30)]) de_M_part0_200 (by decide) rfl ?_
                                    refine ab_aload_n de_M_part0_201 2 rfl ?_
                                    refine ab_dup de_M_part0_202 rfl ?_
                                    refine ab_get (v := .int ((md_ps h (a + 5) w c) 30 20)) fl_M_125 rfl rfl de_M_part0_203 ?_
                                    refine ab_top (v' := nI (a + 5)) (rfl) ?_
                                    refine ab_iconst (v := 1) de_M_part0_206 rfl ?_
                                    refine ab_iadd de_M_part0_207 ?_
                                    refine ab_top (v' := nI (a + 6)) (ab_add _ _) ?_
                                    refine ab_putI (x := 30) (j := 20) fl_M_125 rfl (Or.inl rfl) rfl rfl rfl de_M_part0_208 ?_
                                    change ab_G _ _ _ _ _ _ _ _ _ (ab_S nr (ab_u2 (md_ps h (a + 5) w c) 30 20 (nI (a + 6))) g rr) _
                                    refine ab_hm (h' := md_ps h (a + 6) w c) (md_ps_20 _ _ _ _ _) ?_
                                    refine ab_aload_n de_M_part0_211 2 rfl ?_
                                    refine ab_iload_n de_M_part0_212 0 rfl ?_
                                    refine ab_iload_n de_M_part0_213 0 rfl ?_
                                    by_cases c_214_18 : c &&& (2 ^ (e_ + 0)) = 0
                                    · have wh_ := md_lst hg5 (V := 2 ^ (e_ + 0)) (b := 2 ^ (e_ + 0)) (by rw [hx_]; exact (md_gs e_ he_).1) ((md_p2 _ (by omega)).1) (md_gs e_ he_).2 ((md_p2 _ (by omega)).1) (by rw [sp_thl (b := 2 ^ (e_ + 0)) (md_p2 _ (by omega)).2.2]; exact decide_eq_false (fun z_ => z_ c_214_18))
                                      have or_lt_ : c ||| (2 ^ (e_ + 0)) < 4096 := Nat.or_lt_two_pow (n := 12) hc ((md_p2 _ (by omega)).2.1)
                                      refine ab_cV (as := [.int (nI (2 ^ (e_ + 0))), .int (nI (2 ^ (e_ + 0)))]) (st := []) (ct_M_adds_1 l _ nr h g rr (i := a + 6) (w := w) (r := c) (b := (2 ^ (e_ + 0))) (o := (2 ^ (e_ + 0))) c_214_18) mo_M_adds mi_M_adds ml_M_154 rfl (by decide) rfl rfl rfl (Nat.le_of_ble_eq_true rfl) de_M_part0_214 (fun v_ M_ hK_ hl_ hv_ => ?_)
                                      obtain ⟨rfl, hm_⟩ := hK_
                                      have hm_ := hm_.symm
                                      subst hm_
                                      change ab_G _ _ _ _ _ _ _ [(2, .int (nI (2 ^ (e_ + 0)))), (1, .int (115 : Int32)), (0, .ref 30)] [.int (1 : Int32)] (ab_S nr (md_ps h (a + 6) w (c ||| (2 ^ (e_ + 0)))) g rr) _
                                      exact ab_ret (v := some (.int (1 : Int32))) de_M_part0_217 ⟨_, rfl, rfl⟩ (Or.inl ⟨rfl, _, _, by omega, by omega, or_lt_, wh_, rfl⟩)
                                    · have fb_ := md_thb (n := n) lt5_ hg5 (V := 2 ^ (e_ + 0)) (b := 2 ^ (e_ + 0)) (by rw [hx_]; exact (md_gs e_ he_).1) (md_gs e_ he_).2 (by rw [sp_thl (b := 2 ^ (e_ + 0)) (md_p2 _ (by omega)).2.2]; exact decide_eq_true c_214_18)
                                      refine ab_cV (as := [.int (nI (2 ^ (e_ + 0))), .int (nI (2 ^ (e_ + 0)))]) (st := []) (ct_M_adds_0 l _ nr h g rr (i := a + 6) (w := w) (r := c) (b := (2 ^ (e_ + 0))) (o := (2 ^ (e_ + 0))) c_214_18 hc (by omega)) mo_M_adds mi_M_adds ml_M_154 rfl (by decide) rfl rfl rfl (Nat.le_of_ble_eq_true rfl) de_M_part0_214 (fun v_ M_ hK_ hl_ hv_ => ?_)
                                      obtain ⟨rfl, hm_⟩ := hK_
                                      have hm_ := hm_.symm
                                      subst hm_
                                      change ab_G _ _ _ _ _ _ _ [(2, .int (nI (2 ^ (e_ + 0)))), (1, .int (115 : Int32)), (0, .ref 30)] [.int (0 : Int32)] (ab_S nr (md_ps h (a + 6) (nI (a + 6 - 1)) c) g rr) _
                                      exact ab_ret (v := some (.int (0 : Int32))) de_M_part0_217 ⟨_, rfl, rfl⟩ (Or.inr ⟨rfl, _, _, fb_, rfl⟩)
                                · have fb_ := md_no (n := n) (i := a + 5) (by omega) hg5 (fun _ => md_gn0 (l := [48, 49, 50]) (by decide +kernel) (md_n4 (Or.inr c_167_16)))
                                  refine ab_aload_n de_M_part0_170 1 rfl ?_
                                  refine ab_aload_n de_M_part0_171 1 rfl ?_
                                  refine ab_get (v := .int ((md_ps h (a + 5) w c) 30 20)) fl_M_125 rfl rfl de_M_part0_172 ?_
                                  refine ab_top (v' := nI (a + 5)) (rfl) ?_
                                  refine ab_cV (as := [.int (nI (a + 5))]) (st := []) (ct_M_wrong l _ nr h g rr (i := a + 5) (w := w) (r := c) (nI (a + 5))) mo_M_wrong mi_M_wrong ml_M_145 rfl (by decide) rfl rfl rfl (Nat.le_of_ble_eq_true rfl) de_M_part0_175 (fun v_ M_ hK_ hl_ hv_ => ?_)
                                  obtain ⟨rfl, hm_⟩ := hK_
                                  have hm_ := hm_.symm
                                  subst hm_
                                  change ab_G _ _ _ _ _ _ _ [(1, .int (115 : Int32)), (0, .ref 30)] [.int (0 : Int32)] (ab_S nr (md_ps h (a + 5) (nI (a + 5)) c) g rr) _
                                  exact ab_ret (v := some (.int (0 : Int32))) de_M_part0_178 ⟨_, rfl, rfl⟩ (Or.inr ⟨rfl, _, _, fb_, rfl⟩)
                          · exact absurd c_100_13 (by decide)
                        · exact absurd c_92_12 (by decide)
                      · have fb_ := md_no (n := n) (i := a + 4) (by omega) hg4 (fun z_ => md_gn0 (l := [32]) (by decide +kernel) (md_1 (fun q_ => c_89_11 ⟨z_, q_⟩)))
                        refine ab_cV (as := [.int (32 : Int32)]) (st := []) (ct_M_takes_0 l _ nr h g rr (i := a + 4) (w := w) (r := c) (n := n) (s := s) (c := (32 : Int32)) hs hn60 hbase hend (by omega) c_89_11) mo_M_takes mi_M_takes ml_M_151 rfl (by decide) rfl rfl rfl (Nat.le_of_ble_eq_true rfl) de_M_part0_89 (fun v_ M_ hK_ hl_ hv_ => ?_)
                        obtain ⟨rfl, hm_⟩ := hK_
                        have hm_ := hm_.symm
                        subst hm_
                        change ab_G _ _ _ _ _ _ _ [(1, .int (115 : Int32)), (0, .ref 30)] [.int (0 : Int32)] (ab_S nr (md_ps h (a + 4) (nI (a + 4)) c) g rr) _
                        refine ab_if_ne (tgt := 97) de_M_part0_92 rfl (fun c_92_19 => ?_) (fun c_92_19 => ?_)
                        · exact absurd rfl c_92_19
                        · refine ab_iconst (v := 0) de_M_part0_95 rfl ?_
                          exact ab_ret (v := some (.int (0 : Int32))) de_M_part0_96 ⟨_, rfl, rfl⟩ (Or.inr ⟨rfl, _, _, fb_, rfl⟩)
                  · have fb_ := md_no (n := n) (i := a + 3) (by omega) hg3 (fun z_ => md_gn0 (l := [112]) (by decide +kernel) (md_1 (fun q_ => c_80_9 ⟨z_, q_⟩)))
                    refine ab_cV (as := [.int (112 : Int32)]) (st := []) (ct_M_takes_0 l _ nr h g rr (i := a + 3) (w := w) (r := c) (n := n) (s := s) (c := (112 : Int32)) hs hn60 hbase hend (by omega) c_80_9) mo_M_takes mi_M_takes ml_M_151 rfl (by decide) rfl rfl rfl (Nat.le_of_ble_eq_true rfl) de_M_part0_80 (fun v_ M_ hK_ hl_ hv_ => ?_)
                    obtain ⟨rfl, hm_⟩ := hK_
                    have hm_ := hm_.symm
                    subst hm_
                    change ab_G _ _ _ _ _ _ _ [(1, .int (115 : Int32)), (0, .ref 30)] [.int (0 : Int32)] (ab_S nr (md_ps h (a + 3) (nI (a + 3)) c) g rr) _
                    refine ab_if_eq (tgt := 95) de_M_part0_83 rfl (fun c_83_20 => ?_) (fun c_83_20 => ?_)
                    · refine ab_iconst (v := 0) de_M_part0_95 rfl ?_
                      exact ab_ret (v := some (.int (0 : Int32))) de_M_part0_96 ⟨_, rfl, rfl⟩ (Or.inr ⟨rfl, _, _, fb_, rfl⟩)
                    · exact absurd rfl c_83_20
              · have fb_ := md_no (n := n) (i := a + 2) (by omega) hg2 (fun z_ => md_gn0 (l := [101]) (by decide +kernel) (md_1 (fun q_ => c_71_7 ⟨z_, q_⟩)))
                refine ab_cV (as := [.int (101 : Int32)]) (st := []) (ct_M_takes_0 l _ nr h g rr (i := a + 2) (w := w) (r := c) (n := n) (s := s) (c := (101 : Int32)) hs hn60 hbase hend (by omega) c_71_7) mo_M_takes mi_M_takes ml_M_151 rfl (by decide) rfl rfl rfl (Nat.le_of_ble_eq_true rfl) de_M_part0_71 (fun v_ M_ hK_ hl_ hv_ => ?_)
                obtain ⟨rfl, hm_⟩ := hK_
                have hm_ := hm_.symm
                subst hm_
                change ab_G _ _ _ _ _ _ _ [(1, .int (115 : Int32)), (0, .ref 30)] [.int (0 : Int32)] (ab_S nr (md_ps h (a + 2) (nI (a + 2)) c) g rr) _
                refine ab_if_eq (tgt := 95) de_M_part0_74 rfl (fun c_74_21 => ?_) (fun c_74_21 => ?_)
                · refine ab_iconst (v := 0) de_M_part0_95 rfl ?_
                  exact ab_ret (v := some (.int (0 : Int32))) de_M_part0_96 ⟨_, rfl, rfl⟩ (Or.inr ⟨rfl, _, _, fb_, rfl⟩)
                · exact absurd rfl c_74_21
          · have fb_ := md_no (n := n) (i := a + 1) (by omega) hg1 (fun z_ => md_gn0 (l := [116]) (by decide +kernel) (md_1 (fun q_ => c_62_5 ⟨z_, q_⟩)))
            refine ab_cV (as := [.int (116 : Int32)]) (st := []) (ct_M_takes_0 l _ nr h g rr (i := a + 1) (w := w) (r := c) (n := n) (s := s) (c := (116 : Int32)) hs hn60 hbase hend (by omega) c_62_5) mo_M_takes mi_M_takes ml_M_151 rfl (by decide) rfl rfl rfl (Nat.le_of_ble_eq_true rfl) de_M_part0_62 (fun v_ M_ hK_ hl_ hv_ => ?_)
            obtain ⟨rfl, hm_⟩ := hK_
            have hm_ := hm_.symm
            subst hm_
            change ab_G _ _ _ _ _ _ _ [(1, .int (115 : Int32)), (0, .ref 30)] [.int (0 : Int32)] (ab_S nr (md_ps h (a + 1) (nI (a + 1)) c) g rr) _
            refine ab_if_eq (tgt := 95) de_M_part0_65 rfl (fun c_65_22 => ?_) (fun c_65_22 => ?_)
            · refine ab_iconst (v := 0) de_M_part0_95 rfl ?_
              exact ab_ret (v := some (.int (0 : Int32))) de_M_part0_96 ⟨_, rfl, rfl⟩ (Or.inr ⟨rfl, _, _, fb_, rfl⟩)
            · exact absurd rfl c_65_22
      · exact absurd rfl c_34_3
set_option maxHeartbeats 1000000 in
set_option maxRecDepth 10000 in
theorem ct_M_part_j (l : Launch) (d : Nat) (nr : Nat) (h : Nat → Nat → Int32) (g : Nat → Nat → Int64) (rr : Nat → Option Nat) {a n s c : Nat} {w : Int32} (hs : s < 8) (hn60 : n ≤ 60) (hbase : h 30 19 = nI (60 * s)) (hend : h 30 21 = nI n) (hc : c < 4096) (hg0 : md_go (md_f g s) a c 8191 0) (ha : a < n) (hx0 : md_f g s a = 106) : ab_C l am_M_part0 (d + 4) 0 0 [.ref 30] (ab_S nr (md_ps h a w c) g rr) (fun (r_ : Option Value) (M' : ab_Me) => (r_ = some (.int (1 : Int32)) ∧ ∃ b c', a < b ∧ b ≤ n ∧ c' < 4096 ∧ md_wh (md_f g s) b c' ∧ M' = (ab_S nr (md_ps h b w c') g rr)) ∨ (r_ = some (.int (0 : Int32)) ∧ ∃ i j, md_fb (md_f g s) n j ∧ M' = (ab_S nr (md_ps h i (nI j) c) g rr))) := by
  have hg1 : md_go (md_f g s) (a + 1) c 56 1 := md_stp hg0 (V := 56) (by rw [hx0]; decide +kernel) (by decide) (by decide +kernel)
  refine ab_C_of (by decide +kernel) rfl (Nat.le_of_ble_eq_true rfl) ?_
  refine ab_aload_n de_M_part0_0 0 rfl ?_
  refine ab_get (v := .int ((md_ps h a w c) 30 20)) fl_M_125 rfl rfl de_M_part0_1 ?_
  refine ab_top (v' := nI a) (rfl) ?_
  refine ab_aload_n de_M_part0_4 0 rfl ?_
  refine ab_get (v := .int ((md_ps h a w c) 30 21)) fl_M_128 rfl rfl de_M_part0_5 ?_
  refine ab_top (v' := nI n) (hend) ?_
  refine ab_icmp_ge (tgt := 18) de_M_part0_8 rfl (fun c_8_1 => ?_) (fun c_8_1 => ?_)
  · exact absurd ((ab_le (by omega) (by omega)).mp c_8_1) (by omega)
  · refine ab_aload_n de_M_part0_11 0 rfl ?_
    refine ab_cV (as := []) (st := []) (ct_M_letter l _ nr h g rr (i := a) (w := w) (r := c) hs hn60 hbase hend (by omega)) mo_M_letter mi_M_letter ml_M_141 rfl (by decide) rfl rfl rfl (Nat.le_of_ble_eq_true rfl) de_M_part0_12 (fun v_ M_ hK_ hl_ hv_ => ?_)
    obtain ⟨rfl, hm_⟩ := hK_
    have hm_ := hm_.symm
    subst hm_
    change ab_G _ _ _ _ _ _ _ [(0, .ref 30)] [.int (md_f g s a)] (ab_S nr (md_ps h a w c) g rr) _
    refine ab_top (v' := (106 : Int32)) (hx0) ?_
    refine ab_goto (tgt := 19) de_M_part0_15 rfl ?_
    refine ab_istore_n (L' := [(1, .int (106 : Int32)), (0, .ref 30)]) de_M_part0_19 (by decide) rfl ?_
    refine ab_aload_n de_M_part0_20 1 rfl ?_
    refine ab_get (v := .int ((md_ps h a w c) 30 20)) fl_M_125 rfl rfl de_M_part0_21 ?_
    refine ab_top (v' := nI a) (rfl) ?_
    refine ab_aload_n de_M_part0_24 1 rfl ?_
    refine ab_get (v := .int ((md_ps h a w c) 30 21)) fl_M_128 rfl rfl de_M_part0_25 ?_
    refine ab_top (v' := nI n) (hend) ?_
    refine ab_icmp_ge (tgt := 218) de_M_part0_28 rfl (fun c_28_2 => ?_) (fun c_28_2 => ?_)
    · exact absurd ((ab_le (by omega) (by omega)).mp c_28_2) (by omega)
    · refine ab_iload_n de_M_part0_31 0 rfl ?_
      refine ab_bipush (v := 115) de_M_part0_32 rfl ?_
      refine ab_icmp_eq (tgt := 43) de_M_part0_34 rfl (fun c_34_3 => ?_) (fun c_34_3 => ?_)
      · exact absurd c_34_3 (by decide)
      · refine ab_iload_n de_M_part0_37 0 rfl ?_
        refine ab_bipush (v := 106) de_M_part0_38 rfl ?_
        refine ab_icmp_ne (tgt := 218) de_M_part0_40 rfl (fun c_40_4 => ?_) (fun c_40_4 => ?_)
        · exact absurd rfl c_40_4
        · refine ab_aload_n de_M_part0_43 1 rfl ?_
          refine ab_dup de_M_part0_44 rfl ?_
          refine ab_get (v := .int ((md_ps h a w c) 30 20)) fl_M_125 rfl rfl de_M_part0_45 ?_
          refine ab_top (v' := nI a) (rfl) ?_
          refine ab_iconst (v := 1) de_M_part0_48 rfl ?_
          refine ab_iadd de_M_part0_49 ?_
          refine ab_top (v' := nI (a + 1)) (ab_add _ _) ?_
          refine ab_putI (x := 30) (j := 20) fl_M_125 rfl (Or.inl rfl) rfl rfl rfl de_M_part0_50 ?_
          change ab_G _ _ _ _ _ _ _ _ _ (ab_S nr (ab_u2 (md_ps h a w c) 30 20 (nI (a + 1))) g rr) _
          refine ab_hm (h' := md_ps h (a + 1) w c) (md_ps_20 _ _ _ _ _) ?_
          refine ab_iload_n de_M_part0_53 0 rfl ?_
          refine ab_bipush (v := 115) de_M_part0_54 rfl ?_
          refine ab_icmp_ne (tgt := 97) de_M_part0_56 rfl (fun c_56_5 => ?_) (fun c_56_5 => ?_)
          · refine ab_iload_n de_M_part0_97 0 rfl ?_
            refine ab_bipush (v := 106) de_M_part0_98 rfl ?_
            refine ab_icmp_ne (tgt := 141) de_M_part0_100 rfl (fun c_100_6 => ?_) (fun c_100_6 => ?_)
            · exact absurd rfl c_100_6
            · refine ab_aload_n de_M_part0_103 1 rfl ?_
              refine ab_bipush (v := 117) de_M_part0_104 rfl ?_
              by_cases c_106_7 : a + 1 < n ∧ md_f g s (a + 1) = 117
              · have lt1_ := c_106_7.1
                have hg2 := md_stp hg1 (V := 56) (by rw [c_106_7.2]; decide +kernel) (by decide) (by decide +kernel)
                refine ab_cV (as := [.int (117 : Int32)]) (st := []) (ct_M_takes_1 l _ nr h g rr (i := a + 1) (w := w) (r := c) (n := n) (s := s) (c := (117 : Int32)) hs hn60 hbase hend c_106_7.1 c_106_7.2) mo_M_takes mi_M_takes ml_M_151 rfl (by decide) rfl rfl rfl (Nat.le_of_ble_eq_true rfl) de_M_part0_106 (fun v_ M_ hK_ hl_ hv_ => ?_)
                obtain ⟨rfl, hm_⟩ := hK_
                have hm_ := hm_.symm
                subst hm_
                change ab_G _ _ _ _ _ _ _ [(1, .int (106 : Int32)), (0, .ref 30)] [.int (1 : Int32)] (ab_S nr (md_ps h (a + 2) w c) g rr) _
                refine ab_if_eq (tgt := 139) de_M_part0_109 rfl (fun c_109_8 => ?_) (fun c_109_8 => ?_)
                · exact absurd c_109_8 (by decide)
                · refine ab_aload_n de_M_part0_112 1 rfl ?_
                  refine ab_bipush (v := 109) de_M_part0_113 rfl ?_
                  by_cases c_115_9 : a + 2 < n ∧ md_f g s (a + 2) = 109
                  · have lt2_ := c_115_9.1
                    have hg3 := md_stp hg2 (V := 56) (by rw [c_115_9.2]; decide +kernel) (by decide) (by decide +kernel)
                    refine ab_cV (as := [.int (109 : Int32)]) (st := []) (ct_M_takes_1 l _ nr h g rr (i := a + 2) (w := w) (r := c) (n := n) (s := s) (c := (109 : Int32)) hs hn60 hbase hend c_115_9.1 c_115_9.2) mo_M_takes mi_M_takes ml_M_151 rfl (by decide) rfl rfl rfl (Nat.le_of_ble_eq_true rfl) de_M_part0_115 (fun v_ M_ hK_ hl_ hv_ => ?_)
                    obtain ⟨rfl, hm_⟩ := hK_
                    have hm_ := hm_.symm
                    subst hm_
                    change ab_G _ _ _ _ _ _ _ [(1, .int (106 : Int32)), (0, .ref 30)] [.int (1 : Int32)] (ab_S nr (md_ps h (a + 3) w c) g rr) _
                    refine ab_if_eq (tgt := 139) de_M_part0_118 rfl (fun c_118_10 => ?_) (fun c_118_10 => ?_)
                    · exact absurd c_118_10 (by decide)
                    · refine ab_aload_n de_M_part0_121 1 rfl ?_
                      refine ab_bipush (v := 112) de_M_part0_122 rfl ?_
                      by_cases c_124_11 : a + 3 < n ∧ md_f g s (a + 3) = 112
                      · have lt3_ := c_124_11.1
                        have hg4 := md_stp hg3 (V := 56) (by rw [c_124_11.2]; decide +kernel) (by decide) (by decide +kernel)
                        refine ab_cV (as := [.int (112 : Int32)]) (st := []) (ct_M_takes_1 l _ nr h g rr (i := a + 3) (w := w) (r := c) (n := n) (s := s) (c := (112 : Int32)) hs hn60 hbase hend c_124_11.1 c_124_11.2) mo_M_takes mi_M_takes ml_M_151 rfl (by decide) rfl rfl rfl (Nat.le_of_ble_eq_true rfl) de_M_part0_124 (fun v_ M_ hK_ hl_ hv_ => ?_)
                        obtain ⟨rfl, hm_⟩ := hK_
                        have hm_ := hm_.symm
                        subst hm_
                        change ab_G _ _ _ _ _ _ _ [(1, .int (106 : Int32)), (0, .ref 30)] [.int (1 : Int32)] (ab_S nr (md_ps h (a + 4) w c) g rr) _
                        refine ab_if_eq (tgt := 139) de_M_part0_127 rfl (fun c_127_12 => ?_) (fun c_127_12 => ?_)
                        · exact absurd c_127_12 (by decide)
                        · refine ab_aload_n de_M_part0_130 1 rfl ?_
                          refine ab_bipush (v := 32) de_M_part0_131 rfl ?_
                          by_cases c_133_13 : a + 4 < n ∧ md_f g s (a + 4) = 32
                          · have lt4_ := c_133_13.1
                            have hg5 := md_stp hg4 (V := 56) (by rw [c_133_13.2]; decide +kernel) (by decide) (by decide +kernel)
                            refine ab_cV (as := [.int (32 : Int32)]) (st := []) (ct_M_takes_1 l _ nr h g rr (i := a + 4) (w := w) (r := c) (n := n) (s := s) (c := (32 : Int32)) hs hn60 hbase hend c_133_13.1 c_133_13.2) mo_M_takes mi_M_takes ml_M_151 rfl (by decide) rfl rfl rfl (Nat.le_of_ble_eq_true rfl) de_M_part0_133 (fun v_ M_ hK_ hl_ hv_ => ?_)
                            obtain ⟨rfl, hm_⟩ := hK_
                            have hm_ := hm_.symm
                            subst hm_
                            change ab_G _ _ _ _ _ _ _ [(1, .int (106 : Int32)), (0, .ref 30)] [.int (1 : Int32)] (ab_S nr (md_ps h (a + 5) w c) g rr) _
                            refine ab_if_ne (tgt := 141) de_M_part0_136 rfl (fun c_136_14 => ?_) (fun c_136_14 => ?_)
                            · refine ab_aload_n de_M_part0_141 1 rfl ?_
                              refine ab_get (v := .int ((md_ps h (a + 5) w c) 30 20)) fl_M_125 rfl rfl de_M_part0_142 ?_
                              refine ab_top (v' := nI (a + 5)) (rfl) ?_
                              refine ab_aload_n de_M_part0_145 1 rfl ?_
                              refine ab_get (v := .int ((md_ps h (a + 5) w c) 30 21)) fl_M_128 rfl rfl de_M_part0_146 ?_
                              refine ab_top (v' := nI n) (hend) ?_
                              refine ab_icmp_ge (tgt := 170) de_M_part0_149 rfl (fun c_149_15 => ?_) (fun c_149_15 => ?_)
                              · have le_ := (ab_le (by omega) (by omega)).mp c_149_15
                                have fb_ := md_no (n := n) (i := a + 5) (by omega) hg5 (fun z_ => absurd z_ (by omega))
                                refine ab_aload_n de_M_part0_170 1 rfl ?_
                                refine ab_aload_n de_M_part0_171 1 rfl ?_
                                refine ab_get (v := .int ((md_ps h (a + 5) w c) 30 20)) fl_M_125 rfl rfl de_M_part0_172 ?_
                                refine ab_top (v' := nI (a + 5)) (rfl) ?_
                                refine ab_cV (as := [.int (nI (a + 5))]) (st := []) (ct_M_wrong l _ nr h g rr (i := a + 5) (w := w) (r := c) (nI (a + 5))) mo_M_wrong mi_M_wrong ml_M_145 rfl (by decide) rfl rfl rfl (Nat.le_of_ble_eq_true rfl) de_M_part0_175 (fun v_ M_ hK_ hl_ hv_ => ?_)
                                obtain ⟨rfl, hm_⟩ := hK_
                                have hm_ := hm_.symm
                                subst hm_
                                change ab_G _ _ _ _ _ _ _ [(1, .int (106 : Int32)), (0, .ref 30)] [.int (0 : Int32)] (ab_S nr (md_ps h (a + 5) (nI (a + 5)) c) g rr) _
                                exact ab_ret (v := some (.int (0 : Int32))) de_M_part0_178 ⟨_, rfl, rfl⟩ (Or.inr ⟨rfl, _, _, fb_, rfl⟩)
                              · have lt5_ : a + 5 < n := Nat.lt_of_not_le (fun z_ => c_149_15 ((ab_le (by omega) (by omega)).mpr z_))
                                refine ab_aload_n de_M_part0_152 1 rfl ?_
                                refine ab_cV (as := []) (st := []) (ct_M_letter l _ nr h g rr (i := a + 5) (w := w) (r := c) hs hn60 hbase hend (by omega)) mo_M_letter mi_M_letter ml_M_141 rfl (by decide) rfl rfl rfl (Nat.le_of_ble_eq_true rfl) de_M_part0_153 (fun v_ M_ hK_ hl_ hv_ => ?_)
                                obtain ⟨rfl, hm_⟩ := hK_
                                have hm_ := hm_.symm
                                subst hm_
                                change ab_G _ _ _ _ _ _ _ [(1, .int (106 : Int32)), (0, .ref 30)] [.int (md_f g s (a + 5))] (ab_S nr (md_ps h (a + 5) w c) g rr) _
                                refine ab_bipush (v := 48) de_M_part0_156 rfl ?_
                                refine ab_icmp_lt (tgt := 170) de_M_part0_158 rfl (fun c_158_16 => ?_) (fun c_158_16 => ?_)
                                · have fb_ := md_no (n := n) (i := a + 5) (by omega) hg5 (fun _ => md_gn0 (l := [48, 49, 50]) (by decide +kernel) (md_n4 (Or.inl c_158_16)))
                                  refine ab_aload_n de_M_part0_170 1 rfl ?_
                                  refine ab_aload_n de_M_part0_171 1 rfl ?_
                                  refine ab_get (v := .int ((md_ps h (a + 5) w c) 30 20)) fl_M_125 rfl rfl de_M_part0_172 ?_
                                  refine ab_top (v' := nI (a + 5)) (rfl) ?_
                                  refine ab_cV (as := [.int (nI (a + 5))]) (st := []) (ct_M_wrong l _ nr h g rr (i := a + 5) (w := w) (r := c) (nI (a + 5))) mo_M_wrong mi_M_wrong ml_M_145 rfl (by decide) rfl rfl rfl (Nat.le_of_ble_eq_true rfl) de_M_part0_175 (fun v_ M_ hK_ hl_ hv_ => ?_)
                                  obtain ⟨rfl, hm_⟩ := hK_
                                  have hm_ := hm_.symm
                                  subst hm_
                                  change ab_G _ _ _ _ _ _ _ [(1, .int (106 : Int32)), (0, .ref 30)] [.int (0 : Int32)] (ab_S nr (md_ps h (a + 5) (nI (a + 5)) c) g rr) _
                                  exact ab_ret (v := some (.int (0 : Int32))) de_M_part0_178 ⟨_, rfl, rfl⟩ (Or.inr ⟨rfl, _, _, fb_, rfl⟩)
                                · have c158_ := c_158_16
                                  refine ab_aload_n de_M_part0_161 1 rfl ?_
                                  refine ab_cV (as := []) (st := []) (ct_M_letter l _ nr h g rr (i := a + 5) (w := w) (r := c) hs hn60 hbase hend (by omega)) mo_M_letter mi_M_letter ml_M_141 rfl (by decide) rfl rfl rfl (Nat.le_of_ble_eq_true rfl) de_M_part0_162 (fun v_ M_ hK_ hl_ hv_ => ?_)
                                  obtain ⟨rfl, hm_⟩ := hK_
                                  have hm_ := hm_.symm
                                  subst hm_
                                  change ab_G _ _ _ _ _ _ _ [(1, .int (106 : Int32)), (0, .ref 30)] [.int (md_f g s (a + 5))] (ab_S nr (md_ps h (a + 5) w c) g rr) _
                                  refine ab_bipush (v := 50) de_M_part0_165 rfl ?_
                                  refine ab_icmp_le (tgt := 179) de_M_part0_167 rfl (fun c_167_17 => ?_) (fun c_167_17 => ?_)
                                  · obtain ⟨e_, he_, hx_⟩ := md_dg3 c158_ c_167_17
                                    refine ab_iconst (v := 1) de_M_part0_179 rfl ?_
                                    refine ab_aload_n de_M_part0_180 1 rfl ?_
                                    refine ab_cV (as := []) (st := [.int (1 : Int32)]) (ct_M_letter l _ nr h g rr (i := a + 5) (w := w) (r := c) hs hn60 hbase hend (by omega)) mo_M_letter mi_M_letter ml_M_141 rfl (by decide) rfl rfl rfl (Nat.le_of_ble_eq_true rfl) de_M_part0_181 (fun v_ M_ hK_ hl_ hv_ => ?_)
                                    obtain ⟨rfl, hm_⟩ := hK_
                                    have hm_ := hm_.symm
                                    subst hm_
                                    change ab_G _ _ _ _ _ _ _ [(1, .int (106 : Int32)), (0, .ref 30)] [.int (md_f g s (a + 5)), .int (1 : Int32)] (ab_S nr (md_ps h (a + 5) w c) g rr) _
                                    refine ab_top (v' := nI (48 + e_)) (hx_) ?_
                                    refine ab_bipush (v := 48) de_M_part0_184 rfl ?_
                                    refine ab_isub de_M_part0_186 ?_
                                    refine ab_top (v' := nI e_) ((ab_sub_k (b := 48) (by omega)).trans (congrArg nI (by omega))) ?_
                                    refine ab_iload_n de_M_part0_187 0 rfl ?_
                                    refine ab_bipush (v := 115) de_M_part0_188 rfl ?_
                                    refine ab_icmp_ne (tgt := 197) de_M_part0_190 rfl (fun c_190_18 => ?_) (fun c_190_18 => ?_)
                                    · refine ab_iconst (v := 3) de_M_part0_197 rfl ?_
                                      refine ab_iadd de_M_part0_198 ?_
                                      refine ab_top (v' := nI (e_ + 3)) (ab_add _ _) ?_
                                      refine ab_ishl de_M_part0_199 ?_
                                      refine ab_top (v' := nI (2 ^ (e_ + 3))) ((ab_shl 1 (by omega)).trans (congrArg nI (Nat.one_shiftLeft _))) ?_
                                      refine ab_istore_n (L' := [(2, .int (nI (2 ^ (e_ + 3)))), (1, .int (106 : Int32)), (0, .ref 30)]) de_M_part0_200 (by decide) rfl ?_
                                      refine ab_aload_n de_M_part0_201 2 rfl ?_
                                      refine ab_dup de_M_part0_202 rfl ?_
                                      refine ab_get (v := .int ((md_ps h (a + 5) w c) 30 20)) fl_M_125 rfl rfl de_M_part0_203 ?_
                                      refine ab_top (v' := nI (a + 5)) (rfl) ?_
                                      refine ab_iconst (v := 1) de_M_part0_206 rfl ?_
                                      refine ab_iadd de_M_part0_207 ?_
                                      refine ab_top (v' := nI (a + 6)) (ab_add _ _) ?_
                                      refine ab_putI (x := 30) (j := 20) fl_M_125 rfl (Or.inl rfl) rfl rfl rfl de_M_part0_208 ?_
                                      change ab_G _ _ _ _ _ _ _ _ _ (ab_S nr (ab_u2 (md_ps h (a + 5) w c) 30 20 (nI (a + 6))) g rr) _
                                      refine ab_hm (h' := md_ps h (a + 6) w c) (md_ps_20 _ _ _ _ _) ?_
                                      refine ab_aload_n de_M_part0_211 2 rfl ?_
                                      refine ab_iload_n de_M_part0_212 0 rfl ?_
                                      refine ab_iload_n de_M_part0_213 0 rfl ?_
                                      by_cases c_214_19 : c &&& (2 ^ (e_ + 3)) = 0
                                      · have wh_ := md_lst hg5 (V := 2 ^ (e_ + 3)) (b := 2 ^ (e_ + 3)) (by rw [hx_]; exact (md_gj e_ he_).1) ((md_p2 _ (by omega)).1) (md_gj e_ he_).2 ((md_p2 _ (by omega)).1) (by rw [sp_thl (b := 2 ^ (e_ + 3)) (md_p2 _ (by omega)).2.2]; exact decide_eq_false (fun z_ => z_ c_214_19))
                                        have or_lt_ : c ||| (2 ^ (e_ + 3)) < 4096 := Nat.or_lt_two_pow (n := 12) hc ((md_p2 _ (by omega)).2.1)
                                        refine ab_cV (as := [.int (nI (2 ^ (e_ + 3))), .int (nI (2 ^ (e_ + 3)))]) (st := []) (ct_M_adds_1 l _ nr h g rr (i := a + 6) (w := w) (r := c) (b := (2 ^ (e_ + 3))) (o := (2 ^ (e_ + 3))) c_214_19) mo_M_adds mi_M_adds ml_M_154 rfl (by decide) rfl rfl rfl (Nat.le_of_ble_eq_true rfl) de_M_part0_214 (fun v_ M_ hK_ hl_ hv_ => ?_)
                                        obtain ⟨rfl, hm_⟩ := hK_
                                        have hm_ := hm_.symm
                                        subst hm_
                                        change ab_G _ _ _ _ _ _ _ [(2, .int (nI (2 ^ (e_ + 3)))), (1, .int (106 : Int32)), (0, .ref 30)] [.int (1 : Int32)] (ab_S nr (md_ps h (a + 6) w (c ||| (2 ^ (e_ + 3)))) g rr) _
                                        exact ab_ret (v := some (.int (1 : Int32))) de_M_part0_217 ⟨_, rfl, rfl⟩ (Or.inl ⟨rfl, _, _, by omega, by omega, or_lt_, wh_, rfl⟩)
                                      · have fb_ := md_thb (n := n) lt5_ hg5 (V := 2 ^ (e_ + 3)) (b := 2 ^ (e_ + 3)) (by rw [hx_]; exact (md_gj e_ he_).1) (md_gj e_ he_).2 (by rw [sp_thl (b := 2 ^ (e_ + 3)) (md_p2 _ (by omega)).2.2]; exact decide_eq_true c_214_19)
                                        refine ab_cV (as := [.int (nI (2 ^ (e_ + 3))), .int (nI (2 ^ (e_ + 3)))]) (st := []) (ct_M_adds_0 l _ nr h g rr (i := a + 6) (w := w) (r := c) (b := (2 ^ (e_ + 3))) (o := (2 ^ (e_ + 3))) c_214_19 hc (by omega)) mo_M_adds mi_M_adds ml_M_154 rfl (by decide) rfl rfl rfl (Nat.le_of_ble_eq_true rfl) de_M_part0_214 (fun v_ M_ hK_ hl_ hv_ => ?_)
                                        obtain ⟨rfl, hm_⟩ := hK_
                                        have hm_ := hm_.symm
                                        subst hm_
                                        change ab_G _ _ _ _ _ _ _ [(2, .int (nI (2 ^ (e_ + 3)))), (1, .int (106 : Int32)), (0, .ref 30)] [.int (0 : Int32)] (ab_S nr (md_ps h (a + 6) (nI (a + 6 - 1)) c) g rr) _
                                        exact ab_ret (v := some (.int (0 : Int32))) de_M_part0_217 ⟨_, rfl, rfl⟩ (Or.inr ⟨rfl, _, _, fb_, rfl⟩)
                                    · exact absurd c_190_18 (by decide)
                                  · have fb_ := md_no (n := n) (i := a + 5) (by omega) hg5 (fun _ => md_gn0 (l := [48, 49, 50]) (by decide +kernel) (md_n4 (Or.inr c_167_17)))
                                    refine ab_aload_n de_M_part0_170 1 rfl ?_
                                    refine ab_aload_n de_M_part0_171 1 rfl ?_
                                    refine ab_get (v := .int ((md_ps h (a + 5) w c) 30 20)) fl_M_125 rfl rfl de_M_part0_172 ?_
                                    refine ab_top (v' := nI (a + 5)) (rfl) ?_
                                    refine ab_cV (as := [.int (nI (a + 5))]) (st := []) (ct_M_wrong l _ nr h g rr (i := a + 5) (w := w) (r := c) (nI (a + 5))) mo_M_wrong mi_M_wrong ml_M_145 rfl (by decide) rfl rfl rfl (Nat.le_of_ble_eq_true rfl) de_M_part0_175 (fun v_ M_ hK_ hl_ hv_ => ?_)
                                    obtain ⟨rfl, hm_⟩ := hK_
                                    have hm_ := hm_.symm
                                    subst hm_
                                    change ab_G _ _ _ _ _ _ _ [(1, .int (106 : Int32)), (0, .ref 30)] [.int (0 : Int32)] (ab_S nr (md_ps h (a + 5) (nI (a + 5)) c) g rr) _
                                    exact ab_ret (v := some (.int (0 : Int32))) de_M_part0_178 ⟨_, rfl, rfl⟩ (Or.inr ⟨rfl, _, _, fb_, rfl⟩)
                            · exact absurd c_136_14 (by decide)
                          · have fb_ := md_no (n := n) (i := a + 4) (by omega) hg4 (fun z_ => md_gn0 (l := [32]) (by decide +kernel) (md_1 (fun q_ => c_133_13 ⟨z_, q_⟩)))
                            refine ab_cV (as := [.int (32 : Int32)]) (st := []) (ct_M_takes_0 l _ nr h g rr (i := a + 4) (w := w) (r := c) (n := n) (s := s) (c := (32 : Int32)) hs hn60 hbase hend (by omega) c_133_13) mo_M_takes mi_M_takes ml_M_151 rfl (by decide) rfl rfl rfl (Nat.le_of_ble_eq_true rfl) de_M_part0_133 (fun v_ M_ hK_ hl_ hv_ => ?_)
                            obtain ⟨rfl, hm_⟩ := hK_
                            have hm_ := hm_.symm
                            subst hm_
                            change ab_G _ _ _ _ _ _ _ [(1, .int (106 : Int32)), (0, .ref 30)] [.int (0 : Int32)] (ab_S nr (md_ps h (a + 4) (nI (a + 4)) c) g rr) _
                            refine ab_if_ne (tgt := 141) de_M_part0_136 rfl (fun c_136_20 => ?_) (fun c_136_20 => ?_)
                            · exact absurd rfl c_136_20
                            · refine ab_iconst (v := 0) de_M_part0_139 rfl ?_
                              exact ab_ret (v := some (.int (0 : Int32))) de_M_part0_140 ⟨_, rfl, rfl⟩ (Or.inr ⟨rfl, _, _, fb_, rfl⟩)
                      · have fb_ := md_no (n := n) (i := a + 3) (by omega) hg3 (fun z_ => md_gn0 (l := [112]) (by decide +kernel) (md_1 (fun q_ => c_124_11 ⟨z_, q_⟩)))
                        refine ab_cV (as := [.int (112 : Int32)]) (st := []) (ct_M_takes_0 l _ nr h g rr (i := a + 3) (w := w) (r := c) (n := n) (s := s) (c := (112 : Int32)) hs hn60 hbase hend (by omega) c_124_11) mo_M_takes mi_M_takes ml_M_151 rfl (by decide) rfl rfl rfl (Nat.le_of_ble_eq_true rfl) de_M_part0_124 (fun v_ M_ hK_ hl_ hv_ => ?_)
                        obtain ⟨rfl, hm_⟩ := hK_
                        have hm_ := hm_.symm
                        subst hm_
                        change ab_G _ _ _ _ _ _ _ [(1, .int (106 : Int32)), (0, .ref 30)] [.int (0 : Int32)] (ab_S nr (md_ps h (a + 3) (nI (a + 3)) c) g rr) _
                        refine ab_if_eq (tgt := 139) de_M_part0_127 rfl (fun c_127_21 => ?_) (fun c_127_21 => ?_)
                        · refine ab_iconst (v := 0) de_M_part0_139 rfl ?_
                          exact ab_ret (v := some (.int (0 : Int32))) de_M_part0_140 ⟨_, rfl, rfl⟩ (Or.inr ⟨rfl, _, _, fb_, rfl⟩)
                        · exact absurd rfl c_127_21
                  · have fb_ := md_no (n := n) (i := a + 2) (by omega) hg2 (fun z_ => md_gn0 (l := [109]) (by decide +kernel) (md_1 (fun q_ => c_115_9 ⟨z_, q_⟩)))
                    refine ab_cV (as := [.int (109 : Int32)]) (st := []) (ct_M_takes_0 l _ nr h g rr (i := a + 2) (w := w) (r := c) (n := n) (s := s) (c := (109 : Int32)) hs hn60 hbase hend (by omega) c_115_9) mo_M_takes mi_M_takes ml_M_151 rfl (by decide) rfl rfl rfl (Nat.le_of_ble_eq_true rfl) de_M_part0_115 (fun v_ M_ hK_ hl_ hv_ => ?_)
                    obtain ⟨rfl, hm_⟩ := hK_
                    have hm_ := hm_.symm
                    subst hm_
                    change ab_G _ _ _ _ _ _ _ [(1, .int (106 : Int32)), (0, .ref 30)] [.int (0 : Int32)] (ab_S nr (md_ps h (a + 2) (nI (a + 2)) c) g rr) _
                    refine ab_if_eq (tgt := 139) de_M_part0_118 rfl (fun c_118_22 => ?_) (fun c_118_22 => ?_)
                    · refine ab_iconst (v := 0) de_M_part0_139 rfl ?_
                      exact ab_ret (v := some (.int (0 : Int32))) de_M_part0_140 ⟨_, rfl, rfl⟩ (Or.inr ⟨rfl, _, _, fb_, rfl⟩)
                    · exact absurd rfl c_118_22
              · have fb_ := md_no (n := n) (i := a + 1) (by omega) hg1 (fun z_ => md_gn0 (l := [117]) (by decide +kernel) (md_1 (fun q_ => c_106_7 ⟨z_, q_⟩)))
                refine ab_cV (as := [.int (117 : Int32)]) (st := []) (ct_M_takes_0 l _ nr h g rr (i := a + 1) (w := w) (r := c) (n := n) (s := s) (c := (117 : Int32)) hs hn60 hbase hend (by omega) c_106_7) mo_M_takes mi_M_takes ml_M_151 rfl (by decide) rfl rfl rfl (Nat.le_of_ble_eq_true rfl) de_M_part0_106 (fun v_ M_ hK_ hl_ hv_ => ?_)
                obtain ⟨rfl, hm_⟩ := hK_
                have hm_ := hm_.symm
                subst hm_
                change ab_G _ _ _ _ _ _ _ [(1, .int (106 : Int32)), (0, .ref 30)] [.int (0 : Int32)] (ab_S nr (md_ps h (a + 1) (nI (a + 1)) c) g rr) _
                refine ab_if_eq (tgt := 139) de_M_part0_109 rfl (fun c_109_23 => ?_) (fun c_109_23 => ?_)
                · refine ab_iconst (v := 0) de_M_part0_139 rfl ?_
                  exact ab_ret (v := some (.int (0 : Int32))) de_M_part0_140 ⟨_, rfl, rfl⟩ (Or.inr ⟨rfl, _, _, fb_, rfl⟩)
                · exact absurd rfl c_109_23
          · exact absurd c_56_5 (by decide)
set_option maxHeartbeats 1000000 in
set_option maxRecDepth 10000 in
theorem ct_M_part_e (l : Launch) (d : Nat) (nr : Nat) (h : Nat → Nat → Int32) (g : Nat → Nat → Int64) (rr : Nat → Option Nat) {a n s c : Nat} {w : Int32} (hs : s < 8) (hn60 : n ≤ 60) (hbase : h 30 19 = nI (60 * s)) (hend : h 30 21 = nI n) (hc : c < 4096) (hg0 : md_go (md_f g s) a c 8191 0) (ha : a < n) (hx0 : md_f g s a = 101) : ab_C l am_M_part0 (d + 4) 0 0 [.ref 30] (ab_S nr (md_ps h a w c) g rr) (fun (r_ : Option Value) (M' : ab_Me) => (r_ = some (.int (1 : Int32)) ∧ ∃ b c', a < b ∧ b ≤ n ∧ c' < 4096 ∧ md_wh (md_f g s) b c' ∧ M' = (ab_S nr (md_ps h b w c') g rr)) ∨ (r_ = some (.int (0 : Int32)) ∧ ∃ i j, md_fb (md_f g s) n j ∧ M' = (ab_S nr (md_ps h i (nI j) c) g rr))) := by
  have hg1 : md_go (md_f g s) (a + 1) c 7680 1 := md_stp hg0 (V := 7680) (by rw [hx0]; decide +kernel) (by decide) (by decide +kernel)
  refine ab_C_of (by decide +kernel) rfl (Nat.le_of_ble_eq_true rfl) ?_
  refine ab_aload_n de_M_part0_0 0 rfl ?_
  refine ab_get (v := .int ((md_ps h a w c) 30 20)) fl_M_125 rfl rfl de_M_part0_1 ?_
  refine ab_top (v' := nI a) (rfl) ?_
  refine ab_aload_n de_M_part0_4 0 rfl ?_
  refine ab_get (v := .int ((md_ps h a w c) 30 21)) fl_M_128 rfl rfl de_M_part0_5 ?_
  refine ab_top (v' := nI n) (hend) ?_
  refine ab_icmp_ge (tgt := 18) de_M_part0_8 rfl (fun c_8_1 => ?_) (fun c_8_1 => ?_)
  · exact absurd ((ab_le (by omega) (by omega)).mp c_8_1) (by omega)
  · refine ab_aload_n de_M_part0_11 0 rfl ?_
    refine ab_cV (as := []) (st := []) (ct_M_letter l _ nr h g rr (i := a) (w := w) (r := c) hs hn60 hbase hend (by omega)) mo_M_letter mi_M_letter ml_M_141 rfl (by decide) rfl rfl rfl (Nat.le_of_ble_eq_true rfl) de_M_part0_12 (fun v_ M_ hK_ hl_ hv_ => ?_)
    obtain ⟨rfl, hm_⟩ := hK_
    have hm_ := hm_.symm
    subst hm_
    change ab_G _ _ _ _ _ _ _ [(0, .ref 30)] [.int (md_f g s a)] (ab_S nr (md_ps h a w c) g rr) _
    refine ab_top (v' := (101 : Int32)) (hx0) ?_
    refine ab_goto (tgt := 19) de_M_part0_15 rfl ?_
    refine ab_istore_n (L' := [(1, .int (101 : Int32)), (0, .ref 30)]) de_M_part0_19 (by decide) rfl ?_
    refine ab_aload_n de_M_part0_20 1 rfl ?_
    refine ab_get (v := .int ((md_ps h a w c) 30 20)) fl_M_125 rfl rfl de_M_part0_21 ?_
    refine ab_top (v' := nI a) (rfl) ?_
    refine ab_aload_n de_M_part0_24 1 rfl ?_
    refine ab_get (v := .int ((md_ps h a w c) 30 21)) fl_M_128 rfl rfl de_M_part0_25 ?_
    refine ab_top (v' := nI n) (hend) ?_
    refine ab_icmp_ge (tgt := 218) de_M_part0_28 rfl (fun c_28_2 => ?_) (fun c_28_2 => ?_)
    · exact absurd ((ab_le (by omega) (by omega)).mp c_28_2) (by omega)
    · refine ab_iload_n de_M_part0_31 0 rfl ?_
      refine ab_bipush (v := 115) de_M_part0_32 rfl ?_
      refine ab_icmp_eq (tgt := 43) de_M_part0_34 rfl (fun c_34_3 => ?_) (fun c_34_3 => ?_)
      · exact absurd c_34_3 (by decide)
      · refine ab_iload_n de_M_part0_37 0 rfl ?_
        refine ab_bipush (v := 106) de_M_part0_38 rfl ?_
        refine ab_icmp_ne (tgt := 218) de_M_part0_40 rfl (fun c_40_4 => ?_) (fun c_40_4 => ?_)
        · refine ab_aload_n de_M_part0_218 1 rfl ?_
          refine ab_get (v := .int ((md_ps h a w c) 30 20)) fl_M_125 rfl rfl de_M_part0_219 ?_
          refine ab_top (v' := nI a) (rfl) ?_
          refine ab_aload_n de_M_part0_222 1 rfl ?_
          refine ab_get (v := .int ((md_ps h a w c) 30 21)) fl_M_128 rfl rfl de_M_part0_223 ?_
          refine ab_top (v' := nI n) (hend) ?_
          refine ab_icmp_ge (tgt := 280) de_M_part0_226 rfl (fun c_226_5 => ?_) (fun c_226_5 => ?_)
          · exact absurd ((ab_le (by omega) (by omega)).mp c_226_5) (by omega)
          · refine ab_iload_n de_M_part0_229 0 rfl ?_
            refine ab_bipush (v := 112) de_M_part0_230 rfl ?_
            refine ab_icmp_ne (tgt := 280) de_M_part0_232 rfl (fun c_232_6 => ?_) (fun c_232_6 => ?_)
            · refine ab_aload_n de_M_part0_280 1 rfl ?_
              refine ab_get (v := .int ((md_ps h a w c) 30 20)) fl_M_125 rfl rfl de_M_part0_281 ?_
              refine ab_top (v' := nI a) (rfl) ?_
              refine ab_aload_n de_M_part0_284 1 rfl ?_
              refine ab_get (v := .int ((md_ps h a w c) 30 21)) fl_M_128 rfl rfl de_M_part0_285 ?_
              refine ab_top (v' := nI n) (hend) ?_
              refine ab_icmp_ge (tgt := 353) de_M_part0_288 rfl (fun c_288_7 => ?_) (fun c_288_7 => ?_)
              · exact absurd ((ab_le (by omega) (by omega)).mp c_288_7) (by omega)
              · refine ab_iload_n de_M_part0_291 0 rfl ?_
                refine ab_bipush (v := 116) de_M_part0_292 rfl ?_
                refine ab_icmp_ne (tgt := 353) de_M_part0_294 rfl (fun c_294_8 => ?_) (fun c_294_8 => ?_)
                · refine ab_aload_n de_M_part0_353 1 rfl ?_
                  refine ab_get (v := .int ((md_ps h a w c) 30 20)) fl_M_125 rfl rfl de_M_part0_354 ?_
                  refine ab_top (v' := nI a) (rfl) ?_
                  refine ab_aload_n de_M_part0_357 1 rfl ?_
                  refine ab_get (v := .int ((md_ps h a w c) 30 21)) fl_M_128 rfl rfl de_M_part0_358 ?_
                  refine ab_top (v' := nI n) (hend) ?_
                  refine ab_icmp_ge (tgt := 426) de_M_part0_361 rfl (fun c_361_9 => ?_) (fun c_361_9 => ?_)
                  · exact absurd ((ab_le (by omega) (by omega)).mp c_361_9) (by omega)
                  · refine ab_iload_n de_M_part0_364 0 rfl ?_
                    refine ab_bipush (v := 109) de_M_part0_365 rfl ?_
                    refine ab_icmp_ne (tgt := 426) de_M_part0_367 rfl (fun c_367_10 => ?_) (fun c_367_10 => ?_)
                    · refine ab_aload_n de_M_part0_426 1 rfl ?_
                      refine ab_get (v := .int ((md_ps h a w c) 30 20)) fl_M_125 rfl rfl de_M_part0_427 ?_
                      refine ab_top (v' := nI a) (rfl) ?_
                      refine ab_aload_n de_M_part0_430 1 rfl ?_
                      refine ab_get (v := .int ((md_ps h a w c) 30 21)) fl_M_128 rfl rfl de_M_part0_431 ?_
                      refine ab_top (v' := nI n) (hend) ?_
                      refine ab_icmp_ge (tgt := 626) de_M_part0_434 rfl (fun c_434_11 => ?_) (fun c_434_11 => ?_)
                      · exact absurd ((ab_le (by omega) (by omega)).mp c_434_11) (by omega)
                      · refine ab_iload_n de_M_part0_437 0 rfl ?_
                        refine ab_bipush (v := 101) de_M_part0_438 rfl ?_
                        refine ab_icmp_ne (tgt := 626) de_M_part0_440 rfl (fun c_440_12 => ?_) (fun c_440_12 => ?_)
                        · exact absurd rfl c_440_12
                        · refine ab_aload_n de_M_part0_443 1 rfl ?_
                          refine ab_dup de_M_part0_444 rfl ?_
                          refine ab_get (v := .int ((md_ps h a w c) 30 20)) fl_M_125 rfl rfl de_M_part0_445 ?_
                          refine ab_top (v' := nI a) (rfl) ?_
                          refine ab_iconst (v := 1) de_M_part0_448 rfl ?_
                          refine ab_iadd de_M_part0_449 ?_
                          refine ab_top (v' := nI (a + 1)) (ab_add _ _) ?_
                          refine ab_putI (x := 30) (j := 20) fl_M_125 rfl (Or.inl rfl) rfl rfl rfl de_M_part0_450 ?_
                          change ab_G _ _ _ _ _ _ _ _ _ (ab_S nr (ab_u2 (md_ps h a w c) 30 20 (nI (a + 1))) g rr) _
                          refine ab_hm (h' := md_ps h (a + 1) w c) (md_ps_20 _ _ _ _ _) ?_
                          refine ab_aload_n de_M_part0_453 1 rfl ?_
                          refine ab_bipush (v := 110) de_M_part0_454 rfl ?_
                          by_cases c_456_13 : a + 1 < n ∧ md_f g s (a + 1) = 110
                          · have lt1_ := c_456_13.1
                            have hg2 := md_stp hg1 (V := 7680) (by rw [c_456_13.2]; decide +kernel) (by decide) (by decide +kernel)
                            refine ab_cV (as := [.int (110 : Int32)]) (st := []) (ct_M_takes_1 l _ nr h g rr (i := a + 1) (w := w) (r := c) (n := n) (s := s) (c := (110 : Int32)) hs hn60 hbase hend c_456_13.1 c_456_13.2) mo_M_takes mi_M_takes ml_M_151 rfl (by decide) rfl rfl rfl (Nat.le_of_ble_eq_true rfl) de_M_part0_456 (fun v_ M_ hK_ hl_ hv_ => ?_)
                            obtain ⟨rfl, hm_⟩ := hK_
                            have hm_ := hm_.symm
                            subst hm_
                            change ab_G _ _ _ _ _ _ _ [(1, .int (101 : Int32)), (0, .ref 30)] [.int (1 : Int32)] (ab_S nr (md_ps h (a + 2) w c) g rr) _
                            refine ab_if_eq (tgt := 480) de_M_part0_459 rfl (fun c_459_14 => ?_) (fun c_459_14 => ?_)
                            · exact absurd c_459_14 (by decide)
                            · refine ab_aload_n de_M_part0_462 1 rfl ?_
                              refine ab_bipush (v := 100) de_M_part0_463 rfl ?_
                              by_cases c_465_15 : a + 2 < n ∧ md_f g s (a + 2) = 100
                              · have lt2_ := c_465_15.1
                                have hg3 := md_stp hg2 (V := 7680) (by rw [c_465_15.2]; decide +kernel) (by decide) (by decide +kernel)
                                refine ab_cV (as := [.int (100 : Int32)]) (st := []) (ct_M_takes_1 l _ nr h g rr (i := a + 2) (w := w) (r := c) (n := n) (s := s) (c := (100 : Int32)) hs hn60 hbase hend c_465_15.1 c_465_15.2) mo_M_takes mi_M_takes ml_M_151 rfl (by decide) rfl rfl rfl (Nat.le_of_ble_eq_true rfl) de_M_part0_465 (fun v_ M_ hK_ hl_ hv_ => ?_)
                                obtain ⟨rfl, hm_⟩ := hK_
                                have hm_ := hm_.symm
                                subst hm_
                                change ab_G _ _ _ _ _ _ _ [(1, .int (101 : Int32)), (0, .ref 30)] [.int (1 : Int32)] (ab_S nr (md_ps h (a + 3) w c) g rr) _
                                refine ab_if_eq (tgt := 480) de_M_part0_468 rfl (fun c_468_16 => ?_) (fun c_468_16 => ?_)
                                · exact absurd c_468_16 (by decide)
                                · refine ab_aload_n de_M_part0_471 1 rfl ?_
                                  refine ab_bipush (v := 32) de_M_part0_472 rfl ?_
                                  by_cases c_474_17 : a + 3 < n ∧ md_f g s (a + 3) = 32
                                  · have lt3_ := c_474_17.1
                                    have hg4 := md_stp hg3 (V := 7680) (by rw [c_474_17.2]; decide +kernel) (by decide) (by decide +kernel)
                                    refine ab_cV (as := [.int (32 : Int32)]) (st := []) (ct_M_takes_1 l _ nr h g rr (i := a + 3) (w := w) (r := c) (n := n) (s := s) (c := (32 : Int32)) hs hn60 hbase hend c_474_17.1 c_474_17.2) mo_M_takes mi_M_takes ml_M_151 rfl (by decide) rfl rfl rfl (Nat.le_of_ble_eq_true rfl) de_M_part0_474 (fun v_ M_ hK_ hl_ hv_ => ?_)
                                    obtain ⟨rfl, hm_⟩ := hK_
                                    have hm_ := hm_.symm
                                    subst hm_
                                    change ab_G _ _ _ _ _ _ _ [(1, .int (101 : Int32)), (0, .ref 30)] [.int (1 : Int32)] (ab_S nr (md_ps h (a + 4) w c) g rr) _
                                    refine ab_if_ne (tgt := 482) de_M_part0_477 rfl (fun c_477_18 => ?_) (fun c_477_18 => ?_)
                                    · refine ab_aload_n de_M_part0_482 1 rfl ?_
                                      refine ab_get (v := .int ((md_ps h (a + 4) w c) 30 20)) fl_M_125 rfl rfl de_M_part0_483 ?_
                                      refine ab_top (v' := nI (a + 4)) (rfl) ?_
                                      refine ab_aload_n de_M_part0_486 1 rfl ?_
                                      refine ab_get (v := .int ((md_ps h (a + 4) w c) 30 21)) fl_M_128 rfl rfl de_M_part0_487 ?_
                                      refine ab_top (v' := nI n) (hend) ?_
                                      refine ab_icmp_ge (tgt := 558) de_M_part0_490 rfl (fun c_490_19 => ?_) (fun c_490_19 => ?_)
                                      · have ge4_ := (ab_le (by omega) (by omega)).mp c_490_19
                                        refine ab_aload_n de_M_part0_558 1 rfl ?_
                                        refine ab_get (v := .int ((md_ps h (a + 4) w c) 30 20)) fl_M_125 rfl rfl de_M_part0_559 ?_
                                        refine ab_top (v' := nI (a + 4)) (rfl) ?_
                                        refine ab_aload_n de_M_part0_562 1 rfl ?_
                                        refine ab_get (v := .int ((md_ps h (a + 4) w c) 30 21)) fl_M_128 rfl rfl de_M_part0_563 ?_
                                        refine ab_top (v' := nI n) (hend) ?_
                                        refine ab_icmp_ge (tgt := 587) de_M_part0_566 rfl (fun c_566_20 => ?_) (fun c_566_20 => ?_)
                                        · have fb_ := md_no (n := n) (i := a + 4) (by omega) hg4 (fun z_ => absurd z_ (by omega))
                                          refine ab_aload_n de_M_part0_587 1 rfl ?_
                                          refine ab_aload_n de_M_part0_588 1 rfl ?_
                                          refine ab_get (v := .int ((md_ps h (a + 4) w c) 30 20)) fl_M_125 rfl rfl de_M_part0_589 ?_
                                          refine ab_top (v' := nI (a + 4)) (rfl) ?_
                                          refine ab_cV (as := [.int (nI (a + 4))]) (st := []) (ct_M_wrong l _ nr h g rr (i := a + 4) (w := w) (r := c) (nI (a + 4))) mo_M_wrong mi_M_wrong ml_M_145 rfl (by decide) rfl rfl rfl (Nat.le_of_ble_eq_true rfl) de_M_part0_592 (fun v_ M_ hK_ hl_ hv_ => ?_)
                                          obtain ⟨rfl, hm_⟩ := hK_
                                          have hm_ := hm_.symm
                                          subst hm_
                                          change ab_G _ _ _ _ _ _ _ [(1, .int (101 : Int32)), (0, .ref 30)] [.int (0 : Int32)] (ab_S nr (md_ps h (a + 4) (nI (a + 4)) c) g rr) _
                                          exact ab_ret (v := some (.int (0 : Int32))) de_M_part0_595 ⟨_, rfl, rfl⟩ (Or.inr ⟨rfl, _, _, fb_, rfl⟩)
                                        · exact absurd ((ab_le (by omega) (by omega)).mpr ge4_) c_566_20
                                      · have lt4_ : a + 4 < n := Nat.lt_of_not_le (fun z_ => c_490_19 ((ab_le (by omega) (by omega)).mpr z_))
                                        refine ab_aload_n de_M_part0_493 1 rfl ?_
                                        refine ab_cV (as := []) (st := []) (ct_M_letter l _ nr h g rr (i := a + 4) (w := w) (r := c) hs hn60 hbase hend (by omega)) mo_M_letter mi_M_letter ml_M_141 rfl (by decide) rfl rfl rfl (Nat.le_of_ble_eq_true rfl) de_M_part0_494 (fun v_ M_ hK_ hl_ hv_ => ?_)
                                        obtain ⟨rfl, hm_⟩ := hK_
                                        have hm_ := hm_.symm
                                        subst hm_
                                        change ab_G _ _ _ _ _ _ _ [(1, .int (101 : Int32)), (0, .ref 30)] [.int (md_f g s (a + 4))] (ab_S nr (md_ps h (a + 4) w c) g rr) _
                                        refine ab_bipush (v := 110) de_M_part0_497 rfl ?_
                                        refine ab_icmp_ne (tgt := 558) de_M_part0_499 rfl (fun c_499_21 => ?_) (fun c_499_21 => ?_)
                                        · have n110_ := c_499_21
                                          refine ab_aload_n de_M_part0_558 1 rfl ?_
                                          refine ab_get (v := .int ((md_ps h (a + 4) w c) 30 20)) fl_M_125 rfl rfl de_M_part0_559 ?_
                                          refine ab_top (v' := nI (a + 4)) (rfl) ?_
                                          refine ab_aload_n de_M_part0_562 1 rfl ?_
                                          refine ab_get (v := .int ((md_ps h (a + 4) w c) 30 21)) fl_M_128 rfl rfl de_M_part0_563 ?_
                                          refine ab_top (v' := nI n) (hend) ?_
                                          refine ab_icmp_ge (tgt := 587) de_M_part0_566 rfl (fun c_566_22 => ?_) (fun c_566_22 => ?_)
                                          · exact absurd ((ab_le (by omega) (by omega)).mp c_566_22) (by omega)
                                          · refine ab_aload_n de_M_part0_569 1 rfl ?_
                                            refine ab_cV (as := []) (st := []) (ct_M_letter l _ nr h g rr (i := a + 4) (w := w) (r := c) hs hn60 hbase hend (by omega)) mo_M_letter mi_M_letter ml_M_141 rfl (by decide) rfl rfl rfl (Nat.le_of_ble_eq_true rfl) de_M_part0_570 (fun v_ M_ hK_ hl_ hv_ => ?_)
                                            obtain ⟨rfl, hm_⟩ := hK_
                                            have hm_ := hm_.symm
                                            subst hm_
                                            change ab_G _ _ _ _ _ _ _ [(1, .int (101 : Int32)), (0, .ref 30)] [.int (md_f g s (a + 4))] (ab_S nr (md_ps h (a + 4) w c) g rr) _
                                            refine ab_bipush (v := 49) de_M_part0_573 rfl ?_
                                            refine ab_icmp_lt (tgt := 587) de_M_part0_575 rfl (fun c_575_23 => ?_) (fun c_575_23 => ?_)
                                            · have fb_ := md_no (n := n) (i := a + 4) (by omega) hg4 (fun _ => md_gn0 (l := [110, 49, 50, 51]) (by decide +kernel) (md_n5 n110_ (Or.inl c_575_23)))
                                              refine ab_aload_n de_M_part0_587 1 rfl ?_
                                              refine ab_aload_n de_M_part0_588 1 rfl ?_
                                              refine ab_get (v := .int ((md_ps h (a + 4) w c) 30 20)) fl_M_125 rfl rfl de_M_part0_589 ?_
                                              refine ab_top (v' := nI (a + 4)) (rfl) ?_
                                              refine ab_cV (as := [.int (nI (a + 4))]) (st := []) (ct_M_wrong l _ nr h g rr (i := a + 4) (w := w) (r := c) (nI (a + 4))) mo_M_wrong mi_M_wrong ml_M_145 rfl (by decide) rfl rfl rfl (Nat.le_of_ble_eq_true rfl) de_M_part0_592 (fun v_ M_ hK_ hl_ hv_ => ?_)
                                              obtain ⟨rfl, hm_⟩ := hK_
                                              have hm_ := hm_.symm
                                              subst hm_
                                              change ab_G _ _ _ _ _ _ _ [(1, .int (101 : Int32)), (0, .ref 30)] [.int (0 : Int32)] (ab_S nr (md_ps h (a + 4) (nI (a + 4)) c) g rr) _
                                              exact ab_ret (v := some (.int (0 : Int32))) de_M_part0_595 ⟨_, rfl, rfl⟩ (Or.inr ⟨rfl, _, _, fb_, rfl⟩)
                                            · have c575_ := c_575_23
                                              refine ab_aload_n de_M_part0_578 1 rfl ?_
                                              refine ab_cV (as := []) (st := []) (ct_M_letter l _ nr h g rr (i := a + 4) (w := w) (r := c) hs hn60 hbase hend (by omega)) mo_M_letter mi_M_letter ml_M_141 rfl (by decide) rfl rfl rfl (Nat.le_of_ble_eq_true rfl) de_M_part0_579 (fun v_ M_ hK_ hl_ hv_ => ?_)
                                              obtain ⟨rfl, hm_⟩ := hK_
                                              have hm_ := hm_.symm
                                              subst hm_
                                              change ab_G _ _ _ _ _ _ _ [(1, .int (101 : Int32)), (0, .ref 30)] [.int (md_f g s (a + 4))] (ab_S nr (md_ps h (a + 4) w c) g rr) _
                                              refine ab_bipush (v := 51) de_M_part0_582 rfl ?_
                                              refine ab_icmp_le (tgt := 596) de_M_part0_584 rfl (fun c_584_24 => ?_) (fun c_584_24 => ?_)
                                              · obtain ⟨e_, he_, hx_⟩ := md_dg1 c575_ c_584_24
                                                refine ab_aload_n de_M_part0_596 1 rfl ?_
                                                refine ab_cV (as := []) (st := []) (ct_M_letter l _ nr h g rr (i := a + 4) (w := w) (r := c) hs hn60 hbase hend (by omega)) mo_M_letter mi_M_letter ml_M_141 rfl (by decide) rfl rfl rfl (Nat.le_of_ble_eq_true rfl) de_M_part0_597 (fun v_ M_ hK_ hl_ hv_ => ?_)
                                                obtain ⟨rfl, hm_⟩ := hK_
                                                have hm_ := hm_.symm
                                                subst hm_
                                                change ab_G _ _ _ _ _ _ _ [(1, .int (101 : Int32)), (0, .ref 30)] [.int (md_f g s (a + 4))] (ab_S nr (md_ps h (a + 4) w c) g rr) _
                                                refine ab_top (v' := nI (48 + e_)) (hx_) ?_
                                                refine ab_bipush (v := 48) de_M_part0_600 rfl ?_
                                                refine ab_isub de_M_part0_602 ?_
                                                refine ab_top (v' := nI e_) ((ab_sub_k (b := 48) (by omega)).trans (congrArg nI (by omega))) ?_
                                                refine ab_istore_n (L' := [(2, .int (nI e_)), (1, .int (101 : Int32)), (0, .ref 30)]) de_M_part0_603 (by decide) rfl ?_
                                                refine ab_aload_n de_M_part0_604 2 rfl ?_
                                                refine ab_dup de_M_part0_605 rfl ?_
                                                refine ab_get (v := .int ((md_ps h (a + 4) w c) 30 20)) fl_M_125 rfl rfl de_M_part0_606 ?_
                                                refine ab_top (v' := nI (a + 4)) (rfl) ?_
                                                refine ab_iconst (v := 1) de_M_part0_609 rfl ?_
                                                refine ab_iadd de_M_part0_610 ?_
                                                refine ab_top (v' := nI (a + 5)) (ab_add _ _) ?_
                                                refine ab_putI (x := 30) (j := 20) fl_M_125 rfl (Or.inl rfl) rfl rfl rfl de_M_part0_611 ?_
                                                change ab_G _ _ _ _ _ _ _ _ _ (ab_S nr (ab_u2 (md_ps h (a + 4) w c) 30 20 (nI (a + 5))) g rr) _
                                                refine ab_hm (h' := md_ps h (a + 5) w c) (md_ps_20 _ _ _ _ _) ?_
                                                refine ab_aload_n de_M_part0_614 2 rfl ?_
                                                refine ab_iload_n de_M_part0_615 0 rfl ?_
                                                refine ab_bipush (v := 10) de_M_part0_616 rfl ?_
                                                refine ab_ishl de_M_part0_618 ?_
                                                refine ab_top (v' := nI (1024 * e_)) ((ab_shl _ (k := 10) (by decide)).trans (congrArg nI (by rw [Nat.shiftLeft_eq]; omega))) ?_
                                                refine ab_sipush (v := 3072) de_M_part0_619 rfl ?_
                                                by_cases c_622_25 : c &&& 3072 = 0
                                                · have wh_ := md_lst hg4 (V := 2 ^ (9 + e_)) (b := 1024 * e_) (by rw [hx_]; exact (md_ge e_ (by omega) he_.1).1) ((Nat.pos_iff_ne_zero.mp (Nat.two_pow_pos _))) (md_ge e_ (by omega) he_.1).2 (by omega) (by rw [sp_thh hc he_.1 he_.2]; exact decide_eq_false (fun z_ => z_ c_622_25))
                                                  have or_lt_ : c ||| (1024 * e_) < 4096 := Nat.or_lt_two_pow (n := 12) hc (by omega)
                                                  refine ab_cV (as := [.int (nI (1024 * e_)), .int (3072 : Int32)]) (st := []) (ct_M_adds_1 l _ nr h g rr (i := a + 5) (w := w) (r := c) (b := (1024 * e_)) (o := 3072) c_622_25) mo_M_adds mi_M_adds ml_M_154 rfl (by decide) rfl rfl rfl (Nat.le_of_ble_eq_true rfl) de_M_part0_622 (fun v_ M_ hK_ hl_ hv_ => ?_)
                                                  obtain ⟨rfl, hm_⟩ := hK_
                                                  have hm_ := hm_.symm
                                                  subst hm_
                                                  change ab_G _ _ _ _ _ _ _ [(2, .int (nI e_)), (1, .int (101 : Int32)), (0, .ref 30)] [.int (1 : Int32)] (ab_S nr (md_ps h (a + 5) w (c ||| (1024 * e_))) g rr) _
                                                  exact ab_ret (v := some (.int (1 : Int32))) de_M_part0_625 ⟨_, rfl, rfl⟩ (Or.inl ⟨rfl, _, _, by omega, by omega, or_lt_, wh_, rfl⟩)
                                                · have fb_ := md_thb (n := n) lt4_ hg4 (V := 2 ^ (9 + e_)) (b := 1024 * e_) (by rw [hx_]; exact (md_ge e_ (by omega) he_.1).1) (md_ge e_ (by omega) he_.1).2 (by rw [sp_thh hc he_.1 he_.2]; exact decide_eq_true c_622_25)
                                                  refine ab_cV (as := [.int (nI (1024 * e_)), .int (3072 : Int32)]) (st := []) (ct_M_adds_0 l _ nr h g rr (i := a + 5) (w := w) (r := c) (b := (1024 * e_)) (o := 3072) c_622_25 hc (by omega)) mo_M_adds mi_M_adds ml_M_154 rfl (by decide) rfl rfl rfl (Nat.le_of_ble_eq_true rfl) de_M_part0_622 (fun v_ M_ hK_ hl_ hv_ => ?_)
                                                  obtain ⟨rfl, hm_⟩ := hK_
                                                  have hm_ := hm_.symm
                                                  subst hm_
                                                  change ab_G _ _ _ _ _ _ _ [(2, .int (nI e_)), (1, .int (101 : Int32)), (0, .ref 30)] [.int (0 : Int32)] (ab_S nr (md_ps h (a + 5) (nI (a + 5 - 1)) c) g rr) _
                                                  exact ab_ret (v := some (.int (0 : Int32))) de_M_part0_625 ⟨_, rfl, rfl⟩ (Or.inr ⟨rfl, _, _, fb_, rfl⟩)
                                              · have fb_ := md_no (n := n) (i := a + 4) (by omega) hg4 (fun _ => md_gn0 (l := [110, 49, 50, 51]) (by decide +kernel) (md_n5 n110_ (Or.inr c_584_24)))
                                                refine ab_aload_n de_M_part0_587 1 rfl ?_
                                                refine ab_aload_n de_M_part0_588 1 rfl ?_
                                                refine ab_get (v := .int ((md_ps h (a + 4) w c) 30 20)) fl_M_125 rfl rfl de_M_part0_589 ?_
                                                refine ab_top (v' := nI (a + 4)) (rfl) ?_
                                                refine ab_cV (as := [.int (nI (a + 4))]) (st := []) (ct_M_wrong l _ nr h g rr (i := a + 4) (w := w) (r := c) (nI (a + 4))) mo_M_wrong mi_M_wrong ml_M_145 rfl (by decide) rfl rfl rfl (Nat.le_of_ble_eq_true rfl) de_M_part0_592 (fun v_ M_ hK_ hl_ hv_ => ?_)
                                                obtain ⟨rfl, hm_⟩ := hK_
                                                have hm_ := hm_.symm
                                                subst hm_
                                                change ab_G _ _ _ _ _ _ _ [(1, .int (101 : Int32)), (0, .ref 30)] [.int (0 : Int32)] (ab_S nr (md_ps h (a + 4) (nI (a + 4)) c) g rr) _
                                                exact ab_ret (v := some (.int (0 : Int32))) de_M_part0_595 ⟨_, rfl, rfl⟩ (Or.inr ⟨rfl, _, _, fb_, rfl⟩)
                                        · have hg5 := md_stp hg4 (V := 512) (by rw [c_499_21]; decide +kernel) (by decide) (by decide +kernel)
                                          refine ab_aload_n de_M_part0_502 1 rfl ?_
                                          refine ab_dup de_M_part0_503 rfl ?_
                                          refine ab_get (v := .int ((md_ps h (a + 4) w c) 30 20)) fl_M_125 rfl rfl de_M_part0_504 ?_
                                          refine ab_top (v' := nI (a + 4)) (rfl) ?_
                                          refine ab_iconst (v := 1) de_M_part0_507 rfl ?_
                                          refine ab_iadd de_M_part0_508 ?_
                                          refine ab_top (v' := nI (a + 5)) (ab_add _ _) ?_
                                          refine ab_putI (x := 30) (j := 20) fl_M_125 rfl (Or.inl rfl) rfl rfl rfl de_M_part0_509 ?_
                                          change ab_G _ _ _ _ _ _ _ _ _ (ab_S nr (ab_u2 (md_ps h (a + 4) w c) 30 20 (nI (a + 5))) g rr) _
                                          refine ab_hm (h' := md_ps h (a + 5) w c) (md_ps_20 _ _ _ _ _) ?_
                                          refine ab_aload_n de_M_part0_512 1 rfl ?_
                                          refine ab_bipush (v := 111) de_M_part0_513 rfl ?_
                                          by_cases c_515_26 : a + 5 < n ∧ md_f g s (a + 5) = 111
                                          · have lt5_ := c_515_26.1
                                            have hg6 := md_stp hg5 (V := 512) (by rw [c_515_26.2]; decide +kernel) (by decide) (by decide +kernel)
                                            refine ab_cV (as := [.int (111 : Int32)]) (st := []) (ct_M_takes_1 l _ nr h g rr (i := a + 5) (w := w) (r := c) (n := n) (s := s) (c := (111 : Int32)) hs hn60 hbase hend c_515_26.1 c_515_26.2) mo_M_takes mi_M_takes ml_M_151 rfl (by decide) rfl rfl rfl (Nat.le_of_ble_eq_true rfl) de_M_part0_515 (fun v_ M_ hK_ hl_ hv_ => ?_)
                                            obtain ⟨rfl, hm_⟩ := hK_
                                            have hm_ := hm_.symm
                                            subst hm_
                                            change ab_G _ _ _ _ _ _ _ [(1, .int (101 : Int32)), (0, .ref 30)] [.int (1 : Int32)] (ab_S nr (md_ps h (a + 6) w c) g rr) _
                                            refine ab_if_eq (tgt := 556) de_M_part0_518 rfl (fun c_518_27 => ?_) (fun c_518_27 => ?_)
                                            · exact absurd c_518_27 (by decide)
                                            · refine ab_aload_n de_M_part0_521 1 rfl ?_
                                              refine ab_bipush (v := 110) de_M_part0_522 rfl ?_
                                              by_cases c_524_28 : a + 6 < n ∧ md_f g s (a + 6) = 110
                                              · have lt6_ := c_524_28.1
                                                have hg7 := md_stp hg6 (V := 512) (by rw [c_524_28.2]; decide +kernel) (by decide) (by decide +kernel)
                                                refine ab_cV (as := [.int (110 : Int32)]) (st := []) (ct_M_takes_1 l _ nr h g rr (i := a + 6) (w := w) (r := c) (n := n) (s := s) (c := (110 : Int32)) hs hn60 hbase hend c_524_28.1 c_524_28.2) mo_M_takes mi_M_takes ml_M_151 rfl (by decide) rfl rfl rfl (Nat.le_of_ble_eq_true rfl) de_M_part0_524 (fun v_ M_ hK_ hl_ hv_ => ?_)
                                                obtain ⟨rfl, hm_⟩ := hK_
                                                have hm_ := hm_.symm
                                                subst hm_
                                                change ab_G _ _ _ _ _ _ _ [(1, .int (101 : Int32)), (0, .ref 30)] [.int (1 : Int32)] (ab_S nr (md_ps h (a + 7) w c) g rr) _
                                                refine ab_if_eq (tgt := 556) de_M_part0_527 rfl (fun c_527_29 => ?_) (fun c_527_29 => ?_)
                                                · exact absurd c_527_29 (by decide)
                                                · refine ab_aload_n de_M_part0_530 1 rfl ?_
                                                  refine ab_bipush (v := 101) de_M_part0_531 rfl ?_
                                                  by_cases c_533_30 : a + 7 < n ∧ md_f g s (a + 7) = 101
                                                  · have lt7_ := c_533_30.1
                                                    have gl_ : sp_gn 512 7 (md_f g s (a + 7)) = 512 := by rw [c_533_30.2]; decide +kernel
                                                    refine ab_cV (as := [.int (101 : Int32)]) (st := []) (ct_M_takes_1 l _ nr h g rr (i := a + 7) (w := w) (r := c) (n := n) (s := s) (c := (101 : Int32)) hs hn60 hbase hend c_533_30.1 c_533_30.2) mo_M_takes mi_M_takes ml_M_151 rfl (by decide) rfl rfl rfl (Nat.le_of_ble_eq_true rfl) de_M_part0_533 (fun v_ M_ hK_ hl_ hv_ => ?_)
                                                    obtain ⟨rfl, hm_⟩ := hK_
                                                    have hm_ := hm_.symm
                                                    subst hm_
                                                    change ab_G _ _ _ _ _ _ _ [(1, .int (101 : Int32)), (0, .ref 30)] [.int (1 : Int32)] (ab_S nr (md_ps h (a + 8) w c) g rr) _
                                                    refine ab_if_eq (tgt := 556) de_M_part0_536 rfl (fun c_536_31 => ?_) (fun c_536_31 => ?_)
                                                    · exact absurd c_536_31 (by decide)
                                                    · refine ab_aload_n de_M_part0_539 1 rfl ?_
                                                      refine ab_sipush (v := 512) de_M_part0_540 rfl ?_
                                                      refine ab_sipush (v := 512) de_M_part0_543 rfl ?_
                                                      by_cases c_546_32 : c &&& 512 = 0
                                                      · have wh_ := md_lst hg7 (V := 512) (b := 512) gl_ (by decide) (by decide +kernel) (by decide) (by rw [sp_thl (b := 512) (by decide)]; exact decide_eq_false (fun z_ => z_ c_546_32))
                                                        have or_lt_ : c ||| 512 < 4096 := Nat.or_lt_two_pow (n := 12) hc (by decide)
                                                        refine ab_cV (as := [.int (512 : Int32), .int (512 : Int32)]) (st := []) (ct_M_adds_1 l _ nr h g rr (i := a + 8) (w := w) (r := c) (b := 512) (o := 512) c_546_32) mo_M_adds mi_M_adds ml_M_154 rfl (by decide) rfl rfl rfl (Nat.le_of_ble_eq_true rfl) de_M_part0_546 (fun v_ M_ hK_ hl_ hv_ => ?_)
                                                        obtain ⟨rfl, hm_⟩ := hK_
                                                        have hm_ := hm_.symm
                                                        subst hm_
                                                        change ab_G _ _ _ _ _ _ _ [(1, .int (101 : Int32)), (0, .ref 30)] [.int (1 : Int32)] (ab_S nr (md_ps h (a + 8) w (c ||| 512)) g rr) _
                                                        refine ab_if_eq (tgt := 556) de_M_part0_549 rfl (fun c_549_33 => ?_) (fun c_549_33 => ?_)
                                                        · exact absurd c_549_33 (by decide)
                                                        · refine ab_iconst (v := 1) de_M_part0_552 rfl ?_
                                                          refine ab_goto (tgt := 557) de_M_part0_553 rfl ?_
                                                          exact ab_ret (v := some (.int (1 : Int32))) de_M_part0_557 ⟨_, rfl, rfl⟩ (Or.inl ⟨rfl, _, _, by omega, by omega, or_lt_, wh_, rfl⟩)
                                                      · have fb_ := md_thb (n := n) lt7_ hg7 (V := 512) (b := 512) gl_ (by decide +kernel) (by rw [sp_thl (b := 512) (by decide)]; exact decide_eq_true c_546_32)
                                                        refine ab_cV (as := [.int (512 : Int32), .int (512 : Int32)]) (st := []) (ct_M_adds_0 l _ nr h g rr (i := a + 8) (w := w) (r := c) (b := 512) (o := 512) c_546_32 hc (by omega)) mo_M_adds mi_M_adds ml_M_154 rfl (by decide) rfl rfl rfl (Nat.le_of_ble_eq_true rfl) de_M_part0_546 (fun v_ M_ hK_ hl_ hv_ => ?_)
                                                        obtain ⟨rfl, hm_⟩ := hK_
                                                        have hm_ := hm_.symm
                                                        subst hm_
                                                        change ab_G _ _ _ _ _ _ _ [(1, .int (101 : Int32)), (0, .ref 30)] [.int (0 : Int32)] (ab_S nr (md_ps h (a + 8) (nI (a + 8 - 1)) c) g rr) _
                                                        refine ab_if_eq (tgt := 556) de_M_part0_549 rfl (fun c_549_34 => ?_) (fun c_549_34 => ?_)
                                                        · refine ab_iconst (v := 0) de_M_part0_556 rfl ?_
                                                          exact ab_ret (v := some (.int (0 : Int32))) de_M_part0_557 ⟨_, rfl, rfl⟩ (Or.inr ⟨rfl, _, _, fb_, rfl⟩)
                                                        · exact absurd rfl c_549_34
                                                  · have fb_ := md_no (n := n) (i := a + 7) (by omega) hg7 (fun z_ => md_gn0 (l := [101]) (by decide +kernel) (md_1 (fun q_ => c_533_30 ⟨z_, q_⟩)))
                                                    refine ab_cV (as := [.int (101 : Int32)]) (st := []) (ct_M_takes_0 l _ nr h g rr (i := a + 7) (w := w) (r := c) (n := n) (s := s) (c := (101 : Int32)) hs hn60 hbase hend (by omega) c_533_30) mo_M_takes mi_M_takes ml_M_151 rfl (by decide) rfl rfl rfl (Nat.le_of_ble_eq_true rfl) de_M_part0_533 (fun v_ M_ hK_ hl_ hv_ => ?_)
                                                    obtain ⟨rfl, hm_⟩ := hK_
                                                    have hm_ := hm_.symm
                                                    subst hm_
                                                    change ab_G _ _ _ _ _ _ _ [(1, .int (101 : Int32)), (0, .ref 30)] [.int (0 : Int32)] (ab_S nr (md_ps h (a + 7) (nI (a + 7)) c) g rr) _
                                                    refine ab_if_eq (tgt := 556) de_M_part0_536 rfl (fun c_536_35 => ?_) (fun c_536_35 => ?_)
                                                    · refine ab_iconst (v := 0) de_M_part0_556 rfl ?_
                                                      exact ab_ret (v := some (.int (0 : Int32))) de_M_part0_557 ⟨_, rfl, rfl⟩ (Or.inr ⟨rfl, _, _, fb_, rfl⟩)
                                                    · exact absurd rfl c_536_35
                                              · have fb_ := md_no (n := n) (i := a + 6) (by omega) hg6 (fun z_ => md_gn0 (l := [110]) (by decide +kernel) (md_1 (fun q_ => c_524_28 ⟨z_, q_⟩)))
                                                refine ab_cV (as := [.int (110 : Int32)]) (st := []) (ct_M_takes_0 l _ nr h g rr (i := a + 6) (w := w) (r := c) (n := n) (s := s) (c := (110 : Int32)) hs hn60 hbase hend (by omega) c_524_28) mo_M_takes mi_M_takes ml_M_151 rfl (by decide) rfl rfl rfl (Nat.le_of_ble_eq_true rfl) de_M_part0_524 (fun v_ M_ hK_ hl_ hv_ => ?_)
                                                obtain ⟨rfl, hm_⟩ := hK_
                                                have hm_ := hm_.symm
                                                subst hm_
                                                change ab_G _ _ _ _ _ _ _ [(1, .int (101 : Int32)), (0, .ref 30)] [.int (0 : Int32)] (ab_S nr (md_ps h (a + 6) (nI (a + 6)) c) g rr) _
                                                refine ab_if_eq (tgt := 556) de_M_part0_527 rfl (fun c_527_36 => ?_) (fun c_527_36 => ?_)
                                                · refine ab_iconst (v := 0) de_M_part0_556 rfl ?_
                                                  exact ab_ret (v := some (.int (0 : Int32))) de_M_part0_557 ⟨_, rfl, rfl⟩ (Or.inr ⟨rfl, _, _, fb_, rfl⟩)
                                                · exact absurd rfl c_527_36
                                          · have fb_ := md_no (n := n) (i := a + 5) (by omega) hg5 (fun z_ => md_gn0 (l := [111]) (by decide +kernel) (md_1 (fun q_ => c_515_26 ⟨z_, q_⟩)))
                                            refine ab_cV (as := [.int (111 : Int32)]) (st := []) (ct_M_takes_0 l _ nr h g rr (i := a + 5) (w := w) (r := c) (n := n) (s := s) (c := (111 : Int32)) hs hn60 hbase hend (by omega) c_515_26) mo_M_takes mi_M_takes ml_M_151 rfl (by decide) rfl rfl rfl (Nat.le_of_ble_eq_true rfl) de_M_part0_515 (fun v_ M_ hK_ hl_ hv_ => ?_)
                                            obtain ⟨rfl, hm_⟩ := hK_
                                            have hm_ := hm_.symm
                                            subst hm_
                                            change ab_G _ _ _ _ _ _ _ [(1, .int (101 : Int32)), (0, .ref 30)] [.int (0 : Int32)] (ab_S nr (md_ps h (a + 5) (nI (a + 5)) c) g rr) _
                                            refine ab_if_eq (tgt := 556) de_M_part0_518 rfl (fun c_518_37 => ?_) (fun c_518_37 => ?_)
                                            · refine ab_iconst (v := 0) de_M_part0_556 rfl ?_
                                              exact ab_ret (v := some (.int (0 : Int32))) de_M_part0_557 ⟨_, rfl, rfl⟩ (Or.inr ⟨rfl, _, _, fb_, rfl⟩)
                                            · exact absurd rfl c_518_37
                                    · exact absurd c_477_18 (by decide)
                                  · have fb_ := md_no (n := n) (i := a + 3) (by omega) hg3 (fun z_ => md_gn0 (l := [32]) (by decide +kernel) (md_1 (fun q_ => c_474_17 ⟨z_, q_⟩)))
                                    refine ab_cV (as := [.int (32 : Int32)]) (st := []) (ct_M_takes_0 l _ nr h g rr (i := a + 3) (w := w) (r := c) (n := n) (s := s) (c := (32 : Int32)) hs hn60 hbase hend (by omega) c_474_17) mo_M_takes mi_M_takes ml_M_151 rfl (by decide) rfl rfl rfl (Nat.le_of_ble_eq_true rfl) de_M_part0_474 (fun v_ M_ hK_ hl_ hv_ => ?_)
                                    obtain ⟨rfl, hm_⟩ := hK_
                                    have hm_ := hm_.symm
                                    subst hm_
                                    change ab_G _ _ _ _ _ _ _ [(1, .int (101 : Int32)), (0, .ref 30)] [.int (0 : Int32)] (ab_S nr (md_ps h (a + 3) (nI (a + 3)) c) g rr) _
                                    refine ab_if_ne (tgt := 482) de_M_part0_477 rfl (fun c_477_38 => ?_) (fun c_477_38 => ?_)
                                    · exact absurd rfl c_477_38
                                    · refine ab_iconst (v := 0) de_M_part0_480 rfl ?_
                                      exact ab_ret (v := some (.int (0 : Int32))) de_M_part0_481 ⟨_, rfl, rfl⟩ (Or.inr ⟨rfl, _, _, fb_, rfl⟩)
                              · have fb_ := md_no (n := n) (i := a + 2) (by omega) hg2 (fun z_ => md_gn0 (l := [100]) (by decide +kernel) (md_1 (fun q_ => c_465_15 ⟨z_, q_⟩)))
                                refine ab_cV (as := [.int (100 : Int32)]) (st := []) (ct_M_takes_0 l _ nr h g rr (i := a + 2) (w := w) (r := c) (n := n) (s := s) (c := (100 : Int32)) hs hn60 hbase hend (by omega) c_465_15) mo_M_takes mi_M_takes ml_M_151 rfl (by decide) rfl rfl rfl (Nat.le_of_ble_eq_true rfl) de_M_part0_465 (fun v_ M_ hK_ hl_ hv_ => ?_)
                                obtain ⟨rfl, hm_⟩ := hK_
                                have hm_ := hm_.symm
                                subst hm_
                                change ab_G _ _ _ _ _ _ _ [(1, .int (101 : Int32)), (0, .ref 30)] [.int (0 : Int32)] (ab_S nr (md_ps h (a + 2) (nI (a + 2)) c) g rr) _
                                refine ab_if_eq (tgt := 480) de_M_part0_468 rfl (fun c_468_39 => ?_) (fun c_468_39 => ?_)
                                · refine ab_iconst (v := 0) de_M_part0_480 rfl ?_
                                  exact ab_ret (v := some (.int (0 : Int32))) de_M_part0_481 ⟨_, rfl, rfl⟩ (Or.inr ⟨rfl, _, _, fb_, rfl⟩)
                                · exact absurd rfl c_468_39
                          · have fb_ := md_no (n := n) (i := a + 1) (by omega) hg1 (fun z_ => md_gn0 (l := [110]) (by decide +kernel) (md_1 (fun q_ => c_456_13 ⟨z_, q_⟩)))
                            refine ab_cV (as := [.int (110 : Int32)]) (st := []) (ct_M_takes_0 l _ nr h g rr (i := a + 1) (w := w) (r := c) (n := n) (s := s) (c := (110 : Int32)) hs hn60 hbase hend (by omega) c_456_13) mo_M_takes mi_M_takes ml_M_151 rfl (by decide) rfl rfl rfl (Nat.le_of_ble_eq_true rfl) de_M_part0_456 (fun v_ M_ hK_ hl_ hv_ => ?_)
                            obtain ⟨rfl, hm_⟩ := hK_
                            have hm_ := hm_.symm
                            subst hm_
                            change ab_G _ _ _ _ _ _ _ [(1, .int (101 : Int32)), (0, .ref 30)] [.int (0 : Int32)] (ab_S nr (md_ps h (a + 1) (nI (a + 1)) c) g rr) _
                            refine ab_if_eq (tgt := 480) de_M_part0_459 rfl (fun c_459_40 => ?_) (fun c_459_40 => ?_)
                            · refine ab_iconst (v := 0) de_M_part0_480 rfl ?_
                              exact ab_ret (v := some (.int (0 : Int32))) de_M_part0_481 ⟨_, rfl, rfl⟩ (Or.inr ⟨rfl, _, _, fb_, rfl⟩)
                            · exact absurd rfl c_459_40
                    · exact absurd c_367_10 (by decide)
                · exact absurd c_294_8 (by decide)
            · exact absurd c_232_6 (by decide)
        · exact absurd c_40_4 (by decide)
set_option maxHeartbeats 1000000 in
set_option maxRecDepth 10000 in
theorem ct_M_part_x (l : Launch) (d : Nat) (nr : Nat) (h : Nat → Nat → Int32) (g : Nat → Nat → Int64) (rr : Nat → Option Nat) {a n s c : Nat} {w : Int32} (hs : s < 8) (hn60 : n ≤ 60) (hbase : h 30 19 = nI (60 * s)) (hend : h 30 21 = nI n) (hc : c < 4096) (hg0 : md_go (md_f g s) a c 8191 0) (ha : a ≤ n) (hno : a < n → ¬ md_f g s a = 115 ∧ ¬ md_f g s a = 106 ∧ ¬ md_f g s a = 112 ∧ ¬ md_f g s a = 116 ∧ ¬ md_f g s a = 109 ∧ ¬ md_f g s a = 101) : ab_C l am_M_part0 (d + 4) 0 0 [.ref 30] (ab_S nr (md_ps h a w c) g rr) (fun (r_ : Option Value) (M' : ab_Me) => (r_ = some (.int (1 : Int32)) ∧ ∃ b c', a < b ∧ b ≤ n ∧ c' < 4096 ∧ md_wh (md_f g s) b c' ∧ M' = (ab_S nr (md_ps h b w c') g rr)) ∨ (r_ = some (.int (0 : Int32)) ∧ ∃ i j, md_fb (md_f g s) n j ∧ M' = (ab_S nr (md_ps h i (nI j) c) g rr))) := by
  have fb_ : md_fb (md_f g s) n a := md_no ha hg0 (fun z_ => md_gn0 (l := [115, 106, 112, 116, 109, 101]) (by decide +kernel) (md_n6 (hno z_).1 (hno z_).2.1 (hno z_).2.2.1 (hno z_).2.2.2.1 (hno z_).2.2.2.2.1 (hno z_).2.2.2.2.2))
  refine ab_C_of (by decide +kernel) rfl (Nat.le_of_ble_eq_true rfl) ?_
  refine ab_aload_n de_M_part0_0 0 rfl ?_
  refine ab_get (v := .int ((md_ps h a w c) 30 20)) fl_M_125 rfl rfl de_M_part0_1 ?_
  refine ab_top (v' := nI a) (rfl) ?_
  refine ab_aload_n de_M_part0_4 0 rfl ?_
  refine ab_get (v := .int ((md_ps h a w c) 30 21)) fl_M_128 rfl rfl de_M_part0_5 ?_
  refine ab_top (v' := nI n) (hend) ?_
  refine ab_icmp_ge (tgt := 18) de_M_part0_8 rfl (fun c_8_1 => ?_) (fun c_8_1 => ?_)
  · have ge0_ := (ab_le (by omega) (by omega)).mp c_8_1
    refine ab_iconst (v := -1) de_M_part0_18 rfl ?_
    refine ab_istore_n (L' := [(1, .int (-1 : Int32)), (0, .ref 30)]) de_M_part0_19 (by decide) rfl ?_
    refine ab_aload_n de_M_part0_20 1 rfl ?_
    refine ab_get (v := .int ((md_ps h a w c) 30 20)) fl_M_125 rfl rfl de_M_part0_21 ?_
    refine ab_top (v' := nI a) (rfl) ?_
    refine ab_aload_n de_M_part0_24 1 rfl ?_
    refine ab_get (v := .int ((md_ps h a w c) 30 21)) fl_M_128 rfl rfl de_M_part0_25 ?_
    refine ab_top (v' := nI n) (hend) ?_
    refine ab_icmp_ge (tgt := 218) de_M_part0_28 rfl (fun c_28_2 => ?_) (fun c_28_2 => ?_)
    · refine ab_aload_n de_M_part0_218 1 rfl ?_
      refine ab_get (v := .int ((md_ps h a w c) 30 20)) fl_M_125 rfl rfl de_M_part0_219 ?_
      refine ab_top (v' := nI a) (rfl) ?_
      refine ab_aload_n de_M_part0_222 1 rfl ?_
      refine ab_get (v := .int ((md_ps h a w c) 30 21)) fl_M_128 rfl rfl de_M_part0_223 ?_
      refine ab_top (v' := nI n) (hend) ?_
      refine ab_icmp_ge (tgt := 280) de_M_part0_226 rfl (fun c_226_3 => ?_) (fun c_226_3 => ?_)
      · refine ab_aload_n de_M_part0_280 1 rfl ?_
        refine ab_get (v := .int ((md_ps h a w c) 30 20)) fl_M_125 rfl rfl de_M_part0_281 ?_
        refine ab_top (v' := nI a) (rfl) ?_
        refine ab_aload_n de_M_part0_284 1 rfl ?_
        refine ab_get (v := .int ((md_ps h a w c) 30 21)) fl_M_128 rfl rfl de_M_part0_285 ?_
        refine ab_top (v' := nI n) (hend) ?_
        refine ab_icmp_ge (tgt := 353) de_M_part0_288 rfl (fun c_288_4 => ?_) (fun c_288_4 => ?_)
        · refine ab_aload_n de_M_part0_353 1 rfl ?_
          refine ab_get (v := .int ((md_ps h a w c) 30 20)) fl_M_125 rfl rfl de_M_part0_354 ?_
          refine ab_top (v' := nI a) (rfl) ?_
          refine ab_aload_n de_M_part0_357 1 rfl ?_
          refine ab_get (v := .int ((md_ps h a w c) 30 21)) fl_M_128 rfl rfl de_M_part0_358 ?_
          refine ab_top (v' := nI n) (hend) ?_
          refine ab_icmp_ge (tgt := 426) de_M_part0_361 rfl (fun c_361_5 => ?_) (fun c_361_5 => ?_)
          · refine ab_aload_n de_M_part0_426 1 rfl ?_
            refine ab_get (v := .int ((md_ps h a w c) 30 20)) fl_M_125 rfl rfl de_M_part0_427 ?_
            refine ab_top (v' := nI a) (rfl) ?_
            refine ab_aload_n de_M_part0_430 1 rfl ?_
            refine ab_get (v := .int ((md_ps h a w c) 30 21)) fl_M_128 rfl rfl de_M_part0_431 ?_
            refine ab_top (v' := nI n) (hend) ?_
            refine ab_icmp_ge (tgt := 626) de_M_part0_434 rfl (fun c_434_6 => ?_) (fun c_434_6 => ?_)
            · refine ab_aload_n de_M_part0_626 1 rfl ?_
              refine ab_aload_n de_M_part0_627 1 rfl ?_
              refine ab_get (v := .int ((md_ps h a w c) 30 20)) fl_M_125 rfl rfl de_M_part0_628 ?_
              refine ab_top (v' := nI a) (rfl) ?_
              refine ab_cV (as := [.int (nI a)]) (st := []) (ct_M_wrong l _ nr h g rr (i := a) (w := w) (r := c) (nI a)) mo_M_wrong mi_M_wrong ml_M_145 rfl (by decide) rfl rfl rfl (Nat.le_of_ble_eq_true rfl) de_M_part0_631 (fun v_ M_ hK_ hl_ hv_ => ?_)
              obtain ⟨rfl, hm_⟩ := hK_
              have hm_ := hm_.symm
              subst hm_
              change ab_G _ _ _ _ _ _ _ [(1, .int (-1 : Int32)), (0, .ref 30)] [.int (0 : Int32)] (ab_S nr (md_ps h a (nI a) c) g rr) _
              exact ab_ret (v := some (.int (0 : Int32))) de_M_part0_634 ⟨_, rfl, rfl⟩ (Or.inr ⟨rfl, _, _, fb_, rfl⟩)
            · exact absurd ((ab_le (by omega) (by omega)).mpr ge0_) c_434_6
          · exact absurd ((ab_le (by omega) (by omega)).mpr ge0_) c_361_5
        · exact absurd ((ab_le (by omega) (by omega)).mpr ge0_) c_288_4
      · exact absurd ((ab_le (by omega) (by omega)).mpr ge0_) c_226_3
    · exact absurd ((ab_le (by omega) (by omega)).mpr ge0_) c_28_2
  · have lt0_ : a < n := Nat.lt_of_not_le (fun z_ => c_8_1 ((ab_le (by omega) (by omega)).mpr z_))
    refine ab_aload_n de_M_part0_11 0 rfl ?_
    refine ab_cV (as := []) (st := []) (ct_M_letter l _ nr h g rr (i := a) (w := w) (r := c) hs hn60 hbase hend (by omega)) mo_M_letter mi_M_letter ml_M_141 rfl (by decide) rfl rfl rfl (Nat.le_of_ble_eq_true rfl) de_M_part0_12 (fun v_ M_ hK_ hl_ hv_ => ?_)
    obtain ⟨rfl, hm_⟩ := hK_
    have hm_ := hm_.symm
    subst hm_
    change ab_G _ _ _ _ _ _ _ [(0, .ref 30)] [.int (md_f g s a)] (ab_S nr (md_ps h a w c) g rr) _
    refine ab_goto (tgt := 19) de_M_part0_15 rfl ?_
    refine ab_istore_n (L' := [(1, .int (md_f g s a)), (0, .ref 30)]) de_M_part0_19 (by decide) rfl ?_
    refine ab_aload_n de_M_part0_20 1 rfl ?_
    refine ab_get (v := .int ((md_ps h a w c) 30 20)) fl_M_125 rfl rfl de_M_part0_21 ?_
    refine ab_top (v' := nI a) (rfl) ?_
    refine ab_aload_n de_M_part0_24 1 rfl ?_
    refine ab_get (v := .int ((md_ps h a w c) 30 21)) fl_M_128 rfl rfl de_M_part0_25 ?_
    refine ab_top (v' := nI n) (hend) ?_
    refine ab_icmp_ge (tgt := 218) de_M_part0_28 rfl (fun c_28_7 => ?_) (fun c_28_7 => ?_)
    · exact absurd ((ab_le (by omega) (by omega)).mp c_28_7) (by omega)
    · refine ab_iload_n de_M_part0_31 0 rfl ?_
      refine ab_bipush (v := 115) de_M_part0_32 rfl ?_
      refine ab_icmp_eq (tgt := 43) de_M_part0_34 rfl (fun c_34_8 => ?_) (fun c_34_8 => ?_)
      · exact absurd c_34_8 (hno lt0_).1
      · refine ab_iload_n de_M_part0_37 0 rfl ?_
        refine ab_bipush (v := 106) de_M_part0_38 rfl ?_
        refine ab_icmp_ne (tgt := 218) de_M_part0_40 rfl (fun c_40_9 => ?_) (fun c_40_9 => ?_)
        · refine ab_aload_n de_M_part0_218 1 rfl ?_
          refine ab_get (v := .int ((md_ps h a w c) 30 20)) fl_M_125 rfl rfl de_M_part0_219 ?_
          refine ab_top (v' := nI a) (rfl) ?_
          refine ab_aload_n de_M_part0_222 1 rfl ?_
          refine ab_get (v := .int ((md_ps h a w c) 30 21)) fl_M_128 rfl rfl de_M_part0_223 ?_
          refine ab_top (v' := nI n) (hend) ?_
          refine ab_icmp_ge (tgt := 280) de_M_part0_226 rfl (fun c_226_10 => ?_) (fun c_226_10 => ?_)
          · exact absurd ((ab_le (by omega) (by omega)).mp c_226_10) (by omega)
          · refine ab_iload_n de_M_part0_229 0 rfl ?_
            refine ab_bipush (v := 112) de_M_part0_230 rfl ?_
            refine ab_icmp_ne (tgt := 280) de_M_part0_232 rfl (fun c_232_11 => ?_) (fun c_232_11 => ?_)
            · refine ab_aload_n de_M_part0_280 1 rfl ?_
              refine ab_get (v := .int ((md_ps h a w c) 30 20)) fl_M_125 rfl rfl de_M_part0_281 ?_
              refine ab_top (v' := nI a) (rfl) ?_
              refine ab_aload_n de_M_part0_284 1 rfl ?_
              refine ab_get (v := .int ((md_ps h a w c) 30 21)) fl_M_128 rfl rfl de_M_part0_285 ?_
              refine ab_top (v' := nI n) (hend) ?_
              refine ab_icmp_ge (tgt := 353) de_M_part0_288 rfl (fun c_288_12 => ?_) (fun c_288_12 => ?_)
              · exact absurd ((ab_le (by omega) (by omega)).mp c_288_12) (by omega)
              · refine ab_iload_n de_M_part0_291 0 rfl ?_
                refine ab_bipush (v := 116) de_M_part0_292 rfl ?_
                refine ab_icmp_ne (tgt := 353) de_M_part0_294 rfl (fun c_294_13 => ?_) (fun c_294_13 => ?_)
                · refine ab_aload_n de_M_part0_353 1 rfl ?_
                  refine ab_get (v := .int ((md_ps h a w c) 30 20)) fl_M_125 rfl rfl de_M_part0_354 ?_
                  refine ab_top (v' := nI a) (rfl) ?_
                  refine ab_aload_n de_M_part0_357 1 rfl ?_
                  refine ab_get (v := .int ((md_ps h a w c) 30 21)) fl_M_128 rfl rfl de_M_part0_358 ?_
                  refine ab_top (v' := nI n) (hend) ?_
                  refine ab_icmp_ge (tgt := 426) de_M_part0_361 rfl (fun c_361_14 => ?_) (fun c_361_14 => ?_)
                  · exact absurd ((ab_le (by omega) (by omega)).mp c_361_14) (by omega)
                  · refine ab_iload_n de_M_part0_364 0 rfl ?_
                    refine ab_bipush (v := 109) de_M_part0_365 rfl ?_
                    refine ab_icmp_ne (tgt := 426) de_M_part0_367 rfl (fun c_367_15 => ?_) (fun c_367_15 => ?_)
                    · refine ab_aload_n de_M_part0_426 1 rfl ?_
                      refine ab_get (v := .int ((md_ps h a w c) 30 20)) fl_M_125 rfl rfl de_M_part0_427 ?_
                      refine ab_top (v' := nI a) (rfl) ?_
                      refine ab_aload_n de_M_part0_430 1 rfl ?_
                      refine ab_get (v := .int ((md_ps h a w c) 30 21)) fl_M_128 rfl rfl de_M_part0_431 ?_
                      refine ab_top (v' := nI n) (hend) ?_
                      refine ab_icmp_ge (tgt := 626) de_M_part0_434 rfl (fun c_434_16 => ?_) (fun c_434_16 => ?_)
                      · exact absurd ((ab_le (by omega) (by omega)).mp c_434_16) (by omega)
                      · refine ab_iload_n de_M_part0_437 0 rfl ?_
                        refine ab_bipush (v := 101) de_M_part0_438 rfl ?_
                        refine ab_icmp_ne (tgt := 626) de_M_part0_440 rfl (fun c_440_17 => ?_) (fun c_440_17 => ?_)
                        · refine ab_aload_n de_M_part0_626 1 rfl ?_
                          refine ab_aload_n de_M_part0_627 1 rfl ?_
                          refine ab_get (v := .int ((md_ps h a w c) 30 20)) fl_M_125 rfl rfl de_M_part0_628 ?_
                          refine ab_top (v' := nI a) (rfl) ?_
                          refine ab_cV (as := [.int (nI a)]) (st := []) (ct_M_wrong l _ nr h g rr (i := a) (w := w) (r := c) (nI a)) mo_M_wrong mi_M_wrong ml_M_145 rfl (by decide) rfl rfl rfl (Nat.le_of_ble_eq_true rfl) de_M_part0_631 (fun v_ M_ hK_ hl_ hv_ => ?_)
                          obtain ⟨rfl, hm_⟩ := hK_
                          have hm_ := hm_.symm
                          subst hm_
                          change ab_G _ _ _ _ _ _ _ [(1, .int (md_f g s a)), (0, .ref 30)] [.int (0 : Int32)] (ab_S nr (md_ps h a (nI a) c) g rr) _
                          exact ab_ret (v := some (.int (0 : Int32))) de_M_part0_634 ⟨_, rfl, rfl⟩ (Or.inr ⟨rfl, _, _, fb_, rfl⟩)
                        · exact absurd c_440_17 (hno lt0_).2.2.2.2.2
                    · exact absurd c_367_15 (hno lt0_).2.2.2.2.1
                · exact absurd c_294_13 (hno lt0_).2.2.2.1
            · exact absurd c_232_11 (hno lt0_).2.2.1
        · exact absurd c_40_9 (hno lt0_).2.1
theorem ct_M_part0 (l : Launch) (d : Nat) (nr : Nat) (h : Nat → Nat → Int32) (g : Nat → Nat → Int64) (rr : Nat → Option Nat) {a n s c : Nat} {w : Int32} (hs : s < 8) (hn60 : n ≤ 60) (hbase : h 30 19 = nI (60 * s)) (hend : h 30 21 = nI n) (hc : c < 4096) (hg0 : md_go (md_f g s) a c 8191 0) (ha : a ≤ n) : ab_C l am_M_part0 (d + 4) 0 0 [.ref 30] (ab_S nr (md_ps h a w c) g rr) (fun (r_ : Option Value) (M' : ab_Me) => (r_ = some (.int (1 : Int32)) ∧ ∃ b c', a < b ∧ b ≤ n ∧ c' < 4096 ∧ md_wh (md_f g s) b c' ∧ M' = (ab_S nr (md_ps h b w c') g rr)) ∨ (r_ = some (.int (0 : Int32)) ∧ ∃ i j, md_fb (md_f g s) n j ∧ M' = (ab_S nr (md_ps h i (nI j) c) g rr))) := by
  by_cases h0 : a < n
  · by_cases h1 : md_f g s a = 115
    · exact ct_M_part_s l d nr h g rr hs hn60 hbase hend hc hg0 h0 h1
    · by_cases h2 : md_f g s a = 106
      · exact ct_M_part_j l d nr h g rr hs hn60 hbase hend hc hg0 h0 h2
      · by_cases h3 : md_f g s a = 112
        · exact ct_M_part_p l d nr h g rr hs hn60 hbase hend hc hg0 h0 h3
        · by_cases h4 : md_f g s a = 116
          · exact ct_M_part_t l d nr h g rr hs hn60 hbase hend hc hg0 h0 h4
          · by_cases h5 : md_f g s a = 109
            · exact ct_M_part_m l d nr h g rr hs hn60 hbase hend hc hg0 h0 h5
            · by_cases h6 : md_f g s a = 101
              · exact ct_M_part_e l d nr h g rr hs hn60 hbase hend hc hg0 h0 h6
              · exact ct_M_part_x l d nr h g rr hs hn60 hbase hend hc hg0 ha (fun _ => ⟨h1, h2, h3, h4, h5, h6⟩)
  · exact ct_M_part_x l d nr h g rr hs hn60 hbase hend hc hg0 ha (fun z => absurd z h0)
