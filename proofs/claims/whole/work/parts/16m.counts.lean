/-! the reference: how many RIVALS let a MOVE -/
theorem md_cnt (l : List Nat) (a v : Nat) : (l ++ [a]).count v = l.count v + (if v = a then 1 else 0) := by
  rw [List.count_append]
  congr 1
  by_cases e : v = a
  · rw [if_pos e, e]; simp
  · rw [if_neg e]
    simp [List.count_singleton, Ne.symm e, fun z => e (Eq.symm z)]
theorem md_take {l : List Nat} {k : Nat} (hk : k < l.length) : l.take (k + 1) = l.take k ++ [l[k]] := by
  rw [List.take_succ, List.getElem?_eq_getElem hk]
  rfl
theorem md_r12_ct {f : Nat → Bool} {p x : Nat} : ∀ n q, q + n ≤ 16 → (sp_r12 f (fun q => 16 * p + q) n q).count x = if x / 16 = p ∧ q ≤ x % 16 ∧ x % 16 < q + n ∧ f (x % 16) = true then 1 else 0
  | 0, q, _ => by
    rw [sp_r12, if_neg (fun z => by omega)]
    rfl
  | n + 1, q, h => by
    have ih := md_r12_ct (f := f) (p := p) (x := x) n (q + 1) (by omega)
    rw [sp_r12]
    by_cases hf : f q = true
    · rw [if_pos hf, List.count_cons, ih]
      by_cases e : 16 * p + q = x
      · have e1 : x / 16 = p := by omega
        have e2 : x % 16 = q := by omega
        have c0 : ¬ (x / 16 = p ∧ q + 1 ≤ x % 16 ∧ x % 16 < q + 1 + n ∧ f (x % 16) = true) := fun z => by omega
        have c1 : x / 16 = p ∧ q ≤ x % 16 ∧ x % 16 < q + (n + 1) ∧ f (x % 16) = true := ⟨e1, by omega, by omega, by rw [e2]; exact hf⟩
        rw [if_neg c0, if_pos c1, if_pos (show (16 * p + q == x) = true by simp [e])]
      · have e3 : ((16 * p + q == x) = false) := by simp [e]
        rw [e3, if_neg (by decide : ¬ false = true), Nat.add_zero]
        by_cases c : x / 16 = p ∧ q + 1 ≤ x % 16 ∧ x % 16 < q + 1 + n ∧ f (x % 16) = true
        · rw [if_pos c, if_pos ⟨c.1, by omega, by omega, c.2.2.2⟩]
        · rw [if_neg c, if_neg (fun z => c ⟨z.1, by omega, by omega, z.2.2.2⟩)]
    · rw [if_neg hf, ih]
      by_cases c : x / 16 = p ∧ q + 1 ≤ x % 16 ∧ x % 16 < q + 1 + n ∧ f (x % 16) = true
      · rw [if_pos c, if_pos ⟨c.1, by omega, by omega, c.2.2.2⟩]
      · rw [if_neg c, if_neg (fun z => c ⟨z.1, by
          rcases Nat.lt_or_ge q (x % 16) with w | w
          · omega
          · exact absurd z.2.2.2 (by rw [show x % 16 = q by omega]; exact hf), by omega, z.2.2.2⟩)]
theorem md_r16_ct {F : Nat → List Nat} {x : Nat} (hF : ∀ p, ¬ x / 16 = p → (F p).count x = 0) : ∀ n p, (sp_r16 F n p).count x = if p ≤ x / 16 ∧ x / 16 < p + n then (F (x / 16)).count x else 0
  | 0, p => by
    rw [sp_r16, if_neg (fun z => by omega)]
    rfl
  | n + 1, p => by
    rw [sp_r16, List.count_append, md_r16_ct hF n (p + 1)]
    by_cases e : x / 16 = p
    · rw [if_neg (fun z => by omega), if_pos ⟨by omega, by omega⟩, e, Nat.add_zero]
    · rw [hF p e, Nat.zero_add]
      by_cases c : p + 1 ≤ x / 16 ∧ x / 16 < p + 1 + n
      · rw [if_pos c, if_pos ⟨by omega, by omega⟩]
      · rw [if_neg c, if_neg (fun z => c ⟨by omega, by omega⟩)]
theorem md_ml_ct {T : Nat → Nat → Nat} (hO : sp_ok T) {v m i x : Nat} (hx : x < 256) : (sp_ml T v m i).count x = sp_iv T v m i x := by
  unfold sp_ml
  rw [md_r16_ct (fun p hp => by unfold sp_mp; rw [md_r12_ct 12 0 (by decide), if_neg (fun z => hp z.1)]), if_pos ⟨by omega, by omega⟩]
  unfold sp_mp sp_iv
  rw [md_r12_ct 12 0 (by decide)]
  cases hb : (sp_tg T v m i (x / 16)).testBit (x % 16) with
  | false => rw [if_neg (fun z => by cases z.2.2.2)]; rfl
  | true =>
    have h12 : x % 16 < 12 := by
      rcases Nat.lt_or_ge (x % 16) 12 with w | w
      · exact w
      · rw [sp_bit12 (sp_tg_lt hO v m i (x / 16)) w] at hb
        cases hb
    rw [if_pos ⟨rfl, by omega, by omega, rfl⟩]
    rfl
theorem md_vt_s (T : Nat → Nat → Nat) (f : Nat → Bool) (m i n x : Nat) : sp_vt T f m i (n + 1) x = sp_vt T f m i n x + sp_iv T (sp_lv T (sp_fo f n) m i) m i x := rfl
set_option maxHeartbeats 1000000 in
set_option maxRecDepth 10000 in
theorem lp_M_counts_i (l : Launch) (d : Nat) (nr : Nat) (h : Nat → Nat → Int32) (g : Nat → Nat → Int64) (rr : Nat → Option Nat) {r0 j : Nat} {ls : List Nat} {b : Nat → Nat} (hls : ∀ k (hk : k < ls.length), h 44 k = nI ls[k]) (hlt : ∀ a, a ∈ ls → a < 256) (hlen : ls.length < 500) {K : Option Value → ab_Me → Prop} (kx : ∀ (hh : Nat → Nat → Int32), (∀ a, a ≠ 47 → hh a = h a) → (∀ v, v < 256 → hh 47 v = nI (b v + ls.count v)) → ab_G l none am_M_counts (d + 9) 0 0 88 [(0, .ref 30), (2, .int (nI r0)), (3, .int (nI j))] [] (ab_S nr hh g rr) (K)) : ∀ (fu_ k : Nat) (hh : Nat → Nat → Int32), k ≤ ls.length → ls.length < k + fu_ → (∀ a, a ≠ 47 → hh a = h a) → (∀ v, v < 256 → hh 47 v = nI (b v + (ls.take k).count v)) → ab_G l none am_M_counts (d + 9) 0 0 59 [(0, .ref 30), (2, .int (nI r0)), (3, .int (nI j)), (4, .int (nI ls.length)), (5, .int (nI k))] [] (ab_S nr hh g rr) (K) := by
  intro fu_
  induction fu_ with
  | zero => intro k hh h1 h2; omega
  | succ fu_ ih =>
    intro k hh hN_ hn_ hf0 hf1
    refine ab_iload de_M_counts_59 4 rfl ?_
    refine ab_iload de_M_counts_61 3 rfl ?_
    refine ab_icmp_ge (tgt := 88) de_M_counts_63 rfl (fun c_63_1 => ?_) (fun c_63_1 => ?_)
    · have hk := (ab_le (by omega) (by omega)).mp c_63_1
      refine ab_sub (L' := [(0, .ref 30), (2, .int (nI r0)), (3, .int (nI j))]) [0, 1, 2] rfl ?_
      exact kx hh hf0 (fun v hv => by rw [hf1 v hv, List.take_of_length_le (by omega)])
    · have hk := Nat.lt_of_not_le (fun z_ => c_63_1 ((ab_le (by omega) (by omega)).mpr z_))
      have el_ := hlt _ (List.getElem_mem hk)
      refine ab_aload_n de_M_counts_66 0 rfl ?_
      refine ab_get (v := .ref 47) fl_M_69 rfl rfl de_M_counts_67 ?_
      refine ab_aload_n de_M_counts_70 0 rfl ?_
      refine ab_get (v := .ref 44) fl_M_54 rfl rfl de_M_counts_71 ?_
      refine ab_iload de_M_counts_74 4 rfl ?_
      refine ab_iald (v := hh 44 k) rfl (ab_in (by omega) (by decide)) (ab_hv (ab_tn (n := k) (by omega))) de_M_counts_76 ?_
      refine ab_top (v' := nI (ls[k])) ((congrFun (hf0 44 (by decide)) k).trans (hls k hk)) ?_
      refine ab_dup2 de_M_counts_77 rfl rfl ?_
      refine ab_iald (v := hh 47 (ls[k])) rfl (ab_in (by omega) (by decide)) (ab_hv (ab_tn (n := ls[k]) (by omega))) de_M_counts_78 ?_
      refine ab_top (v' := nI (b (ls[k]) + (ls.take k).count (ls[k]))) (hf1 _ el_) ?_
      refine ab_iconst (v := 1) de_M_counts_79 rfl ?_
      refine ab_iadd de_M_counts_80 ?_
      refine ab_top (v' := nI ((b (ls[k]) + (ls.take k).count (ls[k])) + 1)) (ab_add _ _) ?_
      refine ab_iast (x := 47) rfl (ab_in (by omega) (by decide)) de_M_counts_81 ?_
      rw [(ab_tn (n := ls[k]) (by omega))]
      change ab_G _ _ _ _ _ _ _ _ _ (ab_S nr (ab_u2 hh 47 (ls[k]) (nI ((b (ls[k]) + (ls.take k).count (ls[k])) + 1))) g rr) _
      refine ab_iinc (v := nI (k + 1)) (L' := [(5, .int (nI (k + 1))), (0, .ref 30), (2, .int (nI r0)), (3, .int (nI j)), (4, .int (nI ls.length))]) de_M_counts_82 4 rfl (by rw [show Int32.ofInt 1 = nI 1 from rfl, ab_add]) (by decide) rfl ?_
      refine ab_goto (tgt := 59) de_M_counts_85 rfl ?_
      refine ab_sub (L' := [(0, .ref 30), (2, .int (nI r0)), (3, .int (nI j)), (4, .int (nI ls.length)), (5, .int (nI (k + 1)))]) [1, 2, 3, 4, 0] rfl ?_
      exact ih (k + 1) _ (by omega) (by omega) (fun a ha => by rw [ab_u2_row ha]; exact hf0 a ha) (fun v hv => by
        rw [md_take hk, md_cnt, ← Nat.add_assoc]
        by_cases e_ : v = ls[k]
        · rw [if_pos e_, e_]; exact ab_u2_at
        · rw [if_neg e_, ab_u2_ne (fun z => e_ z.2)]; exact hf1 v hv)
set_option maxHeartbeats 1000000 in
set_option maxRecDepth 10000 in
theorem lp_M_counts (l : Launch) (d : Nat) (nr : Nat) (h : Nat → Nat → Int32) (g : Nat → Nat → Int64) (rr : Nat → Option Nat) {T : Nat → Nat → Nat} (hTM : bo_T T h 32) (hO : sp_ok T) {Z : sp_G} (hZ : gm_ok Z) (hG : md_G Z h) (hK : md_K T Z h) {m i t : Nat} (hm : m < 4096) (hi : i < 4096) (ht : t < 2) (hB : md_bd m i t h) {x : Nat} (hx : x < 10) : ∀ (fu_ j : Nat) (hh : Nat → Nat → Int32), j ≤ (sp_rv (sp_ok1 T Z) x) → (sp_rv (sp_ok1 T Z) x) < j + fu_ → md_kr h hh → md_K T Z hh → md_fk (sp_ok1 T Z) hh → (∀ v, v < 256 → hh 47 v = nI (sp_vt T (sp_ok1 T Z) m i j v)) → ab_G l none am_M_counts (d + 9) 0 0 30 [(0, .ref 30), (2, .int (nI (sp_rv (sp_ok1 T Z) x))), (3, .int (nI j))] [] (ab_S nr hh g rr) (fun (r_ : Option Value) (M' : ab_Me) => r_ = some (.int (nI (sp_rv (sp_ok1 T Z) x))) ∧ ∃ h', M' = ab_S nr h' g rr ∧ md_kr h h' ∧ md_K T Z h' ∧ md_fk (sp_ok1 T Z) h' ∧ ∀ v, v < 256 → h' 47 v = nI (sp_vt T (sp_ok1 T Z) m i (sp_rv (sp_ok1 T Z) x) v)) := by
  intro fu_
  induction fu_ with
  | zero => intro j hh h1 h2; omega
  | succ fu_ ih =>
    intro j hh hN_ hn_ hf0 hf1 hf2 hf3
    have r1_ := sp_rv_le (sp_ok1 T Z) x
    have r2_ := sp_to_lt (f := (sp_ok1 T Z))
    refine ab_iload_n de_M_counts_30 2 rfl ?_
    refine ab_iload_n de_M_counts_31 1 rfl ?_
    refine ab_icmp_ge (tgt := 94) de_M_counts_32 rfl (fun c_32_1 => ?_) (fun c_32_1 => ?_)
    · have hj := (ab_le (by omega) (by omega)).mp c_32_1
      refine ab_iload_n de_M_counts_94 1 rfl ?_
      exact ab_ret (v := some (.int (nI (sp_rv (sp_ok1 T Z) x)))) de_M_counts_95 ⟨_, rfl⟩ (by
    have j_ : j = (sp_rv (sp_ok1 T Z) x) := by omega
    rw [j_] at hf3
    exact ⟨rfl, hh, rfl, hf0, hf1, hf2, hf3⟩)
    · have hj := Nat.lt_of_not_le (fun z_ => c_32_1 ((ab_le (by omega) (by omega)).mpr z_))
      refine ab_aload_n de_M_counts_35 0 rfl ?_
      refine ab_aload_n de_M_counts_36 0 rfl ?_
      refine ab_get (v := .ref 45) fl_M_57 rfl rfl de_M_counts_37 ?_
      refine ab_iload_n de_M_counts_40 2 rfl ?_
      refine ab_iald (v := hh 45 j) rfl (ab_in (by omega) (by decide)) (ab_hv (ab_tn (n := j) (by omega))) de_M_counts_41 ?_
      refine ab_top (v' := nI (sp_fo (sp_ok1 T Z) j)) (hf2.2 j (by omega)) ?_
      refine ab_aload_n de_M_counts_42 0 rfl ?_
      refine ab_cV (as := []) (st := [.int (nI (sp_fo (sp_ok1 T Z) j)), .ref 30]) (ct_M_mineNow l _ nr hh g rr (md_bd_kr hf0 hB) ht) mo_M_mineNow mi_M_mineNow ml_M_213 rfl (by decide) rfl rfl rfl (Nat.le_of_ble_eq_true rfl) de_M_counts_43 (fun v_ M_ hK_ hl_ hv_ => ?_)
      obtain ⟨rfl, hm_⟩ := hK_
      have hm_ := hm_.symm
      subst hm_
      change ab_G _ _ _ _ _ _ _ [(0, .ref 30), (2, .int (nI (sp_rv (sp_ok1 T Z) x))), (3, .int (nI j))] [.int (nI m), .int (nI (sp_fo (sp_ok1 T Z) j)), .ref 30] (ab_S nr hh g rr) _
      refine ab_aload_n de_M_counts_46 0 rfl ?_
      refine ab_cV (as := []) (st := [.int (nI m), .int (nI (sp_fo (sp_ok1 T Z) j)), .ref 30]) (ct_M_itsNow l _ nr hh g rr (md_bd_kr hf0 hB) ht) mo_M_itsNow mi_M_itsNow ml_M_216 rfl (by decide) rfl rfl rfl (Nat.le_of_ble_eq_true rfl) de_M_counts_47 (fun v_ M_ hK_ hl_ hv_ => ?_)
      obtain ⟨rfl, hm_⟩ := hK_
      have hm_ := hm_.symm
      subst hm_
      change ab_G _ _ _ _ _ _ _ [(0, .ref 30), (2, .int (nI (sp_rv (sp_ok1 T Z) x))), (3, .int (nI j))] [.int (nI i), .int (nI m), .int (nI (sp_fo (sp_ok1 T Z) j)), .ref 30] (ab_S nr hh g rr) _
      refine ab_iconst (v := 0) de_M_counts_50 rfl ?_
      refine ab_cV (as := [.int (nI (sp_fo (sp_ok1 T Z) j)), .int (nI m), .int (nI i), .int (0 : Int32)]) (st := []) (ct_M_lists l _ nr hh g rr (md_T_kr hf0 hTM) hO (c := sp_fo (sp_ok1 T Z) j) (sp_fo_ok (f := (sp_ok1 T Z)) (by omega)).1 hm hi (p0 := 0) (by omega)) mo_M_lists mi_M_lists ml_M_219 rfl (by decide) rfl rfl rfl (Nat.le_of_ble_eq_true rfl) de_M_counts_51 (fun v_ M_ hK_ hl_ hv_ => ?_)
      obtain ⟨rfl, h1_, rfl, s1_, s2_⟩ := hK_
      change ab_G _ _ _ _ _ _ _ [(0, .ref 30), (2, .int (nI (sp_rv (sp_ok1 T Z) x))), (3, .int (nI j))] [.int (nI (sp_ml T (sp_lv T (sp_fo (sp_ok1 T Z) j) m i) m i).length)] (ab_S nr h1_ g rr) _
      refine ab_istore (L' := [(4, .int (nI (sp_ml T (sp_lv T (sp_fo (sp_ok1 T Z) j) m i) m i).length)), (0, .ref 30), (2, .int (nI (sp_rv (sp_ok1 T Z) x))), (3, .int (nI j))]) de_M_counts_54 (by decide) rfl ?_
      refine ab_iconst (v := 0) de_M_counts_56 rfl ?_
      refine ab_istore (L' := [(5, .int (0 : Int32)), (4, .int (nI (sp_ml T (sp_lv T (sp_fo (sp_ok1 T Z) j) m i) m i).length)), (0, .ref 30), (2, .int (nI (sp_rv (sp_ok1 T Z) x))), (3, .int (nI j))]) de_M_counts_57 (by decide) rfl ?_
      refine ab_sub (L' := [(0, .ref 30), (2, .int (nI (sp_rv (sp_ok1 T Z) x))), (3, .int (nI j)), (4, .int (nI (sp_ml T (sp_lv T (sp_fo (sp_ok1 T Z) j) m i) m i).length)), (5, .int (nI 0))]) [2, 3, 4, 1, 0] rfl ?_
      have c1_ := md_sc_44 s1_
      refine lp_M_counts_i l d nr h1_ g rr (ls := sp_ml T (sp_lv T (sp_fo (sp_ok1 T Z) j) m i) m i) (b := fun v => sp_vt T (sp_ok1 T Z) m i j v) (fun k hk => by have z := s2_ k hk; rwa [Nat.zero_add] at z) (fun a ha => by have := (sp_ml_mv hm ha).1; omega) (by have := md_ml_le T (sp_lv T (sp_fo (sp_ok1 T Z) j) m i) m i; omega) (fun h2_ w1_ w2_ => ?_) ((sp_ml T (sp_lv T (sp_fo (sp_ok1 T Z) j) m i) m i).length + 1) 0 h1_ (by omega) (by omega) (fun _ _ => rfl) (fun v hv => by rw [List.take_zero, List.count_nil, Nat.add_zero]; exact (congrFun (s1_.1 47 (by decide)) v).trans (hf3 v hv))
      have r2_ : ∀ a, a ≠ 44 → a ≠ 47 → h2_ a = hh a := fun a z1 z2 => (w1_ a z2).trans (s1_.1 a z1)
      refine ab_iinc (v := nI (j + 1)) (L' := [(3, .int (nI (j + 1))), (0, .ref 30), (2, .int (nI (sp_rv (sp_ok1 T Z) x)))]) de_M_counts_88 2 rfl (by rw [show Int32.ofInt 1 = nI 1 from rfl, ab_add]) (by decide) rfl ?_
      refine ab_goto (tgt := 30) de_M_counts_91 rfl ?_
      refine ab_sub (L' := [(0, .ref 30), (2, .int (nI (sp_rv (sp_ok1 T Z) x))), (3, .int (nI (j + 1)))]) [1, 2, 0] rfl ?_
      refine ih (j + 1) h2_ (by omega) (by omega) (fun a b n => ?_) ?_ (md_fk_fr (congrFun (r2_ 30 (by decide) (by decide)) 31) (r2_ 45 (by decide) (by decide)) hf2) (fun v hv => ?_)
      · rw [r2_ a (fun z => n (Or.inl ⟨by omega, by omega⟩)) (fun z => n (Or.inl ⟨by omega, by omega⟩))]
        exact hf0 a b n
      · exact md_K_fr (congrFun (r2_ 30 (by decide) (by decide)) 31) (congrFun (r2_ 30 (by decide) (by decide)) 32) (congrFun (r2_ 30 (by decide) (by decide)) 33) (r2_ 45 (by decide) (by decide)) (r2_ 46 (by decide) (by decide)) hf1
      · rw [w2_ v hv, md_ml_ct hO hv, md_vt_s]
set_option maxHeartbeats 1000000 in
set_option maxRecDepth 10000 in
theorem lp_M_counts_0 (l : Launch) (d : Nat) (nr : Nat) (h : Nat → Nat → Int32) (g : Nat → Nat → Int64) (rr : Nat → Option Nat) {T : Nat → Nat → Nat} (hTM : bo_T T h 32) (hO : sp_ok T) {Z : sp_G} (hZ : gm_ok Z) (hG : md_G Z h) (hK : md_K T Z h) {m i t : Nat} (hm : m < 4096) (hi : i < 4096) (ht : t < 2) (hB : md_bd m i t h) {x : Nat} (hx : x < 10) : ∀ (fu_ v : Nat) (hh : Nat → Nat → Int32), v ≤ 256 → 256 < v + fu_ → md_kr h hh → md_K T Z hh → md_fk (sp_ok1 T Z) hh → (∀ w, w < v → hh 47 w = 0) → ab_G l none am_M_counts (d + 9) 0 0 8 [(0, .ref 30), (2, .int (nI (sp_rv (sp_ok1 T Z) x))), (3, .int (nI v))] [] (ab_S nr hh g rr) (fun (r_ : Option Value) (M' : ab_Me) => r_ = some (.int (nI (sp_rv (sp_ok1 T Z) x))) ∧ ∃ h', M' = ab_S nr h' g rr ∧ md_kr h h' ∧ md_K T Z h' ∧ md_fk (sp_ok1 T Z) h' ∧ ∀ v, v < 256 → h' 47 v = nI (sp_vt T (sp_ok1 T Z) m i (sp_rv (sp_ok1 T Z) x) v)) := by
  intro fu_
  induction fu_ with
  | zero => intro v hh h1 h2; omega
  | succ fu_ ih =>
    intro v hh hN_ hn_ hf0 hf1 hf2 hf3
    refine ab_iload_n de_M_counts_8 2 rfl ?_
    refine ab_sipush (v := 256) de_M_counts_9 rfl ?_
    refine ab_icmp_ge (tgt := 28) de_M_counts_12 rfl (fun c_12_1 => ?_) (fun c_12_1 => ?_)
    · have hv := ab_le_of (n := 256) (by decide) (by omega) rfl c_12_1
      refine ab_iconst (v := 0) de_M_counts_28 rfl ?_
      refine ab_istore_n (L' := [(3, .int (0 : Int32)), (0, .ref 30), (2, .int (nI (sp_rv (sp_ok1 T Z) x)))]) de_M_counts_29 (by decide) rfl ?_
      refine ab_sub (L' := [(0, .ref 30), (2, .int (nI (sp_rv (sp_ok1 T Z) x))), (3, .int (nI 0))]) [1, 2, 0] rfl ?_
      exact lp_M_counts l d nr h g rr hTM hO hZ hG hK hm hi ht hB hx ((sp_rv (sp_ok1 T Z) x) + 1) 0 hh (by omega) (by omega) hf0 hf1 hf2 (fun w hw => hf3 w (by omega))
    · have hv := ab_nle_of (n := 256) (by decide) (by omega) rfl c_12_1
      refine ab_aload_n de_M_counts_15 0 rfl ?_
      refine ab_get (v := .ref 47) fl_M_69 rfl rfl de_M_counts_16 ?_
      refine ab_iload_n de_M_counts_19 2 rfl ?_
      refine ab_iconst (v := 0) de_M_counts_20 rfl ?_
      refine ab_iast (x := 47) rfl (ab_in (by omega) (by decide)) de_M_counts_21 ?_
      rw [(ab_tn (n := v) (by omega))]
      change ab_G _ _ _ _ _ _ _ _ _ (ab_S nr (ab_u2 hh 47 v (0 : Int32)) g rr) _
      refine ab_iinc (v := nI (v + 1)) (L' := [(3, .int (nI (v + 1))), (0, .ref 30), (2, .int (nI (sp_rv (sp_ok1 T Z) x)))]) de_M_counts_22 2 rfl (by rw [show Int32.ofInt 1 = nI 1 from rfl, ab_add]) (by decide) rfl ?_
      refine ab_goto (tgt := 8) de_M_counts_25 rfl ?_
      refine ab_sub (L' := [(0, .ref 30), (2, .int (nI (sp_rv (sp_ok1 T Z) x))), (3, .int (nI (v + 1)))]) [1, 2, 0] rfl ?_
      exact ih (v + 1) _ (by omega) (by omega) (md_kr_put hf0 (Or.inl (by decide)) _) (md_K_fr (ab_u2_k (by decide)) (ab_u2_k (by decide)) (ab_u2_k (by decide)) (ab_u2_row (by decide)) (ab_u2_row (by decide)) hf1) (md_fk_fr (ab_u2_k (by decide)) (ab_u2_row (by decide)) hf2) (fun w hw => by
        by_cases e_ : w = v
        · rw [e_]; exact ab_u2_at
        · rw [ab_u2_ne (fun z => e_ z.2)]; exact hf3 w (by omega))
set_option maxHeartbeats 1000000 in
set_option maxRecDepth 10000 in
theorem ct_M_counts (l : Launch) (d : Nat) (nr : Nat) (h : Nat → Nat → Int32) (g : Nat → Nat → Int64) (rr : Nat → Option Nat) {T : Nat → Nat → Nat} (hTM : bo_T T h 32) (hO : sp_ok T) {Z : sp_G} (hZ : gm_ok Z) (hG : md_G Z h) (hK : md_K T Z h) {m i t : Nat} (hm : m < 4096) (hi : i < 4096) (ht : t < 2) (hB : md_bd m i t h) {x : Nat} (hx : x < 10) : ab_C l am_M_counts (d + 9) 0 0 [.ref 30, .int (nI x)] (ab_S nr h g rr) (fun (r_ : Option Value) (M' : ab_Me) => r_ = some (.int (nI (sp_rv (sp_ok1 T Z) x))) ∧ ∃ h', M' = ab_S nr h' g rr ∧ md_kr h h' ∧ md_K T Z h' ∧ md_fk (sp_ok1 T Z) h' ∧ ∀ v, v < 256 → h' 47 v = nI (sp_vt T (sp_ok1 T Z) m i (sp_rv (sp_ok1 T Z) x) v)) := by
  refine ab_C_of (by decide +kernel) rfl (Nat.le_of_ble_eq_true rfl) ?_
  refine ab_aload_n de_M_counts_0 0 rfl ?_
  refine ab_iload_n de_M_counts_1 1 rfl ?_
  refine ab_cV (as := [.int (nI x)]) (st := []) (ct_M_rivalsBy l _ nr h g rr (md_T_kr (md_kr_rf h) hTM) hO hZ (md_G_kr (md_kr_rf h) hG) hK (x := x) (by omega)) mo_M_rivalsBy mi_M_rivalsBy ml_M_269 rfl (by decide) rfl rfl rfl (Nat.le_of_ble_eq_true rfl) de_M_counts_2 (fun v_ M_ hK_ hl_ hv_ => ?_)
  obtain ⟨rfl, h1_, rfl, k1_, kk_h1_, k2_⟩ := hK_
  change ab_G _ _ _ _ _ _ _ [(0, .ref 30), (1, .int (nI x))] [.int (nI (sp_rv (sp_ok1 T Z) x))] (ab_S nr h1_ g rr) _
  have ff_h1_ : md_kr h h1_ := md_kr_tr (md_kr_rf h) k1_
  have fo_h1_ := k2_.2
  refine ab_istore_n (L' := [(2, .int (nI (sp_rv (sp_ok1 T Z) x))), (0, .ref 30), (1, .int (nI x))]) de_M_counts_5 (by decide) rfl ?_
  refine ab_iconst (v := 0) de_M_counts_6 rfl ?_
  refine ab_istore_n (L' := [(3, .int (0 : Int32)), (2, .int (nI (sp_rv (sp_ok1 T Z) x))), (0, .ref 30), (1, .int (nI x))]) de_M_counts_7 (by decide) rfl ?_
  refine ab_sub (L' := [(0, .ref 30), (2, .int (nI (sp_rv (sp_ok1 T Z) x))), (3, .int (nI 0))]) [2, 1, 0] rfl ?_
  refine ab_wk (fun r_ M_ z => ?_) (lp_M_counts_0 l d nr h g rr hTM hO hZ hG hK hm hi ht hB hx 257 0 h1_ (by omega) (by omega) ff_h1_ kk_h1_ k2_ (fun w hw => absurd hw (Nat.not_lt_zero w)))
  exact z
