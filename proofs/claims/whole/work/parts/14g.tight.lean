/-! TIGHT and CHEAT -/
def sp_lw (w : Nat → Nat) (j : Nat) : Nat := if j = 0 then 2147483647 else w (sp_bi w j)
def sp_lk (f : Nat → Bool) (w : Nat → Nat) (j : Nat) : Int32 := if j = 0 then -1 else nI (sp_fo f (sp_bi w j))
theorem sp_bi_a {w : Nat → Nat} {j : Nat} (h : w j < sp_lw w j) : sp_bi w (j + 1) = j := by
  rw [sp_bi]
  by_cases h0 : j = 0
  · rw [if_pos h0, h0]
  · rw [if_neg h0]
    unfold sp_lw at h
    rw [if_neg h0] at h
    rw [if_pos h]
theorem sp_bi_b {w : Nat → Nat} {j : Nat} (hw : w j < 2147483647) (h : ¬ w j < sp_lw w j) : ¬ j = 0 ∧ sp_bi w (j + 1) = sp_bi w j := by
  by_cases h0 : j = 0
  · unfold sp_lw at h
    rw [if_pos h0] at h
    exact absurd hw h
  · refine ⟨h0, ?_⟩
    rw [sp_bi, if_neg h0]
    unfold sp_lw at h
    rw [if_neg h0] at h
    rw [if_neg h]
theorem sp_lw_a {w : Nat → Nat} {j : Nat} (h : w j < sp_lw w j) : sp_lw w (j + 1) = w j := by
  show (if j + 1 = 0 then _ else w (sp_bi w (j + 1))) = _
  rw [if_neg (Nat.succ_ne_zero j), sp_bi_a h]
theorem sp_lw_b {w : Nat → Nat} {j : Nat} (hw : w j < 2147483647) (h : ¬ w j < sp_lw w j) : sp_lw w (j + 1) = sp_lw w j := by
  obtain ⟨h0, e⟩ := sp_bi_b hw h
  show (if j + 1 = 0 then _ else w (sp_bi w (j + 1))) = (if j = 0 then _ else w (sp_bi w j))
  rw [if_neg (Nat.succ_ne_zero j), if_neg h0, e]
theorem sp_lk_a {f : Nat → Bool} {w : Nat → Nat} {j : Nat} (h : w j < sp_lw w j) : sp_lk f w (j + 1) = nI (sp_fo f j) := by
  show (if j + 1 = 0 then _ else nI (sp_fo f (sp_bi w (j + 1)))) = _
  rw [if_neg (Nat.succ_ne_zero j), sp_bi_a h]
theorem sp_lk_b {f : Nat → Bool} {w : Nat → Nat} {j : Nat} (hw : w j < 2147483647) (h : ¬ w j < sp_lw w j) : sp_lk f w (j + 1) = sp_lk f w j := by
  obtain ⟨h0, e⟩ := sp_bi_b hw h
  show (if j + 1 = 0 then _ else nI (sp_fo f (sp_bi w (j + 1)))) = (if j = 0 then _ else nI (sp_fo f (sp_bi w j)))
  rw [if_neg (Nat.succ_ne_zero j), if_neg h0, e]
theorem sp_lw_lt {T : Nat → Nat → Nat} {Z : sp_G} (hZ : gm_ok Z) (j : Nat) : sp_lw (sp_wf T Z) j < 2 ^ 31 := by
  unfold sp_lw
  split
  · decide
  · have := sp_wd_le (T := T) (c := sp_fo (sp_ok1 T Z) (sp_bi (sp_wf T Z) j)) hZ
    show sp_wd T _ Z < _
    omega
/-- a base that was measured tells nothing new -/
theorem sp_wf_b {T : Nat → Nat → Nat} {Z : sp_G} (hZ : gm_ok Z) {i j : Nat} (hi : i < sp_to (sp_ok1 T Z)) (hj : j < sp_to (sp_ok1 T Z)) (h : sp_fo (sp_ok1 T Z) i % 512 = sp_fo (sp_ok1 T Z) j % 512) : sp_wf T Z i = sp_wf T Z j := by
  unfold sp_wf
  rw [sp_wd_b hZ (sp_ok1_iff.mp (sp_fo_ok hi).2.1).2, sp_wd_b hZ (sp_ok1_iff.mp (sp_fo_ok hj).2.1).2, h]
theorem sp_me_w {T : Nat → Nat → Nat} {Z : sp_G} (hZ : gm_ok Z) {j : Nat} (hj : j < sp_to (sp_ok1 T Z)) (h : sp_any (fun i => decide (sp_fo (sp_ok1 T Z) i % 512 = sp_fo (sp_ok1 T Z) j % 512)) j = true) : ¬ sp_wf T Z j < sp_lw (sp_wf T Z) j := by
  obtain ⟨i, hi, e⟩ := (sp_any_iff _ _).mp h
  have e' := of_decide_eq_true e
  have h1 := sp_wf_b hZ (show i < sp_to (sp_ok1 T Z) by omega) hj e'
  have h2 := sp_bi_le (sp_wf T Z) j i hi
  unfold sp_lw
  rw [if_neg (by omega)]
  omega
theorem sp_any_s (f : Nat → Bool) (n : Nat) : sp_any f (n + 1) = (sp_any f n || f n) := rfl
set_option maxHeartbeats 1000000 in
set_option maxRecDepth 10000 in
theorem lp_F_tightest (l : Launch) (d : Nat) (nr : Nat) (h : Nat → Nat → Int32) (g : Nat → Nat → Int64) (rr : Nat → Option Nat) {T : Nat → Nat → Nat} (hT : bo_T T h 17) (hO : sp_ok T) {Z : sp_G} (hZ : gm_ok Z) (hG : gm_C Z h) (hK : fk_ok (sp_ok1 T Z) h) (h0_ : ¬ sp_to (sp_ok1 T Z) = 0) (hr_ : (sp_rv (sp_ok1 T Z) 9) ≤ sp_to (sp_ok1 T Z)) (hr4 : sp_to (sp_ok1 T Z) ≤ 4096) (hr0 : 1 ≤ (sp_rv (sp_ok1 T Z) 9)) : ∀ (fu_ j : Nat) (hh : Nat → Nat → Int32), j ≤ (sp_rv (sp_ok1 T Z) 9) → (sp_rv (sp_ok1 T Z) 9) < j + fu_ → (∀ a, a ≠ 14 → a ≠ 25 → hh a = h a) → (∀ b, b ≠ 10 → hh 14 b = h 14 b) → hh 14 10 = sp_lk (sp_ok1 T Z) (sp_wf T Z) j → (∀ b, b < 512 → hh 25 b = nI (sp_any (fun i => decide (sp_fo (sp_ok1 T Z) i % 512 = b)) j).toNat) → ab_G l none am_F_tightest (d + 5) 0 0 32 [(0, .ref 14), (1, .int (nI (sp_rv (sp_ok1 T Z) 9))), (2, .int (nI (sp_lw (sp_wf T Z) j))), (3, .int (nI j))] [] (ab_S nr hh g rr) (fun (r_ : Option Value) (M' : ab_Me) => r_ = some (.int (nI (sp_ti T Z))) ∧ ∃ h', M' = ab_S nr h' g rr ∧ (∀ a, a ≠ 14 → a ≠ 25 → h' a = h a) ∧ (∀ b, b ≠ 10 → h' 14 b = h 14 b) ∧ h' 14 10 = nI (sp_ti T Z)) := by
  intro fu_
  induction fu_ with
  | zero => intro j hh h1 h2; omega
  | succ fu_ ih =>
    intro j hh hN_ hn_ hf0_ hf1 hf2 hf3
    refine ab_iload_n de_F_tightest_32 3 rfl ?_
    refine ab_iload_n de_F_tightest_33 1 rfl ?_
    refine ab_icmp_ge (tgt := 111) de_F_tightest_34 rfl (fun c_34_1 => ?_) (fun c_34_1 => ?_)
    · have hj := (ab_le (by omega) (by omega)).mp c_34_1
      refine ab_aload_n de_F_tightest_111 0 rfl ?_
      refine ab_get (v := .int (hh 14 10)) fl_F_50 rfl rfl de_F_tightest_112 ?_
      exact ab_ret (v := some (.int (hh 14 10))) de_F_tightest_115 ⟨_, rfl⟩ ⟨congrArg (fun z => some (Value.int z)) (by rw [hf2, show j = (sp_rv (sp_ok1 T Z) 9) by omega]; unfold sp_lk sp_ti; rw [if_neg (by omega)]), hh, rfl, hf0_, hf1, by rw [hf2, show j = (sp_rv (sp_ok1 T Z) 9) by omega]; unfold sp_lk sp_ti; rw [if_neg (by omega)]⟩
    · have hj := Nat.lt_of_not_le (fun z_ => c_34_1 ((ab_le (by omega) (by omega)).mpr z_))
      have fo_ := sp_fo_ok (f := (sp_ok1 T Z)) (i := j) (by omega)
      have lw_ := sp_lw_lt (T := T) hZ j
      have wf_ : sp_wf T Z j ≤ 23040 := sp_wd_le hZ
      refine ab_aload_n de_F_tightest_37 0 rfl ?_
      refine ab_get (v := .ref 22) fl_F_23 rfl rfl de_F_tightest_38 ?_
      refine ab_iload_n de_F_tightest_41 3 rfl ?_
      refine ab_iald (v := hh 22 j) rfl (ab_in (by omega) (by decide)) (ab_hv (ab_tn (n := j) (by omega))) de_F_tightest_42 ?_
      refine ab_top (v' := nI (sp_fo (sp_ok1 T Z) j)) ((congrFun (hf0_ 22 (by decide) (by decide)) j).trans (hK.2.2 j (by omega))) ?_
      refine ab_sipush (v := 512) de_F_tightest_43 rfl ?_
      refine ab_irem de_F_tightest_46 (by decide) ?_
      refine ab_top (v' := nI (sp_fo (sp_ok1 T Z) j % 512)) (ab_rem (b := 512) (by omega) (by decide)) ?_
      refine ab_istore (L' := [(4, .int (nI (sp_fo (sp_ok1 T Z) j % 512))), (0, .ref 14), (1, .int (nI (sp_rv (sp_ok1 T Z) 9))), (2, .int (nI (sp_lw (sp_wf T Z) j))), (3, .int (nI j))]) de_F_tightest_47 (by decide) rfl ?_
      refine ab_aload_n de_F_tightest_49 1 rfl ?_
      refine ab_get (v := .ref 25) fl_F_37 rfl rfl de_F_tightest_50 ?_
      refine ab_iload de_F_tightest_53 0 rfl ?_
      refine ab_iald (v := hh 25 (sp_fo (sp_ok1 T Z) j % 512)) rfl (ab_in (by omega) (by decide)) (ab_hv (ab_tn (n := sp_fo (sp_ok1 T Z) j % 512) (by omega))) de_F_tightest_55 ?_
      refine ab_top (v' := nI (sp_any (fun i => decide (sp_fo (sp_ok1 T Z) i % 512 = sp_fo (sp_ok1 T Z) j % 512)) j).toNat) (hf3 _ (by omega)) ?_
      refine ab_if_eq (tgt := 63) de_F_tightest_56 rfl (fun c_56_2 => ?_) (fun c_56_2 => ?_)
      · refine ab_aload_n de_F_tightest_63 1 rfl ?_
        refine ab_get (v := .ref 15) fl_F_12 rfl rfl de_F_tightest_64 ?_
        refine ab_aload_n de_F_tightest_67 1 rfl ?_
        refine ab_get (v := .ref 22) fl_F_23 rfl rfl de_F_tightest_68 ?_
        refine ab_iload_n de_F_tightest_71 4 rfl ?_
        refine ab_iald (v := hh 22 j) rfl (ab_in (by omega) (by decide)) (ab_hv (ab_tn (n := j) (by omega))) de_F_tightest_72 ?_
        refine ab_top (v' := nI (sp_fo (sp_ok1 T Z) j)) ((congrFun (hf0_ 22 (by decide) (by decide)) j).trans (hK.2.2 j (by omega))) ?_
        refine ab_cV (as := [.int (nI (sp_fo (sp_ok1 T Z) j))]) (st := []) (ct_G_width l _ nr hh g rr (bo_T_fr (hf0_ 17 (by decide) (by decide)) hT) hO hZ (gm_C_fr (hf0_ 15 (by decide) (by decide)) (hf0_ 18 (by decide) (by decide)) (hf0_ 19 (by decide) (by decide)) (hf0_ 20 (by decide) (by decide)) (hf0_ 21 (by decide) (by decide)) hG) (c := sp_fo (sp_ok1 T Z) j) fo_.1) mo_G_width mi_G_width ml_F_94 rfl (by decide) rfl rfl rfl (Nat.le_of_ble_eq_true rfl) de_F_tightest_73 (fun v_ M_ hK_ hl_ hv_ => ?_)
        obtain ⟨rfl, hm_⟩ := hK_
        have hm_ := hm_.symm
        subst hm_
        change ab_G _ _ _ _ _ _ _ [(4, .int (nI (sp_fo (sp_ok1 T Z) j % 512))), (0, .ref 14), (1, .int (nI (sp_rv (sp_ok1 T Z) 9))), (2, .int (nI (sp_lw (sp_wf T Z) j))), (3, .int (nI j))] [.int (nI (sp_wf T Z j))] (ab_S nr hh g rr) _
        refine ab_istore (L' := [(5, .int (nI (sp_wf T Z j))), (4, .int (nI (sp_fo (sp_ok1 T Z) j % 512))), (0, .ref 14), (1, .int (nI (sp_rv (sp_ok1 T Z) 9))), (2, .int (nI (sp_lw (sp_wf T Z) j))), (3, .int (nI j))]) de_F_tightest_76 (by decide) rfl ?_
        refine ab_aload_n de_F_tightest_78 2 rfl ?_
        refine ab_get (v := .ref 25) fl_F_37 rfl rfl de_F_tightest_79 ?_
        refine ab_iload de_F_tightest_82 1 rfl ?_
        refine ab_iconst (v := 1) de_F_tightest_84 rfl ?_
        refine ab_iast (x := 25) rfl (ab_in (by omega) (by decide)) de_F_tightest_85 ?_
        rw [ab_tn (n := sp_fo (sp_ok1 T Z) j % 512) (by omega)]
        change ab_G _ _ _ _ _ _ _ _ _ (ab_S nr (ab_u2 hh 25 (sp_fo (sp_ok1 T Z) j % 512) (1 : Int32)) g rr) _
        refine ab_iload de_F_tightest_86 0 rfl ?_
        refine ab_iload_n de_F_tightest_88 4 rfl ?_
        refine ab_icmp_ge (tgt := 105) de_F_tightest_89 rfl (fun c_89_3 => ?_) (fun c_89_3 => ?_)
        · refine ab_iinc (v := nI (j + 1)) (L' := [(3, .int (nI (j + 1))), (5, .int (nI (sp_wf T Z j))), (4, .int (nI (sp_fo (sp_ok1 T Z) j % 512))), (0, .ref 14), (1, .int (nI (sp_rv (sp_ok1 T Z) 9))), (2, .int (nI (sp_lw (sp_wf T Z) j)))]) de_F_tightest_105 5 rfl (by rw [show Int32.ofInt 1 = nI 1 from rfl, ab_add]) (by decide) rfl ?_
          refine ab_goto (tgt := 32) de_F_tightest_108 rfl ?_
          refine ab_sub (L' := [(0, .ref 14), (1, .int (nI (sp_rv (sp_ok1 T Z) 9))), (2, .int (nI (sp_lw (sp_wf T Z) j))), (3, .int (nI (j + 1)))]) [3, 4, 5, 0] rfl ?_
          have nl_ : ¬ sp_wf T Z j < sp_lw (sp_wf T Z) j := by have := (ab_le (by omega) (by omega)).mp c_89_3; omega
          have e1_ := sp_lw_b (by omega) nl_
          have e2_ := sp_lk_b (f := (sp_ok1 T Z)) (by omega) nl_
          have z_ := ih (j + 1) (ab_u2 hh 25 (sp_fo (sp_ok1 T Z) j % 512) (1 : Int32)) (by omega) (by omega) (fun a h1 h2 => by rw [ab_u2_row h2]; exact hf0_ a h1 h2) (fun b hb => by rw [ab_u2_k (by decide)]; exact hf1 b hb) (by rw [ab_u2_k (by decide), e2_]; exact hf2) (fun b hb => by
            rw [sp_any_s]
            by_cases e : b = sp_fo (sp_ok1 T Z) j % 512
            · rw [e, ab_u2_at, decide_eq_true rfl, Bool.or_true]; rfl
            · rw [ab_u2_ne (fun z => e z.2), decide_eq_false (fun z => e z.symm), Bool.or_false]; exact hf3 b hb)
          rw [e1_] at z_
          exact z_
        · refine ab_iload de_F_tightest_92 0 rfl ?_
          refine ab_istore_n (L' := [(2, .int (nI (sp_wf T Z j))), (5, .int (nI (sp_wf T Z j))), (4, .int (nI (sp_fo (sp_ok1 T Z) j % 512))), (0, .ref 14), (1, .int (nI (sp_rv (sp_ok1 T Z) 9))), (3, .int (nI j))]) de_F_tightest_94 (by decide) rfl ?_
          refine ab_aload_n de_F_tightest_95 3 rfl ?_
          refine ab_aload_n de_F_tightest_96 3 rfl ?_
          refine ab_get (v := .ref 22) fl_F_23 rfl rfl de_F_tightest_97 ?_
          refine ab_iload_n de_F_tightest_100 5 rfl ?_
          refine ab_iald (v := (ab_u2 hh 25 (sp_fo (sp_ok1 T Z) j % 512) (1 : Int32)) 22 j) rfl (ab_in (by omega) (by decide)) (ab_hv (ab_tn (n := j) (by omega))) de_F_tightest_101 ?_
          refine ab_top (v' := nI (sp_fo (sp_ok1 T Z) j)) ((ab_u2_k (by decide)).trans ((congrFun (hf0_ 22 (by decide) (by decide)) j).trans (hK.2.2 j (by omega)))) ?_
          refine ab_putI (x := 14) (j := 10) fl_F_50 rfl (Or.inl rfl) rfl rfl rfl de_F_tightest_102 ?_
          change ab_G _ _ _ _ _ _ _ _ _ (ab_S nr (ab_u2 (ab_u2 hh 25 (sp_fo (sp_ok1 T Z) j % 512) (1 : Int32)) 14 10 (nI (sp_fo (sp_ok1 T Z) j))) g rr) _
          refine ab_iinc (v := nI (j + 1)) (L' := [(3, .int (nI (j + 1))), (2, .int (nI (sp_wf T Z j))), (5, .int (nI (sp_wf T Z j))), (4, .int (nI (sp_fo (sp_ok1 T Z) j % 512))), (0, .ref 14), (1, .int (nI (sp_rv (sp_ok1 T Z) 9)))]) de_F_tightest_105 5 rfl (by rw [show Int32.ofInt 1 = nI 1 from rfl, ab_add]) (by decide) rfl ?_
          refine ab_goto (tgt := 32) de_F_tightest_108 rfl ?_
          refine ab_sub (L' := [(0, .ref 14), (1, .int (nI (sp_rv (sp_ok1 T Z) 9))), (2, .int (nI (sp_wf T Z j))), (3, .int (nI (j + 1)))]) [4, 5, 1, 0] rfl ?_
          have nl_ : sp_wf T Z j < sp_lw (sp_wf T Z) j := Nat.lt_of_not_le (fun z => c_89_3 ((ab_le (by omega) (by omega)).mpr z))
          have e1_ := sp_lw_a nl_
          have e2_ := sp_lk_a (f := (sp_ok1 T Z)) nl_
          have z_ := ih (j + 1) (ab_u2 (ab_u2 hh 25 (sp_fo (sp_ok1 T Z) j % 512) (1 : Int32)) 14 10 (nI (sp_fo (sp_ok1 T Z) j))) (by omega) (by omega) (fun a h1 h2 => by rw [ab_u2_row h1, ab_u2_row h2]; exact hf0_ a h1 h2) (fun b hb => by rw [ab_u2_ne (by omega), ab_u2_k (by decide)]; exact hf1 b hb) (by rw [ab_u2_at, e2_]) (fun b hb => by
            rw [sp_any_s]
            by_cases e : b = sp_fo (sp_ok1 T Z) j % 512
            · rw [e, ab_u2_k (by decide), ab_u2_at, decide_eq_true rfl, Bool.or_true]; rfl
            · rw [ab_u2_k (by decide), ab_u2_ne (fun z => e z.2), decide_eq_false (fun z => e z.symm), Bool.or_false]; exact hf3 b hb)
          rw [e1_] at z_
          exact z_
      · refine ab_iload_n de_F_tightest_59 3 rfl ?_
        refine ab_goto (tgt := 76) de_F_tightest_60 rfl ?_
        refine ab_istore (L' := [(5, .int (nI (sp_lw (sp_wf T Z) j))), (4, .int (nI (sp_fo (sp_ok1 T Z) j % 512))), (0, .ref 14), (1, .int (nI (sp_rv (sp_ok1 T Z) 9))), (2, .int (nI (sp_lw (sp_wf T Z) j))), (3, .int (nI j))]) de_F_tightest_76 (by decide) rfl ?_
        refine ab_aload_n de_F_tightest_78 2 rfl ?_
        refine ab_get (v := .ref 25) fl_F_37 rfl rfl de_F_tightest_79 ?_
        refine ab_iload de_F_tightest_82 1 rfl ?_
        refine ab_iconst (v := 1) de_F_tightest_84 rfl ?_
        refine ab_iast (x := 25) rfl (ab_in (by omega) (by decide)) de_F_tightest_85 ?_
        rw [ab_tn (n := sp_fo (sp_ok1 T Z) j % 512) (by omega)]
        change ab_G _ _ _ _ _ _ _ _ _ (ab_S nr (ab_u2 hh 25 (sp_fo (sp_ok1 T Z) j % 512) (1 : Int32)) g rr) _
        refine ab_iload de_F_tightest_86 0 rfl ?_
        refine ab_iload_n de_F_tightest_88 4 rfl ?_
        refine ab_icmp_ge (tgt := 105) de_F_tightest_89 rfl (fun c_89_4 => ?_) (fun c_89_4 => ?_)
        · refine ab_iinc (v := nI (j + 1)) (L' := [(3, .int (nI (j + 1))), (5, .int (nI (sp_lw (sp_wf T Z) j))), (4, .int (nI (sp_fo (sp_ok1 T Z) j % 512))), (0, .ref 14), (1, .int (nI (sp_rv (sp_ok1 T Z) 9))), (2, .int (nI (sp_lw (sp_wf T Z) j)))]) de_F_tightest_105 5 rfl (by rw [show Int32.ofInt 1 = nI 1 from rfl, ab_add]) (by decide) rfl ?_
          refine ab_goto (tgt := 32) de_F_tightest_108 rfl ?_
          refine ab_sub (L' := [(0, .ref 14), (1, .int (nI (sp_rv (sp_ok1 T Z) 9))), (2, .int (nI (sp_lw (sp_wf T Z) j))), (3, .int (nI (j + 1)))]) [3, 4, 5, 0] rfl ?_
          have nl_ := sp_me_w hZ (show j < sp_to (sp_ok1 T Z) by omega) (ts_f c_56_2)
          have e1_ := sp_lw_b (by omega) nl_
          have e2_ := sp_lk_b (f := (sp_ok1 T Z)) (by omega) nl_
          have z_ := ih (j + 1) (ab_u2 hh 25 (sp_fo (sp_ok1 T Z) j % 512) (1 : Int32)) (by omega) (by omega) (fun a h1 h2 => by rw [ab_u2_row h2]; exact hf0_ a h1 h2) (fun b hb => by rw [ab_u2_k (by decide)]; exact hf1 b hb) (by rw [ab_u2_k (by decide), e2_]; exact hf2) (fun b hb => by
            rw [sp_any_s]
            by_cases e : b = sp_fo (sp_ok1 T Z) j % 512
            · rw [e, ab_u2_at, decide_eq_true rfl, Bool.or_true]; rfl
            · rw [ab_u2_ne (fun z => e z.2), decide_eq_false (fun z => e z.symm), Bool.or_false]; exact hf3 b hb)
          rw [e1_] at z_
          exact z_
        · exact absurd (Int32.le_refl _) c_89_4
theorem sp_rv_pos {f : Nat → Bool} (h : ¬ sp_to f = 0) (x : Nat) : 1 ≤ sp_rv f x := (sp_rv_iff (f := f) (x := x) (i := 0) (by omega)).mpr (by omega)
theorem sp_ti_lt {T : Nat → Nat → Nat} {Z : sp_G} (h : ¬ sp_to (sp_ok1 T Z) = 0) : sp_ti T Z < 4096 := by
  unfold sp_ti
  have h1 := sp_rv_pos h 9
  have h2 := sp_bi_lt (sp_wf T Z) _ h1
  have h3 := sp_rv_le (sp_ok1 T Z) 9
  exact (sp_fo_ok (by omega)).1
set_option maxHeartbeats 1000000 in
set_option maxRecDepth 10000 in
theorem ct_F_tightest_n (l : Launch) (d : Nat) (nr : Nat) (h : Nat → Nat → Int32) (g : Nat → Nat → Int64) (rr : Nat → Option Nat) {T : Nat → Nat → Nat} (hT : bo_T T h 17) (hO : sp_ok T) {Z : sp_G} (hZ : gm_ok Z) (hG : gm_C Z h) (hK : fk_ok (sp_ok1 T Z) h) (h0_ : ¬ sp_to (sp_ok1 T Z) = 0) (hk : h 14 10 = -1) : ab_C l am_F_tightest (d + 5) 0 0 [.ref 14] (ab_S nr h g rr) (fun (r_ : Option Value) (M' : ab_Me) => r_ = some (.int (nI (sp_ti T Z))) ∧ ∃ h', M' = ab_S nr h' g rr ∧ (∀ a, a ≠ 14 → a ≠ 25 → h' a = h a) ∧ (∀ b, b ≠ 10 → h' 14 b = h 14 b) ∧ h' 14 10 = nI (sp_ti T Z)) := by
  have hr0 : 1 ≤ (sp_rv (sp_ok1 T Z) 9) := sp_rv_pos h0_ 9
  refine ab_C_of (by decide +kernel) rfl (Nat.le_of_ble_eq_true rfl) ?_
  refine ab_aload_n de_F_tightest_0 0 rfl ?_
  refine ab_get (v := .int (h 14 10)) fl_F_50 rfl rfl de_F_tightest_1 ?_
  refine ab_top (v' := (-1 : Int32)) (hk) ?_
  refine ab_iconst (v := -1) de_F_tightest_4 rfl ?_
  refine ab_icmp_ne (tgt := 17) de_F_tightest_5 rfl (fun c_5_1 => ?_) (fun c_5_1 => ?_)
  · exact absurd rfl c_5_1
  · refine ab_aload_n de_F_tightest_8 0 rfl ?_
    refine ab_bipush (v := 9) de_F_tightest_9 rfl ?_
    refine ab_cV (as := [.int (9 : Int32)]) (st := []) (ct_F_rivalCount l _ nr h g rr hK (x := 9) (by omega)) mo_F_rivalCount mi_F_rivalCount ml_F_88 rfl (by decide) rfl rfl rfl (Nat.le_of_ble_eq_true rfl) de_F_tightest_11 (fun v_ M_ hK_ hl_ hv_ => ?_)
    obtain ⟨rfl, hm_⟩ := hK_
    have hm_ := hm_.symm
    subst hm_
    change ab_G _ _ _ _ _ _ _ [(0, .ref 14)] [.int (nI (sp_rv (sp_ok1 T Z) 9))] (ab_S nr h g rr) _
    refine ab_goto (tgt := 18) de_F_tightest_14 rfl ?_
    refine ab_istore_n (L' := [(1, .int (nI (sp_rv (sp_ok1 T Z) 9))), (0, .ref 14)]) de_F_tightest_18 (by decide) rfl ?_
    refine ab_ldc co_F_93 de_F_tightest_19 ?_
    refine ab_istore_n (L' := [(2, .int (2147483647 : Int32)), (1, .int (nI (sp_rv (sp_ok1 T Z) 9))), (0, .ref 14)]) de_F_tightest_21 (by decide) rfl ?_
    refine ab_aload_n de_F_tightest_22 2 rfl ?_
    refine ab_get (v := .ref 25) fl_F_37 rfl rfl de_F_tightest_23 ?_
    refine ab_iconst (v := 0) de_F_tightest_26 rfl ?_
    refine ab_cS (as := [.ref 25, .int (0 : Int32)]) (st := []) (ct_A_fillI l _ nr h g rr (x := 25) (n := 512) rfl (by decide) (0 : Int32)) mo_A_fillI ms_A_fillI ml_F_67 rfl rfl (Nat.le_of_ble_eq_true rfl) de_F_tightest_27 (fun v_ M_ hK_ hl_ hv_ => ?_)
    obtain ⟨rfl, hm_⟩ := hK_
    have hm_ := hm_.symm
    subst hm_
    change ab_G _ _ _ _ _ _ _ [(2, .int (2147483647 : Int32)), (1, .int (nI (sp_rv (sp_ok1 T Z) 9))), (0, .ref 14)] [] (ab_S nr (fl_i h 25 512 (0 : Int32)) g rr) _
    refine ab_iconst (v := 0) de_F_tightest_30 rfl ?_
    refine ab_istore_n (L' := [(3, .int (0 : Int32)), (2, .int (2147483647 : Int32)), (1, .int (nI (sp_rv (sp_ok1 T Z) 9))), (0, .ref 14)]) de_F_tightest_31 (by decide) rfl ?_
    refine ab_sub (L' := [(0, .ref 14), (1, .int (nI (sp_rv (sp_ok1 T Z) 9))), (2, .int (nI (sp_lw (sp_wf T Z) 0))), (3, .int (nI 0))]) [3, 2, 1, 0] rfl ?_
    exact lp_F_tightest l _ nr h g rr hT hO hZ hG hK h0_ (sp_rv_le _ 9) sp_to_lt hr0 ((sp_rv (sp_ok1 T Z) 9) + 1) 0 _ (by omega) (by omega) (fun a h1 h2 => funext fun b => fl_k h2) (fun b hb => fl_k (by decide)) ((fl_k (by decide)).trans hk) (fun b hb => by rw [fl_at hb]; rfl)
set_option maxHeartbeats 1000000 in
set_option maxRecDepth 10000 in
theorem ct_F_tightest_k (l : Launch) (d : Nat) (nr : Nat) (h : Nat → Nat → Int32) (g : Nat → Nat → Int64) (rr : Nat → Option Nat) {T : Nat → Nat → Nat} (hT : bo_T T h 17) (hO : sp_ok T) {Z : sp_G} (hZ : gm_ok Z) (hG : gm_C Z h) (hK : fk_ok (sp_ok1 T Z) h) (h0_ : ¬ sp_to (sp_ok1 T Z) = 0) (hk : h 14 10 = nI (sp_ti T Z)) : ab_C l am_F_tightest (d + 5) 0 0 [.ref 14] (ab_S nr h g rr) (fun (r_ : Option Value) (M' : ab_Me) => r_ = some (.int (nI (sp_ti T Z))) ∧ ∃ h', M' = ab_S nr h' g rr ∧ (∀ a, a ≠ 14 → a ≠ 25 → h' a = h a) ∧ (∀ b, b ≠ 10 → h' 14 b = h 14 b) ∧ h' 14 10 = nI (sp_ti T Z)) := by
  refine ab_C_of (by decide +kernel) rfl (Nat.le_of_ble_eq_true rfl) ?_
  refine ab_aload_n de_F_tightest_0 0 rfl ?_
  refine ab_get (v := .int (h 14 10)) fl_F_50 rfl rfl de_F_tightest_1 ?_
  refine ab_top (v' := nI (sp_ti T Z)) (hk) ?_
  refine ab_iconst (v := -1) de_F_tightest_4 rfl ?_
  refine ab_icmp_ne (tgt := 17) de_F_tightest_5 rfl (fun c_5_1 => ?_) (fun c_5_1 => ?_)
  · refine ab_iconst (v := 0) de_F_tightest_17 rfl ?_
    refine ab_istore_n (L' := [(1, .int (0 : Int32)), (0, .ref 14)]) de_F_tightest_18 (by decide) rfl ?_
    refine ab_ldc co_F_93 de_F_tightest_19 ?_
    refine ab_istore_n (L' := [(2, .int (2147483647 : Int32)), (1, .int (0 : Int32)), (0, .ref 14)]) de_F_tightest_21 (by decide) rfl ?_
    refine ab_aload_n de_F_tightest_22 2 rfl ?_
    refine ab_get (v := .ref 25) fl_F_37 rfl rfl de_F_tightest_23 ?_
    refine ab_iconst (v := 0) de_F_tightest_26 rfl ?_
    refine ab_cS (as := [.ref 25, .int (0 : Int32)]) (st := []) (ct_A_fillI l _ nr h g rr (x := 25) (n := 512) rfl (by decide) (0 : Int32)) mo_A_fillI ms_A_fillI ml_F_67 rfl rfl (Nat.le_of_ble_eq_true rfl) de_F_tightest_27 (fun v_ M_ hK_ hl_ hv_ => ?_)
    obtain ⟨rfl, hm_⟩ := hK_
    have hm_ := hm_.symm
    subst hm_
    change ab_G _ _ _ _ _ _ _ [(2, .int (2147483647 : Int32)), (1, .int (0 : Int32)), (0, .ref 14)] [] (ab_S nr (fl_i h 25 512 (0 : Int32)) g rr) _
    refine ab_iconst (v := 0) de_F_tightest_30 rfl ?_
    refine ab_istore_n (L' := [(3, .int (0 : Int32)), (2, .int (2147483647 : Int32)), (1, .int (0 : Int32)), (0, .ref 14)]) de_F_tightest_31 (by decide) rfl ?_
    refine ab_iload_n de_F_tightest_32 0 rfl ?_
    refine ab_iload_n de_F_tightest_33 2 rfl ?_
    refine ab_icmp_ge (tgt := 111) de_F_tightest_34 rfl (fun c_34_2 => ?_) (fun c_34_2 => ?_)
    · refine ab_aload_n de_F_tightest_111 3 rfl ?_
      refine ab_get (v := .int ((fl_i h 25 512 (0 : Int32)) 14 10)) fl_F_50 rfl rfl de_F_tightest_112 ?_
      refine ab_top (v' := nI (sp_ti T Z)) ((fl_k (by decide)).trans hk) ?_
      exact ab_ret (v := some (.int (nI (sp_ti T Z)))) de_F_tightest_115 ⟨_, rfl⟩ ⟨rfl, _, rfl, fun a h1 h2 => funext fun b => fl_k h2, fun b hb => fl_k (by decide), (fl_k (by decide)).trans hk⟩
    · exact absurd (Int32.le_refl _) c_34_2
  · exact absurd c_5_1 (sp_nIm1 (by have := sp_ti_lt h0_; omega))
theorem ct_F_tightest (l : Launch) (d : Nat) (nr : Nat) (h : Nat → Nat → Int32) (g : Nat → Nat → Int64) (rr : Nat → Option Nat) {T : Nat → Nat → Nat} (hT : bo_T T h 17) (hO : sp_ok T) {Z : sp_G} (hZ : gm_ok Z) (hG : gm_C Z h) (hK : fk_ok (sp_ok1 T Z) h) (h0_ : ¬ sp_to (sp_ok1 T Z) = 0) (hk : h 14 10 = -1 ∨ h 14 10 = nI (sp_ti T Z)) : ab_C l am_F_tightest (d + 5) 0 0 [.ref 14] (ab_S nr h g rr) (fun (r_ : Option Value) (M' : ab_Me) => r_ = some (.int (nI (sp_ti T Z))) ∧ ∃ h', M' = ab_S nr h' g rr ∧ (∀ a, a ≠ 14 → a ≠ 25 → h' a = h a) ∧ (∀ b, b ≠ 10 → h' 14 b = h 14 b) ∧ h' 14 10 = nI (sp_ti T Z)) := by
  rcases hk with hk | hk
  · exact ct_F_tightest_n l d nr h g rr hT hO hZ hG hK h0_ hk
  · exact ct_F_tightest_k l d nr h g rr hT hO hZ hG hK h0_ hk
theorem sp_ch_lt {T : Nat → Nat → Nat} {Z : sp_G} (hZ : gm_ok Z) (p k : Nat) : (sp_ch sp_pr (fun c => sp_fy T c Z) p k).1 < 2 ^ 31 := by
  rcases sp_ch_in (pr := sp_pr) (fy := (fun c => sp_fy T c Z)) (p := p) k with h | ⟨-, -, h⟩
  · rw [h]; decide
  · rw [h]
    have := sp_fy_le (T := T) (c := (sp_ch sp_pr (fun c => sp_fy T c Z) p k).2) hZ
    show sp_fy T _ Z < _
    omega
theorem sp_ch_fin {T : Nat → Nat → Nat} {Z : sp_G} (hZ : gm_ok Z) {p k : Nat} (hp : 1 ≤ p) (hk : 128 < k) : ¬ (sp_ch sp_pr (fun c => sp_fy T c Z) p k).1 = 2147483647 := by
  have h1 := sp_ch_le (pr := sp_pr) (fy := (fun c => sp_fy T c Z)) (p := p) (c := 128) (by decide) (show sp_pr 128 ≤ p from hp) k hk
  have h2 := sp_fy_le (T := T) (c := 128) hZ
  have h3 : (sp_ch sp_pr (fun c => sp_fy T c Z) p k).1 ≤ sp_fy T 128 Z := h1
  omega
set_option maxHeartbeats 1000000 in
set_option maxRecDepth 10000 in
theorem lp_F_cheat (l : Launch) (d : Nat) (nr : Nat) (h : Nat → Nat → Int32) (g : Nat → Nat → Int64) (rr : Nat → Option Nat) {T : Nat → Nat → Nat} (hT : bo_T T h 17) (hO : sp_ok T) {Z : sp_G} (hZ : gm_ok Z) (hG : gm_C Z h) {p : Nat} (hp : 1 ≤ p) (hp2 : p ≤ 25) : ∀ (fu_ c : Nat) (hh : Nat → Nat → Int32), c ≤ 4096 → 4096 < c + fu_ → (∀ a, a ≠ 14 → hh a = h a) → (∀ b, b ≠ 12 → hh 14 b = h 14 b) → ((sp_ch sp_pr (fun c => sp_fy T c Z) p c).1 = 2147483647 ∨ hh 14 12 = nI (sp_ch sp_pr (fun c => sp_fy T c Z) p c).2) → (1 ≤ c) → ab_G l none am_F_cheatCode (d + 6) 0 0 18 [(0, .ref 14), (1, .int (nI p)), (2, .int (nI (sp_ch sp_pr (fun c => sp_fy T c Z) p c).1)), (3, .int (nI c))] [] (ab_S nr hh g rr) (fun (r_ : Option Value) (M' : ab_Me) => r_ = some (.int (nI (sp_ch sp_pr (fun c => sp_fy T c Z) p 4096).2)) ∧ ∃ h', M' = ab_S nr h' g rr ∧ (∀ a, a ≠ 14 → h' a = h a) ∧ (∀ b, b ≠ 11 → b ≠ 12 → h' 14 b = h 14 b) ∧ h' 14 11 = nI p ∧ h' 14 12 = nI (sp_ch sp_pr (fun c => sp_fy T c Z) p 4096).2) := by
  intro fu_
  induction fu_ with
  | zero => intro c hh h1 h2; omega
  | succ fu_ ih =>
    intro c hh hN_ hn_ hf0_ hf1 hf2 hf3
    refine ab_iload_n de_F_cheatCode_18 3 rfl ?_
    refine ab_sipush (v := 4096) de_F_cheatCode_19 rfl ?_
    refine ab_icmp_ge (tgt := 68) de_F_cheatCode_22 rfl (fun c_22_1 => ?_) (fun c_22_1 => ?_)
    · have hc := ab_le_of (n := 4096) (by decide) (by omega) rfl c_22_1
      have chl_ := sp_ch_lt (T := T) hZ p c
      refine ab_aload_n de_F_cheatCode_68 0 rfl ?_
      refine ab_iload_n de_F_cheatCode_69 1 rfl ?_
      refine ab_putI (x := 14) (j := 11) fl_F_53 rfl (Or.inl rfl) rfl rfl rfl de_F_cheatCode_70 ?_
      change ab_G _ _ _ _ _ _ _ _ _ (ab_S nr (ab_u2 hh 14 11 (nI p)) g rr) _
      refine ab_aload_n de_F_cheatCode_73 0 rfl ?_
      refine ab_get (v := .int ((ab_u2 hh 14 11 (nI p)) 14 12)) fl_F_56 rfl rfl de_F_cheatCode_74 ?_
      exact ab_ret (v := some (.int ((ab_u2 hh 14 11 (nI p)) 14 12))) de_F_cheatCode_77 ⟨_, rfl⟩ (by
    have e_ := (show (sp_ch sp_pr (fun c => sp_fy T c Z) p c) = (sp_ch sp_pr (fun c => sp_fy T c Z) p 4096) by rw [show c = 4096 by omega])
    rw [e_] at hf2
    have v_ := hf2.resolve_left (sp_ch_fin hZ hp (by decide))
    exact ⟨congrArg (fun z => some (Value.int z)) ((ab_u2_ne (by decide)).trans v_), _, rfl, fun a h1 => by rw [ab_u2_row h1]; exact hf0_ a h1, fun b h1 h2 => by rw [ab_u2_ne (fun z => h1 z.2)]; exact hf1 b h2, ab_u2_at, (ab_u2_ne (by decide)).trans v_⟩)
    · have hc := ab_nle_of (n := 4096) (by decide) (by omega) rfl c_22_1
      have chl_ := sp_ch_lt (T := T) hZ p c
      have pr_ := sp_pr22 c
      have fy_ := sp_fy_le (T := T) (c := c) hZ
      refine ab_iload_n de_F_cheatCode_25 2 rfl ?_
      refine ab_if_le (tgt := 68) de_F_cheatCode_26 rfl (fun c_26_2 => ?_) (fun c_26_2 => ?_)
      · refine ab_aload_n de_F_cheatCode_68 0 rfl ?_
        refine ab_iload_n de_F_cheatCode_69 1 rfl ?_
        refine ab_putI (x := 14) (j := 11) fl_F_53 rfl (Or.inl rfl) rfl rfl rfl de_F_cheatCode_70 ?_
        change ab_G _ _ _ _ _ _ _ _ _ (ab_S nr (ab_u2 hh 14 11 (nI p)) g rr) _
        refine ab_aload_n de_F_cheatCode_73 0 rfl ?_
        refine ab_get (v := .int ((ab_u2 hh 14 11 (nI p)) 14 12)) fl_F_56 rfl rfl de_F_cheatCode_74 ?_
        exact ab_ret (v := some (.int ((ab_u2 hh 14 11 (nI p)) 14 12))) de_F_cheatCode_77 ⟨_, rfl⟩ (by
    have e_ := (sp_ch_0 (n := c) ((show (sp_ch sp_pr (fun c => sp_fy T c Z) p c).1 = 0 by have := (ab_le (b := 0) (by omega) (by decide)).mp c_26_2; omega)) 4096 (by omega)).symm
    rw [e_] at hf2
    have v_ := hf2.resolve_left (sp_ch_fin hZ hp (by decide))
    exact ⟨congrArg (fun z => some (Value.int z)) ((ab_u2_ne (by decide)).trans v_), _, rfl, fun a h1 => by rw [ab_u2_row h1]; exact hf0_ a h1, fun b h1 h2 => by rw [ab_u2_ne (fun z => h1 z.2)]; exact hf1 b h2, ab_u2_at, (ab_u2_ne (by decide)).trans v_⟩)
      · have ch1_ : 1 ≤ (sp_ch sp_pr (fun c => sp_fy T c Z) p c).1 := Nat.lt_of_not_le (fun z => c_26_2 ((ab_le (b := 0) (by omega) (by decide)).mpr z))
        refine ab_iload_n de_F_cheatCode_29 3 rfl ?_
        refine ab_cS (as := [.int (nI c)]) (st := []) (ct_R_priceOf l _ (ab_S nr hh g rr) (c := c) (by omega)) mo_R_priceOf ms_R_priceOf ml_F_77 rfl rfl (Nat.le_of_ble_eq_true rfl) de_F_cheatCode_30 (fun v_ M_ hK_ hl_ hv_ => ?_)
        obtain ⟨rfl, hm_⟩ := hK_
        have hm_ := hm_.symm
        subst hm_
        change ab_G _ _ _ _ _ _ _ [(0, .ref 14), (1, .int (nI p)), (2, .int (nI (sp_ch sp_pr (fun c => sp_fy T c Z) p c).1)), (3, .int (nI c))] [.int (nI (sp_pr c))] (ab_S nr hh g rr) _
        refine ab_iload_n de_F_cheatCode_33 1 rfl ?_
        refine ab_icmp_gt (tgt := 62) de_F_cheatCode_34 rfl (fun c_34_3 => ?_) (fun c_34_3 => ?_)
        · refine ab_iinc (v := nI (c + 1)) (L' := [(3, .int (nI (c + 1))), (0, .ref 14), (1, .int (nI p)), (2, .int (nI (sp_ch sp_pr (fun c => sp_fy T c Z) p c).1))]) de_F_cheatCode_62 3 rfl (by rw [show Int32.ofInt 1 = nI 1 from rfl, ab_add]) (by decide) rfl ?_
          refine ab_goto (tgt := 18) de_F_cheatCode_65 rfl ?_
          refine ab_sub (L' := [(0, .ref 14), (1, .int (nI p)), (2, .int (nI (sp_ch sp_pr (fun c => sp_fy T c Z) p c).1)), (3, .int (nI (c + 1)))]) [1, 2, 3, 0] rfl ?_
          have e_ : (sp_ch sp_pr (fun c => sp_fy T c Z) p (c + 1)) = (sp_ch sp_pr (fun c => sp_fy T c Z) p c) := by rw [sp_ch, if_neg (fun z => by have := (ab_lt (by omega) (by omega)).mp c_34_3; omega)]
          have z_ := ih (c + 1) hh (by omega) (by omega) (hf0_) (hf1) (by rw [e_]; exact hf2) (by omega)
          rw [e_] at z_
          exact z_
        · refine ab_aload_n de_F_cheatCode_37 0 rfl ?_
          refine ab_get (v := .ref 15) fl_F_12 rfl rfl de_F_cheatCode_38 ?_
          refine ab_iload_n de_F_cheatCode_41 3 rfl ?_
          refine ab_iload_n de_F_cheatCode_42 2 rfl ?_
          refine ab_cV (as := [.int (nI c), .int (nI (sp_ch sp_pr (fun c => sp_fy T c Z) p c).1)]) (st := []) (ct_G_faulty l _ nr hh g rr (bo_T_fr (hf0_ 17 (by decide)) hT) hO hZ (gm_C_fr (hf0_ 15 (by decide)) (hf0_ 18 (by decide)) (hf0_ 19 (by decide)) (hf0_ 20 (by decide)) (hf0_ 21 (by decide)) hG) (c := c) (E := (sp_ch sp_pr (fun c => sp_fy T c Z) p c).1) (by omega) ch1_ chl_) mo_G_faulty mi_G_faulty ml_F_120 rfl (by decide) rfl rfl rfl (Nat.le_of_ble_eq_true rfl) de_F_cheatCode_43 (fun v_ M_ hK_ hl_ hv_ => ?_)
          obtain ⟨rfl, hm_⟩ := hK_
          have hm_ := hm_.symm
          subst hm_
          change ab_G _ _ _ _ _ _ _ [(0, .ref 14), (1, .int (nI p)), (2, .int (nI (sp_ch sp_pr (fun c => sp_fy T c Z) p c).1)), (3, .int (nI c))] [.int (nI (if sp_fy T c Z < (sp_ch sp_pr (fun c => sp_fy T c Z) p c).1 then sp_fy T c Z else (sp_ch sp_pr (fun c => sp_fy T c Z) p c).1))] (ab_S nr hh g rr) _
          refine ab_istore (L' := [(4, .int (nI (if sp_fy T c Z < (sp_ch sp_pr (fun c => sp_fy T c Z) p c).1 then sp_fy T c Z else (sp_ch sp_pr (fun c => sp_fy T c Z) p c).1))), (0, .ref 14), (1, .int (nI p)), (2, .int (nI (sp_ch sp_pr (fun c => sp_fy T c Z) p c).1)), (3, .int (nI c))]) de_F_cheatCode_46 (by decide) rfl ?_
          refine ab_iload de_F_cheatCode_48 0 rfl ?_
          refine ab_iload_n de_F_cheatCode_50 3 rfl ?_
          refine ab_icmp_ge (tgt := 62) de_F_cheatCode_51 rfl (fun c_51_4 => ?_) (fun c_51_4 => ?_)
          · refine ab_iinc (v := nI (c + 1)) (L' := [(3, .int (nI (c + 1))), (4, .int (nI (if sp_fy T c Z < (sp_ch sp_pr (fun c => sp_fy T c Z) p c).1 then sp_fy T c Z else (sp_ch sp_pr (fun c => sp_fy T c Z) p c).1))), (0, .ref 14), (1, .int (nI p)), (2, .int (nI (sp_ch sp_pr (fun c => sp_fy T c Z) p c).1))]) de_F_cheatCode_62 4 rfl (by rw [show Int32.ofInt 1 = nI 1 from rfl, ab_add]) (by decide) rfl ?_
            refine ab_goto (tgt := 18) de_F_cheatCode_65 rfl ?_
            refine ab_sub (L' := [(0, .ref 14), (1, .int (nI p)), (2, .int (nI (sp_ch sp_pr (fun c => sp_fy T c Z) p c).1)), (3, .int (nI (c + 1)))]) [2, 3, 4, 0] rfl ?_
            have e_ : (sp_ch sp_pr (fun c => sp_fy T c Z) p (c + 1)) = (sp_ch sp_pr (fun c => sp_fy T c Z) p c) := by
              rw [sp_ch, if_neg (fun z => ?_)]
              have z2 := z.2.2
              have z3 := c_51_4
              rw [if_pos z2] at z3
              have z4 := (ab_le (by omega) (by omega)).mp z3
              omega
            have z_ := ih (c + 1) hh (by omega) (by omega) (hf0_) (hf1) (by rw [e_]; exact hf2) (by omega)
            rw [e_] at z_
            exact z_
          · refine ab_iload de_F_cheatCode_54 0 rfl ?_
            refine ab_istore_n (L' := [(2, .int (nI (if sp_fy T c Z < (sp_ch sp_pr (fun c => sp_fy T c Z) p c).1 then sp_fy T c Z else (sp_ch sp_pr (fun c => sp_fy T c Z) p c).1))), (4, .int (nI (if sp_fy T c Z < (sp_ch sp_pr (fun c => sp_fy T c Z) p c).1 then sp_fy T c Z else (sp_ch sp_pr (fun c => sp_fy T c Z) p c).1))), (0, .ref 14), (1, .int (nI p)), (3, .int (nI c))]) de_F_cheatCode_56 (by decide) rfl ?_
            refine ab_aload_n de_F_cheatCode_57 2 rfl ?_
            refine ab_iload_n de_F_cheatCode_58 4 rfl ?_
            refine ab_putI (x := 14) (j := 12) fl_F_56 rfl (Or.inl rfl) rfl rfl rfl de_F_cheatCode_59 ?_
            change ab_G _ _ _ _ _ _ _ _ _ (ab_S nr (ab_u2 hh 14 12 (nI c)) g rr) _
            refine ab_iinc (v := nI (c + 1)) (L' := [(3, .int (nI (c + 1))), (2, .int (nI (if sp_fy T c Z < (sp_ch sp_pr (fun c => sp_fy T c Z) p c).1 then sp_fy T c Z else (sp_ch sp_pr (fun c => sp_fy T c Z) p c).1))), (4, .int (nI (if sp_fy T c Z < (sp_ch sp_pr (fun c => sp_fy T c Z) p c).1 then sp_fy T c Z else (sp_ch sp_pr (fun c => sp_fy T c Z) p c).1))), (0, .ref 14), (1, .int (nI p))]) de_F_cheatCode_62 4 rfl (by rw [show Int32.ofInt 1 = nI 1 from rfl, ab_add]) (by decide) rfl ?_
            refine ab_goto (tgt := 18) de_F_cheatCode_65 rfl ?_
            refine ab_sub (L' := [(0, .ref 14), (1, .int (nI p)), (2, .int (nI (if sp_fy T c Z < (sp_ch sp_pr (fun c => sp_fy T c Z) p c).1 then sp_fy T c Z else (sp_ch sp_pr (fun c => sp_fy T c Z) p c).1))), (3, .int (nI (c + 1)))]) [3, 4, 1, 0] rfl ?_
            have lt_ : sp_fy T c Z < (sp_ch sp_pr (fun c => sp_fy T c Z) p c).1 := by
              rcases Nat.lt_or_ge (sp_fy T c Z) (sp_ch sp_pr (fun c => sp_fy T c Z) p c).1 with z | z
              · exact z
              · exfalso; refine c_51_4 ?_; rw [if_neg (by omega)]; exact Int32.le_refl _
            have e_ : (sp_ch sp_pr (fun c => sp_fy T c Z) p (c + 1)) = (sp_fy T c Z, c) := by rw [sp_ch, if_pos ⟨by omega, Nat.le_of_not_lt (fun z => c_34_3 ((ab_lt (by omega) (by omega)).mpr z)), lt_⟩]
            rw [if_pos lt_]
            have z_ := ih (c + 1) (ab_u2 hh 14 12 (nI c)) (by omega) (by omega) (fun a h1 => by rw [ab_u2_row h1]; exact hf0_ a h1) (fun b hb => by rw [ab_u2_ne (fun z => hb z.2)]; exact hf1 b hb) (Or.inr (by rw [e_]; exact ab_u2_at)) (by omega)
            rw [e_] at z_
            exact z_
set_option maxHeartbeats 1000000 in
set_option maxRecDepth 10000 in
theorem ct_F_cheat_n (l : Launch) (d : Nat) (nr : Nat) (h : Nat → Nat → Int32) (g : Nat → Nat → Int64) (rr : Nat → Option Nat) {T : Nat → Nat → Nat} (hT : bo_T T h 17) (hO : sp_ok T) {Z : sp_G} (hZ : gm_ok Z) (hG : gm_C Z h) {p : Nat} (hp : 1 ≤ p) (hp2 : p ≤ 25) {q : Int32} (hq : h 14 11 = q) (hqp : ¬ q = nI p) : ab_C l am_F_cheatCode (d + 6) 0 0 [.ref 14, .int (nI p)] (ab_S nr h g rr) (fun (r_ : Option Value) (M' : ab_Me) => r_ = some (.int (nI (sp_ch sp_pr (fun c => sp_fy T c Z) p 4096).2)) ∧ ∃ h', M' = ab_S nr h' g rr ∧ (∀ a, a ≠ 14 → h' a = h a) ∧ (∀ b, b ≠ 11 → b ≠ 12 → h' 14 b = h 14 b) ∧ h' 14 11 = nI p ∧ h' 14 12 = nI (sp_ch sp_pr (fun c => sp_fy T c Z) p 4096).2) := by
  refine ab_C_of (by decide +kernel) rfl (Nat.le_of_ble_eq_true rfl) ?_
  refine ab_aload_n de_F_cheatCode_0 0 rfl ?_
  refine ab_get (v := .int (h 14 11)) fl_F_53 rfl rfl de_F_cheatCode_1 ?_
  refine ab_top (v' := q) (hq) ?_
  refine ab_iload_n de_F_cheatCode_4 1 rfl ?_
  refine ab_icmp_ne (tgt := 13) de_F_cheatCode_5 rfl (fun c_5_1 => ?_) (fun c_5_1 => ?_)
  · refine ab_ldc co_F_93 de_F_cheatCode_13 ?_
    refine ab_istore_n (L' := [(2, .int (2147483647 : Int32)), (0, .ref 14), (1, .int (nI p))]) de_F_cheatCode_15 (by decide) rfl ?_
    refine ab_iconst (v := 1) de_F_cheatCode_16 rfl ?_
    refine ab_istore_n (L' := [(3, .int (1 : Int32)), (2, .int (2147483647 : Int32)), (0, .ref 14), (1, .int (nI p))]) de_F_cheatCode_17 (by decide) rfl ?_
    refine ab_sub (L' := [(0, .ref 14), (1, .int (nI p)), (2, .int (nI (sp_ch sp_pr (fun c => sp_fy T c Z) p 1).1)), (3, .int (nI 1))]) [2, 3, 1, 0] rfl ?_
    exact lp_F_cheat l _ nr h g rr hT hO hZ hG hp hp2 4096 1 h (by omega) (by omega) (fun _ _ => rfl) (fun _ _ => rfl) (Or.inl rfl) (by omega)
  · exact absurd c_5_1 hqp
set_option maxHeartbeats 1000000 in
set_option maxRecDepth 10000 in
theorem ct_F_cheat_k (l : Launch) (d : Nat) (nr : Nat) (h : Nat → Nat → Int32) (g : Nat → Nat → Int64) (rr : Nat → Option Nat) {T : Nat → Nat → Nat} (hT : bo_T T h 17) (hO : sp_ok T) {Z : sp_G} (hZ : gm_ok Z) (hG : gm_C Z h) {p : Nat} (hp : 1 ≤ p) (hp2 : p ≤ 25) (hq : h 14 11 = nI p) (hc : h 14 12 = nI (sp_ch sp_pr (fun c => sp_fy T c Z) p 4096).2) : ab_C l am_F_cheatCode (d + 6) 0 0 [.ref 14, .int (nI p)] (ab_S nr h g rr) (fun (r_ : Option Value) (M' : ab_Me) => r_ = some (.int (nI (sp_ch sp_pr (fun c => sp_fy T c Z) p 4096).2)) ∧ ∃ h', M' = ab_S nr h' g rr ∧ (∀ a, a ≠ 14 → h' a = h a) ∧ (∀ b, b ≠ 11 → b ≠ 12 → h' 14 b = h 14 b) ∧ h' 14 11 = nI p ∧ h' 14 12 = nI (sp_ch sp_pr (fun c => sp_fy T c Z) p 4096).2) := by
  refine ab_C_of (by decide +kernel) rfl (Nat.le_of_ble_eq_true rfl) ?_
  refine ab_aload_n de_F_cheatCode_0 0 rfl ?_
  refine ab_get (v := .int (h 14 11)) fl_F_53 rfl rfl de_F_cheatCode_1 ?_
  refine ab_top (v' := nI p) (hq) ?_
  refine ab_iload_n de_F_cheatCode_4 1 rfl ?_
  refine ab_icmp_ne (tgt := 13) de_F_cheatCode_5 rfl (fun c_5_1 => ?_) (fun c_5_1 => ?_)
  · exact absurd rfl c_5_1
  · refine ab_aload_n de_F_cheatCode_8 0 rfl ?_
    refine ab_get (v := .int (h 14 12)) fl_F_56 rfl rfl de_F_cheatCode_9 ?_
    exact ab_ret (v := some (.int (h 14 12))) de_F_cheatCode_12 ⟨_, rfl⟩ ⟨congrArg (fun z => some (Value.int z)) hc, h, rfl, fun _ _ => rfl, fun _ _ _ => rfl, hq, hc⟩
theorem ct_F_cheatCode (l : Launch) (d : Nat) (nr : Nat) (h : Nat → Nat → Int32) (g : Nat → Nat → Int64) (rr : Nat → Option Nat) {T : Nat → Nat → Nat} (hT : bo_T T h 17) (hO : sp_ok T) {Z : sp_G} (hZ : gm_ok Z) (hG : gm_C Z h) {p : Nat} (hp : 1 ≤ p) (hp2 : p ≤ 25) (hk : h 14 11 = -1 ∨ ∃ q, h 14 11 = nI q ∧ q ≤ 25 ∧ h 14 12 = nI (sp_ch sp_pr (fun c => sp_fy T c Z) q 4096).2) : ab_C l am_F_cheatCode (d + 6) 0 0 [.ref 14, .int (nI p)] (ab_S nr h g rr) (fun (r_ : Option Value) (M' : ab_Me) => r_ = some (.int (nI (sp_ch sp_pr (fun c => sp_fy T c Z) p 4096).2)) ∧ ∃ h', M' = ab_S nr h' g rr ∧ (∀ a, a ≠ 14 → h' a = h a) ∧ (∀ b, b ≠ 11 → b ≠ 12 → h' 14 b = h 14 b) ∧ h' 14 11 = nI p ∧ h' 14 12 = nI (sp_ch sp_pr (fun c => sp_fy T c Z) p 4096).2) := by
  rcases hk with hk | ⟨q, hk, hq, hc⟩
  · exact ct_F_cheat_n l d nr h g rr hT hO hZ hG hp hp2 hk (fun e => sp_nIm1 (by omega) e.symm)
  · by_cases e : q = p
    · subst e; exact ct_F_cheat_k l d nr h g rr hT hO hZ hG hp hp2 hk hc
    · exact ct_F_cheat_n l d nr h g rr hT hO hZ hG hp hp2 hk (fun z => e ((ab_inj (by omega) (by omega)).mp z))
