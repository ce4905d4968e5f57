/-! the law: its loop, and what stands ahead of it -/
theorem law_small : ∀ n, n < 6 → nI n - 6 < (0 : Int32) := by decide
theorem law_f {n o : Nat} (hn : n ≤ 3072) (ho : o ≤ n) (h : ¬ nI n - 6 < nI o) : o + 6 ≤ n := by
  by_cases h6 : 6 ≤ n
  · rw [show (6 : Int32) = nI 6 from rfl, ab_sub_k h6] at h
    have := Nat.le_of_not_lt (fun z => h ((ab_lt (by omega) (by omega)).mpr z))
    omega
  · refine absurd ?_ h
    have a := law_small n (by omega)
    have b : (0 : Int32) ≤ nI o := (ab_le (a := 0) (by decide) (by omega)).mpr (Nat.zero_le _)
    exact Int32.lt_of_lt_of_le a b
set_option maxHeartbeats 1000000 in
set_option maxRecDepth 10000 in
theorem lp_L (l : Launch) {n : Nat} {xs : Nat → Int32} (hn : n ≤ 3072) : ∀ (r o : Nat), o ≤ n → n < o + 6 * (r + 1) → ∀ (nr : Nat) (h : Nat → Nat → Int32) (g : Nat → Nat → Int64) (rr : Nat → Option Nat), jA nr h g rr → ab_G l (some (n, xs)) am_L 21 r (5 * r) 18 [(3, .int (nI o)), (2, .ref 30), (1, .ref 0), (0, .float 0)] [] (ab_S nr h g rr) (fun (v : Option Value) (_ : ab_Me) => v = some (.int 1)) := by
  intro r
  induction r with
  | zero =>
    intro o ho hr nr h g rr hA
    refine ab_iload_n de_L_law_18 0 rfl ?_
    refine ab_fload_n de_L_law_19 3 rfl ?_
    refine ab_slen (v := nI n) rfl de_L_law_20 ?_
    refine ab_bipush (v := 6) de_L_law_21 rfl ?_
    refine ab_isub de_L_law_23 ?_
    refine ab_icmp_gt (tgt := 1525) de_L_law_24 rfl (fun c => ?_) (fun c => absurd (law_f hn ho c) (by omega))
    refine ab_iconst (v := 1) de_L_law_1525 rfl ?_
    exact ab_ret (v := some (.int (1 : Int32))) de_L_law_1526 ⟨_, rfl, rfl⟩ rfl
  | succ r ih =>
    intro o ho hr nr h g rr hA
    refine ab_iload_n de_L_law_18 0 rfl ?_
    refine ab_fload_n de_L_law_19 3 rfl ?_
    refine ab_slen (v := nI n) rfl de_L_law_20 ?_
    refine ab_bipush (v := 6) de_L_law_21 rfl ?_
    refine ab_isub de_L_law_23 ?_
    refine ab_icmp_gt (tgt := 1525) de_L_law_24 rfl (fun c => ?_) (fun c => ?_)
    · refine ab_iconst (v := 1) de_L_law_1525 rfl ?_
      exact ab_ret (v := some (.int (1 : Int32))) de_L_law_1526 ⟨_, rfl, rfl⟩ rfl
    · have ho6 := law_f hn ho c
      have kk : ∀ nr h g rr, jA nr h g rr → ab_G l (some (n, xs)) am_L 21 r (5 * r) 1519 [(3, .int (nI o)), (2, .ref 30), (1, .ref 0), (0, .float 0)] [] (ab_S nr h g rr) (fun (v : Option Value) (_ : ab_Me) => v = some (.int 1)) := by
        intro nr h g rr hA
        refine ab_iinc (v := nI (o + 6)) (L' := [(3, .int (nI (o + 6))), (2, .ref 30), (1, .ref 0), (0, .float 0)]) de_L_law_1519 0 rfl (by rw [show Int32.ofInt 6 = nI 6 from rfl, ab_add]) (by decide) rfl ?_
        refine ab_goto (tgt := 18) de_L_law_1522 rfl ?_
        exact ih (o + 6) ho6 (by omega) nr h g rr hA
      rw [show r + 1 = 1 + r by omega, show 5 * (1 + r) = 5 + 5 * r by omega]
      refine ab_fload_n de_L_law_27 3 rfl ?_
      refine ab_iload_n de_L_law_28 0 rfl ?_
      refine ab_sld (v := xs o) (ab_in (by omega) (by omega)) (congrArg xs (ab_tn (by omega))) de_L_law_29 ?_
      refine ab_bipush (v := 63) de_L_law_30 rfl ?_
      refine ab_iand de_L_law_32 ?_
      generalize xs o &&& (63 : Int32) = w
      by_cases c0 : w = 0
      · refine ab_tableIn (tgt := 216) de_L_law_33 (by rw [c0]; decide) (by rw [c0]; decide) (off := 183) (by rw [c0]; rfl) rfl ?_
        exact ab_less (lc_row l hn ho6 nr h g rr hA kk)
      by_cases c1 : w = 1
      · refine ab_tableIn (tgt := 259) de_L_law_33 (by rw [c1]; decide) (by rw [c1]; decide) (off := 226) (by rw [c1]; rfl) rfl ?_
        exact ab_less (lc_set l hn ho6 nr h g rr hA kk)
      by_cases c2 : w = 2
      · refine ab_tableIn (tgt := 332) de_L_law_33 (by rw [c2]; decide) (by rw [c2]; decide) (off := 299) (by rw [c2]; rfl) rfl ?_
        exact ab_less (lc_copy l hn ho6 nr h g rr hA kk)
      by_cases c3 : w = 3
      · refine ab_tableIn (tgt := 395) de_L_law_33 (by rw [c3]; decide) (by rw [c3]; decide) (off := 362) (by rw [c3]; rfl) rfl ?_
        exact ab_less (lc_element l hn ho6 nr h g rr hA kk)
      by_cases c4 : w = 4
      · refine ab_tableIn (tgt := 429) de_L_law_33 (by rw [c4]; decide) (by rw [c4]; decide) (off := 396) (by rw [c4]; rfl) rfl ?_
        exact ab_less (lc_show l hn ho6 nr h g rr hA kk)
      by_cases c5 : w = 5
      · refine ab_tableIn (tgt := 462) de_L_law_33 (by rw [c5]; decide) (by rw [c5]; decide) (off := 429) (by rw [c5]; rfl) rfl ?_
        exact ab_less (lc_holds l hn ho6 nr h g rr hA kk)
      by_cases c6 : w = 6
      · refine ab_tableIn (tgt := 485) de_L_law_33 (by rw [c6]; decide) (by rw [c6]; decide) (off := 452) (by rw [c6]; rfl) rfl ?_
        exact ab_less (lc_says l hn ho6 nr h g rr hA kk)
      by_cases c7 : w = 7
      · refine ab_tableIn (tgt := 518) de_L_law_33 (by rw [c7]; decide) (by rw [c7]; decide) (off := 485) (by rw [c7]; rfl) rfl ?_
        exact ab_less (lc_tie l hn ho6 nr h g rr hA kk)
      by_cases c8 : w = 8
      · refine ab_tableIn (tgt := 587) de_L_law_33 (by rw [c8]; decide) (by rw [c8]; decide) (off := 554) (by rw [c8]; rfl) rfl ?_
        exact ab_less (lc_tied l hn ho6 nr h g rr hA kk)
      by_cases c9 : w = 9
      · refine ab_tableIn (tgt := 620) de_L_law_33 (by rw [c9]; decide) (by rw [c9]; decide) (off := 587) (by rw [c9]; rfl) rfl ?_
        exact lc_rule l hn ho6 nr h g rr hA kk
      by_cases c10 : w = 10
      · refine ab_tableIn (tgt := 643) de_L_law_33 (by rw [c10]; decide) (by rw [c10]; decide) (off := 610) (by rw [c10]; rfl) rfl ?_
        exact ab_less (lc_fault l hn ho6 nr h g rr hA kk)
      by_cases c11 : w = 11
      · refine ab_tableIn (tgt := 656) de_L_law_33 (by rw [c11]; decide) (by rw [c11]; decide) (off := 623) (by rw [c11]; rfl) rfl ?_
        exact ab_less (lc_ruleOf l hn ho6 nr h g rr hA kk)
      by_cases c12 : w = 12
      · refine ab_tableIn (tgt := 689) de_L_law_33 (by rw [c12]; decide) (by rw [c12]; decide) (off := 656) (by rw [c12]; rfl) rfl ?_
        exact ab_less (lc_price l hn ho6 nr h g rr hA kk)
      by_cases c13 : w = 13
      · refine ab_tableIn (tgt := 712) de_L_law_33 (by rw [c13]; decide) (by rw [c13]; decide) (off := 679) (by rw [c13]; rfl) rfl ?_
        exact ab_less (lc_point l hn ho6 nr h g rr hA kk)
      by_cases c14 : w = 14
      · refine ab_tableIn (tgt := 745) de_L_law_33 (by rw [c14]; decide) (by rw [c14]; decide) (off := 712) (by rw [c14]; rfl) rfl ?_
        exact ab_less (lc_turn l hn ho6 nr h g rr hA kk)
      by_cases c15 : w = 15
      · refine ab_tableIn (tgt := 768) de_L_law_33 (by rw [c15]; decide) (by rw [c15]; decide) (off := 735) (by rw [c15]; rfl) rfl ?_
        exact ab_less (lc_moves l hn ho6 nr h g rr hA kk)
      by_cases c16 : w = 16
      · refine ab_tableIn (tgt := 791) de_L_law_33 (by rw [c16]; decide) (by rw [c16]; decide) (off := 758) (by rw [c16]; rfl) rfl ?_
        exact ab_less (lc_move l hn ho6 nr h g rr hA kk)
      by_cases c17 : w = 17
      · refine ab_tableIn (tgt := 824) de_L_law_33 (by rw [c17]; decide) (by rw [c17]; decide) (off := 791) (by rw [c17]; rfl) rfl ?_
        exact ab_less (lc_over l hn ho6 nr h g rr hA kk)
      by_cases c18 : w = 18
      · refine ab_tableIn (tgt := 847) de_L_law_33 (by rw [c18]; decide) (by rw [c18]; decide) (off := 814) (by rw [c18]; rfl) rfl ?_
        exact ab_less (lc_play l hn ho6 nr h g rr hA kk)
      by_cases c19 : w = 19
      · refine ab_tableIn (tgt := 880) de_L_law_33 (by rw [c19]; decide) (by rw [c19]; decide) (off := 847) (by rw [c19]; rfl) rfl ?_
        exact ab_less (lc_game l hn ho6 nr h g rr hA kk)
      by_cases c20 : w = 20
      · refine ab_tableIn (tgt := 933) de_L_law_33 (by rw [c20]; decide) (by rw [c20]; decide) (off := 900) (by rw [c20]; rfl) rfl ?_
        exact ab_less (lc_gameOf l hn ho6 nr h g rr hA kk)
      by_cases c21 : w = 21
      · refine ab_tableIn (tgt := 966) de_L_law_33 (by rw [c21]; decide) (by rw [c21]; decide) (off := 933) (by rw [c21]; rfl) rfl ?_
        exact ab_less (lc_load l hn ho6 nr h g rr hA kk)
      by_cases c22 : w = 22
      · refine ab_tableIn (tgt := 1009) de_L_law_33 (by rw [c22]; decide) (by rw [c22]; decide) (off := 976) (by rw [c22]; rfl) rfl ?_
        exact ab_less (lc_judge l hn ho6 nr h g rr hA kk)
      by_cases c23 : w = 23
      · refine ab_tableIn (tgt := 1042) de_L_law_33 (by rw [c23]; decide) (by rw [c23]; decide) (off := 1009) (by rw [c23]; rfl) rfl ?_
        exact ab_less (lc_find l hn ho6 nr h g rr hA kk)
      by_cases c24 : w = 24
      · refine ab_tableIn (tgt := 1055) de_L_law_33 (by rw [c24]; decide) (by rw [c24]; decide) (off := 1022) (by rw [c24]; rfl) rfl ?_
        exact ab_less (lc_fits l hn ho6 nr h g rr hA kk)
      by_cases c25 : w = 25
      · refine ab_tableIn (tgt := 1068) de_L_law_33 (by rw [c25]; decide) (by rw [c25]; decide) (off := 1035) (by rw [c25]; rfl) rfl ?_
        exact ab_less (lc_rivals l hn ho6 nr h g rr hA kk)
      by_cases c26 : w = 26
      · refine ab_tableIn (tgt := 1091) de_L_law_33 (by rw [c26]; decide) (by rw [c26]; decide) (off := 1058) (by rw [c26]; rfl) rfl ?_
        exact ab_less (lc_rival l hn ho6 nr h g rr hA kk)
      by_cases c27 : w = 27
      · refine ab_tableIn (tgt := 1124) de_L_law_33 (by rw [c27]; decide) (by rw [c27]; decide) (off := 1091) (by rw [c27]; rfl) rfl ?_
        exact ab_less (lc_wide l hn ho6 nr h g rr hA kk)
      by_cases c28 : w = 28
      · refine ab_tableIn (tgt := 1147) de_L_law_33 (by rw [c28]; decide) (by rw [c28]; decide) (off := 1114) (by rw [c28]; rfl) rfl ?_
        exact ab_less (lc_tight l hn ho6 nr h g rr hA kk)
      by_cases c29 : w = 29
      · refine ab_tableIn (tgt := 1160) de_L_law_33 (by rw [c29]; decide) (by rw [c29]; decide) (off := 1127) (by rw [c29]; rfl) rfl ?_
        exact ab_less (lc_part l hn ho6 nr h g rr hA kk)
      by_cases c30 : w = 30
      · refine ab_tableIn (tgt := 1193) de_L_law_33 (by rw [c30]; decide) (by rw [c30]; decide) (off := 1160) (by rw [c30]; rfl) rfl ?_
        exact ab_less (lc_sure l hn ho6 nr h g rr hA kk)
      by_cases c31 : w = 31
      · refine ab_tableIn (tgt := 1226) de_L_law_33 (by rw [c31]; decide) (by rw [c31]; decide) (off := 1193) (by rw [c31]; rfl) rfl ?_
        exact ab_less (lc_ask l hn ho6 nr h g rr hA kk)
      by_cases c32 : w = 32
      · refine ab_tableIn (tgt := 1249) de_L_law_33 (by rw [c32]; decide) (by rw [c32]; decide) (off := 1216) (by rw [c32]; rfl) rfl ?_
        exact ab_less (lc_left l hn ho6 nr h g rr hA kk)
      by_cases c33 : w = 33
      · refine ab_tableIn (tgt := 1272) de_L_law_33 (by rw [c33]; decide) (by rw [c33]; decide) (off := 1239) (by rw [c33]; rfl) rfl ?_
        exact ab_less (lc_cheat l hn ho6 nr h g rr hA kk)
      by_cases c34 : w = 34
      · refine ab_tableIn (tgt := 1305) de_L_law_33 (by rw [c34]; decide) (by rw [c34]; decide) (off := 1272) (by rw [c34]; rfl) rfl ?_
        exact ab_less (lc_same l hn ho6 nr h g rr hA kk)
      by_cases c35 : w = 35
      · refine ab_tableIn (tgt := 1338) de_L_law_33 (by rw [c35]; decide) (by rw [c35]; decide) (off := 1305) (by rw [c35]; rfl) rfl ?_
        exact ab_less (lc_value l hn ho6 nr h g rr hA kk)
      by_cases c36 : w = 36
      · refine ab_tableIn (tgt := 1371) de_L_law_33 (by rw [c36]; decide) (by rw [c36]; decide) (off := 1338) (by rw [c36]; rfl) rfl ?_
        exact ab_less (lc_best l hn ho6 nr h g rr hA kk)
      by_cases c37 : w = 37
      · refine ab_tableIn (tgt := 1404) de_L_law_33 (by rw [c37]; decide) (by rw [c37]; decide) (off := 1371) (by rw [c37]; rfl) rfl ?_
        exact ab_less (lc_act l hn ho6 nr h g rr hA kk)
      by_cases c38 : w = 38
      · refine ab_tableIn (tgt := 1447) de_L_law_33 (by rw [c38]; decide) (by rw [c38]; decide) (off := 1414) (by rw [c38]; rfl) rfl ?_
        exact ab_less (lc_trace l hn ho6 nr h g rr hA kk)
      by_cases c39 : w = 39
      · refine ab_tableIn (tgt := 1470) de_L_law_33 (by rw [c39]; decide) (by rw [c39]; decide) (off := 1437) (by rw [c39]; rfl) rfl ?_
        exact ab_less (lc_image l hn ho6 nr h g rr hA kk)
      by_cases c40 : w = 40
      · refine ab_tableIn (tgt := 1483) de_L_law_33 (by rw [c40]; decide) (by rw [c40]; decide) (off := 1450) (by rw [c40]; rfl) rfl ?_
        exact ab_less (lc_restore l hn ho6 nr h g rr hA kk)
      by_cases c41 : w = 41
      · refine ab_tableIn (tgt := 1496) de_L_law_33 (by rw [c41]; decide) (by rw [c41]; decide) (off := 1463) (by rw [c41]; rfl) rfl ?_
        exact ab_less (lc_status l hn ho6 nr h g rr hA kk)
      refine ab_tableOut (tgt := 1519) de_L_law_33 ?_ rfl (ab_less (kk nr h g rr hA))
      have e0 : ¬ w.toInt = 0 := lv_neT c0 rfl
      have e1 : ¬ w.toInt = 1 := lv_neT c1 rfl
      have e2 : ¬ w.toInt = 2 := lv_neT c2 rfl
      have e3 : ¬ w.toInt = 3 := lv_neT c3 rfl
      have e4 : ¬ w.toInt = 4 := lv_neT c4 rfl
      have e5 : ¬ w.toInt = 5 := lv_neT c5 rfl
      have e6 : ¬ w.toInt = 6 := lv_neT c6 rfl
      have e7 : ¬ w.toInt = 7 := lv_neT c7 rfl
      have e8 : ¬ w.toInt = 8 := lv_neT c8 rfl
      have e9 : ¬ w.toInt = 9 := lv_neT c9 rfl
      have e10 : ¬ w.toInt = 10 := lv_neT c10 rfl
      have e11 : ¬ w.toInt = 11 := lv_neT c11 rfl
      have e12 : ¬ w.toInt = 12 := lv_neT c12 rfl
      have e13 : ¬ w.toInt = 13 := lv_neT c13 rfl
      have e14 : ¬ w.toInt = 14 := lv_neT c14 rfl
      have e15 : ¬ w.toInt = 15 := lv_neT c15 rfl
      have e16 : ¬ w.toInt = 16 := lv_neT c16 rfl
      have e17 : ¬ w.toInt = 17 := lv_neT c17 rfl
      have e18 : ¬ w.toInt = 18 := lv_neT c18 rfl
      have e19 : ¬ w.toInt = 19 := lv_neT c19 rfl
      have e20 : ¬ w.toInt = 20 := lv_neT c20 rfl
      have e21 : ¬ w.toInt = 21 := lv_neT c21 rfl
      have e22 : ¬ w.toInt = 22 := lv_neT c22 rfl
      have e23 : ¬ w.toInt = 23 := lv_neT c23 rfl
      have e24 : ¬ w.toInt = 24 := lv_neT c24 rfl
      have e25 : ¬ w.toInt = 25 := lv_neT c25 rfl
      have e26 : ¬ w.toInt = 26 := lv_neT c26 rfl
      have e27 : ¬ w.toInt = 27 := lv_neT c27 rfl
      have e28 : ¬ w.toInt = 28 := lv_neT c28 rfl
      have e29 : ¬ w.toInt = 29 := lv_neT c29 rfl
      have e30 : ¬ w.toInt = 30 := lv_neT c30 rfl
      have e31 : ¬ w.toInt = 31 := lv_neT c31 rfl
      have e32 : ¬ w.toInt = 32 := lv_neT c32 rfl
      have e33 : ¬ w.toInt = 33 := lv_neT c33 rfl
      have e34 : ¬ w.toInt = 34 := lv_neT c34 rfl
      have e35 : ¬ w.toInt = 35 := lv_neT c35 rfl
      have e36 : ¬ w.toInt = 36 := lv_neT c36 rfl
      have e37 : ¬ w.toInt = 37 := lv_neT c37 rfl
      have e38 : ¬ w.toInt = 38 := lv_neT c38 rfl
      have e39 : ¬ w.toInt = 39 := lv_neT c39 rfl
      have e40 : ¬ w.toInt = 40 := lv_neT c40 rfl
      have e41 : ¬ w.toInt = 41 := lv_neT c41 rfl
      omega
/-- nothing yet -/
def lm_M : ab_Me := ([], fun _ _ => 0, fun _ _ => 0, fun _ _ => none)
def lm_h : Nat → Nat → Int32 := mi_h (hz_ 30 (wi_h (hz_ 0 (fun _ _ => 0))))
def lm_g : Nat → Nat → Int64 := mi_g (gz_ 30 (wi_g (gz_ 0 (fun _ _ => 0))))
def lm_r : Nat → Nat → Option Nat := mi_r (rz_ 30 (wi_r (rz_ 0 (fun _ _ => none))))
theorem ab_lW_hi : ∀ j, 17 ≤ j → ab_lW j = none
  | j + 17, _ => rfl
  | 0, h | 1, h | 2, h | 3, h | 4, h | 5, h | 6, h | 7, h | 8, h | 9, h | 10, h | 11, h | 12, h | 13, h | 14, h | 15, h | 16, h => absurd h (by decide)
set_option maxHeartbeats 1000000 in
set_option maxRecDepth 10000 in
theorem lm_rhi {k j : Nat} (hk : 51 ≤ k) : lm_r k j = none := by
  have n0 : ¬ k = 0 := by omega
  have n1 : ¬ k = 1 := by omega
  have n2 : ¬ k = 2 := by omega
  have n3 : ¬ k = 3 := by omega
  have n4 : ¬ k = 4 := by omega
  have n5 : ¬ k = 5 := by omega
  have n6 : ¬ k = 6 := by omega
  have n7 : ¬ k = 7 := by omega
  have n8 : ¬ k = 8 := by omega
  have n9 : ¬ k = 9 := by omega
  have n10 : ¬ k = 10 := by omega
  have n11 : ¬ k = 11 := by omega
  have n12 : ¬ k = 12 := by omega
  have n13 : ¬ k = 13 := by omega
  have n14 : ¬ k = 14 := by omega
  have n15 : ¬ k = 15 := by omega
  have n16 : ¬ k = 16 := by omega
  have n17 : ¬ k = 17 := by omega
  have n18 : ¬ k = 18 := by omega
  have n19 : ¬ k = 19 := by omega
  have n20 : ¬ k = 20 := by omega
  have n21 : ¬ k = 21 := by omega
  have n22 : ¬ k = 22 := by omega
  have n23 : ¬ k = 23 := by omega
  have n24 : ¬ k = 24 := by omega
  have n25 : ¬ k = 25 := by omega
  have n26 : ¬ k = 26 := by omega
  have n27 : ¬ k = 27 := by omega
  have n28 : ¬ k = 28 := by omega
  have n29 : ¬ k = 29 := by omega
  have n30 : ¬ k = 30 := by omega
  have n31 : ¬ k = 31 := by omega
  have n32 : ¬ k = 32 := by omega
  have n33 : ¬ k = 33 := by omega
  have n34 : ¬ k = 34 := by omega
  have n35 : ¬ k = 35 := by omega
  have n36 : ¬ k = 36 := by omega
  have n37 : ¬ k = 37 := by omega
  have n38 : ¬ k = 38 := by omega
  have n39 : ¬ k = 39 := by omega
  have n40 : ¬ k = 40 := by omega
  have n41 : ¬ k = 41 := by omega
  have n42 : ¬ k = 42 := by omega
  have n43 : ¬ k = 43 := by omega
  have n44 : ¬ k = 44 := by omega
  have n45 : ¬ k = 45 := by omega
  have n46 : ¬ k = 46 := by omega
  have n47 : ¬ k = 47 := by omega
  have n48 : ¬ k = 48 := by omega
  have n49 : ¬ k = 49 := by omega
  have n50 : ¬ k = 50 := by omega
  have n3x : 3 ≤ k := by omega
  simp only [lm_r, mi_r, wi_r, fj_r, gi_r, bi_r, rz_, rm_, ab_u2, n3x, n0, n1, n2, n3, n4, n5, n6, n7, n8, n9, n10, n11, n12, n13, n14, n15, n16, n17, n18, n19, n20, n21, n22, n23, n24, n25, n26, n27, n28, n29, n30, n31, n32, n33, n34, n35, n36, n37, n38, n39, n40, n41, n42, n43, n44, n45, n46, n47, n48, n49, n50, false_and, if_false, if_true, ite_self, ite_true, ite_false]
theorem lm_r3 : lm_r 3 = ab_lay 0 (lm_r 12) 3 := by
  funext j
  show (if 3 = 3 ∧ j < 8 then some (3 + 1 + j) else none) = (if j < 8 then some (4 + j) else none)
  by_cases h : j < 8
  · rw [if_pos ⟨rfl, h⟩, if_pos h]
  · rw [if_neg (fun z => h z.2), if_neg h]
set_option maxHeartbeats 1000000 in
set_option maxRecDepth 10000 in
theorem lm_r0 : ∀ j, lm_r 0 j = ab_lW j
  | 0 => rfl
  | 1 => rfl
  | 2 => rfl
  | 3 => rfl
  | 4 => rfl
  | 5 => rfl
  | 6 => rfl
  | 7 => rfl
  | 8 => rfl
  | 9 => rfl
  | 10 => rfl
  | 11 => rfl
  | 12 => rfl
  | 13 => rfl
  | 14 => rfl
  | 15 => rfl
  | 16 => rfl
  | j + 17 => rfl
set_option maxHeartbeats 1000000 in
set_option maxRecDepth 10000 in
theorem lm_r14 : ∀ j, lm_r 14 j = ab_lF j
  | 0 => rfl
  | 1 => rfl
  | 2 => rfl
  | 3 => rfl
  | 4 => rfl
  | 5 => rfl
  | 6 => rfl
  | 7 => rfl
  | 8 => rfl
  | 9 => rfl
  | 10 => rfl
  | 11 => rfl
  | 12 => rfl
  | j + 13 => rfl
set_option maxHeartbeats 1000000 in
set_option maxRecDepth 10000 in
theorem lm_r15 : ∀ j, lm_r 15 j = ab_lG j
  | 0 => rfl
  | 1 => rfl
  | 2 => rfl
  | 3 => rfl
  | 4 => rfl
  | 5 => rfl
  | j + 6 => rfl
set_option maxHeartbeats 1000000 in
set_option maxRecDepth 10000 in
theorem lm_r30 : ∀ j, lm_r 30 j = ab_lM j
  | 0 => rfl
  | 1 => rfl
  | 2 => rfl
  | 3 => rfl
  | 4 => rfl
  | 5 => rfl
  | 6 => rfl
  | 7 => rfl
  | 8 => rfl
  | 9 => rfl
  | 10 => rfl
  | 11 => rfl
  | 12 => rfl
  | 13 => rfl
  | 14 => rfl
  | 15 => rfl
  | 16 => rfl
  | 17 => rfl
  | 18 => rfl
  | 19 => rfl
  | 20 => rfl
  | 21 => rfl
  | 22 => rfl
  | 23 => rfl
  | 24 => rfl
  | 25 => rfl
  | 26 => rfl
  | 27 => rfl
  | 28 => rfl
  | 29 => rfl
  | 30 => rfl
  | 31 => rfl
  | 32 => rfl
  | 33 => rfl
  | 34 => rfl
  | 35 => rfl
  | 36 => rfl
  | 37 => rfl
  | 38 => rfl
  | 39 => rfl
  | 40 => rfl
  | 41 => rfl
  | 42 => rfl
  | 43 => rfl
  | j + 44 => rfl
set_option maxHeartbeats 1000000 in
set_option maxRecDepth 10000 in
theorem lm_rlo : ∀ k, k < 51 → lm_r k = ab_lay 0 (lm_r 12) k
  | 0, _ => funext lm_r0
  | 1, _ => funext fun _ => rfl
  | 2, _ => funext fun _ => rfl
  | 3, _ => lm_r3
  | 4, _ => funext fun _ => rfl
  | 5, _ => funext fun _ => rfl
  | 6, _ => funext fun _ => rfl
  | 7, _ => funext fun _ => rfl
  | 8, _ => funext fun _ => rfl
  | 9, _ => funext fun _ => rfl
  | 10, _ => funext fun _ => rfl
  | 11, _ => funext fun _ => rfl
  | 12, _ => rfl
  | 13, _ => funext fun _ => rfl
  | 14, _ => funext lm_r14
  | 15, _ => funext lm_r15
  | 16, _ => funext fun j => by cases j <;> rfl
  | 17, _ => funext fun _ => rfl
  | 18, _ => funext fun _ => rfl
  | 19, _ => funext fun _ => rfl
  | 20, _ => funext fun _ => rfl
  | 21, _ => funext fun _ => rfl
  | 22, _ => funext fun _ => rfl
  | 23, _ => funext fun _ => rfl
  | 24, _ => funext fun _ => rfl
  | 25, _ => funext fun _ => rfl
  | 26, _ => funext fun _ => rfl
  | 27, _ => funext fun _ => rfl
  | 28, _ => funext fun _ => rfl
  | 29, _ => funext fun _ => rfl
  | 30, _ => funext lm_r30
  | 31, _ => funext fun _ => rfl
  | 32, _ => funext fun _ => rfl
  | 33, _ => funext fun _ => rfl
  | 34, _ => funext fun _ => rfl
  | 35, _ => funext fun _ => rfl
  | 36, _ => funext fun _ => rfl
  | 37, _ => funext fun _ => rfl
  | 38, _ => funext fun _ => rfl
  | 39, _ => funext fun _ => rfl
  | 40, _ => funext fun _ => rfl
  | 41, _ => funext fun _ => rfl
  | 42, _ => funext fun _ => rfl
  | 43, _ => funext fun _ => rfl
  | 44, _ => funext fun _ => rfl
  | 45, _ => funext fun _ => rfl
  | 46, _ => funext fun _ => rfl
  | 47, _ => funext fun _ => rfl
  | 48, _ => funext fun _ => rfl
  | 49, _ => funext fun _ => rfl
  | 50, _ => funext fun _ => rfl
  | k + 51, h => absurd h (by omega)
theorem lm_S : ((ab_K0.take 51, lm_h, lm_g, lm_r) : ab_Me) = ab_S 0 lm_h lm_g (lm_r 12) := by
  refine congrArg (fun z => (ab_K0, lm_h, lm_g, z)) ?_
  funext k j
  by_cases hk : k < 51
  · rw [lm_rlo k hk]
  · rw [lm_rhi (by omega), ab_lay_hi (by omega), if_neg (by omega)]
set_option maxHeartbeats 1000000 in
set_option maxRecDepth 10000 in
theorem st_L (l : Launch) {n : Nat} {xs : Nat → Int32} (hn : n ≤ 3072) (h0 : jA 0 lm_h lm_g (lm_r 12)) : ab_G l (some (n, xs)) am_L 21 (1 + (29 + (1 + (20 + n / 6)))) (17 + (6298 + (44 + (10164 + 5 * (n / 6))))) 0 [(0, .float 0)] [] lm_M (fun (v : Option Value) (_ : ab_Me) => v = some (.int 1)) := by
  refine ab_new (ci := 4) (by decide) (ab_w1 15 rfl rfl) (ab_w1 16 rfl rfl) (ab_w1 1 rfl rfl) rfl rfl de_L_law_0 ?_
  refine ab_mm (M' := (ab_K0.take 1, hz_ 0 (fun _ _ => 0), gz_ 0 (fun _ _ => 0), rz_ 0 (fun _ _ => none))) rfl ?_
  refine ab_dup de_L_law_3 rfl ?_
  refine ab_callI (as := []) (st := [.ref 0]) (ct_W_init l 16 (hz_ 0 (fun _ _ => 0)) (gz_ 0 (fun _ _ => 0)) (rz_ 0 (fun _ _ => none))) mo_W_init mi_W_init rfl rfl ml_L_9 rfl rfl (Nat.le_of_ble_eq_true rfl) (Or.inr rfl) (Or.inr rfl) de_L_law_4 (fun v_ M_ hK_ hp_ hl_ hv_ => ?_)
  obtain ⟨rfl, rfl⟩ := hK_
  change ab_G _ _ _ _ _ _ _ [(0, .float 0)] [.ref 0] _ _
  refine ab_astore_n (L' := [(1, .ref 0), (0, .float 0)]) de_L_law_7 (by decide) rfl ?_
  refine ab_new (ci := 5) (by decide) (ab_w4 70 rfl rfl) (ab_w4 71 rfl rfl) (ab_w1 6 rfl rfl) rfl rfl de_L_law_8 ?_
  refine ab_mm (M' := (ab_K0.take 31, hz_ 30 (wi_h (hz_ 0 (fun _ _ => 0))), gz_ 30 (wi_g (gz_ 0 (fun _ _ => 0))), rz_ 30 (wi_r (rz_ 0 (fun _ _ => none))))) rfl ?_
  refine ab_dup de_L_law_11 rfl ?_
  refine ab_callI (as := []) (st := [.ref 30]) (ct_M_init l 19 (hz_ 30 (wi_h (hz_ 0 (fun _ _ => 0)))) (gz_ 30 (wi_g (gz_ 0 (fun _ _ => 0)))) (rz_ 30 (wi_r (rz_ 0 (fun _ _ => none))))) mo_M_init mi_M_init rfl rfl ml_L_12 rfl rfl (Nat.le_of_ble_eq_true rfl) (Or.inr rfl) (Or.inr rfl) de_L_law_12 (fun v_ M_ hK_ hp_ hl_ hv_ => ?_)
  obtain ⟨rfl, rfl⟩ := hK_
  change ab_G _ _ _ _ _ _ _ [(1, .ref 0), (0, .float 0)] [.ref 30] (ab_K0.take 51, lm_h, lm_g, lm_r) _
  refine ab_mm lm_S ?_
  refine ab_astore_n (L' := [(2, .ref 30), (1, .ref 0), (0, .float 0)]) de_L_law_15 (by decide) rfl ?_
  refine ab_iconst (v := 0) de_L_law_16 rfl ?_
  refine ab_istore_n (L' := [(3, .int (0 : Int32)), (2, .ref 30), (1, .ref 0), (0, .float 0)]) de_L_law_17 (by decide) rfl ?_
  refine ab_sub (L' := [(3, .int (nI 0)), (2, .ref 30), (1, .ref 0), (0, .float 0)]) [0, 1, 2, 3] rfl ?_
  exact lp_L l hn (n / 6) 0 (Nat.zero_le _) (by omega) 0 lm_h lm_g (lm_r 12) h0
