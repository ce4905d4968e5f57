/-! the reference: status -/
set_option maxHeartbeats 1000000 in
set_option maxRecDepth 10000 in
theorem lp_M_status2 (l : Launch) (d : Nat) (nr : Nat) (h : Nat → Nat → Int32) (g : Nat → Nat → Int64) (rr : Nat → Option Nat) {Z : sp_G} (hZ : gm_ok Z) (hG : md_G Z h) {K : Option Value → ab_Me → Prop} (kx : ab_G l none am_M_status (d + 1) 0 0 103 [(0, .ref 30), (2, .int (nI (sp_sum (fun g => gL Z g) (gN Z))))] [] (ab_S nr h g rr) (K)) : ∀ (fu_ y : Nat), y ≤ (gN Z) → (gN Z) < y + fu_ → ab_G l none am_M_status (d + 1) 0 0 80 [(0, .ref 30), (2, .int (nI (sp_sum (fun g => gL Z g) y))), (3, .int (nI y))] [] (ab_S nr h g rr) (K) := by
  intro fu_
  induction fu_ with
  | zero => intro y  h1 h2; omega
  | succ fu_ ih =>
    intro y  hN_ hn_ 
    have y6_ := hZ.1
    refine ab_iload_n de_M_status_80 2 rfl ?_
    refine ab_aload_n de_M_status_81 0 rfl ?_
    refine ab_get (v := .int (h 30 1)) fl_M_84 rfl rfl de_M_status_82 ?_
    refine ab_top (v' := nI (gN Z)) (hG.1) ?_
    refine ab_icmp_ge (tgt := 103) de_M_status_85 rfl (fun c_85_1 => ?_) (fun c_85_1 => ?_)
    · have hy := (ab_le (by omega) (by omega)).mp c_85_1
      refine ab_sub (L' := [(0, .ref 30), (2, .int (nI (sp_sum (fun g => gL Z g) y)))]) [0, 1] rfl ?_
      rw [show y = gN Z by omega]
      exact kx
    · have hy := Nat.lt_of_not_le (fun z_ => c_85_1 ((ab_le (by omega) (by omega)).mpr z_))
      refine ab_iload_n de_M_status_88 1 rfl ?_
      refine ab_aload_n de_M_status_89 0 rfl ?_
      refine ab_get (v := .ref 36) fl_M_29 rfl rfl de_M_status_90 ?_
      refine ab_iload_n de_M_status_93 2 rfl ?_
      refine ab_iald (v := h 36 y) rfl (ab_in (by omega) (by decide)) (ab_hv (ab_tn (n := y) (by omega))) de_M_status_94 ?_
      refine ab_top (v' := nI (gL Z y)) ((hG.2 y hy).2.1) ?_
      refine ab_iadd de_M_status_95 ?_
      refine ab_top (v' := nI (sp_sum (fun g => gL Z g) (y + 1))) (ab_add _ _) ?_
      refine ab_istore_n (L' := [(2, .int (nI (sp_sum (fun g => gL Z g) (y + 1)))), (0, .ref 30), (3, .int (nI y))]) de_M_status_96 (by decide) rfl ?_
      refine ab_iinc (v := nI (y + 1)) (L' := [(3, .int (nI (y + 1))), (2, .int (nI (sp_sum (fun g => gL Z g) (y + 1)))), (0, .ref 30)]) de_M_status_97 2 rfl (by rw [show Int32.ofInt 1 = nI 1 from rfl, ab_add]) (by decide) rfl ?_
      refine ab_goto (tgt := 80) de_M_status_100 rfl ?_
      refine ab_sub (L' := [(0, .ref 30), (2, .int (nI (sp_sum (fun g => gL Z g) (y + 1)))), (3, .int (nI (y + 1)))]) [2, 1, 0] rfl ?_
      exact ih (y + 1)  (by omega) (by omega) 
set_option maxHeartbeats 1000000 in
set_option maxRecDepth 10000 in
theorem lp_M_status3 (l : Launch) (d : Nat) (nr : Nat) (h : Nat → Nat → Int32) (g : Nat → Nat → Int64) (rr : Nat → Option Nat) {T : Nat → Nat → Nat} (hTM : bo_T T h 32) (hO : sp_ok T) {K : Option Value → ab_Me → Prop} (kx : ab_G l none am_M_status (d + 1) 0 0 132 [(0, .ref 30), (2, .int (nI (sp_sum (fun j => sp_cn (T (j / 12) (j % 12))) 36)))] [] (ab_S nr h g rr) (K)) : ∀ (fu_ j : Nat), j ≤ 36 → 36 < j + fu_ → ab_G l none am_M_status (d + 1) 0 0 107 [(0, .ref 30), (2, .int (nI (sp_sum (fun j => sp_cn (T (j / 12) (j % 12))) j))), (3, .int (nI j))] [] (ab_S nr h g rr) (K) := by
  intro fu_
  induction fu_ with
  | zero => intro j  h1 h2; omega
  | succ fu_ ih =>
    intro j  hN_ hn_ 
    refine ab_iload_n de_M_status_107 2 rfl ?_
    refine ab_bipush (v := 36) de_M_status_108 rfl ?_
    refine ab_icmp_ge (tgt := 132) de_M_status_110 rfl (fun c_110_1 => ?_) (fun c_110_1 => ?_)
    · have hj := ab_le_of (n := 36) (by decide) (by omega) rfl c_110_1
      refine ab_sub (L' := [(0, .ref 30), (2, .int (nI (sp_sum (fun j => sp_cn (T (j / 12) (j % 12))) j)))]) [0, 1] rfl ?_
      rw [show j = 36 by omega]
      exact kx
    · have hj := ab_nle_of (n := 36) (by decide) (by omega) rfl c_110_1
      refine ab_iload_n de_M_status_113 1 rfl ?_
      refine ab_aload_n de_M_status_114 0 rfl ?_
      refine ab_aload_n de_M_status_115 0 rfl ?_
      refine ab_get (v := .ref 32) fl_M_17 rfl rfl de_M_status_116 ?_
      refine ab_iload_n de_M_status_119 2 rfl ?_
      refine ab_iald (v := h 32 j) rfl (ab_in (by omega) (by decide)) (ab_hv (ab_tn (n := j) (by omega))) de_M_status_120 ?_
      refine ab_top (v' := nI (T (j / 12) (j % 12))) (by have z := hTM (j / 12) (j % 12) (by omega) (by omega); rwa [show 12 * (j / 12) + j % 12 = j by omega] at z) ?_
      refine ab_cV (as := [.int (nI (T (j / 12) (j % 12)))]) (st := [.int (nI (sp_sum (fun j => sp_cn (T (j / 12) (j % 12))) j))]) (ct_M_many l _ (ab_S nr h g rr) (b := T (j / 12) (j % 12)) (hO.lt (by omega) (by omega))) mo_M_many mi_M_many ml_M_101 rfl (by decide) rfl rfl rfl (Nat.le_of_ble_eq_true rfl) de_M_status_121 (fun v_ M_ hK_ hl_ hv_ => ?_)
      obtain ⟨rfl, hm_⟩ := hK_
      have hm_ := hm_.symm
      subst hm_
      change ab_G _ _ _ _ _ _ _ [(0, .ref 30), (2, .int (nI (sp_sum (fun j => sp_cn (T (j / 12) (j % 12))) j))), (3, .int (nI j))] [.int (nI (sp_cn (T (j / 12) (j % 12)))), .int (nI (sp_sum (fun j => sp_cn (T (j / 12) (j % 12))) j))] (ab_S nr h g rr) _
      refine ab_iadd de_M_status_124 ?_
      refine ab_top (v' := nI (sp_sum (fun j => sp_cn (T (j / 12) (j % 12))) (j + 1))) (ab_add _ _) ?_
      refine ab_istore_n (L' := [(2, .int (nI (sp_sum (fun j => sp_cn (T (j / 12) (j % 12))) (j + 1)))), (0, .ref 30), (3, .int (nI j))]) de_M_status_125 (by decide) rfl ?_
      refine ab_iinc (v := nI (j + 1)) (L' := [(3, .int (nI (j + 1))), (2, .int (nI (sp_sum (fun j => sp_cn (T (j / 12) (j % 12))) (j + 1)))), (0, .ref 30)]) de_M_status_126 2 rfl (by rw [show Int32.ofInt 1 = nI 1 from rfl, ab_add]) (by decide) rfl ?_
      refine ab_goto (tgt := 107) de_M_status_129 rfl ?_
      refine ab_sub (L' := [(0, .ref 30), (2, .int (nI (sp_sum (fun j => sp_cn (T (j / 12) (j % 12))) (j + 1)))), (3, .int (nI (j + 1)))]) [2, 1, 0] rfl ?_
      exact ih (j + 1)  (by omega) (by omega) 
def fx_M_status (nr : Nat) (h : Nat → Nat → Int32) (g : Nat → Nat → Int64) (rr : Nat → Option Nat)  (T : Nat → Nat → Nat) (m i t : Nat) (Z : sp_G) (n_ : Nat) (x : Int32) : Option Value × ab_Me :=
  if x < (11 : Int32) then
    if x = 0 then
      (some (.int (nI n_)), (ab_S nr h g rr))
    else
      if x = 1 then
        (some (.int (nI (gN Z))), (ab_S nr h g rr))
      else
        if x = 2 then
          (some (.int (nI (sp_sum (fun g => gL Z g) (gN Z)))), (ab_S nr h g rr))
        else
          if x = 3 then
            (some (.int (nI (sp_tt T / 2))), (ab_S nr h g rr))
          else
            if x = 4 then
              (some (.int (nI (sp_cn (m ||| i)))), (ab_S nr h g rr))
            else
              if x = 5 then
                (some (.int (nI t)), (ab_S nr h g rr))
              else
                if x = 6 then
                  (some (.int (h 30 37)), (ab_S nr h g rr))
                else
                  (some (.int (-1 : Int32)), (ab_S nr h g rr))
  else
    if (17 : Int32) < x then
      if x = 0 then
        (some (.int (nI n_)), (ab_S nr h g rr))
      else
        if x = 1 then
          (some (.int (nI (gN Z))), (ab_S nr h g rr))
        else
          if x = 2 then
            (some (.int (nI (sp_sum (fun g => gL Z g) (gN Z)))), (ab_S nr h g rr))
          else
            if x = 3 then
              (some (.int (nI (sp_tt T / 2))), (ab_S nr h g rr))
            else
              if x = 4 then
                (some (.int (nI (sp_cn (m ||| i)))), (ab_S nr h g rr))
              else
                if x = 5 then
                  (some (.int (nI t)), (ab_S nr h g rr))
                else
                  if x = 6 then
                    (some (.int (h 30 37)), (ab_S nr h g rr))
                  else
                    (some (.int (-1 : Int32)), (ab_S nr h g rr))
    else
      (some (.int (h 31 (x.toNatClampNeg - 10))), (ab_S nr h g rr))
set_option maxHeartbeats 1000000 in
set_option maxRecDepth 10000 in
theorem ct_M_status (l : Launch) (d : Nat) (nr : Nat) (h : Nat → Nat → Int32) (g : Nat → Nat → Int64) (rr : Nat → Option Nat)  {T : Nat → Nat → Nat} (hTM : bo_T T h 32) (hO : sp_ok T) {m i t : Nat} (hm : m < 4096) (hi : i < 4096) (ht : t < 2) (hB : md_bd m i t h) {Z : sp_G} (hZ : gm_ok Z) (hG : md_G Z h) {n_ : Nat} (hMR : h 30 0 = nI n_) (x : Int32) : ab_C l am_M_status (d + 1) 0 0 [.ref 30, .int x] (ab_S nr h g rr) (fun r_ M' => (r_, M') = fx_M_status nr h g rr T m i t Z n_ x) := by
  have tt_ : sp_tt T ≤ 36 * 12 := sp_sum_le (fun j => sp_cn_le _) 36
  refine ab_C_of (by decide +kernel) rfl (Nat.le_of_ble_eq_true rfl) ?_
  refine ab_iload_n de_M_status_0 1 rfl ?_
  refine ab_bipush (v := 11) de_M_status_1 rfl ?_
  refine ab_icmp_lt (tgt := 22) de_M_status_3 rfl (fun c_3_1 => ?_) (fun c_3_1 => ?_)
  · refine ab_iconst (v := 0) de_M_status_22 rfl ?_
    refine ab_istore_n (L' := [(2, .int (0 : Int32)), (0, .ref 30), (1, .int x)]) de_M_status_23 (by decide) rfl ?_
    refine ab_iload_n de_M_status_24 2 rfl ?_
    by_cases c_25_2_0 : x = 0
    · refine ab_tableIn (tgt := 68) de_M_status_25 (by rw [c_25_2_0]; decide) (by rw [c_25_2_0]; decide) (off := 43) (by rw [c_25_2_0]; rfl) rfl ?_
      refine ab_aload_n de_M_status_68 1 rfl ?_
      refine ab_get (v := .int (h 30 0)) fl_M_87 rfl rfl de_M_status_69 ?_
      refine ab_top (v' := nI n_) (hMR) ?_
      exact ab_ret (v := some (.int (nI n_))) de_M_status_72 ⟨_, rfl⟩ (by unfold fx_M_status; rw [if_pos c_3_1, if_pos c_25_2_0])
    by_cases c_25_2_1 : x = 1
    · refine ab_tableIn (tgt := 73) de_M_status_25 (by rw [c_25_2_1]; decide) (by rw [c_25_2_1]; decide) (off := 48) (by rw [c_25_2_1]; rfl) rfl ?_
      refine ab_aload_n de_M_status_73 1 rfl ?_
      refine ab_get (v := .int (h 30 1)) fl_M_84 rfl rfl de_M_status_74 ?_
      refine ab_top (v' := nI (gN Z)) (hG.1) ?_
      exact ab_ret (v := some (.int (nI (gN Z)))) de_M_status_77 ⟨_, rfl⟩ (by unfold fx_M_status; rw [if_pos c_3_1, if_neg c_25_2_0, if_pos c_25_2_1])
    by_cases c_25_2_2 : x = 2
    · refine ab_tableIn (tgt := 78) de_M_status_25 (by rw [c_25_2_2]; decide) (by rw [c_25_2_2]; decide) (off := 53) (by rw [c_25_2_2]; rfl) rfl ?_
      refine ab_iconst (v := 0) de_M_status_78 rfl ?_
      refine ab_istore_n (L' := [(3, .int (0 : Int32)), (2, .int (0 : Int32)), (0, .ref 30), (1, .int x)]) de_M_status_79 (by decide) rfl ?_
      refine ab_sub (L' := [(0, .ref 30), (2, .int (nI (sp_sum (fun g => gL Z g) 0))), (3, .int (nI 0))]) [2, 1, 0] rfl ?_
      refine lp_M_status2 l d nr h g rr hZ hG ?_ (gN Z + 1) 0 (by omega) (by omega)
      refine ab_iload_n de_M_status_103 1 rfl ?_
      exact ab_ret (v := some (.int (nI (sp_sum (fun g => gL Z g) (gN Z))))) de_M_status_104 ⟨_, rfl⟩ (by unfold fx_M_status; rw [if_pos c_3_1, if_neg c_25_2_0, if_neg c_25_2_1, if_pos c_25_2_2])
    by_cases c_25_2_3 : x = 3
    · refine ab_tableIn (tgt := 105) de_M_status_25 (by rw [c_25_2_3]; decide) (by rw [c_25_2_3]; decide) (off := 80) (by rw [c_25_2_3]; rfl) rfl ?_
      refine ab_iconst (v := 0) de_M_status_105 rfl ?_
      refine ab_istore_n (L' := [(3, .int (0 : Int32)), (2, .int (0 : Int32)), (0, .ref 30), (1, .int x)]) de_M_status_106 (by decide) rfl ?_
      refine ab_sub (L' := [(0, .ref 30), (2, .int (nI (sp_sum (fun j => sp_cn (T (j / 12) (j % 12))) 0))), (3, .int (nI 0))]) [2, 1, 0] rfl ?_
      refine lp_M_status3 l d nr h g rr hTM hO ?_ 37 0 (by omega) (by omega)
      refine ab_iload_n de_M_status_132 1 rfl ?_
      refine ab_iconst (v := 2) de_M_status_133 rfl ?_
      refine ab_idiv de_M_status_134 (by decide) ?_
      refine ab_top (v' := nI (sp_tt T / 2)) (ab_div (a := sp_tt T) (b := 2) (by omega) (by decide)) ?_
      exact ab_ret (v := some (.int (nI (sp_tt T / 2)))) de_M_status_135 ⟨_, rfl⟩ (by unfold fx_M_status; rw [if_pos c_3_1, if_neg c_25_2_0, if_neg c_25_2_1, if_neg c_25_2_2, if_pos c_25_2_3])
    by_cases c_25_2_4 : x = 4
    · refine ab_tableIn (tgt := 136) de_M_status_25 (by rw [c_25_2_4]; decide) (by rw [c_25_2_4]; decide) (off := 111) (by rw [c_25_2_4]; rfl) rfl ?_
      refine ab_aload_n de_M_status_136 1 rfl ?_
      refine ab_aload_n de_M_status_137 1 rfl ?_
      refine ab_get (v := .int (h 30 3)) fl_M_171 rfl rfl de_M_status_138 ?_
      refine ab_top (v' := nI (if t = 0 then m else i)) (hB.2.1) ?_
      refine ab_aload_n de_M_status_141 1 rfl ?_
      refine ab_get (v := .int (h 30 4)) fl_M_174 rfl rfl de_M_status_142 ?_
      refine ab_top (v' := nI (if t = 0 then i else m)) (hB.2.2) ?_
      refine ab_ior de_M_status_145 ?_
      refine ab_top (v' := nI (m ||| i)) ((ab_or _ _).trans (congrArg nI (by split <;> first | rfl | exact Nat.or_comm _ _))) ?_
      refine ab_cV (as := [.int (nI (m ||| i))]) (st := []) (ct_M_many l _ (ab_S nr h g rr) (b := m ||| i) (sp_orlt hm hi)) mo_M_many mi_M_many ml_M_101 rfl (by decide) rfl rfl rfl (Nat.le_of_ble_eq_true rfl) de_M_status_146 (fun v_ M_ hK_ hl_ hv_ => ?_)
      obtain ⟨rfl, hm_⟩ := hK_
      have hm_ := hm_.symm
      subst hm_
      change ab_G _ _ _ _ _ _ _ [(2, .int (0 : Int32)), (0, .ref 30), (1, .int x)] [.int (nI (sp_cn (m ||| i)))] (ab_S nr h g rr) _
      exact ab_ret (v := some (.int (nI (sp_cn (m ||| i))))) de_M_status_149 ⟨_, rfl⟩ (by unfold fx_M_status; rw [if_pos c_3_1, if_neg c_25_2_0, if_neg c_25_2_1, if_neg c_25_2_2, if_neg c_25_2_3, if_pos c_25_2_4])
    by_cases c_25_2_5 : x = 5
    · refine ab_tableIn (tgt := 150) de_M_status_25 (by rw [c_25_2_5]; decide) (by rw [c_25_2_5]; decide) (off := 125) (by rw [c_25_2_5]; rfl) rfl ?_
      refine ab_aload_n de_M_status_150 1 rfl ?_
      refine ab_get (v := .int (h 30 5)) fl_M_177 rfl rfl de_M_status_151 ?_
      refine ab_top (v' := nI t) (hB.1) ?_
      exact ab_ret (v := some (.int (nI t))) de_M_status_154 ⟨_, rfl⟩ (by unfold fx_M_status; rw [if_pos c_3_1, if_neg c_25_2_0, if_neg c_25_2_1, if_neg c_25_2_2, if_neg c_25_2_3, if_neg c_25_2_4, if_pos c_25_2_5])
    by_cases c_25_2_6 : x = 6
    · refine ab_tableIn (tgt := 155) de_M_status_25 (by rw [c_25_2_6]; decide) (by rw [c_25_2_6]; decide) (off := 130) (by rw [c_25_2_6]; rfl) rfl ?_
      refine ab_aload_n de_M_status_155 1 rfl ?_
      refine ab_get (v := .int (h 30 37)) fl_M_287 rfl rfl de_M_status_156 ?_
      exact ab_ret (v := some (.int (h 30 37))) de_M_status_159 ⟨_, rfl⟩ (by unfold fx_M_status; rw [if_pos c_3_1, if_neg c_25_2_0, if_neg c_25_2_1, if_neg c_25_2_2, if_neg c_25_2_3, if_neg c_25_2_4, if_neg c_25_2_5, if_pos c_25_2_6])
    refine ab_tableOut (tgt := 160) de_M_status_25 (ab_out7 c_25_2_0 c_25_2_1 c_25_2_2 c_25_2_3 c_25_2_4 c_25_2_5 c_25_2_6) rfl ?_
    refine ab_iconst (v := -1) de_M_status_160 rfl ?_
    exact ab_ret (v := some (.int (-1 : Int32))) de_M_status_161 ⟨_, rfl⟩ (by unfold fx_M_status; rw [if_pos c_3_1, if_neg c_25_2_0, if_neg c_25_2_1, if_neg c_25_2_2, if_neg c_25_2_3, if_neg c_25_2_4, if_neg c_25_2_5, if_neg c_25_2_6])
  · have c3_ := c_3_1
    refine ab_iload_n de_M_status_6 1 rfl ?_
    refine ab_bipush (v := 17) de_M_status_7 rfl ?_
    refine ab_icmp_gt (tgt := 22) de_M_status_9 rfl (fun c_9_3 => ?_) (fun c_9_3 => ?_)
    · refine ab_iconst (v := 0) de_M_status_22 rfl ?_
      refine ab_istore_n (L' := [(2, .int (0 : Int32)), (0, .ref 30), (1, .int x)]) de_M_status_23 (by decide) rfl ?_
      refine ab_iload_n de_M_status_24 2 rfl ?_
      by_cases c_25_4_0 : x = 0
      · refine ab_tableIn (tgt := 68) de_M_status_25 (by rw [c_25_4_0]; decide) (by rw [c_25_4_0]; decide) (off := 43) (by rw [c_25_4_0]; rfl) rfl ?_
        refine ab_aload_n de_M_status_68 1 rfl ?_
        refine ab_get (v := .int (h 30 0)) fl_M_87 rfl rfl de_M_status_69 ?_
        refine ab_top (v' := nI n_) (hMR) ?_
        exact ab_ret (v := some (.int (nI n_))) de_M_status_72 ⟨_, rfl⟩ (by unfold fx_M_status; rw [if_neg c_3_1, if_pos c_9_3, if_pos c_25_4_0])
      by_cases c_25_4_1 : x = 1
      · refine ab_tableIn (tgt := 73) de_M_status_25 (by rw [c_25_4_1]; decide) (by rw [c_25_4_1]; decide) (off := 48) (by rw [c_25_4_1]; rfl) rfl ?_
        refine ab_aload_n de_M_status_73 1 rfl ?_
        refine ab_get (v := .int (h 30 1)) fl_M_84 rfl rfl de_M_status_74 ?_
        refine ab_top (v' := nI (gN Z)) (hG.1) ?_
        exact ab_ret (v := some (.int (nI (gN Z)))) de_M_status_77 ⟨_, rfl⟩ (by unfold fx_M_status; rw [if_neg c_3_1, if_pos c_9_3, if_neg c_25_4_0, if_pos c_25_4_1])
      by_cases c_25_4_2 : x = 2
      · refine ab_tableIn (tgt := 78) de_M_status_25 (by rw [c_25_4_2]; decide) (by rw [c_25_4_2]; decide) (off := 53) (by rw [c_25_4_2]; rfl) rfl ?_
        refine ab_iconst (v := 0) de_M_status_78 rfl ?_
        refine ab_istore_n (L' := [(3, .int (0 : Int32)), (2, .int (0 : Int32)), (0, .ref 30), (1, .int x)]) de_M_status_79 (by decide) rfl ?_
        refine ab_sub (L' := [(0, .ref 30), (2, .int (nI (sp_sum (fun g => gL Z g) 0))), (3, .int (nI 0))]) [2, 1, 0] rfl ?_
        refine lp_M_status2 l d nr h g rr hZ hG ?_ (gN Z + 1) 0 (by omega) (by omega)
        refine ab_iload_n de_M_status_103 1 rfl ?_
        exact ab_ret (v := some (.int (nI (sp_sum (fun g => gL Z g) (gN Z))))) de_M_status_104 ⟨_, rfl⟩ (by unfold fx_M_status; rw [if_neg c_3_1, if_pos c_9_3, if_neg c_25_4_0, if_neg c_25_4_1, if_pos c_25_4_2])
      by_cases c_25_4_3 : x = 3
      · refine ab_tableIn (tgt := 105) de_M_status_25 (by rw [c_25_4_3]; decide) (by rw [c_25_4_3]; decide) (off := 80) (by rw [c_25_4_3]; rfl) rfl ?_
        refine ab_iconst (v := 0) de_M_status_105 rfl ?_
        refine ab_istore_n (L' := [(3, .int (0 : Int32)), (2, .int (0 : Int32)), (0, .ref 30), (1, .int x)]) de_M_status_106 (by decide) rfl ?_
        refine ab_sub (L' := [(0, .ref 30), (2, .int (nI (sp_sum (fun j => sp_cn (T (j / 12) (j % 12))) 0))), (3, .int (nI 0))]) [2, 1, 0] rfl ?_
        refine lp_M_status3 l d nr h g rr hTM hO ?_ 37 0 (by omega) (by omega)
        refine ab_iload_n de_M_status_132 1 rfl ?_
        refine ab_iconst (v := 2) de_M_status_133 rfl ?_
        refine ab_idiv de_M_status_134 (by decide) ?_
        refine ab_top (v' := nI (sp_tt T / 2)) (ab_div (a := sp_tt T) (b := 2) (by omega) (by decide)) ?_
        exact ab_ret (v := some (.int (nI (sp_tt T / 2)))) de_M_status_135 ⟨_, rfl⟩ (by unfold fx_M_status; rw [if_neg c_3_1, if_pos c_9_3, if_neg c_25_4_0, if_neg c_25_4_1, if_neg c_25_4_2, if_pos c_25_4_3])
      by_cases c_25_4_4 : x = 4
      · refine ab_tableIn (tgt := 136) de_M_status_25 (by rw [c_25_4_4]; decide) (by rw [c_25_4_4]; decide) (off := 111) (by rw [c_25_4_4]; rfl) rfl ?_
        refine ab_aload_n de_M_status_136 1 rfl ?_
        refine ab_aload_n de_M_status_137 1 rfl ?_
        refine ab_get (v := .int (h 30 3)) fl_M_171 rfl rfl de_M_status_138 ?_
        refine ab_top (v' := nI (if t = 0 then m else i)) (hB.2.1) ?_
        refine ab_aload_n de_M_status_141 1 rfl ?_
        refine ab_get (v := .int (h 30 4)) fl_M_174 rfl rfl de_M_status_142 ?_
        refine ab_top (v' := nI (if t = 0 then i else m)) (hB.2.2) ?_
        refine ab_ior de_M_status_145 ?_
        refine ab_top (v' := nI (m ||| i)) ((ab_or _ _).trans (congrArg nI (by split <;> first | rfl | exact Nat.or_comm _ _))) ?_
        refine ab_cV (as := [.int (nI (m ||| i))]) (st := []) (ct_M_many l _ (ab_S nr h g rr) (b := m ||| i) (sp_orlt hm hi)) mo_M_many mi_M_many ml_M_101 rfl (by decide) rfl rfl rfl (Nat.le_of_ble_eq_true rfl) de_M_status_146 (fun v_ M_ hK_ hl_ hv_ => ?_)
        obtain ⟨rfl, hm_⟩ := hK_
        have hm_ := hm_.symm
        subst hm_
        change ab_G _ _ _ _ _ _ _ [(2, .int (0 : Int32)), (0, .ref 30), (1, .int x)] [.int (nI (sp_cn (m ||| i)))] (ab_S nr h g rr) _
        exact ab_ret (v := some (.int (nI (sp_cn (m ||| i))))) de_M_status_149 ⟨_, rfl⟩ (by unfold fx_M_status; rw [if_neg c_3_1, if_pos c_9_3, if_neg c_25_4_0, if_neg c_25_4_1, if_neg c_25_4_2, if_neg c_25_4_3, if_pos c_25_4_4])
      by_cases c_25_4_5 : x = 5
      · refine ab_tableIn (tgt := 150) de_M_status_25 (by rw [c_25_4_5]; decide) (by rw [c_25_4_5]; decide) (off := 125) (by rw [c_25_4_5]; rfl) rfl ?_
        refine ab_aload_n de_M_status_150 1 rfl ?_
        refine ab_get (v := .int (h 30 5)) fl_M_177 rfl rfl de_M_status_151 ?_
        refine ab_top (v' := nI t) (hB.1) ?_
        exact ab_ret (v := some (.int (nI t))) de_M_status_154 ⟨_, rfl⟩ (by unfold fx_M_status; rw [if_neg c_3_1, if_pos c_9_3, if_neg c_25_4_0, if_neg c_25_4_1, if_neg c_25_4_2, if_neg c_25_4_3, if_neg c_25_4_4, if_pos c_25_4_5])
      by_cases c_25_4_6 : x = 6
      · refine ab_tableIn (tgt := 155) de_M_status_25 (by rw [c_25_4_6]; decide) (by rw [c_25_4_6]; decide) (off := 130) (by rw [c_25_4_6]; rfl) rfl ?_
        refine ab_aload_n de_M_status_155 1 rfl ?_
        refine ab_get (v := .int (h 30 37)) fl_M_287 rfl rfl de_M_status_156 ?_
        exact ab_ret (v := some (.int (h 30 37))) de_M_status_159 ⟨_, rfl⟩ (by unfold fx_M_status; rw [if_neg c_3_1, if_pos c_9_3, if_neg c_25_4_0, if_neg c_25_4_1, if_neg c_25_4_2, if_neg c_25_4_3, if_neg c_25_4_4, if_neg c_25_4_5, if_pos c_25_4_6])
      refine ab_tableOut (tgt := 160) de_M_status_25 (ab_out7 c_25_4_0 c_25_4_1 c_25_4_2 c_25_4_3 c_25_4_4 c_25_4_5 c_25_4_6) rfl ?_
      refine ab_iconst (v := -1) de_M_status_160 rfl ?_
      exact ab_ret (v := some (.int (-1 : Int32))) de_M_status_161 ⟨_, rfl⟩ (by unfold fx_M_status; rw [if_neg c_3_1, if_pos c_9_3, if_neg c_25_4_0, if_neg c_25_4_1, if_neg c_25_4_2, if_neg c_25_4_3, if_neg c_25_4_4, if_neg c_25_4_5, if_neg c_25_4_6])
    · obtain ⟨xn, hxn, rfl⟩ := sp_btl_n (a := 11) (N := 17) (by decide) (Int32.not_lt.mp c3_) (by decide) (Int32.not_lt.mp c_9_3)
      refine ab_aload_n de_M_status_12 0 rfl ?_
      refine ab_get (v := .ref 31) fl_M_13 rfl rfl de_M_status_13 ?_
      refine ab_iload_n de_M_status_16 1 rfl ?_
      refine ab_bipush (v := 10) de_M_status_17 rfl ?_
      refine ab_isub de_M_status_19 ?_
      refine ab_top (v' := nI (xn - 10)) (ab_sub_k (b := 10) (by omega)) ?_
      refine ab_iald (v := h 31 (xn - 10)) rfl (ab_in (by omega) (by decide)) (ab_hv (ab_tn (n := (xn - 10)) (by omega))) de_M_status_20 ?_
      exact ab_ret (v := some (.int (h 31 (xn - 10)))) de_M_status_21 ⟨_, rfl⟩ (by unfold fx_M_status; try simp only [ab_tn (show xn < 2 ^ 31 by omega)]; rw [if_neg c_3_1, if_neg c_9_3])
