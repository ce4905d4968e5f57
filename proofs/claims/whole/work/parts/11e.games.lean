def sp_fw (T : Nat → Nat → Nat) (c : Nat) (Z : sp_G) (g : Nat) : Nat → Nat
  | 0 => 12
  | k + 1 => min (sp_fw T c Z g k) (sp_cn (sp_sg T c Z g k).1)
theorem sp_fw_le (T : Nat → Nat → Nat) (c : Nat) (Z : sp_G) (g : Nat) : ∀ k, sp_fw T c Z g k ≤ 12
  | 0 => Nat.le_refl _
  | k + 1 => Nat.le_trans (Nat.min_le_left _ _) (sp_fw_le T c Z g k)
/-- by these ends the GAME's last STATE is OVER -/
def sp_eo (T : Nat → Nat → Nat) (c : Nat) (Z : sp_G) (g e : Nat) : Bool := decide (sp_cn (sp_sg T c Z g (gL Z g)).1 < e / 2) || (decide (e % 2 = 1) && !sp_la T (sp_lv T c (sp_sg T c Z g (gL Z g)).1 (sp_sg T c Z g (gL Z g)).2) (sp_sg T c Z g (gL Z g)).1 (sp_sg T c Z g (gL Z g)).2)
def sp_ec (T : Nat → Nat → Nat) (c : Nat) (Z : sp_G) (g e : Nat) : Bool := decide (e / 2 ≤ sp_fw T c Z g (gL Z g)) && decide ((if sp_eo T c Z g e then nI (1 - gL Z g % 2) else -1) = gO Z g)
def sp_ef (T : Nat → Nat → Nat) (c : Nat) (Z : sp_G) (g : Nat) : Nat := if sp_any (fun k => !sp_alk T c Z g k) (gL Z g) then 0 else sp_or (fun e => if sp_ec T c Z g e then 2 ^ e else 0) 8
theorem sp_mnI {a b : Nat} (ha : a < 2 ^ 31) (hb : b < 2 ^ 31) : (if nI b < nI a then nI b else nI a) = nI (min a b) := by
  by_cases h : b < a
  · rw [if_pos ((ab_lt hb ha).mpr h), Nat.min_eq_right (by omega)]
  · rw [if_neg (fun z => h ((ab_lt hb ha).mp z)), Nat.min_eq_left (by omega)]
theorem sp_half {e : Nat} (he : e < 2 ^ 31) : nI e >>> ((1 : Int32) &&& (31 : Int32)) = nI (e / 2) := (ab_shr (k := 1) he (by decide)).trans (by rw [sp_sr])
theorem sp_odd (e : Nat) : nI e &&& (1 : Int32) = nI (e % 2) := by rw [show (1 : Int32) = nI 1 from rfl, ab_and, sp_1m]
theorem sp_1sub {t : Nat} (ht : t < 2) : (1 : Int32) - nI t = nI (1 - t) := by
  rcases (by omega : t = 0 ∨ t = 1) with rfl | rfl <;> rfl
theorem sp_ec_or {T : Nat → Nat → Nat} {c : Nat} {Z : sp_G} {g e : Nat} (h : sp_ec T c Z g e = true) : sp_or (fun e => if sp_ec T c Z g e then 2 ^ e else 0) (e + 1) = sp_or (fun e => if sp_ec T c Z g e then 2 ^ e else 0) e ||| 2 ^ e := by rw [sp_or, if_pos h]
theorem sp_ec_no {T : Nat → Nat → Nat} {c : Nat} {Z : sp_G} {g e : Nat} (h : sp_ec T c Z g e = false) : sp_or (fun e => if sp_ec T c Z g e then 2 ^ e else 0) (e + 1) = sp_or (fun e => if sp_ec T c Z g e then 2 ^ e else 0) e := sp_or_no (if_neg (by rw [h]; decide))
theorem sp_b7 {e : Nat} (he : e < 8) : (1 : Int32) <<< (nI e &&& (31 : Int32)) = nI (2 ^ e) := sp_one_shl (by omega)
set_option maxHeartbeats 1000000 in
set_option maxRecDepth 10000 in
theorem lp_G_endsFitting_e (l : Launch) (d : Nat) (nr : Nat) (h : Nat → Nat → Int32) (g_ : Nat → Nat → Int64) (rr : Nat → Option Nat) {T : Nat → Nat → Nat} (hT : bo_T T h 17) (hO : sp_ok T) {Z : sp_G} (hZ : gm_ok Z) (hG : gm_C Z h) {g : Nat} (hg : g < gN Z) {c : Nat} (hc : c < 4096) (h1_ : (sp_sg T c Z g (gL Z g)).1 < 4096) (h2_ : (sp_sg T c Z g (gL Z g)).2 < 4096) (hal : sp_any (fun k => !sp_alk T c Z g k) (gL Z g) = false) : ∀ (fu_ e : Nat), e ≤ 8 → 8 < e + fu_ → ab_G l none am_G_endsFitting (d + 4) 0 0 138 [(0, .ref 15), (1, .int (nI g)), (2, .int (nI c)), (3, .int (nI (sp_en (sp_sg T c Z g (gL Z g)).1 (sp_sg T c Z g (gL Z g)).2 (gL Z g % 2)))), (4, .int (nI (sp_fw T c Z g (gL Z g)))), (5, .int (nI (sp_cn (sp_sg T c Z g (gL Z g)).1))), (6, .int (ab_bz (!sp_la T (sp_lv T c (sp_sg T c Z g (gL Z g)).1 (sp_sg T c Z g (gL Z g)).2) (sp_sg T c Z g (gL Z g)).1 (sp_sg T c Z g (gL Z g)).2))), (7, .int (nI (sp_or (fun e => if sp_ec T c Z g e then 2 ^ e else 0) e))), (8, .int (nI e))] [] (ab_S nr h g_ rr) (fun (r_ : Option Value) (M' : ab_Me) => r_ = some (.int (nI (sp_ef T c Z g))) ∧ M' = (ab_S nr h g_ rr)) := by
  intro fu_
  induction fu_ with
  | zero => intro e h1 h2; omega
  | succ fu_ ih =>
    intro e hN_ hn_
    refine ab_iload de_G_endsFitting_138 8 rfl ?_
    refine ab_bipush (v := 8) de_G_endsFitting_140 rfl ?_
    refine ab_icmp_ge (tgt := 225) de_G_endsFitting_142 rfl (fun c_142_1 => ?_) (fun c_142_1 => ?_)
    · have he := ab_le_of (n := 8) (by decide) (by omega) rfl c_142_1
      refine ab_iload de_G_endsFitting_225 7 rfl ?_
      exact ab_ret (v := some (.int (nI (sp_or (fun e => if sp_ec T c Z g e then 2 ^ e else 0) e)))) de_G_endsFitting_227 ⟨_, rfl⟩ ⟨congrArg (fun z => some (Value.int z)) (congrArg nI (by unfold sp_ef; rw [if_neg (by rw [hal]; decide), show e = 8 by omega])), rfl⟩
    · have he := ab_nle_of (n := 8) (by decide) (by omega) rfl c_142_1
      have bf_ := sp_fw_le T c Z g (gL Z g)
      have bc_ := sp_cn_le (sp_sg T c Z g (gL Z g)).1
      refine ab_iload de_G_endsFitting_145 5 rfl ?_
      refine ab_iload de_G_endsFitting_147 8 rfl ?_
      refine ab_iconst (v := 1) de_G_endsFitting_149 rfl ?_
      refine ab_ishr de_G_endsFitting_150 ?_
      refine ab_top (v' := nI (e / 2)) (sp_half (by omega)) ?_
      refine ab_icmp_lt (tgt := 166) de_G_endsFitting_151 rfl (fun c_151_2 => ?_) (fun c_151_2 => ?_)
      · have q_ := (ab_lt (by omega) (by omega)).mp c_151_2
        have eo_ : sp_eo T c Z g e = true := by
          unfold sp_eo
          rw [decide_eq_true q_]; rfl
        refine ab_iconst (v := 1) de_G_endsFitting_166 rfl ?_
        refine ab_goto (tgt := 171) de_G_endsFitting_167 rfl ?_
        refine ab_istore (L' := [(9, .int (1 : Int32)), (0, .ref 15), (1, .int (nI g)), (2, .int (nI c)), (3, .int (nI (sp_en (sp_sg T c Z g (gL Z g)).1 (sp_sg T c Z g (gL Z g)).2 (gL Z g % 2)))), (4, .int (nI (sp_fw T c Z g (gL Z g)))), (5, .int (nI (sp_cn (sp_sg T c Z g (gL Z g)).1))), (6, .int (ab_bz (!sp_la T (sp_lv T c (sp_sg T c Z g (gL Z g)).1 (sp_sg T c Z g (gL Z g)).2) (sp_sg T c Z g (gL Z g)).1 (sp_sg T c Z g (gL Z g)).2))), (7, .int (nI (sp_or (fun e => if sp_ec T c Z g e then 2 ^ e else 0) e))), (8, .int (nI e))]) de_G_endsFitting_171 (by decide) rfl ?_
        refine ab_iload de_G_endsFitting_173 0 rfl ?_
        refine ab_if_eq (tgt := 187) de_G_endsFitting_175 rfl (fun c_175_3 => ?_) (fun c_175_3 => ?_)
        · exact absurd c_175_3 (by decide)
        · refine ab_iconst (v := 1) de_G_endsFitting_178 rfl ?_
          refine ab_iload_n de_G_endsFitting_179 4 rfl ?_
          refine ab_cS (as := [.int (nI (sp_en (sp_sg T c Z g (gL Z g)).1 (sp_sg T c Z g (gL Z g)).2 (gL Z g % 2)))]) (st := [.int (1 : Int32)]) (ct_B_side l _ (ab_S nr h g_ rr) h1_ h2_ (show gL Z g % 2 < 2 by omega)) mo_B_side ms_B_side ml_G_77 rfl rfl (Nat.le_of_ble_eq_true rfl) de_G_endsFitting_180 (fun v_ M_ hK_ hl_ hv_ => ?_)
          obtain ⟨rfl, hm_⟩ := hK_
          have hm_ := hm_.symm
          subst hm_
          change ab_G _ _ _ _ _ _ _ [(9, .int (1 : Int32)), (0, .ref 15), (1, .int (nI g)), (2, .int (nI c)), (3, .int (nI (sp_en (sp_sg T c Z g (gL Z g)).1 (sp_sg T c Z g (gL Z g)).2 (gL Z g % 2)))), (4, .int (nI (sp_fw T c Z g (gL Z g)))), (5, .int (nI (sp_cn (sp_sg T c Z g (gL Z g)).1))), (6, .int (ab_bz (!sp_la T (sp_lv T c (sp_sg T c Z g (gL Z g)).1 (sp_sg T c Z g (gL Z g)).2) (sp_sg T c Z g (gL Z g)).1 (sp_sg T c Z g (gL Z g)).2))), (7, .int (nI (sp_or (fun e => if sp_ec T c Z g e then 2 ^ e else 0) e))), (8, .int (nI e))] [.int (nI (gL Z g % 2)), .int (1 : Int32)] (ab_S nr h g_ rr) _
          refine ab_isub de_G_endsFitting_183 ?_
          refine ab_top (v' := nI (1 - gL Z g % 2)) (sp_1sub (by omega)) ?_
          refine ab_goto (tgt := 188) de_G_endsFitting_184 rfl ?_
          refine ab_istore (L' := [(10, .int (nI (1 - gL Z g % 2))), (9, .int (1 : Int32)), (0, .ref 15), (1, .int (nI g)), (2, .int (nI c)), (3, .int (nI (sp_en (sp_sg T c Z g (gL Z g)).1 (sp_sg T c Z g (gL Z g)).2 (gL Z g % 2)))), (4, .int (nI (sp_fw T c Z g (gL Z g)))), (5, .int (nI (sp_cn (sp_sg T c Z g (gL Z g)).1))), (6, .int (ab_bz (!sp_la T (sp_lv T c (sp_sg T c Z g (gL Z g)).1 (sp_sg T c Z g (gL Z g)).2) (sp_sg T c Z g (gL Z g)).1 (sp_sg T c Z g (gL Z g)).2))), (7, .int (nI (sp_or (fun e => if sp_ec T c Z g e then 2 ^ e else 0) e))), (8, .int (nI e))]) de_G_endsFitting_188 (by decide) rfl ?_
          refine ab_iload de_G_endsFitting_190 10 rfl ?_
          refine ab_iconst (v := 1) de_G_endsFitting_192 rfl ?_
          refine ab_ishr de_G_endsFitting_193 ?_
          refine ab_top (v' := nI (e / 2)) (sp_half (by omega)) ?_
          refine ab_iload de_G_endsFitting_194 6 rfl ?_
          refine ab_icmp_gt (tgt := 219) de_G_endsFitting_196 rfl (fun c_196_4 => ?_) (fun c_196_4 => ?_)
          · refine ab_iinc (v := nI (e + 1)) (L' := [(8, .int (nI (e + 1))), (10, .int (nI (1 - gL Z g % 2))), (9, .int (1 : Int32)), (0, .ref 15), (1, .int (nI g)), (2, .int (nI c)), (3, .int (nI (sp_en (sp_sg T c Z g (gL Z g)).1 (sp_sg T c Z g (gL Z g)).2 (gL Z g % 2)))), (4, .int (nI (sp_fw T c Z g (gL Z g)))), (5, .int (nI (sp_cn (sp_sg T c Z g (gL Z g)).1))), (6, .int (ab_bz (!sp_la T (sp_lv T c (sp_sg T c Z g (gL Z g)).1 (sp_sg T c Z g (gL Z g)).2) (sp_sg T c Z g (gL Z g)).1 (sp_sg T c Z g (gL Z g)).2))), (7, .int (nI (sp_or (fun e => if sp_ec T c Z g e then 2 ^ e else 0) e)))]) de_G_endsFitting_219 10 rfl (by rw [show Int32.ofInt 1 = nI 1 from rfl, ab_add]) (by decide) rfl ?_
            refine ab_goto (tgt := 138) de_G_endsFitting_222 rfl ?_
            refine ab_sub (L' := [(0, .ref 15), (1, .int (nI g)), (2, .int (nI c)), (3, .int (nI (sp_en (sp_sg T c Z g (gL Z g)).1 (sp_sg T c Z g (gL Z g)).2 (gL Z g % 2)))), (4, .int (nI (sp_fw T c Z g (gL Z g)))), (5, .int (nI (sp_cn (sp_sg T c Z g (gL Z g)).1))), (6, .int (ab_bz (!sp_la T (sp_lv T c (sp_sg T c Z g (gL Z g)).1 (sp_sg T c Z g (gL Z g)).2) (sp_sg T c Z g (gL Z g)).1 (sp_sg T c Z g (gL Z g)).2))), (7, .int (nI (sp_or (fun e => if sp_ec T c Z g e then 2 ^ e else 0) e))), (8, .int (nI (e + 1)))]) [3, 4, 5, 6, 7, 8, 9, 10, 0] rfl ?_
            have ec_ : sp_ec T c Z g e = false := by
              unfold sp_ec
              rw [decide_eq_false (show ¬ e / 2 ≤ sp_fw T c Z g (gL Z g) from Nat.not_le.mpr ((ab_lt (by omega) (by omega)).mp c_196_4))]
              rfl
            have e_ := sp_ec_no ec_
            have w_ := ih (e + 1) (by omega) (by omega)
            rw [e_] at w_
            exact w_
          · refine ab_iload de_G_endsFitting_199 0 rfl ?_
            refine ab_aload_n de_G_endsFitting_201 2 rfl ?_
            refine ab_get (v := .ref 20) fl_G_25 rfl rfl de_G_endsFitting_202 ?_
            refine ab_iload_n de_G_endsFitting_205 3 rfl ?_
            refine ab_iald (v := h 20 g) rfl (ab_in (by have := gm_6 hZ hg; omega) (by decide)) (ab_hv (ab_tn (by have := gm_6 hZ hg; omega))) de_G_endsFitting_206 ?_
            refine ab_top (v' := gO Z g) ((hG.2 g hg).2.2.1) ?_
            refine ab_icmp_ne (tgt := 219) de_G_endsFitting_207 rfl (fun c_207_5 => ?_) (fun c_207_5 => ?_)
            · refine ab_iinc (v := nI (e + 1)) (L' := [(8, .int (nI (e + 1))), (10, .int (nI (1 - gL Z g % 2))), (9, .int (1 : Int32)), (0, .ref 15), (1, .int (nI g)), (2, .int (nI c)), (3, .int (nI (sp_en (sp_sg T c Z g (gL Z g)).1 (sp_sg T c Z g (gL Z g)).2 (gL Z g % 2)))), (4, .int (nI (sp_fw T c Z g (gL Z g)))), (5, .int (nI (sp_cn (sp_sg T c Z g (gL Z g)).1))), (6, .int (ab_bz (!sp_la T (sp_lv T c (sp_sg T c Z g (gL Z g)).1 (sp_sg T c Z g (gL Z g)).2) (sp_sg T c Z g (gL Z g)).1 (sp_sg T c Z g (gL Z g)).2))), (7, .int (nI (sp_or (fun e => if sp_ec T c Z g e then 2 ^ e else 0) e)))]) de_G_endsFitting_219 10 rfl (by rw [show Int32.ofInt 1 = nI 1 from rfl, ab_add]) (by decide) rfl ?_
              refine ab_goto (tgt := 138) de_G_endsFitting_222 rfl ?_
              refine ab_sub (L' := [(0, .ref 15), (1, .int (nI g)), (2, .int (nI c)), (3, .int (nI (sp_en (sp_sg T c Z g (gL Z g)).1 (sp_sg T c Z g (gL Z g)).2 (gL Z g % 2)))), (4, .int (nI (sp_fw T c Z g (gL Z g)))), (5, .int (nI (sp_cn (sp_sg T c Z g (gL Z g)).1))), (6, .int (ab_bz (!sp_la T (sp_lv T c (sp_sg T c Z g (gL Z g)).1 (sp_sg T c Z g (gL Z g)).2) (sp_sg T c Z g (gL Z g)).1 (sp_sg T c Z g (gL Z g)).2))), (7, .int (nI (sp_or (fun e => if sp_ec T c Z g e then 2 ^ e else 0) e))), (8, .int (nI (e + 1)))]) [3, 4, 5, 6, 7, 8, 9, 10, 0] rfl ?_
              have ec_ : sp_ec T c Z g e = false := by
                unfold sp_ec
                rw [if_pos eo_, decide_eq_false c_207_5, Bool.and_false]
              have e_ := sp_ec_no ec_
              have w_ := ih (e + 1) (by omega) (by omega)
              rw [e_] at w_
              exact w_
            · refine ab_iload de_G_endsFitting_210 9 rfl ?_
              refine ab_iconst (v := 1) de_G_endsFitting_212 rfl ?_
              refine ab_iload de_G_endsFitting_213 10 rfl ?_
              refine ab_ishl de_G_endsFitting_215 ?_
              refine ab_top (v' := nI (2 ^ e)) (sp_b7 he) ?_
              refine ab_ior de_G_endsFitting_216 ?_
              refine ab_top (v' := nI (sp_or (fun e => if sp_ec T c Z g e then 2 ^ e else 0) e ||| 2 ^ e)) (ab_or _ _) ?_
              refine ab_istore (L' := [(7, .int (nI (sp_or (fun e => if sp_ec T c Z g e then 2 ^ e else 0) e ||| 2 ^ e))), (10, .int (nI (1 - gL Z g % 2))), (9, .int (1 : Int32)), (0, .ref 15), (1, .int (nI g)), (2, .int (nI c)), (3, .int (nI (sp_en (sp_sg T c Z g (gL Z g)).1 (sp_sg T c Z g (gL Z g)).2 (gL Z g % 2)))), (4, .int (nI (sp_fw T c Z g (gL Z g)))), (5, .int (nI (sp_cn (sp_sg T c Z g (gL Z g)).1))), (6, .int (ab_bz (!sp_la T (sp_lv T c (sp_sg T c Z g (gL Z g)).1 (sp_sg T c Z g (gL Z g)).2) (sp_sg T c Z g (gL Z g)).1 (sp_sg T c Z g (gL Z g)).2))), (8, .int (nI e))]) de_G_endsFitting_217 (by decide) rfl ?_
              refine ab_iinc (v := nI (e + 1)) (L' := [(8, .int (nI (e + 1))), (7, .int (nI (sp_or (fun e => if sp_ec T c Z g e then 2 ^ e else 0) e ||| 2 ^ e))), (10, .int (nI (1 - gL Z g % 2))), (9, .int (1 : Int32)), (0, .ref 15), (1, .int (nI g)), (2, .int (nI c)), (3, .int (nI (sp_en (sp_sg T c Z g (gL Z g)).1 (sp_sg T c Z g (gL Z g)).2 (gL Z g % 2)))), (4, .int (nI (sp_fw T c Z g (gL Z g)))), (5, .int (nI (sp_cn (sp_sg T c Z g (gL Z g)).1))), (6, .int (ab_bz (!sp_la T (sp_lv T c (sp_sg T c Z g (gL Z g)).1 (sp_sg T c Z g (gL Z g)).2) (sp_sg T c Z g (gL Z g)).1 (sp_sg T c Z g (gL Z g)).2)))]) de_G_endsFitting_219 10 rfl (by rw [show Int32.ofInt 1 = nI 1 from rfl, ab_add]) (by decide) rfl ?_
              refine ab_goto (tgt := 138) de_G_endsFitting_222 rfl ?_
              refine ab_sub (L' := [(0, .ref 15), (1, .int (nI g)), (2, .int (nI c)), (3, .int (nI (sp_en (sp_sg T c Z g (gL Z g)).1 (sp_sg T c Z g (gL Z g)).2 (gL Z g % 2)))), (4, .int (nI (sp_fw T c Z g (gL Z g)))), (5, .int (nI (sp_cn (sp_sg T c Z g (gL Z g)).1))), (6, .int (ab_bz (!sp_la T (sp_lv T c (sp_sg T c Z g (gL Z g)).1 (sp_sg T c Z g (gL Z g)).2) (sp_sg T c Z g (gL Z g)).1 (sp_sg T c Z g (gL Z g)).2))), (7, .int (nI (sp_or (fun e => if sp_ec T c Z g e then 2 ^ e else 0) e ||| 2 ^ e))), (8, .int (nI (e + 1)))]) [4, 5, 6, 7, 8, 9, 10, 1, 0] rfl ?_
              have ec_ : sp_ec T c Z g e = true := by
                unfold sp_ec
                rw [if_pos eo_, decide_eq_true (show e / 2 ≤ sp_fw T c Z g (gL Z g) from Nat.le_of_not_lt (fun z => c_196_4 ((ab_lt (by omega) (by omega)).mpr z))), decide_eq_true c_207_5]
                rfl
              have e_ := sp_ec_or ec_
              have w_ := ih (e + 1) (by omega) (by omega)
              rw [e_] at w_
              exact w_
      · refine ab_iload de_G_endsFitting_154 8 rfl ?_
        refine ab_iconst (v := 1) de_G_endsFitting_156 rfl ?_
        refine ab_iand de_G_endsFitting_157 ?_
        refine ab_top (v' := nI (e % 2)) (sp_odd e) ?_
        refine ab_if_eq (tgt := 170) de_G_endsFitting_158 rfl (fun c_158_6 => ?_) (fun c_158_6 => ?_)
        · have q1_ : ¬ sp_cn (sp_sg T c Z g (gL Z g)).1 < e / 2 := fun z => c_151_2 ((ab_lt (by omega) (by omega)).mpr z)
          have q2_ : e % 2 = 0 := (ab_inj (b := 0) (by omega) (by decide)).mp c_158_6
          have eo_ : sp_eo T c Z g e = false := by
            unfold sp_eo
            rw [decide_eq_false q1_, decide_eq_false (show ¬ e % 2 = 1 by omega)]; rfl
          refine ab_iconst (v := 0) de_G_endsFitting_170 rfl ?_
          refine ab_istore (L' := [(9, .int (0 : Int32)), (0, .ref 15), (1, .int (nI g)), (2, .int (nI c)), (3, .int (nI (sp_en (sp_sg T c Z g (gL Z g)).1 (sp_sg T c Z g (gL Z g)).2 (gL Z g % 2)))), (4, .int (nI (sp_fw T c Z g (gL Z g)))), (5, .int (nI (sp_cn (sp_sg T c Z g (gL Z g)).1))), (6, .int (ab_bz (!sp_la T (sp_lv T c (sp_sg T c Z g (gL Z g)).1 (sp_sg T c Z g (gL Z g)).2) (sp_sg T c Z g (gL Z g)).1 (sp_sg T c Z g (gL Z g)).2))), (7, .int (nI (sp_or (fun e => if sp_ec T c Z g e then 2 ^ e else 0) e))), (8, .int (nI e))]) de_G_endsFitting_171 (by decide) rfl ?_
          refine ab_iload de_G_endsFitting_173 0 rfl ?_
          refine ab_if_eq (tgt := 187) de_G_endsFitting_175 rfl (fun c_175_7 => ?_) (fun c_175_7 => ?_)
          · refine ab_iconst (v := -1) de_G_endsFitting_187 rfl ?_
            refine ab_istore (L' := [(10, .int (-1 : Int32)), (9, .int (0 : Int32)), (0, .ref 15), (1, .int (nI g)), (2, .int (nI c)), (3, .int (nI (sp_en (sp_sg T c Z g (gL Z g)).1 (sp_sg T c Z g (gL Z g)).2 (gL Z g % 2)))), (4, .int (nI (sp_fw T c Z g (gL Z g)))), (5, .int (nI (sp_cn (sp_sg T c Z g (gL Z g)).1))), (6, .int (ab_bz (!sp_la T (sp_lv T c (sp_sg T c Z g (gL Z g)).1 (sp_sg T c Z g (gL Z g)).2) (sp_sg T c Z g (gL Z g)).1 (sp_sg T c Z g (gL Z g)).2))), (7, .int (nI (sp_or (fun e => if sp_ec T c Z g e then 2 ^ e else 0) e))), (8, .int (nI e))]) de_G_endsFitting_188 (by decide) rfl ?_
            refine ab_iload de_G_endsFitting_190 10 rfl ?_
            refine ab_iconst (v := 1) de_G_endsFitting_192 rfl ?_
            refine ab_ishr de_G_endsFitting_193 ?_
            refine ab_top (v' := nI (e / 2)) (sp_half (by omega)) ?_
            refine ab_iload de_G_endsFitting_194 6 rfl ?_
            refine ab_icmp_gt (tgt := 219) de_G_endsFitting_196 rfl (fun c_196_8 => ?_) (fun c_196_8 => ?_)
            · refine ab_iinc (v := nI (e + 1)) (L' := [(8, .int (nI (e + 1))), (10, .int (-1 : Int32)), (9, .int (0 : Int32)), (0, .ref 15), (1, .int (nI g)), (2, .int (nI c)), (3, .int (nI (sp_en (sp_sg T c Z g (gL Z g)).1 (sp_sg T c Z g (gL Z g)).2 (gL Z g % 2)))), (4, .int (nI (sp_fw T c Z g (gL Z g)))), (5, .int (nI (sp_cn (sp_sg T c Z g (gL Z g)).1))), (6, .int (ab_bz (!sp_la T (sp_lv T c (sp_sg T c Z g (gL Z g)).1 (sp_sg T c Z g (gL Z g)).2) (sp_sg T c Z g (gL Z g)).1 (sp_sg T c Z g (gL Z g)).2))), (7, .int (nI (sp_or (fun e => if sp_ec T c Z g e then 2 ^ e else 0) e)))]) de_G_endsFitting_219 10 rfl (by rw [show Int32.ofInt 1 = nI 1 from rfl, ab_add]) (by decide) rfl ?_
              refine ab_goto (tgt := 138) de_G_endsFitting_222 rfl ?_
              refine ab_sub (L' := [(0, .ref 15), (1, .int (nI g)), (2, .int (nI c)), (3, .int (nI (sp_en (sp_sg T c Z g (gL Z g)).1 (sp_sg T c Z g (gL Z g)).2 (gL Z g % 2)))), (4, .int (nI (sp_fw T c Z g (gL Z g)))), (5, .int (nI (sp_cn (sp_sg T c Z g (gL Z g)).1))), (6, .int (ab_bz (!sp_la T (sp_lv T c (sp_sg T c Z g (gL Z g)).1 (sp_sg T c Z g (gL Z g)).2) (sp_sg T c Z g (gL Z g)).1 (sp_sg T c Z g (gL Z g)).2))), (7, .int (nI (sp_or (fun e => if sp_ec T c Z g e then 2 ^ e else 0) e))), (8, .int (nI (e + 1)))]) [3, 4, 5, 6, 7, 8, 9, 10, 0] rfl ?_
              have ec_ : sp_ec T c Z g e = false := by
                unfold sp_ec
                rw [decide_eq_false (show ¬ e / 2 ≤ sp_fw T c Z g (gL Z g) from Nat.not_le.mpr ((ab_lt (by omega) (by omega)).mp c_196_8))]
                rfl
              have e_ := sp_ec_no ec_
              have w_ := ih (e + 1) (by omega) (by omega)
              rw [e_] at w_
              exact w_
            · refine ab_iload de_G_endsFitting_199 0 rfl ?_
              refine ab_aload_n de_G_endsFitting_201 2 rfl ?_
              refine ab_get (v := .ref 20) fl_G_25 rfl rfl de_G_endsFitting_202 ?_
              refine ab_iload_n de_G_endsFitting_205 3 rfl ?_
              refine ab_iald (v := h 20 g) rfl (ab_in (by have := gm_6 hZ hg; omega) (by decide)) (ab_hv (ab_tn (by have := gm_6 hZ hg; omega))) de_G_endsFitting_206 ?_
              refine ab_top (v' := gO Z g) ((hG.2 g hg).2.2.1) ?_
              refine ab_icmp_ne (tgt := 219) de_G_endsFitting_207 rfl (fun c_207_9 => ?_) (fun c_207_9 => ?_)
              · refine ab_iinc (v := nI (e + 1)) (L' := [(8, .int (nI (e + 1))), (10, .int (-1 : Int32)), (9, .int (0 : Int32)), (0, .ref 15), (1, .int (nI g)), (2, .int (nI c)), (3, .int (nI (sp_en (sp_sg T c Z g (gL Z g)).1 (sp_sg T c Z g (gL Z g)).2 (gL Z g % 2)))), (4, .int (nI (sp_fw T c Z g (gL Z g)))), (5, .int (nI (sp_cn (sp_sg T c Z g (gL Z g)).1))), (6, .int (ab_bz (!sp_la T (sp_lv T c (sp_sg T c Z g (gL Z g)).1 (sp_sg T c Z g (gL Z g)).2) (sp_sg T c Z g (gL Z g)).1 (sp_sg T c Z g (gL Z g)).2))), (7, .int (nI (sp_or (fun e => if sp_ec T c Z g e then 2 ^ e else 0) e)))]) de_G_endsFitting_219 10 rfl (by rw [show Int32.ofInt 1 = nI 1 from rfl, ab_add]) (by decide) rfl ?_
                refine ab_goto (tgt := 138) de_G_endsFitting_222 rfl ?_
                refine ab_sub (L' := [(0, .ref 15), (1, .int (nI g)), (2, .int (nI c)), (3, .int (nI (sp_en (sp_sg T c Z g (gL Z g)).1 (sp_sg T c Z g (gL Z g)).2 (gL Z g % 2)))), (4, .int (nI (sp_fw T c Z g (gL Z g)))), (5, .int (nI (sp_cn (sp_sg T c Z g (gL Z g)).1))), (6, .int (ab_bz (!sp_la T (sp_lv T c (sp_sg T c Z g (gL Z g)).1 (sp_sg T c Z g (gL Z g)).2) (sp_sg T c Z g (gL Z g)).1 (sp_sg T c Z g (gL Z g)).2))), (7, .int (nI (sp_or (fun e => if sp_ec T c Z g e then 2 ^ e else 0) e))), (8, .int (nI (e + 1)))]) [3, 4, 5, 6, 7, 8, 9, 10, 0] rfl ?_
                have ec_ : sp_ec T c Z g e = false := by
                  unfold sp_ec
                  rw [if_neg (by rw [eo_]; decide), decide_eq_false c_207_9, Bool.and_false]
                have e_ := sp_ec_no ec_
                have w_ := ih (e + 1) (by omega) (by omega)
                rw [e_] at w_
                exact w_
              · refine ab_iload de_G_endsFitting_210 9 rfl ?_
                refine ab_iconst (v := 1) de_G_endsFitting_212 rfl ?_
                refine ab_iload de_G_endsFitting_213 10 rfl ?_
                refine ab_ishl de_G_endsFitting_215 ?_
                refine ab_top (v' := nI (2 ^ e)) (sp_b7 he) ?_
                refine ab_ior de_G_endsFitting_216 ?_
                refine ab_top (v' := nI (sp_or (fun e => if sp_ec T c Z g e then 2 ^ e else 0) e ||| 2 ^ e)) (ab_or _ _) ?_
                refine ab_istore (L' := [(7, .int (nI (sp_or (fun e => if sp_ec T c Z g e then 2 ^ e else 0) e ||| 2 ^ e))), (10, .int (-1 : Int32)), (9, .int (0 : Int32)), (0, .ref 15), (1, .int (nI g)), (2, .int (nI c)), (3, .int (nI (sp_en (sp_sg T c Z g (gL Z g)).1 (sp_sg T c Z g (gL Z g)).2 (gL Z g % 2)))), (4, .int (nI (sp_fw T c Z g (gL Z g)))), (5, .int (nI (sp_cn (sp_sg T c Z g (gL Z g)).1))), (6, .int (ab_bz (!sp_la T (sp_lv T c (sp_sg T c Z g (gL Z g)).1 (sp_sg T c Z g (gL Z g)).2) (sp_sg T c Z g (gL Z g)).1 (sp_sg T c Z g (gL Z g)).2))), (8, .int (nI e))]) de_G_endsFitting_217 (by decide) rfl ?_
                refine ab_iinc (v := nI (e + 1)) (L' := [(8, .int (nI (e + 1))), (7, .int (nI (sp_or (fun e => if sp_ec T c Z g e then 2 ^ e else 0) e ||| 2 ^ e))), (10, .int (-1 : Int32)), (9, .int (0 : Int32)), (0, .ref 15), (1, .int (nI g)), (2, .int (nI c)), (3, .int (nI (sp_en (sp_sg T c Z g (gL Z g)).1 (sp_sg T c Z g (gL Z g)).2 (gL Z g % 2)))), (4, .int (nI (sp_fw T c Z g (gL Z g)))), (5, .int (nI (sp_cn (sp_sg T c Z g (gL Z g)).1))), (6, .int (ab_bz (!sp_la T (sp_lv T c (sp_sg T c Z g (gL Z g)).1 (sp_sg T c Z g (gL Z g)).2) (sp_sg T c Z g (gL Z g)).1 (sp_sg T c Z g (gL Z g)).2)))]) de_G_endsFitting_219 10 rfl (by rw [show Int32.ofInt 1 = nI 1 from rfl, ab_add]) (by decide) rfl ?_
                refine ab_goto (tgt := 138) de_G_endsFitting_222 rfl ?_
                refine ab_sub (L' := [(0, .ref 15), (1, .int (nI g)), (2, .int (nI c)), (3, .int (nI (sp_en (sp_sg T c Z g (gL Z g)).1 (sp_sg T c Z g (gL Z g)).2 (gL Z g % 2)))), (4, .int (nI (sp_fw T c Z g (gL Z g)))), (5, .int (nI (sp_cn (sp_sg T c Z g (gL Z g)).1))), (6, .int (ab_bz (!sp_la T (sp_lv T c (sp_sg T c Z g (gL Z g)).1 (sp_sg T c Z g (gL Z g)).2) (sp_sg T c Z g (gL Z g)).1 (sp_sg T c Z g (gL Z g)).2))), (7, .int (nI (sp_or (fun e => if sp_ec T c Z g e then 2 ^ e else 0) e ||| 2 ^ e))), (8, .int (nI (e + 1)))]) [4, 5, 6, 7, 8, 9, 10, 1, 0] rfl ?_
                have ec_ : sp_ec T c Z g e = true := by
                  unfold sp_ec
                  rw [if_neg (by rw [eo_]; decide), decide_eq_true (show e / 2 ≤ sp_fw T c Z g (gL Z g) from Nat.le_of_not_lt (fun z => c_196_8 ((ab_lt (by omega) (by omega)).mpr z))), decide_eq_true c_207_9]
                  rfl
                have e_ := sp_ec_or ec_
                have w_ := ih (e + 1) (by omega) (by omega)
                rw [e_] at w_
                exact w_
          · exact absurd rfl c_175_7
        · refine ab_iload de_G_endsFitting_161 6 rfl ?_
          refine ab_if_eq (tgt := 170) de_G_endsFitting_163 rfl (fun c_163_10 => ?_) (fun c_163_10 => ?_)
          · have q1_ : ¬ sp_cn (sp_sg T c Z g (gL Z g)).1 < e / 2 := fun z => c_151_2 ((ab_lt (by omega) (by omega)).mpr z)
            have q2_ := (ab_bz0 _).mp c_163_10
            have eo_ : sp_eo T c Z g e = false := by
              unfold sp_eo
              rw [decide_eq_false q1_, q2_, Bool.and_false]; rfl
            refine ab_iconst (v := 0) de_G_endsFitting_170 rfl ?_
            refine ab_istore (L' := [(9, .int (0 : Int32)), (0, .ref 15), (1, .int (nI g)), (2, .int (nI c)), (3, .int (nI (sp_en (sp_sg T c Z g (gL Z g)).1 (sp_sg T c Z g (gL Z g)).2 (gL Z g % 2)))), (4, .int (nI (sp_fw T c Z g (gL Z g)))), (5, .int (nI (sp_cn (sp_sg T c Z g (gL Z g)).1))), (6, .int (ab_bz (!sp_la T (sp_lv T c (sp_sg T c Z g (gL Z g)).1 (sp_sg T c Z g (gL Z g)).2) (sp_sg T c Z g (gL Z g)).1 (sp_sg T c Z g (gL Z g)).2))), (7, .int (nI (sp_or (fun e => if sp_ec T c Z g e then 2 ^ e else 0) e))), (8, .int (nI e))]) de_G_endsFitting_171 (by decide) rfl ?_
            refine ab_iload de_G_endsFitting_173 0 rfl ?_
            refine ab_if_eq (tgt := 187) de_G_endsFitting_175 rfl (fun c_175_11 => ?_) (fun c_175_11 => ?_)
            · refine ab_iconst (v := -1) de_G_endsFitting_187 rfl ?_
              refine ab_istore (L' := [(10, .int (-1 : Int32)), (9, .int (0 : Int32)), (0, .ref 15), (1, .int (nI g)), (2, .int (nI c)), (3, .int (nI (sp_en (sp_sg T c Z g (gL Z g)).1 (sp_sg T c Z g (gL Z g)).2 (gL Z g % 2)))), (4, .int (nI (sp_fw T c Z g (gL Z g)))), (5, .int (nI (sp_cn (sp_sg T c Z g (gL Z g)).1))), (6, .int (ab_bz (!sp_la T (sp_lv T c (sp_sg T c Z g (gL Z g)).1 (sp_sg T c Z g (gL Z g)).2) (sp_sg T c Z g (gL Z g)).1 (sp_sg T c Z g (gL Z g)).2))), (7, .int (nI (sp_or (fun e => if sp_ec T c Z g e then 2 ^ e else 0) e))), (8, .int (nI e))]) de_G_endsFitting_188 (by decide) rfl ?_
              refine ab_iload de_G_endsFitting_190 10 rfl ?_
              refine ab_iconst (v := 1) de_G_endsFitting_192 rfl ?_
              refine ab_ishr de_G_endsFitting_193 ?_
              refine ab_top (v' := nI (e / 2)) (sp_half (by omega)) ?_
              refine ab_iload de_G_endsFitting_194 6 rfl ?_
              refine ab_icmp_gt (tgt := 219) de_G_endsFitting_196 rfl (fun c_196_12 => ?_) (fun c_196_12 => ?_)
              · refine ab_iinc (v := nI (e + 1)) (L' := [(8, .int (nI (e + 1))), (10, .int (-1 : Int32)), (9, .int (0 : Int32)), (0, .ref 15), (1, .int (nI g)), (2, .int (nI c)), (3, .int (nI (sp_en (sp_sg T c Z g (gL Z g)).1 (sp_sg T c Z g (gL Z g)).2 (gL Z g % 2)))), (4, .int (nI (sp_fw T c Z g (gL Z g)))), (5, .int (nI (sp_cn (sp_sg T c Z g (gL Z g)).1))), (6, .int (ab_bz (!sp_la T (sp_lv T c (sp_sg T c Z g (gL Z g)).1 (sp_sg T c Z g (gL Z g)).2) (sp_sg T c Z g (gL Z g)).1 (sp_sg T c Z g (gL Z g)).2))), (7, .int (nI (sp_or (fun e => if sp_ec T c Z g e then 2 ^ e else 0) e)))]) de_G_endsFitting_219 10 rfl (by rw [show Int32.ofInt 1 = nI 1 from rfl, ab_add]) (by decide) rfl ?_
                refine ab_goto (tgt := 138) de_G_endsFitting_222 rfl ?_
                refine ab_sub (L' := [(0, .ref 15), (1, .int (nI g)), (2, .int (nI c)), (3, .int (nI (sp_en (sp_sg T c Z g (gL Z g)).1 (sp_sg T c Z g (gL Z g)).2 (gL Z g % 2)))), (4, .int (nI (sp_fw T c Z g (gL Z g)))), (5, .int (nI (sp_cn (sp_sg T c Z g (gL Z g)).1))), (6, .int (ab_bz (!sp_la T (sp_lv T c (sp_sg T c Z g (gL Z g)).1 (sp_sg T c Z g (gL Z g)).2) (sp_sg T c Z g (gL Z g)).1 (sp_sg T c Z g (gL Z g)).2))), (7, .int (nI (sp_or (fun e => if sp_ec T c Z g e then 2 ^ e else 0) e))), (8, .int (nI (e + 1)))]) [3, 4, 5, 6, 7, 8, 9, 10, 0] rfl ?_
                have ec_ : sp_ec T c Z g e = false := by
                  unfold sp_ec
                  rw [decide_eq_false (show ¬ e / 2 ≤ sp_fw T c Z g (gL Z g) from Nat.not_le.mpr ((ab_lt (by omega) (by omega)).mp c_196_12))]
                  rfl
                have e_ := sp_ec_no ec_
                have w_ := ih (e + 1) (by omega) (by omega)
                rw [e_] at w_
                exact w_
              · refine ab_iload de_G_endsFitting_199 0 rfl ?_
                refine ab_aload_n de_G_endsFitting_201 2 rfl ?_
                refine ab_get (v := .ref 20) fl_G_25 rfl rfl de_G_endsFitting_202 ?_
                refine ab_iload_n de_G_endsFitting_205 3 rfl ?_
                refine ab_iald (v := h 20 g) rfl (ab_in (by have := gm_6 hZ hg; omega) (by decide)) (ab_hv (ab_tn (by have := gm_6 hZ hg; omega))) de_G_endsFitting_206 ?_
                refine ab_top (v' := gO Z g) ((hG.2 g hg).2.2.1) ?_
                refine ab_icmp_ne (tgt := 219) de_G_endsFitting_207 rfl (fun c_207_13 => ?_) (fun c_207_13 => ?_)
                · refine ab_iinc (v := nI (e + 1)) (L' := [(8, .int (nI (e + 1))), (10, .int (-1 : Int32)), (9, .int (0 : Int32)), (0, .ref 15), (1, .int (nI g)), (2, .int (nI c)), (3, .int (nI (sp_en (sp_sg T c Z g (gL Z g)).1 (sp_sg T c Z g (gL Z g)).2 (gL Z g % 2)))), (4, .int (nI (sp_fw T c Z g (gL Z g)))), (5, .int (nI (sp_cn (sp_sg T c Z g (gL Z g)).1))), (6, .int (ab_bz (!sp_la T (sp_lv T c (sp_sg T c Z g (gL Z g)).1 (sp_sg T c Z g (gL Z g)).2) (sp_sg T c Z g (gL Z g)).1 (sp_sg T c Z g (gL Z g)).2))), (7, .int (nI (sp_or (fun e => if sp_ec T c Z g e then 2 ^ e else 0) e)))]) de_G_endsFitting_219 10 rfl (by rw [show Int32.ofInt 1 = nI 1 from rfl, ab_add]) (by decide) rfl ?_
                  refine ab_goto (tgt := 138) de_G_endsFitting_222 rfl ?_
                  refine ab_sub (L' := [(0, .ref 15), (1, .int (nI g)), (2, .int (nI c)), (3, .int (nI (sp_en (sp_sg T c Z g (gL Z g)).1 (sp_sg T c Z g (gL Z g)).2 (gL Z g % 2)))), (4, .int (nI (sp_fw T c Z g (gL Z g)))), (5, .int (nI (sp_cn (sp_sg T c Z g (gL Z g)).1))), (6, .int (ab_bz (!sp_la T (sp_lv T c (sp_sg T c Z g (gL Z g)).1 (sp_sg T c Z g (gL Z g)).2) (sp_sg T c Z g (gL Z g)).1 (sp_sg T c Z g (gL Z g)).2))), (7, .int (nI (sp_or (fun e => if sp_ec T c Z g e then 2 ^ e else 0) e))), (8, .int (nI (e + 1)))]) [3, 4, 5, 6, 7, 8, 9, 10, 0] rfl ?_
                  have ec_ : sp_ec T c Z g e = false := by
                    unfold sp_ec
                    rw [if_neg (by rw [eo_]; decide), decide_eq_false c_207_13, Bool.and_false]
                  have e_ := sp_ec_no ec_
                  have w_ := ih (e + 1) (by omega) (by omega)
                  rw [e_] at w_
                  exact w_
                · refine ab_iload de_G_endsFitting_210 9 rfl ?_
                  refine ab_iconst (v := 1) de_G_endsFitting_212 rfl ?_
                  refine ab_iload de_G_endsFitting_213 10 rfl ?_
                  refine ab_ishl de_G_endsFitting_215 ?_
                  refine ab_top (v' := nI (2 ^ e)) (sp_b7 he) ?_
                  refine ab_ior de_G_endsFitting_216 ?_
                  refine ab_top (v' := nI (sp_or (fun e => if sp_ec T c Z g e then 2 ^ e else 0) e ||| 2 ^ e)) (ab_or _ _) ?_
                  refine ab_istore (L' := [(7, .int (nI (sp_or (fun e => if sp_ec T c Z g e then 2 ^ e else 0) e ||| 2 ^ e))), (10, .int (-1 : Int32)), (9, .int (0 : Int32)), (0, .ref 15), (1, .int (nI g)), (2, .int (nI c)), (3, .int (nI (sp_en (sp_sg T c Z g (gL Z g)).1 (sp_sg T c Z g (gL Z g)).2 (gL Z g % 2)))), (4, .int (nI (sp_fw T c Z g (gL Z g)))), (5, .int (nI (sp_cn (sp_sg T c Z g (gL Z g)).1))), (6, .int (ab_bz (!sp_la T (sp_lv T c (sp_sg T c Z g (gL Z g)).1 (sp_sg T c Z g (gL Z g)).2) (sp_sg T c Z g (gL Z g)).1 (sp_sg T c Z g (gL Z g)).2))), (8, .int (nI e))]) de_G_endsFitting_217 (by decide) rfl ?_
                  refine ab_iinc (v := nI (e + 1)) (L' := [(8, .int (nI (e + 1))), (7, .int (nI (sp_or (fun e => if sp_ec T c Z g e then 2 ^ e else 0) e ||| 2 ^ e))), (10, .int (-1 : Int32)), (9, .int (0 : Int32)), (0, .ref 15), (1, .int (nI g)), (2, .int (nI c)), (3, .int (nI (sp_en (sp_sg T c Z g (gL Z g)).1 (sp_sg T c Z g (gL Z g)).2 (gL Z g % 2)))), (4, .int (nI (sp_fw T c Z g (gL Z g)))), (5, .int (nI (sp_cn (sp_sg T c Z g (gL Z g)).1))), (6, .int (ab_bz (!sp_la T (sp_lv T c (sp_sg T c Z g (gL Z g)).1 (sp_sg T c Z g (gL Z g)).2) (sp_sg T c Z g (gL Z g)).1 (sp_sg T c Z g (gL Z g)).2)))]) de_G_endsFitting_219 10 rfl (by rw [show Int32.ofInt 1 = nI 1 from rfl, ab_add]) (by decide) rfl ?_
                  refine ab_goto (tgt := 138) de_G_endsFitting_222 rfl ?_
                  refine ab_sub (L' := [(0, .ref 15), (1, .int (nI g)), (2, .int (nI c)), (3, .int (nI (sp_en (sp_sg T c Z g (gL Z g)).1 (sp_sg T c Z g (gL Z g)).2 (gL Z g % 2)))), (4, .int (nI (sp_fw T c Z g (gL Z g)))), (5, .int (nI (sp_cn (sp_sg T c Z g (gL Z g)).1))), (6, .int (ab_bz (!sp_la T (sp_lv T c (sp_sg T c Z g (gL Z g)).1 (sp_sg T c Z g (gL Z g)).2) (sp_sg T c Z g (gL Z g)).1 (sp_sg T c Z g (gL Z g)).2))), (7, .int (nI (sp_or (fun e => if sp_ec T c Z g e then 2 ^ e else 0) e ||| 2 ^ e))), (8, .int (nI (e + 1)))]) [4, 5, 6, 7, 8, 9, 10, 1, 0] rfl ?_
                  have ec_ : sp_ec T c Z g e = true := by
                    unfold sp_ec
                    rw [if_neg (by rw [eo_]; decide), decide_eq_true (show e / 2 ≤ sp_fw T c Z g (gL Z g) from Nat.le_of_not_lt (fun z => c_196_12 ((ab_lt (by omega) (by omega)).mpr z))), decide_eq_true c_207_13]
                    rfl
                  have e_ := sp_ec_or ec_
                  have w_ := ih (e + 1) (by omega) (by omega)
                  rw [e_] at w_
                  exact w_
            · exact absurd rfl c_175_11
          · have q3_ : e % 2 = 1 := by
              have z : ¬ e % 2 = 0 := fun z => c_158_6 (by rw [z]; rfl)
              omega
            have q2_ := (ab_bz1 _).mp c_163_10
            have eo_ : sp_eo T c Z g e = true := by
              unfold sp_eo
              rw [q2_, decide_eq_true q3_]; simp
            refine ab_iconst (v := 1) de_G_endsFitting_166 rfl ?_
            refine ab_goto (tgt := 171) de_G_endsFitting_167 rfl ?_
            refine ab_istore (L' := [(9, .int (1 : Int32)), (0, .ref 15), (1, .int (nI g)), (2, .int (nI c)), (3, .int (nI (sp_en (sp_sg T c Z g (gL Z g)).1 (sp_sg T c Z g (gL Z g)).2 (gL Z g % 2)))), (4, .int (nI (sp_fw T c Z g (gL Z g)))), (5, .int (nI (sp_cn (sp_sg T c Z g (gL Z g)).1))), (6, .int (ab_bz (!sp_la T (sp_lv T c (sp_sg T c Z g (gL Z g)).1 (sp_sg T c Z g (gL Z g)).2) (sp_sg T c Z g (gL Z g)).1 (sp_sg T c Z g (gL Z g)).2))), (7, .int (nI (sp_or (fun e => if sp_ec T c Z g e then 2 ^ e else 0) e))), (8, .int (nI e))]) de_G_endsFitting_171 (by decide) rfl ?_
            refine ab_iload de_G_endsFitting_173 0 rfl ?_
            refine ab_if_eq (tgt := 187) de_G_endsFitting_175 rfl (fun c_175_14 => ?_) (fun c_175_14 => ?_)
            · exact absurd c_175_14 (by decide)
            · refine ab_iconst (v := 1) de_G_endsFitting_178 rfl ?_
              refine ab_iload_n de_G_endsFitting_179 4 rfl ?_
              refine ab_cS (as := [.int (nI (sp_en (sp_sg T c Z g (gL Z g)).1 (sp_sg T c Z g (gL Z g)).2 (gL Z g % 2)))]) (st := [.int (1 : Int32)]) (ct_B_side l _ (ab_S nr h g_ rr) h1_ h2_ (show gL Z g % 2 < 2 by omega)) mo_B_side ms_B_side ml_G_77 rfl rfl (Nat.le_of_ble_eq_true rfl) de_G_endsFitting_180 (fun v_ M_ hK_ hl_ hv_ => ?_)
              obtain ⟨rfl, hm_⟩ := hK_
              have hm_ := hm_.symm
              subst hm_
              change ab_G _ _ _ _ _ _ _ [(9, .int (1 : Int32)), (0, .ref 15), (1, .int (nI g)), (2, .int (nI c)), (3, .int (nI (sp_en (sp_sg T c Z g (gL Z g)).1 (sp_sg T c Z g (gL Z g)).2 (gL Z g % 2)))), (4, .int (nI (sp_fw T c Z g (gL Z g)))), (5, .int (nI (sp_cn (sp_sg T c Z g (gL Z g)).1))), (6, .int (ab_bz (!sp_la T (sp_lv T c (sp_sg T c Z g (gL Z g)).1 (sp_sg T c Z g (gL Z g)).2) (sp_sg T c Z g (gL Z g)).1 (sp_sg T c Z g (gL Z g)).2))), (7, .int (nI (sp_or (fun e => if sp_ec T c Z g e then 2 ^ e else 0) e))), (8, .int (nI e))] [.int (nI (gL Z g % 2)), .int (1 : Int32)] (ab_S nr h g_ rr) _
              refine ab_isub de_G_endsFitting_183 ?_
              refine ab_top (v' := nI (1 - gL Z g % 2)) (sp_1sub (by omega)) ?_
              refine ab_goto (tgt := 188) de_G_endsFitting_184 rfl ?_
              refine ab_istore (L' := [(10, .int (nI (1 - gL Z g % 2))), (9, .int (1 : Int32)), (0, .ref 15), (1, .int (nI g)), (2, .int (nI c)), (3, .int (nI (sp_en (sp_sg T c Z g (gL Z g)).1 (sp_sg T c Z g (gL Z g)).2 (gL Z g % 2)))), (4, .int (nI (sp_fw T c Z g (gL Z g)))), (5, .int (nI (sp_cn (sp_sg T c Z g (gL Z g)).1))), (6, .int (ab_bz (!sp_la T (sp_lv T c (sp_sg T c Z g (gL Z g)).1 (sp_sg T c Z g (gL Z g)).2) (sp_sg T c Z g (gL Z g)).1 (sp_sg T c Z g (gL Z g)).2))), (7, .int (nI (sp_or (fun e => if sp_ec T c Z g e then 2 ^ e else 0) e))), (8, .int (nI e))]) de_G_endsFitting_188 (by decide) rfl ?_
              refine ab_iload de_G_endsFitting_190 10 rfl ?_
              refine ab_iconst (v := 1) de_G_endsFitting_192 rfl ?_
              refine ab_ishr de_G_endsFitting_193 ?_
              refine ab_top (v' := nI (e / 2)) (sp_half (by omega)) ?_
              refine ab_iload de_G_endsFitting_194 6 rfl ?_
              refine ab_icmp_gt (tgt := 219) de_G_endsFitting_196 rfl (fun c_196_15 => ?_) (fun c_196_15 => ?_)
              · refine ab_iinc (v := nI (e + 1)) (L' := [(8, .int (nI (e + 1))), (10, .int (nI (1 - gL Z g % 2))), (9, .int (1 : Int32)), (0, .ref 15), (1, .int (nI g)), (2, .int (nI c)), (3, .int (nI (sp_en (sp_sg T c Z g (gL Z g)).1 (sp_sg T c Z g (gL Z g)).2 (gL Z g % 2)))), (4, .int (nI (sp_fw T c Z g (gL Z g)))), (5, .int (nI (sp_cn (sp_sg T c Z g (gL Z g)).1))), (6, .int (ab_bz (!sp_la T (sp_lv T c (sp_sg T c Z g (gL Z g)).1 (sp_sg T c Z g (gL Z g)).2) (sp_sg T c Z g (gL Z g)).1 (sp_sg T c Z g (gL Z g)).2))), (7, .int (nI (sp_or (fun e => if sp_ec T c Z g e then 2 ^ e else 0) e)))]) de_G_endsFitting_219 10 rfl (by rw [show Int32.ofInt 1 = nI 1 from rfl, ab_add]) (by decide) rfl ?_
                refine ab_goto (tgt := 138) de_G_endsFitting_222 rfl ?_
                refine ab_sub (L' := [(0, .ref 15), (1, .int (nI g)), (2, .int (nI c)), (3, .int (nI (sp_en (sp_sg T c Z g (gL Z g)).1 (sp_sg T c Z g (gL Z g)).2 (gL Z g % 2)))), (4, .int (nI (sp_fw T c Z g (gL Z g)))), (5, .int (nI (sp_cn (sp_sg T c Z g (gL Z g)).1))), (6, .int (ab_bz (!sp_la T (sp_lv T c (sp_sg T c Z g (gL Z g)).1 (sp_sg T c Z g (gL Z g)).2) (sp_sg T c Z g (gL Z g)).1 (sp_sg T c Z g (gL Z g)).2))), (7, .int (nI (sp_or (fun e => if sp_ec T c Z g e then 2 ^ e else 0) e))), (8, .int (nI (e + 1)))]) [3, 4, 5, 6, 7, 8, 9, 10, 0] rfl ?_
                have ec_ : sp_ec T c Z g e = false := by
                  unfold sp_ec
                  rw [decide_eq_false (show ¬ e / 2 ≤ sp_fw T c Z g (gL Z g) from Nat.not_le.mpr ((ab_lt (by omega) (by omega)).mp c_196_15))]
                  rfl
                have e_ := sp_ec_no ec_
                have w_ := ih (e + 1) (by omega) (by omega)
                rw [e_] at w_
                exact w_
              · refine ab_iload de_G_endsFitting_199 0 rfl ?_
                refine ab_aload_n de_G_endsFitting_201 2 rfl ?_
                refine ab_get (v := .ref 20) fl_G_25 rfl rfl de_G_endsFitting_202 ?_
                refine ab_iload_n de_G_endsFitting_205 3 rfl ?_
                refine ab_iald (v := h 20 g) rfl (ab_in (by have := gm_6 hZ hg; omega) (by decide)) (ab_hv (ab_tn (by have := gm_6 hZ hg; omega))) de_G_endsFitting_206 ?_
                refine ab_top (v' := gO Z g) ((hG.2 g hg).2.2.1) ?_
                refine ab_icmp_ne (tgt := 219) de_G_endsFitting_207 rfl (fun c_207_16 => ?_) (fun c_207_16 => ?_)
                · refine ab_iinc (v := nI (e + 1)) (L' := [(8, .int (nI (e + 1))), (10, .int (nI (1 - gL Z g % 2))), (9, .int (1 : Int32)), (0, .ref 15), (1, .int (nI g)), (2, .int (nI c)), (3, .int (nI (sp_en (sp_sg T c Z g (gL Z g)).1 (sp_sg T c Z g (gL Z g)).2 (gL Z g % 2)))), (4, .int (nI (sp_fw T c Z g (gL Z g)))), (5, .int (nI (sp_cn (sp_sg T c Z g (gL Z g)).1))), (6, .int (ab_bz (!sp_la T (sp_lv T c (sp_sg T c Z g (gL Z g)).1 (sp_sg T c Z g (gL Z g)).2) (sp_sg T c Z g (gL Z g)).1 (sp_sg T c Z g (gL Z g)).2))), (7, .int (nI (sp_or (fun e => if sp_ec T c Z g e then 2 ^ e else 0) e)))]) de_G_endsFitting_219 10 rfl (by rw [show Int32.ofInt 1 = nI 1 from rfl, ab_add]) (by decide) rfl ?_
                  refine ab_goto (tgt := 138) de_G_endsFitting_222 rfl ?_
                  refine ab_sub (L' := [(0, .ref 15), (1, .int (nI g)), (2, .int (nI c)), (3, .int (nI (sp_en (sp_sg T c Z g (gL Z g)).1 (sp_sg T c Z g (gL Z g)).2 (gL Z g % 2)))), (4, .int (nI (sp_fw T c Z g (gL Z g)))), (5, .int (nI (sp_cn (sp_sg T c Z g (gL Z g)).1))), (6, .int (ab_bz (!sp_la T (sp_lv T c (sp_sg T c Z g (gL Z g)).1 (sp_sg T c Z g (gL Z g)).2) (sp_sg T c Z g (gL Z g)).1 (sp_sg T c Z g (gL Z g)).2))), (7, .int (nI (sp_or (fun e => if sp_ec T c Z g e then 2 ^ e else 0) e))), (8, .int (nI (e + 1)))]) [3, 4, 5, 6, 7, 8, 9, 10, 0] rfl ?_
                  have ec_ : sp_ec T c Z g e = false := by
                    unfold sp_ec
                    rw [if_pos eo_, decide_eq_false c_207_16, Bool.and_false]
                  have e_ := sp_ec_no ec_
                  have w_ := ih (e + 1) (by omega) (by omega)
                  rw [e_] at w_
                  exact w_
                · refine ab_iload de_G_endsFitting_210 9 rfl ?_
                  refine ab_iconst (v := 1) de_G_endsFitting_212 rfl ?_
                  refine ab_iload de_G_endsFitting_213 10 rfl ?_
                  refine ab_ishl de_G_endsFitting_215 ?_
                  refine ab_top (v' := nI (2 ^ e)) (sp_b7 he) ?_
                  refine ab_ior de_G_endsFitting_216 ?_
                  refine ab_top (v' := nI (sp_or (fun e => if sp_ec T c Z g e then 2 ^ e else 0) e ||| 2 ^ e)) (ab_or _ _) ?_
                  refine ab_istore (L' := [(7, .int (nI (sp_or (fun e => if sp_ec T c Z g e then 2 ^ e else 0) e ||| 2 ^ e))), (10, .int (nI (1 - gL Z g % 2))), (9, .int (1 : Int32)), (0, .ref 15), (1, .int (nI g)), (2, .int (nI c)), (3, .int (nI (sp_en (sp_sg T c Z g (gL Z g)).1 (sp_sg T c Z g (gL Z g)).2 (gL Z g % 2)))), (4, .int (nI (sp_fw T c Z g (gL Z g)))), (5, .int (nI (sp_cn (sp_sg T c Z g (gL Z g)).1))), (6, .int (ab_bz (!sp_la T (sp_lv T c (sp_sg T c Z g (gL Z g)).1 (sp_sg T c Z g (gL Z g)).2) (sp_sg T c Z g (gL Z g)).1 (sp_sg T c Z g (gL Z g)).2))), (8, .int (nI e))]) de_G_endsFitting_217 (by decide) rfl ?_
                  refine ab_iinc (v := nI (e + 1)) (L' := [(8, .int (nI (e + 1))), (7, .int (nI (sp_or (fun e => if sp_ec T c Z g e then 2 ^ e else 0) e ||| 2 ^ e))), (10, .int (nI (1 - gL Z g % 2))), (9, .int (1 : Int32)), (0, .ref 15), (1, .int (nI g)), (2, .int (nI c)), (3, .int (nI (sp_en (sp_sg T c Z g (gL Z g)).1 (sp_sg T c Z g (gL Z g)).2 (gL Z g % 2)))), (4, .int (nI (sp_fw T c Z g (gL Z g)))), (5, .int (nI (sp_cn (sp_sg T c Z g (gL Z g)).1))), (6, .int (ab_bz (!sp_la T (sp_lv T c (sp_sg T c Z g (gL Z g)).1 (sp_sg T c Z g (gL Z g)).2) (sp_sg T c Z g (gL Z g)).1 (sp_sg T c Z g (gL Z g)).2)))]) de_G_endsFitting_219 10 rfl (by rw [show Int32.ofInt 1 = nI 1 from rfl, ab_add]) (by decide) rfl ?_
                  refine ab_goto (tgt := 138) de_G_endsFitting_222 rfl ?_
                  refine ab_sub (L' := [(0, .ref 15), (1, .int (nI g)), (2, .int (nI c)), (3, .int (nI (sp_en (sp_sg T c Z g (gL Z g)).1 (sp_sg T c Z g (gL Z g)).2 (gL Z g % 2)))), (4, .int (nI (sp_fw T c Z g (gL Z g)))), (5, .int (nI (sp_cn (sp_sg T c Z g (gL Z g)).1))), (6, .int (ab_bz (!sp_la T (sp_lv T c (sp_sg T c Z g (gL Z g)).1 (sp_sg T c Z g (gL Z g)).2) (sp_sg T c Z g (gL Z g)).1 (sp_sg T c Z g (gL Z g)).2))), (7, .int (nI (sp_or (fun e => if sp_ec T c Z g e then 2 ^ e else 0) e ||| 2 ^ e))), (8, .int (nI (e + 1)))]) [4, 5, 6, 7, 8, 9, 10, 1, 0] rfl ?_
                  have ec_ : sp_ec T c Z g e = true := by
                    unfold sp_ec
                    rw [if_pos eo_, decide_eq_true (show e / 2 ≤ sp_fw T c Z g (gL Z g) from Nat.le_of_not_lt (fun z => c_196_15 ((ab_lt (by omega) (by omega)).mpr z))), decide_eq_true c_207_16]
                    rfl
                  have e_ := sp_ec_or ec_
                  have w_ := ih (e + 1) (by omega) (by omega)
                  rw [e_] at w_
                  exact w_
set_option maxHeartbeats 1000000 in
set_option maxRecDepth 10000 in
theorem lp_G_endsFitting_96 (l : Launch) (d : Nat) (nr : Nat) (h : Nat → Nat → Int32) (g_ : Nat → Nat → Int64) (rr : Nat → Option Nat) {T : Nat → Nat → Nat} (hT : bo_T T h 17) (hO : sp_ok T) {Z : sp_G} (hZ : gm_ok Z) (hG : gm_C Z h) {g : Nat} (hg : g < gN Z) {c : Nat} (hc : c < 4096) (h1_ : (sp_sg T c Z g (gL Z g)).1 < 4096) (h2_ : (sp_sg T c Z g (gL Z g)).2 < 4096) (hal : sp_any (fun k => !sp_alk T c Z g k) (gL Z g) = false) : ab_G l none am_G_endsFitting (d + 4) 0 0 96 [(0, .ref 15), (1, .int (nI g)), (2, .int (nI c)), (3, .int (nI (sp_en (sp_sg T c Z g (gL Z g)).1 (sp_sg T c Z g (gL Z g)).2 (gL Z g % 2)))), (4, .int (nI (sp_fw T c Z g (gL Z g))))] [] (ab_S nr h g_ rr) (fun (r_ : Option Value) (M' : ab_Me) => r_ = some (.int (nI (sp_ef T c Z g))) ∧ M' = (ab_S nr h g_ rr)) := by
  refine ab_iload_n de_G_endsFitting_96 3 rfl ?_
  refine ab_cS (as := [.int (nI (sp_en (sp_sg T c Z g (gL Z g)).1 (sp_sg T c Z g (gL Z g)).2 (gL Z g % 2)))]) (st := []) (ct_B_own l _ (ab_S nr h g_ rr) h1_ h2_ (show gL Z g % 2 < 2 by omega)) mo_B_own ms_B_own ml_G_59 rfl rfl (Nat.le_of_ble_eq_true rfl) de_G_endsFitting_97 (fun v_ M_ hK_ hl_ hv_ => ?_)
  obtain ⟨rfl, hm_⟩ := hK_
  have hm_ := hm_.symm
  subst hm_
  change ab_G _ _ _ _ _ _ _ [(0, .ref 15), (1, .int (nI g)), (2, .int (nI c)), (3, .int (nI (sp_en (sp_sg T c Z g (gL Z g)).1 (sp_sg T c Z g (gL Z g)).2 (gL Z g % 2)))), (4, .int (nI (sp_fw T c Z g (gL Z g))))] [.int (nI (sp_sg T c Z g (gL Z g)).1)] (ab_S nr h g_ rr) _
  refine ab_cS (as := [.int (nI (sp_sg T c Z g (gL Z g)).1)]) (st := []) (ct_I_bitCount l _ (ab_S nr h g_ rr) (m := (sp_sg T c Z g (gL Z g)).1) h1_) mo_I_bitCount ms_I_bitCount ml_G_63 rfl rfl (Nat.le_of_ble_eq_true rfl) de_G_endsFitting_100 (fun v_ M_ hK_ hl_ hv_ => ?_)
  obtain ⟨rfl, hm_⟩ := hK_
  have hm_ := hm_.symm
  subst hm_
  change ab_G _ _ _ _ _ _ _ [(0, .ref 15), (1, .int (nI g)), (2, .int (nI c)), (3, .int (nI (sp_en (sp_sg T c Z g (gL Z g)).1 (sp_sg T c Z g (gL Z g)).2 (gL Z g % 2)))), (4, .int (nI (sp_fw T c Z g (gL Z g))))] [.int (nI (sp_cn ((sp_sg T c Z g (gL Z g)).1)))] (ab_S nr h g_ rr) _
  refine ab_istore (L' := [(5, .int (nI (sp_cn ((sp_sg T c Z g (gL Z g)).1)))), (0, .ref 15), (1, .int (nI g)), (2, .int (nI c)), (3, .int (nI (sp_en (sp_sg T c Z g (gL Z g)).1 (sp_sg T c Z g (gL Z g)).2 (gL Z g % 2)))), (4, .int (nI (sp_fw T c Z g (gL Z g))))]) de_G_endsFitting_103 (by decide) rfl ?_
  refine ab_aload_n de_G_endsFitting_105 1 rfl ?_
  refine ab_get (v := .ref 16) fl_G_12 rfl rfl de_G_endsFitting_106 ?_
  refine ab_iload_n de_G_endsFitting_109 4 rfl ?_
  refine ab_aload_n de_G_endsFitting_110 1 rfl ?_
  refine ab_get (v := .ref 16) fl_G_12 rfl rfl de_G_endsFitting_111 ?_
  refine ab_iload_n de_G_endsFitting_114 4 rfl ?_
  refine ab_iload_n de_G_endsFitting_115 3 rfl ?_
  refine ab_cV (as := [.int (nI (sp_en (sp_sg T c Z g (gL Z g)).1 (sp_sg T c Z g (gL Z g)).2 (gL Z g % 2))), .int (nI c)]) (st := [.int (nI (sp_en (sp_sg T c Z g (gL Z g)).1 (sp_sg T c Z g (gL Z g)).2 (gL Z g % 2))), .ref 16]) (ct_B_live l _ nr h g_ rr hT hO h1_ h2_ (show gL Z g % 2 < 2 by omega) hc) mo_B_live mi_B_live ml_G_35 rfl (by decide) rfl rfl rfl (Nat.le_of_ble_eq_true rfl) de_G_endsFitting_116 (fun v_ M_ hK_ hl_ hv_ => ?_)
  obtain ⟨rfl, hm_⟩ := hK_
  have hm_ := hm_.symm
  subst hm_
  change ab_G _ _ _ _ _ _ _ [(5, .int (nI (sp_cn ((sp_sg T c Z g (gL Z g)).1)))), (0, .ref 15), (1, .int (nI g)), (2, .int (nI c)), (3, .int (nI (sp_en (sp_sg T c Z g (gL Z g)).1 (sp_sg T c Z g (gL Z g)).2 (gL Z g % 2)))), (4, .int (nI (sp_fw T c Z g (gL Z g))))] [.int (nI (sp_lv T c (sp_sg T c Z g (gL Z g)).1 (sp_sg T c Z g (gL Z g)).2)), .int (nI (sp_en (sp_sg T c Z g (gL Z g)).1 (sp_sg T c Z g (gL Z g)).2 (gL Z g % 2))), .ref 16] (ab_S nr h g_ rr) _
  refine ab_cV (as := [.int (nI (sp_en (sp_sg T c Z g (gL Z g)).1 (sp_sg T c Z g (gL Z g)).2 (gL Z g % 2))), .int (nI (sp_lv T c (sp_sg T c Z g (gL Z g)).1 (sp_sg T c Z g (gL Z g)).2))]) (st := []) (ct_B_letsAny l _ nr h g_ rr hT hO h1_ h2_ (show gL Z g % 2 < 2 by omega) (c := sp_lv T c (sp_sg T c Z g (gL Z g)).1 (sp_sg T c Z g (gL Z g)).2) (sp_lv4 T c _ _)) mo_B_letsAny mi_B_letsAny ml_G_73 rfl (by decide) rfl rfl rfl (Nat.le_of_ble_eq_true rfl) de_G_endsFitting_119 (fun v_ M_ hK_ hl_ hv_ => ?_)
  obtain ⟨rfl, hm_⟩ := hK_
  have hm_ := hm_.symm
  subst hm_
  change ab_G _ _ _ _ _ _ _ [(5, .int (nI (sp_cn ((sp_sg T c Z g (gL Z g)).1)))), (0, .ref 15), (1, .int (nI g)), (2, .int (nI c)), (3, .int (nI (sp_en (sp_sg T c Z g (gL Z g)).1 (sp_sg T c Z g (gL Z g)).2 (gL Z g % 2)))), (4, .int (nI (sp_fw T c Z g (gL Z g))))] [.int (ab_bz (sp_la T (sp_lv T c (sp_sg T c Z g (gL Z g)).1 (sp_sg T c Z g (gL Z g)).2) (sp_sg T c Z g (gL Z g)).1 (sp_sg T c Z g (gL Z g)).2))] (ab_S nr h g_ rr) _
  refine ab_if_ne (tgt := 129) de_G_endsFitting_122 rfl (fun c_122_1 => ?_) (fun c_122_1 => ?_)
  · refine ab_iconst (v := 0) de_G_endsFitting_129 rfl ?_
    refine ab_istore (L' := [(6, .int (0 : Int32)), (5, .int (nI (sp_cn ((sp_sg T c Z g (gL Z g)).1)))), (0, .ref 15), (1, .int (nI g)), (2, .int (nI c)), (3, .int (nI (sp_en (sp_sg T c Z g (gL Z g)).1 (sp_sg T c Z g (gL Z g)).2 (gL Z g % 2)))), (4, .int (nI (sp_fw T c Z g (gL Z g))))]) de_G_endsFitting_130 (by decide) rfl ?_
    refine ab_iconst (v := 0) de_G_endsFitting_132 rfl ?_
    refine ab_istore (L' := [(7, .int (0 : Int32)), (6, .int (0 : Int32)), (5, .int (nI (sp_cn ((sp_sg T c Z g (gL Z g)).1)))), (0, .ref 15), (1, .int (nI g)), (2, .int (nI c)), (3, .int (nI (sp_en (sp_sg T c Z g (gL Z g)).1 (sp_sg T c Z g (gL Z g)).2 (gL Z g % 2)))), (4, .int (nI (sp_fw T c Z g (gL Z g))))]) de_G_endsFitting_133 (by decide) rfl ?_
    refine ab_iconst (v := 0) de_G_endsFitting_135 rfl ?_
    refine ab_istore (L' := [(8, .int (0 : Int32)), (7, .int (0 : Int32)), (6, .int (0 : Int32)), (5, .int (nI (sp_cn ((sp_sg T c Z g (gL Z g)).1)))), (0, .ref 15), (1, .int (nI g)), (2, .int (nI c)), (3, .int (nI (sp_en (sp_sg T c Z g (gL Z g)).1 (sp_sg T c Z g (gL Z g)).2 (gL Z g % 2)))), (4, .int (nI (sp_fw T c Z g (gL Z g))))]) de_G_endsFitting_136 (by decide) rfl ?_
    have s_ : (0 : Int32) = ab_bz (!sp_la T (sp_lv T c (sp_sg T c Z g (gL Z g)).1 (sp_sg T c Z g (gL Z g)).2) (sp_sg T c Z g (gL Z g)).1 (sp_sg T c Z g (gL Z g)).2) := ab_bz_f (by rw [(ab_bz1 _).mp c_122_1]; rfl)
    refine ab_sub (L' := [(0, .ref 15), (1, .int (nI g)), (2, .int (nI c)), (3, .int (nI (sp_en (sp_sg T c Z g (gL Z g)).1 (sp_sg T c Z g (gL Z g)).2 (gL Z g % 2)))), (4, .int (nI (sp_fw T c Z g (gL Z g)))), (5, .int (nI (sp_cn ((sp_sg T c Z g (gL Z g)).1)))), (6, .int (0 : Int32)), (7, .int (nI (sp_or (fun e => if sp_ec T c Z g e then 2 ^ e else 0) 0))), (8, .int (nI 0))]) [4, 5, 6, 7, 8, 3, 2, 1, 0] rfl ?_
    rw [s_]
    exact lp_G_endsFitting_e l d nr h g_ rr hT hO hZ hG hg hc h1_ h2_ hal 9 0 (by omega) (by omega)
  · refine ab_iconst (v := 1) de_G_endsFitting_125 rfl ?_
    refine ab_goto (tgt := 130) de_G_endsFitting_126 rfl ?_
    refine ab_istore (L' := [(6, .int (1 : Int32)), (5, .int (nI (sp_cn ((sp_sg T c Z g (gL Z g)).1)))), (0, .ref 15), (1, .int (nI g)), (2, .int (nI c)), (3, .int (nI (sp_en (sp_sg T c Z g (gL Z g)).1 (sp_sg T c Z g (gL Z g)).2 (gL Z g % 2)))), (4, .int (nI (sp_fw T c Z g (gL Z g))))]) de_G_endsFitting_130 (by decide) rfl ?_
    refine ab_iconst (v := 0) de_G_endsFitting_132 rfl ?_
    refine ab_istore (L' := [(7, .int (0 : Int32)), (6, .int (1 : Int32)), (5, .int (nI (sp_cn ((sp_sg T c Z g (gL Z g)).1)))), (0, .ref 15), (1, .int (nI g)), (2, .int (nI c)), (3, .int (nI (sp_en (sp_sg T c Z g (gL Z g)).1 (sp_sg T c Z g (gL Z g)).2 (gL Z g % 2)))), (4, .int (nI (sp_fw T c Z g (gL Z g))))]) de_G_endsFitting_133 (by decide) rfl ?_
    refine ab_iconst (v := 0) de_G_endsFitting_135 rfl ?_
    refine ab_istore (L' := [(8, .int (0 : Int32)), (7, .int (0 : Int32)), (6, .int (1 : Int32)), (5, .int (nI (sp_cn ((sp_sg T c Z g (gL Z g)).1)))), (0, .ref 15), (1, .int (nI g)), (2, .int (nI c)), (3, .int (nI (sp_en (sp_sg T c Z g (gL Z g)).1 (sp_sg T c Z g (gL Z g)).2 (gL Z g % 2)))), (4, .int (nI (sp_fw T c Z g (gL Z g))))]) de_G_endsFitting_136 (by decide) rfl ?_
    have s_ : (1 : Int32) = ab_bz (!sp_la T (sp_lv T c (sp_sg T c Z g (gL Z g)).1 (sp_sg T c Z g (gL Z g)).2) (sp_sg T c Z g (gL Z g)).1 (sp_sg T c Z g (gL Z g)).2) := ab_bz_t (by rw [(ab_bz0 _).mp c_122_1]; rfl)
    refine ab_sub (L' := [(0, .ref 15), (1, .int (nI g)), (2, .int (nI c)), (3, .int (nI (sp_en (sp_sg T c Z g (gL Z g)).1 (sp_sg T c Z g (gL Z g)).2 (gL Z g % 2)))), (4, .int (nI (sp_fw T c Z g (gL Z g)))), (5, .int (nI (sp_cn ((sp_sg T c Z g (gL Z g)).1)))), (6, .int (1 : Int32)), (7, .int (nI (sp_or (fun e => if sp_ec T c Z g e then 2 ^ e else 0) 0))), (8, .int (nI 0))]) [4, 5, 6, 7, 8, 3, 2, 1, 0] rfl ?_
    rw [s_]
    exact lp_G_endsFitting_e l d nr h g_ rr hT hO hZ hG hg hc h1_ h2_ hal 9 0 (by omega) (by omega)
set_option maxHeartbeats 1000000 in
set_option maxRecDepth 10000 in
theorem lp_G_endsFitting_k (l : Launch) (d : Nat) (nr : Nat) (h : Nat → Nat → Int32) (g_ : Nat → Nat → Int64) (rr : Nat → Option Nat) {T : Nat → Nat → Nat} (hT : bo_T T h 17) (hO : sp_ok T) {Z : sp_G} (hZ : gm_ok Z) (hG : gm_C Z h) {g : Nat} (hg : g < gN Z) {c : Nat} (hc : c < 4096) (h20_ : gL Z g ≤ 20) : ∀ (fu_ k : Nat), k ≤ gL Z g → gL Z g < k + fu_ → (∀ j, j < k → (!sp_alk T c Z g j) = false) → ab_G l none am_G_endsFitting (d + 4) 0 0 14 [(0, .ref 15), (1, .int (nI g)), (2, .int (nI c)), (3, .int (nI (sp_en (sp_sg T c Z g k).1 (sp_sg T c Z g k).2 (k % 2)))), (4, .int (nI (sp_fw T c Z g k))), (5, .int (nI k))] [] (ab_S nr h g_ rr) (fun (r_ : Option Value) (M' : ab_Me) => r_ = some (.int (nI (sp_ef T c Z g))) ∧ M' = (ab_S nr h g_ rr)) := by
  intro fu_
  induction fu_ with
  | zero => intro k  h1 h2; omega
  | succ fu_ ih =>
    intro k  hN_ hn_ hf0
    refine ab_iload de_G_endsFitting_14 5 rfl ?_
    refine ab_aload_n de_G_endsFitting_16 0 rfl ?_
    refine ab_get (v := .ref 19) fl_G_22 rfl rfl de_G_endsFitting_17 ?_
    refine ab_iload_n de_G_endsFitting_20 1 rfl ?_
    refine ab_iald (v := h 19 g) rfl (ab_in (by have := gm_6 hZ hg; omega) (by decide)) (ab_hv (ab_tn (by have := gm_6 hZ hg; omega))) de_G_endsFitting_21 ?_
    refine ab_top (v' := nI (gL Z g)) ((hG.2 g hg).2.1) ?_
    refine ab_icmp_ge (tgt := 96) de_G_endsFitting_22 rfl (fun c_22_1 => ?_) (fun c_22_1 => ?_)
    · have hk := ab_leN (by omega) (by omega) c_22_1
      have hkk_ : k = gL Z g := by omega
      rw [hkk_]
      obtain ⟨h1_, h2_, h3_⟩ := sp_sg_ok (T := T) (c := c) hZ hg (gL Z g) (Nat.le_refl _)
      refine ab_sub (L' := [(0, .ref 15), (1, .int (nI g)), (2, .int (nI c)), (3, .int (nI (sp_en (sp_sg T c Z g (gL Z g)).1 (sp_sg T c Z g (gL Z g)).2 (gL Z g % 2)))), (4, .int (nI (sp_fw T c Z g (gL Z g))))]) [0, 1, 2, 3, 4] rfl ?_
      exact lp_G_endsFitting_96 l d nr h g_ rr hT hO hZ hG hg hc h1_ h2_ ((sp_any_no _ _).mpr (fun j hj => hf0 j (by omega)))
    · have hk := ab_nleN (by omega) (by omega) c_22_1
      obtain ⟨h1_, h2_, h3_⟩ := sp_sg_ok (T := T) (c := c) hZ hg k (by omega)
      have hx_ := (hZ.2 g hg).2.2.2.2.1 k hk
      have bf_ := sp_fw_le T c Z g k
      have bc_ := sp_cn_le (sp_sg T c Z g k).1
      refine ab_aload_n de_G_endsFitting_25 0 rfl ?_
      refine ab_get (v := .ref 16) fl_G_12 rfl rfl de_G_endsFitting_26 ?_
      refine ab_iload_n de_G_endsFitting_29 3 rfl ?_
      refine ab_iload_n de_G_endsFitting_30 2 rfl ?_
      refine ab_cV (as := [.int (nI (sp_en (sp_sg T c Z g k).1 (sp_sg T c Z g k).2 (k % 2))), .int (nI c)]) (st := []) (ct_B_live l _ nr h g_ rr hT hO h1_ h2_ (show k % 2 < 2 by omega) hc) mo_B_live mi_B_live ml_G_35 rfl (by decide) rfl rfl rfl (Nat.le_of_ble_eq_true rfl) de_G_endsFitting_31 (fun v_ M_ hK_ hl_ hv_ => ?_)
      obtain ⟨rfl, hm_⟩ := hK_
      have hm_ := hm_.symm
      subst hm_
      change ab_G _ _ _ _ _ _ _ [(0, .ref 15), (1, .int (nI g)), (2, .int (nI c)), (3, .int (nI (sp_en (sp_sg T c Z g k).1 (sp_sg T c Z g k).2 (k % 2)))), (4, .int (nI (sp_fw T c Z g k))), (5, .int (nI k))] [.int (nI (sp_lv T c (sp_sg T c Z g k).1 (sp_sg T c Z g k).2))] (ab_S nr h g_ rr) _
      refine ab_istore (L' := [(6, .int (nI (sp_lv T c (sp_sg T c Z g k).1 (sp_sg T c Z g k).2))), (0, .ref 15), (1, .int (nI g)), (2, .int (nI c)), (3, .int (nI (sp_en (sp_sg T c Z g k).1 (sp_sg T c Z g k).2 (k % 2)))), (4, .int (nI (sp_fw T c Z g k))), (5, .int (nI k))]) de_G_endsFitting_34 (by decide) rfl ?_
      refine ab_aload_n de_G_endsFitting_36 1 rfl ?_
      refine ab_get (v := .ref 16) fl_G_12 rfl rfl de_G_endsFitting_37 ?_
      refine ab_iload_n de_G_endsFitting_40 4 rfl ?_
      refine ab_iload de_G_endsFitting_41 0 rfl ?_
      refine ab_aload_n de_G_endsFitting_43 1 rfl ?_
      refine ab_iload_n de_G_endsFitting_44 2 rfl ?_
      refine ab_iload de_G_endsFitting_45 6 rfl ?_
      refine ab_cV (as := [.int (nI g), .int (nI k)]) (st := [.int (nI (sp_lv T c (sp_sg T c Z g k).1 (sp_sg T c Z g k).2)), .int (nI (sp_en (sp_sg T c Z g k).1 (sp_sg T c Z g k).2 (k % 2))), .ref 16]) (ct_G_moveAt l _ nr h g_ rr hZ hG hg hk) mo_G_moveAt mi_G_moveAt ml_G_39 rfl (by decide) rfl rfl rfl (Nat.le_of_ble_eq_true rfl) de_G_endsFitting_47 (fun v_ M_ hK_ hl_ hv_ => ?_)
      obtain ⟨rfl, hm_⟩ := hK_
      have hm_ := hm_.symm
      subst hm_
      change ab_G _ _ _ _ _ _ _ [(6, .int (nI (sp_lv T c (sp_sg T c Z g k).1 (sp_sg T c Z g k).2))), (0, .ref 15), (1, .int (nI g)), (2, .int (nI c)), (3, .int (nI (sp_en (sp_sg T c Z g k).1 (sp_sg T c Z g k).2 (k % 2)))), (4, .int (nI (sp_fw T c Z g k))), (5, .int (nI k))] [.int (nI (gV Z g k)), .int (nI (sp_lv T c (sp_sg T c Z g k).1 (sp_sg T c Z g k).2)), .int (nI (sp_en (sp_sg T c Z g k).1 (sp_sg T c Z g k).2 (k % 2))), .ref 16] (ab_S nr h g_ rr) _
      refine ab_cV (as := [.int (nI (sp_en (sp_sg T c Z g k).1 (sp_sg T c Z g k).2 (k % 2))), .int (nI (sp_lv T c (sp_sg T c Z g k).1 (sp_sg T c Z g k).2)), .int (nI (gV Z g k))]) (st := []) (ct_B_allows l _ nr h g_ rr hT hO h1_ h2_ (show k % 2 < 2 by omega) (sp_lv4 T c _ _) (x := gV Z g k) hx_) mo_B_allows mi_B_allows ml_G_46 rfl (by decide) rfl rfl rfl (Nat.le_of_ble_eq_true rfl) de_G_endsFitting_50 (fun v_ M_ hK_ hl_ hv_ => ?_)
      obtain ⟨rfl, hm_⟩ := hK_
      have hm_ := hm_.symm
      subst hm_
      change ab_G _ _ _ _ _ _ _ [(6, .int (nI (sp_lv T c (sp_sg T c Z g k).1 (sp_sg T c Z g k).2))), (0, .ref 15), (1, .int (nI g)), (2, .int (nI c)), (3, .int (nI (sp_en (sp_sg T c Z g k).1 (sp_sg T c Z g k).2 (k % 2)))), (4, .int (nI (sp_fw T c Z g k))), (5, .int (nI k))] [.int (ab_bz (sp_alk T c Z g k))] (ab_S nr h g_ rr) _
      refine ab_if_ne (tgt := 58) de_G_endsFitting_53 rfl (fun c_53_2 => ?_) (fun c_53_2 => ?_)
      · refine ab_iload de_G_endsFitting_58 5 rfl ?_
        refine ab_iload_n de_G_endsFitting_60 4 rfl ?_
        refine ab_cS (as := [.int (nI (sp_en (sp_sg T c Z g k).1 (sp_sg T c Z g k).2 (k % 2)))]) (st := [.int (nI (sp_fw T c Z g k))]) (ct_B_own l _ (ab_S nr h g_ rr) h1_ h2_ (show k % 2 < 2 by omega)) mo_B_own ms_B_own ml_G_59 rfl rfl (Nat.le_of_ble_eq_true rfl) de_G_endsFitting_61 (fun v_ M_ hK_ hl_ hv_ => ?_)
        obtain ⟨rfl, hm_⟩ := hK_
        have hm_ := hm_.symm
        subst hm_
        change ab_G _ _ _ _ _ _ _ [(6, .int (nI (sp_lv T c (sp_sg T c Z g k).1 (sp_sg T c Z g k).2))), (0, .ref 15), (1, .int (nI g)), (2, .int (nI c)), (3, .int (nI (sp_en (sp_sg T c Z g k).1 (sp_sg T c Z g k).2 (k % 2)))), (4, .int (nI (sp_fw T c Z g k))), (5, .int (nI k))] [.int (nI (sp_sg T c Z g k).1), .int (nI (sp_fw T c Z g k))] (ab_S nr h g_ rr) _
        refine ab_cS (as := [.int (nI (sp_sg T c Z g k).1)]) (st := [.int (nI (sp_fw T c Z g k))]) (ct_I_bitCount l _ (ab_S nr h g_ rr) (m := (sp_sg T c Z g k).1) h1_) mo_I_bitCount ms_I_bitCount ml_G_63 rfl rfl (Nat.le_of_ble_eq_true rfl) de_G_endsFitting_64 (fun v_ M_ hK_ hl_ hv_ => ?_)
        obtain ⟨rfl, hm_⟩ := hK_
        have hm_ := hm_.symm
        subst hm_
        change ab_G _ _ _ _ _ _ _ [(6, .int (nI (sp_lv T c (sp_sg T c Z g k).1 (sp_sg T c Z g k).2))), (0, .ref 15), (1, .int (nI g)), (2, .int (nI c)), (3, .int (nI (sp_en (sp_sg T c Z g k).1 (sp_sg T c Z g k).2 (k % 2)))), (4, .int (nI (sp_fw T c Z g k))), (5, .int (nI k))] [.int (nI (sp_cn ((sp_sg T c Z g k).1))), .int (nI (sp_fw T c Z g k))] (ab_S nr h g_ rr) _
        refine ab_min (ab_w3 147 rfl rfl) (Nat.le_of_ble_eq_true rfl) de_G_endsFitting_67 ?_
        refine ab_top (v' := nI (sp_fw T c Z g (k + 1))) (sp_mnI (by omega) (by omega)) ?_
        refine ab_istore (L' := [(4, .int (nI (sp_fw T c Z g (k + 1)))), (6, .int (nI (sp_lv T c (sp_sg T c Z g k).1 (sp_sg T c Z g k).2))), (0, .ref 15), (1, .int (nI g)), (2, .int (nI c)), (3, .int (nI (sp_en (sp_sg T c Z g k).1 (sp_sg T c Z g k).2 (k % 2)))), (5, .int (nI k))]) de_G_endsFitting_70 (by decide) rfl ?_
        refine ab_aload_n de_G_endsFitting_72 2 rfl ?_
        refine ab_get (v := .ref 16) fl_G_12 rfl rfl de_G_endsFitting_73 ?_
        refine ab_iload_n de_G_endsFitting_76 5 rfl ?_
        refine ab_iload de_G_endsFitting_77 1 rfl ?_
        refine ab_aload_n de_G_endsFitting_79 2 rfl ?_
        refine ab_iload_n de_G_endsFitting_80 3 rfl ?_
        refine ab_iload de_G_endsFitting_81 6 rfl ?_
        refine ab_cV (as := [.int (nI g), .int (nI k)]) (st := [.int (nI (sp_lv T c (sp_sg T c Z g k).1 (sp_sg T c Z g k).2)), .int (nI (sp_en (sp_sg T c Z g k).1 (sp_sg T c Z g k).2 (k % 2))), .ref 16]) (ct_G_moveAt l _ nr h g_ rr hZ hG hg hk) mo_G_moveAt mi_G_moveAt ml_G_39 rfl (by decide) rfl rfl rfl (Nat.le_of_ble_eq_true rfl) de_G_endsFitting_83 (fun v_ M_ hK_ hl_ hv_ => ?_)
        obtain ⟨rfl, hm_⟩ := hK_
        have hm_ := hm_.symm
        subst hm_
        change ab_G _ _ _ _ _ _ _ [(4, .int (nI (sp_fw T c Z g (k + 1)))), (6, .int (nI (sp_lv T c (sp_sg T c Z g k).1 (sp_sg T c Z g k).2))), (0, .ref 15), (1, .int (nI g)), (2, .int (nI c)), (3, .int (nI (sp_en (sp_sg T c Z g k).1 (sp_sg T c Z g k).2 (k % 2)))), (5, .int (nI k))] [.int (nI (gV Z g k)), .int (nI (sp_lv T c (sp_sg T c Z g k).1 (sp_sg T c Z g k).2)), .int (nI (sp_en (sp_sg T c Z g k).1 (sp_sg T c Z g k).2 (k % 2))), .ref 16] (ab_S nr h g_ rr) _
        refine ab_cV (as := [.int (nI (sp_en (sp_sg T c Z g k).1 (sp_sg T c Z g k).2 (k % 2))), .int (nI (sp_lv T c (sp_sg T c Z g k).1 (sp_sg T c Z g k).2)), .int (nI (gV Z g k))]) (st := []) (ct_B_done l _ nr h g_ rr hT hO h1_ h2_ (show k % 2 < 2 by omega) (sp_lv4 T c _ _) (x := gV Z g k) hx_ h3_) mo_B_done mi_B_done ml_G_42 rfl (by decide) rfl rfl rfl (Nat.le_of_ble_eq_true rfl) de_G_endsFitting_86 (fun v_ M_ hK_ hl_ hv_ => ?_)
        obtain ⟨rfl, hm_⟩ := hK_
        have hm_ := hm_.symm
        subst hm_
        change ab_G _ _ _ _ _ _ _ [(4, .int (nI (sp_fw T c Z g (k + 1)))), (6, .int (nI (sp_lv T c (sp_sg T c Z g k).1 (sp_sg T c Z g k).2))), (0, .ref 15), (1, .int (nI g)), (2, .int (nI c)), (3, .int (nI (sp_en (sp_sg T c Z g k).1 (sp_sg T c Z g k).2 (k % 2)))), (5, .int (nI k))] [.int (nI (sp_en (sp_d2 T (sp_lv T c (sp_sg T c Z g k).1 (sp_sg T c Z g k).2) (sp_sg T c Z g k).1 (sp_sg T c Z g k).2 (gV Z g k)) (sp_d1 T (sp_lv T c (sp_sg T c Z g k).1 (sp_sg T c Z g k).2) (sp_sg T c Z g k).1 (sp_sg T c Z g k).2 (gV Z g k)) (1 - k % 2)))] (ab_S nr h g_ rr) _
        refine ab_top (v' := nI (sp_en (sp_sg T c Z g (k + 1)).1 (sp_sg T c Z g (k + 1)).2 ((k + 1) % 2))) (sp_sg_s) ?_
        refine ab_istore_n (L' := [(3, .int (nI (sp_en (sp_sg T c Z g (k + 1)).1 (sp_sg T c Z g (k + 1)).2 ((k + 1) % 2)))), (4, .int (nI (sp_fw T c Z g (k + 1)))), (6, .int (nI (sp_lv T c (sp_sg T c Z g k).1 (sp_sg T c Z g k).2))), (0, .ref 15), (1, .int (nI g)), (2, .int (nI c)), (5, .int (nI k))]) de_G_endsFitting_89 (by decide) rfl ?_
        refine ab_iinc (v := nI (k + 1)) (L' := [(5, .int (nI (k + 1))), (3, .int (nI (sp_en (sp_sg T c Z g (k + 1)).1 (sp_sg T c Z g (k + 1)).2 ((k + 1) % 2)))), (4, .int (nI (sp_fw T c Z g (k + 1)))), (6, .int (nI (sp_lv T c (sp_sg T c Z g k).1 (sp_sg T c Z g k).2))), (0, .ref 15), (1, .int (nI g)), (2, .int (nI c))]) de_G_endsFitting_90 6 rfl (by rw [show Int32.ofInt 1 = nI 1 from rfl, ab_add]) (by decide) rfl ?_
        refine ab_goto (tgt := 14) de_G_endsFitting_93 rfl ?_
        refine ab_sub (L' := [(0, .ref 15), (1, .int (nI g)), (2, .int (nI c)), (3, .int (nI (sp_en (sp_sg T c Z g (k + 1)).1 (sp_sg T c Z g (k + 1)).2 ((k + 1) % 2)))), (4, .int (nI (sp_fw T c Z g (k + 1)))), (5, .int (nI (k + 1)))]) [4, 5, 6, 1, 2, 0] rfl ?_
        exact ih (k + 1)  (by omega) (by omega) (fun j hj => by
          by_cases e : j = k
          · subst e; rw [(ab_bz1 _).mp c_53_2]; rfl
          · exact hf0 j (by omega))
      · refine ab_iconst (v := 0) de_G_endsFitting_56 rfl ?_
        exact ab_ret (v := some (.int (0 : Int32))) de_G_endsFitting_57 ⟨_, rfl⟩ ⟨congrArg (fun z => some (Value.int z)) (by unfold sp_ef; rw [if_pos ((sp_any_iff _ _).mpr ⟨k, hk, by rw [(ab_bz0 _).mp c_53_2]; rfl⟩)]; rfl), rfl⟩
set_option maxHeartbeats 1000000 in
set_option maxRecDepth 10000 in
theorem ct_G_endsFitting (l : Launch) (d : Nat) (nr : Nat) (h : Nat → Nat → Int32) (g_ : Nat → Nat → Int64) (rr : Nat → Option Nat) {T : Nat → Nat → Nat} (hT : bo_T T h 17) (hO : sp_ok T) {Z : sp_G} (hZ : gm_ok Z) (hG : gm_C Z h) {g : Nat} (hg : g < gN Z) {c : Nat} (hc : c < 4096) : ab_C l am_G_endsFitting (d + 4) 0 0 [.ref 15, .int (nI g), .int (nI c)] (ab_S nr h g_ rr) (fun (r_ : Option Value) (M' : ab_Me) => r_ = some (.int (nI (sp_ef T c Z g))) ∧ M' = (ab_S nr h g_ rr)) := by
  refine ab_C_of (by decide +kernel) rfl (Nat.le_of_ble_eq_true rfl) ?_
  refine ab_aload_n de_G_endsFitting_0 0 rfl ?_
  refine ab_get (v := .ref 18) fl_G_18 rfl rfl de_G_endsFitting_1 ?_
  refine ab_iload_n de_G_endsFitting_4 1 rfl ?_
  refine ab_iald (v := h 18 g) rfl (ab_in (by have := gm_6 hZ hg; omega) (by decide)) (ab_hv (ab_tn (by have := gm_6 hZ hg; omega))) de_G_endsFitting_5 ?_
  refine ab_top (v' := nI (sp_en (sp_sg T c Z g 0).1 (sp_sg T c Z g 0).2 (0 % 2))) ((hG.2 g hg).1.trans gm_st) ?_
  refine ab_istore_n (L' := [(3, .int (nI (sp_en (sp_sg T c Z g 0).1 (sp_sg T c Z g 0).2 (0 % 2)))), (0, .ref 15), (1, .int (nI g)), (2, .int (nI c))]) de_G_endsFitting_6 (by decide) rfl ?_
  refine ab_bipush (v := 12) de_G_endsFitting_7 rfl ?_
  refine ab_istore (L' := [(4, .int (12 : Int32)), (3, .int (nI (sp_en (sp_sg T c Z g 0).1 (sp_sg T c Z g 0).2 (0 % 2)))), (0, .ref 15), (1, .int (nI g)), (2, .int (nI c))]) de_G_endsFitting_9 (by decide) rfl ?_
  refine ab_iconst (v := 0) de_G_endsFitting_11 rfl ?_
  refine ab_istore (L' := [(5, .int (0 : Int32)), (4, .int (12 : Int32)), (3, .int (nI (sp_en (sp_sg T c Z g 0).1 (sp_sg T c Z g 0).2 (0 % 2)))), (0, .ref 15), (1, .int (nI g)), (2, .int (nI c))]) de_G_endsFitting_12 (by decide) rfl ?_
  refine ab_sub (L' := [(0, .ref 15), (1, .int (nI g)), (2, .int (nI c)), (3, .int (nI (sp_en (sp_sg T c Z g 0).1 (sp_sg T c Z g 0).2 (0 % 2)))), (4, .int (12 : Int32)), (5, .int (0 : Int32))]) [3, 4, 5, 2, 1, 0] rfl ?_
  exact lp_G_endsFitting_k l d nr h g_ rr hT hO hZ hG hg hc (gm_20 hZ hg) (gL Z g + 1) 0 (by omega) (by omega) (fun j hj => absurd hj (Nat.not_lt_zero j))
