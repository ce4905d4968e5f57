/-! the reference: whose TURN; a GAME from its START; where it FAILS -/
def md_scr (a b : Nat) : Prop := a = 44 ∨ (a = 30 ∧ (b = 24 ∨ b = 25 ∨ b = 27 ∨ b = 28))
/-- nothing but what is no one's has changed -/
def md_sc (h h' : Nat → Nat → Int32) : Prop := ∀ a b, ¬ md_scr a b → h' a b = h a b
theorem md_sc_rf (h : Nat → Nat → Int32) : md_sc h h := fun _ _ _ => rfl
theorem md_sc_tr {h h1 h2 : Nat → Nat → Int32} (a : md_sc h h1) (b : md_sc h1 h2) : md_sc h h2 := fun x y z => (b x y z).trans (a x y z)
theorem md_sc_put {h hh : Nat → Nat → Int32} (H : md_sc h hh) {a b : Nat} (z : md_scr a b) (v : Int32) : md_sc h (ab_u2 hh a b v) := fun x y n => by
  rw [← H x y n]
  exact if_neg (fun e => n (by rw [e.1, e.2]; exact z))
theorem md_sc_row {h h' : Nat → Nat → Int32} (H : md_sc h h') {a : Nat} (h1 : a ≠ 44) (h2 : a ≠ 30) : h' a = h a := funext fun b => H a b (fun z => by
  rcases z with z | z
  · exact h1 z
  · exact h2 z.1)
theorem md_sc_30 {h h' : Nat → Nat → Int32} (H : md_sc h h') {b : Nat} (h1 : b ≠ 24) (h2 : b ≠ 25) (h3 : b ≠ 27) (h4 : b ≠ 28) : h' 30 b = h 30 b := H 30 b (fun z => by
  rcases z with z | z
  · cases z
  · rcases z.2 with z | z | z | z
    · exact h1 z
    · exact h2 z
    · exact h3 z
    · exact h4 z)
theorem md_sc_44 {p : Nat} {h h' : Nat → Nat → Int32} (H : md_f44 p h h') : md_sc h h' := fun a b n => by
  rw [H.1 a (fun z => n (Or.inl z))]
def md_bd (m i t : Nat) (h : Nat → Nat → Int32) : Prop := h 30 5 = nI t ∧ h 30 3 = nI (if t = 0 then m else i) ∧ h 30 4 = nI (if t = 0 then i else m)
theorem md_bd_sc {m i t : Nat} {h h' : Nat → Nat → Int32} (H : md_sc h h') (hB : md_bd m i t h) : md_bd m i t h' := by
  unfold md_bd at *
  rw [md_sc_30 H (by decide) (by decide) (by decide) (by decide), md_sc_30 H (by decide) (by decide) (by decide) (by decide), md_sc_30 H (by decide) (by decide) (by decide) (by decide)]
  exact hB
def md_sw (a b p : Nat) : Nat := if a.testBit p = true then 1 else if b.testBit p = true then 2 else 0
theorem md_sw_lt (a b p : Nat) : md_sw a b p < 3 := by
  unfold md_sw
  repeat' split
  all_goals decide
theorem md_mk1 {a b : Nat} (ha : a < 4096) : sp_mk (md_sw a b) 1 12 = a := by
  refine sp_ext (sp_or_lt (w := 12) (fun j hj => ?_)) ha (fun j hj => ?_)
  · split
    · exact Nat.pow_lt_pow_right (by decide) hj
    · decide
  · rw [sp_mk_bit, decide_eq_true hj, Bool.true_and]
    unfold md_sw
    cases a.testBit j <;> cases b.testBit j <;> rfl
theorem md_mk2 {a b : Nat} (hb : b < 4096) (hd : sp_dj a b) : sp_mk (md_sw a b) 2 12 = b := by
  refine sp_ext (sp_or_lt (w := 12) (fun j hj => ?_)) hb (fun j hj => ?_)
  · split
    · exact Nat.pow_lt_pow_right (by decide) hj
    · decide
  · rw [sp_mk_bit, decide_eq_true hj, Bool.true_and]
    have z := hd j
    unfold md_sw
    cases h1 : a.testBit j <;> cases h2 : b.testBit j <;> first | rfl | (exfalso; exact z ⟨h1, h2⟩)
def md_G (Z : sp_G) (h : Nat → Nat → Int32) : Prop := h 30 1 = nI (gN Z) ∧ ∀ y, y < gN Z → (∀ p, p < 12 → h 34 (12 * y + p) = nI (md_sw (gA Z y) (gB Z y) p)) ∧ h 36 y = nI (gL Z y) ∧ h 37 y = gO Z y ∧ ∀ k, k < gL Z y → h 35 (20 * y + k) = nI (gV Z y k)
theorem md_G_fr {Z : sp_G} {h h' : Nat → Nat → Int32} (e1 : h' 30 1 = h 30 1) (e2 : h' 34 = h 34) (e3 : h' 35 = h 35) (e4 : h' 36 = h 36) (e5 : h' 37 = h 37) (hG : md_G Z h) : md_G Z h' := by
  unfold md_G
  rw [e1, e2, e3, e4, e5]
  exact hG
theorem md_G_sc {Z : sp_G} {h h' : Nat → Nat → Int32} (H : md_sc h h') (hG : md_G Z h) : md_G Z h' := md_G_fr (md_sc_30 H (by decide) (by decide) (by decide) (by decide)) (md_sc_row H (by decide) (by decide)) (md_sc_row H (by decide) (by decide)) (md_sc_row H (by decide) (by decide)) (md_sc_row H (by decide) (by decide)) hG
theorem md_T_sc {T : Nat → Nat → Nat} {h h' : Nat → Nat → Int32} (H : md_sc h h') (hT : bo_T T h 32) : bo_T T h' 32 := bo_T_fr (md_sc_row H (by decide) (by decide)) hT
/-- a place is not over where a MOVE is lawful -/
theorem md_al_ov {T : Nat → Nat → Nat} (hO : sp_ok T) {c m i x : Nat} (hm : m < 4096) (hx : x % 16 < 12) (h : sp_al T (sp_lv T c m i) m i x = true) : sp_ov T c m i = false := by
  have hf : sp_few c m = false := by
    cases hf : sp_few c m with
    | false => rfl
    | true => unfold sp_al at h; rw [md_v0 hf, sp_tg_0, Nat.zero_testBit] at h; cases h
  have hla : sp_la T (sp_lv T c m i) m i = true := by
    unfold sp_al sp_tg at h
    unfold sp_la
    generalize sp_lv T c m i = v at h ⊢
    by_cases h15 : x / 16 = 15
    · rw [if_pos h15] at h
      by_cases h6 : v.testBit 6 = true
      · rw [if_pos h6] at h
        rw [h6, decide_eq_false (fun z => by rw [z, Nat.zero_testBit] at h; cases h)]
        rfl
      · rw [if_neg h6, Nat.zero_testBit] at h
        cases h
    · rw [if_neg h15] at h
      by_cases hp : x / 16 < 12 ∧ m.testBit (x / 16) = true
      · rw [if_pos hp, Nat.testBit_and, Nat.testBit_or, Bool.and_eq_true, Bool.or_eq_true] at h
        obtain ⟨h1, h2⟩ := h
        rcases h1 with h1 | h1
        · have : sp_ls T v m i = true := by
            rw [md_ls hO]
            refine (sp_any_iff _ _).mpr ⟨x / 16, hp.1, ?_⟩
            unfold md_sp
            rw [hp.2, Bool.true_and, Bool.not_eq_true', decide_eq_false_iff_not]
            exact (md_and0 (sp_ls_lt hO v hp.1)).mpr ⟨x % 16, hx, h1, h2⟩
          rw [this]
          simp
        · have : sp_lj T v m i = true := by
            rw [md_lj hO hm]
            refine (sp_any_iff _ _).mpr ⟨x / 16, hp.1, ?_⟩
            unfold md_jp
            rw [hp.2, Bool.true_and, Bool.not_eq_true', decide_eq_false_iff_not]
            exact (md_and0 (sp_jm_lt hO v i (x / 16))).mpr ⟨x % 16, hx, h1, h2⟩
          rw [this]
          simp
      · rw [if_neg hp, Nat.zero_testBit] at h
        cases h
  unfold sp_ov
  rw [hf, hla]
  simp
def md_gp (h : Nat → Nat → Int32) (a b : Nat) : Nat → Nat → Int32 := ab_u2 (ab_u2 h 30 27 (nI a)) 30 28 (nI b)
theorem md_gp_27 {h : Nat → Nat → Int32} {a b x : Nat} : ab_u2 (md_gp h a b) 30 27 (nI x) = md_gp h x b := by
  unfold md_gp
  funext p q
  unfold ab_u2
  by_cases e : p = 30 ∧ q = 27
  · obtain ⟨rfl, rfl⟩ := e; rfl
  · rw [if_neg e]
    split
    · rfl
    · rfl
theorem md_gp_28 {h : Nat → Nat → Int32} {a b x : Nat} : ab_u2 (md_gp h a b) 30 28 (nI x) = md_gp h a x := by
  unfold md_gp
  funext p q
  unfold ab_u2
  by_cases e : p = 30 ∧ q = 28
  · rw [if_pos e, if_pos e]
  · rw [if_neg e, if_neg e, if_neg e]
theorem md_gp_sc (h : Nat → Nat → Int32) (a b : Nat) : md_sc h (md_gp h a b) := md_sc_put (md_sc_put (md_sc_rf h) (Or.inr ⟨rfl, Or.inr (Or.inr (Or.inl rfl))⟩) _) (Or.inr ⟨rfl, Or.inr (Or.inr (Or.inr rfl))⟩) _
set_option maxHeartbeats 1000000 in
set_option maxRecDepth 10000 in
theorem ct_M_mineNow (l : Launch) (d : Nat) (nr : Nat) (h : Nat → Nat → Int32) (g : Nat → Nat → Int64) (rr : Nat → Option Nat) {m i t : Nat} (hB : md_bd m i t h) (ht : t < 2) : ab_C l am_M_mineNow d 0 0 [.ref 30] (ab_S nr h g rr) (fun (r_ : Option Value) (M' : ab_Me) => r_ = some (.int (nI m)) ∧ M' = (ab_S nr h g rr)) := by
  refine ab_C_of (by decide +kernel) rfl (Nat.le_of_ble_eq_true rfl) ?_
  refine ab_aload_n de_M_mineNow_0 0 rfl ?_
  refine ab_get (v := .int (h 30 5)) fl_M_177 rfl rfl de_M_mineNow_1 ?_
  refine ab_top (v' := nI t) (hB.1) ?_
  refine ab_if_ne (tgt := 14) de_M_mineNow_4 rfl (fun c_4_1 => ?_) (fun c_4_1 => ?_)
  · have t0_ : ¬ t = 0 := fun z => c_4_1 (by rw [z]; rfl)
    refine ab_aload_n de_M_mineNow_14 0 rfl ?_
    refine ab_get (v := .int (h 30 4)) fl_M_174 rfl rfl de_M_mineNow_15 ?_
    refine ab_top (v' := nI m) (hB.2.2.trans (congrArg nI (if_neg t0_))) ?_
    exact ab_ret (v := some (.int (nI m))) de_M_mineNow_18 ⟨_, rfl⟩ ⟨rfl, rfl⟩
  · have t0_ : t = 0 := (ab_inj (b := 0) (by omega) (by decide)).mp c_4_1
    refine ab_aload_n de_M_mineNow_7 0 rfl ?_
    refine ab_get (v := .int (h 30 3)) fl_M_171 rfl rfl de_M_mineNow_8 ?_
    refine ab_top (v' := nI m) (hB.2.1.trans (congrArg nI (if_pos t0_))) ?_
    refine ab_goto (tgt := 18) de_M_mineNow_11 rfl ?_
    exact ab_ret (v := some (.int (nI m))) de_M_mineNow_18 ⟨_, rfl⟩ ⟨rfl, rfl⟩
set_option maxHeartbeats 1000000 in
set_option maxRecDepth 10000 in
theorem ct_M_itsNow (l : Launch) (d : Nat) (nr : Nat) (h : Nat → Nat → Int32) (g : Nat → Nat → Int64) (rr : Nat → Option Nat) {m i t : Nat} (hB : md_bd m i t h) (ht : t < 2) : ab_C l am_M_itsNow d 0 0 [.ref 30] (ab_S nr h g rr) (fun (r_ : Option Value) (M' : ab_Me) => r_ = some (.int (nI i)) ∧ M' = (ab_S nr h g rr)) := by
  refine ab_C_of (by decide +kernel) rfl (Nat.le_of_ble_eq_true rfl) ?_
  refine ab_aload_n de_M_itsNow_0 0 rfl ?_
  refine ab_get (v := .int (h 30 5)) fl_M_177 rfl rfl de_M_itsNow_1 ?_
  refine ab_top (v' := nI t) (hB.1) ?_
  refine ab_if_ne (tgt := 14) de_M_itsNow_4 rfl (fun c_4_1 => ?_) (fun c_4_1 => ?_)
  · have t0_ : ¬ t = 0 := fun z => c_4_1 (by rw [z]; rfl)
    refine ab_aload_n de_M_itsNow_14 0 rfl ?_
    refine ab_get (v := .int (h 30 3)) fl_M_171 rfl rfl de_M_itsNow_15 ?_
    refine ab_top (v' := nI i) (hB.2.1.trans (congrArg nI (if_neg t0_))) ?_
    exact ab_ret (v := some (.int (nI i))) de_M_itsNow_18 ⟨_, rfl⟩ ⟨rfl, rfl⟩
  · have t0_ : t = 0 := (ab_inj (b := 0) (by omega) (by decide)).mp c_4_1
    refine ab_aload_n de_M_itsNow_7 0 rfl ?_
    refine ab_get (v := .int (h 30 4)) fl_M_174 rfl rfl de_M_itsNow_8 ?_
    refine ab_top (v' := nI i) (hB.2.2.trans (congrArg nI (if_pos t0_))) ?_
    refine ab_goto (tgt := 18) de_M_itsNow_11 rfl ?_
    exact ab_ret (v := some (.int (nI i))) de_M_itsNow_18 ⟨_, rfl⟩ ⟨rfl, rfl⟩
set_option maxHeartbeats 1000000 in
set_option maxRecDepth 10000 in
theorem lp_M_begins (l : Launch) (d : Nat) (nr : Nat) (h : Nat → Nat → Int32) (g : Nat → Nat → Int64) (rr : Nat → Option Nat) {Z : sp_G} (hZ : gm_ok Z) (hG : md_G Z h) {y : Nat} (hy : y < gN Z) : ∀ (fu_ p : Nat), p ≤ 12 → 12 < p + fu_ → ab_G l none am_M_begins (d) 0 0 12 [(0, .ref 30), (1, .int (nI y)), (2, .int (nI p))] [] (ab_S nr (md_gp h (sp_mk (md_sw (gA Z y) (gB Z y)) 1 p) (sp_mk (md_sw (gA Z y) (gB Z y)) 2 p)) g rr) (fun (r_ : Option Value) (M' : ab_Me) => r_ = none ∧ M' = (ab_S nr (md_gp h (gA Z y) (gB Z y)) g rr)) := by
  intro fu_
  induction fu_ with
  | zero => intro p  h1 h2; omega
  | succ fu_ ih =>
    intro p  hN_ hn_ 
    refine ab_iload_n de_M_begins_12 2 rfl ?_
    refine ab_bipush (v := 12) de_M_begins_13 rfl ?_
    refine ab_icmp_ge (tgt := 78) de_M_begins_15 rfl (fun c_15_1 => ?_) (fun c_15_1 => ?_)
    · have hp := ab_le_of (n := 12) (by decide) (by omega) rfl c_15_1
      exact ab_ret (v := none) de_M_begins_78 rfl ⟨rfl, by rw [show p = 12 by omega, md_mk1 (hZ.2 y hy).1, md_mk2 (hZ.2 y hy).2.1 (hZ.2 y hy).2.2.1]⟩
    · have hp := ab_nle_of (n := 12) (by decide) (by omega) rfl c_15_1
      have y6_ := hZ.1
      have sw_ := md_sw_lt (gA Z y) (gB Z y) p
      refine ab_aload_n de_M_begins_18 0 rfl ?_
      refine ab_get (v := .ref 34) fl_M_23 rfl rfl de_M_begins_19 ?_
      refine ab_bipush (v := 12) de_M_begins_22 rfl ?_
      refine ab_iload_n de_M_begins_24 1 rfl ?_
      refine ab_imul de_M_begins_25 ?_
      refine ab_top (v' := nI (12 * y)) (ab_mul _ _) ?_
      refine ab_iload_n de_M_begins_26 2 rfl ?_
      refine ab_iadd de_M_begins_27 ?_
      refine ab_top (v' := nI ((12 * y) + p)) (ab_add _ _) ?_
      refine ab_iald (v := (md_gp h (sp_mk (md_sw (gA Z y) (gB Z y)) 1 p) (sp_mk (md_sw (gA Z y) (gB Z y)) 2 p)) 34 ((12 * y) + p)) rfl (ab_in (by omega) (by decide)) (ab_hv (ab_tn (n := ((12 * y) + p)) (by omega))) de_M_begins_28 ?_
      refine ab_top (v' := nI ((md_sw (gA Z y) (gB Z y)) p)) (((hG.2 y hy).1 p hp)) ?_
      refine ab_iconst (v := 1) de_M_begins_29 rfl ?_
      refine ab_icmp_ne (tgt := 45) de_M_begins_30 rfl (fun c_30_2 => ?_) (fun c_30_2 => ?_)
      · refine ab_aload_n de_M_begins_45 0 rfl ?_
        refine ab_get (v := .ref 34) fl_M_23 rfl rfl de_M_begins_46 ?_
        refine ab_bipush (v := 12) de_M_begins_49 rfl ?_
        refine ab_iload_n de_M_begins_51 1 rfl ?_
        refine ab_imul de_M_begins_52 ?_
        refine ab_top (v' := nI (12 * y)) (ab_mul _ _) ?_
        refine ab_iload_n de_M_begins_53 2 rfl ?_
        refine ab_iadd de_M_begins_54 ?_
        refine ab_top (v' := nI ((12 * y) + p)) (ab_add _ _) ?_
        refine ab_iald (v := (md_gp h (sp_mk (md_sw (gA Z y) (gB Z y)) 1 p) (sp_mk (md_sw (gA Z y) (gB Z y)) 2 p)) 34 ((12 * y) + p)) rfl (ab_in (by omega) (by decide)) (ab_hv (ab_tn (n := ((12 * y) + p)) (by omega))) de_M_begins_55 ?_
        refine ab_top (v' := nI ((md_sw (gA Z y) (gB Z y)) p)) (((hG.2 y hy).1 p hp)) ?_
        refine ab_iconst (v := 2) de_M_begins_56 rfl ?_
        refine ab_icmp_ne (tgt := 72) de_M_begins_57 rfl (fun c_57_3 => ?_) (fun c_57_3 => ?_)
        · refine ab_iinc (v := nI (p + 1)) (L' := [(2, .int (nI (p + 1))), (0, .ref 30), (1, .int (nI y))]) de_M_begins_72 2 rfl (by rw [show Int32.ofInt 1 = nI 1 from rfl, ab_add]) (by decide) rfl ?_
          refine ab_goto (tgt := 12) de_M_begins_75 rfl ?_
          refine ab_sub (L' := [(0, .ref 30), (1, .int (nI y)), (2, .int (nI (p + 1)))]) [1, 2, 0] rfl ?_
          have e1_ : sp_mk (md_sw (gA Z y) (gB Z y)) 1 (p + 1) = sp_mk (md_sw (gA Z y) (gB Z y)) 1 p := by
            show sp_mk (md_sw (gA Z y) (gB Z y)) 1 p ||| (if (md_sw (gA Z y) (gB Z y)) p = 1 then 2 ^ p else 0) = _
            rw [if_neg (fun z => c_30_2 (by rw [z]; rfl)), Nat.or_zero]
          have e2_ : sp_mk (md_sw (gA Z y) (gB Z y)) 2 (p + 1) = sp_mk (md_sw (gA Z y) (gB Z y)) 2 p := by
            show sp_mk (md_sw (gA Z y) (gB Z y)) 2 p ||| (if (md_sw (gA Z y) (gB Z y)) p = 2 then 2 ^ p else 0) = _
            rw [if_neg (fun z => c_57_3 (by rw [z]; rfl)), Nat.or_zero]
          have z_ := ih (p + 1) (by omega) (by omega)
          rw [e1_, e2_] at z_
          exact z_
        · refine ab_aload_n de_M_begins_60 0 rfl ?_
          refine ab_dup de_M_begins_61 rfl ?_
          refine ab_get (v := .int ((md_gp h (sp_mk (md_sw (gA Z y) (gB Z y)) 1 p) (sp_mk (md_sw (gA Z y) (gB Z y)) 2 p)) 30 28)) fl_M_242 rfl rfl de_M_begins_62 ?_
          refine ab_top (v' := nI (sp_mk (md_sw (gA Z y) (gB Z y)) 2 p)) (rfl) ?_
          refine ab_iconst (v := 1) de_M_begins_65 rfl ?_
          refine ab_iload_n de_M_begins_66 2 rfl ?_
          refine ab_ishl de_M_begins_67 ?_
          refine ab_top (v' := nI (2 ^ p)) ((ab_shl 1 (by omega)).trans (congrArg nI (Nat.one_shiftLeft _))) ?_
          refine ab_ior de_M_begins_68 ?_
          refine ab_top (v' := nI ((sp_mk (md_sw (gA Z y) (gB Z y)) 2 p) ||| (2 ^ p))) (ab_or _ _) ?_
          refine ab_putI (x := 30) (j := 28) fl_M_242 rfl (Or.inl rfl) rfl rfl rfl de_M_begins_69 ?_
          change ab_G _ _ _ _ _ _ _ _ _ (ab_S nr (ab_u2 (md_gp h (sp_mk (md_sw (gA Z y) (gB Z y)) 1 p) (sp_mk (md_sw (gA Z y) (gB Z y)) 2 p)) 30 28 (nI ((sp_mk (md_sw (gA Z y) (gB Z y)) 2 p) ||| (2 ^ p)))) g rr) _
          refine ab_hm (h' := md_gp h (sp_mk (md_sw (gA Z y) (gB Z y)) 1 p) ((sp_mk (md_sw (gA Z y) (gB Z y)) 2 p) ||| 2 ^ p)) (md_gp_28) ?_
          refine ab_iinc (v := nI (p + 1)) (L' := [(2, .int (nI (p + 1))), (0, .ref 30), (1, .int (nI y))]) de_M_begins_72 2 rfl (by rw [show Int32.ofInt 1 = nI 1 from rfl, ab_add]) (by decide) rfl ?_
          refine ab_goto (tgt := 12) de_M_begins_75 rfl ?_
          refine ab_sub (L' := [(0, .ref 30), (1, .int (nI y)), (2, .int (nI (p + 1)))]) [1, 2, 0] rfl ?_
          have e1_ : sp_mk (md_sw (gA Z y) (gB Z y)) 1 (p + 1) = sp_mk (md_sw (gA Z y) (gB Z y)) 1 p := by
            show sp_mk (md_sw (gA Z y) (gB Z y)) 1 p ||| (if (md_sw (gA Z y) (gB Z y)) p = 1 then 2 ^ p else 0) = _
            rw [if_neg (fun z => c_30_2 (by rw [z]; rfl)), Nat.or_zero]
          have e2_ : sp_mk (md_sw (gA Z y) (gB Z y)) 2 (p + 1) = (sp_mk (md_sw (gA Z y) (gB Z y)) 2 p ||| 2 ^ p) := by
            show sp_mk (md_sw (gA Z y) (gB Z y)) 2 p ||| (if (md_sw (gA Z y) (gB Z y)) p = 2 then 2 ^ p else 0) = _
            rw [if_pos ((ab_inj (b := 2) (by omega) (by decide)).mp c_57_3)]
          have z_ := ih (p + 1) (by omega) (by omega)
          rw [e1_, e2_] at z_
          exact z_
      · refine ab_aload_n de_M_begins_33 0 rfl ?_
        refine ab_dup de_M_begins_34 rfl ?_
        refine ab_get (v := .int ((md_gp h (sp_mk (md_sw (gA Z y) (gB Z y)) 1 p) (sp_mk (md_sw (gA Z y) (gB Z y)) 2 p)) 30 27)) fl_M_239 rfl rfl de_M_begins_35 ?_
        refine ab_top (v' := nI (sp_mk (md_sw (gA Z y) (gB Z y)) 1 p)) (rfl) ?_
        refine ab_iconst (v := 1) de_M_begins_38 rfl ?_
        refine ab_iload_n de_M_begins_39 2 rfl ?_
        refine ab_ishl de_M_begins_40 ?_
        refine ab_top (v' := nI (2 ^ p)) ((ab_shl 1 (by omega)).trans (congrArg nI (Nat.one_shiftLeft _))) ?_
        refine ab_ior de_M_begins_41 ?_
        refine ab_top (v' := nI ((sp_mk (md_sw (gA Z y) (gB Z y)) 1 p) ||| (2 ^ p))) (ab_or _ _) ?_
        refine ab_putI (x := 30) (j := 27) fl_M_239 rfl (Or.inl rfl) rfl rfl rfl de_M_begins_42 ?_
        change ab_G _ _ _ _ _ _ _ _ _ (ab_S nr (ab_u2 (md_gp h (sp_mk (md_sw (gA Z y) (gB Z y)) 1 p) (sp_mk (md_sw (gA Z y) (gB Z y)) 2 p)) 30 27 (nI ((sp_mk (md_sw (gA Z y) (gB Z y)) 1 p) ||| (2 ^ p)))) g rr) _
        refine ab_hm (h' := md_gp h ((sp_mk (md_sw (gA Z y) (gB Z y)) 1 p) ||| 2 ^ p) (sp_mk (md_sw (gA Z y) (gB Z y)) 2 p)) (md_gp_27) ?_
        refine ab_aload_n de_M_begins_45 0 rfl ?_
        refine ab_get (v := .ref 34) fl_M_23 rfl rfl de_M_begins_46 ?_
        refine ab_bipush (v := 12) de_M_begins_49 rfl ?_
        refine ab_iload_n de_M_begins_51 1 rfl ?_
        refine ab_imul de_M_begins_52 ?_
        refine ab_top (v' := nI (12 * y)) (ab_mul _ _) ?_
        refine ab_iload_n de_M_begins_53 2 rfl ?_
        refine ab_iadd de_M_begins_54 ?_
        refine ab_top (v' := nI ((12 * y) + p)) (ab_add _ _) ?_
        refine ab_iald (v := (md_gp h ((sp_mk (md_sw (gA Z y) (gB Z y)) 1 p) ||| 2 ^ p) (sp_mk (md_sw (gA Z y) (gB Z y)) 2 p)) 34 ((12 * y) + p)) rfl (ab_in (by omega) (by decide)) (ab_hv (ab_tn (n := ((12 * y) + p)) (by omega))) de_M_begins_55 ?_
        refine ab_top (v' := nI ((md_sw (gA Z y) (gB Z y)) p)) (((hG.2 y hy).1 p hp)) ?_
        refine ab_iconst (v := 2) de_M_begins_56 rfl ?_
        refine ab_icmp_ne (tgt := 72) de_M_begins_57 rfl (fun c_57_4 => ?_) (fun c_57_4 => ?_)
        · refine ab_iinc (v := nI (p + 1)) (L' := [(2, .int (nI (p + 1))), (0, .ref 30), (1, .int (nI y))]) de_M_begins_72 2 rfl (by rw [show Int32.ofInt 1 = nI 1 from rfl, ab_add]) (by decide) rfl ?_
          refine ab_goto (tgt := 12) de_M_begins_75 rfl ?_
          refine ab_sub (L' := [(0, .ref 30), (1, .int (nI y)), (2, .int (nI (p + 1)))]) [1, 2, 0] rfl ?_
          have e1_ : sp_mk (md_sw (gA Z y) (gB Z y)) 1 (p + 1) = (sp_mk (md_sw (gA Z y) (gB Z y)) 1 p ||| 2 ^ p) := by
            show sp_mk (md_sw (gA Z y) (gB Z y)) 1 p ||| (if (md_sw (gA Z y) (gB Z y)) p = 1 then 2 ^ p else 0) = _
            rw [if_pos ((ab_inj (b := 1) (by omega) (by decide)).mp c_30_2)]
          have e2_ : sp_mk (md_sw (gA Z y) (gB Z y)) 2 (p + 1) = sp_mk (md_sw (gA Z y) (gB Z y)) 2 p := by
            show sp_mk (md_sw (gA Z y) (gB Z y)) 2 p ||| (if (md_sw (gA Z y) (gB Z y)) p = 2 then 2 ^ p else 0) = _
            rw [if_neg (fun z => c_57_4 (by rw [z]; rfl)), Nat.or_zero]
          have z_ := ih (p + 1) (by omega) (by omega)
          rw [e1_, e2_] at z_
          exact z_
        · refine ab_aload_n de_M_begins_60 0 rfl ?_
          refine ab_dup de_M_begins_61 rfl ?_
          refine ab_get (v := .int ((md_gp h ((sp_mk (md_sw (gA Z y) (gB Z y)) 1 p) ||| 2 ^ p) (sp_mk (md_sw (gA Z y) (gB Z y)) 2 p)) 30 28)) fl_M_242 rfl rfl de_M_begins_62 ?_
          refine ab_top (v' := nI (sp_mk (md_sw (gA Z y) (gB Z y)) 2 p)) (rfl) ?_
          refine ab_iconst (v := 1) de_M_begins_65 rfl ?_
          refine ab_iload_n de_M_begins_66 2 rfl ?_
          refine ab_ishl de_M_begins_67 ?_
          refine ab_top (v' := nI (2 ^ p)) ((ab_shl 1 (by omega)).trans (congrArg nI (Nat.one_shiftLeft _))) ?_
          refine ab_ior de_M_begins_68 ?_
          refine ab_top (v' := nI ((sp_mk (md_sw (gA Z y) (gB Z y)) 2 p) ||| (2 ^ p))) (ab_or _ _) ?_
          refine ab_putI (x := 30) (j := 28) fl_M_242 rfl (Or.inl rfl) rfl rfl rfl de_M_begins_69 ?_
          change ab_G _ _ _ _ _ _ _ _ _ (ab_S nr (ab_u2 (md_gp h ((sp_mk (md_sw (gA Z y) (gB Z y)) 1 p) ||| 2 ^ p) (sp_mk (md_sw (gA Z y) (gB Z y)) 2 p)) 30 28 (nI ((sp_mk (md_sw (gA Z y) (gB Z y)) 2 p) ||| (2 ^ p)))) g rr) _
          refine ab_hm (h' := md_gp h ((sp_mk (md_sw (gA Z y) (gB Z y)) 1 p) ||| 2 ^ p) ((sp_mk (md_sw (gA Z y) (gB Z y)) 2 p) ||| 2 ^ p)) (md_gp_28) ?_
          refine ab_iinc (v := nI (p + 1)) (L' := [(2, .int (nI (p + 1))), (0, .ref 30), (1, .int (nI y))]) de_M_begins_72 2 rfl (by rw [show Int32.ofInt 1 = nI 1 from rfl, ab_add]) (by decide) rfl ?_
          refine ab_goto (tgt := 12) de_M_begins_75 rfl ?_
          refine ab_sub (L' := [(0, .ref 30), (1, .int (nI y)), (2, .int (nI (p + 1)))]) [1, 2, 0] rfl ?_
          have e1_ : sp_mk (md_sw (gA Z y) (gB Z y)) 1 (p + 1) = (sp_mk (md_sw (gA Z y) (gB Z y)) 1 p ||| 2 ^ p) := by
            show sp_mk (md_sw (gA Z y) (gB Z y)) 1 p ||| (if (md_sw (gA Z y) (gB Z y)) p = 1 then 2 ^ p else 0) = _
            rw [if_pos ((ab_inj (b := 1) (by omega) (by decide)).mp c_30_2)]
          have e2_ : sp_mk (md_sw (gA Z y) (gB Z y)) 2 (p + 1) = (sp_mk (md_sw (gA Z y) (gB Z y)) 2 p ||| 2 ^ p) := by
            show sp_mk (md_sw (gA Z y) (gB Z y)) 2 p ||| (if (md_sw (gA Z y) (gB Z y)) p = 2 then 2 ^ p else 0) = _
            rw [if_pos ((ab_inj (b := 2) (by omega) (by decide)).mp c_57_4)]
          have z_ := ih (p + 1) (by omega) (by omega)
          rw [e1_, e2_] at z_
          exact z_
set_option maxHeartbeats 1000000 in
set_option maxRecDepth 10000 in
theorem ct_M_begins (l : Launch) (d : Nat) (nr : Nat) (h : Nat → Nat → Int32) (g : Nat → Nat → Int64) (rr : Nat → Option Nat) {Z : sp_G} (hZ : gm_ok Z) (hG : md_G Z h) {y : Nat} (hy : y < gN Z) : ab_C l am_M_begins d 0 0 [.ref 30, .int (nI y)] (ab_S nr h g rr) (fun (r_ : Option Value) (M' : ab_Me) => r_ = none ∧ M' = (ab_S nr (md_gp h (gA Z y) (gB Z y)) g rr)) := by
  refine ab_C_of (by decide +kernel) rfl (Nat.le_of_ble_eq_true rfl) ?_
  refine ab_aload_n de_M_begins_0 0 rfl ?_
  refine ab_iconst (v := 0) de_M_begins_1 rfl ?_
  refine ab_putI (x := 30) (j := 27) fl_M_239 rfl (Or.inl rfl) rfl rfl rfl de_M_begins_2 ?_
  change ab_G _ _ _ _ _ _ _ _ _ (ab_S nr (ab_u2 h 30 27 (0 : Int32)) g rr) _
  refine ab_aload_n de_M_begins_5 0 rfl ?_
  refine ab_iconst (v := 0) de_M_begins_6 rfl ?_
  refine ab_putI (x := 30) (j := 28) fl_M_242 rfl (Or.inl rfl) rfl rfl rfl de_M_begins_7 ?_
  change ab_G _ _ _ _ _ _ _ _ _ (ab_S nr (ab_u2 (ab_u2 h 30 27 (0 : Int32)) 30 28 (0 : Int32)) g rr) _
  refine ab_hm (h' := md_gp h (sp_mk (md_sw (gA Z y) (gB Z y)) 1 0) (sp_mk (md_sw (gA Z y) (gB Z y)) 2 0)) (rfl) ?_
  refine ab_iconst (v := 0) de_M_begins_10 rfl ?_
  refine ab_istore_n (L' := [(2, .int (0 : Int32)), (0, .ref 30), (1, .int (nI y))]) de_M_begins_11 (by decide) rfl ?_
  refine ab_sub (L' := [(0, .ref 30), (1, .int (nI y)), (2, .int (nI 0))]) [1, 2, 0] rfl ?_
  exact lp_M_begins l d nr h g rr hZ hG hy 13 0 (by omega) (by omega)
set_option maxHeartbeats 1000000 in
set_option maxRecDepth 10000 in
theorem ct_M_steps (l : Launch) (d : Nat) (nr : Nat) (h : Nat → Nat → Int32) (g : Nat → Nat → Int64) (rr : Nat → Option Nat) {T : Nat → Nat → Nat} (hTM : bo_T T h 32) (hO : sp_ok T) {c m i : Nat} (hc : c < 4096) (hm : m < 4096) (hi : i < 4096) {x : Nat} (hx : sp_mv x) (hd : sp_dj m i) (h27 : h 30 27 = nI m) (h28 : h 30 28 = nI i) : ab_C l am_M_steps (d + 4) 0 0 [.ref 30, .int (nI c), .int (nI x)] (ab_S nr h g rr) (fun (r_ : Option Value) (M' : ab_Me) => r_ = none ∧ ∃ h', M' = ab_S nr h' g rr ∧ md_sc h h' ∧ h' 30 27 = nI (sp_d2 T (sp_lv T c m i) m i x) ∧ h' 30 28 = nI (sp_d1 T (sp_lv T c m i) m i x)) := by
  refine ab_C_of (by decide +kernel) rfl (Nat.le_of_ble_eq_true rfl) ?_
  refine ab_aload_n de_M_steps_0 0 rfl ?_
  refine ab_iload_n de_M_steps_1 1 rfl ?_
  refine ab_iload_n de_M_steps_2 2 rfl ?_
  refine ab_aload_n de_M_steps_3 0 rfl ?_
  refine ab_get (v := .int (h 30 27)) fl_M_239 rfl rfl de_M_steps_4 ?_
  refine ab_top (v' := nI m) (h27) ?_
  refine ab_aload_n de_M_steps_7 0 rfl ?_
  refine ab_get (v := .int (h 30 28)) fl_M_242 rfl rfl de_M_steps_8 ?_
  refine ab_top (v' := nI i) (h28) ?_
  refine ab_cV (as := [.int (nI c), .int (nI x), .int (nI m), .int (nI i)]) (st := []) (ct_M_does l _ nr h g rr hTM hO hc hm hi (x := x) hx hd) mo_M_does mi_M_does ml_M_228 rfl (by decide) rfl rfl rfl (Nat.le_of_ble_eq_true rfl) de_M_steps_11 (fun v_ M_ hK_ hl_ hv_ => ?_)
  obtain ⟨rfl, hm_⟩ := hK_
  have hm_ := hm_.symm
  subst hm_
  change ab_G _ _ _ _ _ _ _ [(0, .ref 30), (1, .int (nI c)), (2, .int (nI x))] [] (ab_S nr (ab_u2 (ab_u2 h 30 24 (nI (sp_d2 T (sp_lv T c m i) m i x))) 30 25 (nI (sp_d1 T (sp_lv T c m i) m i x))) g rr) _
  refine ab_aload_n de_M_steps_14 0 rfl ?_
  refine ab_aload_n de_M_steps_15 0 rfl ?_
  refine ab_get (v := .int ((ab_u2 (ab_u2 h 30 24 (nI (sp_d2 T (sp_lv T c m i) m i x))) 30 25 (nI (sp_d1 T (sp_lv T c m i) m i x))) 30 24)) fl_M_207 rfl rfl de_M_steps_16 ?_
  refine ab_top (v' := nI (sp_d2 T (sp_lv T c m i) m i x)) (rfl) ?_
  refine ab_putI (x := 30) (j := 27) fl_M_239 rfl (Or.inl rfl) rfl rfl rfl de_M_steps_19 ?_
  change ab_G _ _ _ _ _ _ _ _ _ (ab_S nr (ab_u2 (ab_u2 (ab_u2 h 30 24 (nI (sp_d2 T (sp_lv T c m i) m i x))) 30 25 (nI (sp_d1 T (sp_lv T c m i) m i x))) 30 27 (nI (sp_d2 T (sp_lv T c m i) m i x))) g rr) _
  refine ab_aload_n de_M_steps_22 0 rfl ?_
  refine ab_aload_n de_M_steps_23 0 rfl ?_
  refine ab_get (v := .int ((ab_u2 (ab_u2 (ab_u2 h 30 24 (nI (sp_d2 T (sp_lv T c m i) m i x))) 30 25 (nI (sp_d1 T (sp_lv T c m i) m i x))) 30 27 (nI (sp_d2 T (sp_lv T c m i) m i x))) 30 25)) fl_M_210 rfl rfl de_M_steps_24 ?_
  refine ab_top (v' := nI (sp_d1 T (sp_lv T c m i) m i x)) (rfl) ?_
  refine ab_putI (x := 30) (j := 28) fl_M_242 rfl (Or.inl rfl) rfl rfl rfl de_M_steps_27 ?_
  change ab_G _ _ _ _ _ _ _ _ _ (ab_S nr (ab_u2 (ab_u2 (ab_u2 (ab_u2 h 30 24 (nI (sp_d2 T (sp_lv T c m i) m i x))) 30 25 (nI (sp_d1 T (sp_lv T c m i) m i x))) 30 27 (nI (sp_d2 T (sp_lv T c m i) m i x))) 30 28 (nI (sp_d1 T (sp_lv T c m i) m i x))) g rr) _
  exact ab_ret (v := none) de_M_steps_30 rfl ⟨rfl, _, rfl, (md_sc_put (md_sc_put (md_sc_put (md_sc_put (md_sc_rf h) (Or.inr ⟨rfl, Or.inl rfl⟩) _) (Or.inr ⟨rfl, Or.inr (Or.inl rfl)⟩) _) (Or.inr ⟨rfl, Or.inr (Or.inr (Or.inl rfl))⟩) _) (Or.inr ⟨rfl, Or.inr (Or.inr (Or.inr rfl))⟩) _), rfl, rfl⟩
set_option maxHeartbeats 1000000 in
set_option maxRecDepth 10000 in
theorem ct_M_isOut (l : Launch) (d : Nat) (nr : Nat) (h : Nat → Nat → Int32) (g : Nat → Nat → Int64) (rr : Nat → Option Nat) {T : Nat → Nat → Nat} (hTM : bo_T T h 32) (hO : sp_ok T) {c m i : Nat} (hc : c < 4096) (hm : m < 4096) (hi : i < 4096) {Z : sp_G} (hZ : gm_ok Z) (hG : md_G Z h) {y : Nat} (hy : y < gN Z) (h27 : h 30 27 = nI m) (h28 : h 30 28 = nI i) : ab_C l am_M_isOut (d + 4) 0 0 [.ref 30, .int (nI y), .int (nI c)] (ab_S nr h g rr) (fun (r_ : Option Value) (M' : ab_Me) => r_ = some (.int (ab_bz (decide (sp_wn T c m i (gL Z y % 2) = gO Z y)))) ∧ M' = (ab_S nr h g rr)) := by
  have y6_ := hZ.1
  have l20_ := (hZ.2 y hy).2.2.2.1
  refine ab_C_of (by decide +kernel) rfl (Nat.le_of_ble_eq_true rfl) ?_
  refine ab_aload_n de_M_isOut_0 0 rfl ?_
  refine ab_iload_n de_M_isOut_1 2 rfl ?_
  refine ab_aload_n de_M_isOut_2 0 rfl ?_
  refine ab_get (v := .int (h 30 27)) fl_M_239 rfl rfl de_M_isOut_3 ?_
  refine ab_top (v' := nI m) (h27) ?_
  refine ab_aload_n de_M_isOut_6 0 rfl ?_
  refine ab_get (v := .int (h 30 28)) fl_M_242 rfl rfl de_M_isOut_7 ?_
  refine ab_top (v' := nI i) (h28) ?_
  refine ab_cV (as := [.int (nI c), .int (nI m), .int (nI i)]) (st := []) (ct_M_isOver l _ nr h g rr hTM hO hc hm hi) mo_M_isOver mi_M_isOver ml_M_225 rfl (by decide) rfl rfl rfl (Nat.le_of_ble_eq_true rfl) de_M_isOut_10 (fun v_ M_ hK_ hl_ hv_ => ?_)
  obtain ⟨rfl, hm_⟩ := hK_
  have hm_ := hm_.symm
  subst hm_
  change ab_G _ _ _ _ _ _ _ [(0, .ref 30), (1, .int (nI y)), (2, .int (nI c))] [.int (ab_bz (sp_ov T c m i))] (ab_S nr h g rr) _
  refine ab_istore_n (L' := [(3, .int (ab_bz (sp_ov T c m i))), (0, .ref 30), (1, .int (nI y)), (2, .int (nI c))]) de_M_isOut_13 (by decide) rfl ?_
  refine ab_aload_n de_M_isOut_14 1 rfl ?_
  refine ab_get (v := .ref 37) fl_M_32 rfl rfl de_M_isOut_15 ?_
  refine ab_iload_n de_M_isOut_18 2 rfl ?_
  refine ab_iald (v := h 37 y) rfl (ab_in (by omega) (by decide)) (ab_hv (ab_tn (n := y) (by omega))) de_M_isOut_19 ?_
  refine ab_top (v' := gO Z y) ((hG.2 y hy).2.2.1) ?_
  refine ab_iconst (v := -1) de_M_isOut_20 rfl ?_
  refine ab_icmp_ne (tgt := 36) de_M_isOut_21 rfl (fun c_21_1 => ?_) (fun c_21_1 => ?_)
  · refine ab_iload_n de_M_isOut_36 0 rfl ?_
    refine ab_if_eq (tgt := 63) de_M_isOut_37 rfl (fun c_37_2 => ?_) (fun c_37_2 => ?_)
    · refine ab_iconst (v := 0) de_M_isOut_63 rfl ?_
      exact ab_ret (v := some (.int (0 : Int32))) de_M_isOut_64 ⟨_, rfl, rfl⟩ ⟨congrArg (fun z => some (Value.int z)) (ab_bz_f (decide_eq_false (fun z => by
      revert z
      unfold sp_wn; rw [if_neg (by rw [(ab_bz0 _).mp c_37_2]; decide)]
      exact fun z => c_21_1 z.symm))), rfl⟩
    · refine ab_iconst (v := 1) de_M_isOut_40 rfl ?_
      refine ab_aload_n de_M_isOut_41 1 rfl ?_
      refine ab_get (v := .ref 36) fl_M_29 rfl rfl de_M_isOut_42 ?_
      refine ab_iload_n de_M_isOut_45 2 rfl ?_
      refine ab_iald (v := h 36 y) rfl (ab_in (by omega) (by decide)) (ab_hv (ab_tn (n := y) (by omega))) de_M_isOut_46 ?_
      refine ab_top (v' := nI (gL Z y)) ((hG.2 y hy).2.1) ?_
      refine ab_iconst (v := 2) de_M_isOut_47 rfl ?_
      refine ab_irem de_M_isOut_48 (by decide) ?_
      refine ab_top (v' := nI (gL Z y % 2)) (ab_rem (b := 2) (by omega) (by decide)) ?_
      refine ab_isub de_M_isOut_49 ?_
      refine ab_top (v' := nI (1 - gL Z y % 2)) (ab_sub_k (a := 1) (by omega)) ?_
      refine ab_aload_n de_M_isOut_50 1 rfl ?_
      refine ab_get (v := .ref 37) fl_M_32 rfl rfl de_M_isOut_51 ?_
      refine ab_iload_n de_M_isOut_54 2 rfl ?_
      refine ab_iald (v := h 37 y) rfl (ab_in (by omega) (by decide)) (ab_hv (ab_tn (n := y) (by omega))) de_M_isOut_55 ?_
      refine ab_top (v' := gO Z y) ((hG.2 y hy).2.2.1) ?_
      refine ab_icmp_ne (tgt := 63) de_M_isOut_56 rfl (fun c_56_3 => ?_) (fun c_56_3 => ?_)
      · refine ab_iconst (v := 0) de_M_isOut_63 rfl ?_
        exact ab_ret (v := some (.int (0 : Int32))) de_M_isOut_64 ⟨_, rfl, rfl⟩ ⟨congrArg (fun z => some (Value.int z)) (ab_bz_f (decide_eq_false (by unfold sp_wn; rw [if_pos ((ab_bz1 _).mp c_37_2)]; exact c_56_3))), rfl⟩
      · refine ab_iconst (v := 1) de_M_isOut_59 rfl ?_
        refine ab_goto (tgt := 64) de_M_isOut_60 rfl ?_
        exact ab_ret (v := some (.int (1 : Int32))) de_M_isOut_64 ⟨_, rfl, rfl⟩ ⟨congrArg (fun z => some (Value.int z)) (ab_bz_t (decide_eq_true (by unfold sp_wn; rw [if_pos ((ab_bz1 _).mp c_37_2)]; exact c_56_3))), rfl⟩
  · refine ab_iload_n de_M_isOut_24 0 rfl ?_
    refine ab_if_ne (tgt := 32) de_M_isOut_25 rfl (fun c_25_4 => ?_) (fun c_25_4 => ?_)
    · refine ab_iconst (v := 0) de_M_isOut_32 rfl ?_
      refine ab_goto (tgt := 64) de_M_isOut_33 rfl ?_
      exact ab_ret (v := some (.int (0 : Int32))) de_M_isOut_64 ⟨_, rfl, rfl⟩ ⟨congrArg (fun z => some (Value.int z)) (ab_bz_f (decide_eq_false (fun z => by
      revert z
      unfold sp_wn; rw [if_pos ((ab_bz1 _).mp c_25_4), c_21_1]
      exact sp_nI_ne (by omega)))), rfl⟩
    · refine ab_iconst (v := 1) de_M_isOut_28 rfl ?_
      refine ab_goto (tgt := 64) de_M_isOut_29 rfl ?_
      exact ab_ret (v := some (.int (1 : Int32))) de_M_isOut_64 ⟨_, rfl, rfl⟩ ⟨congrArg (fun z => some (Value.int z)) (ab_bz_t (decide_eq_true (by unfold sp_wn; rw [if_neg (by rw [(ab_bz0 _).mp c_25_4]; decide), c_21_1]))), rfl⟩
