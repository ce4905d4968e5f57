def sp_dj (m i : Nat) : Prop := ∀ p, ¬ (m.testBit p = true ∧ i.testBit p = true)
def sp_m1 (m i p q : Nat) : Nat := if sp_who m i p = 1 then sp_set (sp_clr m p) q else sp_clr (sp_clr m p) q
def sp_i1 (m i p q : Nat) : Nat := if sp_who m i p = 2 then sp_set (sp_clr i p) q else sp_clr (sp_clr i p) q
def sp_lo (x : Nat) : Nat := ((List.range 12).find? (fun j => x.testBit j)).getD 0
def sp_tk (T : Nat → Nat → Nat) (v m i x : Nat) : Bool := v.testBit 7 && (sp_al T v m i x && !(sp_st T v (x / 16)).testBit (x % 16))
/-- what a MOVE makes of the TURN's pieces, and of the other's -/
def sp_d1 (_T : Nat → Nat → Nat) (_v m i x : Nat) : Nat := if x / 16 = 15 then sp_set m (x % 16) else sp_m1 m i (x / 16) (x % 16)
def sp_d2 (T : Nat → Nat → Nat) (v m i x : Nat) : Nat := if x / 16 = 15 then sp_clr i (x % 16) else if sp_tk T v m i x then sp_clr (sp_i1 m i (x / 16) (x % 16)) (sp_lo (sp_jo T v i (x / 16) (x % 16))) else sp_i1 m i (x / 16) (x % 16)
theorem sp_lo_64 : ∀ a, a < 64 → ∀ b, b < 64 → ¬ 64 * a + b = 0 → (nI (64 * a + b) &&& -(nI (64 * a + b)) = nI (2 ^ sp_lo (64 * a + b)) ∧ sp_lo (64 * a + b) < 12 ∧ (64 * a + b).testBit (sp_lo (64 * a + b)) = true) := by decide +kernel
theorem sp_lo_ok {x : Nat} (hx : x < 4096) (h : ¬ x = 0) : nI x &&& -(nI x) = nI (2 ^ sp_lo x) ∧ sp_lo x < 12 ∧ x.testBit (sp_lo x) = true := by
  have h1 := sp_lo_64 (x / 64) (by omega) (x % 64) (by omega)
  rw [Nat.div_add_mod] at h1
  exact h1 h
theorem sp_m1_lt {m i p q : Nat} (hm : m < 4096) (hq : q < 12) : sp_m1 m i p q < 4096 := by
  unfold sp_m1
  split
  · exact sp_set_lt (sp_clr_lt hm p) hq
  · exact sp_clr_lt (sp_clr_lt hm p) q
theorem sp_i1_lt {m i p q : Nat} (hi : i < 4096) (hq : q < 12) : sp_i1 m i p q < 4096 := by
  unfold sp_i1
  split
  · exact sp_set_lt (sp_clr_lt hi p) hq
  · exact sp_clr_lt (sp_clr_lt hi p) q
theorem sp_clr_no {m q : Nat} (hm : m < 4096) (h : m.testBit q = false) : sp_clr m q = m := by
  apply Nat.eq_of_testBit_eq
  intro j
  rw [sp_clr_bit hm]
  by_cases e : q = j
  · subst e; rw [h]; rfl
  · simp [e]
theorem bo_take {a b t o : Nat} (ha : a < 4096) (hb : b < 4096) (ht : t < 2) (ho : o < 12) (hn : a.testBit o = false) : nI (sp_en a b t) &&& ((nI (2 ^ o) ||| nI (2 ^ o) <<< ((12 : Int32) &&& (31 : Int32))) ^^^ (-1 : Int32)) = nI (sp_en a (sp_clr b o) t) := by
  have h1 : nI (2 ^ o) <<< ((12 : Int32) &&& (31 : Int32)) = nI (2 ^ (12 + o)) := by
    rw [show (12 : Int32) = nI 12 from rfl, show (31 : Int32) = nI 31 from rfl]
    refine (ab_shl (2 ^ o) (k := 12) (by decide)).trans ?_
    rw [Nat.shiftLeft_eq, ← Nat.pow_add, Nat.add_comm]
  rw [h1, ab_or, sp_notb (sp_en_lt ha hb)]
  have h2 := sp_wi_en (w := 0) ha hb ht ho (by decide)
  rw [show sp_wv 0 t = 0 from rfl] at h2
  unfold sp_wi at h2
  simp only [Nat.zero_mod, Nat.zero_div, Nat.zero_shiftLeft, Nat.or_zero] at h2
  rw [h2, if_neg (by decide), if_neg (by decide), sp_clr_no ha hn]
/-- what is taken isn't where the TURN's pieces are -/
theorem sp_m1_no {T : Nat → Nat → Nat} {v m i p q : Nat} (hm : m < 4096) (hi : i < 4096) (hd : sp_dj m i) (hq : q < 12) (he : (ab_no (m ||| i)).testBit q = true) (hj : ¬ sp_jo T v i p q = 0) : (sp_m1 m i p q).testBit (sp_lo (sp_jo T v i p q)) = false := by
  obtain ⟨-, -, h3⟩ := sp_lo_ok (sp_jo_lt hi) hj
  generalize hoo : sp_lo (sp_jo T v i p q) = o at h3 ⊢
  unfold sp_jo at h3
  rw [Nat.testBit_and, Bool.and_eq_true] at h3
  have hio := h3.2
  have hmo : m.testBit o = false := by
    cases h : m.testBit o with
    | false => rfl
    | true => exact absurd ⟨h, hio⟩ (hd o)
  have hqo : ¬ q = o := by
    intro e
    subst e
    rw [ab_no_bit _ hq, Nat.testBit_or, hio] at he
    simp at he
  unfold sp_m1
  split
  · rw [sp_set_bit, sp_clr_bit hm, hmo]; simp [hqo]
  · rw [sp_clr_bit (sp_clr_lt hm p), sp_clr_bit hm, hmo]; simp
theorem sp_al_parts {T : Nat → Nat → Nat} (hO : sp_ok T) {v m i x : Nat} (hi : i < 4096) (hp : x / 16 < 12) (hq : x % 16 < 12) (h : sp_al T v m i x = true) (hs : (sp_st T v (x / 16)).testBit (x % 16) = false) : (ab_no (m ||| i)).testBit (x % 16) = true ∧ ¬ sp_jo T v i (x / 16) (x % 16) = 0 := by
  unfold sp_al at h
  rw [sp_tg_bit hp, hs] at h
  simp only [Bool.false_or, Bool.and_eq_true] at h
  exact ⟨h.2.1, (sp_jm_bit hO hi hp hq).mp h.2.2⟩
set_option maxHeartbeats 1000000 in
set_option maxRecDepth 10000 in
theorem ct_B_done (l : Launch) (d : Nat) (nr : Nat) (h : Nat → Nat → Int32) (g : Nat → Nat → Int64) (rr : Nat → Option Nat) {T : Nat → Nat → Nat} (hT : bo_T T h 17) (hO : sp_ok T) {m i t v x : Nat} (hm : m < 4096) (hi : i < 4096) (ht : t < 2) (hv : v < 4096) (hx : sp_mv x) (hd : sp_dj m i) : ab_C l am_B_done (d + 3) 0 0 [.ref 16, .int (nI (sp_en m i t)), .int (nI v), .int (nI x)] (ab_S nr h g rr) (fun (r_ : Option Value) (M' : ab_Me) => r_ = some (.int (nI (sp_en (sp_d2 T v m i x) (sp_d1 T v m i x) (1 - t)))) ∧ M' = (ab_S nr h g rr)) := by
  refine ab_C_of (by decide +kernel) rfl (Nat.le_of_ble_eq_true rfl) ?_
  refine ab_iload_n de_B_done_0 3 rfl ?_
  refine ab_iconst (v := 4) de_B_done_1 rfl ?_
  refine ab_ishr de_B_done_2 ?_
  refine ab_top (v' := nI (x / 16)) (bo_from hx.1) ?_
  refine ab_istore (L' := [(4, .int (nI (x / 16))), (0, .ref 16), (1, .int (nI (sp_en m i t))), (2, .int (nI v)), (3, .int (nI x))]) de_B_done_3 (by decide) rfl ?_
  refine ab_iload_n de_B_done_5 4 rfl ?_
  refine ab_bipush (v := 15) de_B_done_6 rfl ?_
  refine ab_iand de_B_done_8 ?_
  refine ab_top (v' := nI (x % 16)) (bo_to x) ?_
  refine ab_istore (L' := [(5, .int (nI (x % 16))), (4, .int (nI (x / 16))), (0, .ref 16), (1, .int (nI (sp_en m i t))), (2, .int (nI v)), (3, .int (nI x))]) de_B_done_9 (by decide) rfl ?_
  refine ab_iload de_B_done_11 1 rfl ?_
  refine ab_bipush (v := 15) de_B_done_13 rfl ?_
  refine ab_icmp_ne (tgt := 34) de_B_done_15 rfl (fun c_15_1 => ?_) (fun c_15_1 => ?_)
  · have hp12 := sp_hx12 hx c_15_1
    refine ab_iload_n de_B_done_34 3 rfl ?_
    refine ab_iload de_B_done_35 1 rfl ?_
    refine ab_iconst (v := 0) de_B_done_37 rfl ?_
    refine ab_top (v' := nI (sp_wv 0 t)) (rfl) ?_
    refine ab_cS (as := [.int (nI (sp_en m i t)), .int (nI (x / 16)), .int (nI (sp_wv 0 t))]) (st := []) (ct_B_with l _ (ab_S nr h g rr) hm hi ht (m := m) (i := i) (p := x / 16) (w := 0) hp12 (by first | decide | exact sp_who_lt _ _ _)) mo_B_with ms_B_with ml_B_76 rfl rfl (Nat.le_of_ble_eq_true rfl) de_B_done_38 (fun v_ M_ hK_ hl_ hv_ => ?_)
    obtain ⟨rfl, hm_⟩ := hK_
    have hm_ := hm_.symm
    subst hm_
    change ab_G _ _ _ _ _ _ _ [(5, .int (nI (x % 16))), (4, .int (nI (x / 16))), (0, .ref 16), (1, .int (nI (sp_en m i t))), (2, .int (nI v)), (3, .int (nI x))] [.int (nI (sp_en (sp_clr m (x / 16)) (sp_clr i (x / 16)) t))] (ab_S nr h g rr) _
    refine ab_iload de_B_done_41 0 rfl ?_
    refine ab_iload_n de_B_done_43 3 rfl ?_
    refine ab_iload de_B_done_44 1 rfl ?_
    refine ab_cS (as := [.int (nI (sp_en m i t)), .int (nI (x / 16))]) (st := [.int (nI (x % 16)), .int (nI (sp_en (sp_clr m (x / 16)) (sp_clr i (x / 16)) t))]) (ct_B_on l _ (ab_S nr h g rr) hm hi ht (p := x / 16) hp12 (hd _)) mo_B_on ms_B_on ml_B_82 rfl rfl (Nat.le_of_ble_eq_true rfl) de_B_done_46 (fun v_ M_ hK_ hl_ hv_ => ?_)
    obtain ⟨rfl, hm_⟩ := hK_
    have hm_ := hm_.symm
    subst hm_
    change ab_G _ _ _ _ _ _ _ [(5, .int (nI (x % 16))), (4, .int (nI (x / 16))), (0, .ref 16), (1, .int (nI (sp_en m i t))), (2, .int (nI v)), (3, .int (nI x))] [.int (nI (sp_wv (sp_who m i (x / 16)) t)), .int (nI (x % 16)), .int (nI (sp_en (sp_clr m (x / 16)) (sp_clr i (x / 16)) t))] (ab_S nr h g rr) _
    refine ab_cS (as := [.int (nI (sp_en (sp_clr m (x / 16)) (sp_clr i (x / 16)) t)), .int (nI (x % 16)), .int (nI (sp_wv (sp_who m i (x / 16)) t))]) (st := []) (ct_B_with l _ (ab_S nr h g rr) (sp_clr_lt hm _) (sp_clr_lt hi _) ht (m := sp_clr m (x / 16)) (i := sp_clr i (x / 16)) (p := x % 16) (w := sp_who m i (x / 16)) hx.2.1 (by first | decide | exact sp_who_lt _ _ _)) mo_B_with ms_B_with ml_B_76 rfl rfl (Nat.le_of_ble_eq_true rfl) de_B_done_49 (fun v_ M_ hK_ hl_ hv_ => ?_)
    obtain ⟨rfl, hm_⟩ := hK_
    have hm_ := hm_.symm
    subst hm_
    change ab_G _ _ _ _ _ _ _ [(5, .int (nI (x % 16))), (4, .int (nI (x / 16))), (0, .ref 16), (1, .int (nI (sp_en m i t))), (2, .int (nI v)), (3, .int (nI x))] [.int (nI (sp_en (sp_m1 m i (x / 16) (x % 16)) (sp_i1 m i (x / 16) (x % 16)) t))] (ab_S nr h g rr) _
    refine ab_istore (L' := [(6, .int (nI (sp_en (sp_m1 m i (x / 16) (x % 16)) (sp_i1 m i (x / 16) (x % 16)) t))), (5, .int (nI (x % 16))), (4, .int (nI (x / 16))), (0, .ref 16), (1, .int (nI (sp_en m i t))), (2, .int (nI v)), (3, .int (nI x))]) de_B_done_52 (by decide) rfl ?_
    refine ab_iload_n de_B_done_54 5 rfl ?_
    refine ab_sipush (v := 128) de_B_done_55 rfl ?_
    refine ab_iand de_B_done_58 ?_
    refine ab_if_eq (tgt := 119) de_B_done_59 rfl (fun c_59_2 => ?_) (fun c_59_2 => ?_)
    · refine ab_iload de_B_done_119 0 rfl ?_
      refine ab_cS (as := [.int (nI (sp_en (sp_m1 m i (x / 16) (x % 16)) (sp_i1 m i (x / 16) (x % 16)) t))]) (st := []) (ct_B_turned l _ (ab_S nr h g rr) (m := sp_m1 m i (x / 16) (x % 16)) (i := sp_i1 m i (x / 16) (x % 16)) (sp_m1_lt hm hx.2.1) (sp_i1_lt hi hx.2.1) ht) mo_B_turned ms_B_turned ml_B_79 rfl rfl (Nat.le_of_ble_eq_true rfl) de_B_done_121 (fun v_ M_ hK_ hl_ hv_ => ?_)
      obtain ⟨rfl, hm_⟩ := hK_
      have hm_ := hm_.symm
      subst hm_
      change ab_G _ _ _ _ _ _ _ [(6, .int (nI (sp_en (sp_m1 m i (x / 16) (x % 16)) (sp_i1 m i (x / 16) (x % 16)) t))), (5, .int (nI (x % 16))), (4, .int (nI (x / 16))), (0, .ref 16), (1, .int (nI (sp_en m i t))), (2, .int (nI v)), (3, .int (nI x))] [.int (nI (sp_en (sp_i1 m i (x / 16) (x % 16)) (sp_m1 m i (x / 16) (x % 16)) (1 - t)))] (ab_S nr h g rr) _
      exact ab_ret (v := some (.int (nI (sp_en (sp_i1 m i (x / 16) (x % 16)) (sp_m1 m i (x / 16) (x % 16)) (1 - t))))) de_B_done_124 ⟨_, rfl⟩ ⟨congrArg (fun z => some (Value.int z)) (by rw [sp_d1, sp_d2, if_neg (show ¬ x / 16 = 15 by omega), if_neg (show ¬ x / 16 = 15 by omega), if_neg (show ¬ sp_tk T v m i x = true by rw [sp_tk, (sp_andk v 7 rfl (by decide)).mp c_59_2]; simp)]), rfl⟩
    · refine ab_aload_n de_B_done_62 3 rfl ?_
      refine ab_iload_n de_B_done_63 4 rfl ?_
      refine ab_iload_n de_B_done_64 5 rfl ?_
      refine ab_iload_n de_B_done_65 6 rfl ?_
      refine ab_cV (as := [.int (nI (sp_en m i t)), .int (nI v), .int (nI x)]) (st := []) (ct_B_allows l _ nr h g rr hT hO hm hi ht hv (x := x) hx) mo_B_allows mi_B_allows ml_B_85 rfl (by decide) rfl rfl rfl (Nat.le_of_ble_eq_true rfl) de_B_done_66 (fun v_ M_ hK_ hl_ hv_ => ?_)
      obtain ⟨rfl, hm_⟩ := hK_
      have hm_ := hm_.symm
      subst hm_
      change ab_G _ _ _ _ _ _ _ [(6, .int (nI (sp_en (sp_m1 m i (x / 16) (x % 16)) (sp_i1 m i (x / 16) (x % 16)) t))), (5, .int (nI (x % 16))), (4, .int (nI (x / 16))), (0, .ref 16), (1, .int (nI (sp_en m i t))), (2, .int (nI v)), (3, .int (nI x))] [.int (ab_bz (sp_al T v m i x))] (ab_S nr h g rr) _
      refine ab_if_eq (tgt := 119) de_B_done_69 rfl (fun c_69_3 => ?_) (fun c_69_3 => ?_)
      · refine ab_iload de_B_done_119 0 rfl ?_
        refine ab_cS (as := [.int (nI (sp_en (sp_m1 m i (x / 16) (x % 16)) (sp_i1 m i (x / 16) (x % 16)) t))]) (st := []) (ct_B_turned l _ (ab_S nr h g rr) (m := sp_m1 m i (x / 16) (x % 16)) (i := sp_i1 m i (x / 16) (x % 16)) (sp_m1_lt hm hx.2.1) (sp_i1_lt hi hx.2.1) ht) mo_B_turned ms_B_turned ml_B_79 rfl rfl (Nat.le_of_ble_eq_true rfl) de_B_done_121 (fun v_ M_ hK_ hl_ hv_ => ?_)
        obtain ⟨rfl, hm_⟩ := hK_
        have hm_ := hm_.symm
        subst hm_
        change ab_G _ _ _ _ _ _ _ [(6, .int (nI (sp_en (sp_m1 m i (x / 16) (x % 16)) (sp_i1 m i (x / 16) (x % 16)) t))), (5, .int (nI (x % 16))), (4, .int (nI (x / 16))), (0, .ref 16), (1, .int (nI (sp_en m i t))), (2, .int (nI v)), (3, .int (nI x))] [.int (nI (sp_en (sp_i1 m i (x / 16) (x % 16)) (sp_m1 m i (x / 16) (x % 16)) (1 - t)))] (ab_S nr h g rr) _
        exact ab_ret (v := some (.int (nI (sp_en (sp_i1 m i (x / 16) (x % 16)) (sp_m1 m i (x / 16) (x % 16)) (1 - t))))) de_B_done_124 ⟨_, rfl⟩ ⟨congrArg (fun z => some (Value.int z)) (by rw [sp_d1, sp_d2, if_neg (show ¬ x / 16 = 15 by omega), if_neg (show ¬ x / 16 = 15 by omega), if_neg (show ¬ sp_tk T v m i x = true by rw [sp_tk, (ab_bz0 _).mp c_69_3]; simp)]), rfl⟩
      · refine ab_aload_n de_B_done_72 3 rfl ?_
        refine ab_iload_n de_B_done_73 5 rfl ?_
        refine ab_iload de_B_done_74 2 rfl ?_
        refine ab_iload de_B_done_76 1 rfl ?_
        refine ab_cV (as := [.int (nI v), .int (nI (x / 16)), .int (nI (x % 16))]) (st := []) (ct_B_isStep l _ nr h g rr hT hO (v := v) hv (p := x / 16) (q := x % 16) hp12 hx.2.1) mo_B_isStep mi_B_isStep ml_B_62 rfl (by decide) rfl rfl rfl (Nat.le_of_ble_eq_true rfl) de_B_done_78 (fun v_ M_ hK_ hl_ hv_ => ?_)
        obtain ⟨rfl, hm_⟩ := hK_
        have hm_ := hm_.symm
        subst hm_
        change ab_G _ _ _ _ _ _ _ [(6, .int (nI (sp_en (sp_m1 m i (x / 16) (x % 16)) (sp_i1 m i (x / 16) (x % 16)) t))), (5, .int (nI (x % 16))), (4, .int (nI (x / 16))), (0, .ref 16), (1, .int (nI (sp_en m i t))), (2, .int (nI v)), (3, .int (nI x))] [.int (ab_bz ((sp_st T v (x / 16)).testBit (x % 16)))] (ab_S nr h g rr) _
        refine ab_if_ne (tgt := 119) de_B_done_81 rfl (fun c_81_4 => ?_) (fun c_81_4 => ?_)
        · refine ab_iload de_B_done_119 0 rfl ?_
          refine ab_cS (as := [.int (nI (sp_en (sp_m1 m i (x / 16) (x % 16)) (sp_i1 m i (x / 16) (x % 16)) t))]) (st := []) (ct_B_turned l _ (ab_S nr h g rr) (m := sp_m1 m i (x / 16) (x % 16)) (i := sp_i1 m i (x / 16) (x % 16)) (sp_m1_lt hm hx.2.1) (sp_i1_lt hi hx.2.1) ht) mo_B_turned ms_B_turned ml_B_79 rfl rfl (Nat.le_of_ble_eq_true rfl) de_B_done_121 (fun v_ M_ hK_ hl_ hv_ => ?_)
          obtain ⟨rfl, hm_⟩ := hK_
          have hm_ := hm_.symm
          subst hm_
          change ab_G _ _ _ _ _ _ _ [(6, .int (nI (sp_en (sp_m1 m i (x / 16) (x % 16)) (sp_i1 m i (x / 16) (x % 16)) t))), (5, .int (nI (x % 16))), (4, .int (nI (x / 16))), (0, .ref 16), (1, .int (nI (sp_en m i t))), (2, .int (nI v)), (3, .int (nI x))] [.int (nI (sp_en (sp_i1 m i (x / 16) (x % 16)) (sp_m1 m i (x / 16) (x % 16)) (1 - t)))] (ab_S nr h g rr) _
          exact ab_ret (v := some (.int (nI (sp_en (sp_i1 m i (x / 16) (x % 16)) (sp_m1 m i (x / 16) (x % 16)) (1 - t))))) de_B_done_124 ⟨_, rfl⟩ ⟨congrArg (fun z => some (Value.int z)) (by rw [sp_d1, sp_d2, if_neg (show ¬ x / 16 = 15 by omega), if_neg (show ¬ x / 16 = 15 by omega), if_neg (show ¬ sp_tk T v m i x = true by rw [sp_tk, (ab_bz1 _).mp c_81_4]; simp)]), rfl⟩
        · have hj_ := sp_al_parts hO hi hp12 hx.2.1 ((ab_bz1 _).mp c_69_3) ((ab_bz0 _).mp c_81_4)
          refine ab_aload_n de_B_done_84 3 rfl ?_
          refine ab_iload_n de_B_done_85 4 rfl ?_
          refine ab_iload_n de_B_done_86 5 rfl ?_
          refine ab_iload de_B_done_87 2 rfl ?_
          refine ab_iload de_B_done_89 1 rfl ?_
          refine ab_cV (as := [.int (nI (sp_en m i t)), .int (nI v), .int (nI (x / 16)), .int (nI (x % 16))]) (st := []) (ct_B_jumpedOver l _ nr h g rr hT hO hm hi ht hv (p := x / 16) (q := x % 16) hp12 hx.2.1) mo_B_jumpedOver mi_B_jumpedOver ml_B_66 rfl (by decide) rfl rfl rfl (Nat.le_of_ble_eq_true rfl) de_B_done_91 (fun v_ M_ hK_ hl_ hv_ => ?_)
          obtain ⟨rfl, hm_⟩ := hK_
          have hm_ := hm_.symm
          subst hm_
          change ab_G _ _ _ _ _ _ _ [(6, .int (nI (sp_en (sp_m1 m i (x / 16) (x % 16)) (sp_i1 m i (x / 16) (x % 16)) t))), (5, .int (nI (x % 16))), (4, .int (nI (x / 16))), (0, .ref 16), (1, .int (nI (sp_en m i t))), (2, .int (nI v)), (3, .int (nI x))] [.int (nI (sp_jo T v i (x / 16) (x % 16)))] (ab_S nr h g rr) _
          refine ab_istore (L' := [(7, .int (nI (sp_jo T v i (x / 16) (x % 16)))), (6, .int (nI (sp_en (sp_m1 m i (x / 16) (x % 16)) (sp_i1 m i (x / 16) (x % 16)) t))), (5, .int (nI (x % 16))), (4, .int (nI (x / 16))), (0, .ref 16), (1, .int (nI (sp_en m i t))), (2, .int (nI v)), (3, .int (nI x))]) de_B_done_94 (by decide) rfl ?_
          refine ab_iload de_B_done_96 0 rfl ?_
          refine ab_iload de_B_done_98 0 rfl ?_
          refine ab_ineg de_B_done_100 ?_
          refine ab_iand de_B_done_101 ?_
          refine ab_top (v' := nI (2 ^ sp_lo (sp_jo T v i (x / 16) (x % 16)))) ((sp_lo_ok (sp_jo_lt hi) hj_.2).1) ?_
          refine ab_istore (L' := [(8, .int (nI (2 ^ sp_lo (sp_jo T v i (x / 16) (x % 16))))), (7, .int (nI (sp_jo T v i (x / 16) (x % 16)))), (6, .int (nI (sp_en (sp_m1 m i (x / 16) (x % 16)) (sp_i1 m i (x / 16) (x % 16)) t))), (5, .int (nI (x % 16))), (4, .int (nI (x / 16))), (0, .ref 16), (1, .int (nI (sp_en m i t))), (2, .int (nI v)), (3, .int (nI x))]) de_B_done_102 (by decide) rfl ?_
          refine ab_iload de_B_done_104 2 rfl ?_
          refine ab_iload de_B_done_106 0 rfl ?_
          refine ab_iload de_B_done_108 0 rfl ?_
          refine ab_bipush (v := 12) de_B_done_110 rfl ?_
          refine ab_ishl de_B_done_112 ?_
          refine ab_ior de_B_done_113 ?_
          refine ab_iconst (v := -1) de_B_done_114 rfl ?_
          refine ab_ixor de_B_done_115 ?_
          refine ab_iand de_B_done_116 ?_
          refine ab_top (v' := nI (sp_en (sp_m1 m i (x / 16) (x % 16)) (sp_clr (sp_i1 m i (x / 16) (x % 16)) (sp_lo (sp_jo T v i (x / 16) (x % 16)))) t)) (bo_take (sp_m1_lt hm hx.2.1) (sp_i1_lt hi hx.2.1) ht (sp_lo_ok (sp_jo_lt hi) hj_.2).2.1 (sp_m1_no hm hi hd hx.2.1 hj_.1 hj_.2)) ?_
          refine ab_istore (L' := [(6, .int (nI (sp_en (sp_m1 m i (x / 16) (x % 16)) (sp_clr (sp_i1 m i (x / 16) (x % 16)) (sp_lo (sp_jo T v i (x / 16) (x % 16)))) t))), (8, .int (nI (2 ^ sp_lo (sp_jo T v i (x / 16) (x % 16))))), (7, .int (nI (sp_jo T v i (x / 16) (x % 16)))), (5, .int (nI (x % 16))), (4, .int (nI (x / 16))), (0, .ref 16), (1, .int (nI (sp_en m i t))), (2, .int (nI v)), (3, .int (nI x))]) de_B_done_117 (by decide) rfl ?_
          refine ab_iload de_B_done_119 0 rfl ?_
          refine ab_cS (as := [.int (nI (sp_en (sp_m1 m i (x / 16) (x % 16)) (sp_clr (sp_i1 m i (x / 16) (x % 16)) (sp_lo (sp_jo T v i (x / 16) (x % 16)))) t))]) (st := []) (ct_B_turned l _ (ab_S nr h g rr) (m := sp_m1 m i (x / 16) (x % 16)) (i := sp_clr (sp_i1 m i (x / 16) (x % 16)) (sp_lo (sp_jo T v i (x / 16) (x % 16)))) (sp_m1_lt hm hx.2.1) (sp_clr_lt (sp_i1_lt hi hx.2.1) _) ht) mo_B_turned ms_B_turned ml_B_79 rfl rfl (Nat.le_of_ble_eq_true rfl) de_B_done_121 (fun v_ M_ hK_ hl_ hv_ => ?_)
          obtain ⟨rfl, hm_⟩ := hK_
          have hm_ := hm_.symm
          subst hm_
          change ab_G _ _ _ _ _ _ _ [(6, .int (nI (sp_en (sp_m1 m i (x / 16) (x % 16)) (sp_clr (sp_i1 m i (x / 16) (x % 16)) (sp_lo (sp_jo T v i (x / 16) (x % 16)))) t))), (8, .int (nI (2 ^ sp_lo (sp_jo T v i (x / 16) (x % 16))))), (7, .int (nI (sp_jo T v i (x / 16) (x % 16)))), (5, .int (nI (x % 16))), (4, .int (nI (x / 16))), (0, .ref 16), (1, .int (nI (sp_en m i t))), (2, .int (nI v)), (3, .int (nI x))] [.int (nI (sp_en (sp_clr (sp_i1 m i (x / 16) (x % 16)) (sp_lo (sp_jo T v i (x / 16) (x % 16)))) (sp_m1 m i (x / 16) (x % 16)) (1 - t)))] (ab_S nr h g rr) _
          exact ab_ret (v := some (.int (nI (sp_en (sp_clr (sp_i1 m i (x / 16) (x % 16)) (sp_lo (sp_jo T v i (x / 16) (x % 16)))) (sp_m1 m i (x / 16) (x % 16)) (1 - t))))) de_B_done_124 ⟨_, rfl⟩ ⟨congrArg (fun z => some (Value.int z)) (by rw [sp_d1, sp_d2, if_neg (show ¬ x / 16 = 15 by omega), if_neg (show ¬ x / 16 = 15 by omega), if_pos (show sp_tk T v m i x = true by rw [sp_tk, sp_n1 (fun e => c_59_2 ((sp_andk v 7 rfl (by decide)).mpr e)), (ab_bz1 _).mp c_69_3, (ab_bz0 _).mp c_81_4]; rfl)]), rfl⟩
  · refine ab_iload_n de_B_done_18 3 rfl ?_
    refine ab_iload de_B_done_19 0 rfl ?_
    refine ab_iconst (v := 1) de_B_done_21 rfl ?_
    refine ab_iload_n de_B_done_22 3 rfl ?_
    refine ab_cS (as := [.int (nI (sp_en m i t))]) (st := [.int (1 : Int32), .int (nI (x % 16)), .int (nI (sp_en m i t))]) (ct_B_side l _ (ab_S nr h g rr) hm hi ht) mo_B_side ms_B_side ml_B_52 rfl rfl (Nat.le_of_ble_eq_true rfl) de_B_done_23 (fun v_ M_ hK_ hl_ hv_ => ?_)
    obtain ⟨rfl, hm_⟩ := hK_
    have hm_ := hm_.symm
    subst hm_
    change ab_G _ _ _ _ _ _ _ [(5, .int (nI (x % 16))), (4, .int (nI (x / 16))), (0, .ref 16), (1, .int (nI (sp_en m i t))), (2, .int (nI v)), (3, .int (nI x))] [.int (nI t), .int (1 : Int32), .int (nI (x % 16)), .int (nI (sp_en m i t))] (ab_S nr h g rr) _
    refine ab_iadd de_B_done_26 ?_
    refine ab_top (v' := nI (sp_wv 1 t)) (ab_add 1 t) ?_
    refine ab_cS (as := [.int (nI (sp_en m i t)), .int (nI (x % 16)), .int (nI (sp_wv 1 t))]) (st := []) (ct_B_with l _ (ab_S nr h g rr) hm hi ht (m := m) (i := i) (p := x % 16) (w := 1) hx.2.1 (by first | decide | exact sp_who_lt _ _ _)) mo_B_with ms_B_with ml_B_76 rfl rfl (Nat.le_of_ble_eq_true rfl) de_B_done_27 (fun v_ M_ hK_ hl_ hv_ => ?_)
    obtain ⟨rfl, hm_⟩ := hK_
    have hm_ := hm_.symm
    subst hm_
    change ab_G _ _ _ _ _ _ _ [(5, .int (nI (x % 16))), (4, .int (nI (x / 16))), (0, .ref 16), (1, .int (nI (sp_en m i t))), (2, .int (nI v)), (3, .int (nI x))] [.int (nI (sp_en (sp_set m (x % 16)) (sp_clr i (x % 16)) t))] (ab_S nr h g rr) _
    refine ab_cS (as := [.int (nI (sp_en (sp_set m (x % 16)) (sp_clr i (x % 16)) t))]) (st := []) (ct_B_turned l _ (ab_S nr h g rr) (m := sp_set m (x % 16)) (i := sp_clr i (x % 16)) (sp_set_lt hm hx.2.1) (sp_clr_lt hi _) ht) mo_B_turned ms_B_turned ml_B_79 rfl rfl (Nat.le_of_ble_eq_true rfl) de_B_done_30 (fun v_ M_ hK_ hl_ hv_ => ?_)
    obtain ⟨rfl, hm_⟩ := hK_
    have hm_ := hm_.symm
    subst hm_
    change ab_G _ _ _ _ _ _ _ [(5, .int (nI (x % 16))), (4, .int (nI (x / 16))), (0, .ref 16), (1, .int (nI (sp_en m i t))), (2, .int (nI v)), (3, .int (nI x))] [.int (nI (sp_en (sp_clr i (x % 16)) (sp_set m (x % 16)) (1 - t)))] (ab_S nr h g rr) _
    exact ab_ret (v := some (.int (nI (sp_en (sp_clr i (x % 16)) (sp_set m (x % 16)) (1 - t))))) de_B_done_33 ⟨_, rfl⟩ ⟨congrArg (fun z => some (Value.int z)) (by rw [sp_d1, sp_d2, if_pos (sp_p15 (p := x / 16) (by have := hx.1; omega) c_15_1), if_pos (sp_p15 (p := x / 16) (by have := hx.1; omega) c_15_1)]), rfl⟩
theorem sp_one_shl {q : Nat} (hq : q < 12) : (1 : Int32) <<< (nI q &&& (31 : Int32)) = nI (2 ^ q) := by
  rw [show (1 : Int32) = nI 1 from rfl, show (31 : Int32) = nI 31 from rfl]
  refine (ab_shl 1 (k := q) (by omega)).trans ?_
  rw [Nat.one_shiftLeft]
theorem bo_flip {a q : Nat} (hq : q < 12) : nI a ^^^ ((1 : Int32) <<< (nI q &&& (31 : Int32))) = nI (a ^^^ 2 ^ q) := by rw [sp_one_shl hq, ab_xor]
set_option maxHeartbeats 1000000 in
set_option maxRecDepth 10000 in
theorem ct_B_turnTie (l : Launch) (d : Nat) (nr : Nat) (h : Nat → Nat → Int32) (g : Nat → Nat → Int64) (rr : Nat → Option Nat) {T : Nat → Nat → Nat} (hT : bo_T T h 17) (hO : sp_ok T) {p q k : Nat} (hp : p < 12) (hq : q < 12) (hk : k < 3) (hpq : p ≠ q) : ab_C l am_B_turnTie d 0 0 [.ref 16, .int (nI p), .int (nI q), .int (nI k)] (ab_S nr h g rr) (fun (r_ : Option Value) (M' : ab_Me) => r_ = none ∧ M' = ab_S nr (ab_u2 (ab_u2 h 17 (12 * k + p) (nI (T k p ^^^ 2 ^ q))) 17 (12 * k + q) (nI (T k q ^^^ 2 ^ p))) g rr) := by
  refine ab_C_of (by decide +kernel) rfl (Nat.le_of_ble_eq_true rfl) ?_
  refine ab_aload_n de_B_turnTie_0 0 rfl ?_
  refine ab_get (v := .ref 17) fl_B_9 rfl rfl de_B_turnTie_1 ?_
  refine ab_iload_n de_B_turnTie_4 3 rfl ?_
  refine ab_bipush (v := 12) de_B_turnTie_5 rfl ?_
  refine ab_imul de_B_turnTie_7 ?_
  refine ab_iload_n de_B_turnTie_8 1 rfl ?_
  refine ab_iadd de_B_turnTie_9 ?_
  refine ab_top (v' := nI (12 * k + p)) (by rw [show (12 : Int32) = nI 12 from rfl, ab_mul, ab_add, Nat.mul_comm]) ?_
  refine ab_dup2 de_B_turnTie_10 rfl rfl ?_
  refine ab_iald (v := h 17 (12 * k + p)) rfl (ab_in (by omega) (by decide)) (ab_hv (ab_tn (by omega))) de_B_turnTie_11 ?_
  refine ab_top (v' := nI (T k p)) (hT k p hk hp) ?_
  refine ab_iconst (v := 1) de_B_turnTie_12 rfl ?_
  refine ab_iload_n de_B_turnTie_13 2 rfl ?_
  refine ab_ishl de_B_turnTie_14 ?_
  refine ab_ixor de_B_turnTie_15 ?_
  refine ab_top (v' := nI (T k p ^^^ 2 ^ q)) (bo_flip hq) ?_
  refine ab_iast (x := 17) rfl (ab_in (by omega) (by decide)) de_B_turnTie_16 ?_
  rw [ab_tn (n := 12 * k + p) (by omega)]
  change ab_G _ _ _ _ _ _ _ _ _ (ab_S nr (ab_u2 h 17 (12 * k + p) (nI (T k p ^^^ 2 ^ q))) g rr) _
  refine ab_aload_n de_B_turnTie_17 0 rfl ?_
  refine ab_get (v := .ref 17) fl_B_9 rfl rfl de_B_turnTie_18 ?_
  refine ab_iload_n de_B_turnTie_21 3 rfl ?_
  refine ab_bipush (v := 12) de_B_turnTie_22 rfl ?_
  refine ab_imul de_B_turnTie_24 ?_
  refine ab_iload_n de_B_turnTie_25 2 rfl ?_
  refine ab_iadd de_B_turnTie_26 ?_
  refine ab_top (v' := nI (12 * k + q)) (by rw [show (12 : Int32) = nI 12 from rfl, ab_mul, ab_add, Nat.mul_comm]) ?_
  refine ab_dup2 de_B_turnTie_27 rfl rfl ?_
  refine ab_iald (v := (ab_u2 h 17 (12 * k + p) (nI (T k p ^^^ 2 ^ q))) 17 (12 * k + q)) rfl (ab_in (by omega) (by decide)) (ab_hv (ab_tn (by omega))) de_B_turnTie_28 ?_
  refine ab_top (v' := nI (T k q)) ((ab_u2_ne (by omega)).trans (hT k q hk hq)) ?_
  refine ab_iconst (v := 1) de_B_turnTie_29 rfl ?_
  refine ab_iload_n de_B_turnTie_30 1 rfl ?_
  refine ab_ishl de_B_turnTie_31 ?_
  refine ab_ixor de_B_turnTie_32 ?_
  refine ab_top (v' := nI (T k q ^^^ 2 ^ p)) (bo_flip hp) ?_
  refine ab_iast (x := 17) rfl (ab_in (by omega) (by decide)) de_B_turnTie_33 ?_
  rw [ab_tn (n := 12 * k + q) (by omega)]
  change ab_G _ _ _ _ _ _ _ _ _ (ab_S nr (ab_u2 (ab_u2 h 17 (12 * k + p) (nI (T k p ^^^ 2 ^ q))) 17 (12 * k + q) (nI (T k q ^^^ 2 ^ p))) g rr) _
  exact ab_ret (v := none) de_B_turnTie_34 rfl ⟨rfl, rfl⟩
