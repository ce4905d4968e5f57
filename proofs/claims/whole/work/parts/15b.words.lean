/-! a code by other KINDS; words of letters -/
def sp_wa (w k : Nat) : Nat := [0, 1, 2, 0, 2, 1, 1, 0, 2, 1, 2, 0, 2, 0, 1, 2, 1, 0].getD (3 * w + k) 0
theorem sp_wa_c : ∀ i, i < 18 → ab_wy.getD i 0 = nI ([0, 1, 2, 0, 2, 1, 1, 0, 2, 1, 2, 0, 2, 0, 1, 2, 1, 0].getD i 0) := by decide +kernel
theorem sp_wa_lt : ∀ w, w < 6 → ∀ k, k < 3 → sp_wa w k < 3 := by decide
/-- what the first n KINDS of a CODE become -/
def sp_rn (c w : Nat) : Nat → Nat
  | 0 => c &&& 4032
  | n + 1 => sp_rn c w n ||| (c >>> n &&& 9) <<< sp_wa w n
theorem sp_64 : ∀ a, a < 64 → ∀ b, b < 64 → nI (64 * a + b) &&& (-64 : Int32) = nI ((64 * a + b) &&& 4032) := by decide +kernel
theorem sp_64m {c : Nat} (hc : c < 4096) : nI c &&& (-64 : Int32) = nI (c &&& 4032) := by
  have h := sp_64 (c / 64) (by omega) (c % 64) (by omega)
  rwa [show 64 * (c / 64) + c % 64 = c by omega] at h
theorem sp_and9 (x : Nat) : x &&& 9 ≤ 9 := Nat.and_le_right
theorem sp_rn_lt {c w : Nat} (hc : c < 4096) (hw : w < 6) : ∀ n, n ≤ 3 → sp_rn c w n < 4096
  | 0, _ => Nat.lt_of_le_of_lt Nat.and_le_left hc
  | n + 1, h => by
    have h1 := sp_rn_lt hc hw n (by omega)
    have h2 := sp_wa_lt w hw n (by omega)
    have h3 := sp_and9 (c >>> n)
    refine Nat.or_lt_two_pow (n := 12) h1 ?_
    rw [Nat.shiftLeft_eq]
    have h4 : 2 ^ sp_wa w n ≤ 4 := by
      rcases (by omega : sp_wa w n = 0 ∨ sp_wa w n = 1 ∨ sp_wa w n = 2) with e | e | e <;> rw [e] <;> decide
    have := Nat.mul_le_mul h3 h4
    omega
set_option maxHeartbeats 1000000 in
set_option maxRecDepth 10000 in
theorem lp_W_renamed {n0 : Nat} {xs0 : Nat → Int32} (l : Launch) (d : Nat) (nr : Nat) (h : Nat → Nat → Int32) (g : Nat → Nat → Int64) (rr : Nat → Option Nat) {c w : Nat} (hc : c < 4096) (hw : w < 6) : ∀ (fu_ k : Nat), k ≤ 3 → 3 < k + fu_ → ab_G l (some (n0, xs0)) am_W_renamed (d) 0 0 7 [(0, .int (nI c)), (1, .int (nI w)), (2, .int (nI (sp_rn c w k))), (3, .int (nI k))] [] (ab_S nr h g rr) (fun (r_ : Option Value) (M' : ab_Me) => r_ = some (.int (nI (sp_rn c w 3))) ∧ M' = (ab_S nr h g rr)) := by
  intro fu_
  induction fu_ with
  | zero => intro k  h1 h2; omega
  | succ fu_ ih =>
    intro k  hN_ hn_ 
    refine ab_iload_n de_W_renamed_7 3 rfl ?_
    refine ab_iconst (v := 3) de_W_renamed_8 rfl ?_
    refine ab_icmp_ge (tgt := 41) de_W_renamed_9 rfl (fun c_9_1 => ?_) (fun c_9_1 => ?_)
    · have hk := ab_le_of (n := 3) (by decide) (by omega) rfl c_9_1
      refine ab_iload_n de_W_renamed_41 2 rfl ?_
      exact ab_ret (v := some (.int (nI (sp_rn c w k)))) de_W_renamed_42 ⟨_, rfl⟩ ⟨congrArg (fun z => some (Value.int z)) (by rw [show k = 3 by omega]), rfl⟩
    · have hk := ab_nle_of (n := 3) (by decide) (by omega) rfl c_9_1
      have rn_ := sp_rn_lt hc hw k (by omega)
      have wa_ := sp_wa_lt w hw k hk
      have a9_ := sp_and9 (c >>> k)
      refine ab_iload_n de_W_renamed_12 0 rfl ?_
      refine ab_iload_n de_W_renamed_13 3 rfl ?_
      refine ab_ishr de_W_renamed_14 ?_
      refine ab_top (v' := nI (c >>> k)) (ab_shr (by omega) (by omega)) ?_
      refine ab_bipush (v := 9) de_W_renamed_15 rfl ?_
      refine ab_iand de_W_renamed_17 ?_
      refine ab_top (v' := nI (c >>> k &&& 9)) (ab_and _ 9) ?_
      refine ab_istore (L' := [(4, .int (nI (c >>> k &&& 9))), (0, .int (nI c)), (1, .int (nI w)), (2, .int (nI (sp_rn c w k))), (3, .int (nI k))]) de_W_renamed_18 (by decide) rfl ?_
      refine ab_iload_n de_W_renamed_20 3 rfl ?_
      refine ab_iload de_W_renamed_21 0 rfl ?_
      refine ab_gsW fl_W_306 de_W_renamed_23 ?_
      refine ab_iload_n de_W_renamed_26 2 rfl ?_
      refine ab_iconst (v := 3) de_W_renamed_27 rfl ?_
      refine ab_imul de_W_renamed_28 ?_
      refine ab_top (v' := nI (3 * w)) ((ab_mul w 3).trans (by rw [Nat.mul_comm])) ?_
      refine ab_iload_n de_W_renamed_29 4 rfl ?_
      refine ab_iadd de_W_renamed_30 ?_
      refine ab_top (v' := nI (3 * w + k)) (ab_add _ _) ?_
      refine ab_tld (v := nI (sp_wa w k)) (ab_in (by omega) (by decide)) (by rw [ab_tn (n := 3 * w + k) (by omega)]; exact sp_wa_c _ (by omega)) de_W_renamed_31 ?_
      refine ab_ishl de_W_renamed_32 ?_
      refine ab_top (v' := nI ((c >>> k &&& 9) <<< sp_wa w k)) (ab_shl _ (by omega)) ?_
      refine ab_ior de_W_renamed_33 ?_
      refine ab_top (v' := nI (sp_rn c w (k + 1))) (ab_or _ _) ?_
      refine ab_istore_n (L' := [(2, .int (nI (sp_rn c w (k + 1)))), (4, .int (nI (c >>> k &&& 9))), (0, .int (nI c)), (1, .int (nI w)), (3, .int (nI k))]) de_W_renamed_34 (by decide) rfl ?_
      refine ab_iinc (v := nI (k + 1)) (L' := [(3, .int (nI (k + 1))), (2, .int (nI (sp_rn c w (k + 1)))), (4, .int (nI (c >>> k &&& 9))), (0, .int (nI c)), (1, .int (nI w))]) de_W_renamed_35 4 rfl (by rw [show Int32.ofInt 1 = nI 1 from rfl, ab_add]) (by decide) rfl ?_
      refine ab_goto (tgt := 7) de_W_renamed_38 rfl ?_
      refine ab_sub (L' := [(0, .int (nI c)), (1, .int (nI w)), (2, .int (nI (sp_rn c w (k + 1)))), (3, .int (nI (k + 1)))]) [3, 4, 1, 0] rfl ?_
      exact ih (k + 1) (by omega) (by omega)
set_option maxHeartbeats 1000000 in
set_option maxRecDepth 10000 in
theorem ct_W_renamed {n0 : Nat} {xs0 : Nat → Int32} (l : Launch) (d : Nat) (nr : Nat) (h : Nat → Nat → Int32) (g : Nat → Nat → Int64) (rr : Nat → Option Nat) {c w : Nat} (hc : c < 4096) (hw : w < 6) : ab_CX l (some (n0, xs0)) am_W_renamed d 0 0 [.int (nI c), .int (nI w)] (ab_S nr h g rr) (fun (r_ : Option Value) (M' : ab_Me) => r_ = some (.int (nI (sp_rn c w 3))) ∧ M' = (ab_S nr h g rr)) := by
  refine ab_CX_of (by decide +kernel) rfl (Nat.le_of_ble_eq_true rfl) ?_
  refine ab_iload_n de_W_renamed_0 0 rfl ?_
  refine ab_bipush (v := -64) de_W_renamed_1 rfl ?_
  refine ab_iand de_W_renamed_3 ?_
  refine ab_top (v' := nI (sp_rn c w 0)) (sp_64m hc) ?_
  refine ab_istore_n (L' := [(2, .int (nI (sp_rn c w 0))), (0, .int (nI c)), (1, .int (nI w))]) de_W_renamed_4 (by decide) rfl ?_
  refine ab_iconst (v := 0) de_W_renamed_5 rfl ?_
  refine ab_istore_n (L' := [(3, .int (0 : Int32)), (2, .int (nI (sp_rn c w 0))), (0, .int (nI c)), (1, .int (nI w))]) de_W_renamed_6 (by decide) rfl ?_
  refine ab_sub (L' := [(0, .int (nI c)), (1, .int (nI w)), (2, .int (nI (sp_rn c w 0))), (3, .int (nI 0))]) [2, 3, 1, 0] rfl ?_
  exact lp_W_renamed l d nr h g rr hc hw 4 0 (by omega) (by omega)
/-- SAME -/
def sp_sa6 (c e : Nat) : Int32 := if sp_ft (fun w => decide (sp_rn c w 3 = e)) 6 < 6 then nI (sp_ft (fun w => decide (sp_rn c w 3 = e)) 6) else -1
theorem sp_18 : (18 : Int32) / 3 = nI 6 := by decide
set_option maxHeartbeats 1000000 in
set_option maxRecDepth 10000 in
theorem lp_W_same {n0 : Nat} {xs0 : Nat → Int32} (l : Launch) (d : Nat) (nr : Nat) (h : Nat → Nat → Int32) (g : Nat → Nat → Int64) (rr : Nat → Option Nat) {c e : Nat} (hc : c < 4096) (he : e < 4096) : ∀ (fu_ w : Nat), w ≤ 6 → 6 < w + fu_ → (∀ j, j < w → decide (sp_rn c j 3 = e) = false) → ab_G l (some (n0, xs0)) am_W_same (d + 2) 0 0 24 [(0, .ref 0), (1, .int (nI c)), (2, .int (nI e)), (3, .int (nI w))] [] (ab_S nr h g rr) (fun (r_ : Option Value) (M' : ab_Me) => r_ = some (.int (sp_sa6 c e)) ∧ M' = (ab_S nr h g rr)) := by
  intro fu_
  induction fu_ with
  | zero => intro w  h1 h2; omega
  | succ fu_ ih =>
    intro w  hN_ hn_ hf0_
    refine ab_iload_n de_W_same_24 3 rfl ?_
    refine ab_gsW fl_W_306 de_W_same_25 ?_
    refine ab_tln de_W_same_28 ?_
    refine ab_iconst (v := 3) de_W_same_29 rfl ?_
    refine ab_idiv de_W_same_30 (by decide) ?_
    refine ab_top (v' := nI 6) (sp_18) ?_
    refine ab_icmp_ge (tgt := 51) de_W_same_31 rfl (fun c_31_1 => ?_) (fun c_31_1 => ?_)
    · have hw := ab_le_of (n := 6) (by decide) (by omega) rfl c_31_1
      refine ab_iconst (v := -1) de_W_same_51 rfl ?_
      exact ab_ret (v := some (.int (-1 : Int32))) de_W_same_52 ⟨_, rfl⟩ ⟨congrArg (fun z => some (Value.int z)) (by unfold sp_sa6; rw [sp_ft_no 6 (fun j hj => hf0_ j (by omega)), if_neg (by decide)]), rfl⟩
    · have hw := ab_nle_of (n := 6) (by decide) (by omega) rfl c_31_1
      refine ab_iload_n de_W_same_34 1 rfl ?_
      refine ab_iload_n de_W_same_35 3 rfl ?_
      refine ab_cSX (as := [.int (nI c), .int (nI w)]) (st := []) (ct_W_renamed l _ nr h g rr (c := c) (w := w) (by omega) (by omega)) mo_W_renamed ms_W_renamed ml_W_309 rfl rfl (Nat.le_of_ble_eq_true rfl) de_W_same_36 (fun v_ M_ hK_ hl_ hv_ => ?_)
      obtain ⟨rfl, hm_⟩ := hK_
      have hm_ := hm_.symm
      subst hm_
      change ab_G _ _ _ _ _ _ _ [(0, .ref 0), (1, .int (nI c)), (2, .int (nI e)), (3, .int (nI w))] [.int (nI (sp_rn c w 3))] (ab_S nr h g rr) _
      refine ab_iload_n de_W_same_39 2 rfl ?_
      refine ab_icmp_ne (tgt := 45) de_W_same_40 rfl (fun c_40_2 => ?_) (fun c_40_2 => ?_)
      · refine ab_iinc (v := nI (w + 1)) (L' := [(3, .int (nI (w + 1))), (0, .ref 0), (1, .int (nI c)), (2, .int (nI e))]) de_W_same_45 3 rfl (by rw [show Int32.ofInt 1 = nI 1 from rfl, ab_add]) (by decide) rfl ?_
        refine ab_goto (tgt := 24) de_W_same_48 rfl ?_
        refine ab_sub (L' := [(0, .ref 0), (1, .int (nI c)), (2, .int (nI e)), (3, .int (nI (w + 1)))]) [1, 2, 3, 0] rfl ?_
        exact ih (w + 1)  (by omega) (by omega) (fun j hj => by
          by_cases q : j = w
          · subst q; exact decide_eq_false (fun z => c_40_2 (by rw [z]))
          · exact hf0_ j (by omega))
      · refine ab_iload_n de_W_same_43 3 rfl ?_
        exact ab_ret (v := some (.int (nI w))) de_W_same_44 ⟨_, rfl⟩ ⟨congrArg (fun z => some (Value.int z)) (by unfold sp_sa6; rw [sp_ft_at (f := fun w => decide (sp_rn c w 3 = e)) (k := w) (decide_eq_true ((ab_inj (by have := sp_rn_lt hc hw 3 (by decide); omega) (by omega)).mp c_40_2)) hf0_ 6 hw, if_pos hw]), rfl⟩
theorem ab_wk {l : Launch} {X : Option (Nat × (Nat → Int32))} {y : ab_M} {d kc ks pc : Nat} {L : List (Nat × Value)} {st : List Value} {M : ab_Me} {K K' : Option Value → ab_Me → Prop} (h : ∀ v M', K v M' → K' v M') (k : ab_G l X y d kc ks pc L st M K) : ab_G l X y d kc ks pc L st M K' := by
  intro p e R s m args below meth c E D A H locs cells slots ls Q C hR hS hL
  exact k p e R s m args below meth c E D A H locs cells slots ls Q ⟨C.1, C.2.1, C.2.2.1, C.2.2.2.1, C.2.2.2.2.1, C.2.2.2.2.2.1, C.2.2.2.2.2.2.1, fun E' M' H' locs' ls' pc' v h1 h2 h3 h4 h5 h6 => C.2.2.2.2.2.2.2 E' M' H' locs' ls' pc' v h1 (h v M' h2) h3 h4 h5 h6⟩ hR hS hL
def fx_W_same (nr : Nat) (h : Nat → Nat → Int32) (g : Nat → Nat → Int64) (rr : Nat → Option Nat) (x y : Int32) : Option Value × ab_Me :=
  if (ab_bz (sp_cd x)) = 0 then (some (.int (-11 : Int32)), (ab_S nr (ab_u2 h 28 1 (h 28 1 + 1)) g rr))
  else if (ab_bz (sp_cd y)) = 0 then (some (.int (-11 : Int32)), (ab_S nr (ab_u2 h 28 1 (h 28 1 + 1)) g rr))
  else (some (.int (sp_sa6 x.toNatClampNeg y.toNatClampNeg)), (ab_S nr h g rr))
set_option maxHeartbeats 1000000 in
set_option maxRecDepth 10000 in
theorem ct_W_same {n0 : Nat} {xs0 : Nat → Int32} (l : Launch) (d : Nat) (nr : Nat) (h : Nat → Nat → Int32) (g : Nat → Nat → Int64) (rr : Nat → Option Nat) (x y : Int32) : ab_CX l (some (n0, xs0)) am_W_same (d + 2) 0 0 [.ref 0, .int x, .int y] (ab_S nr h g rr) (fun r_ M' => (r_, M') = fx_W_same nr h g rr x y) := by
  refine ab_CX_of (by decide +kernel) rfl (Nat.le_of_ble_eq_true rfl) ?_
  refine ab_iload_n de_W_same_0 1 rfl ?_
  refine ab_cS (as := [.int x]) (st := []) (ct_W_isCode l _ (ab_S nr h g rr) (x)) mo_W_isCode ms_W_isCode ml_W_168 rfl rfl (Nat.le_of_ble_eq_true rfl) de_W_same_1 (fun v_ M_ hK_ hl_ hv_ => ?_)
  obtain ⟨rfl, hm_⟩ := hK_
  have hm_ := hm_.symm
  subst hm_
  change ab_G _ _ _ _ _ _ _ [(0, .ref 0), (1, .int x), (2, .int y)] [.int (ab_bz (sp_cd x))] (ab_S nr h g rr) _
  refine ab_if_eq (tgt := 14) de_W_same_4 rfl (fun c_4_1 => ?_) (fun c_4_1 => ?_)
  · refine ab_aload_n de_W_same_14 0 rfl ?_
    refine ab_iconst (v := -1) de_W_same_15 rfl ?_
    refine ab_bipush (v := -11) de_W_same_16 rfl ?_
    refine ab_cV (as := [.int (-1 : Int32), .int (-11 : Int32)]) (st := []) (ct_W_refuseTold l _ nr h g rr (r := (-1 : Int32)) (k := 1) (by decide) (by decide) ((-11 : Int32))) mo_W_refuseTold mi_W_refuseTold ml_W_199 rfl (by decide) rfl rfl rfl (Nat.le_of_ble_eq_true rfl) de_W_same_18 (fun v_ M_ hK_ hl_ hv_ => ?_)
    obtain ⟨rfl, hm_⟩ := hK_
    have hm_ := hm_.symm
    subst hm_
    change ab_G _ _ _ _ _ _ _ [(0, .ref 0), (1, .int x), (2, .int y)] [.int (-11 : Int32)] (ab_S nr (ab_u2 h 28 1 (h 28 1 + 1)) g rr) _
    exact ab_ret (v := some (.int (-11 : Int32))) de_W_same_21 ⟨_, rfl⟩ (by unfold fx_W_same; rw [if_pos c_4_1])
  · obtain ⟨xn, hxn, rfl⟩ := sp_cd_n c_4_1
    refine ab_iload_n de_W_same_7 2 rfl ?_
    refine ab_cS (as := [.int y]) (st := []) (ct_W_isCode l _ (ab_S nr h g rr) (y)) mo_W_isCode ms_W_isCode ml_W_168 rfl rfl (Nat.le_of_ble_eq_true rfl) de_W_same_8 (fun v_ M_ hK_ hl_ hv_ => ?_)
    obtain ⟨rfl, hm_⟩ := hK_
    have hm_ := hm_.symm
    subst hm_
    change ab_G _ _ _ _ _ _ _ [(0, .ref 0), (1, .int (nI xn)), (2, .int y)] [.int (ab_bz (sp_cd y))] (ab_S nr h g rr) _
    refine ab_if_ne (tgt := 22) de_W_same_11 rfl (fun c_11_2 => ?_) (fun c_11_2 => ?_)
    · obtain ⟨yn, hyn, rfl⟩ := sp_cd_n c_11_2
      refine ab_iconst (v := 0) de_W_same_22 rfl ?_
      refine ab_istore_n (L' := [(3, .int (0 : Int32)), (0, .ref 0), (1, .int (nI xn)), (2, .int (nI yn))]) de_W_same_23 (by decide) rfl ?_
      refine ab_sub (L' := [(0, .ref 0), (1, .int (nI xn)), (2, .int (nI yn)), (3, .int (nI 0))]) [1, 2, 3, 0] rfl ?_
      have z_ := lp_W_same (n0 := n0) (xs0 := xs0) l d nr h g rr (c := xn) (e := yn) (by omega) (by omega) 7 0 (by omega) (by omega) (fun j hj => absurd hj (Nat.not_lt_zero j))
      refine ab_wk ?_ z_
      intro v_ M_ hK_
      obtain ⟨rfl, rfl⟩ := hK_
      unfold fx_W_same
      simp only [ab_tn (show xn < 2 ^ 31 by omega), ab_tn (show yn < 2 ^ 31 by omega)]
      rw [if_neg c_4_1, if_neg c_11_2]
    · refine ab_aload_n de_W_same_14 0 rfl ?_
      refine ab_iconst (v := -1) de_W_same_15 rfl ?_
      refine ab_bipush (v := -11) de_W_same_16 rfl ?_
      refine ab_cV (as := [.int (-1 : Int32), .int (-11 : Int32)]) (st := []) (ct_W_refuseTold l _ nr h g rr (r := (-1 : Int32)) (k := 1) (by decide) (by decide) ((-11 : Int32))) mo_W_refuseTold mi_W_refuseTold ml_W_199 rfl (by decide) rfl rfl rfl (Nat.le_of_ble_eq_true rfl) de_W_same_18 (fun v_ M_ hK_ hl_ hv_ => ?_)
      obtain ⟨rfl, hm_⟩ := hK_
      have hm_ := hm_.symm
      subst hm_
      change ab_G _ _ _ _ _ _ _ [(0, .ref 0), (1, .int (nI xn)), (2, .int y)] [.int (-11 : Int32)] (ab_S nr (ab_u2 h 28 1 (h 28 1 + 1)) g rr) _
      exact ab_ret (v := some (.int (-11 : Int32))) de_W_same_21 ⟨_, rfl⟩ (by unfold fx_W_same; try simp only [ab_tn (show xn < 2 ^ 31 by omega)]; rw [if_neg c_4_1, if_pos c_11_2])
def sp_gnf (ws at_ : Nat) (x : Int32) (w : Nat) : Nat := if ws.testBit w = true ∧ nI (sp_wb (8 * w + at_)) = x then 2 ^ w else 0
/-- those of some words that have the letter at a place -/
def sp_gn (ws at_ : Nat) (x : Int32) : Nat := if at_ < 8 then sp_or (sp_gnf ws at_ x) 13 else 0
def sp_wwf (ws n w : Nat) : Bool := ws.testBit w && (decide (8 ≤ n) || decide (sp_wb (8 * w + n) = 46))
/-- the bits of the PART among some words that is so long -/
def sp_wwb (w : Nat) : Nat := if w < 13 then (if w ≤ 9 then 2 ^ w else (w - 9) * 1024) else 0
def sp_ww (ws n : Nat) : Nat := sp_wwb (sp_ft (sp_wwf ws n) 13)
theorem sp_gnf_lt (ws at_ : Nat) (x : Int32) {w : Nat} (hw : w < 13) : sp_gnf ws at_ x w < 2 ^ 13 := by
  unfold sp_gnf
  split
  · exact Nat.pow_lt_pow_right (by decide) hw
  · decide
theorem sp_gn_lt (ws at_ : Nat) (x : Int32) : sp_gn ws at_ x < 8192 := by
  unfold sp_gn
  split
  · exact sp_or_lt (w := 13) (fun j hj => sp_gnf_lt ws at_ x hj)
  · decide
theorem sp_wwb_lt : ∀ w, w ≤ 13 → sp_wwb w < 4096 := by decide
theorem sp_ww_lt (ws n : Nat) : sp_ww ws n < 4096 := sp_wwb_lt _ (sp_ft_le _ 13)
set_option maxHeartbeats 1000000 in
set_option maxRecDepth 10000 in
theorem lp_R_goingOn {n0 : Nat} {xs0 : Nat → Int32} (l : Launch) (d : Nat) (nr : Nat) (h : Nat → Nat → Int32) (g : Nat → Nat → Int64) (rr : Nat → Option Nat) {ws at_ : Nat} (hws : ws < 8192) (hat : at_ < 100) (x : Int32) (hat8 : at_ < 8) : ∀ (fu_ w : Nat), w ≤ 13 → 13 < w + fu_ → ab_G l (some (n0, xs0)) am_R_goingOn (d + 5) 0 0 5 [(0, .int (nI ws)), (1, .int (nI at_)), (2, .int x), (3, .int (nI (sp_or (sp_gnf ws at_ x) w))), (4, .int (nI w))] [] (ab_S nr h g rr) (fun (r_ : Option Value) (M' : ab_Me) => r_ = some (.int (nI (sp_gn ws at_ x))) ∧ M' = (ab_S nr h g rr)) := by
  intro fu_
  induction fu_ with
  | zero => intro w  h1 h2; omega
  | succ fu_ ih =>
    intro w  hN_ hn_ 
    refine ab_iload de_R_goingOn_5 4 rfl ?_
    refine ab_bipush (v := 13) de_R_goingOn_7 rfl ?_
    refine ab_icmp_ge (tgt := 56) de_R_goingOn_9 rfl (fun c_9_1 => ?_) (fun c_9_1 => ?_)
    · have hw := ab_le_of (n := 13) (by decide) (by omega) rfl c_9_1
      refine ab_iload_n de_R_goingOn_56 3 rfl ?_
      exact ab_ret (v := some (.int (nI (sp_or (sp_gnf ws at_ x) w)))) de_R_goingOn_57 ⟨_, rfl⟩ ⟨congrArg (fun z => some (Value.int z)) (by unfold sp_gn; rw [if_pos hat8, show w = 13 by omega]), rfl⟩
    · have hw := ab_nle_of (n := 13) (by decide) (by omega) rfl c_9_1
      refine ab_iload_n de_R_goingOn_12 1 rfl ?_
      refine ab_bipush (v := 8) de_R_goingOn_13 rfl ?_
      refine ab_icmp_ge (tgt := 56) de_R_goingOn_15 rfl (fun c_15_2 => ?_) (fun c_15_2 => ?_)
      · refine ab_iload_n de_R_goingOn_56 3 rfl ?_
        exact ab_ret (v := some (.int (nI (sp_or (sp_gnf ws at_ x) w)))) de_R_goingOn_57 ⟨_, rfl⟩ (by exact absurd c_15_2 (fun z_ => absurd ((ab_le (a := 8) (by decide) (by omega)).mp z_) (by omega)))
      · refine ab_iload_n de_R_goingOn_18 0 rfl ?_
        refine ab_iload de_R_goingOn_19 4 rfl ?_
        refine ab_ishr de_R_goingOn_21 ?_
        refine ab_iconst (v := 1) de_R_goingOn_22 rfl ?_
        refine ab_iand de_R_goingOn_23 ?_
        refine ab_top (v' := nI (ws.testBit w).toNat) (sp_bitne ws w (by omega) (by omega)) ?_
        refine ab_if_eq (tgt := 50) de_R_goingOn_24 rfl (fun c_24_3 => ?_) (fun c_24_3 => ?_)
        · refine ab_iinc (v := nI (w + 1)) (L' := [(4, .int (nI (w + 1))), (0, .int (nI ws)), (1, .int (nI at_)), (2, .int x), (3, .int (nI (sp_or (sp_gnf ws at_ x) w)))]) de_R_goingOn_50 4 rfl (by rw [show Int32.ofInt 1 = nI 1 from rfl, ab_add]) (by decide) rfl ?_
          refine ab_goto (tgt := 5) de_R_goingOn_53 rfl ?_
          refine ab_sub (L' := [(0, .int (nI ws)), (1, .int (nI at_)), (2, .int x), (3, .int (nI (sp_or (sp_gnf ws at_ x) w))), (4, .int (nI (w + 1)))]) [1, 2, 3, 4, 0] rfl ?_
          have e_ : sp_or (sp_gnf ws at_ x) (w + 1) = sp_or (sp_gnf ws at_ x) w := by
            rw [sp_or, show sp_gnf ws at_ x w = 0 from if_neg (fun z_ => by rw [(sp_b0 _).mp c_24_3] at z_; cases z_.1), Nat.or_zero]
          have z_ := ih (w + 1) (by omega) (by omega)
          rw [e_] at z_
          exact z_
        · refine ab_lds rfl de_R_goingOn_27 ?_
          refine ab_bipush (v := 8) de_R_goingOn_29 rfl ?_
          refine ab_iload de_R_goingOn_31 4 rfl ?_
          refine ab_imul de_R_goingOn_33 ?_
          refine ab_top (v' := nI (8 * w)) (ab_mul 8 w) ?_
          refine ab_iload_n de_R_goingOn_34 1 rfl ?_
          refine ab_iadd de_R_goingOn_35 ?_
          refine ab_top (v' := nI (8 * w + at_)) (ab_add _ _) ?_
          refine ab_cVF (as := [.int (nI (8 * w + at_))]) (st := []) (ct_S_charAt l _ (ab_S nr h g rr) (i := 8 * w + at_) (by omega)) mo_S_charAt mi_S_charAt ml_R_57 rfl rfl rfl (Nat.le_of_ble_eq_true rfl) de_R_goingOn_36 (fun v_ M_ hK_ hl_ hv_ => ?_)
          obtain ⟨rfl, hm_⟩ := hK_
          have hm_ := hm_.symm
          subst hm_
          change ab_G _ _ _ _ _ _ _ [(0, .int (nI ws)), (1, .int (nI at_)), (2, .int x), (3, .int (nI (sp_or (sp_gnf ws at_ x) w))), (4, .int (nI w))] [.int (nI (sp_wb (8 * w + at_)))] (ab_S nr h g rr) _
          refine ab_iload_n de_R_goingOn_39 2 rfl ?_
          refine ab_icmp_ne (tgt := 50) de_R_goingOn_40 rfl (fun c_40_4 => ?_) (fun c_40_4 => ?_)
          · refine ab_iinc (v := nI (w + 1)) (L' := [(4, .int (nI (w + 1))), (0, .int (nI ws)), (1, .int (nI at_)), (2, .int x), (3, .int (nI (sp_or (sp_gnf ws at_ x) w)))]) de_R_goingOn_50 4 rfl (by rw [show Int32.ofInt 1 = nI 1 from rfl, ab_add]) (by decide) rfl ?_
            refine ab_goto (tgt := 5) de_R_goingOn_53 rfl ?_
            refine ab_sub (L' := [(0, .int (nI ws)), (1, .int (nI at_)), (2, .int x), (3, .int (nI (sp_or (sp_gnf ws at_ x) w))), (4, .int (nI (w + 1)))]) [1, 2, 3, 4, 0] rfl ?_
            have e_ : sp_or (sp_gnf ws at_ x) (w + 1) = sp_or (sp_gnf ws at_ x) w := by
              rw [sp_or, show sp_gnf ws at_ x w = 0 from if_neg (fun z_ => c_40_4 z_.2), Nat.or_zero]
            have z_ := ih (w + 1) (by omega) (by omega)
            rw [e_] at z_
            exact z_
          · refine ab_iload_n de_R_goingOn_43 3 rfl ?_
            refine ab_iconst (v := 1) de_R_goingOn_44 rfl ?_
            refine ab_iload de_R_goingOn_45 4 rfl ?_
            refine ab_ishl de_R_goingOn_47 ?_
            refine ab_top (v' := nI (2 ^ w)) ((ab_shl 1 (by omega)).trans (by rw [Nat.one_shiftLeft])) ?_
            refine ab_ior de_R_goingOn_48 ?_
            refine ab_top (v' := nI (sp_or (sp_gnf ws at_ x) (w + 1))) ((ab_or _ _).trans (by rw [sp_or, show sp_gnf ws at_ x w = 2 ^ w from if_pos ⟨ts_f c_24_3, c_40_4⟩])) ?_
            refine ab_istore_n (L' := [(3, .int (nI (sp_or (sp_gnf ws at_ x) (w + 1)))), (0, .int (nI ws)), (1, .int (nI at_)), (2, .int x), (4, .int (nI w))]) de_R_goingOn_49 (by decide) rfl ?_
            refine ab_iinc (v := nI (w + 1)) (L' := [(4, .int (nI (w + 1))), (3, .int (nI (sp_or (sp_gnf ws at_ x) (w + 1)))), (0, .int (nI ws)), (1, .int (nI at_)), (2, .int x)]) de_R_goingOn_50 4 rfl (by rw [show Int32.ofInt 1 = nI 1 from rfl, ab_add]) (by decide) rfl ?_
            refine ab_goto (tgt := 5) de_R_goingOn_53 rfl ?_
            refine ab_sub (L' := [(0, .int (nI ws)), (1, .int (nI at_)), (2, .int x), (3, .int (nI (sp_or (sp_gnf ws at_ x) (w + 1)))), (4, .int (nI (w + 1)))]) [2, 3, 4, 1, 0] rfl ?_
            exact ih (w + 1) (by omega) (by omega)
set_option maxHeartbeats 1000000 in
set_option maxRecDepth 10000 in
theorem ct_R_goingOn_a {n0 : Nat} {xs0 : Nat → Int32} (l : Launch) (d : Nat) (nr : Nat) (h : Nat → Nat → Int32) (g : Nat → Nat → Int64) (rr : Nat → Option Nat) {ws at_ : Nat} (hws : ws < 8192) (hat : at_ < 100) (x : Int32) (hat8 : at_ < 8) : ab_CX l (some (n0, xs0)) am_R_goingOn (d + 5) 0 0 [.int (nI ws), .int (nI at_), .int x] (ab_S nr h g rr) (fun (r_ : Option Value) (M' : ab_Me) => r_ = some (.int (nI (sp_gn ws at_ x))) ∧ M' = (ab_S nr h g rr)) := by
  refine ab_CX_of (by decide +kernel) rfl (Nat.le_of_ble_eq_true rfl) ?_
  refine ab_iconst (v := 0) de_R_goingOn_0 rfl ?_
  refine ab_istore_n (L' := [(3, .int (0 : Int32)), (0, .int (nI ws)), (1, .int (nI at_)), (2, .int x)]) de_R_goingOn_1 (by decide) rfl ?_
  refine ab_iconst (v := 0) de_R_goingOn_2 rfl ?_
  refine ab_istore (L' := [(4, .int (0 : Int32)), (3, .int (0 : Int32)), (0, .int (nI ws)), (1, .int (nI at_)), (2, .int x)]) de_R_goingOn_3 (by decide) rfl ?_
  refine ab_sub (L' := [(0, .int (nI ws)), (1, .int (nI at_)), (2, .int x), (3, .int (nI (sp_or (sp_gnf ws at_ x) 0))), (4, .int (nI 0))]) [2, 3, 4, 1, 0] rfl ?_
  exact lp_R_goingOn l d nr h g rr hws hat x hat8 14 0 (by omega) (by omega)
set_option maxHeartbeats 1000000 in
set_option maxRecDepth 10000 in
theorem ct_R_goingOn_b {n0 : Nat} {xs0 : Nat → Int32} (l : Launch) (d : Nat) (nr : Nat) (h : Nat → Nat → Int32) (g : Nat → Nat → Int64) (rr : Nat → Option Nat) {ws at_ : Nat} (hws : ws < 8192) (hat : at_ < 100) (x : Int32) (hat8 : 8 ≤ at_) : ab_CX l (some (n0, xs0)) am_R_goingOn (d + 5) 0 0 [.int (nI ws), .int (nI at_), .int x] (ab_S nr h g rr) (fun (r_ : Option Value) (M' : ab_Me) => r_ = some (.int (nI (sp_gn ws at_ x))) ∧ M' = (ab_S nr h g rr)) := by
  refine ab_CX_of (by decide +kernel) rfl (Nat.le_of_ble_eq_true rfl) ?_
  refine ab_iconst (v := 0) de_R_goingOn_0 rfl ?_
  refine ab_istore_n (L' := [(3, .int (0 : Int32)), (0, .int (nI ws)), (1, .int (nI at_)), (2, .int x)]) de_R_goingOn_1 (by decide) rfl ?_
  refine ab_iconst (v := 0) de_R_goingOn_2 rfl ?_
  refine ab_istore (L' := [(4, .int (0 : Int32)), (3, .int (0 : Int32)), (0, .int (nI ws)), (1, .int (nI at_)), (2, .int x)]) de_R_goingOn_3 (by decide) rfl ?_
  refine ab_iload de_R_goingOn_5 0 rfl ?_
  refine ab_bipush (v := 13) de_R_goingOn_7 rfl ?_
  refine ab_icmp_ge (tgt := 56) de_R_goingOn_9 rfl (fun c_9_1 => ?_) (fun c_9_1 => ?_)
  · exact absurd c_9_1 (by decide)
  · refine ab_iload_n de_R_goingOn_12 3 rfl ?_
    refine ab_bipush (v := 8) de_R_goingOn_13 rfl ?_
    refine ab_icmp_ge (tgt := 56) de_R_goingOn_15 rfl (fun c_15_2 => ?_) (fun c_15_2 => ?_)
    · refine ab_iload_n de_R_goingOn_56 1 rfl ?_
      exact ab_ret (v := some (.int (0 : Int32))) de_R_goingOn_57 ⟨_, rfl⟩ ⟨congrArg (fun z => some (Value.int z)) (by unfold sp_gn; rw [if_neg (by omega)]; rfl), rfl⟩
    · exact absurd ((ab_le (a := 8) (by decide) (by omega)).mpr hat8) c_15_2
theorem ct_R_goingOn {n0 : Nat} {xs0 : Nat → Int32} (l : Launch) (d : Nat) (nr : Nat) (h : Nat → Nat → Int32) (g : Nat → Nat → Int64) (rr : Nat → Option Nat) {ws at_ : Nat} (hws : ws < 8192) (hat : at_ < 100) (x : Int32) : ab_CX l (some (n0, xs0)) am_R_goingOn (d + 5) 0 0 [.int (nI ws), .int (nI at_), .int x] (ab_S nr h g rr) (fun (r_ : Option Value) (M' : ab_Me) => r_ = some (.int (nI (sp_gn ws at_ x))) ∧ M' = (ab_S nr h g rr)) := by
  by_cases h8 : at_ < 8
  · exact ct_R_goingOn_a l d nr h g rr hws hat x h8
  · exact ct_R_goingOn_b l d nr h g rr hws hat x (by omega)
set_option maxHeartbeats 1000000 in
set_option maxRecDepth 10000 in
theorem lp_R_wholeWord {n0 : Nat} {xs0 : Nat → Int32} (l : Launch) (d : Nat) (nr : Nat) (h : Nat → Nat → Int32) (g : Nat → Nat → Int64) (rr : Nat → Option Nat) {ws n : Nat} (hws : ws < 8192) (hn : n < 100) : ∀ (fu_ w : Nat), w ≤ 13 → 13 < w + fu_ → (∀ j, j < w → sp_wwf ws n j = false) → ab_G l (some (n0, xs0)) am_R_wholeWord (d + 5) 0 0 2 [(0, .int (nI ws)), (1, .int (nI n)), (2, .int (nI w))] [] (ab_S nr h g rr) (fun (r_ : Option Value) (M' : ab_Me) => r_ = some (.int (nI (sp_ww ws n))) ∧ M' = (ab_S nr h g rr)) := by
  intro fu_
  induction fu_ with
  | zero => intro w  h1 h2; omega
  | succ fu_ ih =>
    intro w  hN_ hn_ hf0_
    refine ab_iload_n de_R_wholeWord_2 2 rfl ?_
    refine ab_bipush (v := 13) de_R_wholeWord_3 rfl ?_
    refine ab_icmp_ge (tgt := 74) de_R_wholeWord_5 rfl (fun c_5_1 => ?_) (fun c_5_1 => ?_)
    · have hw := ab_le_of (n := 13) (by decide) (by omega) rfl c_5_1
      refine ab_iconst (v := 0) de_R_wholeWord_74 rfl ?_
      exact ab_ret (v := some (.int (0 : Int32))) de_R_wholeWord_75 ⟨_, rfl⟩ ⟨congrArg (fun z => some (Value.int z)) (by unfold sp_ww; rw [sp_ft_no 13 (fun j hj => hf0_ j (by omega))]; rfl), rfl⟩
    · have hw := ab_nle_of (n := 13) (by decide) (by omega) rfl c_5_1
      refine ab_iload_n de_R_wholeWord_8 1 rfl ?_
      refine ab_bipush (v := 8) de_R_wholeWord_9 rfl ?_
      refine ab_icmp_ge (tgt := 30) de_R_wholeWord_11 rfl (fun c_11_2 => ?_) (fun c_11_2 => ?_)
      · refine ab_iconst (v := 1) de_R_wholeWord_30 rfl ?_
        refine ab_goto (tgt := 35) de_R_wholeWord_31 rfl ?_
        refine ab_istore_n (L' := [(3, .int (1 : Int32)), (0, .int (nI ws)), (1, .int (nI n)), (2, .int (nI w))]) de_R_wholeWord_35 (by decide) rfl ?_
        refine ab_iload_n de_R_wholeWord_36 1 rfl ?_
        refine ab_iload_n de_R_wholeWord_37 3 rfl ?_
        refine ab_ishr de_R_wholeWord_38 ?_
        refine ab_iconst (v := 1) de_R_wholeWord_39 rfl ?_
        refine ab_iand de_R_wholeWord_40 ?_
        refine ab_top (v' := nI (ws.testBit w).toNat) (sp_bitne ws w (by omega) (by omega)) ?_
        refine ab_if_eq (tgt := 68) de_R_wholeWord_41 rfl (fun c_41_3 => ?_) (fun c_41_3 => ?_)
        · refine ab_iinc (v := nI (w + 1)) (L' := [(2, .int (nI (w + 1))), (3, .int (1 : Int32)), (0, .int (nI ws)), (1, .int (nI n))]) de_R_wholeWord_68 3 rfl (by rw [show Int32.ofInt 1 = nI 1 from rfl, ab_add]) (by decide) rfl ?_
          refine ab_goto (tgt := 2) de_R_wholeWord_71 rfl ?_
          refine ab_sub (L' := [(0, .int (nI ws)), (1, .int (nI n)), (2, .int (nI (w + 1)))]) [2, 3, 0] rfl ?_
          exact ih (w + 1)  (by omega) (by omega) (fun j hj => by
            by_cases q : j = w
            · subst q; unfold sp_wwf; rw [(sp_b0 _).mp c_41_3]; rfl
            · exact hf0_ j (by omega))
        · refine ab_iload_n de_R_wholeWord_44 0 rfl ?_
          refine ab_if_eq (tgt := 68) de_R_wholeWord_45 rfl (fun c_45_4 => ?_) (fun c_45_4 => ?_)
          · exact absurd c_45_4 (by decide)
          · refine ab_iload_n de_R_wholeWord_48 3 rfl ?_
            refine ab_bipush (v := 9) de_R_wholeWord_49 rfl ?_
            refine ab_icmp_gt (tgt := 60) de_R_wholeWord_51 rfl (fun c_51_5 => ?_) (fun c_51_5 => ?_)
            · refine ab_iload_n de_R_wholeWord_60 3 rfl ?_
              refine ab_bipush (v := 9) de_R_wholeWord_61 rfl ?_
              refine ab_isub de_R_wholeWord_63 ?_
              refine ab_top (v' := nI (w - 9)) (ab_sub_k (b := 9) (by have := (ab_lt (a := 9) (by decide) (by omega)).mp c_51_5; omega)) ?_
              refine ab_bipush (v := 10) de_R_wholeWord_64 rfl ?_
              refine ab_ishl de_R_wholeWord_66 ?_
              refine ab_top (v' := nI ((w - 9) <<< 10)) (ab_shl _ (by decide)) ?_
              exact ab_ret (v := some (.int (nI ((w - 9) <<< 10)))) de_R_wholeWord_67 ⟨_, rfl⟩ ⟨congrArg (fun z => some (Value.int z)) (by unfold sp_ww; rw [sp_ft_at (f := sp_wwf ws n) (k := w) (by unfold sp_wwf; rw [ts_f c_41_3, decide_eq_true ((ab_le (a := 8) (by decide) (by omega)).mp c_11_2)]; rfl) hf0_ 13 hw]; unfold sp_wwb; rw [if_pos hw, if_neg (Nat.not_le.mpr ((ab_lt (a := 9) (by decide) (by omega)).mp c_51_5))]; rw [Nat.shiftLeft_eq]), rfl⟩
            · refine ab_iconst (v := 1) de_R_wholeWord_54 rfl ?_
              refine ab_iload_n de_R_wholeWord_55 3 rfl ?_
              refine ab_ishl de_R_wholeWord_56 ?_
              refine ab_top (v' := nI (2 ^ w)) ((ab_shl 1 (by omega)).trans (by rw [Nat.one_shiftLeft])) ?_
              refine ab_goto (tgt := 67) de_R_wholeWord_57 rfl ?_
              exact ab_ret (v := some (.int (nI (2 ^ w)))) de_R_wholeWord_67 ⟨_, rfl⟩ ⟨congrArg (fun z => some (Value.int z)) (by unfold sp_ww; rw [sp_ft_at (f := sp_wwf ws n) (k := w) (by unfold sp_wwf; rw [ts_f c_41_3, decide_eq_true ((ab_le (a := 8) (by decide) (by omega)).mp c_11_2)]; rfl) hf0_ 13 hw]; unfold sp_wwb; rw [if_pos hw, if_pos (Nat.le_of_not_lt (fun z_ => c_51_5 ((ab_lt (a := 9) (by decide) (by omega)).mpr z_)))]), rfl⟩
      · have n8_ : n < 8 := Nat.lt_of_not_le (fun z_ => c_11_2 ((ab_le (a := 8) (by decide) (by omega)).mpr z_))
        refine ab_lds rfl de_R_wholeWord_14 ?_
        refine ab_bipush (v := 8) de_R_wholeWord_16 rfl ?_
        refine ab_iload_n de_R_wholeWord_18 2 rfl ?_
        refine ab_imul de_R_wholeWord_19 ?_
        refine ab_top (v' := nI (8 * w)) (ab_mul 8 w) ?_
        refine ab_iload_n de_R_wholeWord_20 1 rfl ?_
        refine ab_iadd de_R_wholeWord_21 ?_
        refine ab_top (v' := nI (8 * w + n)) (ab_add _ _) ?_
        refine ab_cVF (as := [.int (nI (8 * w + n))]) (st := []) (ct_S_charAt l _ (ab_S nr h g rr) (i := 8 * w + n) (by omega)) mo_S_charAt mi_S_charAt ml_R_57 rfl rfl rfl (Nat.le_of_ble_eq_true rfl) de_R_wholeWord_22 (fun v_ M_ hK_ hl_ hv_ => ?_)
        obtain ⟨rfl, hm_⟩ := hK_
        have hm_ := hm_.symm
        subst hm_
        change ab_G _ _ _ _ _ _ _ [(0, .int (nI ws)), (1, .int (nI n)), (2, .int (nI w))] [.int (nI (sp_wb (8 * w + n)))] (ab_S nr h g rr) _
        refine ab_bipush (v := 46) de_R_wholeWord_25 rfl ?_
        refine ab_icmp_ne (tgt := 34) de_R_wholeWord_27 rfl (fun c_27_6 => ?_) (fun c_27_6 => ?_)
        · refine ab_iconst (v := 0) de_R_wholeWord_34 rfl ?_
          refine ab_istore_n (L' := [(3, .int (0 : Int32)), (0, .int (nI ws)), (1, .int (nI n)), (2, .int (nI w))]) de_R_wholeWord_35 (by decide) rfl ?_
          refine ab_iload_n de_R_wholeWord_36 1 rfl ?_
          refine ab_iload_n de_R_wholeWord_37 3 rfl ?_
          refine ab_ishr de_R_wholeWord_38 ?_
          refine ab_iconst (v := 1) de_R_wholeWord_39 rfl ?_
          refine ab_iand de_R_wholeWord_40 ?_
          refine ab_top (v' := nI (ws.testBit w).toNat) (sp_bitne ws w (by omega) (by omega)) ?_
          refine ab_if_eq (tgt := 68) de_R_wholeWord_41 rfl (fun c_41_7 => ?_) (fun c_41_7 => ?_)
          · refine ab_iinc (v := nI (w + 1)) (L' := [(2, .int (nI (w + 1))), (3, .int (0 : Int32)), (0, .int (nI ws)), (1, .int (nI n))]) de_R_wholeWord_68 3 rfl (by rw [show Int32.ofInt 1 = nI 1 from rfl, ab_add]) (by decide) rfl ?_
            refine ab_goto (tgt := 2) de_R_wholeWord_71 rfl ?_
            refine ab_sub (L' := [(0, .int (nI ws)), (1, .int (nI n)), (2, .int (nI (w + 1)))]) [2, 3, 0] rfl ?_
            exact ih (w + 1)  (by omega) (by omega) (fun j hj => by
              by_cases q : j = w
              · subst q; unfold sp_wwf; rw [(sp_b0 _).mp c_41_7]; rfl
              · exact hf0_ j (by omega))
          · refine ab_iload_n de_R_wholeWord_44 0 rfl ?_
            refine ab_if_eq (tgt := 68) de_R_wholeWord_45 rfl (fun c_45_8 => ?_) (fun c_45_8 => ?_)
            · refine ab_iinc (v := nI (w + 1)) (L' := [(2, .int (nI (w + 1))), (3, .int (0 : Int32)), (0, .int (nI ws)), (1, .int (nI n))]) de_R_wholeWord_68 3 rfl (by rw [show Int32.ofInt 1 = nI 1 from rfl, ab_add]) (by decide) rfl ?_
              refine ab_goto (tgt := 2) de_R_wholeWord_71 rfl ?_
              refine ab_sub (L' := [(0, .int (nI ws)), (1, .int (nI n)), (2, .int (nI (w + 1)))]) [2, 3, 0] rfl ?_
              exact ih (w + 1)  (by omega) (by omega) (fun j hj => by
                by_cases q : j = w
                · subst q; unfold sp_wwf; rw [decide_eq_false (fun z_ => c_11_2 ((ab_le (a := 8) (by decide) (by omega)).mpr z_)), decide_eq_false (fun z_ => c_27_6 (by rw [z_]; rfl))]; simp
                · exact hf0_ j (by omega))
            · exact absurd rfl c_45_8
        · refine ab_iconst (v := 1) de_R_wholeWord_30 rfl ?_
          refine ab_goto (tgt := 35) de_R_wholeWord_31 rfl ?_
          refine ab_istore_n (L' := [(3, .int (1 : Int32)), (0, .int (nI ws)), (1, .int (nI n)), (2, .int (nI w))]) de_R_wholeWord_35 (by decide) rfl ?_
          refine ab_iload_n de_R_wholeWord_36 1 rfl ?_
          refine ab_iload_n de_R_wholeWord_37 3 rfl ?_
          refine ab_ishr de_R_wholeWord_38 ?_
          refine ab_iconst (v := 1) de_R_wholeWord_39 rfl ?_
          refine ab_iand de_R_wholeWord_40 ?_
          refine ab_top (v' := nI (ws.testBit w).toNat) (sp_bitne ws w (by omega) (by omega)) ?_
          refine ab_if_eq (tgt := 68) de_R_wholeWord_41 rfl (fun c_41_9 => ?_) (fun c_41_9 => ?_)
          · refine ab_iinc (v := nI (w + 1)) (L' := [(2, .int (nI (w + 1))), (3, .int (1 : Int32)), (0, .int (nI ws)), (1, .int (nI n))]) de_R_wholeWord_68 3 rfl (by rw [show Int32.ofInt 1 = nI 1 from rfl, ab_add]) (by decide) rfl ?_
            refine ab_goto (tgt := 2) de_R_wholeWord_71 rfl ?_
            refine ab_sub (L' := [(0, .int (nI ws)), (1, .int (nI n)), (2, .int (nI (w + 1)))]) [2, 3, 0] rfl ?_
            exact ih (w + 1)  (by omega) (by omega) (fun j hj => by
              by_cases q : j = w
              · subst q; unfold sp_wwf; rw [(sp_b0 _).mp c_41_9]; rfl
              · exact hf0_ j (by omega))
          · refine ab_iload_n de_R_wholeWord_44 0 rfl ?_
            refine ab_if_eq (tgt := 68) de_R_wholeWord_45 rfl (fun c_45_10 => ?_) (fun c_45_10 => ?_)
            · exact absurd c_45_10 (by decide)
            · refine ab_iload_n de_R_wholeWord_48 3 rfl ?_
              refine ab_bipush (v := 9) de_R_wholeWord_49 rfl ?_
              refine ab_icmp_gt (tgt := 60) de_R_wholeWord_51 rfl (fun c_51_11 => ?_) (fun c_51_11 => ?_)
              · refine ab_iload_n de_R_wholeWord_60 3 rfl ?_
                refine ab_bipush (v := 9) de_R_wholeWord_61 rfl ?_
                refine ab_isub de_R_wholeWord_63 ?_
                refine ab_top (v' := nI (w - 9)) (ab_sub_k (b := 9) (by have := (ab_lt (a := 9) (by decide) (by omega)).mp c_51_11; omega)) ?_
                refine ab_bipush (v := 10) de_R_wholeWord_64 rfl ?_
                refine ab_ishl de_R_wholeWord_66 ?_
                refine ab_top (v' := nI ((w - 9) <<< 10)) (ab_shl _ (by decide)) ?_
                exact ab_ret (v := some (.int (nI ((w - 9) <<< 10)))) de_R_wholeWord_67 ⟨_, rfl⟩ ⟨congrArg (fun z => some (Value.int z)) (by unfold sp_ww; rw [sp_ft_at (f := sp_wwf ws n) (k := w) (by unfold sp_wwf; rw [ts_f c_41_9, decide_eq_true (show sp_wb (8 * w + n) = 46 from (ab_inj (b := 46) (by have := sp_wb_lt (8 * w + n) (by omega); omega) (by decide)).mp c_27_6), Bool.or_true]; rfl) hf0_ 13 hw]; unfold sp_wwb; rw [if_pos hw, if_neg (Nat.not_le.mpr ((ab_lt (a := 9) (by decide) (by omega)).mp c_51_11))]; rw [Nat.shiftLeft_eq]), rfl⟩
              · refine ab_iconst (v := 1) de_R_wholeWord_54 rfl ?_
                refine ab_iload_n de_R_wholeWord_55 3 rfl ?_
                refine ab_ishl de_R_wholeWord_56 ?_
                refine ab_top (v' := nI (2 ^ w)) ((ab_shl 1 (by omega)).trans (by rw [Nat.one_shiftLeft])) ?_
                refine ab_goto (tgt := 67) de_R_wholeWord_57 rfl ?_
                exact ab_ret (v := some (.int (nI (2 ^ w)))) de_R_wholeWord_67 ⟨_, rfl⟩ ⟨congrArg (fun z => some (Value.int z)) (by unfold sp_ww; rw [sp_ft_at (f := sp_wwf ws n) (k := w) (by unfold sp_wwf; rw [ts_f c_41_9, decide_eq_true (show sp_wb (8 * w + n) = 46 from (ab_inj (b := 46) (by have := sp_wb_lt (8 * w + n) (by omega); omega) (by decide)).mp c_27_6), Bool.or_true]; rfl) hf0_ 13 hw]; unfold sp_wwb; rw [if_pos hw, if_pos (Nat.le_of_not_lt (fun z_ => c_51_11 ((ab_lt (a := 9) (by decide) (by omega)).mpr z_)))]), rfl⟩
set_option maxHeartbeats 1000000 in
set_option maxRecDepth 10000 in
theorem ct_R_wholeWord {n0 : Nat} {xs0 : Nat → Int32} (l : Launch) (d : Nat) (nr : Nat) (h : Nat → Nat → Int32) (g : Nat → Nat → Int64) (rr : Nat → Option Nat) {ws n : Nat} (hws : ws < 8192) (hn : n < 100) : ab_CX l (some (n0, xs0)) am_R_wholeWord (d + 5) 0 0 [.int (nI ws), .int (nI n)] (ab_S nr h g rr) (fun (r_ : Option Value) (M' : ab_Me) => r_ = some (.int (nI (sp_ww ws n))) ∧ M' = (ab_S nr h g rr)) := by
  refine ab_CX_of (by decide +kernel) rfl (Nat.le_of_ble_eq_true rfl) ?_
  refine ab_iconst (v := 0) de_R_wholeWord_0 rfl ?_
  refine ab_istore_n (L' := [(2, .int (0 : Int32)), (0, .int (nI ws)), (1, .int (nI n))]) de_R_wholeWord_1 (by decide) rfl ?_
  refine ab_sub (L' := [(0, .int (nI ws)), (1, .int (nI n)), (2, .int (nI 0))]) [1, 2, 0] rfl ?_
  exact lp_R_wholeWord l d nr h g rr hws hn 14 0 (by omega) (by omega) (fun j hj => absurd hj (Nat.not_lt_zero j))
/-- reading letters: the CODE so far, the words that go on, how far in one, whether one is whole -/
abbrev sp_RS : Type := Nat × Nat × Nat × Bool
def sp_rok (x : Int32) (s : sp_RS) : Bool := if s.2.2.2 then decide (x = 59) else !decide (sp_gn s.2.1 s.2.2.1 x = 0) && !sp_th s.1 (sp_ww (sp_gn s.2.1 s.2.2.1 x) (s.2.2.1 + 1))
def sp_rst (x : Int32) (s : sp_RS) : sp_RS := if s.2.2.2 then (s.1, 8191, 0, false) else (s.1 ||| sp_ww (sp_gn s.2.1 s.2.2.1 x) (s.2.2.1 + 1), sp_gn s.2.1 s.2.2.1 x, s.2.2.1 + 1, !decide (sp_ww (sp_gn s.2.1 s.2.2.1 x) (s.2.2.1 + 1) = 0))
def sp_rs (f : Nat → Int32) : Nat → sp_RS
  | 0 => (0, 8191, 0, false)
  | i + 1 => sp_rst (f i) (sp_rs f i)
def sp_rdk (f : Nat → Int32) (n : Nat) : Nat := sp_ft (fun i => !sp_rok (f i) (sp_rs f i)) n
def sp_rd (f : Nat → Int32) (n : Nat) : Int32 := if sp_rdk f n < n then -1 - nI (sp_rdk f n) else if (sp_rs f n).2.2.2 then nI (sp_rs f n).1 else -1 - nI n
theorem sp_rs_ok (f : Nat → Int32) : ∀ i, (sp_rs f i).1 < 4096 ∧ (sp_rs f i).2.1 < 8192 ∧ (sp_rs f i).2.2.1 ≤ i
  | 0 => ⟨show 0 < 4096 by decide, show 8191 < 8192 by decide, Nat.le_refl _⟩
  | i + 1 => by
    obtain ⟨h1, h2, h3⟩ := sp_rs_ok f i
    show (sp_rst (f i) (sp_rs f i)).1 < 4096 ∧ (sp_rst (f i) (sp_rs f i)).2.1 < 8192 ∧ (sp_rst (f i) (sp_rs f i)).2.2.1 ≤ i + 1
    unfold sp_rst
    split
    · exact ⟨h1, (by decide : 8191 < 8192), Nat.zero_le _⟩
    · exact ⟨Nat.or_lt_two_pow (n := 12) h1 (sp_ww_lt _ _), sp_gn_lt _ _ _, Nat.succ_le_succ h3⟩
set_option maxHeartbeats 1000000 in
set_option maxRecDepth 10000 in
theorem lp_R_read {n0 : Nat} {xs0 : Nat → Int32} (l : Launch) (d : Nat) (nr : Nat) (h : Nat → Nat → Int32) (g : Nat → Nat → Int64) (rr : Nat → Option Nat) {s n : Nat} (hs : s < 8) (hn : n ≤ 60) {f : Nat → Int32} (hf : ∀ i, f i = (g (4 + s) i).toInt32) : ∀ (fu_ i : Nat), i ≤ n → n < i + fu_ → (∀ j, j < i → sp_rok (f j) (sp_rs f j) = true) → ab_G l (some (n0, xs0)) am_R_read (d + 6) 0 0 15 [(0, .ref (4 + s)), (1, .int (nI n)), (2, .int (nI (sp_rs f i).1)), (3, .int (nI (sp_rs f i).2.1)), (4, .int (nI (sp_rs f i).2.2.1)), (5, .int (ab_bz (sp_rs f i).2.2.2)), (6, .int (nI i))] [] (ab_S nr h g rr) (fun (r_ : Option Value) (M' : ab_Me) => r_ = some (.int (sp_rd f n)) ∧ M' = (ab_S nr h g rr)) := by
  intro fu_
  induction fu_ with
  | zero => intro i  h1 h2; omega
  | succ fu_ ih =>
    intro i  hN_ hn_ hf0_
    refine ab_iload de_R_read_15 6 rfl ?_
    refine ab_iload_n de_R_read_17 1 rfl ?_
    refine ab_icmp_ge (tgt := 119) de_R_read_18 rfl (fun c_18_1 => ?_) (fun c_18_1 => ?_)
    · have hi := (ab_le (by omega) (by omega)).mp c_18_1
      have ok_ := sp_rs_ok f i
      refine ab_iload de_R_read_119 5 rfl ?_
      refine ab_if_eq (tgt := 128) de_R_read_121 rfl (fun c_121_2 => ?_) (fun c_121_2 => ?_)
      · refine ab_iconst (v := -1) de_R_read_128 rfl ?_
        refine ab_iload_n de_R_read_129 1 rfl ?_
        refine ab_isub de_R_read_130 ?_
        exact ab_ret (v := some (.int ((-1 : Int32) - (nI n)))) de_R_read_131 ⟨_, rfl⟩ ⟨congrArg (fun z => some (Value.int z)) (by
    have en_ : i = n := by omega
    subst en_
    unfold sp_rd sp_rdk; rw [sp_ft_no i (fun j hj => by rw [hf0_ j (by omega)]; rfl), if_neg (Nat.lt_irrefl _), if_neg (by rw [(ab_bz0 _).mp c_121_2]; decide)]), rfl⟩
      · refine ab_iload_n de_R_read_124 2 rfl ?_
        refine ab_goto (tgt := 131) de_R_read_125 rfl ?_
        exact ab_ret (v := some (.int (nI (sp_rs f i).1))) de_R_read_131 ⟨_, rfl⟩ ⟨congrArg (fun z => some (Value.int z)) (by
    have en_ : i = n := by omega
    subst en_
    unfold sp_rd sp_rdk; rw [sp_ft_no i (fun j hj => by rw [hf0_ j (by omega)]; rfl), if_neg (Nat.lt_irrefl _), if_pos ((ab_bz1 _).mp c_121_2)]), rfl⟩
    · have hi := Nat.lt_of_not_le (fun z_ => c_18_1 ((ab_le (by omega) (by omega)).mpr z_))
      have ok_ := sp_rs_ok f i
      refine ab_aload_n de_R_read_21 0 rfl ?_
      refine ab_iload de_R_read_22 6 rfl ?_
      refine ab_lald (v := g (4 + s) i) (ab_rk4 (j := s) (by omega)) (ab_in (by omega) (by decide)) (ab_gv (ab_tn (n := i) (by omega))) de_R_read_24 ?_
      refine ab_l2i de_R_read_25 rfl ?_
      refine ab_top (v' := f i) ((hf i).symm) ?_
      refine ab_istore (L' := [(7, .int (f i)), (0, .ref (4 + s)), (1, .int (nI n)), (2, .int (nI (sp_rs f i).1)), (3, .int (nI (sp_rs f i).2.1)), (4, .int (nI (sp_rs f i).2.2.1)), (5, .int (ab_bz (sp_rs f i).2.2.2)), (6, .int (nI i))]) de_R_read_26 (by decide) rfl ?_
      refine ab_iload de_R_read_28 6 rfl ?_
      refine ab_if_eq (tgt := 58) de_R_read_30 rfl (fun c_30_3 => ?_) (fun c_30_3 => ?_)
      · refine ab_iload_n de_R_read_58 4 rfl ?_
        refine ab_iload de_R_read_59 5 rfl ?_
        refine ab_iload de_R_read_61 0 rfl ?_
        refine ab_cSX (as := [.int (nI (sp_rs f i).2.1), .int (nI (sp_rs f i).2.2.1), .int (f i)]) (st := []) (ct_R_goingOn l _ nr h g rr (ws := (sp_rs f i).2.1) (at_ := (sp_rs f i).2.2.1) ok_.2.1 (by omega) (f i)) mo_R_goingOn ms_R_goingOn ml_R_43 rfl rfl (Nat.le_of_ble_eq_true rfl) de_R_read_63 (fun v_ M_ hK_ hl_ hv_ => ?_)
        obtain ⟨rfl, hm_⟩ := hK_
        have hm_ := hm_.symm
        subst hm_
        change ab_G _ _ _ _ _ _ _ [(7, .int (f i)), (0, .ref (4 + s)), (1, .int (nI n)), (2, .int (nI (sp_rs f i).1)), (3, .int (nI (sp_rs f i).2.1)), (4, .int (nI (sp_rs f i).2.2.1)), (5, .int (ab_bz (sp_rs f i).2.2.2)), (6, .int (nI i))] [.int (nI (sp_gn (sp_rs f i).2.1 (sp_rs f i).2.2.1 (f i)))] (ab_S nr h g rr) _
        refine ab_istore_n (L' := [(3, .int (nI (sp_gn (sp_rs f i).2.1 (sp_rs f i).2.2.1 (f i)))), (7, .int (f i)), (0, .ref (4 + s)), (1, .int (nI n)), (2, .int (nI (sp_rs f i).1)), (4, .int (nI (sp_rs f i).2.2.1)), (5, .int (ab_bz (sp_rs f i).2.2.2)), (6, .int (nI i))]) de_R_read_66 (by decide) rfl ?_
        refine ab_iinc (v := nI ((sp_rs f i).2.2.1 + 1)) (L' := [(4, .int (nI ((sp_rs f i).2.2.1 + 1))), (3, .int (nI (sp_gn (sp_rs f i).2.1 (sp_rs f i).2.2.1 (f i)))), (7, .int (f i)), (0, .ref (4 + s)), (1, .int (nI n)), (2, .int (nI (sp_rs f i).1)), (5, .int (ab_bz (sp_rs f i).2.2.2)), (6, .int (nI i))]) de_R_read_67 5 rfl (ab_add _ 1) (by decide) rfl ?_
        refine ab_iload_n de_R_read_70 1 rfl ?_
        refine ab_iload de_R_read_71 0 rfl ?_
        refine ab_cSX (as := [.int (nI (sp_gn (sp_rs f i).2.1 (sp_rs f i).2.2.1 (f i))), .int (nI ((sp_rs f i).2.2.1 + 1))]) (st := []) (ct_R_wholeWord l _ nr h g rr (ws := sp_gn (sp_rs f i).2.1 (sp_rs f i).2.2.1 (f i)) (n := (sp_rs f i).2.2.1 + 1) (sp_gn_lt _ _ _) (by omega)) mo_R_wholeWord ms_R_wholeWord ml_R_47 rfl rfl (Nat.le_of_ble_eq_true rfl) de_R_read_73 (fun v_ M_ hK_ hl_ hv_ => ?_)
        obtain ⟨rfl, hm_⟩ := hK_
        have hm_ := hm_.symm
        subst hm_
        change ab_G _ _ _ _ _ _ _ [(4, .int (nI ((sp_rs f i).2.2.1 + 1))), (3, .int (nI (sp_gn (sp_rs f i).2.1 (sp_rs f i).2.2.1 (f i)))), (7, .int (f i)), (0, .ref (4 + s)), (1, .int (nI n)), (2, .int (nI (sp_rs f i).1)), (5, .int (ab_bz (sp_rs f i).2.2.2)), (6, .int (nI i))] [.int (nI (sp_ww (sp_gn (sp_rs f i).2.1 (sp_rs f i).2.2.1 (f i)) ((sp_rs f i).2.2.1 + 1)))] (ab_S nr h g rr) _
        refine ab_istore (L' := [(8, .int (nI (sp_ww (sp_gn (sp_rs f i).2.1 (sp_rs f i).2.2.1 (f i)) ((sp_rs f i).2.2.1 + 1)))), (4, .int (nI ((sp_rs f i).2.2.1 + 1))), (3, .int (nI (sp_gn (sp_rs f i).2.1 (sp_rs f i).2.2.1 (f i)))), (7, .int (f i)), (0, .ref (4 + s)), (1, .int (nI n)), (2, .int (nI (sp_rs f i).1)), (5, .int (ab_bz (sp_rs f i).2.2.2)), (6, .int (nI i))]) de_R_read_76 (by decide) rfl ?_
        refine ab_iload_n de_R_read_78 2 rfl ?_
        refine ab_if_eq (tgt := 91) de_R_read_79 rfl (fun c_79_4 => ?_) (fun c_79_4 => ?_)
        · refine ab_iconst (v := -1) de_R_read_91 rfl ?_
          refine ab_iload de_R_read_92 8 rfl ?_
          refine ab_isub de_R_read_94 ?_
          exact ab_ret (v := some (.int ((-1 : Int32) - (nI i)))) de_R_read_95 ⟨_, rfl⟩ ⟨congrArg (fun z => some (Value.int z)) (by unfold sp_rd sp_rdk; rw [sp_ft_at (f := fun i => !sp_rok (f i) (sp_rs f i)) (k := i) (by unfold sp_rok; rw [if_neg (by rw [(show (sp_rs f i).2.2.2 = false from (ab_bz0 _).mp c_30_3)]; decide), decide_eq_true ((ab_inj (b := 0) (by have := sp_gn_lt (sp_rs f i).2.1 (sp_rs f i).2.2.1 (f i); omega) (by decide)).mp c_79_4)]; rfl) (fun j hj => by rw [hf0_ j (by omega)]; rfl) n hi, if_pos hi]), rfl⟩
        · refine ab_iload_n de_R_read_82 6 rfl ?_
          refine ab_iload de_R_read_83 0 rfl ?_
          refine ab_cS (as := [.int (nI (sp_rs f i).1), .int (nI (sp_ww (sp_gn (sp_rs f i).2.1 (sp_rs f i).2.2.1 (f i)) ((sp_rs f i).2.2.1 + 1)))]) (st := []) (ct_R_isThere l _ (ab_S nr h g rr) (c := (sp_rs f i).1) (b := sp_ww (sp_gn (sp_rs f i).2.1 (sp_rs f i).2.2.1 (f i)) ((sp_rs f i).2.2.1 + 1)) ok_.1 (sp_ww_lt _ _)) mo_R_isThere ms_R_isThere ml_R_51 rfl rfl (Nat.le_of_ble_eq_true rfl) de_R_read_85 (fun v_ M_ hK_ hl_ hv_ => ?_)
          obtain ⟨rfl, hm_⟩ := hK_
          have hm_ := hm_.symm
          subst hm_
          change ab_G _ _ _ _ _ _ _ [(8, .int (nI (sp_ww (sp_gn (sp_rs f i).2.1 (sp_rs f i).2.2.1 (f i)) ((sp_rs f i).2.2.1 + 1)))), (4, .int (nI ((sp_rs f i).2.2.1 + 1))), (3, .int (nI (sp_gn (sp_rs f i).2.1 (sp_rs f i).2.2.1 (f i)))), (7, .int (f i)), (0, .ref (4 + s)), (1, .int (nI n)), (2, .int (nI (sp_rs f i).1)), (5, .int (ab_bz (sp_rs f i).2.2.2)), (6, .int (nI i))] [.int (ab_bz (sp_th (sp_rs f i).1 (sp_ww (sp_gn (sp_rs f i).2.1 (sp_rs f i).2.2.1 (f i)) ((sp_rs f i).2.2.1 + 1))))] (ab_S nr h g rr) _
          refine ab_if_eq (tgt := 96) de_R_read_88 rfl (fun c_88_5 => ?_) (fun c_88_5 => ?_)
          · refine ab_iload_n de_R_read_96 6 rfl ?_
            refine ab_iload de_R_read_97 0 rfl ?_
            refine ab_ior de_R_read_99 ?_
            refine ab_top (v' := nI ((sp_rs f i).1 ||| sp_ww (sp_gn (sp_rs f i).2.1 (sp_rs f i).2.2.1 (f i)) ((sp_rs f i).2.2.1 + 1))) (ab_or _ _) ?_
            refine ab_istore_n (L' := [(2, .int (nI ((sp_rs f i).1 ||| sp_ww (sp_gn (sp_rs f i).2.1 (sp_rs f i).2.2.1 (f i)) ((sp_rs f i).2.2.1 + 1)))), (8, .int (nI (sp_ww (sp_gn (sp_rs f i).2.1 (sp_rs f i).2.2.1 (f i)) ((sp_rs f i).2.2.1 + 1)))), (4, .int (nI ((sp_rs f i).2.2.1 + 1))), (3, .int (nI (sp_gn (sp_rs f i).2.1 (sp_rs f i).2.2.1 (f i)))), (7, .int (f i)), (0, .ref (4 + s)), (1, .int (nI n)), (5, .int (ab_bz (sp_rs f i).2.2.2)), (6, .int (nI i))]) de_R_read_100 (by decide) rfl ?_
            refine ab_iload de_R_read_101 1 rfl ?_
            refine ab_if_eq (tgt := 110) de_R_read_103 rfl (fun c_103_6 => ?_) (fun c_103_6 => ?_)
            · refine ab_iconst (v := 0) de_R_read_110 rfl ?_
              refine ab_istore (L' := [(5, .int (0 : Int32)), (2, .int (nI ((sp_rs f i).1 ||| sp_ww (sp_gn (sp_rs f i).2.1 (sp_rs f i).2.2.1 (f i)) ((sp_rs f i).2.2.1 + 1)))), (8, .int (nI (sp_ww (sp_gn (sp_rs f i).2.1 (sp_rs f i).2.2.1 (f i)) ((sp_rs f i).2.2.1 + 1)))), (4, .int (nI ((sp_rs f i).2.2.1 + 1))), (3, .int (nI (sp_gn (sp_rs f i).2.1 (sp_rs f i).2.2.1 (f i)))), (7, .int (f i)), (0, .ref (4 + s)), (1, .int (nI n)), (6, .int (nI i))]) de_R_read_111 (by decide) rfl ?_
              refine ab_iinc (v := nI (i + 1)) (L' := [(6, .int (nI (i + 1))), (5, .int (0 : Int32)), (2, .int (nI ((sp_rs f i).1 ||| sp_ww (sp_gn (sp_rs f i).2.1 (sp_rs f i).2.2.1 (f i)) ((sp_rs f i).2.2.1 + 1)))), (8, .int (nI (sp_ww (sp_gn (sp_rs f i).2.1 (sp_rs f i).2.2.1 (f i)) ((sp_rs f i).2.2.1 + 1)))), (4, .int (nI ((sp_rs f i).2.2.1 + 1))), (3, .int (nI (sp_gn (sp_rs f i).2.1 (sp_rs f i).2.2.1 (f i)))), (7, .int (f i)), (0, .ref (4 + s)), (1, .int (nI n))]) de_R_read_113 8 rfl (by rw [show Int32.ofInt 1 = nI 1 from rfl, ab_add]) (by decide) rfl ?_
              refine ab_goto (tgt := 15) de_R_read_116 rfl ?_
              refine ab_sub (L' := [(0, .ref (4 + s)), (1, .int (nI n)), (2, .int (nI ((sp_rs f i).1 ||| sp_ww (sp_gn (sp_rs f i).2.1 (sp_rs f i).2.2.1 (f i)) ((sp_rs f i).2.2.1 + 1)))), (3, .int (nI (sp_gn (sp_rs f i).2.1 (sp_rs f i).2.2.1 (f i)))), (4, .int (nI ((sp_rs f i).2.2.1 + 1))), (5, .int (0 : Int32)), (6, .int (nI (i + 1)))]) [7, 8, 2, 5, 4, 1, 0] rfl ?_
              have e_ : sp_rs f (i + 1) = ((sp_rs f i).1 ||| sp_ww (sp_gn (sp_rs f i).2.1 (sp_rs f i).2.2.1 (f i)) ((sp_rs f i).2.2.1 + 1), sp_gn (sp_rs f i).2.1 (sp_rs f i).2.2.1 (f i), (sp_rs f i).2.2.1 + 1, false) := by
                show sp_rst (f i) (sp_rs f i) = _
                unfold sp_rst
                rw [if_neg (by rw [(show (sp_rs f i).2.2.2 = false from (ab_bz0 _).mp c_30_3)]; decide), decide_eq_true (show sp_ww (sp_gn (sp_rs f i).2.1 (sp_rs f i).2.2.1 (f i)) ((sp_rs f i).2.2.1 + 1) = 0 from (sp_z (sp_ww_lt _ _)).mp c_103_6)]
                rfl
              have z_ := ih (i + 1) (by omega) (by omega) (fun j hj => by
                by_cases q : j = i
                · rw [q]; unfold sp_rok; rw [if_neg (by rw [(show (sp_rs f i).2.2.2 = false from (ab_bz0 _).mp c_30_3)]; decide), decide_eq_false (fun z_ => c_79_4 (by rw [z_]; rfl)), (ab_bz0 _).mp c_88_5]; rfl
                · exact hf0_ j (by omega))
              rw [e_] at z_
              exact z_
            · refine ab_iconst (v := 1) de_R_read_106 rfl ?_
              refine ab_goto (tgt := 111) de_R_read_107 rfl ?_
              refine ab_istore (L' := [(5, .int (1 : Int32)), (2, .int (nI ((sp_rs f i).1 ||| sp_ww (sp_gn (sp_rs f i).2.1 (sp_rs f i).2.2.1 (f i)) ((sp_rs f i).2.2.1 + 1)))), (8, .int (nI (sp_ww (sp_gn (sp_rs f i).2.1 (sp_rs f i).2.2.1 (f i)) ((sp_rs f i).2.2.1 + 1)))), (4, .int (nI ((sp_rs f i).2.2.1 + 1))), (3, .int (nI (sp_gn (sp_rs f i).2.1 (sp_rs f i).2.2.1 (f i)))), (7, .int (f i)), (0, .ref (4 + s)), (1, .int (nI n)), (6, .int (nI i))]) de_R_read_111 (by decide) rfl ?_
              refine ab_iinc (v := nI (i + 1)) (L' := [(6, .int (nI (i + 1))), (5, .int (1 : Int32)), (2, .int (nI ((sp_rs f i).1 ||| sp_ww (sp_gn (sp_rs f i).2.1 (sp_rs f i).2.2.1 (f i)) ((sp_rs f i).2.2.1 + 1)))), (8, .int (nI (sp_ww (sp_gn (sp_rs f i).2.1 (sp_rs f i).2.2.1 (f i)) ((sp_rs f i).2.2.1 + 1)))), (4, .int (nI ((sp_rs f i).2.2.1 + 1))), (3, .int (nI (sp_gn (sp_rs f i).2.1 (sp_rs f i).2.2.1 (f i)))), (7, .int (f i)), (0, .ref (4 + s)), (1, .int (nI n))]) de_R_read_113 8 rfl (by rw [show Int32.ofInt 1 = nI 1 from rfl, ab_add]) (by decide) rfl ?_
              refine ab_goto (tgt := 15) de_R_read_116 rfl ?_
              refine ab_sub (L' := [(0, .ref (4 + s)), (1, .int (nI n)), (2, .int (nI ((sp_rs f i).1 ||| sp_ww (sp_gn (sp_rs f i).2.1 (sp_rs f i).2.2.1 (f i)) ((sp_rs f i).2.2.1 + 1)))), (3, .int (nI (sp_gn (sp_rs f i).2.1 (sp_rs f i).2.2.1 (f i)))), (4, .int (nI ((sp_rs f i).2.2.1 + 1))), (5, .int (1 : Int32)), (6, .int (nI (i + 1)))]) [7, 8, 2, 5, 4, 1, 0] rfl ?_
              have e_ : sp_rs f (i + 1) = ((sp_rs f i).1 ||| sp_ww (sp_gn (sp_rs f i).2.1 (sp_rs f i).2.2.1 (f i)) ((sp_rs f i).2.2.1 + 1), sp_gn (sp_rs f i).2.1 (sp_rs f i).2.2.1 (f i), (sp_rs f i).2.2.1 + 1, true) := by
                show sp_rst (f i) (sp_rs f i) = _
                unfold sp_rst
                rw [if_neg (by rw [(show (sp_rs f i).2.2.2 = false from (ab_bz0 _).mp c_30_3)]; decide), decide_eq_false (show ¬ sp_ww (sp_gn (sp_rs f i).2.1 (sp_rs f i).2.2.1 (f i)) ((sp_rs f i).2.2.1 + 1) = 0 from ts_z (sp_ww_lt _ _) c_103_6)]
                rfl
              have z_ := ih (i + 1) (by omega) (by omega) (fun j hj => by
                by_cases q : j = i
                · rw [q]; unfold sp_rok; rw [if_neg (by rw [(show (sp_rs f i).2.2.2 = false from (ab_bz0 _).mp c_30_3)]; decide), decide_eq_false (fun z_ => c_79_4 (by rw [z_]; rfl)), (ab_bz0 _).mp c_88_5]; rfl
                · exact hf0_ j (by omega))
              rw [e_] at z_
              exact z_
          · refine ab_iconst (v := -1) de_R_read_91 rfl ?_
            refine ab_iload de_R_read_92 8 rfl ?_
            refine ab_isub de_R_read_94 ?_
            exact ab_ret (v := some (.int ((-1 : Int32) - (nI i)))) de_R_read_95 ⟨_, rfl⟩ ⟨congrArg (fun z => some (Value.int z)) (by unfold sp_rd sp_rdk; rw [sp_ft_at (f := fun i => !sp_rok (f i) (sp_rs f i)) (k := i) (by unfold sp_rok; rw [if_neg (by rw [(show (sp_rs f i).2.2.2 = false from (ab_bz0 _).mp c_30_3)]; decide), (ab_bz1 _).mp c_88_5]; simp) (fun j hj => by rw [hf0_ j (by omega)]; rfl) n hi, if_pos hi]), rfl⟩
      · refine ab_iload de_R_read_33 0 rfl ?_
        refine ab_bipush (v := 59) de_R_read_35 rfl ?_
        refine ab_icmp_eq (tgt := 45) de_R_read_37 rfl (fun c_37_7 => ?_) (fun c_37_7 => ?_)
        · refine ab_sipush (v := 8191) de_R_read_45 rfl ?_
          refine ab_istore_n (L' := [(3, .int (8191 : Int32)), (7, .int (f i)), (0, .ref (4 + s)), (1, .int (nI n)), (2, .int (nI (sp_rs f i).1)), (4, .int (nI (sp_rs f i).2.2.1)), (5, .int (ab_bz (sp_rs f i).2.2.2)), (6, .int (nI i))]) de_R_read_48 (by decide) rfl ?_
          refine ab_iconst (v := 0) de_R_read_49 rfl ?_
          refine ab_istore (L' := [(4, .int (0 : Int32)), (3, .int (8191 : Int32)), (7, .int (f i)), (0, .ref (4 + s)), (1, .int (nI n)), (2, .int (nI (sp_rs f i).1)), (5, .int (ab_bz (sp_rs f i).2.2.2)), (6, .int (nI i))]) de_R_read_50 (by decide) rfl ?_
          refine ab_iconst (v := 0) de_R_read_52 rfl ?_
          refine ab_istore (L' := [(5, .int (0 : Int32)), (4, .int (0 : Int32)), (3, .int (8191 : Int32)), (7, .int (f i)), (0, .ref (4 + s)), (1, .int (nI n)), (2, .int (nI (sp_rs f i).1)), (6, .int (nI i))]) de_R_read_53 (by decide) rfl ?_
          refine ab_goto (tgt := 113) de_R_read_55 rfl ?_
          refine ab_iinc (v := nI (i + 1)) (L' := [(6, .int (nI (i + 1))), (5, .int (0 : Int32)), (4, .int (0 : Int32)), (3, .int (8191 : Int32)), (7, .int (f i)), (0, .ref (4 + s)), (1, .int (nI n)), (2, .int (nI (sp_rs f i).1))]) de_R_read_113 7 rfl (by rw [show Int32.ofInt 1 = nI 1 from rfl, ab_add]) (by decide) rfl ?_
          refine ab_goto (tgt := 15) de_R_read_116 rfl ?_
          refine ab_sub (L' := [(0, .ref (4 + s)), (1, .int (nI n)), (2, .int (nI (sp_rs f i).1)), (3, .int (8191 : Int32)), (4, .int (0 : Int32)), (5, .int (0 : Int32)), (6, .int (nI (i + 1)))]) [5, 6, 7, 3, 2, 1, 0] rfl ?_
          have e_ : sp_rs f (i + 1) = ((sp_rs f i).1, 8191, 0, false) := by
            show sp_rst (f i) (sp_rs f i) = _
            unfold sp_rst
            rw [if_pos (show (sp_rs f i).2.2.2 = true from (ab_bz1 _).mp c_30_3)]
          have z_ := ih (i + 1) (by omega) (by omega) (fun j hj => by
            by_cases q : j = i
            · rw [q]; unfold sp_rok; rw [if_pos (show (sp_rs f i).2.2.2 = true from (ab_bz1 _).mp c_30_3)]; exact decide_eq_true c_37_7
            · exact hf0_ j (by omega))
          rw [e_] at z_
          exact z_
        · refine ab_iconst (v := -1) de_R_read_40 rfl ?_
          refine ab_iload de_R_read_41 7 rfl ?_
          refine ab_isub de_R_read_43 ?_
          exact ab_ret (v := some (.int ((-1 : Int32) - (nI i)))) de_R_read_44 ⟨_, rfl⟩ ⟨congrArg (fun z => some (Value.int z)) (by unfold sp_rd sp_rdk; rw [sp_ft_at (f := fun i => !sp_rok (f i) (sp_rs f i)) (k := i) (by unfold sp_rok; rw [if_pos (show (sp_rs f i).2.2.2 = true from (ab_bz1 _).mp c_30_3), decide_eq_false c_37_7]; rfl) (fun j hj => by rw [hf0_ j (by omega)]; rfl) n hi, if_pos hi]), rfl⟩
set_option maxHeartbeats 1000000 in
set_option maxRecDepth 10000 in
theorem ct_R_read {n0 : Nat} {xs0 : Nat → Int32} (l : Launch) (d : Nat) (nr : Nat) (h : Nat → Nat → Int32) (g : Nat → Nat → Int64) (rr : Nat → Option Nat) {s n : Nat} (hs : s < 8) (hn : n ≤ 60) {f : Nat → Int32} (hf : ∀ i, f i = (g (4 + s) i).toInt32) : ab_CX l (some (n0, xs0)) am_R_read (d + 6) 0 0 [.ref (4 + s), .int (nI n)] (ab_S nr h g rr) (fun (r_ : Option Value) (M' : ab_Me) => r_ = some (.int (sp_rd f n)) ∧ M' = (ab_S nr h g rr)) := by
  refine ab_CX_of (by decide +kernel) rfl (Nat.le_of_ble_eq_true rfl) ?_
  refine ab_iconst (v := 0) de_R_read_0 rfl ?_
  refine ab_istore_n (L' := [(2, .int (0 : Int32)), (0, .ref (4 + s)), (1, .int (nI n))]) de_R_read_1 (by decide) rfl ?_
  refine ab_sipush (v := 8191) de_R_read_2 rfl ?_
  refine ab_istore_n (L' := [(3, .int (8191 : Int32)), (2, .int (0 : Int32)), (0, .ref (4 + s)), (1, .int (nI n))]) de_R_read_5 (by decide) rfl ?_
  refine ab_iconst (v := 0) de_R_read_6 rfl ?_
  refine ab_istore (L' := [(4, .int (0 : Int32)), (3, .int (8191 : Int32)), (2, .int (0 : Int32)), (0, .ref (4 + s)), (1, .int (nI n))]) de_R_read_7 (by decide) rfl ?_
  refine ab_iconst (v := 0) de_R_read_9 rfl ?_
  refine ab_istore (L' := [(5, .int (0 : Int32)), (4, .int (0 : Int32)), (3, .int (8191 : Int32)), (2, .int (0 : Int32)), (0, .ref (4 + s)), (1, .int (nI n))]) de_R_read_10 (by decide) rfl ?_
  refine ab_iconst (v := 0) de_R_read_12 rfl ?_
  refine ab_istore (L' := [(6, .int (0 : Int32)), (5, .int (0 : Int32)), (4, .int (0 : Int32)), (3, .int (8191 : Int32)), (2, .int (0 : Int32)), (0, .ref (4 + s)), (1, .int (nI n))]) de_R_read_13 (by decide) rfl ?_
  refine ab_sub (L' := [(0, .ref (4 + s)), (1, .int (nI n)), (2, .int (nI (sp_rs f 0).1)), (3, .int (nI (sp_rs f 0).2.1)), (4, .int (nI (sp_rs f 0).2.2.1)), (5, .int (ab_bz (sp_rs f 0).2.2.2)), (6, .int (nI 0))]) [5, 6, 4, 3, 2, 1, 0] rfl ?_
  exact lp_R_read l d nr h g rr hs hn hf (n + 1) 0 (by omega) (by omega) (fun j hj => absurd hj (Nat.not_lt_zero j))
