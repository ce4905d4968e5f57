theorem ct_vl0 (l : Launch) (nr : Nat) (h : Nat → Nat → Int32) (g : Nat → Nat → Int64) (rr : Nat → Option Nat) {T : Nat → Nat → Nat} (hT : bo_T T h 17) (hO : sp_ok T) {m i t c : Nat} (hm : m < 4096) (hi : i < 4096) (ht : t < 2) (hc : c < 4096) (hd : sp_dj m i) (e : Nat) : ab_C l am_B_valueOf (e + 5) 0 0 [.ref 16, .int (nI (sp_en m i t)), .int (nI c), .int (nI 0)] (ab_S nr h g rr) (fun (r_ : Option Value) (M' : ab_Me) => r_ = some (.int (sp_vl T c 0 m i)) ∧ M' = (ab_S nr h g rr)) := ct_B_valueOf_0 l e nr h g rr hT hO hm hi ht hc
theorem ct_vl1 (l : Launch) (nr : Nat) (h : Nat → Nat → Int32) (g : Nat → Nat → Int64) (rr : Nat → Option Nat) {T : Nat → Nat → Nat} (hT : bo_T T h 17) (hO : sp_ok T) {m i t c : Nat} (hm : m < 4096) (hi : i < 4096) (ht : t < 2) (hc : c < 4096) (hd : sp_dj m i) (e : Nat) : ab_C l am_B_valueOf (e + 7) 0 0 [.ref 16, .int (nI (sp_en m i t)), .int (nI c), .int (nI 1)] (ab_S nr h g rr) (fun (r_ : Option Value) (M' : ab_Me) => r_ = some (.int (sp_vl T c 1 m i)) ∧ M' = (ab_S nr h g rr)) :=
  ct_B_valueOf_s l 0 nr h g rr hT hO (n := 0) (e := e + 0) hm hi ht hc hd (by decide) (fun h1 h2 h3 h4 => ct_vl0 l nr h g rr hT hO h1 h2 h3 hc h4 e) (fun h1 h2 h3 h4 => ct_vl0 l nr h g rr hT hO h1 h2 h3 hc h4 (e + 1))
theorem ct_vl2 (l : Launch) (nr : Nat) (h : Nat → Nat → Int32) (g : Nat → Nat → Int64) (rr : Nat → Option Nat) {T : Nat → Nat → Nat} (hT : bo_T T h 17) (hO : sp_ok T) {m i t c : Nat} (hm : m < 4096) (hi : i < 4096) (ht : t < 2) (hc : c < 4096) (hd : sp_dj m i) (e : Nat) : ab_C l am_B_valueOf (e + 9) 0 0 [.ref 16, .int (nI (sp_en m i t)), .int (nI c), .int (nI 2)] (ab_S nr h g rr) (fun (r_ : Option Value) (M' : ab_Me) => r_ = some (.int (sp_vl T c 2 m i)) ∧ M' = (ab_S nr h g rr)) :=
  ct_B_valueOf_s l 0 nr h g rr hT hO (n := 1) (e := e + 2) hm hi ht hc hd (by decide) (fun h1 h2 h3 h4 => ct_vl1 l nr h g rr hT hO h1 h2 h3 hc h4 e) (fun h1 h2 h3 h4 => ct_vl1 l nr h g rr hT hO h1 h2 h3 hc h4 (e + 1))
theorem ct_vl3 (l : Launch) (nr : Nat) (h : Nat → Nat → Int32) (g : Nat → Nat → Int64) (rr : Nat → Option Nat) {T : Nat → Nat → Nat} (hT : bo_T T h 17) (hO : sp_ok T) {m i t c : Nat} (hm : m < 4096) (hi : i < 4096) (ht : t < 2) (hc : c < 4096) (hd : sp_dj m i) (e : Nat) : ab_C l am_B_valueOf (e + 11) 0 0 [.ref 16, .int (nI (sp_en m i t)), .int (nI c), .int (nI 3)] (ab_S nr h g rr) (fun (r_ : Option Value) (M' : ab_Me) => r_ = some (.int (sp_vl T c 3 m i)) ∧ M' = (ab_S nr h g rr)) :=
  ct_B_valueOf_s l 0 nr h g rr hT hO (n := 2) (e := e + 4) hm hi ht hc hd (by decide) (fun h1 h2 h3 h4 => ct_vl2 l nr h g rr hT hO h1 h2 h3 hc h4 e) (fun h1 h2 h3 h4 => ct_vl2 l nr h g rr hT hO h1 h2 h3 hc h4 (e + 1))
theorem ct_B_valueOf (l : Launch) (e : Nat) (nr : Nat) (h : Nat → Nat → Int32) (g : Nat → Nat → Int64) (rr : Nat → Option Nat) {T : Nat → Nat → Nat} (hT : bo_T T h 17) (hO : sp_ok T) {m i t c : Nat} (hm : m < 4096) (hi : i < 4096) (ht : t < 2) (hc : c < 4096) (hd : sp_dj m i) {n : Nat} (hn : n < 4) : ab_C l am_B_valueOf (e + 11) 0 0 [.ref 16, .int (nI (sp_en m i t)), .int (nI c), .int (nI n)] (ab_S nr h g rr) (fun (r_ : Option Value) (M' : ab_Me) => r_ = some (.int (sp_vl T c n m i)) ∧ M' = (ab_S nr h g rr)) := by
  rcases (by omega : n = 0 ∨ n = 1 ∨ n = 2 ∨ n = 3) with rfl | rfl | rfl | rfl
  · exact ct_vl0 l nr h g rr hT hO hm hi ht hc hd (e + 6)
  · exact ct_vl1 l nr h g rr hT hO hm hi ht hc hd (e + 4)
  · exact ct_vl2 l nr h g rr hT hO hm hi ht hc hd (e + 2)
  · exact ct_vl3 l nr h g rr hT hO hm hi ht hc hd e
def sp_bo (T : Nat → Nat → Nat) (c n m i : Nat) : Int32 := (sp_bl (fun x => sp_vl T c n (sp_d2 T (sp_lv T c m i) m i x) (sp_d1 T (sp_lv T c m i) m i x)) (sp_ml T (sp_lv T c m i) m i) (-1, 2)).1
theorem ct_B_best (l : Launch) (e : Nat) (nr : Nat) (h : Nat → Nat → Int32) (g : Nat → Nat → Int64) (rr : Nat → Option Nat) {T : Nat → Nat → Nat} (hT : bo_T T h 17) (hO : sp_ok T) {m i t c : Nat} (hm : m < 4096) (hi : i < 4096) (ht : t < 2) (hc : c < 4096) (hd : sp_dj m i) {n : Nat} (hn : n < 3) : ab_C l am_B_bestOf (e + 10) 0 0 [.ref 16, .int (nI (sp_en m i t)), .int (nI c), .int (nI (n + 1))] (ab_S nr h g rr) (fun (r_ : Option Value) (M' : ab_Me) => r_ = some (.int (sp_bo T c n m i)) ∧ M' = (ab_S nr h g rr)) := by
  rcases (by omega : n = 0 ∨ n = 1 ∨ n = 2) with rfl | rfl | rfl
  · exact ct_B_bestOf l 0 nr h g rr hT hO (n := 0) (e := e + 4) hm hi ht hc hd (by decide) (fun h1 h2 h3 h4 => ct_vl0 l nr h g rr hT hO h1 h2 h3 hc h4 (e + 4))
  · exact ct_B_bestOf l 0 nr h g rr hT hO (n := 1) (e := e + 4) hm hi ht hc hd (by decide) (fun h1 h2 h3 h4 => ct_vl1 l nr h g rr hT hO h1 h2 h3 hc h4 (e + 2))
  · exact ct_B_bestOf l 0 nr h g rr hT hO (n := 2) (e := e + 4) hm hi ht hc hd (by decide) (fun h1 h2 h3 h4 => ct_vl2 l nr h g rr hT hO h1 h2 h3 hc h4 e)
def sp_tt (T : Nat → Nat → Nat) : Nat := sp_sum (fun j => sp_cn (T (j / 12) (j % 12))) 36
theorem sp_sum_le {f : Nat → Nat} {b : Nat} (hf : ∀ j, f j ≤ b) : ∀ n, sp_sum f n ≤ n * b
  | 0 => Nat.zero_le _
  | n + 1 => by
    rw [sp_sum, Nat.succ_mul]
    exact Nat.add_le_add (sp_sum_le hf n) (hf n)
set_option maxHeartbeats 1000000 in
set_option maxRecDepth 10000 in
theorem lp_B_tieCount (l : Launch) (d : Nat) (nr : Nat) (h : Nat → Nat → Int32) (g : Nat → Nat → Int64) (rr : Nat → Option Nat) {T : Nat → Nat → Nat} (hT : bo_T T h 17) (hO : sp_ok T) : ∀ (fu_ j : Nat), j ≤ 36 → 36 < j + fu_ → ab_G l none am_B_tieCount (d + 1) 0 0 4 [(0, .ref 16), (1, .int (nI (sp_sum (fun j => sp_cn (T (j / 12) (j % 12))) j))), (2, .int (nI j))] [] (ab_S nr h g rr) (fun (r_ : Option Value) (M' : ab_Me) => r_ = some (.int (nI (sp_tt T / 2))) ∧ M' = (ab_S nr h g rr)) := by
  intro fu_
  induction fu_ with
  | zero => intro j  h1 h2; omega
  | succ fu_ ih =>
    intro j  hN_ hn_ 
    refine ab_iload_n de_B_tieCount_4 2 rfl ?_
    refine ab_aload_n de_B_tieCount_5 0 rfl ?_
    refine ab_get (v := .ref 17) fl_B_9 rfl rfl de_B_tieCount_6 ?_
    refine ab_alen (v := 36) rfl rfl de_B_tieCount_9 ?_
    refine ab_icmp_ge (tgt := 31) de_B_tieCount_10 rfl (fun c_10_1 => ?_) (fun c_10_1 => ?_)
    · have hj := ab_le_of (n := 36) (by decide) (by omega) rfl c_10_1
      refine ab_iload_n de_B_tieCount_31 1 rfl ?_
      refine ab_iconst (v := 2) de_B_tieCount_32 rfl ?_
      refine ab_idiv de_B_tieCount_33 (by decide) ?_
      exact ab_ret (v := some (.int ((nI (sp_sum (fun j => sp_cn (T (j / 12) (j % 12))) j)) / (2 : Int32)))) de_B_tieCount_34 ⟨_, rfl⟩ ⟨congrArg (fun z => some (Value.int z)) (by rw [show j = 36 by omega, show (2 : Int32) = nI 2 from rfl, pk_div (by have := sp_sum_le (f := fun j => sp_cn (T (j / 12) (j % 12))) (b := 12) (fun j => sp_cn_le _) 36; omega) (by decide) (by decide)]; rfl), rfl⟩
    · have hj := ab_nle_of (n := 36) (by decide) (by omega) rfl c_10_1
      refine ab_iload_n de_B_tieCount_13 1 rfl ?_
      refine ab_aload_n de_B_tieCount_14 0 rfl ?_
      refine ab_get (v := .ref 17) fl_B_9 rfl rfl de_B_tieCount_15 ?_
      refine ab_iload_n de_B_tieCount_18 2 rfl ?_
      refine ab_iald (v := h 17 j) rfl (ab_in (by omega) (by decide)) (ab_hv (ab_tn (by omega))) de_B_tieCount_19 ?_
      refine ab_top (v' := nI (T (j / 12) (j % 12))) (by have := hT (j / 12) (j % 12) (by omega) (by omega); rwa [Nat.div_add_mod] at this) ?_
      refine ab_cS (as := [.int (nI (T (j / 12) (j % 12)))]) (st := [.int (nI (sp_sum (fun j => sp_cn (T (j / 12) (j % 12))) j))]) (ct_I_bitCount l _ (ab_S nr h g rr) (m := T (j / 12) (j % 12)) (hO.lt (by omega) (by omega))) mo_I_bitCount ms_I_bitCount ml_B_15 rfl rfl (Nat.le_of_ble_eq_true rfl) de_B_tieCount_20 (fun v_ M_ hK_ hl_ hv_ => ?_)
      obtain ⟨rfl, hm_⟩ := hK_
      have hm_ := hm_.symm
      subst hm_
      change ab_G _ _ _ _ _ _ _ [(0, .ref 16), (1, .int (nI (sp_sum (fun j => sp_cn (T (j / 12) (j % 12))) j))), (2, .int (nI j))] [.int (nI (sp_cn (T (j / 12) (j % 12)))), .int (nI (sp_sum (fun j => sp_cn (T (j / 12) (j % 12))) j))] (ab_S nr h g rr) _
      refine ab_iadd de_B_tieCount_23 ?_
      refine ab_top (v' := nI (sp_sum (fun j => sp_cn (T (j / 12) (j % 12))) (j + 1))) (ab_add _ _) ?_
      refine ab_istore_n (L' := [(1, .int (nI (sp_sum (fun j => sp_cn (T (j / 12) (j % 12))) (j + 1)))), (0, .ref 16), (2, .int (nI j))]) de_B_tieCount_24 (by decide) rfl ?_
      refine ab_iinc (v := nI (j + 1)) (L' := [(2, .int (nI (j + 1))), (1, .int (nI (sp_sum (fun j => sp_cn (T (j / 12) (j % 12))) (j + 1)))), (0, .ref 16)]) de_B_tieCount_25 2 rfl (by rw [show Int32.ofInt 1 = nI 1 from rfl, ab_add]) (by decide) rfl ?_
      refine ab_goto (tgt := 4) de_B_tieCount_28 rfl ?_
      refine ab_sub (L' := [(0, .ref 16), (1, .int (nI (sp_sum (fun j => sp_cn (T (j / 12) (j % 12))) (j + 1)))), (2, .int (nI (j + 1)))]) [2, 1, 0] rfl ?_
      exact ih (j + 1)  (by omega) (by omega) 
set_option maxHeartbeats 1000000 in
set_option maxRecDepth 10000 in
theorem ct_B_tieCount (l : Launch) (d : Nat) (nr : Nat) (h : Nat → Nat → Int32) (g : Nat → Nat → Int64) (rr : Nat → Option Nat) {T : Nat → Nat → Nat} (hT : bo_T T h 17) (hO : sp_ok T) : ab_C l am_B_tieCount (d + 1) 0 0 [.ref 16] (ab_S nr h g rr) (fun (r_ : Option Value) (M' : ab_Me) => r_ = some (.int (nI (sp_tt T / 2))) ∧ M' = (ab_S nr h g rr)) := by
  refine ab_C_of (by decide +kernel) rfl (Nat.le_of_ble_eq_true rfl) ?_
  refine ab_iconst (v := 0) de_B_tieCount_0 rfl ?_
  refine ab_istore_n (L' := [(1, .int (0 : Int32)), (0, .ref 16)]) de_B_tieCount_1 (by decide) rfl ?_
  refine ab_iconst (v := 0) de_B_tieCount_2 rfl ?_
  refine ab_istore_n (L' := [(2, .int (0 : Int32)), (1, .int (0 : Int32)), (0, .ref 16)]) de_B_tieCount_3 (by decide) rfl ?_
  refine ab_sub (L' := [(0, .ref 16), (1, .int (0 : Int32)), (2, .int (0 : Int32))]) [2, 1, 0] rfl ?_
  exact lp_B_tieCount l d nr h g rr hT hO 37 0 (by omega) (by omega)
def sp_vm (n : Nat) : Bool := decide (n < 252 ∧ n % 16 < 12 ∧ (n / 16 = 15 ∨ (n / 16 < 12 ∧ n / 16 ≠ n % 16)))
theorem sp_vm_iff (n : Nat) : sp_vm n = true ↔ sp_mv n := decide_eq_true_iff
/-- an int that is a MOVE with POINTS -/
def sp_im (x : Int32) : Bool := decide (0 ≤ x) && sp_vm x.toNatClampNeg
theorem sp_im_n {n : Nat} (hn : n < 2 ^ 31) : sp_im (nI n) = sp_vm n := by
  unfold sp_im
  rw [ab_tn hn, decide_eq_true (show (0 : Int32) ≤ nI n from (ab_le (a := 0) (by decide) hn).mpr (Nat.zero_le _))]
  rfl
theorem sp_neg_shr {x : Int32} (h : x < 0) : x >>> ((4 : Int32) &&& (31 : Int32)) < 0 := by
  have hs : ((4 : Int32) &&& (31 : Int32)).toBitVec.smod 32 = 4#32 := by decide
  rw [Int32.lt_iff_toInt_lt] at h ⊢
  show (x.toBitVec.sshiftRight' (((4 : Int32) &&& (31 : Int32)).toBitVec.smod 32)).toInt < (0 : Int32).toInt
  rw [hs, BitVec.sshiftRight_eq', BitVec.toInt_sshiftRight]
  have h0 : (0 : Int32).toInt = 0 := rfl
  rw [h0] at h ⊢
  have h1 : x.toBitVec.toInt < 0 := h
  rw [show (4#32).toNat = 4 from rfl, Int.shiftRight_eq_div_pow]
  omega
theorem sp_pt_neg {x : Int32} (h : x < 0) : sp_pt x = false := decide_eq_false (fun z => absurd h (Int32.not_lt.mpr z.1))
theorem sp_im_neg {x : Int32} (h : x < 0) : sp_im x = false := by
  unfold sp_im
  rw [decide_eq_false (Int32.not_le.mpr h)]
  rfl
theorem sp_n15 {x : Int32} (h : x < 0) : ¬ x = 15 := fun e => by subst e; exact absurd h (by decide)
theorem fb_rng' (x : Int32) : -2147483648 ≤ x.toInt ∧ x.toInt < 2147483648 := by
  have h1 := Int32.le_toInt x
  have h2 := Int32.toInt_lt x
  constructor <;> omega
theorem sp_nn {x : Int32} (h : ¬ x < 0) : ∃ n, n < 2 ^ 31 ∧ x = nI n := by
  have h1 : (0 : Int32) ≤ x := Int32.not_lt.mp h
  have h2 := Int32.le_iff_toInt_le.mp h1
  have h3 : (0 : Int32).toInt = 0 := rfl
  have h4 := (fb_rng' x)
  refine ⟨x.toInt.toNat, by omega, ?_⟩
  apply Int32.toInt_inj.mp
  rw [nI_toInt (by omega)]
  omega
theorem ct_B_isMove_neg (l : Launch) (d : Nat) (M : ab_Me) {x : Int32} (hx : x < 0) : ab_C l am_B_isMove (d + 1) 0 0 [.int x] M (fun (r_ : Option Value) (M' : ab_Me) => r_ = some (.int (ab_bz (sp_im x))) ∧ M' = M) := by
  refine ab_C_of (by decide +kernel) rfl (Nat.le_of_ble_eq_true rfl) ?_
  refine ab_iload_n de_B_isMove_0 0 rfl ?_
  refine ab_iconst (v := 4) de_B_isMove_1 rfl ?_
  refine ab_ishr de_B_isMove_2 ?_
  refine ab_istore_n (L' := [(1, .int (x >>> ((4 : Int32) &&& (31 : Int32)))), (0, .int x)]) de_B_isMove_3 (by decide) rfl ?_
  refine ab_iload_n de_B_isMove_4 1 rfl ?_
  refine ab_bipush (v := 15) de_B_isMove_5 rfl ?_
  refine ab_iand de_B_isMove_7 ?_
  refine ab_istore_n (L' := [(2, .int (x &&& (15 : Int32))), (1, .int (x >>> ((4 : Int32) &&& (31 : Int32)))), (0, .int x)]) de_B_isMove_8 (by decide) rfl ?_
  refine ab_iload_n de_B_isMove_9 0 rfl ?_
  refine ab_cS (as := [.int (x &&& (15 : Int32))]) (st := []) (ct_W_isPoint l _ M (x &&& (15 : Int32))) mo_W_isPoint ms_W_isPoint ml_B_25 rfl rfl (Nat.le_of_ble_eq_true rfl) de_B_isMove_10 (fun v_ M_ hK_ hl_ hv_ => ?_)
  obtain ⟨rfl, hm_⟩ := hK_
  have hm_ := hm_.symm
  subst hm_
  change ab_G _ _ _ _ _ _ _ [(2, .int (x &&& (15 : Int32))), (1, .int (x >>> ((4 : Int32) &&& (31 : Int32)))), (0, .int x)] [.int (ab_bz (sp_pt (x &&& (15 : Int32))))] M _
  refine ab_if_eq (tgt := 38) de_B_isMove_13 rfl (fun c_13_1 => ?_) (fun c_13_1 => ?_)
  · refine ab_iconst (v := 0) de_B_isMove_38 rfl ?_
    exact ab_ret (v := some (.int (0 : Int32))) de_B_isMove_39 ⟨_, rfl, rfl⟩ ⟨congrArg (fun z => some (Value.int z)) (ab_bz_f (sp_im_neg hx)), rfl⟩
  · refine ab_iload_n de_B_isMove_16 1 rfl ?_
    refine ab_bipush (v := 15) de_B_isMove_17 rfl ?_
    refine ab_icmp_eq (tgt := 34) de_B_isMove_19 rfl (fun c_19_2 => ?_) (fun c_19_2 => ?_)
    · exact absurd c_19_2 (sp_n15 (sp_neg_shr hx))
    · refine ab_iload_n de_B_isMove_22 1 rfl ?_
      refine ab_cS (as := [.int (x >>> ((4 : Int32) &&& (31 : Int32)))]) (st := []) (ct_W_isPoint l _ M (x >>> ((4 : Int32) &&& (31 : Int32)))) mo_W_isPoint ms_W_isPoint ml_B_25 rfl rfl (Nat.le_of_ble_eq_true rfl) de_B_isMove_23 (fun v_ M_ hK_ hl_ hv_ => ?_)
      obtain ⟨rfl, hm_⟩ := hK_
      have hm_ := hm_.symm
      subst hm_
      change ab_G _ _ _ _ _ _ _ [(2, .int (x &&& (15 : Int32))), (1, .int (x >>> ((4 : Int32) &&& (31 : Int32)))), (0, .int x)] [.int (ab_bz (sp_pt (x >>> ((4 : Int32) &&& (31 : Int32)))))] M _
      refine ab_if_eq (tgt := 38) de_B_isMove_26 rfl (fun c_26_3 => ?_) (fun c_26_3 => ?_)
      · refine ab_iconst (v := 0) de_B_isMove_38 rfl ?_
        exact ab_ret (v := some (.int (0 : Int32))) de_B_isMove_39 ⟨_, rfl, rfl⟩ ⟨congrArg (fun z => some (Value.int z)) (ab_bz_f (sp_im_neg hx)), rfl⟩
      · exact absurd ((ab_bz0 _).mpr (sp_pt_neg (sp_neg_shr hx))) c_26_3
theorem bo_fr {n : Nat} (hn : n < 2 ^ 31) : nI n >>> ((4 : Int32) &&& (31 : Int32)) = nI (n / 16) := (ab_shr (k := 4) hn (by decide)).trans (by rw [sp_sr])
theorem ct_B_isMove_n (l : Launch) (d : Nat) (M : ab_Me) {n : Nat} (hn : n < 2 ^ 31) : ab_C l am_B_isMove (d + 1) 0 0 [.int (nI n)] M (fun (r_ : Option Value) (M' : ab_Me) => r_ = some (.int (ab_bz (sp_vm n))) ∧ M' = M) := by
  refine ab_C_of (by decide +kernel) rfl (Nat.le_of_ble_eq_true rfl) ?_
  refine ab_iload_n de_B_isMove_0 0 rfl ?_
  refine ab_iconst (v := 4) de_B_isMove_1 rfl ?_
  refine ab_ishr de_B_isMove_2 ?_
  refine ab_top (v' := nI (n / 16)) (bo_fr hn) ?_
  refine ab_istore_n (L' := [(1, .int (nI (n / 16))), (0, .int (nI n))]) de_B_isMove_3 (by decide) rfl ?_
  refine ab_iload_n de_B_isMove_4 1 rfl ?_
  refine ab_bipush (v := 15) de_B_isMove_5 rfl ?_
  refine ab_iand de_B_isMove_7 ?_
  refine ab_top (v' := nI (n % 16)) (bo_to n) ?_
  refine ab_istore_n (L' := [(2, .int (nI (n % 16))), (1, .int (nI (n / 16))), (0, .int (nI n))]) de_B_isMove_8 (by decide) rfl ?_
  refine ab_iload_n de_B_isMove_9 0 rfl ?_
  refine ab_cS (as := [.int (nI (n % 16))]) (st := []) (ct_W_isPoint l _ M (nI (n % 16))) mo_W_isPoint ms_W_isPoint ml_B_25 rfl rfl (Nat.le_of_ble_eq_true rfl) de_B_isMove_10 (fun v_ M_ hK_ hl_ hv_ => ?_)
  obtain ⟨rfl, hm_⟩ := hK_
  have hm_ := hm_.symm
  subst hm_
  change ab_G _ _ _ _ _ _ _ [(2, .int (nI (n % 16))), (1, .int (nI (n / 16))), (0, .int (nI n))] [.int (ab_bz (sp_pt (nI (n % 16))))] M _
  refine ab_if_eq (tgt := 38) de_B_isMove_13 rfl (fun c_13_1 => ?_) (fun c_13_1 => ?_)
  · refine ab_iconst (v := 0) de_B_isMove_38 rfl ?_
    exact ab_ret (v := some (.int (0 : Int32))) de_B_isMove_39 ⟨_, rfl, rfl⟩ ⟨congrArg (fun z => some (Value.int z)) (by have f13 : decide (n % 16 < 12) = false := (by have z := (ab_bz0 _).mp c_13_1; rw [sp_pt_n (by omega)] at z; exact z); simp only [decide_eq_true_eq, decide_eq_false_iff_not] at *; exact ab_bz_f (decide_eq_false (by omega))), rfl⟩
  · refine ab_iload_n de_B_isMove_16 1 rfl ?_
    refine ab_bipush (v := 15) de_B_isMove_17 rfl ?_
    refine ab_icmp_eq (tgt := 34) de_B_isMove_19 rfl (fun c_19_2 => ?_) (fun c_19_2 => ?_)
    · refine ab_iconst (v := 1) de_B_isMove_34 rfl ?_
      refine ab_goto (tgt := 39) de_B_isMove_35 rfl ?_
      exact ab_ret (v := some (.int (1 : Int32))) de_B_isMove_39 ⟨_, rfl, rfl⟩ ⟨congrArg (fun z => some (Value.int z)) (by have f13 : decide (n % 16 < 12) = true := (by have z := (ab_bz1 _).mp c_13_1; rw [sp_pt_n (by omega)] at z; exact z); have f19 : n / 16 = 15 := (ab_inj (a := n / 16) (b := 15) (by omega) (by decide)).mp c_19_2; simp only [decide_eq_true_eq, decide_eq_false_iff_not] at *; exact ab_bz_t (decide_eq_true (by omega))), rfl⟩
    · refine ab_iload_n de_B_isMove_22 1 rfl ?_
      refine ab_cS (as := [.int (nI (n / 16))]) (st := []) (ct_W_isPoint l _ M (nI (n / 16))) mo_W_isPoint ms_W_isPoint ml_B_25 rfl rfl (Nat.le_of_ble_eq_true rfl) de_B_isMove_23 (fun v_ M_ hK_ hl_ hv_ => ?_)
      obtain ⟨rfl, hm_⟩ := hK_
      have hm_ := hm_.symm
      subst hm_
      change ab_G _ _ _ _ _ _ _ [(2, .int (nI (n % 16))), (1, .int (nI (n / 16))), (0, .int (nI n))] [.int (ab_bz (sp_pt (nI (n / 16))))] M _
      refine ab_if_eq (tgt := 38) de_B_isMove_26 rfl (fun c_26_3 => ?_) (fun c_26_3 => ?_)
      · refine ab_iconst (v := 0) de_B_isMove_38 rfl ?_
        exact ab_ret (v := some (.int (0 : Int32))) de_B_isMove_39 ⟨_, rfl, rfl⟩ ⟨congrArg (fun z => some (Value.int z)) (by have f13 : decide (n % 16 < 12) = true := (by have z := (ab_bz1 _).mp c_13_1; rw [sp_pt_n (by omega)] at z; exact z); have f19 : ¬ n / 16 = 15 := fun z => c_19_2 (by rw [z]; rfl); have f26 : decide (n / 16 < 12) = false := (by have z := (ab_bz0 _).mp c_26_3; rw [sp_pt_n (by omega)] at z; exact z); simp only [decide_eq_true_eq, decide_eq_false_iff_not] at *; exact ab_bz_f (decide_eq_false (by omega))), rfl⟩
      · refine ab_iload_n de_B_isMove_29 1 rfl ?_
        refine ab_iload_n de_B_isMove_30 0 rfl ?_
        refine ab_icmp_eq (tgt := 38) de_B_isMove_31 rfl (fun c_31_4 => ?_) (fun c_31_4 => ?_)
        · refine ab_iconst (v := 0) de_B_isMove_38 rfl ?_
          exact ab_ret (v := some (.int (0 : Int32))) de_B_isMove_39 ⟨_, rfl, rfl⟩ ⟨congrArg (fun z => some (Value.int z)) (by have f13 : decide (n % 16 < 12) = true := (by have z := (ab_bz1 _).mp c_13_1; rw [sp_pt_n (by omega)] at z; exact z); have f19 : ¬ n / 16 = 15 := fun z => c_19_2 (by rw [z]; rfl); have f26 : decide (n / 16 < 12) = true := (by have z := (ab_bz1 _).mp c_26_3; rw [sp_pt_n (by omega)] at z; exact z); have f31 : n / 16 = n % 16 := (ab_inj (by omega) (by omega)).mp c_31_4; simp only [decide_eq_true_eq, decide_eq_false_iff_not] at *; exact ab_bz_f (decide_eq_false (by omega))), rfl⟩
        · refine ab_iconst (v := 1) de_B_isMove_34 rfl ?_
          refine ab_goto (tgt := 39) de_B_isMove_35 rfl ?_
          exact ab_ret (v := some (.int (1 : Int32))) de_B_isMove_39 ⟨_, rfl, rfl⟩ ⟨congrArg (fun z => some (Value.int z)) (by have f13 : decide (n % 16 < 12) = true := (by have z := (ab_bz1 _).mp c_13_1; rw [sp_pt_n (by omega)] at z; exact z); have f19 : ¬ n / 16 = 15 := fun z => c_19_2 (by rw [z]; rfl); have f26 : decide (n / 16 < 12) = true := (by have z := (ab_bz1 _).mp c_26_3; rw [sp_pt_n (by omega)] at z; exact z); have f31 : ¬ n / 16 = n % 16 := fun z => c_31_4 (by rw [z]); simp only [decide_eq_true_eq, decide_eq_false_iff_not] at *; exact ab_bz_t (decide_eq_true (by omega))), rfl⟩
theorem ct_B_isMove (l : Launch) (d : Nat) (M : ab_Me) (x : Int32) : ab_C l am_B_isMove (d + 1) 0 0 [.int x] M (fun (r_ : Option Value) (M' : ab_Me) => r_ = some (.int (ab_bz (sp_im x))) ∧ M' = M) := by
  by_cases h : x < 0
  · exact ct_B_isMove_neg l d M h
  · obtain ⟨n, hn, rfl⟩ := sp_nn h
    rw [sp_im_n hn]
    exact ct_B_isMove_n l d M hn
