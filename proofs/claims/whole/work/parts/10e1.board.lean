theorem bo_on {s p : Nat} (hs : s < 33554432) (hp : p < 12) : (nI s >>> (nI p &&& (31 : Int32)) &&& (1 : Int32)) + (2 : Int32) * (nI s >>> (((12 : Int32) + nI p) &&& (31 : Int32)) &&& (1 : Int32)) = nI ((s.testBit p).toNat + 2 * (s.testBit (12 + p)).toNat) := by
  rw [sp_bitne s p (by omega) (by omega), show (12 : Int32) = nI 12 from rfl, ab_add, sp_bitne s (12 + p) (by omega) (by omega), show (2 : Int32) = nI 2 from rfl, ab_mul, ab_add]
theorem bo_with {s p v : Nat} (hs : s < 33554432) (hp : p < 12) (hv : v < 3) : ((nI s &&& (((1 : Int32) <<< (nI p &&& (31 : Int32)) ||| (1 : Int32) <<< (((12 : Int32) + nI p) &&& (31 : Int32))) ^^^ (-1 : Int32))) ||| (nI v &&& (1 : Int32)) <<< (nI p &&& (31 : Int32))) ||| (nI v >>> ((1 : Int32) &&& (31 : Int32)) &&& (1 : Int32)) <<< (((12 : Int32) + nI p) &&& (31 : Int32)) = nI (sp_wi s p v) := by
  generalize hz : (-1 : Int32) = z
  rw [show (12 : Int32) = nI 12 from rfl, ab_add, show (1 : Int32) = nI 1 from rfl, ab_shl 1 (by omega), ab_shl 1 (by omega), ab_or, ← hz, sp_notb hs, ab_and, ab_shl _ (by omega), ab_or, ab_shr (by omega) (by decide), ab_and, ab_shl _ (by omega), ab_or]
  rw [Nat.one_shiftLeft, Nat.one_shiftLeft, sp_1m, sp_1m, sp_sr]
  rfl
set_option maxHeartbeats 1000000 in
set_option maxRecDepth 10000 in
theorem ct_B_on (l : Launch) (d : Nat) (M : ab_Me) {m i t p : Nat} (hm : m < 4096) (hi : i < 4096) (ht : t < 2) (hp : p < 12) (hd : ¬ (m.testBit p = true ∧ i.testBit p = true)) : ab_C l am_B_on d 0 0 [.int (nI (sp_en m i t)), .int (nI p)] M (fun (r_ : Option Value) (M' : ab_Me) => r_ = some (.int (nI (sp_wv (sp_who m i p) t))) ∧ M' = M) := by
  refine ab_C_of (by decide +kernel) rfl (Nat.le_of_ble_eq_true rfl) ?_
  refine ab_iload_n de_B_on_0 0 rfl ?_
  refine ab_iload_n de_B_on_1 1 rfl ?_
  refine ab_ishr de_B_on_2 ?_
  refine ab_iconst (v := 1) de_B_on_3 rfl ?_
  refine ab_iand de_B_on_4 ?_
  refine ab_iconst (v := 2) de_B_on_5 rfl ?_
  refine ab_iload_n de_B_on_6 0 rfl ?_
  refine ab_bipush (v := 12) de_B_on_7 rfl ?_
  refine ab_iload_n de_B_on_9 1 rfl ?_
  refine ab_iadd de_B_on_10 ?_
  refine ab_ishr de_B_on_11 ?_
  refine ab_iconst (v := 1) de_B_on_12 rfl ?_
  refine ab_iand de_B_on_13 ?_
  refine ab_imul de_B_on_14 ?_
  refine ab_iadd de_B_on_15 ?_
  exact ab_ret (v := some (.int ((((nI (sp_en m i t)) >>> ((nI p) &&& (31 : Int32))) &&& (1 : Int32)) + ((2 : Int32) * (((nI (sp_en m i t)) >>> (((12 : Int32) + (nI p)) &&& (31 : Int32))) &&& (1 : Int32)))))) de_B_on_16 ⟨_, rfl⟩ ⟨congrArg (fun z => some (Value.int z)) ((bo_on (sp_en_lt hm hi) hp).trans (congrArg nI (sp_on_en hm hi ht hp hd))), rfl⟩
set_option maxHeartbeats 1000000 in
set_option maxRecDepth 10000 in
theorem ct_B_with (l : Launch) (d : Nat) (M : ab_Me) {m i t p w : Nat} (hm : m < 4096) (hi : i < 4096) (ht : t < 2) (hp : p < 12) (hw : w < 3) : ab_C l am_B_with d 0 0 [.int (nI (sp_en m i t)), .int (nI p), .int (nI (sp_wv w t))] M (fun (r_ : Option Value) (M' : ab_Me) => r_ = some (.int (nI (sp_en (if w = 1 then sp_set m p else sp_clr m p) (if w = 2 then sp_set i p else sp_clr i p) t))) ∧ M' = M) := by
  refine ab_C_of (by decide +kernel) rfl (Nat.le_of_ble_eq_true rfl) ?_
  refine ab_iload_n de_B_with_0 0 rfl ?_
  refine ab_iconst (v := 1) de_B_with_1 rfl ?_
  refine ab_iload_n de_B_with_2 1 rfl ?_
  refine ab_ishl de_B_with_3 ?_
  refine ab_iconst (v := 1) de_B_with_4 rfl ?_
  refine ab_bipush (v := 12) de_B_with_5 rfl ?_
  refine ab_iload_n de_B_with_7 1 rfl ?_
  refine ab_iadd de_B_with_8 ?_
  refine ab_ishl de_B_with_9 ?_
  refine ab_ior de_B_with_10 ?_
  refine ab_iconst (v := -1) de_B_with_11 rfl ?_
  refine ab_ixor de_B_with_12 ?_
  refine ab_iand de_B_with_13 ?_
  refine ab_istore_n (L' := [(3, .int ((nI (sp_en m i t)) &&& ((((1 : Int32) <<< ((nI p) &&& (31 : Int32))) ||| ((1 : Int32) <<< (((12 : Int32) + (nI p)) &&& (31 : Int32)))) ^^^ (-1 : Int32)))), (0, .int (nI (sp_en m i t))), (1, .int (nI p)), (2, .int (nI (sp_wv w t)))]) de_B_with_14 (by decide) rfl ?_
  refine ab_iload_n de_B_with_15 0 rfl ?_
  refine ab_iload_n de_B_with_16 3 rfl ?_
  refine ab_iconst (v := 1) de_B_with_17 rfl ?_
  refine ab_iand de_B_with_18 ?_
  refine ab_iload_n de_B_with_19 2 rfl ?_
  refine ab_ishl de_B_with_20 ?_
  refine ab_ior de_B_with_21 ?_
  refine ab_iload_n de_B_with_22 3 rfl ?_
  refine ab_iconst (v := 1) de_B_with_23 rfl ?_
  refine ab_ishr de_B_with_24 ?_
  refine ab_iconst (v := 1) de_B_with_25 rfl ?_
  refine ab_iand de_B_with_26 ?_
  refine ab_bipush (v := 12) de_B_with_27 rfl ?_
  refine ab_iload_n de_B_with_29 2 rfl ?_
  refine ab_iadd de_B_with_30 ?_
  refine ab_ishl de_B_with_31 ?_
  refine ab_ior de_B_with_32 ?_
  exact ab_ret (v := some (.int ((((nI (sp_en m i t)) &&& ((((1 : Int32) <<< ((nI p) &&& (31 : Int32))) ||| ((1 : Int32) <<< (((12 : Int32) + (nI p)) &&& (31 : Int32)))) ^^^ (-1 : Int32))) ||| (((nI (sp_wv w t)) &&& (1 : Int32)) <<< ((nI p) &&& (31 : Int32)))) ||| ((((nI (sp_wv w t)) >>> ((1 : Int32) &&& (31 : Int32))) &&& (1 : Int32)) <<< (((12 : Int32) + (nI p)) &&& (31 : Int32)))))) de_B_with_33 ⟨_, rfl⟩ ⟨congrArg (fun z => some (Value.int z)) ((bo_with (sp_en_lt hm hi) hp (sp_wv_lt w t ht)).trans (congrArg nI (sp_wi_en hm hi ht hp hw))), rfl⟩
def sp_sum (f : Nat → Nat) : Nat → Nat
  | 0 => 0
  | n + 1 => sp_sum f n + f n
set_option maxHeartbeats 1000000 in
set_option maxRecDepth 10000 in
theorem lp_B_lawfulCount (l : Launch) (d : Nat) (nr : Nat) (h : Nat → Nat → Int32) (g : Nat → Nat → Int64) (rr : Nat → Option Nat) {T : Nat → Nat → Nat} (hT : bo_T T h 17) (hO : sp_ok T) {m i t v : Nat} (hm : m < 4096) (hi : i < 4096) (ht : t < 2) (hv : v < 4096) : ∀ (fu_ p : Nat), p ≤ 16 → 16 < p + fu_ → ab_G l none am_B_lawfulCount (d + 3) 0 0 5 [(0, .ref 16), (1, .int (nI (sp_en m i t))), (2, .int (nI v)), (3, .int (nI (sp_sum (fun p => sp_cn (sp_tg T v m i p)) p))), (4, .int (nI p))] [] (ab_S nr h g rr) (fun (r_ : Option Value) (M' : ab_Me) => r_ = some (.int (nI (sp_sum (fun p => sp_cn (sp_tg T v m i p)) 16))) ∧ M' = (ab_S nr h g rr)) := by
  intro fu_
  induction fu_ with
  | zero => intro p  h1 h2; omega
  | succ fu_ ih =>
    intro p  hN_ hn_ 
    refine ab_iload de_B_lawfulCount_5 4 rfl ?_
    refine ab_bipush (v := 15) de_B_lawfulCount_7 rfl ?_
    refine ab_icmp_gt (tgt := 32) de_B_lawfulCount_9 rfl (fun c_9_1 => ?_) (fun c_9_1 => ?_)
    · have hp := ab_lt_of (n := 15) (by decide) (by omega) rfl c_9_1
      refine ab_iload_n de_B_lawfulCount_32 3 rfl ?_
      exact ab_ret (v := some (.int (nI (sp_sum (fun p => sp_cn (sp_tg T v m i p)) p)))) de_B_lawfulCount_33 ⟨_, rfl⟩ ⟨congrArg (fun z => some (Value.int z)) (by rw [show p = 16 by omega]), rfl⟩
    · have hp := ab_nlt_of (n := 15) (by decide) (by omega) rfl c_9_1
      refine ab_iload_n de_B_lawfulCount_12 3 rfl ?_
      refine ab_aload_n de_B_lawfulCount_13 0 rfl ?_
      refine ab_iload_n de_B_lawfulCount_14 1 rfl ?_
      refine ab_iload_n de_B_lawfulCount_15 2 rfl ?_
      refine ab_iload de_B_lawfulCount_16 4 rfl ?_
      refine ab_cV (as := [.int (nI (sp_en m i t)), .int (nI v), .int (nI p)]) (st := [.int (nI (sp_sum (fun p => sp_cn (sp_tg T v m i p)) p))]) (ct_B_targets l _ nr h g rr hT hO hm hi ht hv (p := p) (by omega)) mo_B_targets mi_B_targets ml_B_58 rfl (by decide) rfl rfl rfl (Nat.le_of_ble_eq_true rfl) de_B_lawfulCount_18 (fun v_ M_ hK_ hl_ hv_ => ?_)
      obtain ⟨rfl, hm_⟩ := hK_
      have hm_ := hm_.symm
      subst hm_
      change ab_G _ _ _ _ _ _ _ [(0, .ref 16), (1, .int (nI (sp_en m i t))), (2, .int (nI v)), (3, .int (nI (sp_sum (fun p => sp_cn (sp_tg T v m i p)) p))), (4, .int (nI p))] [.int (nI (sp_tg T v m i p)), .int (nI (sp_sum (fun p => sp_cn (sp_tg T v m i p)) p))] (ab_S nr h g rr) _
      refine ab_cS (as := [.int (nI (sp_tg T v m i p))]) (st := [.int (nI (sp_sum (fun p => sp_cn (sp_tg T v m i p)) p))]) (ct_I_bitCount l _ (ab_S nr h g rr) (m := sp_tg T v m i p) (sp_tg_lt hO v m i p)) mo_I_bitCount ms_I_bitCount ml_B_15 rfl rfl (Nat.le_of_ble_eq_true rfl) de_B_lawfulCount_21 (fun v_ M_ hK_ hl_ hv_ => ?_)
      obtain ⟨rfl, hm_⟩ := hK_
      have hm_ := hm_.symm
      subst hm_
      change ab_G _ _ _ _ _ _ _ [(0, .ref 16), (1, .int (nI (sp_en m i t))), (2, .int (nI v)), (3, .int (nI (sp_sum (fun p => sp_cn (sp_tg T v m i p)) p))), (4, .int (nI p))] [.int (nI (sp_cn (sp_tg T v m i p))), .int (nI (sp_sum (fun p => sp_cn (sp_tg T v m i p)) p))] (ab_S nr h g rr) _
      refine ab_iadd de_B_lawfulCount_24 ?_
      refine ab_top (v' := nI (sp_sum (fun p => sp_cn (sp_tg T v m i p)) (p + 1))) (ab_add _ _) ?_
      refine ab_istore_n (L' := [(3, .int (nI (sp_sum (fun p => sp_cn (sp_tg T v m i p)) (p + 1)))), (0, .ref 16), (1, .int (nI (sp_en m i t))), (2, .int (nI v)), (4, .int (nI p))]) de_B_lawfulCount_25 (by decide) rfl ?_
      refine ab_iinc (v := nI (p + 1)) (L' := [(4, .int (nI (p + 1))), (3, .int (nI (sp_sum (fun p => sp_cn (sp_tg T v m i p)) (p + 1)))), (0, .ref 16), (1, .int (nI (sp_en m i t))), (2, .int (nI v))]) de_B_lawfulCount_26 4 rfl (by rw [show Int32.ofInt 1 = nI 1 from rfl, ab_add]) (by decide) rfl ?_
      refine ab_goto (tgt := 5) de_B_lawfulCount_29 rfl ?_
      refine ab_sub (L' := [(0, .ref 16), (1, .int (nI (sp_en m i t))), (2, .int (nI v)), (3, .int (nI (sp_sum (fun p => sp_cn (sp_tg T v m i p)) (p + 1)))), (4, .int (nI (p + 1)))]) [2, 3, 4, 1, 0] rfl ?_
      exact ih (p + 1)  (by omega) (by omega) 
set_option maxHeartbeats 1000000 in
set_option maxRecDepth 10000 in
theorem ct_B_lawfulCount (l : Launch) (d : Nat) (nr : Nat) (h : Nat → Nat → Int32) (g : Nat → Nat → Int64) (rr : Nat → Option Nat) {T : Nat → Nat → Nat} (hT : bo_T T h 17) (hO : sp_ok T) {m i t v : Nat} (hm : m < 4096) (hi : i < 4096) (ht : t < 2) (hv : v < 4096) : ab_C l am_B_lawfulCount (d + 3) 0 0 [.ref 16, .int (nI (sp_en m i t)), .int (nI v)] (ab_S nr h g rr) (fun (r_ : Option Value) (M' : ab_Me) => r_ = some (.int (nI (sp_sum (fun p => sp_cn (sp_tg T v m i p)) 16))) ∧ M' = (ab_S nr h g rr)) := by
  refine ab_C_of (by decide +kernel) rfl (Nat.le_of_ble_eq_true rfl) ?_
  refine ab_iconst (v := 0) de_B_lawfulCount_0 rfl ?_
  refine ab_istore_n (L' := [(3, .int (0 : Int32)), (0, .ref 16), (1, .int (nI (sp_en m i t))), (2, .int (nI v))]) de_B_lawfulCount_1 (by decide) rfl ?_
  refine ab_iconst (v := 0) de_B_lawfulCount_2 rfl ?_
  refine ab_istore (L' := [(4, .int (0 : Int32)), (3, .int (0 : Int32)), (0, .ref 16), (1, .int (nI (sp_en m i t))), (2, .int (nI v))]) de_B_lawfulCount_3 (by decide) rfl ?_
  refine ab_sub (L' := [(0, .ref 16), (1, .int (nI (sp_en m i t))), (2, .int (nI v)), (3, .int (0 : Int32)), (4, .int (0 : Int32))]) [2, 3, 4, 1, 0] rfl ?_
  exact lp_B_lawfulCount l d nr h g rr hT hO hm hi ht hv 17 0 (by omega) (by omega)
theorem sp_tgeq {T : Nat → Nat → Nat} (hO : sp_ok T) {v w m i p : Nat} : nI (sp_tg T v m i p) = nI (sp_tg T w m i p) ↔ sp_tg T v m i p = sp_tg T w m i p := ab_inj (by have := sp_tg_lt hO v m i p; omega) (by have := sp_tg_lt hO w m i p; omega)
set_option maxHeartbeats 1000000 in
set_option maxRecDepth 10000 in
theorem lp_B_letAlike (l : Launch) (d : Nat) (nr : Nat) (h : Nat → Nat → Int32) (g : Nat → Nat → Int64) (rr : Nat → Option Nat) {T : Nat → Nat → Nat} (hT : bo_T T h 17) (hO : sp_ok T) {m i t v w : Nat} (hm : m < 4096) (hi : i < 4096) (ht : t < 2) (hv : v < 4096) (hw : w < 4096) : ∀ (fu_ p : Nat), p ≤ 16 → 16 < p + fu_ → (∀ j, j < p → (!decide (sp_tg T v m i j = sp_tg T w m i j)) = false) → ab_G l none am_B_letAlike (d + 3) 0 0 3 [(0, .ref 16), (1, .int (nI (sp_en m i t))), (2, .int (nI v)), (3, .int (nI w)), (4, .int (nI p))] [] (ab_S nr h g rr) (fun (r_ : Option Value) (M' : ab_Me) => r_ = some (.int (ab_bz (!sp_any (fun p => !decide (sp_tg T v m i p = sp_tg T w m i p)) 16))) ∧ M' = (ab_S nr h g rr)) := by
  intro fu_
  induction fu_ with
  | zero => intro p  h1 h2; omega
  | succ fu_ ih =>
    intro p  hN_ hn_ hf0
    refine ab_iload de_B_letAlike_3 4 rfl ?_
    refine ab_bipush (v := 15) de_B_letAlike_5 rfl ?_
    refine ab_icmp_gt (tgt := 37) de_B_letAlike_7 rfl (fun c_7_1 => ?_) (fun c_7_1 => ?_)
    · have hp := ab_lt_of (n := 15) (by decide) (by omega) rfl c_7_1
      refine ab_iconst (v := 1) de_B_letAlike_37 rfl ?_
      exact ab_ret (v := some (.int (1 : Int32))) de_B_letAlike_38 ⟨_, rfl, rfl⟩ ⟨congrArg (fun z => some (Value.int z)) (ab_bz_t (by rw [(sp_any_no _ _).mpr (fun j hj => hf0 j (by omega))]; rfl)), rfl⟩
    · have hp := ab_nlt_of (n := 15) (by decide) (by omega) rfl c_7_1
      refine ab_aload_n de_B_letAlike_10 0 rfl ?_
      refine ab_iload_n de_B_letAlike_11 1 rfl ?_
      refine ab_iload_n de_B_letAlike_12 2 rfl ?_
      refine ab_iload de_B_letAlike_13 4 rfl ?_
      refine ab_cV (as := [.int (nI (sp_en m i t)), .int (nI v), .int (nI p)]) (st := []) (ct_B_targets l _ nr h g rr hT hO hm hi ht (v := v) hv (p := p) (by omega)) mo_B_targets mi_B_targets ml_B_58 rfl (by decide) rfl rfl rfl (Nat.le_of_ble_eq_true rfl) de_B_letAlike_15 (fun v_ M_ hK_ hl_ hv_ => ?_)
      obtain ⟨rfl, hm_⟩ := hK_
      have hm_ := hm_.symm
      subst hm_
      change ab_G _ _ _ _ _ _ _ [(0, .ref 16), (1, .int (nI (sp_en m i t))), (2, .int (nI v)), (3, .int (nI w)), (4, .int (nI p))] [.int (nI (sp_tg T v m i p))] (ab_S nr h g rr) _
      refine ab_aload_n de_B_letAlike_18 0 rfl ?_
      refine ab_iload_n de_B_letAlike_19 1 rfl ?_
      refine ab_iload_n de_B_letAlike_20 3 rfl ?_
      refine ab_iload de_B_letAlike_21 4 rfl ?_
      refine ab_cV (as := [.int (nI (sp_en m i t)), .int (nI w), .int (nI p)]) (st := [.int (nI (sp_tg T v m i p))]) (ct_B_targets l _ nr h g rr hT hO hm hi ht (v := w) hw (p := p) (by omega)) mo_B_targets mi_B_targets ml_B_58 rfl (by decide) rfl rfl rfl (Nat.le_of_ble_eq_true rfl) de_B_letAlike_23 (fun v_ M_ hK_ hl_ hv_ => ?_)
      obtain ⟨rfl, hm_⟩ := hK_
      have hm_ := hm_.symm
      subst hm_
      change ab_G _ _ _ _ _ _ _ [(0, .ref 16), (1, .int (nI (sp_en m i t))), (2, .int (nI v)), (3, .int (nI w)), (4, .int (nI p))] [.int (nI (sp_tg T w m i p)), .int (nI (sp_tg T v m i p))] (ab_S nr h g rr) _
      refine ab_icmp_eq (tgt := 31) de_B_letAlike_26 rfl (fun c_26_2 => ?_) (fun c_26_2 => ?_)
      · refine ab_iinc (v := nI (p + 1)) (L' := [(4, .int (nI (p + 1))), (0, .ref 16), (1, .int (nI (sp_en m i t))), (2, .int (nI v)), (3, .int (nI w))]) de_B_letAlike_31 4 rfl (by rw [show Int32.ofInt 1 = nI 1 from rfl, ab_add]) (by decide) rfl ?_
        refine ab_goto (tgt := 3) de_B_letAlike_34 rfl ?_
        refine ab_sub (L' := [(0, .ref 16), (1, .int (nI (sp_en m i t))), (2, .int (nI v)), (3, .int (nI w)), (4, .int (nI (p + 1)))]) [1, 2, 3, 4, 0] rfl ?_
        exact ih (p + 1)  (by omega) (by omega) (fun j hj => by
          by_cases e : j = p
          · subst e; simp [(sp_tgeq hO).mp c_26_2]
          · exact hf0 j (by omega))
      · refine ab_iconst (v := 0) de_B_letAlike_29 rfl ?_
        exact ab_ret (v := some (.int (0 : Int32))) de_B_letAlike_30 ⟨_, rfl, rfl⟩ ⟨congrArg (fun z => some (Value.int z)) (ab_bz_f (by rw [(sp_any_iff _ _).mpr ⟨p, by omega, by rw [decide_eq_false (fun e => c_26_2 ((sp_tgeq hO).mpr e))]; rfl⟩]; rfl)), rfl⟩
set_option maxHeartbeats 1000000 in
set_option maxRecDepth 10000 in
theorem ct_B_letAlike (l : Launch) (d : Nat) (nr : Nat) (h : Nat → Nat → Int32) (g : Nat → Nat → Int64) (rr : Nat → Option Nat) {T : Nat → Nat → Nat} (hT : bo_T T h 17) (hO : sp_ok T) {m i t v w : Nat} (hm : m < 4096) (hi : i < 4096) (ht : t < 2) (hv : v < 4096) (hw : w < 4096) : ab_C l am_B_letAlike (d + 3) 0 0 [.ref 16, .int (nI (sp_en m i t)), .int (nI v), .int (nI w)] (ab_S nr h g rr) (fun (r_ : Option Value) (M' : ab_Me) => r_ = some (.int (ab_bz (!sp_any (fun p => !decide (sp_tg T v m i p = sp_tg T w m i p)) 16))) ∧ M' = (ab_S nr h g rr)) := by
  refine ab_C_of (by decide +kernel) rfl (Nat.le_of_ble_eq_true rfl) ?_
  refine ab_iconst (v := 0) de_B_letAlike_0 rfl ?_
  refine ab_istore (L' := [(4, .int (0 : Int32)), (0, .ref 16), (1, .int (nI (sp_en m i t))), (2, .int (nI v)), (3, .int (nI w))]) de_B_letAlike_1 (by decide) rfl ?_
  refine ab_sub (L' := [(0, .ref 16), (1, .int (nI (sp_en m i t))), (2, .int (nI v)), (3, .int (nI w)), (4, .int (0 : Int32))]) [1, 2, 3, 4, 0] rfl ?_
  exact lp_B_letAlike l d nr h g rr hT hO hm hi ht hv hw 17 0 (by omega) (by omega) (fun j hj => absurd hj (Nat.not_lt_zero j))
theorem sp_jm_bit {T : Nat → Nat → Nat} (hO : sp_ok T) {v i p q : Nat} (hi : i < 4096) (hp : p < 12) (hq : q < 12) : (sp_jm T v i p).testBit q = true ↔ ¬ sp_jo T v i p q = 0 := by
  have h1 : (sp_jm T v i p).testBit q = true ↔ ∃ k, k < 3 ∧ v.testBit (3 + k) = true ∧ ∃ o, o < 12 ∧ (T k p).testBit o = true ∧ i.testBit o = true ∧ (T k o).testBit q = true := by
    unfold sp_jm
    rw [sp_or_bit, sp_any_iff]
    constructor
    · rintro ⟨k, hk, h⟩
      try dsimp only at h
      split at h
      · rename_i hv
        unfold sp_bh at h
        rw [sp_or_bit, sp_any_iff] at h
        obtain ⟨o, ho, h⟩ := h
        try dsimp only at h
        split at h
        · rename_i hb
          rw [Nat.testBit_and, Bool.and_eq_true] at hb
          exact ⟨k, hk, hv, o, ho, hb.1, hb.2, h⟩
        · rw [Nat.zero_testBit] at h; cases h
      · rw [Nat.zero_testBit] at h; cases h
    · rintro ⟨k, hk, hv, o, ho, h1, h2, h3⟩
      refine ⟨k, hk, ?_⟩
      try dsimp only
      rw [if_pos hv]
      unfold sp_bh
      rw [sp_or_bit, sp_any_iff]
      refine ⟨o, ho, ?_⟩
      try dsimp only
      rw [if_pos (by rw [Nat.testBit_and, h1, h2]; rfl)]
      exact h3
  rw [h1, show (¬ sp_jo T v i p q = 0) ↔ _ from sp_ne0 (sp_jo_lt hi)]
  unfold sp_jo
  constructor
  · rintro ⟨k, hk, hv, o, ho, h1, h2, h3⟩
    refine ⟨o, ho, ?_⟩
    rw [Nat.testBit_and, h2, Bool.and_true, sp_or_bit, sp_any_iff]
    refine ⟨k, hk, ?_⟩
    try dsimp only
    rw [if_pos hv, Nat.testBit_and, h1, hO.2 k q o hk hq ho, h3]
    rfl
  · rintro ⟨o, ho, h⟩
    rw [Nat.testBit_and, Bool.and_eq_true, sp_or_bit, sp_any_iff] at h
    obtain ⟨⟨k, hk, h⟩, h2⟩ := h
    try dsimp only at h
    split at h
    · rename_i hv
      rw [Nat.testBit_and, Bool.and_eq_true] at h
      exact ⟨k, hk, hv, o, ho, h.1, h2, by rw [hO.2 k o q hk ho hq]; exact h.2⟩
    · rw [Nat.zero_testBit] at h; cases h
theorem sp_tg_bit {T : Nat → Nat → Nat} {v m i p q : Nat} (hp : p < 12) : (sp_tg T v m i p).testBit q = (m.testBit p && ((ab_no (m ||| i)).testBit q && ((sp_st T v p).testBit q || (sp_jm T v i p).testBit q))) := by
  unfold sp_tg
  rw [if_neg (by omega)]
  by_cases h : m.testBit p = true
  · rw [if_pos ⟨hp, h⟩, Nat.testBit_and, Nat.testBit_or, h]
    cases (ab_no (m ||| i)).testBit q <;> simp
  · rw [if_neg (fun z => h z.2), Nat.zero_testBit]
    simp [h]
/-- a MOVE that has POINTS -/
def sp_mv (x : Nat) : Prop := x < 252 ∧ x % 16 < 12 ∧ (x / 16 = 15 ∨ (x / 16 < 12 ∧ x / 16 ≠ x % 16))
theorem bo_from {x : Nat} (hx : x < 252) : nI x >>> ((4 : Int32) &&& (31 : Int32)) = nI (x / 16) := by rw [show (4 : Int32) = nI 4 from rfl, show (31 : Int32) = nI 31 from rfl]; exact (ab_shr (by omega) (by decide)).trans (by rw [sp_sr])
theorem bo_to (x : Nat) : nI x &&& (15 : Int32) = nI (x % 16) := by rw [show (15 : Int32) = nI 15 from rfl, ab_and, sp_15m]
def sp_al (T : Nat → Nat → Nat) (v m i x : Nat) : Bool := (sp_tg T v m i (x / 16)).testBit (x % 16)
theorem sp_hx12 {x : Nat} (hx : sp_mv x) (h : ¬ nI (x / 16) = 15) : x / 16 < 12 := by
  rcases hx.2.2 with e | e
  · exact absurd (by rw [e]; rfl) h
  · exact e.1
set_option maxHeartbeats 1000000 in
set_option maxRecDepth 10000 in
theorem ct_B_allows (l : Launch) (d : Nat) (nr : Nat) (h : Nat → Nat → Int32) (g : Nat → Nat → Int64) (rr : Nat → Option Nat) {T : Nat → Nat → Nat} (hT : bo_T T h 17) (hO : sp_ok T) {m i t v x : Nat} (hm : m < 4096) (hi : i < 4096) (ht : t < 2) (hv : v < 4096) (hx : sp_mv x) : ab_C l am_B_allows (d + 2) 0 0 [.ref 16, .int (nI (sp_en m i t)), .int (nI v), .int (nI x)] (ab_S nr h g rr) (fun (r_ : Option Value) (M' : ab_Me) => r_ = some (.int (ab_bz (sp_al T v m i x))) ∧ M' = (ab_S nr h g rr)) := by
  refine ab_C_of (by decide +kernel) rfl (Nat.le_of_ble_eq_true rfl) ?_
  refine ab_iload_n de_B_allows_0 3 rfl ?_
  refine ab_iconst (v := 4) de_B_allows_1 rfl ?_
  refine ab_ishr de_B_allows_2 ?_
  refine ab_top (v' := nI (x / 16)) (bo_from hx.1) ?_
  refine ab_istore (L' := [(4, .int (nI (x / 16))), (0, .ref 16), (1, .int (nI (sp_en m i t))), (2, .int (nI v)), (3, .int (nI x))]) de_B_allows_3 (by decide) rfl ?_
  refine ab_iload_n de_B_allows_5 4 rfl ?_
  refine ab_bipush (v := 15) de_B_allows_6 rfl ?_
  refine ab_iand de_B_allows_8 ?_
  refine ab_top (v' := nI (x % 16)) (bo_to x) ?_
  refine ab_istore (L' := [(5, .int (nI (x % 16))), (4, .int (nI (x / 16))), (0, .ref 16), (1, .int (nI (sp_en m i t))), (2, .int (nI v)), (3, .int (nI x))]) de_B_allows_9 (by decide) rfl ?_
  refine ab_iload de_B_allows_11 1 rfl ?_
  refine ab_bipush (v := 15) de_B_allows_13 rfl ?_
  refine ab_icmp_ne (tgt := 43) de_B_allows_15 rfl (fun c_15_1 => ?_) (fun c_15_1 => ?_)
  · have hp12 := sp_hx12 hx c_15_1
    refine ab_iload_n de_B_allows_43 3 rfl ?_
    refine ab_cS (as := [.int (nI (sp_en m i t))]) (st := []) (ct_B_own l _ (ab_S nr h g rr) hm hi ht) mo_B_own ms_B_own ml_B_36 rfl rfl (Nat.le_of_ble_eq_true rfl) de_B_allows_44 (fun v_ M_ hK_ hl_ hv_ => ?_)
    obtain ⟨rfl, hm_⟩ := hK_
    have hm_ := hm_.symm
    subst hm_
    change ab_G _ _ _ _ _ _ _ [(5, .int (nI (x % 16))), (4, .int (nI (x / 16))), (0, .ref 16), (1, .int (nI (sp_en m i t))), (2, .int (nI v)), (3, .int (nI x))] [.int (nI m)] (ab_S nr h g rr) _
    refine ab_iload de_B_allows_47 1 rfl ?_
    refine ab_ishr de_B_allows_49 ?_
    refine ab_iconst (v := 1) de_B_allows_50 rfl ?_
    refine ab_iand de_B_allows_51 ?_
    refine ab_top (v' := nI (m.testBit (x / 16)).toNat) (sp_bitne m (x / 16) (by omega) (by have := hx.1; omega)) ?_
    refine ab_if_eq (tgt := 96) de_B_allows_52 rfl (fun c_52_2 => ?_) (fun c_52_2 => ?_)
    · refine ab_iconst (v := 0) de_B_allows_96 rfl ?_
      exact ab_ret (v := some (.int (0 : Int32))) de_B_allows_97 ⟨_, rfl, rfl⟩ ⟨congrArg (fun z => some (Value.int z)) (ab_bz_f (by rw [sp_al, sp_tg_bit (sp_hx12 hx c_15_1), (sp_b0 _).mp c_52_2]; rfl)), rfl⟩
    · refine ab_iload_n de_B_allows_55 3 rfl ?_
      refine ab_cS (as := [.int (nI (sp_en m i t))]) (st := []) (ct_B_empty l _ (ab_S nr h g rr) hm hi ht) mo_B_empty ms_B_empty ml_B_22 rfl rfl (Nat.le_of_ble_eq_true rfl) de_B_allows_56 (fun v_ M_ hK_ hl_ hv_ => ?_)
      obtain ⟨rfl, hm_⟩ := hK_
      have hm_ := hm_.symm
      subst hm_
      change ab_G _ _ _ _ _ _ _ [(5, .int (nI (x % 16))), (4, .int (nI (x / 16))), (0, .ref 16), (1, .int (nI (sp_en m i t))), (2, .int (nI v)), (3, .int (nI x))] [.int (nI (ab_no (m ||| i)))] (ab_S nr h g rr) _
      refine ab_iload de_B_allows_59 0 rfl ?_
      refine ab_ishr de_B_allows_61 ?_
      refine ab_iconst (v := 1) de_B_allows_62 rfl ?_
      refine ab_iand de_B_allows_63 ?_
      refine ab_top (v' := nI ((ab_no (m ||| i)).testBit (x % 16)).toNat) (sp_bitne (ab_no (m ||| i)) (x % 16) (by have := ab_no_lt (m ||| i); omega) (by omega)) ?_
      refine ab_if_eq (tgt := 96) de_B_allows_64 rfl (fun c_64_3 => ?_) (fun c_64_3 => ?_)
      · refine ab_iconst (v := 0) de_B_allows_96 rfl ?_
        exact ab_ret (v := some (.int (0 : Int32))) de_B_allows_97 ⟨_, rfl, rfl⟩ ⟨congrArg (fun z => some (Value.int z)) (ab_bz_f (by rw [sp_al, sp_tg_bit (sp_hx12 hx c_15_1), (sp_b0 _).mp c_64_3]; simp)), rfl⟩
      · refine ab_aload_n de_B_allows_67 2 rfl ?_
        refine ab_iload_n de_B_allows_68 4 rfl ?_
        refine ab_iload de_B_allows_69 1 rfl ?_
        refine ab_iload de_B_allows_71 0 rfl ?_
        refine ab_cV (as := [.int (nI v), .int (nI (x / 16)), .int (nI (x % 16))]) (st := []) (ct_B_isStep l _ nr h g rr hT hO (v := v) hv (p := x / 16) (q := x % 16) hp12 hx.2.1) mo_B_isStep mi_B_isStep ml_B_62 rfl (by decide) rfl rfl rfl (Nat.le_of_ble_eq_true rfl) de_B_allows_73 (fun v_ M_ hK_ hl_ hv_ => ?_)
        obtain ⟨rfl, hm_⟩ := hK_
        have hm_ := hm_.symm
        subst hm_
        change ab_G _ _ _ _ _ _ _ [(5, .int (nI (x % 16))), (4, .int (nI (x / 16))), (0, .ref 16), (1, .int (nI (sp_en m i t))), (2, .int (nI v)), (3, .int (nI x))] [.int (ab_bz ((sp_st T v (x / 16)).testBit (x % 16)))] (ab_S nr h g rr) _
        refine ab_if_ne (tgt := 92) de_B_allows_76 rfl (fun c_76_4 => ?_) (fun c_76_4 => ?_)
        · refine ab_iconst (v := 1) de_B_allows_92 rfl ?_
          refine ab_goto (tgt := 97) de_B_allows_93 rfl ?_
          exact ab_ret (v := some (.int (1 : Int32))) de_B_allows_97 ⟨_, rfl, rfl⟩ ⟨congrArg (fun z => some (Value.int z)) (ab_bz_t (by rw [sp_al, sp_tg_bit (sp_hx12 hx c_15_1), ts_f c_52_2, ts_f c_64_3, (ab_bz1 _).mp c_76_4]; rfl)), rfl⟩
        · refine ab_aload_n de_B_allows_79 2 rfl ?_
          refine ab_iload_n de_B_allows_80 3 rfl ?_
          refine ab_iload_n de_B_allows_81 4 rfl ?_
          refine ab_iload de_B_allows_82 1 rfl ?_
          refine ab_iload de_B_allows_84 0 rfl ?_
          refine ab_cV (as := [.int (nI (sp_en m i t)), .int (nI v), .int (nI (x / 16)), .int (nI (x % 16))]) (st := []) (ct_B_jumpedOver l _ nr h g rr hT hO hm hi ht hv (p := x / 16) (q := x % 16) hp12 hx.2.1) mo_B_jumpedOver mi_B_jumpedOver ml_B_66 rfl (by decide) rfl rfl rfl (Nat.le_of_ble_eq_true rfl) de_B_allows_86 (fun v_ M_ hK_ hl_ hv_ => ?_)
          obtain ⟨rfl, hm_⟩ := hK_
          have hm_ := hm_.symm
          subst hm_
          change ab_G _ _ _ _ _ _ _ [(5, .int (nI (x % 16))), (4, .int (nI (x / 16))), (0, .ref 16), (1, .int (nI (sp_en m i t))), (2, .int (nI v)), (3, .int (nI x))] [.int (nI (sp_jo T v i (x / 16) (x % 16)))] (ab_S nr h g rr) _
          refine ab_if_eq (tgt := 96) de_B_allows_89 rfl (fun c_89_5 => ?_) (fun c_89_5 => ?_)
          · refine ab_iconst (v := 0) de_B_allows_96 rfl ?_
            exact ab_ret (v := some (.int (0 : Int32))) de_B_allows_97 ⟨_, rfl, rfl⟩ ⟨congrArg (fun z => some (Value.int z)) (ab_bz_f (by rw [sp_al, sp_tg_bit (sp_hx12 hx c_15_1), (ab_bz0 _).mp c_76_4, show (sp_jm T v i (x / 16)).testBit (x % 16) = false from by cases hj : (sp_jm T v i (x / 16)).testBit (x % 16) with | false => rfl | true => exact absurd ((sp_z (sp_jo_lt hi)).mp c_89_5) ((sp_jm_bit hO hi (sp_hx12 hx c_15_1) hx.2.1).mp hj)]; simp)), rfl⟩
          · refine ab_iconst (v := 1) de_B_allows_92 rfl ?_
            refine ab_goto (tgt := 97) de_B_allows_93 rfl ?_
            exact ab_ret (v := some (.int (1 : Int32))) de_B_allows_97 ⟨_, rfl, rfl⟩ ⟨congrArg (fun z => some (Value.int z)) (ab_bz_t (by rw [sp_al, sp_tg_bit (sp_hx12 hx c_15_1), ts_f c_52_2, ts_f c_64_3, (sp_jm_bit hO hi (sp_hx12 hx c_15_1) hx.2.1).mpr (ts_z (sp_jo_lt hi) c_89_5)]; simp)), rfl⟩
  · refine ab_iload_n de_B_allows_18 4 rfl ?_
    refine ab_bipush (v := 64) de_B_allows_19 rfl ?_
    refine ab_iand de_B_allows_21 ?_
    refine ab_if_eq (tgt := 41) de_B_allows_22 rfl (fun c_22_6 => ?_) (fun c_22_6 => ?_)
    · refine ab_iconst (v := 0) de_B_allows_41 rfl ?_
      exact ab_ret (v := some (.int (0 : Int32))) de_B_allows_42 ⟨_, rfl, rfl⟩ ⟨congrArg (fun z => some (Value.int z)) (ab_bz_f (by rw [sp_al, sp_tg, if_pos (sp_p15 (p := x / 16) (by have := hx.1; omega) c_15_1), if_neg (by rw [(sp_andk v 6 rfl (by decide)).mp c_22_6]; decide), Nat.zero_testBit])), rfl⟩
    · refine ab_iload_n de_B_allows_25 3 rfl ?_
      refine ab_cS (as := [.int (nI (sp_en m i t))]) (st := []) (ct_B_empty l _ (ab_S nr h g rr) hm hi ht) mo_B_empty ms_B_empty ml_B_22 rfl rfl (Nat.le_of_ble_eq_true rfl) de_B_allows_26 (fun v_ M_ hK_ hl_ hv_ => ?_)
      obtain ⟨rfl, hm_⟩ := hK_
      have hm_ := hm_.symm
      subst hm_
      change ab_G _ _ _ _ _ _ _ [(5, .int (nI (x % 16))), (4, .int (nI (x / 16))), (0, .ref 16), (1, .int (nI (sp_en m i t))), (2, .int (nI v)), (3, .int (nI x))] [.int (nI (ab_no (m ||| i)))] (ab_S nr h g rr) _
      refine ab_iload de_B_allows_29 0 rfl ?_
      refine ab_ishr de_B_allows_31 ?_
      refine ab_iconst (v := 1) de_B_allows_32 rfl ?_
      refine ab_iand de_B_allows_33 ?_
      refine ab_top (v' := nI ((ab_no (m ||| i)).testBit (x % 16)).toNat) (sp_bitne (ab_no (m ||| i)) (x % 16) (by have := ab_no_lt (m ||| i); omega) (by omega)) ?_
      refine ab_if_eq (tgt := 41) de_B_allows_34 rfl (fun c_34_7 => ?_) (fun c_34_7 => ?_)
      · refine ab_iconst (v := 0) de_B_allows_41 rfl ?_
        exact ab_ret (v := some (.int (0 : Int32))) de_B_allows_42 ⟨_, rfl, rfl⟩ ⟨congrArg (fun z => some (Value.int z)) (ab_bz_f (by rw [sp_al, sp_tg, if_pos (sp_p15 (p := x / 16) (by have := hx.1; omega) c_15_1), if_pos (sp_n1 (fun e => c_22_6 ((sp_andk v 6 rfl (by decide)).mpr e)))]; exact (sp_b0 _).mp c_34_7)), rfl⟩
      · refine ab_iconst (v := 1) de_B_allows_37 rfl ?_
        refine ab_goto (tgt := 42) de_B_allows_38 rfl ?_
        exact ab_ret (v := some (.int (1 : Int32))) de_B_allows_42 ⟨_, rfl, rfl⟩ ⟨congrArg (fun z => some (Value.int z)) (ab_bz_t (by rw [sp_al, sp_tg, if_pos (sp_p15 (p := x / 16) (by have := hx.1; omega) c_15_1), if_pos (sp_n1 (fun e => c_22_6 ((sp_andk v 6 rfl (by decide)).mpr e)))]; exact ts_f c_34_7)), rfl⟩
