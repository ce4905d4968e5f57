theorem sp_few_iff (c m : Nat) : sp_few c m = true ↔ sp_cn m < c / 1024 % 4 := decide_eq_true_iff
theorem sp_land (x y : Nat) (hy : y < 4096) : nI x &&& nI y = nI (x &&& y) := ab_and x y
theorem sp_and8 (c : Nat) : nI c &&& 256 = 0 ↔ c.testBit 8 = false := by
  rw [show (256 : Int32) = nI (2 ^ 8) from rfl, ab_and]
  rw [show (0 : Int32) = nI 0 from rfl, ab_inj (Nat.lt_of_le_of_lt Nat.and_le_right (by decide)) (by decide)]
  constructor
  · intro h
    have h1 : (c &&& 2 ^ 8).testBit 8 = false := by rw [h]; rfl
    rwa [Nat.testBit_and, show (2 ^ 8 : Nat).testBit 8 = true from rfl, Bool.and_true] at h1
  · intro h
    apply Nat.eq_of_testBit_eq
    intro j
    rw [Nat.testBit_and, Nat.testBit_two_pow, Nat.zero_testBit]
    by_cases e : 8 = j
    · subst e; rw [h]; rfl
    · simp [e]
theorem sp_andk (c k : Nat) {n : Int32} (hn : n = nI (2 ^ k)) (hk : k < 31) : nI c &&& n = 0 ↔ c.testBit k = false := by
  rw [hn, ab_and]
  rw [show (0 : Int32) = nI 0 from rfl, ab_inj (Nat.lt_of_le_of_lt Nat.and_le_right (Nat.pow_lt_pow_right (by decide) (by omega))) (by decide)]
  constructor
  · intro h
    have h1 : (c &&& 2 ^ k).testBit k = false := by rw [h]; exact Nat.zero_testBit k
    rwa [Nat.testBit_and, Nat.testBit_two_pow_self, Bool.and_true] at h1
  · intro h
    apply Nat.eq_of_testBit_eq
    intro j
    rw [Nat.testBit_and, Nat.testBit_two_pow, Nat.zero_testBit]
    by_cases e : k = j
    · subst e; rw [h]; rfl
    · simp [e]
theorem sp_n1 {b : Bool} (h : ¬ b = false) : b = true := by cases b <;> first | rfl | exact absurd rfl h
set_option maxHeartbeats 1000000 in
set_option maxRecDepth 10000 in
theorem ct_B_live (l : Launch) (d : Nat) (nr : Nat) (h : Nat → Nat → Int32) (g : Nat → Nat → Int64) (rr : Nat → Option Nat) {T : Nat → Nat → Nat} (hT : bo_T T h 17) (hO : sp_ok T) {m i t c : Nat} (hm : m < 4096) (hi : i < 4096) (ht : t < 2) (hc : c < 4096) : ab_C l am_B_live (d + 3) 0 0 [.ref 16, .int (nI (sp_en m i t)), .int (nI c)] (ab_S nr h g rr) (fun (r_ : Option Value) (M' : ab_Me) => r_ = some (.int (nI (sp_lv T c m i))) ∧ M' = (ab_S nr h g rr)) := by
  refine ab_C_of (by decide +kernel) rfl (Nat.le_of_ble_eq_true rfl) ?_
  refine ab_iload_n de_B_live_0 1 rfl ?_
  refine ab_iload_n de_B_live_1 2 rfl ?_
  refine ab_cS (as := [.int (nI (sp_en m i t)), .int (nI c)]) (st := []) (ct_B_isTooFew l _ (ab_S nr h g rr) hm hi ht hc) mo_B_isTooFew ms_B_isTooFew ml_B_29 rfl rfl (Nat.le_of_ble_eq_true rfl) de_B_live_2 (fun v_ M_ hK_ hl_ hv_ => ?_)
  obtain ⟨rfl, hm_⟩ := hK_
  have hm_ := hm_.symm
  subst hm_
  change ab_G _ _ _ _ _ _ _ [(0, .ref 16), (1, .int (nI (sp_en m i t))), (2, .int (nI c))] [.int (ab_bz (sp_few c m))] (ab_S nr h g rr) _
  refine ab_if_eq (tgt := 10) de_B_live_5 rfl (fun c_5_1 => ?_) (fun c_5_1 => ?_)
  · refine ab_iload_n de_B_live_10 2 rfl ?_
    refine ab_sipush (v := 256) de_B_live_11 rfl ?_
    refine ab_iand de_B_live_14 ?_
    refine ab_if_eq (tgt := 33) de_B_live_15 rfl (fun c_15_2 => ?_) (fun c_15_2 => ?_)
    · refine ab_iload_n de_B_live_33 2 rfl ?_
      refine ab_sipush (v := 255) de_B_live_34 rfl ?_
      refine ab_iand de_B_live_37 ?_
      exact ab_ret (v := some (.int ((nI c) &&& (255 : Int32)))) de_B_live_38 ⟨_, rfl⟩ ⟨congrArg (fun z => some (Value.int z)) (by rw [sp_lv, if_neg (by rw [(ab_bz0 _).mp c_5_1]; decide), if_neg (by rw [(sp_and8 c).mp c_15_2]; simp)]; exact ab_and c 255), rfl⟩
    · refine ab_aload_n de_B_live_18 0 rfl ?_
      refine ab_iload_n de_B_live_19 1 rfl ?_
      refine ab_iload_n de_B_live_20 2 rfl ?_
      refine ab_cV (as := [.int (nI (sp_en m i t)), .int (nI c)]) (st := []) (ct_B_letsJump l _ nr h g rr hT hO hm hi ht hc) mo_B_letsJump mi_B_letsJump ml_B_33 rfl (by decide) rfl rfl rfl (Nat.le_of_ble_eq_true rfl) de_B_live_21 (fun v_ M_ hK_ hl_ hv_ => ?_)
      obtain ⟨rfl, hm_⟩ := hK_
      have hm_ := hm_.symm
      subst hm_
      change ab_G _ _ _ _ _ _ _ [(0, .ref 16), (1, .int (nI (sp_en m i t))), (2, .int (nI c))] [.int (ab_bz (sp_lj T c m i))] (ab_S nr h g rr) _
      refine ab_if_eq (tgt := 33) de_B_live_24 rfl (fun c_24_3 => ?_) (fun c_24_3 => ?_)
      · refine ab_iload_n de_B_live_33 2 rfl ?_
        refine ab_sipush (v := 255) de_B_live_34 rfl ?_
        refine ab_iand de_B_live_37 ?_
        exact ab_ret (v := some (.int ((nI c) &&& (255 : Int32)))) de_B_live_38 ⟨_, rfl⟩ ⟨congrArg (fun z => some (Value.int z)) (by rw [sp_lv, if_neg (by rw [(ab_bz0 _).mp c_5_1]; decide), if_neg (by rw [(ab_bz0 _).mp c_24_3]; simp)]; exact ab_and c 255), rfl⟩
      · refine ab_iload_n de_B_live_27 2 rfl ?_
        refine ab_sipush (v := 184) de_B_live_28 rfl ?_
        refine ab_iand de_B_live_31 ?_
        exact ab_ret (v := some (.int ((nI c) &&& (184 : Int32)))) de_B_live_32 ⟨_, rfl⟩ ⟨congrArg (fun z => some (Value.int z)) (by rw [sp_lv, if_neg (by rw [(ab_bz0 _).mp c_5_1]; decide), if_pos (by rw [sp_n1 (fun e => c_15_2 ((sp_and8 c).mpr e)), (ab_bz1 _).mp c_24_3]; rfl)]; exact ab_and c 184), rfl⟩
  · refine ab_iconst (v := 0) de_B_live_8 rfl ?_
    exact ab_ret (v := some (.int (0 : Int32))) de_B_live_9 ⟨_, rfl⟩ ⟨congrArg (fun z => some (Value.int z)) (by rw [sp_lv, if_pos ((ab_bz1 _).mp c_5_1)]; rfl), rfl⟩
set_option maxHeartbeats 1000000 in
set_option maxRecDepth 10000 in
theorem ct_B_letsAny (l : Launch) (d : Nat) (nr : Nat) (h : Nat → Nat → Int32) (g : Nat → Nat → Int64) (rr : Nat → Option Nat) {T : Nat → Nat → Nat} (hT : bo_T T h 17) (hO : sp_ok T) {m i t c : Nat} (hm : m < 4096) (hi : i < 4096) (ht : t < 2) (hc : c < 4096) : ab_C l am_B_letsAny (d + 3) 0 0 [.ref 16, .int (nI (sp_en m i t)), .int (nI c)] (ab_S nr h g rr) (fun (r_ : Option Value) (M' : ab_Me) => r_ = some (.int (ab_bz (sp_la T c m i))) ∧ M' = (ab_S nr h g rr)) := by
  refine ab_C_of (by decide +kernel) rfl (Nat.le_of_ble_eq_true rfl) ?_
  refine ab_iload_n de_B_letsAny_0 2 rfl ?_
  refine ab_bipush (v := 64) de_B_letsAny_1 rfl ?_
  refine ab_iand de_B_letsAny_3 ?_
  refine ab_if_eq (tgt := 14) de_B_letsAny_4 rfl (fun c_4_1 => ?_) (fun c_4_1 => ?_)
  · refine ab_aload_n de_B_letsAny_14 0 rfl ?_
    refine ab_iload_n de_B_letsAny_15 1 rfl ?_
    refine ab_iload_n de_B_letsAny_16 2 rfl ?_
    refine ab_cV (as := [.int (nI (sp_en m i t)), .int (nI c)]) (st := []) (ct_B_letsStep l _ nr h g rr hT hO hm hi ht hc) mo_B_letsStep mi_B_letsStep ml_B_42 rfl (by decide) rfl rfl rfl (Nat.le_of_ble_eq_true rfl) de_B_letsAny_17 (fun v_ M_ hK_ hl_ hv_ => ?_)
    obtain ⟨rfl, hm_⟩ := hK_
    have hm_ := hm_.symm
    subst hm_
    change ab_G _ _ _ _ _ _ _ [(0, .ref 16), (1, .int (nI (sp_en m i t))), (2, .int (nI c))] [.int (ab_bz (sp_ls T c m i))] (ab_S nr h g rr) _
    refine ab_if_ne (tgt := 32) de_B_letsAny_20 rfl (fun c_20_2 => ?_) (fun c_20_2 => ?_)
    · refine ab_iconst (v := 1) de_B_letsAny_32 rfl ?_
      refine ab_goto (tgt := 37) de_B_letsAny_33 rfl ?_
      exact ab_ret (v := some (.int (1 : Int32))) de_B_letsAny_37 ⟨_, rfl, rfl⟩ ⟨congrArg (fun z => some (Value.int z)) (ab_bz_t (by rw [sp_la, (ab_bz1 _).mp c_20_2]; simp)), rfl⟩
    · refine ab_aload_n de_B_letsAny_23 0 rfl ?_
      refine ab_iload_n de_B_letsAny_24 1 rfl ?_
      refine ab_iload_n de_B_letsAny_25 2 rfl ?_
      refine ab_cV (as := [.int (nI (sp_en m i t)), .int (nI c)]) (st := []) (ct_B_letsJump l _ nr h g rr hT hO hm hi ht hc) mo_B_letsJump mi_B_letsJump ml_B_33 rfl (by decide) rfl rfl rfl (Nat.le_of_ble_eq_true rfl) de_B_letsAny_26 (fun v_ M_ hK_ hl_ hv_ => ?_)
      obtain ⟨rfl, hm_⟩ := hK_
      have hm_ := hm_.symm
      subst hm_
      change ab_G _ _ _ _ _ _ _ [(0, .ref 16), (1, .int (nI (sp_en m i t))), (2, .int (nI c))] [.int (ab_bz (sp_lj T c m i))] (ab_S nr h g rr) _
      refine ab_if_eq (tgt := 36) de_B_letsAny_29 rfl (fun c_29_3 => ?_) (fun c_29_3 => ?_)
      · refine ab_iconst (v := 0) de_B_letsAny_36 rfl ?_
        exact ab_ret (v := some (.int (0 : Int32))) de_B_letsAny_37 ⟨_, rfl, rfl⟩ ⟨congrArg (fun z => some (Value.int z)) (ab_bz_f (by rw [sp_la, (sp_andk c 6 rfl (by decide)).mp c_4_1, (ab_bz0 _).mp c_20_2, (ab_bz0 _).mp c_29_3]; rfl)), rfl⟩
      · refine ab_iconst (v := 1) de_B_letsAny_32 rfl ?_
        refine ab_goto (tgt := 37) de_B_letsAny_33 rfl ?_
        exact ab_ret (v := some (.int (1 : Int32))) de_B_letsAny_37 ⟨_, rfl, rfl⟩ ⟨congrArg (fun z => some (Value.int z)) (ab_bz_t (by rw [sp_la, (ab_bz1 _).mp c_29_3]; simp)), rfl⟩
  · refine ab_iload_n de_B_letsAny_7 1 rfl ?_
    refine ab_cS (as := [.int (nI (sp_en m i t))]) (st := []) (ct_B_empty l _ (ab_S nr h g rr) hm hi ht) mo_B_empty ms_B_empty ml_B_22 rfl rfl (Nat.le_of_ble_eq_true rfl) de_B_letsAny_8 (fun v_ M_ hK_ hl_ hv_ => ?_)
    obtain ⟨rfl, hm_⟩ := hK_
    have hm_ := hm_.symm
    subst hm_
    change ab_G _ _ _ _ _ _ _ [(0, .ref 16), (1, .int (nI (sp_en m i t))), (2, .int (nI c))] [.int (nI (ab_no (m ||| i)))] (ab_S nr h g rr) _
    refine ab_if_ne (tgt := 32) de_B_letsAny_11 rfl (fun c_11_4 => ?_) (fun c_11_4 => ?_)
    · refine ab_iconst (v := 1) de_B_letsAny_32 rfl ?_
      refine ab_goto (tgt := 37) de_B_letsAny_33 rfl ?_
      exact ab_ret (v := some (.int (1 : Int32))) de_B_letsAny_37 ⟨_, rfl, rfl⟩ ⟨congrArg (fun z => some (Value.int z)) (ab_bz_t (by rw [sp_la, sp_n1 (fun e => c_4_1 ((sp_andk c 6 rfl (by decide)).mpr e)), show decide (ab_no (m ||| i) = 0) = false from decide_eq_false (ts_z (ab_no_lt _) c_11_4)]; rfl)), rfl⟩
    · refine ab_aload_n de_B_letsAny_14 0 rfl ?_
      refine ab_iload_n de_B_letsAny_15 1 rfl ?_
      refine ab_iload_n de_B_letsAny_16 2 rfl ?_
      refine ab_cV (as := [.int (nI (sp_en m i t)), .int (nI c)]) (st := []) (ct_B_letsStep l _ nr h g rr hT hO hm hi ht hc) mo_B_letsStep mi_B_letsStep ml_B_42 rfl (by decide) rfl rfl rfl (Nat.le_of_ble_eq_true rfl) de_B_letsAny_17 (fun v_ M_ hK_ hl_ hv_ => ?_)
      obtain ⟨rfl, hm_⟩ := hK_
      have hm_ := hm_.symm
      subst hm_
      change ab_G _ _ _ _ _ _ _ [(0, .ref 16), (1, .int (nI (sp_en m i t))), (2, .int (nI c))] [.int (ab_bz (sp_ls T c m i))] (ab_S nr h g rr) _
      refine ab_if_ne (tgt := 32) de_B_letsAny_20 rfl (fun c_20_5 => ?_) (fun c_20_5 => ?_)
      · refine ab_iconst (v := 1) de_B_letsAny_32 rfl ?_
        refine ab_goto (tgt := 37) de_B_letsAny_33 rfl ?_
        exact ab_ret (v := some (.int (1 : Int32))) de_B_letsAny_37 ⟨_, rfl, rfl⟩ ⟨congrArg (fun z => some (Value.int z)) (ab_bz_t (by rw [sp_la, (ab_bz1 _).mp c_20_5]; simp)), rfl⟩
      · refine ab_aload_n de_B_letsAny_23 0 rfl ?_
        refine ab_iload_n de_B_letsAny_24 1 rfl ?_
        refine ab_iload_n de_B_letsAny_25 2 rfl ?_
        refine ab_cV (as := [.int (nI (sp_en m i t)), .int (nI c)]) (st := []) (ct_B_letsJump l _ nr h g rr hT hO hm hi ht hc) mo_B_letsJump mi_B_letsJump ml_B_33 rfl (by decide) rfl rfl rfl (Nat.le_of_ble_eq_true rfl) de_B_letsAny_26 (fun v_ M_ hK_ hl_ hv_ => ?_)
        obtain ⟨rfl, hm_⟩ := hK_
        have hm_ := hm_.symm
        subst hm_
        change ab_G _ _ _ _ _ _ _ [(0, .ref 16), (1, .int (nI (sp_en m i t))), (2, .int (nI c))] [.int (ab_bz (sp_lj T c m i))] (ab_S nr h g rr) _
        refine ab_if_eq (tgt := 36) de_B_letsAny_29 rfl (fun c_29_6 => ?_) (fun c_29_6 => ?_)
        · refine ab_iconst (v := 0) de_B_letsAny_36 rfl ?_
          exact ab_ret (v := some (.int (0 : Int32))) de_B_letsAny_37 ⟨_, rfl, rfl⟩ ⟨congrArg (fun z => some (Value.int z)) (ab_bz_f (by rw [sp_la, (ab_bz0 _).mp c_20_5, (ab_bz0 _).mp c_29_6, show decide (ab_no (m ||| i) = 0) = true from decide_eq_true ((sp_z (ab_no_lt _)).mp c_11_4)]; simp)), rfl⟩
        · refine ab_iconst (v := 1) de_B_letsAny_32 rfl ?_
          refine ab_goto (tgt := 37) de_B_letsAny_33 rfl ?_
          exact ab_ret (v := some (.int (1 : Int32))) de_B_letsAny_37 ⟨_, rfl, rfl⟩ ⟨congrArg (fun z => some (Value.int z)) (ab_bz_t (by rw [sp_la, (ab_bz1 _).mp c_29_6]; simp)), rfl⟩
theorem sp_lv_lt (T : Nat → Nat → Nat) (c m i : Nat) : sp_lv T c m i < 256 := by
  unfold sp_lv
  split
  · decide
  · split
    · exact Nat.lt_of_le_of_lt Nat.and_le_right (by decide)
    · exact Nat.lt_of_le_of_lt Nat.and_le_right (by decide)
/-- it is OVER for the TURN -/
def sp_ov (T : Nat → Nat → Nat) (c m i : Nat) : Bool := sp_few c m || (c.testBit 9 && !sp_la T (sp_lv T c m i) m i)
def sp_wn (T : Nat → Nat → Nat) (c m i t : Nat) : Int32 := if sp_ov T c m i then nI (1 - t) else -1
theorem sp_wnt {T : Nat → Nat → Nat} {c m i t : Nat} (ht : t < 2) (h : sp_ov T c m i = true) : (1 : Int32) - nI t = sp_wn T c m i t := by
  rw [sp_wn, if_pos h]
  rcases (by omega : t = 0 ∨ t = 1) with rfl | rfl <;> rfl
theorem sp_wnf {T : Nat → Nat → Nat} {c m i t : Nat} (h : sp_ov T c m i = false) : (-1 : Int32) = sp_wn T c m i t := by rw [sp_wn, h]; rfl
set_option maxHeartbeats 1000000 in
set_option maxRecDepth 10000 in
theorem ct_B_winner (l : Launch) (d : Nat) (nr : Nat) (h : Nat → Nat → Int32) (g : Nat → Nat → Int64) (rr : Nat → Option Nat) {T : Nat → Nat → Nat} (hT : bo_T T h 17) (hO : sp_ok T) {m i t c : Nat} (hm : m < 4096) (hi : i < 4096) (ht : t < 2) (hc : c < 4096) : ab_C l am_B_winner (d + 4) 0 0 [.ref 16, .int (nI (sp_en m i t)), .int (nI c)] (ab_S nr h g rr) (fun (r_ : Option Value) (M' : ab_Me) => r_ = some (.int (sp_wn T c m i t)) ∧ M' = (ab_S nr h g rr)) := by
  refine ab_C_of (by decide +kernel) rfl (Nat.le_of_ble_eq_true rfl) ?_
  refine ab_iload_n de_B_winner_0 1 rfl ?_
  refine ab_iload_n de_B_winner_1 2 rfl ?_
  refine ab_cS (as := [.int (nI (sp_en m i t)), .int (nI c)]) (st := []) (ct_B_isTooFew l _ (ab_S nr h g rr) hm hi ht hc) mo_B_isTooFew ms_B_isTooFew ml_B_29 rfl rfl (Nat.le_of_ble_eq_true rfl) de_B_winner_2 (fun v_ M_ hK_ hl_ hv_ => ?_)
  obtain ⟨rfl, hm_⟩ := hK_
  have hm_ := hm_.symm
  subst hm_
  change ab_G _ _ _ _ _ _ _ [(0, .ref 16), (1, .int (nI (sp_en m i t))), (2, .int (nI c))] [.int (ab_bz (sp_few c m))] (ab_S nr h g rr) _
  refine ab_if_ne (tgt := 30) de_B_winner_5 rfl (fun c_5_1 => ?_) (fun c_5_1 => ?_)
  · refine ab_iconst (v := 1) de_B_winner_30 rfl ?_
    refine ab_goto (tgt := 35) de_B_winner_31 rfl ?_
    refine ab_istore_n (L' := [(3, .int (1 : Int32)), (0, .ref 16), (1, .int (nI (sp_en m i t))), (2, .int (nI c))]) de_B_winner_35 (by decide) rfl ?_
    refine ab_iload_n de_B_winner_36 0 rfl ?_
    refine ab_if_eq (tgt := 49) de_B_winner_37 rfl (fun c_37_2 => ?_) (fun c_37_2 => ?_)
    · exact absurd c_37_2 (by decide)
    · refine ab_iconst (v := 1) de_B_winner_40 rfl ?_
      refine ab_iload_n de_B_winner_41 2 rfl ?_
      refine ab_cS (as := [.int (nI (sp_en m i t))]) (st := [.int (1 : Int32)]) (ct_B_side l _ (ab_S nr h g rr) hm hi ht) mo_B_side ms_B_side ml_B_52 rfl rfl (Nat.le_of_ble_eq_true rfl) de_B_winner_42 (fun v_ M_ hK_ hl_ hv_ => ?_)
      obtain ⟨rfl, hm_⟩ := hK_
      have hm_ := hm_.symm
      subst hm_
      change ab_G _ _ _ _ _ _ _ [(3, .int (1 : Int32)), (0, .ref 16), (1, .int (nI (sp_en m i t))), (2, .int (nI c))] [.int (nI t), .int (1 : Int32)] (ab_S nr h g rr) _
      refine ab_isub de_B_winner_45 ?_
      refine ab_goto (tgt := 50) de_B_winner_46 rfl ?_
      exact ab_ret (v := some (.int ((1 : Int32) - (nI t)))) de_B_winner_50 ⟨_, rfl⟩ ⟨congrArg (fun z => some (Value.int z)) (sp_wnt ht (by rw [sp_ov, (ab_bz1 _).mp c_5_1]; rfl)), rfl⟩
  · refine ab_iload_n de_B_winner_8 2 rfl ?_
    refine ab_sipush (v := 512) de_B_winner_9 rfl ?_
    refine ab_iand de_B_winner_12 ?_
    refine ab_if_eq (tgt := 34) de_B_winner_13 rfl (fun c_13_3 => ?_) (fun c_13_3 => ?_)
    · refine ab_iconst (v := 0) de_B_winner_34 rfl ?_
      refine ab_istore_n (L' := [(3, .int (0 : Int32)), (0, .ref 16), (1, .int (nI (sp_en m i t))), (2, .int (nI c))]) de_B_winner_35 (by decide) rfl ?_
      refine ab_iload_n de_B_winner_36 0 rfl ?_
      refine ab_if_eq (tgt := 49) de_B_winner_37 rfl (fun c_37_4 => ?_) (fun c_37_4 => ?_)
      · refine ab_iconst (v := -1) de_B_winner_49 rfl ?_
        exact ab_ret (v := some (.int (-1 : Int32))) de_B_winner_50 ⟨_, rfl⟩ ⟨congrArg (fun z => some (Value.int z)) (sp_wnf (by rw [sp_ov, (ab_bz0 _).mp c_5_1, (sp_andk c 9 rfl (by decide)).mp c_13_3]; rfl)), rfl⟩
      · exact absurd rfl c_37_4
    · refine ab_aload_n de_B_winner_16 0 rfl ?_
      refine ab_iload_n de_B_winner_17 1 rfl ?_
      refine ab_aload_n de_B_winner_18 0 rfl ?_
      refine ab_iload_n de_B_winner_19 1 rfl ?_
      refine ab_iload_n de_B_winner_20 2 rfl ?_
      refine ab_cV (as := [.int (nI (sp_en m i t)), .int (nI c)]) (st := [.int (nI (sp_en m i t)), .ref 16]) (ct_B_live l _ nr h g rr hT hO hm hi ht hc) mo_B_live mi_B_live ml_B_45 rfl (by decide) rfl rfl rfl (Nat.le_of_ble_eq_true rfl) de_B_winner_21 (fun v_ M_ hK_ hl_ hv_ => ?_)
      obtain ⟨rfl, hm_⟩ := hK_
      have hm_ := hm_.symm
      subst hm_
      change ab_G _ _ _ _ _ _ _ [(0, .ref 16), (1, .int (nI (sp_en m i t))), (2, .int (nI c))] [.int (nI (sp_lv T c m i)), .int (nI (sp_en m i t)), .ref 16] (ab_S nr h g rr) _
      refine ab_cV (as := [.int (nI (sp_en m i t)), .int (nI (sp_lv T c m i))]) (st := []) (ct_B_letsAny l _ nr h g rr hT hO hm hi ht (c := sp_lv T c m i) (by have := sp_lv_lt T c m i; omega)) mo_B_letsAny mi_B_letsAny ml_B_49 rfl (by decide) rfl rfl rfl (Nat.le_of_ble_eq_true rfl) de_B_winner_24 (fun v_ M_ hK_ hl_ hv_ => ?_)
      obtain ⟨rfl, hm_⟩ := hK_
      have hm_ := hm_.symm
      subst hm_
      change ab_G _ _ _ _ _ _ _ [(0, .ref 16), (1, .int (nI (sp_en m i t))), (2, .int (nI c))] [.int (ab_bz (sp_la T (sp_lv T c m i) m i))] (ab_S nr h g rr) _
      refine ab_if_ne (tgt := 34) de_B_winner_27 rfl (fun c_27_5 => ?_) (fun c_27_5 => ?_)
      · refine ab_iconst (v := 0) de_B_winner_34 rfl ?_
        refine ab_istore_n (L' := [(3, .int (0 : Int32)), (0, .ref 16), (1, .int (nI (sp_en m i t))), (2, .int (nI c))]) de_B_winner_35 (by decide) rfl ?_
        refine ab_iload_n de_B_winner_36 0 rfl ?_
        refine ab_if_eq (tgt := 49) de_B_winner_37 rfl (fun c_37_6 => ?_) (fun c_37_6 => ?_)
        · refine ab_iconst (v := -1) de_B_winner_49 rfl ?_
          exact ab_ret (v := some (.int (-1 : Int32))) de_B_winner_50 ⟨_, rfl⟩ ⟨congrArg (fun z => some (Value.int z)) (sp_wnf (by rw [sp_ov, (ab_bz0 _).mp c_5_1, (ab_bz1 _).mp c_27_5]; simp)), rfl⟩
        · exact absurd rfl c_37_6
      · refine ab_iconst (v := 1) de_B_winner_30 rfl ?_
        refine ab_goto (tgt := 35) de_B_winner_31 rfl ?_
        refine ab_istore_n (L' := [(3, .int (1 : Int32)), (0, .ref 16), (1, .int (nI (sp_en m i t))), (2, .int (nI c))]) de_B_winner_35 (by decide) rfl ?_
        refine ab_iload_n de_B_winner_36 0 rfl ?_
        refine ab_if_eq (tgt := 49) de_B_winner_37 rfl (fun c_37_7 => ?_) (fun c_37_7 => ?_)
        · exact absurd c_37_7 (by decide)
        · refine ab_iconst (v := 1) de_B_winner_40 rfl ?_
          refine ab_iload_n de_B_winner_41 2 rfl ?_
          refine ab_cS (as := [.int (nI (sp_en m i t))]) (st := [.int (1 : Int32)]) (ct_B_side l _ (ab_S nr h g rr) hm hi ht) mo_B_side ms_B_side ml_B_52 rfl rfl (Nat.le_of_ble_eq_true rfl) de_B_winner_42 (fun v_ M_ hK_ hl_ hv_ => ?_)
          obtain ⟨rfl, hm_⟩ := hK_
          have hm_ := hm_.symm
          subst hm_
          change ab_G _ _ _ _ _ _ _ [(3, .int (1 : Int32)), (0, .ref 16), (1, .int (nI (sp_en m i t))), (2, .int (nI c))] [.int (nI t), .int (1 : Int32)] (ab_S nr h g rr) _
          refine ab_isub de_B_winner_45 ?_
          refine ab_goto (tgt := 50) de_B_winner_46 rfl ?_
          exact ab_ret (v := some (.int ((1 : Int32) - (nI t)))) de_B_winner_50 ⟨_, rfl⟩ ⟨congrArg (fun z => some (Value.int z)) (sp_wnt ht (by rw [sp_ov, (ab_bz0 _).mp c_5_1, (ab_bz0 _).mp c_27_5, sp_n1 (fun e => c_13_3 ((sp_andk c 9 rfl (by decide)).mpr e))]; rfl)), rfl⟩
def sp_pt (x : Int32) : Bool := decide (0 ≤ x ∧ x < 12)
theorem sp_pt_n {n : Nat} (hn : n < 2 ^ 31) : sp_pt (nI n) = decide (n < 12) := by
  unfold sp_pt
  apply decide_eq_decide.mpr
  rw [show (0 : Int32) = nI 0 from rfl, show (12 : Int32) = nI 12 from rfl, ab_le (by decide) hn, ab_lt hn (by decide)]
  simp
set_option maxHeartbeats 1000000 in
set_option maxRecDepth 10000 in
theorem ct_W_isPoint (l : Launch) (d : Nat) (M : ab_Me) (x : Int32) : ab_C l am_W_isPoint d 0 0 [.int x] M (fun (r_ : Option Value) (M' : ab_Me) => r_ = some (.int (ab_bz (sp_pt x))) ∧ M' = M) := by
  refine ab_C_of (by decide +kernel) rfl (Nat.le_of_ble_eq_true rfl) ?_
  refine ab_iload_n de_W_isPoint_0 0 rfl ?_
  refine ab_if_lt (tgt := 14) de_W_isPoint_1 rfl (fun c_1_1 => ?_) (fun c_1_1 => ?_)
  · refine ab_iconst (v := 0) de_W_isPoint_14 rfl ?_
    exact ab_ret (v := some (.int (0 : Int32))) de_W_isPoint_15 ⟨_, rfl, rfl⟩ ⟨congrArg (fun z => some (Value.int z)) (ab_bz_f (decide_eq_false (fun z => absurd c_1_1 (Int32.not_lt.mpr z.1)))), rfl⟩
  · refine ab_iload_n de_W_isPoint_4 0 rfl ?_
    refine ab_bipush (v := 12) de_W_isPoint_5 rfl ?_
    refine ab_icmp_ge (tgt := 14) de_W_isPoint_7 rfl (fun c_7_2 => ?_) (fun c_7_2 => ?_)
    · refine ab_iconst (v := 0) de_W_isPoint_14 rfl ?_
      exact ab_ret (v := some (.int (0 : Int32))) de_W_isPoint_15 ⟨_, rfl, rfl⟩ ⟨congrArg (fun z => some (Value.int z)) (ab_bz_f (decide_eq_false (fun z => absurd z.2 (Int32.not_lt.mpr c_7_2)))), rfl⟩
    · refine ab_iconst (v := 1) de_W_isPoint_10 rfl ?_
      refine ab_goto (tgt := 15) de_W_isPoint_11 rfl ?_
      exact ab_ret (v := some (.int (1 : Int32))) de_W_isPoint_15 ⟨_, rfl, rfl⟩ ⟨congrArg (fun z => some (Value.int z)) (ab_bz_t (decide_eq_true ⟨Int32.not_lt.mp c_1_1, Int32.not_le.mp c_7_2⟩)), rfl⟩
theorem sp_tg_or {T : Nat → Nat → Nat} {v m i p : Nat} (hp : p < 12) (hmp : m.testBit p = true) : sp_or (fun k => (if v.testBit k then T k p else 0) ||| (if v.testBit (3 + k) then sp_bh T k (T k p &&& i) else 0)) 3 &&& ab_no (m ||| i) = sp_tg T v m i p := by
  have h1 : sp_or (fun k => (if v.testBit k then T k p else 0) ||| (if v.testBit (3 + k) then sp_bh T k (T k p &&& i) else 0)) 3 = sp_st T v p ||| sp_jm T v i p := by
    apply Nat.eq_of_testBit_eq
    intro j
    unfold sp_st sp_jm
    simp only [sp_or, Nat.testBit_or, Nat.zero_testBit, Bool.false_or]
    cases (if v.testBit 0 then T 0 p else 0).testBit j <;> cases (if v.testBit 1 then T 1 p else 0).testBit j <;> cases (if v.testBit 2 then T 2 p else 0).testBit j <;> simp
  rw [h1, sp_tg, if_neg (by omega), if_pos ⟨hp, hmp⟩]
set_option maxHeartbeats 1000000 in
set_option maxRecDepth 10000 in
theorem lp_B_targets (l : Launch) (d : Nat) (nr : Nat) (h : Nat → Nat → Int32) (g : Nat → Nat → Int64) (rr : Nat → Option Nat) {T : Nat → Nat → Nat} (hT : bo_T T h 17) (hO : sp_ok T) {m i t v p : Nat} (hm : m < 4096) (hi : i < 4096) (ht : t < 2) (hv : v < 4096) (hp : p < 12) (hmp : m.testBit p = true) : ∀ (n k : Nat), k ≤ 3 → 3 < k + n → ab_G l none am_B_targets (d + 2) 0 0 52 [(0, .ref 16), (1, .int (nI (sp_en m i t))), (2, .int (nI v)), (3, .int (nI p)), (4, .int (nI (ab_no (m ||| i)))), (5, .int (nI (sp_or (fun k => (if v.testBit k then T k p else 0) ||| (if v.testBit (3 + k) then sp_bh T k (T k p &&& i) else 0)) k))), (6, .int (nI k))] [] (ab_S nr h g rr) (fun (r_ : Option Value) (M' : ab_Me) => r_ = some (.int (nI (sp_tg T v m i p))) ∧ M' = (ab_S nr h g rr)) := by
  intro n
  induction n with
  | zero => intro k  h1 h2; omega
  | succ n ih =>
    intro k  hN_ hn_ 
    refine ab_iload de_B_targets_52 6 rfl ?_
    refine ab_iconst (v := 3) de_B_targets_54 rfl ?_
    refine ab_icmp_ge (tgt := 123) de_B_targets_55 rfl (fun c_55_1 => ?_) (fun c_55_1 => ?_)
    · have hk := ab_le_of (n := 3) (by decide) (by omega) rfl c_55_1
      refine ab_iload de_B_targets_123 5 rfl ?_
      refine ab_iload de_B_targets_125 4 rfl ?_
      refine ab_iand de_B_targets_127 ?_
      exact ab_ret (v := some (.int ((nI (sp_or (fun k => (if v.testBit k then T k p else 0) ||| (if v.testBit (3 + k) then sp_bh T k (T k p &&& i) else 0)) k)) &&& (nI (ab_no (m ||| i)))))) de_B_targets_128 ⟨_, rfl⟩ ⟨congrArg (fun z => some (Value.int z)) (by rw [ab_and, show k = 3 by omega, sp_tg_or hp hmp]), rfl⟩
    · have hk := ab_nle_of (n := 3) (by decide) (by omega) rfl c_55_1
      refine ab_aload_n de_B_targets_58 0 rfl ?_
      refine ab_get (v := .ref 17) fl_B_9 rfl rfl de_B_targets_59 ?_
      refine ab_iload de_B_targets_62 6 rfl ?_
      refine ab_bipush (v := 12) de_B_targets_64 rfl ?_
      refine ab_imul de_B_targets_66 ?_
      refine ab_iload_n de_B_targets_67 3 rfl ?_
      refine ab_iadd de_B_targets_68 ?_
      refine ab_top (v' := nI (12 * k + p)) (by rw [show (12 : Int32) = nI 12 from rfl, ab_mul, ab_add, Nat.mul_comm]) ?_
      refine ab_iald (v := h 17 (12 * k + p)) rfl (ab_in (by omega) (by decide)) (ab_hv (ab_tn (by omega))) de_B_targets_69 ?_
      refine ab_top (v' := nI (T k p)) (hT k p hk hp) ?_
      refine ab_istore (L' := [(7, .int (nI (T k p))), (0, .ref 16), (1, .int (nI (sp_en m i t))), (2, .int (nI v)), (3, .int (nI p)), (4, .int (nI (ab_no (m ||| i)))), (5, .int (nI (sp_or (fun k => (if v.testBit k then T k p else 0) ||| (if v.testBit (3 + k) then sp_bh T k (T k p &&& i) else 0)) k))), (6, .int (nI k))]) de_B_targets_70 (by decide) rfl ?_
      refine ab_iload_n de_B_targets_72 3 rfl ?_
      refine ab_iload de_B_targets_73 7 rfl ?_
      refine ab_ishr de_B_targets_75 ?_
      refine ab_iconst (v := 1) de_B_targets_76 rfl ?_
      refine ab_iand de_B_targets_77 ?_
      refine ab_top (v' := nI (v.testBit k).toNat) (sp_bitne v k (by omega) (by omega)) ?_
      refine ab_if_eq (tgt := 88) de_B_targets_78 rfl (fun c_78_2 => ?_) (fun c_78_2 => ?_)
      · refine ab_iload_n de_B_targets_88 3 rfl ?_
        refine ab_iconst (v := 3) de_B_targets_89 rfl ?_
        refine ab_iload de_B_targets_90 7 rfl ?_
        refine ab_iadd de_B_targets_92 ?_
        refine ab_top (v' := nI (3 + k)) (by rw [show (3 : Int32) = nI 3 from rfl, ab_add]) ?_
        refine ab_ishr de_B_targets_93 ?_
        refine ab_iconst (v := 1) de_B_targets_94 rfl ?_
        refine ab_iand de_B_targets_95 ?_
        refine ab_top (v' := nI (v.testBit (3 + k)).toNat) (sp_bitne v (3 + k) (by omega) (by omega)) ?_
        refine ab_if_eq (tgt := 117) de_B_targets_96 rfl (fun c_96_3 => ?_) (fun c_96_3 => ?_)
        · refine ab_iinc (v := nI (k + 1)) (L' := [(6, .int (nI (k + 1))), (7, .int (nI (T k p))), (0, .ref 16), (1, .int (nI (sp_en m i t))), (2, .int (nI v)), (3, .int (nI p)), (4, .int (nI (ab_no (m ||| i)))), (5, .int (nI (sp_or (fun k => (if v.testBit k then T k p else 0) ||| (if v.testBit (3 + k) then sp_bh T k (T k p &&& i) else 0)) k)))]) de_B_targets_117 7 rfl (by rw [show Int32.ofInt 1 = nI 1 from rfl, ab_add]) (by decide) rfl ?_
          refine ab_goto (tgt := 52) de_B_targets_120 rfl ?_
          refine ab_sub (L' := [(0, .ref 16), (1, .int (nI (sp_en m i t))), (2, .int (nI v)), (3, .int (nI p)), (4, .int (nI (ab_no (m ||| i)))), (5, .int (nI (sp_or (fun k => (if v.testBit k then T k p else 0) ||| (if v.testBit (3 + k) then sp_bh T k (T k p &&& i) else 0)) k))), (6, .int (nI (k + 1)))]) [2, 3, 4, 5, 6, 7, 0] rfl ?_
          have e_ : nI (sp_or (fun k => (if v.testBit k then T k p else 0) ||| (if v.testBit (3 + k) then sp_bh T k (T k p &&& i) else 0)) (k + 1)) = nI (sp_or (fun k => (if v.testBit k then T k p else 0) ||| (if v.testBit (3 + k) then sp_bh T k (T k p &&& i) else 0)) k) := by
            rw [sp_or, if_neg (by rw [(sp_b0 _).mp c_78_2]; decide), if_neg (by rw [(sp_b0 _).mp c_96_3]; decide)]
            simp only [ab_or, Nat.or_zero, Nat.zero_or, Nat.or_assoc]
          have w_ := ih (k + 1) (by omega) (by omega)
          rw [e_] at w_
          exact w_
        · refine ab_iload de_B_targets_99 6 rfl ?_
          refine ab_aload_n de_B_targets_101 1 rfl ?_
          refine ab_iload de_B_targets_102 7 rfl ?_
          refine ab_iload de_B_targets_104 0 rfl ?_
          refine ab_iload_n de_B_targets_106 2 rfl ?_
          refine ab_cS (as := [.int (nI (sp_en m i t))]) (st := [.int (nI (T k p)), .int (nI k), .ref 16, .int (nI (sp_or (fun k => (if v.testBit k then T k p else 0) ||| (if v.testBit (3 + k) then sp_bh T k (T k p &&& i) else 0)) k))]) (ct_B_foes l _ (ab_S nr h g rr) hm hi ht) mo_B_foes ms_B_foes ml_B_39 rfl rfl (Nat.le_of_ble_eq_true rfl) de_B_targets_107 (fun v_ M_ hK_ hl_ hv_ => ?_)
          obtain ⟨rfl, hm_⟩ := hK_
          have hm_ := hm_.symm
          subst hm_
          change ab_G _ _ _ _ _ _ _ [(7, .int (nI (T k p))), (0, .ref 16), (1, .int (nI (sp_en m i t))), (2, .int (nI v)), (3, .int (nI p)), (4, .int (nI (ab_no (m ||| i)))), (5, .int (nI (sp_or (fun k => (if v.testBit k then T k p else 0) ||| (if v.testBit (3 + k) then sp_bh T k (T k p &&& i) else 0)) k))), (6, .int (nI k))] [.int (nI i), .int (nI (T k p)), .int (nI k), .ref 16, .int (nI (sp_or (fun k => (if v.testBit k then T k p else 0) ||| (if v.testBit (3 + k) then sp_bh T k (T k p &&& i) else 0)) k))] (ab_S nr h g rr) _
          refine ab_iand de_B_targets_110 ?_
          refine ab_top (v' := nI (T k p &&& i)) (ab_and _ _) ?_
          refine ab_cV (as := [.int (nI k), .int (nI (T k p &&& i))]) (st := [.int (nI (sp_or (fun k => (if v.testBit k then T k p else 0) ||| (if v.testBit (3 + k) then sp_bh T k (T k p &&& i) else 0)) k))]) (ct_B_behind l _ nr h g rr hT hO hk (o := T k p &&& i) (sp_andlt (hO.lt hk hp))) mo_B_behind mi_B_behind ml_B_55 rfl (by decide) rfl rfl rfl (Nat.le_of_ble_eq_true rfl) de_B_targets_111 (fun v_ M_ hK_ hl_ hv_ => ?_)
          obtain ⟨rfl, hm_⟩ := hK_
          have hm_ := hm_.symm
          subst hm_
          change ab_G _ _ _ _ _ _ _ [(7, .int (nI (T k p))), (0, .ref 16), (1, .int (nI (sp_en m i t))), (2, .int (nI v)), (3, .int (nI p)), (4, .int (nI (ab_no (m ||| i)))), (5, .int (nI (sp_or (fun k => (if v.testBit k then T k p else 0) ||| (if v.testBit (3 + k) then sp_bh T k (T k p &&& i) else 0)) k))), (6, .int (nI k))] [.int (nI (sp_bh T k (T k p &&& i))), .int (nI (sp_or (fun k => (if v.testBit k then T k p else 0) ||| (if v.testBit (3 + k) then sp_bh T k (T k p &&& i) else 0)) k))] (ab_S nr h g rr) _
          refine ab_ior de_B_targets_114 ?_
          refine ab_istore (L' := [(5, .int ((nI (sp_or (fun k => (if v.testBit k then T k p else 0) ||| (if v.testBit (3 + k) then sp_bh T k (T k p &&& i) else 0)) k)) ||| (nI (sp_bh T k (T k p &&& i))))), (7, .int (nI (T k p))), (0, .ref 16), (1, .int (nI (sp_en m i t))), (2, .int (nI v)), (3, .int (nI p)), (4, .int (nI (ab_no (m ||| i)))), (6, .int (nI k))]) de_B_targets_115 (by decide) rfl ?_
          refine ab_iinc (v := nI (k + 1)) (L' := [(6, .int (nI (k + 1))), (5, .int ((nI (sp_or (fun k => (if v.testBit k then T k p else 0) ||| (if v.testBit (3 + k) then sp_bh T k (T k p &&& i) else 0)) k)) ||| (nI (sp_bh T k (T k p &&& i))))), (7, .int (nI (T k p))), (0, .ref 16), (1, .int (nI (sp_en m i t))), (2, .int (nI v)), (3, .int (nI p)), (4, .int (nI (ab_no (m ||| i))))]) de_B_targets_117 7 rfl (by rw [show Int32.ofInt 1 = nI 1 from rfl, ab_add]) (by decide) rfl ?_
          refine ab_goto (tgt := 52) de_B_targets_120 rfl ?_
          refine ab_sub (L' := [(0, .ref 16), (1, .int (nI (sp_en m i t))), (2, .int (nI v)), (3, .int (nI p)), (4, .int (nI (ab_no (m ||| i)))), (5, .int ((nI (sp_or (fun k => (if v.testBit k then T k p else 0) ||| (if v.testBit (3 + k) then sp_bh T k (T k p &&& i) else 0)) k)) ||| (nI (sp_bh T k (T k p &&& i))))), (6, .int (nI (k + 1)))]) [3, 4, 5, 6, 7, 1, 0] rfl ?_
          have e_ : nI (sp_or (fun k => (if v.testBit k then T k p else 0) ||| (if v.testBit (3 + k) then sp_bh T k (T k p &&& i) else 0)) (k + 1)) = (nI (sp_or (fun k => (if v.testBit k then T k p else 0) ||| (if v.testBit (3 + k) then sp_bh T k (T k p &&& i) else 0)) k)) ||| (nI (sp_bh T k (T k p &&& i))) := by
            rw [sp_or, if_neg (by rw [(sp_b0 _).mp c_78_2]; decide), if_pos (ts_f c_96_3)]
            simp only [ab_or, Nat.or_zero, Nat.zero_or, Nat.or_assoc]
          have w_ := ih (k + 1) (by omega) (by omega)
          rw [e_] at w_
          exact w_
      · refine ab_iload de_B_targets_81 6 rfl ?_
        refine ab_iload de_B_targets_83 0 rfl ?_
        refine ab_ior de_B_targets_85 ?_
        refine ab_top (v' := nI (sp_or (fun k => (if v.testBit k then T k p else 0) ||| (if v.testBit (3 + k) then sp_bh T k (T k p &&& i) else 0)) k ||| T k p)) (ab_or _ _) ?_
        refine ab_istore (L' := [(5, .int (nI (sp_or (fun k => (if v.testBit k then T k p else 0) ||| (if v.testBit (3 + k) then sp_bh T k (T k p &&& i) else 0)) k ||| T k p))), (7, .int (nI (T k p))), (0, .ref 16), (1, .int (nI (sp_en m i t))), (2, .int (nI v)), (3, .int (nI p)), (4, .int (nI (ab_no (m ||| i)))), (6, .int (nI k))]) de_B_targets_86 (by decide) rfl ?_
        refine ab_iload_n de_B_targets_88 4 rfl ?_
        refine ab_iconst (v := 3) de_B_targets_89 rfl ?_
        refine ab_iload de_B_targets_90 7 rfl ?_
        refine ab_iadd de_B_targets_92 ?_
        refine ab_top (v' := nI (3 + k)) (by rw [show (3 : Int32) = nI 3 from rfl, ab_add]) ?_
        refine ab_ishr de_B_targets_93 ?_
        refine ab_iconst (v := 1) de_B_targets_94 rfl ?_
        refine ab_iand de_B_targets_95 ?_
        refine ab_top (v' := nI (v.testBit (3 + k)).toNat) (sp_bitne v (3 + k) (by omega) (by omega)) ?_
        refine ab_if_eq (tgt := 117) de_B_targets_96 rfl (fun c_96_4 => ?_) (fun c_96_4 => ?_)
        · refine ab_iinc (v := nI (k + 1)) (L' := [(6, .int (nI (k + 1))), (5, .int (nI (sp_or (fun k => (if v.testBit k then T k p else 0) ||| (if v.testBit (3 + k) then sp_bh T k (T k p &&& i) else 0)) k ||| T k p))), (7, .int (nI (T k p))), (0, .ref 16), (1, .int (nI (sp_en m i t))), (2, .int (nI v)), (3, .int (nI p)), (4, .int (nI (ab_no (m ||| i))))]) de_B_targets_117 7 rfl (by rw [show Int32.ofInt 1 = nI 1 from rfl, ab_add]) (by decide) rfl ?_
          refine ab_goto (tgt := 52) de_B_targets_120 rfl ?_
          refine ab_sub (L' := [(0, .ref 16), (1, .int (nI (sp_en m i t))), (2, .int (nI v)), (3, .int (nI p)), (4, .int (nI (ab_no (m ||| i)))), (5, .int (nI (sp_or (fun k => (if v.testBit k then T k p else 0) ||| (if v.testBit (3 + k) then sp_bh T k (T k p &&& i) else 0)) k ||| T k p))), (6, .int (nI (k + 1)))]) [3, 4, 5, 6, 7, 1, 0] rfl ?_
          have e_ : nI (sp_or (fun k => (if v.testBit k then T k p else 0) ||| (if v.testBit (3 + k) then sp_bh T k (T k p &&& i) else 0)) (k + 1)) = nI (sp_or (fun k => (if v.testBit k then T k p else 0) ||| (if v.testBit (3 + k) then sp_bh T k (T k p &&& i) else 0)) k ||| T k p) := by
            rw [sp_or, if_pos (ts_f c_78_2), if_neg (by rw [(sp_b0 _).mp c_96_4]; decide)]
            simp only [ab_or, Nat.or_zero, Nat.zero_or, Nat.or_assoc]
          have w_ := ih (k + 1) (by omega) (by omega)
          rw [e_] at w_
          exact w_
        · refine ab_iload de_B_targets_99 0 rfl ?_
          refine ab_aload_n de_B_targets_101 2 rfl ?_
          refine ab_iload de_B_targets_102 7 rfl ?_
          refine ab_iload de_B_targets_104 1 rfl ?_
          refine ab_iload_n de_B_targets_106 3 rfl ?_
          refine ab_cS (as := [.int (nI (sp_en m i t))]) (st := [.int (nI (T k p)), .int (nI k), .ref 16, .int (nI (sp_or (fun k => (if v.testBit k then T k p else 0) ||| (if v.testBit (3 + k) then sp_bh T k (T k p &&& i) else 0)) k ||| T k p))]) (ct_B_foes l _ (ab_S nr h g rr) hm hi ht) mo_B_foes ms_B_foes ml_B_39 rfl rfl (Nat.le_of_ble_eq_true rfl) de_B_targets_107 (fun v_ M_ hK_ hl_ hv_ => ?_)
          obtain ⟨rfl, hm_⟩ := hK_
          have hm_ := hm_.symm
          subst hm_
          change ab_G _ _ _ _ _ _ _ [(5, .int (nI (sp_or (fun k => (if v.testBit k then T k p else 0) ||| (if v.testBit (3 + k) then sp_bh T k (T k p &&& i) else 0)) k ||| T k p))), (7, .int (nI (T k p))), (0, .ref 16), (1, .int (nI (sp_en m i t))), (2, .int (nI v)), (3, .int (nI p)), (4, .int (nI (ab_no (m ||| i)))), (6, .int (nI k))] [.int (nI i), .int (nI (T k p)), .int (nI k), .ref 16, .int (nI (sp_or (fun k => (if v.testBit k then T k p else 0) ||| (if v.testBit (3 + k) then sp_bh T k (T k p &&& i) else 0)) k ||| T k p))] (ab_S nr h g rr) _
          refine ab_iand de_B_targets_110 ?_
          refine ab_top (v' := nI (T k p &&& i)) (ab_and _ _) ?_
          refine ab_cV (as := [.int (nI k), .int (nI (T k p &&& i))]) (st := [.int (nI (sp_or (fun k => (if v.testBit k then T k p else 0) ||| (if v.testBit (3 + k) then sp_bh T k (T k p &&& i) else 0)) k ||| T k p))]) (ct_B_behind l _ nr h g rr hT hO hk (o := T k p &&& i) (sp_andlt (hO.lt hk hp))) mo_B_behind mi_B_behind ml_B_55 rfl (by decide) rfl rfl rfl (Nat.le_of_ble_eq_true rfl) de_B_targets_111 (fun v_ M_ hK_ hl_ hv_ => ?_)
          obtain ⟨rfl, hm_⟩ := hK_
          have hm_ := hm_.symm
          subst hm_
          change ab_G _ _ _ _ _ _ _ [(5, .int (nI (sp_or (fun k => (if v.testBit k then T k p else 0) ||| (if v.testBit (3 + k) then sp_bh T k (T k p &&& i) else 0)) k ||| T k p))), (7, .int (nI (T k p))), (0, .ref 16), (1, .int (nI (sp_en m i t))), (2, .int (nI v)), (3, .int (nI p)), (4, .int (nI (ab_no (m ||| i)))), (6, .int (nI k))] [.int (nI (sp_bh T k (T k p &&& i))), .int (nI (sp_or (fun k => (if v.testBit k then T k p else 0) ||| (if v.testBit (3 + k) then sp_bh T k (T k p &&& i) else 0)) k ||| T k p))] (ab_S nr h g rr) _
          refine ab_ior de_B_targets_114 ?_
          refine ab_istore (L' := [(5, .int ((nI (sp_or (fun k => (if v.testBit k then T k p else 0) ||| (if v.testBit (3 + k) then sp_bh T k (T k p &&& i) else 0)) k ||| T k p)) ||| (nI (sp_bh T k (T k p &&& i))))), (7, .int (nI (T k p))), (0, .ref 16), (1, .int (nI (sp_en m i t))), (2, .int (nI v)), (3, .int (nI p)), (4, .int (nI (ab_no (m ||| i)))), (6, .int (nI k))]) de_B_targets_115 (by decide) rfl ?_
          refine ab_iinc (v := nI (k + 1)) (L' := [(6, .int (nI (k + 1))), (5, .int ((nI (sp_or (fun k => (if v.testBit k then T k p else 0) ||| (if v.testBit (3 + k) then sp_bh T k (T k p &&& i) else 0)) k ||| T k p)) ||| (nI (sp_bh T k (T k p &&& i))))), (7, .int (nI (T k p))), (0, .ref 16), (1, .int (nI (sp_en m i t))), (2, .int (nI v)), (3, .int (nI p)), (4, .int (nI (ab_no (m ||| i))))]) de_B_targets_117 7 rfl (by rw [show Int32.ofInt 1 = nI 1 from rfl, ab_add]) (by decide) rfl ?_
          refine ab_goto (tgt := 52) de_B_targets_120 rfl ?_
          refine ab_sub (L' := [(0, .ref 16), (1, .int (nI (sp_en m i t))), (2, .int (nI v)), (3, .int (nI p)), (4, .int (nI (ab_no (m ||| i)))), (5, .int ((nI (sp_or (fun k => (if v.testBit k then T k p else 0) ||| (if v.testBit (3 + k) then sp_bh T k (T k p &&& i) else 0)) k ||| T k p)) ||| (nI (sp_bh T k (T k p &&& i))))), (6, .int (nI (k + 1)))]) [3, 4, 5, 6, 7, 1, 0] rfl ?_
          have e_ : nI (sp_or (fun k => (if v.testBit k then T k p else 0) ||| (if v.testBit (3 + k) then sp_bh T k (T k p &&& i) else 0)) (k + 1)) = (nI (sp_or (fun k => (if v.testBit k then T k p else 0) ||| (if v.testBit (3 + k) then sp_bh T k (T k p &&& i) else 0)) k ||| T k p)) ||| (nI (sp_bh T k (T k p &&& i))) := by
            rw [sp_or, if_pos (ts_f c_78_2), if_pos (ts_f c_96_4)]
            simp only [ab_or, Nat.or_zero, Nat.zero_or, Nat.or_assoc]
          have w_ := ih (k + 1) (by omega) (by omega)
          rw [e_] at w_
          exact w_
theorem sp_p15 {p : Nat} (hp : p < 16) (h : nI p = 15) : p = 15 := (ab_inj (b := 15) (by omega) (by decide)).mp h
set_option maxHeartbeats 1000000 in
set_option maxRecDepth 10000 in
theorem ct_B_targets (l : Launch) (d : Nat) (nr : Nat) (h : Nat → Nat → Int32) (g : Nat → Nat → Int64) (rr : Nat → Option Nat) {T : Nat → Nat → Nat} (hT : bo_T T h 17) (hO : sp_ok T) {m i t v p : Nat} (hm : m < 4096) (hi : i < 4096) (ht : t < 2) (hv : v < 4096) (hp16 : p < 16) : ab_C l am_B_targets (d + 2) 0 0 [.ref 16, .int (nI (sp_en m i t)), .int (nI v), .int (nI p)] (ab_S nr h g rr) (fun (r_ : Option Value) (M' : ab_Me) => r_ = some (.int (nI (sp_tg T v m i p))) ∧ M' = (ab_S nr h g rr)) := by
  refine ab_C_of (by decide +kernel) rfl (Nat.le_of_ble_eq_true rfl) ?_
  refine ab_iload_n de_B_targets_0 1 rfl ?_
  refine ab_cS (as := [.int (nI (sp_en m i t))]) (st := []) (ct_B_empty l _ (ab_S nr h g rr) hm hi ht) mo_B_empty ms_B_empty ml_B_22 rfl rfl (Nat.le_of_ble_eq_true rfl) de_B_targets_1 (fun v_ M_ hK_ hl_ hv_ => ?_)
  obtain ⟨rfl, hm_⟩ := hK_
  have hm_ := hm_.symm
  subst hm_
  change ab_G _ _ _ _ _ _ _ [(0, .ref 16), (1, .int (nI (sp_en m i t))), (2, .int (nI v)), (3, .int (nI p))] [.int (nI (ab_no (m ||| i)))] (ab_S nr h g rr) _
  refine ab_istore (L' := [(4, .int (nI (ab_no (m ||| i)))), (0, .ref 16), (1, .int (nI (sp_en m i t))), (2, .int (nI v)), (3, .int (nI p))]) de_B_targets_4 (by decide) rfl ?_
  refine ab_iload_n de_B_targets_6 4 rfl ?_
  refine ab_bipush (v := 15) de_B_targets_7 rfl ?_
  refine ab_icmp_ne (tgt := 26) de_B_targets_9 rfl (fun c_9_1 => ?_) (fun c_9_1 => ?_)
  · refine ab_iload_n de_B_targets_26 4 rfl ?_
    refine ab_cS (as := [.int (nI p)]) (st := []) (ct_W_isPoint l _ (ab_S nr h g rr) (nI p)) mo_W_isPoint ms_W_isPoint ml_B_25 rfl rfl (Nat.le_of_ble_eq_true rfl) de_B_targets_27 (fun v_ M_ hK_ hl_ hv_ => ?_)
    obtain ⟨rfl, hm_⟩ := hK_
    have hm_ := hm_.symm
    subst hm_
    change ab_G _ _ _ _ _ _ _ [(4, .int (nI (ab_no (m ||| i)))), (0, .ref 16), (1, .int (nI (sp_en m i t))), (2, .int (nI v)), (3, .int (nI p))] [.int (ab_bz (sp_pt (nI p)))] (ab_S nr h g rr) _
    refine ab_if_eq (tgt := 44) de_B_targets_30 rfl (fun c_30_2 => ?_) (fun c_30_2 => ?_)
    · refine ab_iconst (v := 0) de_B_targets_44 rfl ?_
      exact ab_ret (v := some (.int (0 : Int32))) de_B_targets_45 ⟨_, rfl⟩ ⟨congrArg (fun z => some (Value.int z)) (by rw [sp_tg, if_neg (fun z => c_9_1 (by rw [z]; rfl)), if_neg (fun z => by have := (ab_bz0 _).mp c_30_2; rw [sp_pt_n (by omega)] at this; exact absurd z.1 (of_decide_eq_false this))]; rfl), rfl⟩
    · refine ab_iload_n de_B_targets_33 2 rfl ?_
      refine ab_cS (as := [.int (nI (sp_en m i t))]) (st := []) (ct_B_own l _ (ab_S nr h g rr) hm hi ht) mo_B_own ms_B_own ml_B_36 rfl rfl (Nat.le_of_ble_eq_true rfl) de_B_targets_34 (fun v_ M_ hK_ hl_ hv_ => ?_)
      obtain ⟨rfl, hm_⟩ := hK_
      have hm_ := hm_.symm
      subst hm_
      change ab_G _ _ _ _ _ _ _ [(4, .int (nI (ab_no (m ||| i)))), (0, .ref 16), (1, .int (nI (sp_en m i t))), (2, .int (nI v)), (3, .int (nI p))] [.int (nI m)] (ab_S nr h g rr) _
      refine ab_iload_n de_B_targets_37 4 rfl ?_
      refine ab_ishr de_B_targets_38 ?_
      refine ab_iconst (v := 1) de_B_targets_39 rfl ?_
      refine ab_iand de_B_targets_40 ?_
      refine ab_top (v' := nI (m.testBit p).toNat) (sp_bitne m p (by omega) (by omega)) ?_
      refine ab_if_ne (tgt := 46) de_B_targets_41 rfl (fun c_41_3 => ?_) (fun c_41_3 => ?_)
      · refine ab_iconst (v := 0) de_B_targets_46 rfl ?_
        refine ab_istore (L' := [(5, .int (0 : Int32)), (4, .int (nI (ab_no (m ||| i)))), (0, .ref 16), (1, .int (nI (sp_en m i t))), (2, .int (nI v)), (3, .int (nI p))]) de_B_targets_47 (by decide) rfl ?_
        refine ab_iconst (v := 0) de_B_targets_49 rfl ?_
        refine ab_istore (L' := [(6, .int (0 : Int32)), (5, .int (0 : Int32)), (4, .int (nI (ab_no (m ||| i)))), (0, .ref 16), (1, .int (nI (sp_en m i t))), (2, .int (nI v)), (3, .int (nI p))]) de_B_targets_50 (by decide) rfl ?_
        have hp12 : p < 12 := by
          have z := (ab_bz1 _).mp c_30_2
          rw [sp_pt_n (by omega)] at z
          exact of_decide_eq_true z
        refine ab_sub (L' := [(0, .ref 16), (1, .int (nI (sp_en m i t))), (2, .int (nI v)), (3, .int (nI p)), (4, .int (nI (ab_no (m ||| i)))), (5, .int (0 : Int32)), (6, .int (0 : Int32))]) [3, 4, 5, 6, 2, 1, 0] rfl ?_
        exact lp_B_targets l d nr h g rr hT hO hm hi ht hv hp12 (ts_f c_41_3) 4 0 (by omega) (by omega)
      · refine ab_iconst (v := 0) de_B_targets_44 rfl ?_
        exact ab_ret (v := some (.int (0 : Int32))) de_B_targets_45 ⟨_, rfl⟩ ⟨congrArg (fun z => some (Value.int z)) (by rw [sp_tg, if_neg (fun z => c_9_1 (by rw [z]; rfl)), if_neg (fun z => by rw [(sp_b0 _).mp c_41_3] at z; exact absurd z.2 (by decide))]; rfl), rfl⟩
  · refine ab_iload_n de_B_targets_12 3 rfl ?_
    refine ab_bipush (v := 64) de_B_targets_13 rfl ?_
    refine ab_iand de_B_targets_15 ?_
    refine ab_if_eq (tgt := 24) de_B_targets_16 rfl (fun c_16_4 => ?_) (fun c_16_4 => ?_)
    · refine ab_iconst (v := 0) de_B_targets_24 rfl ?_
      exact ab_ret (v := some (.int (0 : Int32))) de_B_targets_25 ⟨_, rfl⟩ ⟨congrArg (fun z => some (Value.int z)) (by rw [sp_tg, if_pos (sp_p15 hp16 c_9_1), if_neg (by rw [(sp_andk v 6 rfl (by decide)).mp c_16_4]; decide)]; rfl), rfl⟩
    · refine ab_iload de_B_targets_19 0 rfl ?_
      refine ab_goto (tgt := 25) de_B_targets_21 rfl ?_
      exact ab_ret (v := some (.int (nI (ab_no (m ||| i))))) de_B_targets_25 ⟨_, rfl⟩ ⟨congrArg (fun z => some (Value.int z)) (by rw [sp_tg, if_pos (sp_p15 hp16 c_9_1), if_pos (sp_n1 (fun e => c_16_4 ((sp_andk v 6 rfl (by decide)).mpr e)))]), rfl⟩
