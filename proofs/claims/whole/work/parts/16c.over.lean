/-! the reference: what is over, what is lawful -/
theorem sp_lj_c {T : Nat → Nat → Nat} {a b m i : Nat} (h : ∀ k, k < 3 → a.testBit (3 + k) = b.testBit (3 + k)) : sp_lj T a m i = sp_lj T b m i := by
  unfold sp_lj
  refine sp_any_cong (fun k hk => sp_any_cong (fun q _ => ?_))
  unfold sp_ja
  rw [h k hk]
theorem sp_ls_c {T : Nat → Nat → Nat} {a b m i : Nat} (h : ∀ k, k < 3 → a.testBit k = b.testBit k) : sp_ls T a m i = sp_ls T b m i := by
  unfold sp_ls
  refine sp_any_cong (fun k hk => sp_any_cong (fun q _ => ?_))
  unfold sp_sa
  rw [h k hk]
theorem md_184 {c k : Nat} (hk : k < 3) : (c &&& 184).testBit (3 + k) = c.testBit (3 + k) := by
  rw [Nat.testBit_and]
  rcases (by omega : k = 0 ∨ k = 1 ∨ k = 2) with rfl | rfl | rfl <;> exact Bool.and_true _
theorem md_255 {c k : Nat} (hk : k < 8) : (c &&& 255).testBit k = c.testBit k := by
  rw [Nat.testBit_and]
  have : ∀ k, k < 8 → (255 : Nat).testBit k = true := by decide
  rw [this k hk, Bool.and_true]
theorem md_no0 {x : Nat} (hx : x < 4096) : ab_no x = 0 ↔ x = 4095 := by
  constructor
  · intro h
    refine sp_ext hx (by decide) (fun j hj => ?_)
    have h1 := ab_no_bit x hj
    rw [h, Nat.zero_testBit] at h1
    rw [sp_4095 j hj]
    cases hb : x.testBit j with
    | true => rfl
    | false => rw [hb] at h1; cases h1
  · rintro rfl
    decide
def md_still (T : Nat → Nat → Nat) (c m i : Nat) : Bool := (!c.testBit 6 || decide (m ||| i = 4095)) && (!sp_ls T c m i && !sp_lj T c m i)
theorem md_ov {T : Nat → Nat → Nat} {c m i : Nat} (hm : m < 4096) (hi : i < 4096) : sp_ov T c m i = (sp_few c m || (c.testBit 9 && md_still T c m i)) := by
  unfold sp_ov
  cases hf : sp_few c m with
  | true => rfl
  | false =>
    rw [Bool.false_or, Bool.false_or]
    congr 1
    unfold sp_lv
    rw [if_neg (by rw [hf]; decide)]
    by_cases hj : (c.testBit 8 && sp_lj T c m i) = true
    · rw [if_pos hj]
      rw [Bool.and_eq_true] at hj
      unfold sp_la md_still
      rw [sp_lj_c (a := c &&& 184) (b := c) (fun k hk => md_184 hk), hj.2]
      simp
    · rw [if_neg hj]
      unfold sp_la md_still
      rw [sp_lj_c (a := c &&& 255) (b := c) (fun k hk => md_255 (by omega)), sp_ls_c (a := c &&& 255) (b := c) (fun k hk => md_255 (by omega)), md_255 (by decide)]
      have e : decide (ab_no (m ||| i) = 0) = decide (m ||| i = 4095) := decide_eq_decide.mpr (md_no0 (sp_orlt hm hi))
      rw [e]
      cases c.testBit 6 <;> cases decide (m ||| i = 4095) <;> cases sp_ls T c m i <;> cases sp_lj T c m i <;> rfl
theorem sp_pt_k {k : Nat} (hk : k < 2 ^ 31) : sp_pt (nI k) = decide (k < 12) := by
  unfold sp_pt
  refine decide_eq_decide.mpr ⟨fun h => (ab_lt (b := 12) hk (by decide)).mp h.2, fun h => ⟨(ab_le (a := 0) (by decide) hk).mpr (Nat.zero_le _), (ab_lt (b := 12) hk (by decide)).mpr h⟩⟩
set_option maxHeartbeats 1000000 in
set_option maxRecDepth 10000 in
theorem ct_M_isFew (l : Launch) (d : Nat) (nr : Nat) (h : Nat → Nat → Int32) (g : Nat → Nat → Int64) (rr : Nat → Option Nat) {c m : Nat} (hc : c < 4096) (hm : m < 4096) : ab_C l am_M_isFew (d + 1) 0 0 [.ref 30, .int (nI c), .int (nI m)] (ab_S nr h g rr) (fun (r_ : Option Value) (M' : ab_Me) => r_ = some (.int (ab_bz (sp_few c m))) ∧ M' = (ab_S nr h g rr)) := by
  have cn_ := sp_cn_le m
  refine ab_C_of (by decide +kernel) rfl (Nat.le_of_ble_eq_true rfl) ?_
  refine ab_aload_n de_M_isFew_0 0 rfl ?_
  refine ab_iload_n de_M_isFew_1 1 rfl ?_
  refine ab_cV (as := [.int (nI c)]) (st := []) (ct_M_endOf l _ (ab_S nr h g rr) (c := c) hc) mo_M_endOf mi_M_endOf ml_M_104 rfl (by decide) rfl rfl rfl (Nat.le_of_ble_eq_true rfl) de_M_isFew_2 (fun v_ M_ hK_ hl_ hv_ => ?_)
  obtain ⟨rfl, hm_⟩ := hK_
  have hm_ := hm_.symm
  subst hm_
  change ab_G _ _ _ _ _ _ _ [(0, .ref 30), (1, .int (nI c)), (2, .int (nI m))] [.int (nI (c / 1024))] (ab_S nr h g rr) _
  refine ab_if_le (tgt := 25) de_M_isFew_5 rfl (fun c_5_1 => ?_) (fun c_5_1 => ?_)
  · refine ab_iconst (v := 0) de_M_isFew_25 rfl ?_
    exact ab_ret (v := some (.int (0 : Int32))) de_M_isFew_26 ⟨_, rfl, rfl⟩ ⟨congrArg (fun z => some (Value.int z)) (ab_bz_f (by unfold sp_few; exact decide_eq_false (by have := (ab_le0 (by omega)).mp c_5_1; omega))), rfl⟩
  · refine ab_aload_n de_M_isFew_8 0 rfl ?_
    refine ab_iload_n de_M_isFew_9 2 rfl ?_
    refine ab_cV (as := [.int (nI m)]) (st := []) (ct_M_many l _ (ab_S nr h g rr) (b := m) (by omega)) mo_M_many mi_M_many ml_M_101 rfl (by decide) rfl rfl rfl (Nat.le_of_ble_eq_true rfl) de_M_isFew_10 (fun v_ M_ hK_ hl_ hv_ => ?_)
    obtain ⟨rfl, hm_⟩ := hK_
    have hm_ := hm_.symm
    subst hm_
    change ab_G _ _ _ _ _ _ _ [(0, .ref 30), (1, .int (nI c)), (2, .int (nI m))] [.int (nI (sp_cn m))] (ab_S nr h g rr) _
    refine ab_aload_n de_M_isFew_13 0 rfl ?_
    refine ab_iload_n de_M_isFew_14 1 rfl ?_
    refine ab_cV (as := [.int (nI c)]) (st := [.int (nI (sp_cn m))]) (ct_M_endOf l _ (ab_S nr h g rr) (c := c) hc) mo_M_endOf mi_M_endOf ml_M_104 rfl (by decide) rfl rfl rfl (Nat.le_of_ble_eq_true rfl) de_M_isFew_15 (fun v_ M_ hK_ hl_ hv_ => ?_)
    obtain ⟨rfl, hm_⟩ := hK_
    have hm_ := hm_.symm
    subst hm_
    change ab_G _ _ _ _ _ _ _ [(0, .ref 30), (1, .int (nI c)), (2, .int (nI m))] [.int (nI (c / 1024)), .int (nI (sp_cn m))] (ab_S nr h g rr) _
    refine ab_icmp_ge (tgt := 25) de_M_isFew_18 rfl (fun c_18_2 => ?_) (fun c_18_2 => ?_)
    · refine ab_iconst (v := 0) de_M_isFew_25 rfl ?_
      exact ab_ret (v := some (.int (0 : Int32))) de_M_isFew_26 ⟨_, rfl, rfl⟩ ⟨congrArg (fun z => some (Value.int z)) (ab_bz_f (by unfold sp_few; exact decide_eq_false (by have := (ab_le (by omega) (by omega)).mp c_18_2; omega))), rfl⟩
    · refine ab_iconst (v := 1) de_M_isFew_21 rfl ?_
      refine ab_goto (tgt := 26) de_M_isFew_22 rfl ?_
      exact ab_ret (v := some (.int (1 : Int32))) de_M_isFew_26 ⟨_, rfl, rfl⟩ ⟨congrArg (fun z => some (Value.int z)) (ab_bz_t (by unfold sp_few; exact decide_eq_true (by have := Nat.lt_of_not_le (fun z => c_18_2 ((ab_le (by omega) (by omega)).mpr z)); omega))), rfl⟩
set_option maxHeartbeats 1000000 in
set_option maxRecDepth 10000 in
theorem ct_M_isStill (l : Launch) (d : Nat) (nr : Nat) (h : Nat → Nat → Int32) (g : Nat → Nat → Int64) (rr : Nat → Option Nat) {T : Nat → Nat → Nat} (hTM : bo_T T h 32) (hO : sp_ok T) {c m i : Nat} (hc : c < 4096) (hm : m < 4096) (hi : i < 4096) : ab_C l am_M_isStill (d + 2) 0 0 [.ref 30, .int (nI c), .int (nI m), .int (nI i)] (ab_S nr h g rr) (fun (r_ : Option Value) (M' : ab_Me) => r_ = some (.int (ab_bz (md_still T c m i))) ∧ M' = (ab_S nr h g rr)) := by
  have or_ := sp_orlt hm hi
  refine ab_C_of (by decide +kernel) rfl (Nat.le_of_ble_eq_true rfl) ?_
  refine ab_iload_n de_M_isStill_0 1 rfl ?_
  refine ab_bipush (v := 64) de_M_isStill_1 rfl ?_
  refine ab_iand de_M_isStill_3 ?_
  refine ab_top (v' := nI (c &&& 64)) (ab_and _ _) ?_
  refine ab_if_eq (tgt := 16) de_M_isStill_4 rfl (fun c_4_1 => ?_) (fun c_4_1 => ?_)
  · refine ab_aload_n de_M_isStill_16 0 rfl ?_
    refine ab_iload_n de_M_isStill_17 1 rfl ?_
    refine ab_iload_n de_M_isStill_18 2 rfl ?_
    refine ab_iload_n de_M_isStill_19 3 rfl ?_
    refine ab_cV (as := [.int (nI c), .int (nI m), .int (nI i)]) (st := []) (ct_M_hasStep l _ nr h g rr hTM hO hc hm hi) mo_M_hasStep mi_M_hasStep ml_M_188 rfl (by decide) rfl rfl rfl (Nat.le_of_ble_eq_true rfl) de_M_isStill_20 (fun v_ M_ hK_ hl_ hv_ => ?_)
    obtain ⟨rfl, hm_⟩ := hK_
    have hm_ := hm_.symm
    subst hm_
    change ab_G _ _ _ _ _ _ _ [(0, .ref 30), (1, .int (nI c)), (2, .int (nI m)), (3, .int (nI i))] [.int (ab_bz (sp_ls T c m i))] (ab_S nr h g rr) _
    refine ab_if_ne (tgt := 40) de_M_isStill_23 rfl (fun c_23_2 => ?_) (fun c_23_2 => ?_)
    · refine ab_iconst (v := 0) de_M_isStill_40 rfl ?_
      exact ab_ret (v := some (.int (0 : Int32))) de_M_isStill_41 ⟨_, rfl, rfl⟩ ⟨congrArg (fun z => some (Value.int z)) (ab_bz_f (by unfold md_still; rw [(ab_bz1 _).mp c_23_2]; simp)), rfl⟩
    · refine ab_aload_n de_M_isStill_26 0 rfl ?_
      refine ab_iload_n de_M_isStill_27 1 rfl ?_
      refine ab_iload_n de_M_isStill_28 2 rfl ?_
      refine ab_iload_n de_M_isStill_29 3 rfl ?_
      refine ab_cV (as := [.int (nI c), .int (nI m), .int (nI i)]) (st := []) (ct_M_hasJump l _ nr h g rr hTM hO hc hm hi) mo_M_hasJump mi_M_hasJump ml_M_192 rfl (by decide) rfl rfl rfl (Nat.le_of_ble_eq_true rfl) de_M_isStill_30 (fun v_ M_ hK_ hl_ hv_ => ?_)
      obtain ⟨rfl, hm_⟩ := hK_
      have hm_ := hm_.symm
      subst hm_
      change ab_G _ _ _ _ _ _ _ [(0, .ref 30), (1, .int (nI c)), (2, .int (nI m)), (3, .int (nI i))] [.int (ab_bz (sp_lj T c m i))] (ab_S nr h g rr) _
      refine ab_if_ne (tgt := 40) de_M_isStill_33 rfl (fun c_33_3 => ?_) (fun c_33_3 => ?_)
      · refine ab_iconst (v := 0) de_M_isStill_40 rfl ?_
        exact ab_ret (v := some (.int (0 : Int32))) de_M_isStill_41 ⟨_, rfl, rfl⟩ ⟨congrArg (fun z => some (Value.int z)) (ab_bz_f (by unfold md_still; rw [(ab_bz1 _).mp c_33_3]; simp)), rfl⟩
      · refine ab_iconst (v := 1) de_M_isStill_36 rfl ?_
        refine ab_goto (tgt := 41) de_M_isStill_37 rfl ?_
        exact ab_ret (v := some (.int (1 : Int32))) de_M_isStill_41 ⟨_, rfl, rfl⟩ ⟨congrArg (fun z => some (Value.int z)) (ab_bz_t (by unfold md_still; rw [(md_b (c := c) (k := 6) (n := 64) rfl hc).mp c_4_1]; rw [(ab_bz0 _).mp c_23_2, (ab_bz0 _).mp c_33_3]; simp)), rfl⟩
  · refine ab_iload_n de_M_isStill_7 2 rfl ?_
    refine ab_iload_n de_M_isStill_8 3 rfl ?_
    refine ab_ior de_M_isStill_9 ?_
    refine ab_top (v' := nI (m ||| i)) (ab_or _ _) ?_
    refine ab_sipush (v := 4095) de_M_isStill_10 rfl ?_
    refine ab_icmp_ne (tgt := 40) de_M_isStill_13 rfl (fun c_13_4 => ?_) (fun c_13_4 => ?_)
    · refine ab_iconst (v := 0) de_M_isStill_40 rfl ?_
      exact ab_ret (v := some (.int (0 : Int32))) de_M_isStill_41 ⟨_, rfl, rfl⟩ ⟨congrArg (fun z => some (Value.int z)) (ab_bz_f (by unfold md_still; rw [md_bt (c := c) (k := 6) (n := 64) rfl hc c_4_1, decide_eq_false (fun z => c_13_4 (by rw [z]; rfl))]; rfl)), rfl⟩
    · refine ab_aload_n de_M_isStill_16 0 rfl ?_
      refine ab_iload_n de_M_isStill_17 1 rfl ?_
      refine ab_iload_n de_M_isStill_18 2 rfl ?_
      refine ab_iload_n de_M_isStill_19 3 rfl ?_
      refine ab_cV (as := [.int (nI c), .int (nI m), .int (nI i)]) (st := []) (ct_M_hasStep l _ nr h g rr hTM hO hc hm hi) mo_M_hasStep mi_M_hasStep ml_M_188 rfl (by decide) rfl rfl rfl (Nat.le_of_ble_eq_true rfl) de_M_isStill_20 (fun v_ M_ hK_ hl_ hv_ => ?_)
      obtain ⟨rfl, hm_⟩ := hK_
      have hm_ := hm_.symm
      subst hm_
      change ab_G _ _ _ _ _ _ _ [(0, .ref 30), (1, .int (nI c)), (2, .int (nI m)), (3, .int (nI i))] [.int (ab_bz (sp_ls T c m i))] (ab_S nr h g rr) _
      refine ab_if_ne (tgt := 40) de_M_isStill_23 rfl (fun c_23_5 => ?_) (fun c_23_5 => ?_)
      · refine ab_iconst (v := 0) de_M_isStill_40 rfl ?_
        exact ab_ret (v := some (.int (0 : Int32))) de_M_isStill_41 ⟨_, rfl, rfl⟩ ⟨congrArg (fun z => some (Value.int z)) (ab_bz_f (by unfold md_still; rw [(ab_bz1 _).mp c_23_5]; simp)), rfl⟩
      · refine ab_aload_n de_M_isStill_26 0 rfl ?_
        refine ab_iload_n de_M_isStill_27 1 rfl ?_
        refine ab_iload_n de_M_isStill_28 2 rfl ?_
        refine ab_iload_n de_M_isStill_29 3 rfl ?_
        refine ab_cV (as := [.int (nI c), .int (nI m), .int (nI i)]) (st := []) (ct_M_hasJump l _ nr h g rr hTM hO hc hm hi) mo_M_hasJump mi_M_hasJump ml_M_192 rfl (by decide) rfl rfl rfl (Nat.le_of_ble_eq_true rfl) de_M_isStill_30 (fun v_ M_ hK_ hl_ hv_ => ?_)
        obtain ⟨rfl, hm_⟩ := hK_
        have hm_ := hm_.symm
        subst hm_
        change ab_G _ _ _ _ _ _ _ [(0, .ref 30), (1, .int (nI c)), (2, .int (nI m)), (3, .int (nI i))] [.int (ab_bz (sp_lj T c m i))] (ab_S nr h g rr) _
        refine ab_if_ne (tgt := 40) de_M_isStill_33 rfl (fun c_33_6 => ?_) (fun c_33_6 => ?_)
        · refine ab_iconst (v := 0) de_M_isStill_40 rfl ?_
          exact ab_ret (v := some (.int (0 : Int32))) de_M_isStill_41 ⟨_, rfl, rfl⟩ ⟨congrArg (fun z => some (Value.int z)) (ab_bz_f (by unfold md_still; rw [(ab_bz1 _).mp c_33_6]; simp)), rfl⟩
        · refine ab_iconst (v := 1) de_M_isStill_36 rfl ?_
          refine ab_goto (tgt := 41) de_M_isStill_37 rfl ?_
          exact ab_ret (v := some (.int (1 : Int32))) de_M_isStill_41 ⟨_, rfl, rfl⟩ ⟨congrArg (fun z => some (Value.int z)) (ab_bz_t (by unfold md_still; rw [decide_eq_true ((ab_inj (a := m ||| i) (b := 4095) (by omega) (by decide)).mp c_13_4)]; rw [(ab_bz0 _).mp c_23_5, (ab_bz0 _).mp c_33_6]; simp)), rfl⟩
set_option maxHeartbeats 1000000 in
set_option maxRecDepth 10000 in
theorem ct_M_isOver (l : Launch) (d : Nat) (nr : Nat) (h : Nat → Nat → Int32) (g : Nat → Nat → Int64) (rr : Nat → Option Nat) {T : Nat → Nat → Nat} (hTM : bo_T T h 32) (hO : sp_ok T) {c m i : Nat} (hc : c < 4096) (hm : m < 4096) (hi : i < 4096) : ab_C l am_M_isOver (d + 3) 0 0 [.ref 30, .int (nI c), .int (nI m), .int (nI i)] (ab_S nr h g rr) (fun (r_ : Option Value) (M' : ab_Me) => r_ = some (.int (ab_bz (sp_ov T c m i))) ∧ M' = (ab_S nr h g rr)) := by
  refine ab_C_of (by decide +kernel) rfl (Nat.le_of_ble_eq_true rfl) ?_
  refine ab_aload_n de_M_isOver_0 0 rfl ?_
  refine ab_iload_n de_M_isOver_1 1 rfl ?_
  refine ab_iload_n de_M_isOver_2 2 rfl ?_
  refine ab_cV (as := [.int (nI c), .int (nI m)]) (st := []) (ct_M_isFew l _ nr h g rr (c := c) (m := m) hc hm) mo_M_isFew mi_M_isFew ml_M_195 rfl (by decide) rfl rfl rfl (Nat.le_of_ble_eq_true rfl) de_M_isOver_3 (fun v_ M_ hK_ hl_ hv_ => ?_)
  obtain ⟨rfl, hm_⟩ := hK_
  have hm_ := hm_.symm
  subst hm_
  change ab_G _ _ _ _ _ _ _ [(0, .ref 30), (1, .int (nI c)), (2, .int (nI m)), (3, .int (nI i))] [.int (ab_bz (sp_few c m))] (ab_S nr h g rr) _
  refine ab_if_ne (tgt := 27) de_M_isOver_6 rfl (fun c_6_1 => ?_) (fun c_6_1 => ?_)
  · refine ab_iconst (v := 1) de_M_isOver_27 rfl ?_
    refine ab_goto (tgt := 32) de_M_isOver_28 rfl ?_
    exact ab_ret (v := some (.int (1 : Int32))) de_M_isOver_32 ⟨_, rfl, rfl⟩ ⟨congrArg (fun z => some (Value.int z)) (ab_bz_t (by rw [md_ov hm hi]; rw [(ab_bz1 _).mp c_6_1]; rfl)), rfl⟩
  · refine ab_iload_n de_M_isOver_9 1 rfl ?_
    refine ab_sipush (v := 512) de_M_isOver_10 rfl ?_
    refine ab_iand de_M_isOver_13 ?_
    refine ab_top (v' := nI (c &&& 512)) (ab_and _ _) ?_
    refine ab_if_eq (tgt := 31) de_M_isOver_14 rfl (fun c_14_2 => ?_) (fun c_14_2 => ?_)
    · refine ab_iconst (v := 0) de_M_isOver_31 rfl ?_
      exact ab_ret (v := some (.int (0 : Int32))) de_M_isOver_32 ⟨_, rfl, rfl⟩ ⟨congrArg (fun z => some (Value.int z)) (ab_bz_f (by rw [md_ov hm hi]; rw [(ab_bz0 _).mp c_6_1, (md_b (c := c) (k := 9) (n := 512) rfl hc).mp c_14_2]; rfl)), rfl⟩
    · refine ab_aload_n de_M_isOver_17 0 rfl ?_
      refine ab_iload_n de_M_isOver_18 1 rfl ?_
      refine ab_iload_n de_M_isOver_19 2 rfl ?_
      refine ab_iload_n de_M_isOver_20 3 rfl ?_
      refine ab_cV (as := [.int (nI c), .int (nI m), .int (nI i)]) (st := []) (ct_M_isStill l _ nr h g rr hTM hO hc hm hi) mo_M_isStill mi_M_isStill ml_M_198 rfl (by decide) rfl rfl rfl (Nat.le_of_ble_eq_true rfl) de_M_isOver_21 (fun v_ M_ hK_ hl_ hv_ => ?_)
      obtain ⟨rfl, hm_⟩ := hK_
      have hm_ := hm_.symm
      subst hm_
      change ab_G _ _ _ _ _ _ _ [(0, .ref 30), (1, .int (nI c)), (2, .int (nI m)), (3, .int (nI i))] [.int (ab_bz (md_still T c m i))] (ab_S nr h g rr) _
      refine ab_if_eq (tgt := 31) de_M_isOver_24 rfl (fun c_24_3 => ?_) (fun c_24_3 => ?_)
      · refine ab_iconst (v := 0) de_M_isOver_31 rfl ?_
        exact ab_ret (v := some (.int (0 : Int32))) de_M_isOver_32 ⟨_, rfl, rfl⟩ ⟨congrArg (fun z => some (Value.int z)) (ab_bz_f (by rw [md_ov hm hi]; rw [(ab_bz0 _).mp c_6_1, (ab_bz0 _).mp c_24_3]; simp)), rfl⟩
      · refine ab_iconst (v := 1) de_M_isOver_27 rfl ?_
        refine ab_goto (tgt := 32) de_M_isOver_28 rfl ?_
        exact ab_ret (v := some (.int (1 : Int32))) de_M_isOver_32 ⟨_, rfl, rfl⟩ ⟨congrArg (fun z => some (Value.int z)) (ab_bz_t (by rw [md_ov hm hi]; rw [md_bt (c := c) (k := 9) (n := 512) rfl hc c_14_2, (ab_bz1 _).mp c_24_3]; simp)), rfl⟩
theorem md_im_hi {n : Nat} (h : 240 ≤ n) : sp_vm n = decide (n < 252) := by
  unfold sp_vm
  refine decide_eq_decide.mpr ⟨fun z => z.1, fun z => ⟨z, by omega, Or.inl (by omega)⟩⟩
theorem md_im_lo {n : Nat} (h : n < 240) : sp_vm n = (decide (n / 16 < 12) && (decide (n % 16 < 12) && !decide (n / 16 = n % 16))) := by
  unfold sp_vm
  by_cases h1 : n / 16 < 12
  · by_cases h2 : n % 16 < 12
    · by_cases h3 : n / 16 = n % 16
      · rw [decide_eq_false (fun z => by omega), decide_eq_true h3]; simp
      · rw [decide_eq_true ⟨by omega, h2, Or.inr ⟨h1, h3⟩⟩, decide_eq_true h1, decide_eq_true h2, decide_eq_false h3]; rfl
    · rw [decide_eq_false (fun z => h2 z.2.1), decide_eq_false h2]; simp
  · rw [decide_eq_false (fun z => by omega), decide_eq_false h1]; rfl
set_option maxHeartbeats 1000000 in
set_option maxRecDepth 10000 in
theorem ct_M_isMove (l : Launch) (d : Nat) (nr : Nat) (h : Nat → Nat → Int32) (g : Nat → Nat → Int64) (rr : Nat → Option Nat) (x : Int32) : ab_C l am_M_isMove (d + 1) 0 0 [.ref 30, .int x] (ab_S nr h g rr) (fun (r_ : Option Value) (M' : ab_Me) => r_ = some (.int (ab_bz (sp_im x))) ∧ M' = (ab_S nr h g rr)) := by
  refine ab_C_of (by decide +kernel) rfl (Nat.le_of_ble_eq_true rfl) ?_
  refine ab_iload_n de_M_isMove_0 1 rfl ?_
  refine ab_sipush (v := 240) de_M_isMove_1 rfl ?_
  refine ab_icmp_lt (tgt := 20) de_M_isMove_4 rfl (fun c_4_1 => ?_) (fun c_4_1 => ?_)
  · have c4_ := c_4_1
    refine ab_iload_n de_M_isMove_20 1 rfl ?_
    refine ab_if_lt (tgt := 59) de_M_isMove_21 rfl (fun c_21_2 => ?_) (fun c_21_2 => ?_)
    · refine ab_iconst (v := 0) de_M_isMove_59 rfl ?_
      exact ab_ret (v := some (.int (0 : Int32))) de_M_isMove_60 ⟨_, rfl, rfl⟩ ⟨congrArg (fun z => some (Value.int z)) (by
    exact ab_bz_f (sp_im_neg c_21_2)), rfl⟩
    · obtain ⟨n, hn, rfl⟩ := sp_nn (x := x) c_21_2
      have n240_ : n < 240 := (ab_lt (b := 240) hn (by decide)).mp c4_
      refine ab_aload_n de_M_isMove_24 0 rfl ?_
      refine ab_iload_n de_M_isMove_25 1 rfl ?_
      refine ab_iconst (v := 4) de_M_isMove_26 rfl ?_
      refine ab_ishr de_M_isMove_27 ?_
      refine ab_top (v' := nI (n / 16)) ((ab_shr (k := 4) (by omega) (by decide)).trans (by rw [sp_sr])) ?_
      refine ab_cV (as := [.int (nI (n / 16))]) (st := []) (ct_M_isPoint l _ (ab_S nr h g rr) (nI (n / 16))) mo_M_isPoint mi_M_isPoint ml_M_119 rfl (by decide) rfl rfl rfl (Nat.le_of_ble_eq_true rfl) de_M_isMove_28 (fun v_ M_ hK_ hl_ hv_ => ?_)
      obtain ⟨rfl, hm_⟩ := hK_
      have hm_ := hm_.symm
      subst hm_
      change ab_G _ _ _ _ _ _ _ [(0, .ref 30), (1, .int (nI n))] [.int (ab_bz (sp_pt (nI (n / 16))))] (ab_S nr h g rr) _
      refine ab_if_eq (tgt := 59) de_M_isMove_31 rfl (fun c_31_3 => ?_) (fun c_31_3 => ?_)
      · refine ab_iconst (v := 0) de_M_isMove_59 rfl ?_
        exact ab_ret (v := some (.int (0 : Int32))) de_M_isMove_60 ⟨_, rfl, rfl⟩ ⟨congrArg (fun z => some (Value.int z)) (by
    rw [sp_im_n (n := n) hn, md_im_lo n240_]
    rw [show decide (n / 16 < 12) = false from (by have z := (ab_bz0 _).mp c_31_3; rw [sp_pt_k (by omega)] at z; exact z)]; rfl), rfl⟩
      · refine ab_aload_n de_M_isMove_34 0 rfl ?_
        refine ab_iload_n de_M_isMove_35 1 rfl ?_
        refine ab_bipush (v := 15) de_M_isMove_36 rfl ?_
        refine ab_iand de_M_isMove_38 ?_
        refine ab_top (v' := nI (n % 16)) ((ab_and _ 15).trans (by rw [sp_15m])) ?_
        refine ab_cV (as := [.int (nI (n % 16))]) (st := []) (ct_M_isPoint l _ (ab_S nr h g rr) (nI (n % 16))) mo_M_isPoint mi_M_isPoint ml_M_119 rfl (by decide) rfl rfl rfl (Nat.le_of_ble_eq_true rfl) de_M_isMove_39 (fun v_ M_ hK_ hl_ hv_ => ?_)
        obtain ⟨rfl, hm_⟩ := hK_
        have hm_ := hm_.symm
        subst hm_
        change ab_G _ _ _ _ _ _ _ [(0, .ref 30), (1, .int (nI n))] [.int (ab_bz (sp_pt (nI (n % 16))))] (ab_S nr h g rr) _
        refine ab_if_eq (tgt := 59) de_M_isMove_42 rfl (fun c_42_4 => ?_) (fun c_42_4 => ?_)
        · refine ab_iconst (v := 0) de_M_isMove_59 rfl ?_
          exact ab_ret (v := some (.int (0 : Int32))) de_M_isMove_60 ⟨_, rfl, rfl⟩ ⟨congrArg (fun z => some (Value.int z)) (by
    rw [sp_im_n (n := n) hn, md_im_lo n240_]
    rw [show decide (n % 16 < 12) = false from (by have z := (ab_bz0 _).mp c_42_4; rw [sp_pt_k (by omega)] at z; exact z)]; simp; rfl), rfl⟩
        · refine ab_iload_n de_M_isMove_45 1 rfl ?_
          refine ab_iconst (v := 4) de_M_isMove_46 rfl ?_
          refine ab_ishr de_M_isMove_47 ?_
          refine ab_top (v' := nI (n / 16)) ((ab_shr (k := 4) (by omega) (by decide)).trans (by rw [sp_sr])) ?_
          refine ab_iload_n de_M_isMove_48 1 rfl ?_
          refine ab_bipush (v := 15) de_M_isMove_49 rfl ?_
          refine ab_iand de_M_isMove_51 ?_
          refine ab_top (v' := nI (n % 16)) ((ab_and _ 15).trans (by rw [sp_15m])) ?_
          refine ab_icmp_eq (tgt := 59) de_M_isMove_52 rfl (fun c_52_5 => ?_) (fun c_52_5 => ?_)
          · refine ab_iconst (v := 0) de_M_isMove_59 rfl ?_
            exact ab_ret (v := some (.int (0 : Int32))) de_M_isMove_60 ⟨_, rfl, rfl⟩ ⟨congrArg (fun z => some (Value.int z)) (by
    rw [sp_im_n (n := n) hn, md_im_lo n240_]
    rw [decide_eq_true ((ab_inj (by omega) (by omega)).mp c_52_5)]; simp; rfl), rfl⟩
          · refine ab_iconst (v := 1) de_M_isMove_55 rfl ?_
            refine ab_goto (tgt := 60) de_M_isMove_56 rfl ?_
            exact ab_ret (v := some (.int (1 : Int32))) de_M_isMove_60 ⟨_, rfl, rfl⟩ ⟨congrArg (fun z => some (Value.int z)) (by
    rw [sp_im_n (n := n) hn, md_im_lo n240_]
    rw [show decide (n / 16 < 12) = true from (by have z := (ab_bz1 _).mp c_31_3; rw [sp_pt_k (by omega)] at z; exact z), show decide (n % 16 < 12) = true from (by have z := (ab_bz1 _).mp c_42_4; rw [sp_pt_k (by omega)] at z; exact z), decide_eq_false (fun z => c_52_5 (by rw [z]))]; rfl), rfl⟩
  · refine ab_iload_n de_M_isMove_7 1 rfl ?_
    refine ab_sipush (v := 252) de_M_isMove_8 rfl ?_
    refine ab_icmp_ge (tgt := 18) de_M_isMove_11 rfl (fun c_11_6 => ?_) (fun c_11_6 => ?_)
    · refine ab_iconst (v := 0) de_M_isMove_18 rfl ?_
      exact ab_ret (v := some (.int (0 : Int32))) de_M_isMove_19 ⟨_, rfl, rfl⟩ ⟨congrArg (fun z => some (Value.int z)) (by
    obtain ⟨n_, hn_, e_⟩ := sp_nn (x := x) (Int32.not_lt.mpr (Int32.le_trans (by decide) (Int32.not_lt.mp c_4_1)))
    subst e_
    have h1_ := Nat.le_of_not_lt (fun z => c_4_1 ((ab_lt (b := 240) hn_ (by decide)).mpr z))
    exact ab_bz_f (by rw [sp_im_n hn_, md_im_hi h1_]; exact decide_eq_false (by have := (ab_le (a := 252) (by decide) hn_).mp c_11_6; omega))), rfl⟩
    · refine ab_iconst (v := 1) de_M_isMove_14 rfl ?_
      refine ab_goto (tgt := 19) de_M_isMove_15 rfl ?_
      exact ab_ret (v := some (.int (1 : Int32))) de_M_isMove_19 ⟨_, rfl, rfl⟩ ⟨congrArg (fun z => some (Value.int z)) (by
    obtain ⟨n_, hn_, e_⟩ := sp_nn (x := x) (Int32.not_lt.mpr (Int32.le_trans (by decide) (Int32.not_lt.mp c_4_1)))
    subst e_
    have h1_ := Nat.le_of_not_lt (fun z => c_4_1 ((ab_lt (b := 240) hn_ (by decide)).mpr z))
    exact ab_bz_t (by rw [sp_im_n hn_, md_im_hi h1_]; exact decide_eq_true (Nat.lt_of_not_le (fun z => c_11_6 ((ab_le (a := 252) (by decide) hn_).mpr z))))), rfl⟩
/-- how a MOVE is lawful: 0 not, 1 a step or a put, 2 a jump -/
def md_hw (T : Nat → Nat → Nat) (c m i x : Nat) : Nat :=
  if sp_few c m = true then 0 else if (ab_no (m ||| i)).testBit (x % 16) = false then 0
  else if 240 ≤ x then (if c.testBit 6 = true ∧ ¬ (c.testBit 8 = true ∧ sp_lj T c m i = true) then 1 else 0)
  else if m.testBit (x / 16) = false then 0
  else if (sp_st T c (x / 16) &&& ab_no (m ||| i)).testBit (x % 16) = true ∧ ¬ (c.testBit 8 = true ∧ sp_lj T c m i = true) then 1
  else if (sp_jm T c i (x / 16) &&& ab_no (m ||| i)).testBit (x % 16) = true then 2 else 0
theorem md_hw_lt (T : Nat → Nat → Nat) (c m i x : Nat) : md_hw T c m i x < 3 := by
  unfold md_hw
  repeat' split
  all_goals decide
set_option maxHeartbeats 1000000 in
set_option maxRecDepth 10000 in
theorem ct_M_lawful (l : Launch) (d : Nat) (nr : Nat) (h : Nat → Nat → Int32) (g : Nat → Nat → Int64) (rr : Nat → Option Nat) {T : Nat → Nat → Nat} (hTM : bo_T T h 32) (hO : sp_ok T) {c m i : Nat} (hc : c < 4096) (hm : m < 4096) (hi : i < 4096) {x : Nat} (hx : sp_mv x) : ab_C l am_M_lawful (d + 2) 0 0 [.ref 30, .int (nI c), .int (nI x), .int (nI m), .int (nI i)] (ab_S nr h g rr) (fun (r_ : Option Value) (M' : ab_Me) => r_ = some (.int (nI (md_hw T c m i x))) ∧ M' = (ab_S nr h g rr)) := by
  have hx1_ := hx.1
  have hx2_ := hx.2.1
  have e4_ := ab_no_lt (m ||| i)
  have s4_ : sp_st T c (x / 16) &&& ab_no (m ||| i) < 4096 := Nat.lt_of_le_of_lt Nat.and_le_right e4_
  have j4_ : sp_jm T c i (x / 16) &&& ab_no (m ||| i) < 4096 := Nat.lt_of_le_of_lt Nat.and_le_right e4_
  refine ab_C_of (by decide +kernel) rfl (Nat.le_of_ble_eq_true rfl) ?_
  refine ab_aload_n de_M_lawful_0 0 rfl ?_
  refine ab_iload_n de_M_lawful_1 2 rfl ?_
  refine ab_cV (as := [.int (nI x)]) (st := []) (ct_M_isMove l _ nr h g rr (nI x)) mo_M_isMove mi_M_isMove ml_M_201 rfl (by decide) rfl rfl rfl (Nat.le_of_ble_eq_true rfl) de_M_lawful_2 (fun v_ M_ hK_ hl_ hv_ => ?_)
  obtain ⟨rfl, hm_⟩ := hK_
  have hm_ := hm_.symm
  subst hm_
  change ab_G _ _ _ _ _ _ _ [(0, .ref 30), (1, .int (nI c)), (2, .int (nI x)), (3, .int (nI m)), (4, .int (nI i))] [.int (ab_bz (sp_im (nI x)))] (ab_S nr h g rr) _
  refine ab_top (v' := (1 : Int32)) ((ab_bz_t ((sp_im_n (by omega)).trans ((sp_vm_iff x).mpr hx))).symm) ?_
  refine ab_if_eq (tgt := 17) de_M_lawful_5 rfl (fun c_5_1 => ?_) (fun c_5_1 => ?_)
  · exact absurd c_5_1 (by decide)
  · refine ab_aload_n de_M_lawful_8 0 rfl ?_
    refine ab_iload_n de_M_lawful_9 1 rfl ?_
    refine ab_iload_n de_M_lawful_10 3 rfl ?_
    refine ab_cV (as := [.int (nI c), .int (nI m)]) (st := []) (ct_M_isFew l _ nr h g rr (c := c) (m := m) hc hm) mo_M_isFew mi_M_isFew ml_M_195 rfl (by decide) rfl rfl rfl (Nat.le_of_ble_eq_true rfl) de_M_lawful_11 (fun v_ M_ hK_ hl_ hv_ => ?_)
    obtain ⟨rfl, hm_⟩ := hK_
    have hm_ := hm_.symm
    subst hm_
    change ab_G _ _ _ _ _ _ _ [(0, .ref 30), (1, .int (nI c)), (2, .int (nI x)), (3, .int (nI m)), (4, .int (nI i))] [.int (ab_bz (sp_few c m))] (ab_S nr h g rr) _
    refine ab_if_eq (tgt := 19) de_M_lawful_14 rfl (fun c_14_2 => ?_) (fun c_14_2 => ?_)
    · refine ab_sipush (v := 4095) de_M_lawful_19 rfl ?_
      refine ab_iload_n de_M_lawful_22 3 rfl ?_
      refine ab_iload de_M_lawful_23 4 rfl ?_
      refine ab_ior de_M_lawful_25 ?_
      refine ab_top (v' := nI (m ||| i)) (ab_or _ _) ?_
      refine ab_iconst (v := -1) de_M_lawful_26 rfl ?_
      refine ab_ixor de_M_lawful_27 ?_
      refine ab_iand de_M_lawful_28 ?_
      refine ab_top (v' := nI (ab_no (m ||| i))) (ab_not _) ?_
      refine ab_istore (L' := [(5, .int (nI (ab_no (m ||| i)))), (0, .ref 30), (1, .int (nI c)), (2, .int (nI x)), (3, .int (nI m)), (4, .int (nI i))]) de_M_lawful_29 (by decide) rfl ?_
      refine ab_iload_n de_M_lawful_31 3 rfl ?_
      refine ab_bipush (v := 15) de_M_lawful_32 rfl ?_
      refine ab_iand de_M_lawful_34 ?_
      refine ab_top (v' := nI (x % 16)) ((ab_and _ 15).trans (by rw [sp_15m])) ?_
      refine ab_istore (L' := [(6, .int (nI (x % 16))), (5, .int (nI (ab_no (m ||| i)))), (0, .ref 30), (1, .int (nI c)), (2, .int (nI x)), (3, .int (nI m)), (4, .int (nI i))]) de_M_lawful_35 (by decide) rfl ?_
      refine ab_iload de_M_lawful_37 1 rfl ?_
      refine ab_iload de_M_lawful_39 0 rfl ?_
      refine ab_ishr de_M_lawful_41 ?_
      refine ab_top (v' := nI ((ab_no (m ||| i)) >>> (x % 16))) (ab_shr (by omega) (by omega)) ?_
      refine ab_iconst (v := 1) de_M_lawful_42 rfl ?_
      refine ab_iand de_M_lawful_43 ?_
      refine ab_top (v' := nI ((ab_no (m ||| i)).testBit (x % 16)).toNat) ((ab_and _ 1).trans (congrArg nI (sp_bit1 _ _))) ?_
      refine ab_if_ne (tgt := 49) de_M_lawful_44 rfl (fun c_44_3 => ?_) (fun c_44_3 => ?_)
      · refine ab_iload_n de_M_lawful_49 3 rfl ?_
        refine ab_sipush (v := 256) de_M_lawful_50 rfl ?_
        refine ab_iand de_M_lawful_53 ?_
        refine ab_top (v' := nI (c &&& 256)) (ab_and _ _) ?_
        refine ab_if_eq (tgt := 61) de_M_lawful_54 rfl (fun c_54_4 => ?_) (fun c_54_4 => ?_)
        · refine ab_iconst (v := 0) de_M_lawful_61 rfl ?_
          refine ab_istore (L' := [(7, .int (0 : Int32)), (6, .int (nI (x % 16))), (5, .int (nI (ab_no (m ||| i)))), (0, .ref 30), (1, .int (nI c)), (2, .int (nI x)), (3, .int (nI m)), (4, .int (nI i))]) de_M_lawful_62 (by decide) rfl ?_
          refine ab_iload_n de_M_lawful_64 5 rfl ?_
          refine ab_sipush (v := 240) de_M_lawful_65 rfl ?_
          refine ab_icmp_lt (tgt := 100) de_M_lawful_68 rfl (fun c_68_5 => ?_) (fun c_68_5 => ?_)
          · have h240_ : ¬ 240 ≤ x := by have := (ab_lt (b := 240) (by omega) (by decide)).mp c_68_5; omega
            have h12_ : x / 16 < 12 := by rcases hx.2.2 with z | z <;> omega
            refine ab_iload_n de_M_lawful_100 5 rfl ?_
            refine ab_iconst (v := 4) de_M_lawful_101 rfl ?_
            refine ab_ishr de_M_lawful_102 ?_
            refine ab_top (v' := nI (x / 16)) ((ab_shr (k := 4) (by omega) (by decide)).trans (by rw [sp_sr])) ?_
            refine ab_istore (L' := [(8, .int (nI (x / 16))), (7, .int (0 : Int32)), (6, .int (nI (x % 16))), (5, .int (nI (ab_no (m ||| i)))), (0, .ref 30), (1, .int (nI c)), (2, .int (nI x)), (3, .int (nI m)), (4, .int (nI i))]) de_M_lawful_103 (by decide) rfl ?_
            refine ab_iload_n de_M_lawful_105 7 rfl ?_
            refine ab_iload de_M_lawful_106 0 rfl ?_
            refine ab_ishr de_M_lawful_108 ?_
            refine ab_top (v' := nI (m >>> (x / 16))) (ab_shr (by omega) (by omega)) ?_
            refine ab_iconst (v := 1) de_M_lawful_109 rfl ?_
            refine ab_iand de_M_lawful_110 ?_
            refine ab_top (v' := nI (m.testBit (x / 16)).toNat) ((ab_and _ 1).trans (congrArg nI (sp_bit1 _ _))) ?_
            refine ab_if_ne (tgt := 116) de_M_lawful_111 rfl (fun c_111_6 => ?_) (fun c_111_6 => ?_)
            · refine ab_aload_n de_M_lawful_116 4 rfl ?_
              refine ab_iload_n de_M_lawful_117 5 rfl ?_
              refine ab_iload de_M_lawful_118 0 rfl ?_
              refine ab_iload de_M_lawful_120 3 rfl ?_
              refine ab_cV (as := [.int (nI c), .int (nI (x / 16)), .int (nI (ab_no (m ||| i)))]) (st := []) (ct_M_stepsFrom l _ nr h g rr hTM hO (c := c) (p := (x / 16)) (e := (ab_no (m ||| i))) hc (by omega)) mo_M_stepsFrom mi_M_stepsFrom ml_M_184 rfl (by decide) rfl rfl rfl (Nat.le_of_ble_eq_true rfl) de_M_lawful_122 (fun v_ M_ hK_ hl_ hv_ => ?_)
              obtain ⟨rfl, hm_⟩ := hK_
              have hm_ := hm_.symm
              subst hm_
              change ab_G _ _ _ _ _ _ _ [(8, .int (nI (x / 16))), (7, .int (0 : Int32)), (6, .int (nI (x % 16))), (5, .int (nI (ab_no (m ||| i)))), (0, .ref 30), (1, .int (nI c)), (2, .int (nI x)), (3, .int (nI m)), (4, .int (nI i))] [.int (nI (sp_st T c (x / 16) &&& (ab_no (m ||| i))))] (ab_S nr h g rr) _
              refine ab_iload de_M_lawful_125 2 rfl ?_
              refine ab_ishr de_M_lawful_127 ?_
              refine ab_top (v' := nI ((sp_st T c (x / 16) &&& (ab_no (m ||| i))) >>> (x % 16))) (ab_shr (by omega) (by omega)) ?_
              refine ab_iconst (v := 1) de_M_lawful_128 rfl ?_
              refine ab_iand de_M_lawful_129 ?_
              refine ab_top (v' := nI ((sp_st T c (x / 16) &&& (ab_no (m ||| i))).testBit (x % 16)).toNat) ((ab_and _ 1).trans (congrArg nI (sp_bit1 _ _))) ?_
              refine ab_iconst (v := 1) de_M_lawful_130 rfl ?_
              refine ab_icmp_ne (tgt := 152) de_M_lawful_131 rfl (fun c_131_7 => ?_) (fun c_131_7 => ?_)
              · refine ab_aload_n de_M_lawful_152 4 rfl ?_
                refine ab_iload_n de_M_lawful_153 5 rfl ?_
                refine ab_iload de_M_lawful_154 0 rfl ?_
                refine ab_iload de_M_lawful_156 8 rfl ?_
                refine ab_iload de_M_lawful_158 3 rfl ?_
                refine ab_cV (as := [.int (nI c), .int (nI (x / 16)), .int (nI i), .int (nI (ab_no (m ||| i)))]) (st := []) (ct_M_jumpsFrom l _ nr h g rr hTM hO (c := c) (p := (x / 16)) (i := i) (e := (ab_no (m ||| i))) hc (by omega) hi) mo_M_jumpsFrom mi_M_jumpsFrom ml_M_180 rfl (by decide) rfl rfl rfl (Nat.le_of_ble_eq_true rfl) de_M_lawful_160 (fun v_ M_ hK_ hl_ hv_ => ?_)
                obtain ⟨rfl, hm_⟩ := hK_
                have hm_ := hm_.symm
                subst hm_
                change ab_G _ _ _ _ _ _ _ [(8, .int (nI (x / 16))), (7, .int (0 : Int32)), (6, .int (nI (x % 16))), (5, .int (nI (ab_no (m ||| i)))), (0, .ref 30), (1, .int (nI c)), (2, .int (nI x)), (3, .int (nI m)), (4, .int (nI i))] [.int (nI (sp_jm T c i (x / 16) &&& (ab_no (m ||| i))))] (ab_S nr h g rr) _
                refine ab_iload de_M_lawful_163 2 rfl ?_
                refine ab_ishr de_M_lawful_165 ?_
                refine ab_top (v' := nI ((sp_jm T c i (x / 16) &&& (ab_no (m ||| i))) >>> (x % 16))) (ab_shr (by omega) (by omega)) ?_
                refine ab_iconst (v := 1) de_M_lawful_166 rfl ?_
                refine ab_iand de_M_lawful_167 ?_
                refine ab_top (v' := nI ((sp_jm T c i (x / 16) &&& (ab_no (m ||| i))).testBit (x % 16)).toNat) ((ab_and _ 1).trans (congrArg nI (sp_bit1 _ _))) ?_
                refine ab_iconst (v := 1) de_M_lawful_168 rfl ?_
                refine ab_icmp_ne (tgt := 176) de_M_lawful_169 rfl (fun c_169_8 => ?_) (fun c_169_8 => ?_)
                · refine ab_iconst (v := 0) de_M_lawful_176 rfl ?_
                  exact ab_ret (v := some (.int (0 : Int32))) de_M_lawful_177 ⟨_, rfl⟩ ⟨congrArg (fun z => some (Value.int z)) (by unfold md_hw; rw [if_neg (by rw [(ab_bz0 _).mp c_14_2]; decide), if_neg (by rw [ts_f c_44_3]; decide), if_neg h240_, if_neg (by rw [ts_f c_111_6]; decide), if_neg (fun z => by rw [sp_b1n c_131_7] at z; cases z.1), if_neg (by rw [sp_b1n c_169_8]; decide)]; rfl), rfl⟩
                · refine ab_iconst (v := 2) de_M_lawful_172 rfl ?_
                  refine ab_goto (tgt := 177) de_M_lawful_173 rfl ?_
                  exact ab_ret (v := some (.int (2 : Int32))) de_M_lawful_177 ⟨_, rfl⟩ ⟨congrArg (fun z => some (Value.int z)) (by unfold md_hw; rw [if_neg (by rw [(ab_bz0 _).mp c_14_2]; decide), if_neg (by rw [ts_f c_44_3]; decide), if_neg h240_, if_neg (by rw [ts_f c_111_6]; decide), if_neg (fun z => by rw [sp_b1n c_131_7] at z; cases z.1), if_pos ((sp_b1 _).mp c_169_8)]; rfl), rfl⟩
              · refine ab_iload de_M_lawful_134 1 rfl ?_
                refine ab_if_eq (tgt := 150) de_M_lawful_136 rfl (fun c_136_9 => ?_) (fun c_136_9 => ?_)
                · refine ab_iconst (v := 1) de_M_lawful_150 rfl ?_
                  exact ab_ret (v := some (.int (1 : Int32))) de_M_lawful_151 ⟨_, rfl⟩ ⟨congrArg (fun z => some (Value.int z)) (by unfold md_hw; rw [if_neg (by rw [(ab_bz0 _).mp c_14_2]; decide), if_neg (by rw [ts_f c_44_3]; decide), if_neg h240_, if_neg (by rw [ts_f c_111_6]; decide), if_pos ⟨(sp_b1 _).mp c_131_7, (fun z => by rw [((md_b (c := c) (k := 8) (n := 256) rfl hc).mp c_54_4)] at z; cases z.1)⟩]; rfl), rfl⟩
                · exact absurd rfl c_136_9
            · refine ab_iconst (v := 0) de_M_lawful_114 rfl ?_
              exact ab_ret (v := some (.int (0 : Int32))) de_M_lawful_115 ⟨_, rfl⟩ ⟨congrArg (fun z => some (Value.int z)) (by unfold md_hw; rw [if_neg (by rw [(ab_bz0 _).mp c_14_2]; decide), if_neg (by rw [ts_f c_44_3]; decide), if_neg h240_, if_pos ((sp_b0 _).mp c_111_6)]; rfl), rfl⟩
          · have h240_ : 240 ≤ x := Nat.le_of_not_lt (fun z => c_68_5 ((ab_lt (b := 240) (by omega) (by decide)).mpr z))
            refine ab_iload_n de_M_lawful_71 4 rfl ?_
            refine ab_bipush (v := 64) de_M_lawful_72 rfl ?_
            refine ab_iand de_M_lawful_74 ?_
            refine ab_top (v' := nI (c &&& 64)) (ab_and _ _) ?_
            refine ab_if_eq (tgt := 98) de_M_lawful_75 rfl (fun c_75_10 => ?_) (fun c_75_10 => ?_)
            · refine ab_iconst (v := 0) de_M_lawful_98 rfl ?_
              exact ab_ret (v := some (.int (0 : Int32))) de_M_lawful_99 ⟨_, rfl⟩ ⟨congrArg (fun z => some (Value.int z)) (by unfold md_hw; rw [if_neg (by rw [(ab_bz0 _).mp c_14_2]; decide), if_neg (by rw [ts_f c_44_3]; decide), if_pos h240_, if_neg (fun z => by rw [(md_b (c := c) (k := 6) (n := 64) rfl hc).mp c_75_10] at z; cases z.1)]; rfl), rfl⟩
            · refine ab_iload de_M_lawful_78 0 rfl ?_
              refine ab_if_eq (tgt := 94) de_M_lawful_80 rfl (fun c_80_11 => ?_) (fun c_80_11 => ?_)
              · refine ab_iconst (v := 1) de_M_lawful_94 rfl ?_
                refine ab_goto (tgt := 99) de_M_lawful_95 rfl ?_
                exact ab_ret (v := some (.int (1 : Int32))) de_M_lawful_99 ⟨_, rfl⟩ ⟨congrArg (fun z => some (Value.int z)) (by unfold md_hw; rw [if_neg (by rw [(ab_bz0 _).mp c_14_2]; decide), if_neg (by rw [ts_f c_44_3]; decide), if_pos h240_, if_pos ⟨md_bt (c := c) (k := 6) (n := 64) rfl hc c_75_10, (fun z => by rw [((md_b (c := c) (k := 8) (n := 256) rfl hc).mp c_54_4)] at z; cases z.1)⟩]; rfl), rfl⟩
              · exact absurd rfl c_80_11
        · refine ab_iconst (v := 1) de_M_lawful_57 rfl ?_
          refine ab_goto (tgt := 62) de_M_lawful_58 rfl ?_
          refine ab_istore (L' := [(7, .int (1 : Int32)), (6, .int (nI (x % 16))), (5, .int (nI (ab_no (m ||| i)))), (0, .ref 30), (1, .int (nI c)), (2, .int (nI x)), (3, .int (nI m)), (4, .int (nI i))]) de_M_lawful_62 (by decide) rfl ?_
          refine ab_iload_n de_M_lawful_64 5 rfl ?_
          refine ab_sipush (v := 240) de_M_lawful_65 rfl ?_
          refine ab_icmp_lt (tgt := 100) de_M_lawful_68 rfl (fun c_68_12 => ?_) (fun c_68_12 => ?_)
          · have h240_ : ¬ 240 ≤ x := by have := (ab_lt (b := 240) (by omega) (by decide)).mp c_68_12; omega
            have h12_ : x / 16 < 12 := by rcases hx.2.2 with z | z <;> omega
            refine ab_iload_n de_M_lawful_100 5 rfl ?_
            refine ab_iconst (v := 4) de_M_lawful_101 rfl ?_
            refine ab_ishr de_M_lawful_102 ?_
            refine ab_top (v' := nI (x / 16)) ((ab_shr (k := 4) (by omega) (by decide)).trans (by rw [sp_sr])) ?_
            refine ab_istore (L' := [(8, .int (nI (x / 16))), (7, .int (1 : Int32)), (6, .int (nI (x % 16))), (5, .int (nI (ab_no (m ||| i)))), (0, .ref 30), (1, .int (nI c)), (2, .int (nI x)), (3, .int (nI m)), (4, .int (nI i))]) de_M_lawful_103 (by decide) rfl ?_
            refine ab_iload_n de_M_lawful_105 7 rfl ?_
            refine ab_iload de_M_lawful_106 0 rfl ?_
            refine ab_ishr de_M_lawful_108 ?_
            refine ab_top (v' := nI (m >>> (x / 16))) (ab_shr (by omega) (by omega)) ?_
            refine ab_iconst (v := 1) de_M_lawful_109 rfl ?_
            refine ab_iand de_M_lawful_110 ?_
            refine ab_top (v' := nI (m.testBit (x / 16)).toNat) ((ab_and _ 1).trans (congrArg nI (sp_bit1 _ _))) ?_
            refine ab_if_ne (tgt := 116) de_M_lawful_111 rfl (fun c_111_13 => ?_) (fun c_111_13 => ?_)
            · refine ab_aload_n de_M_lawful_116 4 rfl ?_
              refine ab_iload_n de_M_lawful_117 5 rfl ?_
              refine ab_iload de_M_lawful_118 0 rfl ?_
              refine ab_iload de_M_lawful_120 3 rfl ?_
              refine ab_cV (as := [.int (nI c), .int (nI (x / 16)), .int (nI (ab_no (m ||| i)))]) (st := []) (ct_M_stepsFrom l _ nr h g rr hTM hO (c := c) (p := (x / 16)) (e := (ab_no (m ||| i))) hc (by omega)) mo_M_stepsFrom mi_M_stepsFrom ml_M_184 rfl (by decide) rfl rfl rfl (Nat.le_of_ble_eq_true rfl) de_M_lawful_122 (fun v_ M_ hK_ hl_ hv_ => ?_)
              obtain ⟨rfl, hm_⟩ := hK_
              have hm_ := hm_.symm
              subst hm_
              change ab_G _ _ _ _ _ _ _ [(8, .int (nI (x / 16))), (7, .int (1 : Int32)), (6, .int (nI (x % 16))), (5, .int (nI (ab_no (m ||| i)))), (0, .ref 30), (1, .int (nI c)), (2, .int (nI x)), (3, .int (nI m)), (4, .int (nI i))] [.int (nI (sp_st T c (x / 16) &&& (ab_no (m ||| i))))] (ab_S nr h g rr) _
              refine ab_iload de_M_lawful_125 2 rfl ?_
              refine ab_ishr de_M_lawful_127 ?_
              refine ab_top (v' := nI ((sp_st T c (x / 16) &&& (ab_no (m ||| i))) >>> (x % 16))) (ab_shr (by omega) (by omega)) ?_
              refine ab_iconst (v := 1) de_M_lawful_128 rfl ?_
              refine ab_iand de_M_lawful_129 ?_
              refine ab_top (v' := nI ((sp_st T c (x / 16) &&& (ab_no (m ||| i))).testBit (x % 16)).toNat) ((ab_and _ 1).trans (congrArg nI (sp_bit1 _ _))) ?_
              refine ab_iconst (v := 1) de_M_lawful_130 rfl ?_
              refine ab_icmp_ne (tgt := 152) de_M_lawful_131 rfl (fun c_131_14 => ?_) (fun c_131_14 => ?_)
              · refine ab_aload_n de_M_lawful_152 4 rfl ?_
                refine ab_iload_n de_M_lawful_153 5 rfl ?_
                refine ab_iload de_M_lawful_154 0 rfl ?_
                refine ab_iload de_M_lawful_156 8 rfl ?_
                refine ab_iload de_M_lawful_158 3 rfl ?_
                refine ab_cV (as := [.int (nI c), .int (nI (x / 16)), .int (nI i), .int (nI (ab_no (m ||| i)))]) (st := []) (ct_M_jumpsFrom l _ nr h g rr hTM hO (c := c) (p := (x / 16)) (i := i) (e := (ab_no (m ||| i))) hc (by omega) hi) mo_M_jumpsFrom mi_M_jumpsFrom ml_M_180 rfl (by decide) rfl rfl rfl (Nat.le_of_ble_eq_true rfl) de_M_lawful_160 (fun v_ M_ hK_ hl_ hv_ => ?_)
                obtain ⟨rfl, hm_⟩ := hK_
                have hm_ := hm_.symm
                subst hm_
                change ab_G _ _ _ _ _ _ _ [(8, .int (nI (x / 16))), (7, .int (1 : Int32)), (6, .int (nI (x % 16))), (5, .int (nI (ab_no (m ||| i)))), (0, .ref 30), (1, .int (nI c)), (2, .int (nI x)), (3, .int (nI m)), (4, .int (nI i))] [.int (nI (sp_jm T c i (x / 16) &&& (ab_no (m ||| i))))] (ab_S nr h g rr) _
                refine ab_iload de_M_lawful_163 2 rfl ?_
                refine ab_ishr de_M_lawful_165 ?_
                refine ab_top (v' := nI ((sp_jm T c i (x / 16) &&& (ab_no (m ||| i))) >>> (x % 16))) (ab_shr (by omega) (by omega)) ?_
                refine ab_iconst (v := 1) de_M_lawful_166 rfl ?_
                refine ab_iand de_M_lawful_167 ?_
                refine ab_top (v' := nI ((sp_jm T c i (x / 16) &&& (ab_no (m ||| i))).testBit (x % 16)).toNat) ((ab_and _ 1).trans (congrArg nI (sp_bit1 _ _))) ?_
                refine ab_iconst (v := 1) de_M_lawful_168 rfl ?_
                refine ab_icmp_ne (tgt := 176) de_M_lawful_169 rfl (fun c_169_15 => ?_) (fun c_169_15 => ?_)
                · refine ab_iconst (v := 0) de_M_lawful_176 rfl ?_
                  exact ab_ret (v := some (.int (0 : Int32))) de_M_lawful_177 ⟨_, rfl⟩ ⟨congrArg (fun z => some (Value.int z)) (by unfold md_hw; rw [if_neg (by rw [(ab_bz0 _).mp c_14_2]; decide), if_neg (by rw [ts_f c_44_3]; decide), if_neg h240_, if_neg (by rw [ts_f c_111_13]; decide), if_neg (fun z => by rw [sp_b1n c_131_14] at z; cases z.1), if_neg (by rw [sp_b1n c_169_15]; decide)]; rfl), rfl⟩
                · refine ab_iconst (v := 2) de_M_lawful_172 rfl ?_
                  refine ab_goto (tgt := 177) de_M_lawful_173 rfl ?_
                  exact ab_ret (v := some (.int (2 : Int32))) de_M_lawful_177 ⟨_, rfl⟩ ⟨congrArg (fun z => some (Value.int z)) (by unfold md_hw; rw [if_neg (by rw [(ab_bz0 _).mp c_14_2]; decide), if_neg (by rw [ts_f c_44_3]; decide), if_neg h240_, if_neg (by rw [ts_f c_111_13]; decide), if_neg (fun z => by rw [sp_b1n c_131_14] at z; cases z.1), if_pos ((sp_b1 _).mp c_169_15)]; rfl), rfl⟩
              · refine ab_iload de_M_lawful_134 1 rfl ?_
                refine ab_if_eq (tgt := 150) de_M_lawful_136 rfl (fun c_136_16 => ?_) (fun c_136_16 => ?_)
                · exact absurd c_136_16 (by decide)
                · refine ab_aload_n de_M_lawful_139 4 rfl ?_
                  refine ab_iload_n de_M_lawful_140 5 rfl ?_
                  refine ab_iload_n de_M_lawful_141 7 rfl ?_
                  refine ab_iload de_M_lawful_142 8 rfl ?_
                  refine ab_cV (as := [.int (nI c), .int (nI m), .int (nI i)]) (st := []) (ct_M_hasJump l _ nr h g rr hTM hO hc hm hi) mo_M_hasJump mi_M_hasJump ml_M_192 rfl (by decide) rfl rfl rfl (Nat.le_of_ble_eq_true rfl) de_M_lawful_144 (fun v_ M_ hK_ hl_ hv_ => ?_)
                  obtain ⟨rfl, hm_⟩ := hK_
                  have hm_ := hm_.symm
                  subst hm_
                  change ab_G _ _ _ _ _ _ _ [(8, .int (nI (x / 16))), (7, .int (1 : Int32)), (6, .int (nI (x % 16))), (5, .int (nI (ab_no (m ||| i)))), (0, .ref 30), (1, .int (nI c)), (2, .int (nI x)), (3, .int (nI m)), (4, .int (nI i))] [.int (ab_bz (sp_lj T c m i))] (ab_S nr h g rr) _
                  refine ab_if_ne (tgt := 152) de_M_lawful_147 rfl (fun c_147_17 => ?_) (fun c_147_17 => ?_)
                  · refine ab_aload_n de_M_lawful_152 4 rfl ?_
                    refine ab_iload_n de_M_lawful_153 5 rfl ?_
                    refine ab_iload de_M_lawful_154 0 rfl ?_
                    refine ab_iload de_M_lawful_156 8 rfl ?_
                    refine ab_iload de_M_lawful_158 3 rfl ?_
                    refine ab_cV (as := [.int (nI c), .int (nI (x / 16)), .int (nI i), .int (nI (ab_no (m ||| i)))]) (st := []) (ct_M_jumpsFrom l _ nr h g rr hTM hO (c := c) (p := (x / 16)) (i := i) (e := (ab_no (m ||| i))) hc (by omega) hi) mo_M_jumpsFrom mi_M_jumpsFrom ml_M_180 rfl (by decide) rfl rfl rfl (Nat.le_of_ble_eq_true rfl) de_M_lawful_160 (fun v_ M_ hK_ hl_ hv_ => ?_)
                    obtain ⟨rfl, hm_⟩ := hK_
                    have hm_ := hm_.symm
                    subst hm_
                    change ab_G _ _ _ _ _ _ _ [(8, .int (nI (x / 16))), (7, .int (1 : Int32)), (6, .int (nI (x % 16))), (5, .int (nI (ab_no (m ||| i)))), (0, .ref 30), (1, .int (nI c)), (2, .int (nI x)), (3, .int (nI m)), (4, .int (nI i))] [.int (nI (sp_jm T c i (x / 16) &&& (ab_no (m ||| i))))] (ab_S nr h g rr) _
                    refine ab_iload de_M_lawful_163 2 rfl ?_
                    refine ab_ishr de_M_lawful_165 ?_
                    refine ab_top (v' := nI ((sp_jm T c i (x / 16) &&& (ab_no (m ||| i))) >>> (x % 16))) (ab_shr (by omega) (by omega)) ?_
                    refine ab_iconst (v := 1) de_M_lawful_166 rfl ?_
                    refine ab_iand de_M_lawful_167 ?_
                    refine ab_top (v' := nI ((sp_jm T c i (x / 16) &&& (ab_no (m ||| i))).testBit (x % 16)).toNat) ((ab_and _ 1).trans (congrArg nI (sp_bit1 _ _))) ?_
                    refine ab_iconst (v := 1) de_M_lawful_168 rfl ?_
                    refine ab_icmp_ne (tgt := 176) de_M_lawful_169 rfl (fun c_169_18 => ?_) (fun c_169_18 => ?_)
                    · refine ab_iconst (v := 0) de_M_lawful_176 rfl ?_
                      exact ab_ret (v := some (.int (0 : Int32))) de_M_lawful_177 ⟨_, rfl⟩ ⟨congrArg (fun z => some (Value.int z)) (by unfold md_hw; rw [if_neg (by rw [(ab_bz0 _).mp c_14_2]; decide), if_neg (by rw [ts_f c_44_3]; decide), if_neg h240_, if_neg (by rw [ts_f c_111_13]; decide), if_neg (fun z => z.2 ⟨(md_bt (c := c) (k := 8) (n := 256) rfl hc c_54_4), (ab_bz1 _).mp c_147_17⟩), if_neg (by rw [sp_b1n c_169_18]; decide)]; rfl), rfl⟩
                    · refine ab_iconst (v := 2) de_M_lawful_172 rfl ?_
                      refine ab_goto (tgt := 177) de_M_lawful_173 rfl ?_
                      exact ab_ret (v := some (.int (2 : Int32))) de_M_lawful_177 ⟨_, rfl⟩ ⟨congrArg (fun z => some (Value.int z)) (by unfold md_hw; rw [if_neg (by rw [(ab_bz0 _).mp c_14_2]; decide), if_neg (by rw [ts_f c_44_3]; decide), if_neg h240_, if_neg (by rw [ts_f c_111_13]; decide), if_neg (fun z => z.2 ⟨(md_bt (c := c) (k := 8) (n := 256) rfl hc c_54_4), (ab_bz1 _).mp c_147_17⟩), if_pos ((sp_b1 _).mp c_169_18)]; rfl), rfl⟩
                  · refine ab_iconst (v := 1) de_M_lawful_150 rfl ?_
                    exact ab_ret (v := some (.int (1 : Int32))) de_M_lawful_151 ⟨_, rfl⟩ ⟨congrArg (fun z => some (Value.int z)) (by unfold md_hw; rw [if_neg (by rw [(ab_bz0 _).mp c_14_2]; decide), if_neg (by rw [ts_f c_44_3]; decide), if_neg h240_, if_neg (by rw [ts_f c_111_13]; decide), if_pos ⟨(sp_b1 _).mp c_131_14, (fun z => by rw [(ab_bz0 _).mp c_147_17] at z; cases z.2)⟩]; rfl), rfl⟩
            · refine ab_iconst (v := 0) de_M_lawful_114 rfl ?_
              exact ab_ret (v := some (.int (0 : Int32))) de_M_lawful_115 ⟨_, rfl⟩ ⟨congrArg (fun z => some (Value.int z)) (by unfold md_hw; rw [if_neg (by rw [(ab_bz0 _).mp c_14_2]; decide), if_neg (by rw [ts_f c_44_3]; decide), if_neg h240_, if_pos ((sp_b0 _).mp c_111_13)]; rfl), rfl⟩
          · have h240_ : 240 ≤ x := Nat.le_of_not_lt (fun z => c_68_12 ((ab_lt (b := 240) (by omega) (by decide)).mpr z))
            refine ab_iload_n de_M_lawful_71 4 rfl ?_
            refine ab_bipush (v := 64) de_M_lawful_72 rfl ?_
            refine ab_iand de_M_lawful_74 ?_
            refine ab_top (v' := nI (c &&& 64)) (ab_and _ _) ?_
            refine ab_if_eq (tgt := 98) de_M_lawful_75 rfl (fun c_75_19 => ?_) (fun c_75_19 => ?_)
            · refine ab_iconst (v := 0) de_M_lawful_98 rfl ?_
              exact ab_ret (v := some (.int (0 : Int32))) de_M_lawful_99 ⟨_, rfl⟩ ⟨congrArg (fun z => some (Value.int z)) (by unfold md_hw; rw [if_neg (by rw [(ab_bz0 _).mp c_14_2]; decide), if_neg (by rw [ts_f c_44_3]; decide), if_pos h240_, if_neg (fun z => by rw [(md_b (c := c) (k := 6) (n := 64) rfl hc).mp c_75_19] at z; cases z.1)]; rfl), rfl⟩
            · refine ab_iload de_M_lawful_78 0 rfl ?_
              refine ab_if_eq (tgt := 94) de_M_lawful_80 rfl (fun c_80_20 => ?_) (fun c_80_20 => ?_)
              · exact absurd c_80_20 (by decide)
              · refine ab_aload_n de_M_lawful_83 3 rfl ?_
                refine ab_iload_n de_M_lawful_84 4 rfl ?_
                refine ab_iload_n de_M_lawful_85 6 rfl ?_
                refine ab_iload de_M_lawful_86 7 rfl ?_
                refine ab_cV (as := [.int (nI c), .int (nI m), .int (nI i)]) (st := []) (ct_M_hasJump l _ nr h g rr hTM hO hc hm hi) mo_M_hasJump mi_M_hasJump ml_M_192 rfl (by decide) rfl rfl rfl (Nat.le_of_ble_eq_true rfl) de_M_lawful_88 (fun v_ M_ hK_ hl_ hv_ => ?_)
                obtain ⟨rfl, hm_⟩ := hK_
                have hm_ := hm_.symm
                subst hm_
                change ab_G _ _ _ _ _ _ _ [(7, .int (1 : Int32)), (6, .int (nI (x % 16))), (5, .int (nI (ab_no (m ||| i)))), (0, .ref 30), (1, .int (nI c)), (2, .int (nI x)), (3, .int (nI m)), (4, .int (nI i))] [.int (ab_bz (sp_lj T c m i))] (ab_S nr h g rr) _
                refine ab_if_ne (tgt := 98) de_M_lawful_91 rfl (fun c_91_21 => ?_) (fun c_91_21 => ?_)
                · refine ab_iconst (v := 0) de_M_lawful_98 rfl ?_
                  exact ab_ret (v := some (.int (0 : Int32))) de_M_lawful_99 ⟨_, rfl⟩ ⟨congrArg (fun z => some (Value.int z)) (by unfold md_hw; rw [if_neg (by rw [(ab_bz0 _).mp c_14_2]; decide), if_neg (by rw [ts_f c_44_3]; decide), if_pos h240_, if_neg (fun z => z.2 ⟨(md_bt (c := c) (k := 8) (n := 256) rfl hc c_54_4), (ab_bz1 _).mp c_91_21⟩)]; rfl), rfl⟩
                · refine ab_iconst (v := 1) de_M_lawful_94 rfl ?_
                  refine ab_goto (tgt := 99) de_M_lawful_95 rfl ?_
                  exact ab_ret (v := some (.int (1 : Int32))) de_M_lawful_99 ⟨_, rfl⟩ ⟨congrArg (fun z => some (Value.int z)) (by unfold md_hw; rw [if_neg (by rw [(ab_bz0 _).mp c_14_2]; decide), if_neg (by rw [ts_f c_44_3]; decide), if_pos h240_, if_pos ⟨md_bt (c := c) (k := 6) (n := 64) rfl hc c_75_19, (fun z => by rw [(ab_bz0 _).mp c_91_21] at z; cases z.2)⟩]; rfl), rfl⟩
      · refine ab_iconst (v := 0) de_M_lawful_47 rfl ?_
        exact ab_ret (v := some (.int (0 : Int32))) de_M_lawful_48 ⟨_, rfl⟩ ⟨congrArg (fun z => some (Value.int z)) (by unfold md_hw; rw [if_neg (by rw [(ab_bz0 _).mp c_14_2]; decide), if_pos ((sp_b0 _).mp c_44_3)]; rfl), rfl⟩
    · refine ab_iconst (v := 0) de_M_lawful_17 rfl ?_
      exact ab_ret (v := some (.int (0 : Int32))) de_M_lawful_18 ⟨_, rfl⟩ ⟨congrArg (fun z => some (Value.int z)) (by unfold md_hw; rw [if_pos ((ab_bz1 _).mp c_14_2)]; rfl), rfl⟩
set_option maxHeartbeats 1000000 in
set_option maxRecDepth 10000 in
theorem ct_M_lawful_0 (l : Launch) (d : Nat) (nr : Nat) (h : Nat → Nat → Int32) (g : Nat → Nat → Int64) (rr : Nat → Option Nat) {c : Nat} (hc : c < 4096) (x : Int32) (hx : sp_im x = false) (m i : Int32) : ab_C l am_M_lawful (d + 2) 0 0 [.ref 30, .int (nI c), .int x, .int m, .int i] (ab_S nr h g rr) (fun (r_ : Option Value) (M' : ab_Me) => r_ = some (.int (0 : Int32)) ∧ M' = (ab_S nr h g rr)) := by
  refine ab_C_of (by decide +kernel) rfl (Nat.le_of_ble_eq_true rfl) ?_
  refine ab_aload_n de_M_lawful_0 0 rfl ?_
  refine ab_iload_n de_M_lawful_1 2 rfl ?_
  refine ab_cV (as := [.int x]) (st := []) (ct_M_isMove l _ nr h g rr x) mo_M_isMove mi_M_isMove ml_M_201 rfl (by decide) rfl rfl rfl (Nat.le_of_ble_eq_true rfl) de_M_lawful_2 (fun v_ M_ hK_ hl_ hv_ => ?_)
  obtain ⟨rfl, hm_⟩ := hK_
  have hm_ := hm_.symm
  subst hm_
  change ab_G _ _ _ _ _ _ _ [(0, .ref 30), (1, .int (nI c)), (2, .int x), (3, .int m), (4, .int i)] [.int (ab_bz (sp_im x))] (ab_S nr h g rr) _
  refine ab_top (v' := (0 : Int32)) ((ab_bz_f hx).symm) ?_
  refine ab_if_eq (tgt := 17) de_M_lawful_5 rfl (fun c_5_1 => ?_) (fun c_5_1 => ?_)
  · refine ab_iconst (v := 0) de_M_lawful_17 rfl ?_
    exact ab_ret (v := some (.int (0 : Int32))) de_M_lawful_18 ⟨_, rfl⟩ ⟨rfl, rfl⟩
  · exact absurd rfl c_5_1
