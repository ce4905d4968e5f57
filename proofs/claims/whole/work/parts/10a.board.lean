/-! the static methods of the board: a state is one int -/
theorem bo_sh {s k : Nat} (hs : s < 33554432) (hk : k < 32) : nI s >>> (nI k &&& 31) = nI (s / 2 ^ k) := by rw [ab_shr (by omega) hk, sp_sr]
theorem bo_side {m i t : Nat} (hm : m < 4096) (hi : i < 4096) (ht : t < 2) : nI (sp_en m i t) >>> ((24 : Int32) &&& 31) &&& 1 = nI t := by
  rw [show (24 : Int32) = nI 24 from rfl, bo_sh (sp_en_lt hm hi) (by decide), show (1 : Int32) = nI 1 from rfl, ab_and, sp_1m, show (2 : Nat) ^ 24 = 16777216 from rfl, sp_side hm hi ht, Nat.mod_eq_of_lt ht]
theorem bo_turned {m i t : Nat} (hm : m < 4096) (hi : i < 4096) (ht : t < 2) : nI (sp_en m i t) ^^^ 16777216 = nI (sp_en i m (1 - t)) := by
  rw [show (16777216 : Int32) = nI 16777216 from rfl, ab_xor]
  congr 1
  have key : ∀ x, x < 16777216 → x ^^^ 16777216 = x + 16777216 := fun x hx => by
    have h := Nat.two_pow_add_eq_or_of_lt (i := 24) (b := x) hx 1
    have h2 : x ^^^ 2 ^ 24 = 2 ^ 24 * 1 ||| x := by
      apply Nat.eq_of_testBit_eq
      intro j
      rw [Nat.testBit_xor, Nat.testBit_or, Nat.mul_one, Nat.testBit_two_pow]
      by_cases hj : 24 = j
      · subst hj
        rw [Nat.testBit_lt_two_pow hx]
        simp
      · simp [hj]
    show x ^^^ 2 ^ 24 = x + 2 ^ 24
    rw [h2, ← h]
    omega
  have key2 : ∀ x, x < 16777216 → (x + 16777216) ^^^ 16777216 = x := fun x hx => by
    rw [← key x hx, Nat.xor_assoc, Nat.xor_self, Nat.xor_zero]
  unfold sp_en
  rcases (by omega : t = 0 ∨ t = 1) with rfl | rfl
  · rw [if_pos rfl, if_neg (by decide), key _ (by omega)]
    omega
  · rw [if_neg (by decide), if_pos rfl, key2 _ (by omega)]
    omega
theorem bo_own {m i t : Nat} (hm : m < 4096) (hi : i < 4096) (ht : t < 2) : nI (sp_en m i t) >>> (((12 : Int32) * (nI (sp_en m i t) >>> ((24 : Int32) &&& 31) &&& 1)) &&& 31) &&& 4095 = nI m := by
  rw [bo_side hm hi ht, show (12 : Int32) = nI 12 from rfl, ab_mul, bo_sh (sp_en_lt hm hi) (by omega), show (4095 : Int32) = nI 4095 from rfl, ab_and, sp_4095m, sp_own hm hi ht]
theorem bo_neg1 : ∀ t, t < 2 → (nI t ^^^ 1) = nI (1 - t) := by decide
theorem bo_negs (x : Int32) : (x ^^^ (-1)) >>> ((24 : Int32) &&& 31) &&& 1 = ((x >>> ((24 : Int32) &&& 31) &&& 1) ^^^ 1) := by
  have hs : ((24 : Int32) &&& 31).toBitVec.smod 32 = 24#32 := by decide
  apply Int32.toBitVec_inj.mp
  show (x.toBitVec ^^^ BitVec.allOnes 32).sshiftRight' (((24 : Int32) &&& 31).toBitVec.smod 32) &&& 1#32 = (x.toBitVec.sshiftRight' (((24 : Int32) &&& 31).toBitVec.smod 32) &&& 1#32) ^^^ 1#32
  rw [hs, BitVec.sshiftRight_eq', BitVec.sshiftRight_eq']
  apply BitVec.eq_of_getLsbD_eq
  intro j hj
  have h1 : (1#32).getLsbD j = decide (j = 0) := by
    rcases j with _ | j
    · rfl
    · rw [BitVec.getLsbD_one]
      simp
  rw [BitVec.getLsbD_and, BitVec.getLsbD_xor, BitVec.getLsbD_and, h1]
  by_cases h0 : j = 0
  · subst h0
    rw [BitVec.getLsbD_sshiftRight, BitVec.getLsbD_sshiftRight, BitVec.getLsbD_xor, BitVec.getLsbD_allOnes]
    simp
  · simp [h0]
theorem bo_foes {m i t : Nat} (hm : m < 4096) (hi : i < 4096) (ht : t < 2) : nI (sp_en m i t) >>> (((12 : Int32) * ((nI (sp_en m i t) ^^^ (-1)) >>> ((24 : Int32) &&& 31) &&& 1)) &&& 31) &&& 4095 = nI i := by
  rw [bo_negs, bo_side hm hi ht, bo_neg1 t ht, show (12 : Int32) = nI 12 from rfl, ab_mul, bo_sh (sp_en_lt hm hi) (by omega), show (4095 : Int32) = nI 4095 from rfl, ab_and, sp_4095m, sp_foe hm hi ht]
theorem bo_no_mod {x y : Nat} (h : x % 4096 = y % 4096) : ab_no x = ab_no y := by unfold ab_no; rw [sp_4095m, sp_4095m, h]
theorem sp_or_mod (x y : Nat) : (x ||| y) % 4096 = x % 4096 ||| y % 4096 := Nat.or_mod_two_pow (n := 12)
theorem bo_empty {m i t : Nat} (hm : m < 4096) (hi : i < 4096) (ht : t < 2) : (4095 : Int32) &&& ((nI (sp_en m i t) ||| nI (sp_en m i t) >>> ((12 : Int32) &&& 31)) ^^^ (-1)) = nI (ab_no (m ||| i)) := by
  rw [show (12 : Int32) = nI 12 from rfl, bo_sh (sp_en_lt hm hi) (by decide), ab_or, show (4095 : Int32) = nI 4095 from rfl, ab_not]
  congr 1
  apply bo_no_mod
  rw [sp_or_mod, sp_or_mod]
  unfold sp_en
  rcases (by omega : t = 0 ∨ t = 1) with rfl | rfl
  · rw [if_pos rfl]
    rw [show (m + 4096 * i) % 4096 = m % 4096 by omega, show (m + 4096 * i) / 2 ^ 12 % 4096 = i % 4096 by omega]
  · rw [if_neg (by decide)]
    rw [show (4096 * m + i + 16777216) % 4096 = i % 4096 by omega, show (4096 * m + i + 16777216) / 2 ^ 12 % 4096 = m % 4096 by omega, Nat.or_comm]
set_option maxHeartbeats 1000000 in
set_option maxRecDepth 10000 in
theorem ct_B_side (l : Launch) (d : Nat) (M : ab_Me) {m i t : Nat} (hm : m < 4096) (hi : i < 4096) (ht : t < 2) : ab_C l am_B_side d 0 0 [.int (nI (sp_en m i t))] M (fun (r_ : Option Value) (M' : ab_Me) => r_ = some (.int (nI t)) ∧ M' = M) := by
  refine ab_C_of (by decide +kernel) rfl (Nat.le_of_ble_eq_true rfl) ?_
  refine ab_iload_n de_B_side_0 0 rfl ?_
  refine ab_bipush (v := 24) de_B_side_1 rfl ?_
  refine ab_ishr de_B_side_3 ?_
  refine ab_iconst (v := 1) de_B_side_4 rfl ?_
  refine ab_iand de_B_side_5 ?_
  exact ab_ret (v := some (.int (((nI (sp_en m i t)) >>> ((24 : Int32) &&& (31 : Int32))) &&& (1 : Int32)))) de_B_side_6 ⟨_, rfl⟩ ⟨congrArg (fun z => some (Value.int z)) (bo_side hm hi ht), rfl⟩
set_option maxHeartbeats 1000000 in
set_option maxRecDepth 10000 in
theorem ct_B_turned (l : Launch) (d : Nat) (M : ab_Me) {m i t : Nat} (hm : m < 4096) (hi : i < 4096) (ht : t < 2) : ab_C l am_B_turned d 0 0 [.int (nI (sp_en m i t))] M (fun (r_ : Option Value) (M' : ab_Me) => r_ = some (.int (nI (sp_en i m (1 - t)))) ∧ M' = M) := by
  refine ab_C_of (by decide +kernel) rfl (Nat.le_of_ble_eq_true rfl) ?_
  refine ab_iload_n de_B_turned_0 0 rfl ?_
  refine ab_ldc co_B_21 de_B_turned_1 ?_
  refine ab_ixor de_B_turned_3 ?_
  exact ab_ret (v := some (.int ((nI (sp_en m i t)) ^^^ (16777216 : Int32)))) de_B_turned_4 ⟨_, rfl⟩ ⟨congrArg (fun z => some (Value.int z)) (bo_turned hm hi ht), rfl⟩
set_option maxHeartbeats 1000000 in
set_option maxRecDepth 10000 in
theorem ct_B_own (l : Launch) (d : Nat) (M : ab_Me) {m i t : Nat} (hm : m < 4096) (hi : i < 4096) (ht : t < 2) : ab_C l am_B_own d 0 0 [.int (nI (sp_en m i t))] M (fun (r_ : Option Value) (M' : ab_Me) => r_ = some (.int (nI m)) ∧ M' = M) := by
  refine ab_C_of (by decide +kernel) rfl (Nat.le_of_ble_eq_true rfl) ?_
  refine ab_iload_n de_B_own_0 0 rfl ?_
  refine ab_bipush (v := 12) de_B_own_1 rfl ?_
  refine ab_iload_n de_B_own_3 0 rfl ?_
  refine ab_bipush (v := 24) de_B_own_4 rfl ?_
  refine ab_ishr de_B_own_6 ?_
  refine ab_iconst (v := 1) de_B_own_7 rfl ?_
  refine ab_iand de_B_own_8 ?_
  refine ab_imul de_B_own_9 ?_
  refine ab_ishr de_B_own_10 ?_
  refine ab_sipush (v := 4095) de_B_own_11 rfl ?_
  refine ab_iand de_B_own_14 ?_
  exact ab_ret (v := some (.int (((nI (sp_en m i t)) >>> (((12 : Int32) * (((nI (sp_en m i t)) >>> ((24 : Int32) &&& (31 : Int32))) &&& (1 : Int32))) &&& (31 : Int32))) &&& (4095 : Int32)))) de_B_own_15 ⟨_, rfl⟩ ⟨congrArg (fun z => some (Value.int z)) (bo_own hm hi ht), rfl⟩
set_option maxHeartbeats 1000000 in
set_option maxRecDepth 10000 in
theorem ct_B_foes (l : Launch) (d : Nat) (M : ab_Me) {m i t : Nat} (hm : m < 4096) (hi : i < 4096) (ht : t < 2) : ab_C l am_B_foes d 0 0 [.int (nI (sp_en m i t))] M (fun (r_ : Option Value) (M' : ab_Me) => r_ = some (.int (nI i)) ∧ M' = M) := by
  refine ab_C_of (by decide +kernel) rfl (Nat.le_of_ble_eq_true rfl) ?_
  refine ab_iload_n de_B_foes_0 0 rfl ?_
  refine ab_bipush (v := 12) de_B_foes_1 rfl ?_
  refine ab_iload_n de_B_foes_3 0 rfl ?_
  refine ab_iconst (v := -1) de_B_foes_4 rfl ?_
  refine ab_ixor de_B_foes_5 ?_
  refine ab_bipush (v := 24) de_B_foes_6 rfl ?_
  refine ab_ishr de_B_foes_8 ?_
  refine ab_iconst (v := 1) de_B_foes_9 rfl ?_
  refine ab_iand de_B_foes_10 ?_
  refine ab_imul de_B_foes_11 ?_
  refine ab_ishr de_B_foes_12 ?_
  refine ab_sipush (v := 4095) de_B_foes_13 rfl ?_
  refine ab_iand de_B_foes_16 ?_
  exact ab_ret (v := some (.int (((nI (sp_en m i t)) >>> (((12 : Int32) * ((((nI (sp_en m i t)) ^^^ (-1 : Int32)) >>> ((24 : Int32) &&& (31 : Int32))) &&& (1 : Int32))) &&& (31 : Int32))) &&& (4095 : Int32)))) de_B_foes_17 ⟨_, rfl⟩ ⟨congrArg (fun z => some (Value.int z)) (bo_foes hm hi ht), rfl⟩
set_option maxHeartbeats 1000000 in
set_option maxRecDepth 10000 in
theorem ct_B_empty (l : Launch) (d : Nat) (M : ab_Me) {m i t : Nat} (hm : m < 4096) (hi : i < 4096) (ht : t < 2) : ab_C l am_B_empty d 0 0 [.int (nI (sp_en m i t))] M (fun (r_ : Option Value) (M' : ab_Me) => r_ = some (.int (nI (ab_no (m ||| i)))) ∧ M' = M) := by
  refine ab_C_of (by decide +kernel) rfl (Nat.le_of_ble_eq_true rfl) ?_
  refine ab_sipush (v := 4095) de_B_empty_0 rfl ?_
  refine ab_iload_n de_B_empty_3 0 rfl ?_
  refine ab_iload_n de_B_empty_4 0 rfl ?_
  refine ab_bipush (v := 12) de_B_empty_5 rfl ?_
  refine ab_ishr de_B_empty_7 ?_
  refine ab_ior de_B_empty_8 ?_
  refine ab_iconst (v := -1) de_B_empty_9 rfl ?_
  refine ab_ixor de_B_empty_10 ?_
  refine ab_iand de_B_empty_11 ?_
  exact ab_ret (v := some (.int ((4095 : Int32) &&& (((nI (sp_en m i t)) ||| ((nI (sp_en m i t)) >>> ((12 : Int32) &&& (31 : Int32)))) ^^^ (-1 : Int32))))) de_B_empty_12 ⟨_, rfl⟩ ⟨congrArg (fun z => some (Value.int z)) (bo_empty hm hi ht), rfl⟩
