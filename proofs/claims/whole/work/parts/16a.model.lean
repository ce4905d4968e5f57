/-! the reference: small methods -/
theorem md_cn_64 : ∀ a, a < 64 → ∀ b, b < 64 → 64 * a + b = 0 ∨ (sp_cn ((64 * a + b) &&& (64 * a + b - 1)) + 1 = sp_cn (64 * a + b) ∧ (64 * a + b) &&& (64 * a + b - 1) < 64 * a + b) := by decide +kernel
theorem md_cn {x : Nat} (hx : x < 4096) (h0 : ¬ x = 0) : sp_cn (x &&& (x - 1)) + 1 = sp_cn x ∧ x &&& (x - 1) < x := by
  have h := md_cn_64 (x / 64) (by omega) (x % 64) (by omega)
  rw [Nat.div_add_mod] at h
  rcases h with h | h
  · exact absurd h h0
  · exact h
def md_kt (c : Nat) : Nat := if 1 < sp_pc c then 7 else if ¬ c &&& 7 = 0 then 1 else if ¬ c &&& 56 = 0 then 2 else if ¬ c &&& 64 = 0 then 3 else if ¬ c &&& 128 = 0 then 4 else if ¬ c &&& 256 = 0 then 5 else 6
theorem md_kd_64 : ∀ a, a < 64 → ∀ b, b < 64 → 64 * a + b = 0 ∨ md_kt (64 * a + b) = sp_kd (64 * a + b) := by decide +kernel
theorem md_kd {c : Nat} (h1 : 1 ≤ c) (hc : c < 4096) : sp_kd c = md_kt c := by
  have h := md_kd_64 (c / 64) (by omega) (c % 64) (by omega)
  rw [Nat.div_add_mod] at h
  rcases h with h | h
  · omega
  · exact h.symm
def md_pt (c : Nat) : Nat := 2 * sp_cn (c &&& 7) + 3 * sp_cn (c >>> 3 &&& 7) + 2 * (c.testBit 6).toNat + (c.testBit 7).toNat + (c.testBit 8).toNat + (c.testBit 9).toNat + (if c / 1024 = 0 then 0 else 2)
theorem md_pr_64 : ∀ a, a < 64 → ∀ b, b < 64 → md_pt (64 * a + b) = sp_pr (64 * a + b) := by decide +kernel
theorem md_pr {c : Nat} (hc : c < 4096) : sp_pr c = md_pt c := by
  have h := md_pr_64 (c / 64) (by omega) (c % 64) (by omega)
  rw [Nat.div_add_mod] at h
  exact h.symm
theorem sp_clrI {x p : Nat} (hx : x < 4096) (hp : p < 12) : nI x &&& (nI (2 ^ p) ^^^ (-1 : Int32)) = nI (sp_clr x p) := by
  apply Int32.toBitVec_inj.mp
  show BitVec.ofNat 32 x &&& (BitVec.ofNat 32 (2 ^ p) ^^^ BitVec.allOnes 32) = BitVec.ofNat 32 (x &&& (4095 ^^^ 2 ^ p))
  apply BitVec.eq_of_getLsbD_eq
  intro q hq
  simp only [BitVec.getLsbD_and, BitVec.getLsbD_xor, BitVec.getLsbD_allOnes, BitVec.getLsbD_ofNat, hq, decide_true, Bool.true_and, Nat.testBit_xor, Nat.testBit_and]
  by_cases h12 : q < 12
  · rw [sp_4095 q h12]
    cases x.testBit q <;> cases (2 ^ p).testBit q <;> rfl
  · rw [sp_bit12 hx (by omega)]
    rfl
theorem sp_b1 (b : Bool) : nI b.toNat = 1 ↔ b = true := by cases b <;> decide
theorem sp_b1n {b : Bool} (h : ¬ nI b.toNat = 1) : b = false := by cases b <;> first | rfl | exact absurd rfl h
theorem ab_gt0 {n : Nat} (hn : n < 2 ^ 31) : (0 : Int32) < nI n ↔ 0 < n := ab_lt (a := 0) (by decide) hn
theorem ab_le0 {n : Nat} (hn : n < 2 ^ 31) : nI n ≤ (0 : Int32) ↔ n ≤ 0 := ab_le (b := 0) hn (by decide)
set_option maxHeartbeats 1000000 in
set_option maxRecDepth 10000 in
theorem ct_M_no (l : Launch) (d : Nat) (nr : Nat) (h : Nat → Nat → Int32) (g : Nat → Nat → Int64) (rr : Nat → Option Nat) {r : Int32} {k : Nat} (hr : -r = nI k) (hk : k < 8) : ab_C l am_M_no d 0 0 [.ref 30, .int r] (ab_S nr h g rr) (fun (r_ : Option Value) (M' : ab_Me) => r_ = some (.int r) ∧ M' = (ab_S nr (ab_u2 h 31 k (h 31 k + 1)) g rr)) := by
  refine ab_C_of (by decide +kernel) rfl (Nat.le_of_ble_eq_true rfl) ?_
  refine ab_aload_n de_M_no_0 0 rfl ?_
  refine ab_get (v := .ref 31) fl_M_13 rfl rfl de_M_no_1 ?_
  refine ab_iload_n de_M_no_4 1 rfl ?_
  refine ab_ineg de_M_no_5 ?_
  refine ab_top (v' := nI k) (hr) ?_
  refine ab_dup2 de_M_no_6 rfl rfl ?_
  refine ab_iald (v := h 31 k) rfl (ab_in (n := k) (by omega) (by decide)) (ab_hv (ab_tn (n := k) (by omega))) de_M_no_7 ?_
  refine ab_iconst (v := 1) de_M_no_8 rfl ?_
  refine ab_iadd de_M_no_9 ?_
  refine ab_iast (x := 31) rfl (ab_in (n := k) (by omega) (by decide)) de_M_no_10 ?_
  rw [ab_tn (n := k) (by omega)]
  change ab_G _ _ _ _ _ _ _ _ _ (ab_S nr (ab_u2 h 31 k ((h 31 k) + (1 : Int32))) g rr) _
  refine ab_iload_n de_M_no_11 1 rfl ?_
  exact ab_ret (v := some (.int r)) de_M_no_12 ⟨_, rfl⟩ ⟨rfl, rfl⟩
set_option maxHeartbeats 1000000 in
set_option maxRecDepth 10000 in
theorem ct_M_noTen (l : Launch) (d : Nat) (nr : Nat) (h : Nat → Nat → Int32) (g : Nat → Nat → Int64) (rr : Nat → Option Nat) {r : Int32} {k : Nat} (hr : -r = nI k) (hk : k < 8) : ab_C l am_M_noTen d 0 0 [.ref 30, .int r] (ab_S nr h g rr) (fun (r_ : Option Value) (M' : ab_Me) => r_ = some (.int (r - 10)) ∧ M' = (ab_S nr (ab_u2 h 31 k (h 31 k + 1)) g rr)) := by
  refine ab_C_of (by decide +kernel) rfl (Nat.le_of_ble_eq_true rfl) ?_
  refine ab_aload_n de_M_noTen_0 0 rfl ?_
  refine ab_get (v := .ref 31) fl_M_13 rfl rfl de_M_noTen_1 ?_
  refine ab_iload_n de_M_noTen_4 1 rfl ?_
  refine ab_ineg de_M_noTen_5 ?_
  refine ab_top (v' := nI k) (hr) ?_
  refine ab_dup2 de_M_noTen_6 rfl rfl ?_
  refine ab_iald (v := h 31 k) rfl (ab_in (n := k) (by omega) (by decide)) (ab_hv (ab_tn (n := k) (by omega))) de_M_noTen_7 ?_
  refine ab_iconst (v := 1) de_M_noTen_8 rfl ?_
  refine ab_iadd de_M_noTen_9 ?_
  refine ab_iast (x := 31) rfl (ab_in (n := k) (by omega) (by decide)) de_M_noTen_10 ?_
  rw [ab_tn (n := k) (by omega)]
  change ab_G _ _ _ _ _ _ _ _ _ (ab_S nr (ab_u2 h 31 k ((h 31 k) + (1 : Int32))) g rr) _
  refine ab_iload_n de_M_noTen_11 1 rfl ?_
  refine ab_bipush (v := 10) de_M_noTen_12 rfl ?_
  refine ab_isub de_M_noTen_14 ?_
  exact ab_ret (v := some (.int (r - (10 : Int32)))) de_M_noTen_15 ⟨_, rfl⟩ ⟨rfl, rfl⟩
set_option maxHeartbeats 1000000 in
set_option maxRecDepth 10000 in
theorem ct_M_isShelf (l : Launch) (d : Nat) (M : ab_Me) (x : Int32) : ab_C l am_M_isShelf d 0 0 [.ref 30, .int x] M (fun (r_ : Option Value) (M' : ab_Me) => r_ = some (.int (ab_bz (sp_sh x))) ∧ M' = M) := by
  refine ab_C_of (by decide +kernel) rfl (Nat.le_of_ble_eq_true rfl) ?_
  refine ab_iload_n de_M_isShelf_0 1 rfl ?_
  refine ab_if_lt (tgt := 14) de_M_isShelf_1 rfl (fun c_1_1 => ?_) (fun c_1_1 => ?_)
  · refine ab_iconst (v := 0) de_M_isShelf_14 rfl ?_
    exact ab_ret (v := some (.int (0 : Int32))) de_M_isShelf_15 ⟨_, rfl, rfl⟩ ⟨congrArg (fun z => some (Value.int z)) (ab_bz_f (decide_eq_false (fun z => absurd c_1_1 (Int32.not_lt.mpr z.1)))), rfl⟩
  · refine ab_iload_n de_M_isShelf_4 1 rfl ?_
    refine ab_bipush (v := 8) de_M_isShelf_5 rfl ?_
    refine ab_icmp_ge (tgt := 14) de_M_isShelf_7 rfl (fun c_7_2 => ?_) (fun c_7_2 => ?_)
    · refine ab_iconst (v := 0) de_M_isShelf_14 rfl ?_
      exact ab_ret (v := some (.int (0 : Int32))) de_M_isShelf_15 ⟨_, rfl, rfl⟩ ⟨congrArg (fun z => some (Value.int z)) (ab_bz_f (decide_eq_false (fun z => absurd z.2 (Int32.not_lt.mpr c_7_2)))), rfl⟩
    · refine ab_iconst (v := 1) de_M_isShelf_10 rfl ?_
      refine ab_goto (tgt := 15) de_M_isShelf_11 rfl ?_
      exact ab_ret (v := some (.int (1 : Int32))) de_M_isShelf_15 ⟨_, rfl, rfl⟩ ⟨congrArg (fun z => some (Value.int z)) (ab_bz_t (decide_eq_true ⟨Int32.not_lt.mp c_1_1, Int32.not_le.mp c_7_2⟩)), rfl⟩
set_option maxHeartbeats 1000000 in
set_option maxRecDepth 10000 in
theorem ct_M_isPoint (l : Launch) (d : Nat) (M : ab_Me) (x : Int32) : ab_C l am_M_isPoint d 0 0 [.ref 30, .int x] M (fun (r_ : Option Value) (M' : ab_Me) => r_ = some (.int (ab_bz (sp_pt x))) ∧ M' = M) := by
  refine ab_C_of (by decide +kernel) rfl (Nat.le_of_ble_eq_true rfl) ?_
  refine ab_iload_n de_M_isPoint_0 1 rfl ?_
  refine ab_if_lt (tgt := 14) de_M_isPoint_1 rfl (fun c_1_1 => ?_) (fun c_1_1 => ?_)
  · refine ab_iconst (v := 0) de_M_isPoint_14 rfl ?_
    exact ab_ret (v := some (.int (0 : Int32))) de_M_isPoint_15 ⟨_, rfl, rfl⟩ ⟨congrArg (fun z => some (Value.int z)) (ab_bz_f (decide_eq_false (fun z => absurd c_1_1 (Int32.not_lt.mpr z.1)))), rfl⟩
  · refine ab_iload_n de_M_isPoint_4 1 rfl ?_
    refine ab_bipush (v := 12) de_M_isPoint_5 rfl ?_
    refine ab_icmp_ge (tgt := 14) de_M_isPoint_7 rfl (fun c_7_2 => ?_) (fun c_7_2 => ?_)
    · refine ab_iconst (v := 0) de_M_isPoint_14 rfl ?_
      exact ab_ret (v := some (.int (0 : Int32))) de_M_isPoint_15 ⟨_, rfl, rfl⟩ ⟨congrArg (fun z => some (Value.int z)) (ab_bz_f (decide_eq_false (fun z => absurd z.2 (Int32.not_lt.mpr c_7_2)))), rfl⟩
    · refine ab_iconst (v := 1) de_M_isPoint_10 rfl ?_
      refine ab_goto (tgt := 15) de_M_isPoint_11 rfl ?_
      exact ab_ret (v := some (.int (1 : Int32))) de_M_isPoint_15 ⟨_, rfl, rfl⟩ ⟨congrArg (fun z => some (Value.int z)) (ab_bz_t (decide_eq_true ⟨Int32.not_lt.mp c_1_1, Int32.not_le.mp c_7_2⟩)), rfl⟩
set_option maxHeartbeats 1000000 in
set_option maxRecDepth 10000 in
theorem ct_M_isCode (l : Launch) (d : Nat) (M : ab_Me) (x : Int32) : ab_C l am_M_isCode d 0 0 [.ref 30, .int x] M (fun (r_ : Option Value) (M' : ab_Me) => r_ = some (.int (ab_bz (sp_cd x))) ∧ M' = M) := by
  refine ab_C_of (by decide +kernel) rfl (Nat.le_of_ble_eq_true rfl) ?_
  refine ab_iload_n de_M_isCode_0 1 rfl ?_
  refine ab_iconst (v := 1) de_M_isCode_1 rfl ?_
  refine ab_icmp_lt (tgt := 16) de_M_isCode_2 rfl (fun c_2_1 => ?_) (fun c_2_1 => ?_)
  · refine ab_iconst (v := 0) de_M_isCode_16 rfl ?_
    exact ab_ret (v := some (.int (0 : Int32))) de_M_isCode_17 ⟨_, rfl, rfl⟩ ⟨congrArg (fun z => some (Value.int z)) (ab_bz_f (decide_eq_false (fun z => absurd c_2_1 (Int32.not_lt.mpr z.1)))), rfl⟩
  · refine ab_iload_n de_M_isCode_5 1 rfl ?_
    refine ab_sipush (v := 4096) de_M_isCode_6 rfl ?_
    refine ab_icmp_ge (tgt := 16) de_M_isCode_9 rfl (fun c_9_2 => ?_) (fun c_9_2 => ?_)
    · refine ab_iconst (v := 0) de_M_isCode_16 rfl ?_
      exact ab_ret (v := some (.int (0 : Int32))) de_M_isCode_17 ⟨_, rfl, rfl⟩ ⟨congrArg (fun z => some (Value.int z)) (ab_bz_f (decide_eq_false (fun z => absurd z.2 (Int32.not_lt.mpr c_9_2)))), rfl⟩
    · refine ab_iconst (v := 1) de_M_isCode_12 rfl ?_
      refine ab_goto (tgt := 17) de_M_isCode_13 rfl ?_
      exact ab_ret (v := some (.int (1 : Int32))) de_M_isCode_17 ⟨_, rfl, rfl⟩ ⟨congrArg (fun z => some (Value.int z)) (ab_bz_t (decide_eq_true ⟨Int32.not_lt.mp c_2_1, Int32.not_le.mp c_9_2⟩)), rfl⟩
set_option maxHeartbeats 1000000 in
set_option maxRecDepth 10000 in
theorem ct_M_isGame (l : Launch) (d : Nat) (nr : Nat) (h : Nat → Nat → Int32) (g : Nat → Nat → Int64) (rr : Nat → Option Nat) {Z : sp_G} (hMG : h 30 1 = nI (gN Z)) (x : Int32) : ab_C l am_M_isGame d 0 0 [.ref 30, .int x] (ab_S nr h g rr) (fun (r_ : Option Value) (M' : ab_Me) => r_ = some (.int (ab_bz (decide (0 ≤ x ∧ x < nI (gN Z))))) ∧ M' = (ab_S nr h g rr)) := by
  refine ab_C_of (by decide +kernel) rfl (Nat.le_of_ble_eq_true rfl) ?_
  refine ab_iload_n de_M_isGame_0 1 rfl ?_
  refine ab_if_lt (tgt := 16) de_M_isGame_1 rfl (fun c_1_1 => ?_) (fun c_1_1 => ?_)
  · refine ab_iconst (v := 0) de_M_isGame_16 rfl ?_
    exact ab_ret (v := some (.int (0 : Int32))) de_M_isGame_17 ⟨_, rfl, rfl⟩ ⟨congrArg (fun z => some (Value.int z)) (ab_bz_f (decide_eq_false (fun z => absurd c_1_1 (Int32.not_lt.mpr z.1)))), rfl⟩
  · refine ab_iload_n de_M_isGame_4 1 rfl ?_
    refine ab_aload_n de_M_isGame_5 0 rfl ?_
    refine ab_get (v := .int (h 30 1)) fl_M_84 rfl rfl de_M_isGame_6 ?_
    refine ab_top (v' := nI (gN Z)) (hMG) ?_
    refine ab_icmp_ge (tgt := 16) de_M_isGame_9 rfl (fun c_9_2 => ?_) (fun c_9_2 => ?_)
    · refine ab_iconst (v := 0) de_M_isGame_16 rfl ?_
      exact ab_ret (v := some (.int (0 : Int32))) de_M_isGame_17 ⟨_, rfl, rfl⟩ ⟨congrArg (fun z => some (Value.int z)) (ab_bz_f (decide_eq_false (fun z => absurd z.2 (Int32.not_lt.mpr c_9_2)))), rfl⟩
    · refine ab_iconst (v := 1) de_M_isGame_12 rfl ?_
      refine ab_goto (tgt := 17) de_M_isGame_13 rfl ?_
      exact ab_ret (v := some (.int (1 : Int32))) de_M_isGame_17 ⟨_, rfl, rfl⟩ ⟨congrArg (fun z => some (Value.int z)) (ab_bz_t (decide_eq_true ⟨Int32.not_lt.mp c_1_1, Int32.not_le.mp c_9_2⟩)), rfl⟩
set_option maxHeartbeats 1000000 in
set_option maxRecDepth 10000 in
theorem ct_M_isRule (l : Launch) (d : Nat) (nr : Nat) (h : Nat → Nat → Int32) (g : Nat → Nat → Int64) (rr : Nat → Option Nat) {n_ : Nat} (hMR : h 30 0 = nI n_) (x : Int32) : ab_C l am_M_isRule d 0 0 [.ref 30, .int x] (ab_S nr h g rr) (fun (r_ : Option Value) (M' : ab_Me) => r_ = some (.int (ab_bz (decide (0 ≤ x ∧ x < nI n_)))) ∧ M' = (ab_S nr h g rr)) := by
  refine ab_C_of (by decide +kernel) rfl (Nat.le_of_ble_eq_true rfl) ?_
  refine ab_iload_n de_M_isRule_0 1 rfl ?_
  refine ab_if_lt (tgt := 16) de_M_isRule_1 rfl (fun c_1_1 => ?_) (fun c_1_1 => ?_)
  · refine ab_iconst (v := 0) de_M_isRule_16 rfl ?_
    exact ab_ret (v := some (.int (0 : Int32))) de_M_isRule_17 ⟨_, rfl, rfl⟩ ⟨congrArg (fun z => some (Value.int z)) (ab_bz_f (decide_eq_false (fun z => absurd c_1_1 (Int32.not_lt.mpr z.1)))), rfl⟩
  · refine ab_iload_n de_M_isRule_4 1 rfl ?_
    refine ab_aload_n de_M_isRule_5 0 rfl ?_
    refine ab_get (v := .int (h 30 0)) fl_M_87 rfl rfl de_M_isRule_6 ?_
    refine ab_top (v' := nI n_) (hMR) ?_
    refine ab_icmp_ge (tgt := 16) de_M_isRule_9 rfl (fun c_9_2 => ?_) (fun c_9_2 => ?_)
    · refine ab_iconst (v := 0) de_M_isRule_16 rfl ?_
      exact ab_ret (v := some (.int (0 : Int32))) de_M_isRule_17 ⟨_, rfl, rfl⟩ ⟨congrArg (fun z => some (Value.int z)) (ab_bz_f (decide_eq_false (fun z => absurd z.2 (Int32.not_lt.mpr c_9_2)))), rfl⟩
    · refine ab_iconst (v := 1) de_M_isRule_12 rfl ?_
      refine ab_goto (tgt := 17) de_M_isRule_13 rfl ?_
      exact ab_ret (v := some (.int (1 : Int32))) de_M_isRule_17 ⟨_, rfl, rfl⟩ ⟨congrArg (fun z => some (Value.int z)) (ab_bz_t (decide_eq_true ⟨Int32.not_lt.mp c_1_1, Int32.not_le.mp c_9_2⟩)), rfl⟩
theorem i32_le9 {x : Int32} (h : x < 10) : x ≤ 9 := by
  have h1 := Int32.lt_iff_toInt_lt.mp h
  refine Int32.le_iff_toInt_le.mpr ?_
  have e1 : (10 : Int32).toInt = 10 := by decide
  have e2 : (9 : Int32).toInt = 9 := by decide
  omega
theorem i32_ge10 {x : Int32} (h : 10 ≤ x) : ¬ x ≤ 9 := fun z => by
  have h1 := Int32.le_iff_toInt_le.mp h
  have h2 := Int32.le_iff_toInt_le.mp z
  have e1 : (10 : Int32).toInt = 10 := by decide
  have e2 : (9 : Int32).toInt = 9 := by decide
  omega
set_option maxHeartbeats 1000000 in
set_option maxRecDepth 10000 in
theorem ct_M_isX (l : Launch) (d : Nat) (M : ab_Me) (x : Int32) : ab_C l am_M_isX d 0 0 [.ref 30, .int x] M (fun (r_ : Option Value) (M' : ab_Me) => r_ = some (.int (ab_bz (sp_x9 x))) ∧ M' = M) := by
  refine ab_C_of (by decide +kernel) rfl (Nat.le_of_ble_eq_true rfl) ?_
  refine ab_iload_n de_M_isX_0 1 rfl ?_
  refine ab_if_lt (tgt := 14) de_M_isX_1 rfl (fun c_1_1 => ?_) (fun c_1_1 => ?_)
  · refine ab_iconst (v := 0) de_M_isX_14 rfl ?_
    exact ab_ret (v := some (.int (0 : Int32))) de_M_isX_15 ⟨_, rfl, rfl⟩ ⟨congrArg (fun z => some (Value.int z)) (ab_bz_f (decide_eq_false (fun z => absurd c_1_1 (Int32.not_lt.mpr z.1)))), rfl⟩
  · refine ab_iload_n de_M_isX_4 1 rfl ?_
    refine ab_bipush (v := 10) de_M_isX_5 rfl ?_
    refine ab_icmp_ge (tgt := 14) de_M_isX_7 rfl (fun c_7_2 => ?_) (fun c_7_2 => ?_)
    · refine ab_iconst (v := 0) de_M_isX_14 rfl ?_
      exact ab_ret (v := some (.int (0 : Int32))) de_M_isX_15 ⟨_, rfl, rfl⟩ ⟨congrArg (fun z => some (Value.int z)) (ab_bz_f (decide_eq_false (fun z => absurd z.2 (i32_ge10 c_7_2)))), rfl⟩
    · refine ab_iconst (v := 1) de_M_isX_10 rfl ?_
      refine ab_goto (tgt := 15) de_M_isX_11 rfl ?_
      exact ab_ret (v := some (.int (1 : Int32))) de_M_isX_15 ⟨_, rfl, rfl⟩ ⟨congrArg (fun z => some (Value.int z)) (ab_bz_t (decide_eq_true ⟨Int32.not_lt.mp c_1_1, i32_le9 (Int32.not_le.mp c_7_2)⟩)), rfl⟩
set_option maxHeartbeats 1000000 in
set_option maxRecDepth 10000 in
theorem lp_M_many (l : Launch) (d : Nat) (M : ab_Me) {b : Nat} : ∀ fu_ x n, x < fu_ → x < 4096 → n + sp_cn x = sp_cn b → ab_G l none am_M_many d 0 0 4 [(0, .ref 30), (1, .int (nI b)), (2, .int (nI n)), (3, .int (nI x))] [] M (fun (r_ : Option Value) (M' : ab_Me) => r_ = some (.int (nI (sp_cn b))) ∧ M' = M) := by
  intro fu_
  induction fu_ with
  | zero => intro x n h1; omega
  | succ fu_ ih =>
    intro x n hfu hx hn
    refine ab_iload_n de_M_many_4 3 rfl ?_
    refine ab_if_eq (tgt := 20) de_M_many_5 rfl (fun c_5_1 => ?_) (fun c_5_1 => ?_)
    · refine ab_iload_n de_M_many_20 2 rfl ?_
      exact ab_ret (v := some (.int (nI n))) de_M_many_21 ⟨_, rfl⟩ ⟨congrArg (fun z => some (Value.int z)) (by rw [← hn, (sp_z hx).mp c_5_1]; rfl), rfl⟩
    · have x0_ : ¬ x = 0 := fun z_ => c_5_1 (by rw [z_]; rfl)
      have cn_ := md_cn hx x0_
      refine ab_iinc (v := nI (n + 1)) (L' := [(2, .int (nI (n + 1))), (0, .ref 30), (1, .int (nI b)), (3, .int (nI x))]) de_M_many_8 2 rfl (by rw [show Int32.ofInt 1 = nI 1 from rfl, ab_add]) (by decide) rfl ?_
      refine ab_iload_n de_M_many_11 3 rfl ?_
      refine ab_iload_n de_M_many_12 3 rfl ?_
      refine ab_iconst (v := 1) de_M_many_13 rfl ?_
      refine ab_isub de_M_many_14 ?_
      refine ab_top (v' := nI (x - 1)) (ab_sub1 (by omega)) ?_
      refine ab_iand de_M_many_15 ?_
      refine ab_top (v' := nI (x &&& (x - 1))) (ab_and _ _) ?_
      refine ab_istore_n (L' := [(3, .int (nI (x &&& (x - 1)))), (2, .int (nI (n + 1))), (0, .ref 30), (1, .int (nI b))]) de_M_many_16 (by decide) rfl ?_
      refine ab_goto (tgt := 4) de_M_many_17 rfl ?_
      refine ab_sub (L' := [(0, .ref 30), (1, .int (nI b)), (2, .int (nI (n + 1))), (3, .int (nI (x &&& (x - 1))))]) [2, 3, 1, 0] rfl ?_
      exact ih (x &&& (x - 1)) (n + 1) (by omega) (by omega) (by omega)
set_option maxHeartbeats 1000000 in
set_option maxRecDepth 10000 in
theorem ct_M_many (l : Launch) (d : Nat) (M : ab_Me) {b : Nat} (hb : b < 4096) : ab_C l am_M_many d 0 0 [.ref 30, .int (nI b)] M (fun (r_ : Option Value) (M' : ab_Me) => r_ = some (.int (nI (sp_cn b))) ∧ M' = M) := by
  refine ab_C_of (by decide +kernel) rfl (Nat.le_of_ble_eq_true rfl) ?_
  refine ab_iconst (v := 0) de_M_many_0 rfl ?_
  refine ab_istore_n (L' := [(2, .int (0 : Int32)), (0, .ref 30), (1, .int (nI b))]) de_M_many_1 (by decide) rfl ?_
  refine ab_iload_n de_M_many_2 2 rfl ?_
  refine ab_istore_n (L' := [(3, .int (nI b)), (2, .int (0 : Int32)), (0, .ref 30), (1, .int (nI b))]) de_M_many_3 (by decide) rfl ?_
  refine ab_sub (L' := [(0, .ref 30), (1, .int (nI b)), (2, .int (nI 0)), (3, .int (nI b))]) [2, 3, 1, 0] rfl ?_
  exact lp_M_many l d M (b + 1) b 0 (by omega) hb (by omega)
def md_lw (b : Nat) : Nat := if b.testBit 0 then 0 else if b.testBit 1 then 1 else 2
theorem md_lw_a : ∀ b, b < 8 → ¬ b = 0 → (b.testBit 0 = false → b.testBit 1 = false → b.testBit 2 = true) := by decide
set_option maxHeartbeats 1000000 in
set_option maxRecDepth 10000 in
theorem lp_M_lowest (l : Launch) (d : Nat) (M : ab_Me) {b : Nat} (hb : b < 8) (b0 : ¬ b = 0) : ∀ fu_ k, k ≤ 2 → 3 < k + fu_ → (∀ j, j < k → b.testBit j = false) → ab_G l none am_M_lowest d 0 0 2 [(0, .ref 30), (1, .int (nI b)), (2, .int (nI k))] [] M (fun (r_ : Option Value) (M' : ab_Me) => r_ = some (.int (nI (md_lw b))) ∧ M' = M) := by
  intro fu_
  induction fu_ with
  | zero => intro k h1 h2; omega
  | succ fu_ ih =>
    intro k hk2 hfu hk
    refine ab_iload_n de_M_lowest_2 1 rfl ?_
    refine ab_iload_n de_M_lowest_3 2 rfl ?_
    refine ab_ishr de_M_lowest_4 ?_
    refine ab_top (v' := nI (b >>> k)) (ab_shr (by omega) (by omega)) ?_
    refine ab_iconst (v := 1) de_M_lowest_5 rfl ?_
    refine ab_iand de_M_lowest_6 ?_
    refine ab_top (v' := nI (b.testBit k).toNat) ((ab_and _ 1).trans (congrArg nI (sp_bit1 _ _))) ?_
    refine ab_if_ne (tgt := 16) de_M_lowest_7 rfl (fun c_7_1 => ?_) (fun c_7_1 => ?_)
    · refine ab_iload_n de_M_lowest_16 2 rfl ?_
      exact ab_ret (v := some (.int (nI k))) de_M_lowest_17 ⟨_, rfl⟩ ⟨congrArg (fun z => some (Value.int z)) (congrArg nI (by
    unfold md_lw
    rcases (by omega : k = 0 ∨ k = 1 ∨ k = 2) with z_ | z_ | z_ <;> subst z_
    · rw [if_pos (ts_f c_7_1)]
    · rw [if_neg (by rw [hk 0 (by omega)]; decide), if_pos (ts_f c_7_1)]
    · rw [if_neg (by rw [hk 0 (by omega)]; decide), if_neg (by rw [hk 1 (by omega)]; decide)])), rfl⟩
    · refine ab_iinc (v := nI (k + 1)) (L' := [(2, .int (nI (k + 1))), (0, .ref 30), (1, .int (nI b))]) de_M_lowest_10 2 rfl (by rw [show Int32.ofInt 1 = nI 1 from rfl, ab_add]) (by decide) rfl ?_
      refine ab_goto (tgt := 2) de_M_lowest_13 rfl ?_
      refine ab_sub (L' := [(0, .ref 30), (1, .int (nI b)), (2, .int (nI (k + 1)))]) [1, 2, 0] rfl ?_
      have k2_ : k < 2 := by
        rcases (by omega : k = 0 ∨ k = 1 ∨ k = 2) with z_ | z_ | z_
        · omega
        · omega
        · subst z_
          have y_ := md_lw_a b hb b0 (hk 0 (by omega)) (hk 1 (by omega))
          rw [(sp_b0 _).mp c_7_1] at y_
          cases y_
      exact ih (k + 1) (by omega) (by omega) (fun j hj => by
        by_cases q : j = k
        · rw [q]; exact (sp_b0 _).mp c_7_1
        · exact hk j (by omega))
set_option maxHeartbeats 1000000 in
set_option maxRecDepth 10000 in
theorem ct_M_lowest (l : Launch) (d : Nat) (M : ab_Me) {b : Nat} (hb : b < 8) (b0 : ¬ b = 0) : ab_C l am_M_lowest d 0 0 [.ref 30, .int (nI b)] M (fun (r_ : Option Value) (M' : ab_Me) => r_ = some (.int (nI (md_lw b))) ∧ M' = M) := by
  refine ab_C_of (by decide +kernel) rfl (Nat.le_of_ble_eq_true rfl) ?_
  refine ab_iconst (v := 0) de_M_lowest_0 rfl ?_
  refine ab_istore_n (L' := [(2, .int (0 : Int32)), (0, .ref 30), (1, .int (nI b))]) de_M_lowest_1 (by decide) rfl ?_
  refine ab_sub (L' := [(0, .ref 30), (1, .int (nI b)), (2, .int (nI 0))]) [1, 2, 0] rfl ?_
  exact lp_M_lowest l d M hb b0 4 0 (by omega) (by omega) (fun j hj => absurd hj (Nat.not_lt_zero j))
set_option maxHeartbeats 1000000 in
set_option maxRecDepth 10000 in
theorem ct_M_endOf (l : Launch) (d : Nat) (M : ab_Me) {c : Nat} (hc : c < 4096) : ab_C l am_M_endOf d 0 0 [.ref 30, .int (nI c)] M (fun (r_ : Option Value) (M' : ab_Me) => r_ = some (.int (nI (c / 1024))) ∧ M' = M) := by
  refine ab_C_of (by decide +kernel) rfl (Nat.le_of_ble_eq_true rfl) ?_
  refine ab_iload_n de_M_endOf_0 1 rfl ?_
  refine ab_bipush (v := 10) de_M_endOf_1 rfl ?_
  refine ab_ishr de_M_endOf_3 ?_
  refine ab_iconst (v := 3) de_M_endOf_4 rfl ?_
  refine ab_iand de_M_endOf_5 ?_
  exact ab_ret (v := some (.int (((nI c) >>> ((10 : Int32) &&& (31 : Int32))) &&& (3 : Int32)))) de_M_endOf_6 ⟨_, rfl⟩ ⟨congrArg (fun z => some (Value.int z)) ((bo_few hc).trans (by rw [Nat.mod_eq_of_lt (by omega)])), rfl⟩
set_option maxHeartbeats 1000000 in
set_option maxRecDepth 10000 in
theorem ct_M_partsOf (l : Launch) (d : Nat) (nr : Nat) (h : Nat → Nat → Int32) (g : Nat → Nat → Int64) (rr : Nat → Option Nat) {c : Nat} (hc : c < 4096) : ab_C l am_M_partsOf (d + 1) 0 0 [.ref 30, .int (nI c)] (ab_S nr h g rr) (fun (r_ : Option Value) (M' : ab_Me) => r_ = some (.int (nI (sp_pc c))) ∧ M' = (ab_S nr h g rr)) := by
  refine ab_C_of (by decide +kernel) rfl (Nat.le_of_ble_eq_true rfl) ?_
  refine ab_aload_n de_M_partsOf_0 0 rfl ?_
  refine ab_iload_n de_M_partsOf_1 1 rfl ?_
  refine ab_sipush (v := 1023) de_M_partsOf_2 rfl ?_
  refine ab_iand de_M_partsOf_5 ?_
  refine ab_top (v' := nI (c &&& 1023)) (ab_and _ _) ?_
  refine ab_cV (as := [.int (nI (c &&& 1023))]) (st := []) (ct_M_many l _ (ab_S nr h g rr) (b := (c &&& 1023)) (Nat.lt_of_le_of_lt Nat.and_le_left hc)) mo_M_many mi_M_many ml_M_101 rfl (by decide) rfl rfl rfl (Nat.le_of_ble_eq_true rfl) de_M_partsOf_6 (fun v_ M_ hK_ hl_ hv_ => ?_)
  obtain ⟨rfl, hm_⟩ := hK_
  have hm_ := hm_.symm
  subst hm_
  change ab_G _ _ _ _ _ _ _ [(0, .ref 30), (1, .int (nI c))] [.int (nI (sp_cn (c &&& 1023)))] (ab_S nr h g rr) _
  refine ab_aload_n de_M_partsOf_9 0 rfl ?_
  refine ab_iload_n de_M_partsOf_10 1 rfl ?_
  refine ab_cV (as := [.int (nI c)]) (st := [.int (nI (sp_cn (c &&& 1023)))]) (ct_M_endOf l _ (ab_S nr h g rr) (c := c) hc) mo_M_endOf mi_M_endOf ml_M_104 rfl (by decide) rfl rfl rfl (Nat.le_of_ble_eq_true rfl) de_M_partsOf_11 (fun v_ M_ hK_ hl_ hv_ => ?_)
  obtain ⟨rfl, hm_⟩ := hK_
  have hm_ := hm_.symm
  subst hm_
  change ab_G _ _ _ _ _ _ _ [(0, .ref 30), (1, .int (nI c))] [.int (nI (c / 1024)), .int (nI (sp_cn (c &&& 1023)))] (ab_S nr h g rr) _
  refine ab_if_le (tgt := 21) de_M_partsOf_14 rfl (fun c_14_1 => ?_) (fun c_14_1 => ?_)
  · refine ab_iconst (v := 0) de_M_partsOf_21 rfl ?_
    refine ab_iadd de_M_partsOf_22 ?_
    exact ab_ret (v := some (.int ((nI (sp_cn (c &&& 1023))) + (0 : Int32)))) de_M_partsOf_23 ⟨_, rfl⟩ ⟨congrArg (fun z => some (Value.int z)) (by unfold sp_pc; rw [if_pos (by have := (ab_le0 (by omega)).mp c_14_1; omega)]; exact ab_add _ 0), rfl⟩
  · refine ab_iconst (v := 1) de_M_partsOf_17 rfl ?_
    refine ab_goto (tgt := 22) de_M_partsOf_18 rfl ?_
    refine ab_iadd de_M_partsOf_22 ?_
    exact ab_ret (v := some (.int ((nI (sp_cn (c &&& 1023))) + (1 : Int32)))) de_M_partsOf_23 ⟨_, rfl⟩ ⟨congrArg (fun z => some (Value.int z)) (by unfold sp_pc; rw [if_neg (fun z => c_14_1 ((ab_le0 (by omega)).mpr (by omega)))]; exact ab_add _ 1), rfl⟩
set_option maxHeartbeats 1000000 in
set_option maxRecDepth 10000 in
theorem ct_M_kindOf (l : Launch) (d : Nat) (nr : Nat) (h : Nat → Nat → Int32) (g : Nat → Nat → Int64) (rr : Nat → Option Nat) {c : Nat} (hc : c < 4096) (hc1 : 1 ≤ c) : ab_C l am_M_kindOf (d + 2) 0 0 [.ref 30, .int (nI c)] (ab_S nr h g rr) (fun (r_ : Option Value) (M' : ab_Me) => r_ = some (.int (nI (sp_kd c))) ∧ M' = (ab_S nr h g rr)) := by
  refine ab_C_of (by decide +kernel) rfl (Nat.le_of_ble_eq_true rfl) ?_
  refine ab_aload_n de_M_kindOf_0 0 rfl ?_
  refine ab_iload_n de_M_kindOf_1 1 rfl ?_
  refine ab_cV (as := [.int (nI c)]) (st := []) (ct_M_partsOf l _ nr h g rr (c := c) hc) mo_M_partsOf mi_M_partsOf ml_M_107 rfl (by decide) rfl rfl rfl (Nat.le_of_ble_eq_true rfl) de_M_kindOf_2 (fun v_ M_ hK_ hl_ hv_ => ?_)
  obtain ⟨rfl, hm_⟩ := hK_
  have hm_ := hm_.symm
  subst hm_
  change ab_G _ _ _ _ _ _ _ [(0, .ref 30), (1, .int (nI c))] [.int (nI (sp_pc c))] (ab_S nr h g rr) _
  refine ab_iconst (v := 1) de_M_kindOf_5 rfl ?_
  refine ab_icmp_le (tgt := 12) de_M_kindOf_6 rfl (fun c_6_1 => ?_) (fun c_6_1 => ?_)
  · refine ab_iload_n de_M_kindOf_12 1 rfl ?_
    refine ab_bipush (v := 7) de_M_kindOf_13 rfl ?_
    refine ab_iand de_M_kindOf_15 ?_
    refine ab_top (v' := nI (c &&& 7)) (ab_and _ _) ?_
    refine ab_if_eq (tgt := 21) de_M_kindOf_16 rfl (fun c_16_2 => ?_) (fun c_16_2 => ?_)
    · refine ab_iload_n de_M_kindOf_21 1 rfl ?_
      refine ab_bipush (v := 56) de_M_kindOf_22 rfl ?_
      refine ab_iand de_M_kindOf_24 ?_
      refine ab_top (v' := nI (c &&& 56)) (ab_and _ _) ?_
      refine ab_if_eq (tgt := 30) de_M_kindOf_25 rfl (fun c_25_3 => ?_) (fun c_25_3 => ?_)
      · refine ab_iload_n de_M_kindOf_30 1 rfl ?_
        refine ab_bipush (v := 64) de_M_kindOf_31 rfl ?_
        refine ab_iand de_M_kindOf_33 ?_
        refine ab_top (v' := nI (c &&& 64)) (ab_and _ _) ?_
        refine ab_if_eq (tgt := 39) de_M_kindOf_34 rfl (fun c_34_4 => ?_) (fun c_34_4 => ?_)
        · refine ab_iload_n de_M_kindOf_39 1 rfl ?_
          refine ab_sipush (v := 128) de_M_kindOf_40 rfl ?_
          refine ab_iand de_M_kindOf_43 ?_
          refine ab_top (v' := nI (c &&& 128)) (ab_and _ _) ?_
          refine ab_if_eq (tgt := 49) de_M_kindOf_44 rfl (fun c_44_5 => ?_) (fun c_44_5 => ?_)
          · refine ab_iload_n de_M_kindOf_49 1 rfl ?_
            refine ab_sipush (v := 256) de_M_kindOf_50 rfl ?_
            refine ab_iand de_M_kindOf_53 ?_
            refine ab_top (v' := nI (c &&& 256)) (ab_and _ _) ?_
            refine ab_if_eq (tgt := 61) de_M_kindOf_54 rfl (fun c_54_6 => ?_) (fun c_54_6 => ?_)
            · refine ab_bipush (v := 6) de_M_kindOf_61 rfl ?_
              exact ab_ret (v := some (.int (6 : Int32))) de_M_kindOf_63 ⟨_, rfl⟩ ⟨congrArg (fun z => some (Value.int z)) (by rw [md_kd hc1 hc]; unfold md_kt; rw [if_neg (fun z => absurd ((ab_le (b := 1) (by have := sp_pc_le c; omega) (by decide)).mp c_6_1) (by omega)), if_neg (fun z => z ((sp_z (sp_andlt hc)).mp c_16_2)), if_neg (fun z => z ((sp_z (sp_andlt hc)).mp c_25_3)), if_neg (fun z => z ((sp_z (sp_andlt hc)).mp c_34_4)), if_neg (fun z => z ((sp_z (sp_andlt hc)).mp c_44_5)), if_neg (fun z => z ((sp_z (sp_andlt hc)).mp c_54_6))]; rfl), rfl⟩
            · refine ab_iconst (v := 5) de_M_kindOf_57 rfl ?_
              refine ab_goto (tgt := 63) de_M_kindOf_58 rfl ?_
              exact ab_ret (v := some (.int (5 : Int32))) de_M_kindOf_63 ⟨_, rfl⟩ ⟨congrArg (fun z => some (Value.int z)) (by rw [md_kd hc1 hc]; unfold md_kt; rw [if_neg (fun z => absurd ((ab_le (b := 1) (by have := sp_pc_le c; omega) (by decide)).mp c_6_1) (by omega)), if_neg (fun z => z ((sp_z (sp_andlt hc)).mp c_16_2)), if_neg (fun z => z ((sp_z (sp_andlt hc)).mp c_25_3)), if_neg (fun z => z ((sp_z (sp_andlt hc)).mp c_34_4)), if_neg (fun z => z ((sp_z (sp_andlt hc)).mp c_44_5)), if_pos (fun z => c_54_6 (by rw [z]; rfl))]; rfl), rfl⟩
          · refine ab_iconst (v := 4) de_M_kindOf_47 rfl ?_
            exact ab_ret (v := some (.int (4 : Int32))) de_M_kindOf_48 ⟨_, rfl⟩ ⟨congrArg (fun z => some (Value.int z)) (by rw [md_kd hc1 hc]; unfold md_kt; rw [if_neg (fun z => absurd ((ab_le (b := 1) (by have := sp_pc_le c; omega) (by decide)).mp c_6_1) (by omega)), if_neg (fun z => z ((sp_z (sp_andlt hc)).mp c_16_2)), if_neg (fun z => z ((sp_z (sp_andlt hc)).mp c_25_3)), if_neg (fun z => z ((sp_z (sp_andlt hc)).mp c_34_4)), if_pos (fun z => c_44_5 (by rw [z]; rfl))]; rfl), rfl⟩
        · refine ab_iconst (v := 3) de_M_kindOf_37 rfl ?_
          exact ab_ret (v := some (.int (3 : Int32))) de_M_kindOf_38 ⟨_, rfl⟩ ⟨congrArg (fun z => some (Value.int z)) (by rw [md_kd hc1 hc]; unfold md_kt; rw [if_neg (fun z => absurd ((ab_le (b := 1) (by have := sp_pc_le c; omega) (by decide)).mp c_6_1) (by omega)), if_neg (fun z => z ((sp_z (sp_andlt hc)).mp c_16_2)), if_neg (fun z => z ((sp_z (sp_andlt hc)).mp c_25_3)), if_pos (fun z => c_34_4 (by rw [z]; rfl))]; rfl), rfl⟩
      · refine ab_iconst (v := 2) de_M_kindOf_28 rfl ?_
        exact ab_ret (v := some (.int (2 : Int32))) de_M_kindOf_29 ⟨_, rfl⟩ ⟨congrArg (fun z => some (Value.int z)) (by rw [md_kd hc1 hc]; unfold md_kt; rw [if_neg (fun z => absurd ((ab_le (b := 1) (by have := sp_pc_le c; omega) (by decide)).mp c_6_1) (by omega)), if_neg (fun z => z ((sp_z (sp_andlt hc)).mp c_16_2)), if_pos (fun z => c_25_3 (by rw [z]; rfl))]; rfl), rfl⟩
    · refine ab_iconst (v := 1) de_M_kindOf_19 rfl ?_
      exact ab_ret (v := some (.int (1 : Int32))) de_M_kindOf_20 ⟨_, rfl⟩ ⟨congrArg (fun z => some (Value.int z)) (by rw [md_kd hc1 hc]; unfold md_kt; rw [if_neg (fun z => absurd ((ab_le (b := 1) (by have := sp_pc_le c; omega) (by decide)).mp c_6_1) (by omega)), if_pos (fun z => c_16_2 (by rw [z]; rfl))]; rfl), rfl⟩
  · refine ab_bipush (v := 7) de_M_kindOf_9 rfl ?_
    exact ab_ret (v := some (.int (7 : Int32))) de_M_kindOf_11 ⟨_, rfl⟩ ⟨congrArg (fun z => some (Value.int z)) (by rw [md_kd hc1 hc]; unfold md_kt; rw [if_pos (Nat.lt_of_not_le (fun z => c_6_1 ((ab_le (b := 1) (by have := sp_pc_le c; omega) (by decide)).mpr z)))]; rfl), rfl⟩
set_option maxHeartbeats 1000000 in
set_option maxRecDepth 10000 in
theorem ct_M_priceOf (l : Launch) (d : Nat) (nr : Nat) (h : Nat → Nat → Int32) (g : Nat → Nat → Int64) (rr : Nat → Option Nat) {c : Nat} (hc : c < 4096) : ab_C l am_M_priceOf (d + 1) 0 0 [.ref 30, .int (nI c)] (ab_S nr h g rr) (fun (r_ : Option Value) (M' : ab_Me) => r_ = some (.int (nI (sp_pr c))) ∧ M' = (ab_S nr h g rr)) := by
  refine ab_C_of (by decide +kernel) rfl (Nat.le_of_ble_eq_true rfl) ?_
  refine ab_iconst (v := 2) de_M_priceOf_0 rfl ?_
  refine ab_aload_n de_M_priceOf_1 0 rfl ?_
  refine ab_iload_n de_M_priceOf_2 1 rfl ?_
  refine ab_bipush (v := 7) de_M_priceOf_3 rfl ?_
  refine ab_iand de_M_priceOf_5 ?_
  refine ab_top (v' := nI (c &&& 7)) (ab_and _ _) ?_
  refine ab_cV (as := [.int (nI (c &&& 7))]) (st := [.int (2 : Int32)]) (ct_M_many l _ (ab_S nr h g rr) (b := (c &&& 7)) (Nat.lt_of_le_of_lt Nat.and_le_left hc)) mo_M_many mi_M_many ml_M_101 rfl (by decide) rfl rfl rfl (Nat.le_of_ble_eq_true rfl) de_M_priceOf_6 (fun v_ M_ hK_ hl_ hv_ => ?_)
  obtain ⟨rfl, hm_⟩ := hK_
  have hm_ := hm_.symm
  subst hm_
  change ab_G _ _ _ _ _ _ _ [(0, .ref 30), (1, .int (nI c))] [.int (nI (sp_cn (c &&& 7))), .int (2 : Int32)] (ab_S nr h g rr) _
  refine ab_imul de_M_priceOf_9 ?_
  refine ab_top (v' := nI (2 * (sp_cn (c &&& 7)))) (ab_mul _ _) ?_
  refine ab_iconst (v := 3) de_M_priceOf_10 rfl ?_
  refine ab_aload_n de_M_priceOf_11 0 rfl ?_
  refine ab_iload_n de_M_priceOf_12 1 rfl ?_
  refine ab_iconst (v := 3) de_M_priceOf_13 rfl ?_
  refine ab_ishr de_M_priceOf_14 ?_
  refine ab_top (v' := nI (c >>> 3)) (ab_shr (k := 3) (by omega) (by decide)) ?_
  refine ab_bipush (v := 7) de_M_priceOf_15 rfl ?_
  refine ab_iand de_M_priceOf_17 ?_
  refine ab_top (v' := nI ((c >>> 3) &&& 7)) (ab_and _ _) ?_
  refine ab_cV (as := [.int (nI ((c >>> 3) &&& 7))]) (st := [.int (3 : Int32), .int (nI (2 * (sp_cn (c &&& 7))))]) (ct_M_many l _ (ab_S nr h g rr) (b := ((c >>> 3) &&& 7)) (Nat.lt_of_le_of_lt (Nat.and_le_right) (by decide))) mo_M_many mi_M_many ml_M_101 rfl (by decide) rfl rfl rfl (Nat.le_of_ble_eq_true rfl) de_M_priceOf_18 (fun v_ M_ hK_ hl_ hv_ => ?_)
  obtain ⟨rfl, hm_⟩ := hK_
  have hm_ := hm_.symm
  subst hm_
  change ab_G _ _ _ _ _ _ _ [(0, .ref 30), (1, .int (nI c))] [.int (nI (sp_cn ((c >>> 3) &&& 7))), .int (3 : Int32), .int (nI (2 * (sp_cn (c &&& 7))))] (ab_S nr h g rr) _
  refine ab_imul de_M_priceOf_21 ?_
  refine ab_top (v' := nI (3 * (sp_cn ((c >>> 3) &&& 7)))) (ab_mul _ _) ?_
  refine ab_iadd de_M_priceOf_22 ?_
  refine ab_top (v' := nI ((2 * (sp_cn (c &&& 7))) + (3 * (sp_cn ((c >>> 3) &&& 7))))) (ab_add _ _) ?_
  refine ab_iconst (v := 2) de_M_priceOf_23 rfl ?_
  refine ab_iload_n de_M_priceOf_24 1 rfl ?_
  refine ab_bipush (v := 6) de_M_priceOf_25 rfl ?_
  refine ab_ishr de_M_priceOf_27 ?_
  refine ab_top (v' := nI (c >>> 6)) (ab_shr (k := 6) (by omega) (by decide)) ?_
  refine ab_iconst (v := 1) de_M_priceOf_28 rfl ?_
  refine ab_iand de_M_priceOf_29 ?_
  refine ab_top (v' := nI (c.testBit 6).toNat) ((ab_and _ 1).trans (congrArg nI (sp_bit1 _ _))) ?_
  refine ab_imul de_M_priceOf_30 ?_
  refine ab_top (v' := nI (2 * (c.testBit 6).toNat)) (ab_mul _ _) ?_
  refine ab_iadd de_M_priceOf_31 ?_
  refine ab_top (v' := nI (((2 * (sp_cn (c &&& 7))) + (3 * (sp_cn ((c >>> 3) &&& 7)))) + (2 * (c.testBit 6).toNat))) (ab_add _ _) ?_
  refine ab_iload_n de_M_priceOf_32 1 rfl ?_
  refine ab_bipush (v := 7) de_M_priceOf_33 rfl ?_
  refine ab_ishr de_M_priceOf_35 ?_
  refine ab_top (v' := nI (c >>> 7)) (ab_shr (k := 7) (by omega) (by decide)) ?_
  refine ab_iconst (v := 1) de_M_priceOf_36 rfl ?_
  refine ab_iand de_M_priceOf_37 ?_
  refine ab_top (v' := nI (c.testBit 7).toNat) ((ab_and _ 1).trans (congrArg nI (sp_bit1 _ _))) ?_
  refine ab_iadd de_M_priceOf_38 ?_
  refine ab_top (v' := nI ((((2 * (sp_cn (c &&& 7))) + (3 * (sp_cn ((c >>> 3) &&& 7)))) + (2 * (c.testBit 6).toNat)) + (c.testBit 7).toNat)) (ab_add _ _) ?_
  refine ab_iload_n de_M_priceOf_39 1 rfl ?_
  refine ab_bipush (v := 8) de_M_priceOf_40 rfl ?_
  refine ab_ishr de_M_priceOf_42 ?_
  refine ab_top (v' := nI (c >>> 8)) (ab_shr (k := 8) (by omega) (by decide)) ?_
  refine ab_iconst (v := 1) de_M_priceOf_43 rfl ?_
  refine ab_iand de_M_priceOf_44 ?_
  refine ab_top (v' := nI (c.testBit 8).toNat) ((ab_and _ 1).trans (congrArg nI (sp_bit1 _ _))) ?_
  refine ab_iadd de_M_priceOf_45 ?_
  refine ab_top (v' := nI (((((2 * (sp_cn (c &&& 7))) + (3 * (sp_cn ((c >>> 3) &&& 7)))) + (2 * (c.testBit 6).toNat)) + (c.testBit 7).toNat) + (c.testBit 8).toNat)) (ab_add _ _) ?_
  refine ab_iload_n de_M_priceOf_46 1 rfl ?_
  refine ab_bipush (v := 9) de_M_priceOf_47 rfl ?_
  refine ab_ishr de_M_priceOf_49 ?_
  refine ab_top (v' := nI (c >>> 9)) (ab_shr (k := 9) (by omega) (by decide)) ?_
  refine ab_iconst (v := 1) de_M_priceOf_50 rfl ?_
  refine ab_iand de_M_priceOf_51 ?_
  refine ab_top (v' := nI (c.testBit 9).toNat) ((ab_and _ 1).trans (congrArg nI (sp_bit1 _ _))) ?_
  refine ab_iadd de_M_priceOf_52 ?_
  refine ab_top (v' := nI ((((((2 * (sp_cn (c &&& 7))) + (3 * (sp_cn ((c >>> 3) &&& 7)))) + (2 * (c.testBit 6).toNat)) + (c.testBit 7).toNat) + (c.testBit 8).toNat) + (c.testBit 9).toNat)) (ab_add _ _) ?_
  refine ab_aload_n de_M_priceOf_53 0 rfl ?_
  refine ab_iload_n de_M_priceOf_54 1 rfl ?_
  refine ab_cV (as := [.int (nI c)]) (st := [.int (nI ((((((2 * (sp_cn (c &&& 7))) + (3 * (sp_cn ((c >>> 3) &&& 7)))) + (2 * (c.testBit 6).toNat)) + (c.testBit 7).toNat) + (c.testBit 8).toNat) + (c.testBit 9).toNat))]) (ct_M_endOf l _ (ab_S nr h g rr) (c := c) hc) mo_M_endOf mi_M_endOf ml_M_104 rfl (by decide) rfl rfl rfl (Nat.le_of_ble_eq_true rfl) de_M_priceOf_55 (fun v_ M_ hK_ hl_ hv_ => ?_)
  obtain ⟨rfl, hm_⟩ := hK_
  have hm_ := hm_.symm
  subst hm_
  change ab_G _ _ _ _ _ _ _ [(0, .ref 30), (1, .int (nI c))] [.int (nI (c / 1024)), .int (nI ((((((2 * (sp_cn (c &&& 7))) + (3 * (sp_cn ((c >>> 3) &&& 7)))) + (2 * (c.testBit 6).toNat)) + (c.testBit 7).toNat) + (c.testBit 8).toNat) + (c.testBit 9).toNat))] (ab_S nr h g rr) _
  refine ab_if_le (tgt := 65) de_M_priceOf_58 rfl (fun c_58_1 => ?_) (fun c_58_1 => ?_)
  · refine ab_iconst (v := 0) de_M_priceOf_65 rfl ?_
    refine ab_iadd de_M_priceOf_66 ?_
    refine ab_top (v' := nI (((((((2 * (sp_cn (c &&& 7))) + (3 * (sp_cn ((c >>> 3) &&& 7)))) + (2 * (c.testBit 6).toNat)) + (c.testBit 7).toNat) + (c.testBit 8).toNat) + (c.testBit 9).toNat) + 0)) (ab_add _ _) ?_
    exact ab_ret (v := some (.int (nI (((((((2 * (sp_cn (c &&& 7))) + (3 * (sp_cn ((c >>> 3) &&& 7)))) + (2 * (c.testBit 6).toNat)) + (c.testBit 7).toNat) + (c.testBit 8).toNat) + (c.testBit 9).toNat) + 0)))) de_M_priceOf_67 ⟨_, rfl⟩ ⟨congrArg (fun z => some (Value.int z)) (by rw [md_pr hc]; unfold md_pt; rw [if_pos (by have := (ab_le0 (by omega)).mp c_58_1; omega)]), rfl⟩
  · refine ab_iconst (v := 2) de_M_priceOf_61 rfl ?_
    refine ab_goto (tgt := 66) de_M_priceOf_62 rfl ?_
    refine ab_iadd de_M_priceOf_66 ?_
    refine ab_top (v' := nI (((((((2 * (sp_cn (c &&& 7))) + (3 * (sp_cn ((c >>> 3) &&& 7)))) + (2 * (c.testBit 6).toNat)) + (c.testBit 7).toNat) + (c.testBit 8).toNat) + (c.testBit 9).toNat) + 2)) (ab_add _ _) ?_
    exact ab_ret (v := some (.int (nI (((((((2 * (sp_cn (c &&& 7))) + (3 * (sp_cn ((c >>> 3) &&& 7)))) + (2 * (c.testBit 6).toNat)) + (c.testBit 7).toNat) + (c.testBit 8).toNat) + (c.testBit 9).toNat) + 2)))) de_M_priceOf_67 ⟨_, rfl⟩ ⟨congrArg (fun z => some (Value.int z)) (by rw [md_pr hc]; unfold md_pt; rw [if_neg (fun z => c_58_1 ((ab_le0 (by omega)).mpr (by omega)))]), rfl⟩
