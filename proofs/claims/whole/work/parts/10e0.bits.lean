/-! masks with a bit set or cleared; a state as bits -/
def sp_clr (m q : Nat) : Nat := m &&& (4095 ^^^ 2 ^ q)
def sp_set (m q : Nat) : Nat := m ||| 2 ^ q
theorem sp_4095b (j : Nat) : (4095 : Nat).testBit j = decide (j < 12) := Nat.testBit_two_pow_sub_one 12 j
theorem sp_clr_bit {m : Nat} (hm : m < 4096) (q j : Nat) : (sp_clr m q).testBit j = (m.testBit j && !decide (q = j)) := by
  unfold sp_clr
  rw [Nat.testBit_and, Nat.testBit_xor, sp_4095b, Nat.testBit_two_pow]
  by_cases h : j < 12
  · simp [h]
  · rw [sp_bit12 hm (by omega)]
    simp
theorem sp_set_bit (m q j : Nat) : (sp_set m q).testBit j = (m.testBit j || decide (q = j)) := by
  unfold sp_set
  rw [Nat.testBit_or, Nat.testBit_two_pow]
theorem sp_clr_lt {m : Nat} (hm : m < 4096) (q : Nat) : sp_clr m q < 4096 := sp_andlt hm
theorem sp_set_lt {m q : Nat} (hm : m < 4096) (hq : q < 12) : sp_set m q < 4096 := Nat.or_lt_two_pow (n := 12) hm (Nat.pow_lt_pow_right (by decide) hq)
theorem sp_ea_bit {a b t : Nat} (ha : a < 4096) (hb : b < 4096) (ht : t < 2) (j : Nat) : (a + 4096 * b + 16777216 * t).testBit j = if j < 12 then a.testBit j else if j < 24 then b.testBit (j - 12) else decide (j = 24 ∧ t = 1) := by
  rw [show a + 4096 * b + 16777216 * t = 2 ^ 12 * (2 ^ 12 * t + b) + a by omega, Nat.testBit_two_pow_mul_add _ ha]
  by_cases h1 : j < 12
  · rw [if_pos h1, if_pos h1]
  · rw [if_neg h1, if_neg h1, Nat.testBit_two_pow_mul_add _ hb]
    by_cases h2 : j < 24
    · rw [if_pos (by omega), if_pos h2]
    · rw [if_neg (by omega), if_neg h2]
      rcases (by omega : t = 0 ∨ t = 1) with rfl | rfl
      · simp
      · rw [show (1 : Nat) = 2 ^ 0 from rfl, Nat.testBit_two_pow]
        apply decide_eq_decide.mpr
        omega
theorem sp_en_bit {m i t : Nat} (hm : m < 4096) (hi : i < 4096) (ht : t < 2) (j : Nat) : (sp_en m i t).testBit j = if j < 12 then (if t = 0 then m else i).testBit j else if j < 24 then (if t = 0 then i else m).testBit (j - 12) else decide (j = 24 ∧ t = 1) := by
  rcases (by omega : t = 0 ∨ t = 1) with rfl | rfl
  · have h := sp_ea_bit hm hi (t := 0) (by omega) j
    rw [show m + 4096 * i + 16777216 * 0 = sp_en m i 0 by simp [sp_en]] at h
    rw [h]
    simp
  · have h := sp_ea_bit hi hm (t := 1) (by omega) j
    rw [show i + 4096 * m + 16777216 * 1 = sp_en m i 1 by simp [sp_en]; omega] at h
    rw [h]
    simp
theorem sp_notb {s : Nat} (hs : s < 33554432) (y : Nat) : nI s &&& (nI y ^^^ (-1)) = nI (s &&& (33554431 ^^^ y)) := by
  apply Int32.toBitVec_inj.mp
  show BitVec.ofNat 32 s &&& (BitVec.ofNat 32 y ^^^ BitVec.allOnes 32) = BitVec.ofNat 32 (s &&& (33554431 ^^^ y))
  apply BitVec.eq_of_getLsbD_eq
  intro j hj
  simp only [BitVec.getLsbD_and, BitVec.getLsbD_xor, BitVec.getLsbD_allOnes, BitVec.getLsbD_ofNat, hj, decide_true, Bool.true_and, Nat.testBit_xor, Nat.testBit_and]
  rw [show (33554431 : Nat) = 2 ^ 25 - 1 from rfl, Nat.testBit_two_pow_sub_one]
  by_cases h : j < 25
  · simp [h]
  · rw [Nat.testBit_lt_two_pow (Nat.lt_of_lt_of_le hs (Nat.pow_le_pow_right (n := 2) (by decide) (by omega : 25 ≤ j)))]
    simp
/-- who is on a point: 1 the TURN, 2 the other, 0 nobody; and the number that the class has for it -/
def sp_who (m i p : Nat) : Nat := if m.testBit p then 1 else if i.testBit p then 2 else 0
def sp_wv (w t : Nat) : Nat := if w = 0 then 0 else if w = 1 then 1 + t else 2 - t
def sp_wi (s p v : Nat) : Nat := ((s &&& (33554431 ^^^ (2 ^ p ||| 2 ^ (12 + p)))) ||| (v % 2) <<< p) ||| (v / 2 % 2) <<< (12 + p)
theorem sp_wi_en {m i t p w : Nat} (hm : m < 4096) (hi : i < 4096) (ht : t < 2) (hp : p < 12) (hw : w < 3) : sp_wi (sp_en m i t) p (sp_wv w t) = sp_en (if w = 1 then sp_set m p else sp_clr m p) (if w = 2 then sp_set i p else sp_clr i p) t := by
  have hm2 : (if w = 1 then sp_set m p else sp_clr m p) < 4096 := by
    split
    · exact sp_set_lt hm hp
    · exact sp_clr_lt hm p
  have hi2 : (if w = 2 then sp_set i p else sp_clr i p) < 4096 := by
    split
    · exact sp_set_lt hi hp
    · exact sp_clr_lt hi p
  apply Nat.eq_of_testBit_eq
  intro j
  rw [sp_en_bit hm2 hi2 ht]
  unfold sp_wi
  rw [Nat.testBit_or, Nat.testBit_or, Nat.testBit_and, Nat.testBit_xor, Nat.testBit_or, Nat.testBit_two_pow, Nat.testBit_two_pow, sp_en_bit hm hi ht, show (33554431 : Nat) = 2 ^ 25 - 1 from rfl, Nat.testBit_two_pow_sub_one]
  have e0 : ∀ k, ((0 : Nat) <<< k).testBit j = false := fun k => by rw [Nat.zero_shiftLeft, Nat.zero_testBit]
  have e1 : ∀ k, ((1 : Nat) <<< k).testBit j = decide (k = j) := fun k => by rw [Nat.one_shiftLeft, Nat.testBit_two_pow]
  have key : ∀ (A B : Bool) (a b : Nat), a < 4096 → b < 4096 →
      (((if j < 12 then a.testBit j else if j < 24 then b.testBit (j - 12) else decide (j = 24 ∧ t = 1)) && (decide (j < 25) ^^ (decide (p = j) || decide (12 + p = j))) || (A && decide (p = j))) || (B && decide (12 + p = j))) =
      if j < 12 then (if A then sp_set a p else sp_clr a p).testBit j else if j < 24 then (if B then sp_set b p else sp_clr b p).testBit (j - 12) else decide (j = 24 ∧ t = 1) := by
    intro A B a b ha hb
    have c1 : (if A then sp_set a p else sp_clr a p).testBit j = ((a.testBit j && !decide (p = j)) || (A && decide (p = j))) := by
      cases A
      · simp [sp_clr_bit ha]
      · simp only [if_true, sp_set_bit, Bool.true_and]
        cases a.testBit j <;> cases decide (p = j) <;> rfl
    have c2 : (if B then sp_set b p else sp_clr b p).testBit (j - 12) = ((b.testBit (j - 12) && !decide (p = j - 12)) || (B && decide (p = j - 12))) := by
      cases B
      · simp [sp_clr_bit hb]
      · simp only [if_true, sp_set_bit, Bool.true_and]
        cases b.testBit (j - 12) <;> cases decide (p = j - 12) <;> rfl
    rw [c1, c2]
    by_cases h1 : j < 12
    · have n1 : ¬ 12 + p = j := by omega
      simp [h1, n1, show j < 25 by omega]
    · have n1 : ¬ p = j := by omega
      by_cases h2 : j < 24
      · have n2 : decide (12 + p = j) = decide (p = j - 12) := decide_eq_decide.mpr (by omega)
        simp [h1, h2, n1, n2, show j < 25 by omega]
      · have n2 : ¬ 12 + p = j := by omega
        simp [h1, h2, n1, n2]
        intro h3 _
        omega
  rcases (by omega : t = 0 ∨ t = 1) with rfl | rfl <;> rcases (by omega : w = 0 ∨ w = 1 ∨ w = 2) with rfl | rfl | rfl
  · have := key false false m i hm hi
    simpa [sp_wv, e0, e1] using this
  · have := key true false m i hm hi
    simpa [sp_wv, e0, e1] using this
  · have := key false true m i hm hi
    simpa [sp_wv, e0, e1] using this
  · have := key false false i m hi hm
    simpa [sp_wv, e0, e1] using this
  · have := key false true i m hi hm
    simpa [sp_wv, e0, e1] using this
  · have := key true false i m hi hm
    simpa [sp_wv, e0, e1] using this
theorem sp_on_en {m i t p : Nat} (hm : m < 4096) (hi : i < 4096) (ht : t < 2) (hp : p < 12) (hd : ¬ (m.testBit p = true ∧ i.testBit p = true)) : ((sp_en m i t).testBit p).toNat + 2 * ((sp_en m i t).testBit (12 + p)).toNat = sp_wv (sp_who m i p) t := by
  have b1 := sp_en_bit hm hi ht p
  have b2 := sp_en_bit hm hi ht (12 + p)
  rw [if_pos hp] at b1
  rw [if_neg (show ¬ 12 + p < 12 by omega), if_pos (show 12 + p < 24 by omega), show 12 + p - 12 = p by omega] at b2
  rw [b1, b2]
  unfold sp_who
  rcases (by omega : t = 0 ∨ t = 1) with rfl | rfl <;> cases h1 : m.testBit p <;> cases h2 : i.testBit p <;> first | (simp [sp_wv, h1, h2]; done) | (exact absurd ⟨h1, h2⟩ hd) | (exact absurd ⟨rfl, rfl⟩ hd) | simp_all [sp_wv]
theorem sp_who_lt (m i p : Nat) : sp_who m i p < 3 := by
  unfold sp_who
  split
  · decide
  · split <;> decide
theorem sp_wv_lt (w t : Nat) (ht : t < 2) : sp_wv w t < 3 := by
  unfold sp_wv
  split
  · decide
  · split <;> omega
