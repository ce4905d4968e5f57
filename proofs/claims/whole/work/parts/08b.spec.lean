/-! what the game is, in numbers: masks of points below 4096, ties T kind point, codes -/
def sp_or (f : Nat → Nat) : Nat → Nat
  | 0 => 0
  | n + 1 => sp_or f n ||| f n
def sp_any (f : Nat → Bool) : Nat → Bool
  | 0 => false
  | n + 1 => sp_any f n || f n
theorem sp_or_bit (f : Nat → Nat) (i : Nat) : ∀ n, (sp_or f n).testBit i = sp_any (fun j => (f j).testBit i) n
  | 0 => by simp [sp_or, sp_any]
  | n + 1 => by
    rw [sp_or, sp_any, Nat.testBit_or, sp_or_bit f i n]
theorem sp_any_iff (f : Nat → Bool) : ∀ n, sp_any f n = true ↔ ∃ j, j < n ∧ f j = true
  | 0 => by simp [sp_any]
  | n + 1 => by
    rw [sp_any, Bool.or_eq_true, sp_any_iff f n]
    constructor
    · rintro (⟨j, h1, h2⟩ | h)
      · exact ⟨j, by omega, h2⟩
      · exact ⟨n, by omega, h⟩
    · rintro ⟨j, h1, h2⟩
      by_cases h : j = n
      · subst h; exact Or.inr h2
      · exact Or.inl ⟨j, by omega, h2⟩
theorem sp_any_no (f : Nat → Bool) (n : Nat) : sp_any f n = false ↔ ∀ j, j < n → f j = false := by
  rw [← Bool.not_eq_true, sp_any_iff]
  constructor
  · intro h j hj
    cases hf : f j with
    | false => rfl
    | true => exact absurd ⟨j, hj, hf⟩ h
  · rintro h ⟨j, h1, h2⟩
    rw [h j h1] at h2
    cases h2
theorem sp_any_cong {f g : Nat → Bool} : ∀ {n : Nat}, (∀ j, j < n → f j = g j) → sp_any f n = sp_any g n
  | 0, _ => rfl
  | n + 1, h => by rw [sp_any, sp_any, sp_any_cong (fun j hj => h j (by omega)), h n (by omega)]
theorem sp_or_lt {f : Nat → Nat} {w : Nat} : ∀ {n : Nat}, (∀ j, j < n → f j < 2 ^ w) → sp_or f n < 2 ^ w
  | 0, _ => Nat.two_pow_pos w
  | n + 1, h => Nat.or_lt_two_pow (sp_or_lt (fun j hj => h j (by omega))) (h n (by omega))
theorem sp_or_cong {f g : Nat → Nat} : ∀ {n : Nat}, (∀ j, j < n → f j = g j) → sp_or f n = sp_or g n
  | 0, _ => rfl
  | n + 1, h => by rw [sp_or, sp_or, sp_or_cong (fun j hj => h j (by omega)), h n (by omega)]
/-- a mask isn't 0: it has a bit -/
theorem sp_ne0 {x : Nat} (hx : x < 4096) : x ≠ 0 ↔ ∃ i, i < 12 ∧ x.testBit i = true := by
  constructor
  · intro h
    obtain ⟨i, hi⟩ := Nat.exists_testBit_of_ne_zero h
    refine ⟨i, ?_, hi⟩
    rcases Nat.lt_or_ge i 12 with h1 | h1
    · exact h1
    · rw [Nat.testBit_lt_two_pow (Nat.lt_of_lt_of_le hx (Nat.pow_le_pow_right (n := 2) (by decide) h1 : 2 ^ 12 ≤ 2 ^ i))] at hi
      cases hi
  · rintro ⟨i, -, hi⟩ h
    rw [h, Nat.zero_testBit] at hi
    cases hi
theorem sp_bit12 {x i : Nat} (hx : x < 4096) (hi : 12 ≤ i) : x.testBit i = false :=
  Nat.testBit_lt_two_pow (Nat.lt_of_lt_of_le hx (Nat.pow_le_pow_right (n := 2) (by decide) hi : 2 ^ 12 ≤ 2 ^ i))
theorem sp_ext {x y : Nat} (hx : x < 4096) (hy : y < 4096) (h : ∀ i, i < 12 → x.testBit i = y.testBit i) : x = y := by
  apply Nat.eq_of_testBit_eq
  intro i
  rcases Nat.lt_or_ge i 12 with h1 | h1
  · exact h i h1
  · rw [sp_bit12 hx h1, sp_bit12 hy h1]
theorem ab_no_lt (x : Nat) : ab_no x < 4096 := Nat.xor_lt_two_pow (n := 12) (by decide) (Nat.and_lt_two_pow (n := 12) x (by decide))
theorem sp_4095 : ∀ i, i < 12 → (4095 : Nat).testBit i = true := by decide
theorem ab_no_bit (x : Nat) {i : Nat} (hi : i < 12) : (ab_no x).testBit i = !x.testBit i := by
  unfold ab_no
  rw [Nat.testBit_xor, Nat.testBit_and, sp_4095 i hi]
  cases x.testBit i <;> rfl
/-- how many points a mask has -/
def sp_cn (x : Nat) : Nat := (List.range 12).foldl (fun n i => n + (x.testBit i).toNat) 0
/-- a state as the class holds it: the TURN's pieces, the other's, the TURN -/
def sp_en (m i t : Nat) : Nat := if t = 0 then m + 4096 * i else 4096 * m + i + 16777216
theorem sp_en_lt {m i t : Nat} (hm : m < 4096) (hi : i < 4096) : sp_en m i t < 33554432 := by
  unfold sp_en
  split <;> omega
theorem sp_side {m i t : Nat} (hm : m < 4096) (hi : i < 4096) (ht : t < 2) : sp_en m i t / 16777216 = t := by
  unfold sp_en
  split <;> omega
theorem sp_own {m i t : Nat} (hm : m < 4096) (hi : i < 4096) (ht : t < 2) : sp_en m i t / 2 ^ (12 * t) % 4096 = m := by
  unfold sp_en
  split
  · rename_i h
    subst h
    show (m + 4096 * i) / 1 % 4096 = m
    omega
  · have : t = 1 := by omega
    subst this
    show (4096 * m + i + 16777216) / 4096 % 4096 = m
    omega
theorem sp_foe {m i t : Nat} (hm : m < 4096) (hi : i < 4096) (ht : t < 2) : sp_en m i t / 2 ^ (12 * (1 - t)) % 4096 = i := by
  unfold sp_en
  split
  · rename_i h
    subst h
    show (m + 4096 * i) / 4096 % 4096 = i
    omega
  · have : t = 1 := by omega
    subst this
    show (4096 * m + i + 16777216) / 1 % 4096 = i
    omega
theorem sp_4095m (x : Nat) : x &&& 4095 = x % 4096 := Nat.and_two_pow_sub_one_eq_mod x 12
theorem sp_1m (x : Nat) : x &&& 1 = x % 2 := Nat.and_two_pow_sub_one_eq_mod x 1
theorem sp_3m (x : Nat) : x &&& 3 = x % 4 := Nat.and_two_pow_sub_one_eq_mod x 2
theorem sp_15m (x : Nat) : x &&& 15 = x % 16 := Nat.and_two_pow_sub_one_eq_mod x 4
theorem sp_sr (x k : Nat) : x >>> k = x / 2 ^ k := Nat.shiftRight_eq_div_pow x k
theorem sp_bit1 (x k : Nat) : x >>> k &&& 1 = (x.testBit k).toNat := by
  rw [Nat.testBit, Nat.and_comm 1 (x >>> k), Nat.and_one_is_mod]
  rcases Nat.mod_two_eq_zero_or_one (x >>> k) with h | h <;> rw [h] <;> rfl
theorem sp_bitne (x k : Nat) (hx : x < 2 ^ 31) (hk : k < 32) : nI x >>> (nI k &&& 31) &&& 1 = nI (x.testBit k).toNat := by
  rw [ab_shr hx hk, show (1 : Int32) = nI 1 from rfl, ab_and, sp_bit1]
theorem sp_b0 (b : Bool) : nI b.toNat = 0 ↔ b = false := by cases b <;> decide
