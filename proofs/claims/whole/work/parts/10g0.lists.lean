/-! all LAWFUL MOVES as a list; the first best of a list; values by looking ahead -/
def sp_r12 (f : Nat → Bool) (g : Nat → Nat) : Nat → Nat → List Nat
  | 0, _ => []
  | n + 1, q => if f q then g q :: sp_r12 f g n (q + 1) else sp_r12 f g n (q + 1)
def sp_r16 (F : Nat → List Nat) : Nat → Nat → List Nat
  | 0, _ => []
  | n + 1, p => F p ++ sp_r16 F n (p + 1)
def sp_mp (T : Nat → Nat → Nat) (v m i p : Nat) : List Nat := sp_r12 (fun q => (sp_tg T v m i p).testBit q) (fun q => 16 * p + q) 12 0
def sp_ml (T : Nat → Nat → Nat) (v m i : Nat) : List Nat := sp_r16 (sp_mp T v m i) 16 0
theorem sp_r12_t {f : Nat → Bool} {g : Nat → Nat} {q : Nat} (hq : q < 12) (h : f q = true) : sp_r12 f g (12 - q) q = g q :: sp_r12 f g (12 - (q + 1)) (q + 1) := by
  rw [show 12 - q = (12 - (q + 1)) + 1 by omega, sp_r12, if_pos h]
theorem sp_r12_f {f : Nat → Bool} {g : Nat → Nat} {q : Nat} (hq : q < 12) (h : f q = false) : sp_r12 f g (12 - q) q = sp_r12 f g (12 - (q + 1)) (q + 1) := by
  rw [show 12 - q = (12 - (q + 1)) + 1 by omega, sp_r12, if_neg (by rw [h]; decide)]
theorem sp_r12_e {f : Nat → Bool} {g : Nat → Nat} {q : Nat} (hq : 12 ≤ q) : sp_r12 f g (12 - q) q = [] := by
  rw [show 12 - q = 0 by omega, sp_r12]
theorem sp_r16_s {F : Nat → List Nat} {p : Nat} (hp : p < 16) : sp_r16 F (16 - p) p = F p ++ sp_r16 F (16 - (p + 1)) (p + 1) := by
  rw [show 16 - p = (16 - (p + 1)) + 1 by omega, sp_r16]
theorem sp_r16_e {F : Nat → List Nat} {p : Nat} (hp : 16 ≤ p) : sp_r16 F (16 - p) p = [] := by
  rw [show 16 - p = 0 by omega, sp_r16]
/-- the x-th of a list (counted from n), or -1 -/
def sp_fd (x : Int32) : List Nat → Nat → Int32
  | [], _ => -1
  | a :: l, n => if nI n = x then nI a else sp_fd x l (n + 1)
/-- the first of a list with the least f, and that least -/
def sp_bl (f : Nat → Int32) : List Nat → Int32 × Int32 → Int32 × Int32
  | [], b => b
  | a :: l, b => sp_bl f l (if f a < b.2 then (nI a, f a) else b)
theorem sp_bl_1 {f : Nat → Int32} (hf : ∀ x, -1 ≤ f x) (b : Int32) : ∀ l : List Nat, sp_bl f l (b, -1) = (b, -1)
  | [] => rfl
  | a :: l => by
    rw [sp_bl, if_neg (Int32.not_lt.mpr (hf a)), sp_bl_1 hf b l]
def sp_vl (T : Nat → Nat → Nat) (c : Nat) : Nat → Nat → Nat → Int32
  | 0, m, i => if sp_ov T c m i then -1 else 0
  | n + 1, m, i => if sp_ov T c m i then -1 else
      if (sp_bl (fun x => sp_vl T c n (sp_d2 T (sp_lv T c m i) m i x) (sp_d1 T (sp_lv T c m i) m i x)) (sp_ml T (sp_lv T c m i) m i) (-1, 2)).1 = -1 then 0
      else -(sp_bl (fun x => sp_vl T c n (sp_d2 T (sp_lv T c m i) m i x) (sp_d1 T (sp_lv T c m i) m i x)) (sp_ml T (sp_lv T c m i) m i) (-1, 2)).2
def sp_rg (x : Int32) : Prop := x = -1 ∨ x = 0 ∨ x = 1
theorem sp_rg_ge {x : Int32} (h : sp_rg x) : -1 ≤ x := by rcases h with rfl | rfl | rfl <;> decide
theorem sp_nI_ne {a : Nat} (ha : a < 2 ^ 31) : ¬ nI a = -1 := fun h => by
  have h1 := congrArg Int32.toInt h
  rw [nI_toInt ha] at h1
  have h2 : (-1 : Int32).toInt = -1 := rfl
  omega
theorem sp_bl_rg {f : Nat → Int32} (hf : ∀ x, sp_rg (f x)) : ∀ (l : List Nat) (b le : Int32), (∀ a, a ∈ l → a < 2 ^ 31) → (b = -1 ∧ le = 2 ∨ ¬ b = -1 ∧ sp_rg le) → ((sp_bl f l (b, le)).1 = -1 ∧ (sp_bl f l (b, le)).2 = 2 ∨ ¬ (sp_bl f l (b, le)).1 = -1 ∧ sp_rg (sp_bl f l (b, le)).2)
  | [], b, le, _, h => h
  | a :: l, b, le, ha, h => by
    rw [sp_bl]
    dsimp only
    by_cases hc : f a < le
    · rw [if_pos hc]
      exact sp_bl_rg hf l _ _ (fun x hx => ha x (List.mem_cons_of_mem _ hx)) (Or.inr ⟨sp_nI_ne (ha a List.mem_cons_self), hf a⟩)
    · rw [if_neg hc]
      exact sp_bl_rg hf l _ _ (fun x hx => ha x (List.mem_cons_of_mem _ hx)) h
theorem sp_r12_lt {f : Nat → Bool} {p : Nat} (hp : p < 16) : ∀ n q, q + n ≤ 12 → ∀ a, a ∈ sp_r12 f (fun q => 16 * p + q) n q → a < 252 ∨ 252 ≤ a ∧ a < 256
  | 0, q, _, a, h => by cases h
  | n + 1, q, hq, a, h => by
    rw [sp_r12] at h
    split at h
    · rcases List.mem_cons.mp h with rfl | h
      · omega
      · exact sp_r12_lt hp n (q + 1) (by omega) a h
    · exact sp_r12_lt hp n (q + 1) (by omega) a h
theorem sp_r16_mem {F : Nat → List Nat} : ∀ n p a, a ∈ sp_r16 F n p → ∃ k, p ≤ k ∧ k < p + n ∧ a ∈ F k
  | 0, p, a, h => by cases h
  | n + 1, p, a, h => by
    rw [sp_r16] at h
    rcases List.mem_append.mp h with h | h
    · exact ⟨p, Nat.le_refl _, by omega, h⟩
    · obtain ⟨k, h1, h2, h3⟩ := sp_r16_mem n (p + 1) a h
      exact ⟨k, by omega, by omega, h3⟩
theorem sp_ml_lt {T : Nat → Nat → Nat} {v m i a : Nat} (h : a ∈ sp_ml T v m i) : a < 2 ^ 31 := by
  obtain ⟨k, -, h2, h3⟩ := sp_r16_mem 16 0 a h
  rcases sp_r12_lt (p := k) (by omega) 12 0 (by omega) a h3 with h | h <;> omega
theorem sp_vl_rg (T : Nat → Nat → Nat) (c : Nat) : ∀ n m i, sp_rg (sp_vl T c n m i)
  | 0, m, i => by
    rw [sp_vl]
    split
    · exact Or.inl rfl
    · exact Or.inr (Or.inl rfl)
  | n + 1, m, i => by
    rw [sp_vl]
    split
    · exact Or.inl rfl
    · split
      · exact Or.inr (Or.inl rfl)
      · rename_i h
        have hr := sp_bl_rg (f := fun x => sp_vl T c n (sp_d2 T (sp_lv T c m i) m i x) (sp_d1 T (sp_lv T c m i) m i x)) (fun x => sp_vl_rg T c n _ _) (sp_ml T (sp_lv T c m i) m i) (-1) 2 (fun a ha => sp_ml_lt ha) (Or.inl ⟨rfl, rfl⟩)
        rcases hr with hr | hr
        · exact absurd hr.1 h
        · rcases hr.2 with e | e | e <;> rw [e]
          · exact Or.inr (Or.inr rfl)
          · exact Or.inr (Or.inl rfl)
          · exact Or.inl rfl
theorem sp_ov_low {T : Nat → Nat → Nat} {c : Nat} (hc : c < 512) (m i : Nat) : sp_ov T c m i = false := by
  have h1 : sp_few c m = false := by
    unfold sp_few
    rw [decide_eq_false_iff_not]
    omega
  have h2 : c.testBit 9 = false := Nat.testBit_lt_two_pow hc
  rw [sp_ov, h1, h2]
  rfl
theorem sp_bl_zero : ∀ (l : List Nat) (b le : Int32), (le = 2 ∧ b = -1 ∨ le = 0) → (sp_bl (fun _ => 0) l (b, le)).1 = -1 ∨ (sp_bl (fun _ => 0) l (b, le)).2 = 0
  | [], b, le, h => by
    rcases h with h | h
    · exact Or.inl h.2
    · exact Or.inr h
  | a :: l, b, le, h => by
    rw [sp_bl]
    dsimp only
    split
    · exact sp_bl_zero l _ _ (Or.inr rfl)
    · exact sp_bl_zero l _ _ h
theorem sp_vl_low {T : Nat → Nat → Nat} {c : Nat} (hc : c < 512) : ∀ n m i, sp_vl T c n m i = 0
  | 0, m, i => by rw [sp_vl, sp_ov_low hc]; rfl
  | n + 1, m, i => by
    rw [sp_vl, sp_ov_low hc, if_neg (by decide)]
    have e : (fun x => sp_vl T c n (sp_d2 T (sp_lv T c m i) m i x) (sp_d1 T (sp_lv T c m i) m i x)) = fun _ => 0 := funext fun x => sp_vl_low hc n _ _
    rw [e]
    rcases sp_bl_zero (sp_ml T (sp_lv T c m i) m i) (-1) 2 (Or.inl ⟨rfl, rfl⟩) with h | h
    · rw [if_pos h]
    · split
      · rfl
      · rw [h]; rfl
/-- moves keep masks apart -/
theorem sp_d1_lt {T : Nat → Nat → Nat} {v m i x : Nat} (hm : m < 4096) (hx : x % 16 < 12) : sp_d1 T v m i x < 4096 := by
  unfold sp_d1
  split
  · exact sp_set_lt hm hx
  · exact sp_m1_lt hm hx
theorem sp_d2_lt {T : Nat → Nat → Nat} {v m i x : Nat} (hi : i < 4096) (hx : x % 16 < 12) : sp_d2 T v m i x < 4096 := by
  unfold sp_d2
  split
  · exact sp_clr_lt hi _
  · split
    · exact sp_clr_lt (sp_i1_lt hi hx) _
    · exact sp_i1_lt hi hx
theorem sp_dj_i1 {m i p q : Nat} (hm : m < 4096) (hi : i < 4096) (hd : sp_dj m i) : sp_dj (sp_m1 m i p q) (sp_i1 m i p q) := by
  intro j
  have h := hd j
  unfold sp_m1 sp_i1
  by_cases e : q = j
  · subst e
    by_cases h1 : sp_who m i p = 1
    · rw [if_pos h1, if_neg (by omega), sp_set_bit, sp_clr_bit (sp_clr_lt hi p)]
      simp
    · rw [if_neg h1, sp_clr_bit (sp_clr_lt hm p)]
      simp
  · have a1 : (if sp_who m i p = 1 then sp_set (sp_clr m p) q else sp_clr (sp_clr m p) q).testBit j = (m.testBit j && !decide (p = j)) := by
      split
      · rw [sp_set_bit, sp_clr_bit hm]; simp [e]
      · rw [sp_clr_bit (sp_clr_lt hm p), sp_clr_bit hm]; simp [e]
    have a2 : (if sp_who m i p = 2 then sp_set (sp_clr i p) q else sp_clr (sp_clr i p) q).testBit j = (i.testBit j && !decide (p = j)) := by
      split
      · rw [sp_set_bit, sp_clr_bit hi]; simp [e]
      · rw [sp_clr_bit (sp_clr_lt hi p), sp_clr_bit hi]; simp [e]
    rw [a1, a2]
    rintro ⟨b1, b2⟩
    rw [Bool.and_eq_true] at b1 b2
    exact h ⟨b1.1, b2.1⟩
theorem sp_dj_clr {a b o : Nat} (hb : b < 4096) (h : sp_dj a b) : sp_dj a (sp_clr b o) := by
  intro j
  rw [sp_clr_bit hb, Bool.and_eq_true]
  rintro ⟨h1, h2, -⟩
  exact h j ⟨h1, h2⟩
theorem sp_dj_next {T : Nat → Nat → Nat} {v m i x : Nat} (hm : m < 4096) (hi : i < 4096) (hd : sp_dj m i) (hx : x % 16 < 12) : sp_dj (sp_d2 T v m i x) (sp_d1 T v m i x) := by
  have key : sp_dj (sp_d1 T v m i x) (sp_d2 T v m i x) := by
    unfold sp_d1 sp_d2
    split
    · intro j
      rw [sp_set_bit, sp_clr_bit hi]
      by_cases e : x % 16 = j
      · subst e; simp
      · simp [e]
        intro h1
        cases h2 : i.testBit j with
        | false => rfl
        | true => exact absurd ⟨h1, h2⟩ (hd j)
    · split
      · exact sp_dj_clr (sp_i1_lt hi hx) (sp_dj_i1 hm hi hd)
      · exact sp_dj_i1 hm hi hd
  exact fun p h => key p ⟨h.2, h.1⟩
theorem sp_tg_mv {T : Nat → Nat → Nat} {v m i p q : Nat} (hm : m < 4096) (hp : p < 16) (hq : q < 12) (h : (sp_tg T v m i p).testBit q = true) : sp_mv (16 * p + q) := by
  rcases (by omega : p < 12 ∨ p = 15 ∨ 12 ≤ p ∧ p < 15) with h1 | h1 | h1
  · rw [sp_tg_bit h1, Bool.and_eq_true, Bool.and_eq_true, ab_no_bit _ hq, Nat.testBit_or] at h
    have hne : p ≠ q := by
      intro e
      subst e
      rw [h.1] at h
      simp at h
    exact ⟨by omega, by omega, Or.inr ⟨by omega, by omega⟩⟩
  · subst h1
    exact ⟨by omega, by omega, Or.inl (by omega)⟩
  · unfold sp_tg at h
    rw [if_neg (by omega), if_neg (by omega), Nat.zero_testBit] at h
    cases h
