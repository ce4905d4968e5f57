/-! the order of codes by price, of like ones by number -/
def sp_ct (f : Nat → Bool) (p : Nat) : Nat → Nat
  | 0 => 0
  | n + 1 => sp_ct f p n + (if f n = true ∧ sp_pr n = p then 1 else 0)
def sp_bw (f : Nat → Bool) (p : Nat) : Nat := sp_sum (fun q => sp_ct f q 4096) p
def sp_rk (f : Nat → Bool) (c : Nat) : Nat := sp_bw f (sp_pr c) + sp_ct f (sp_pr c) c
theorem sp_ct_s {f : Nat → Bool} {p n : Nat} (h : f n = true) (hp : sp_pr n = p) : sp_ct f p (n + 1) = sp_ct f p n + 1 := by rw [sp_ct, if_pos ⟨h, hp⟩]
theorem sp_ct_n {f : Nat → Bool} {p n : Nat} (h : ¬ (f n = true ∧ sp_pr n = p)) : sp_ct f p (n + 1) = sp_ct f p n := by rw [sp_ct, if_neg h]; rfl
theorem sp_ct_mono {f : Nat → Bool} {p : Nat} : ∀ {a b : Nat}, a ≤ b → sp_ct f p a ≤ sp_ct f p b
  | a, 0, h => by rw [show a = 0 by omega]; exact Nat.le_refl _
  | a, b + 1, h => by
    by_cases e : a = b + 1
    · rw [e]; exact Nat.le_refl _
    · exact Nat.le_trans (sp_ct_mono (show a ≤ b by omega)) (Nat.le_add_right _ _)
theorem sp_ct_lt {f : Nat → Bool} {c n : Nat} (h : f c = true) (hn : c < n) : sp_ct f (sp_pr c) c < sp_ct f (sp_pr c) n :=
  Nat.lt_of_lt_of_le (by rw [sp_ct_s h rfl]; omega) (sp_ct_mono (show c + 1 ≤ n by omega))
theorem sp_ct_le {f : Nat → Bool} {p : Nat} : ∀ n, sp_ct f p n ≤ n
  | 0 => Nat.le_refl _
  | n + 1 => by
    have := sp_ct_le (f := f) (p := p) n
    rw [sp_ct]
    split <;> omega
theorem sp_ct_sj {f : Nat → Bool} {p : Nat} : ∀ {n k : Nat}, k < sp_ct f p n → ∃ c, c < n ∧ f c = true ∧ sp_pr c = p ∧ sp_ct f p c = k
  | 0, k, h => absurd h (Nat.not_lt_zero _)
  | n + 1, k, h => by
    by_cases hk : k < sp_ct f p n
    · obtain ⟨c, h1, h2⟩ := sp_ct_sj hk
      exact ⟨c, by omega, h2⟩
    · by_cases hn : f n = true ∧ sp_pr n = p
      · rw [sp_ct_s hn.1 hn.2] at h
        exact ⟨n, by omega, hn.1, hn.2, by omega⟩
      · rw [sp_ct_n hn] at h
        omega
theorem sp_bw_s (f : Nat → Bool) (p : Nat) : sp_bw f (p + 1) = sp_bw f p + sp_ct f p 4096 := rfl
theorem sp_bw_mono {f : Nat → Bool} {a b : Nat} (h : a ≤ b) : sp_bw f a ≤ sp_bw f b := sp_sum_step _ h
theorem sp_rk_lt {f : Nat → Bool} {c : Nat} (h : f c = true) (hc : c < 4096) : sp_rk f c < sp_bw f (sp_pr c + 1) := by
  rw [sp_bw_s]
  exact Nat.add_lt_add_left (sp_ct_lt h hc) _
theorem sp_rk_ge (f : Nat → Bool) (c : Nat) : sp_bw f (sp_pr c) ≤ sp_rk f c := Nat.le_add_right _ _
theorem sp_rk_pr {f : Nat → Bool} {c : Nat} (h : f c = true) (hc : c < 4096) (P : Nat) : sp_rk f c < sp_bw f (P + 1) ↔ sp_pr c ≤ P := by
  constructor
  · intro z
    rcases Nat.lt_or_ge P (sp_pr c) with q | q
    · have h1 := sp_bw_mono (f := f) (show P + 1 ≤ sp_pr c by omega)
      have h2 := sp_rk_ge f c
      omega
    · exact q
  · intro z
    exact Nat.lt_of_lt_of_le (sp_rk_lt h hc) (sp_bw_mono (by omega))
theorem sp_rk_inj {f : Nat → Bool} {c e : Nat} (hc : f c = true) (he : f e = true) (h1 : c < 4096) (h2 : e < 4096) (h : sp_rk f c = sp_rk f e) : c = e := by
  have hp : sp_pr c = sp_pr e := by
    have a1 := (sp_rk_pr hc h1 (sp_pr e)).mp (by rw [h]; exact sp_rk_lt he h2)
    have a2 := (sp_rk_pr he h2 (sp_pr c)).mp (by rw [← h]; exact sp_rk_lt hc h1)
    omega
  unfold sp_rk at h
  rw [hp] at h
  rcases Nat.lt_trichotomy c e with q | q | q
  · have := sp_ct_lt hc q
    rw [hp] at this
    omega
  · exact q
  · have := sp_ct_lt he q
    omega
theorem sp_rk_sj {f : Nat → Bool} : ∀ {P i : Nat}, i < sp_bw f P → ∃ c, c < 4096 ∧ f c = true ∧ sp_rk f c = i
  | 0, i, h => absurd h (Nat.not_lt_zero _)
  | P + 1, i, h => by
    by_cases hi : i < sp_bw f P
    · exact sp_rk_sj hi
    · rw [sp_bw_s] at h
      obtain ⟨c, h1, h2, h3, h4⟩ := sp_ct_sj (f := f) (p := P) (n := 4096) (k := i - sp_bw f P) (by omega)
      refine ⟨c, h1, h2, ?_⟩
      unfold sp_rk
      rw [h3, h4]
      omega
/-- the i-th code that FITS -/
def sp_fo (f : Nat → Bool) (i : Nat) : Nat := sp_ft (fun c => f c && decide (sp_rk f c = i)) 4096
def sp_to (f : Nat → Bool) : Nat := sp_bw f 23
theorem sp_fo_ok {f : Nat → Bool} {i : Nat} (h : i < sp_to f) : sp_fo f i < 4096 ∧ f (sp_fo f i) = true ∧ sp_rk f (sp_fo f i) = i := by
  obtain ⟨c, h1, h2, h3⟩ := sp_rk_sj h
  have hlt : sp_fo f i < 4096 := by
    rcases Nat.lt_or_ge (sp_fo f i) 4096 with q | q
    · exact q
    · have := sp_ft_ge (f := fun c => f c && decide (sp_rk f c = i)) (n := 4096) (by unfold sp_fo at q; omega) c h1
      simp [h2, h3] at this
  have h4 := (sp_ft_lt (f := fun c => f c && decide (sp_rk f c = i)) (n := 4096) hlt).1
  simp only [Bool.and_eq_true, decide_eq_true_eq] at h4
  exact ⟨hlt, h4⟩
theorem sp_fo_rk {f : Nat → Bool} {c : Nat} (h : f c = true) (hc : c < 4096) (hp : sp_pr c ≤ 22) : sp_fo f (sp_rk f c) = c := by
  have h1 := sp_fo_ok (f := f) (i := sp_rk f c) ((sp_rk_pr h hc 22).mpr hp)
  exact sp_rk_inj h1.2.1 h h1.1 hc h1.2.2
/-- how many ones a mask has that lies below another -/
theorem sp_cn_and (c : Nat) : sp_cn (c &&& 71) ≤ 4 ∧ sp_cn (c &&& 56) ≤ 3 ∧ sp_cn (c &&& 896) ≤ 3 := by
  have e : ∀ k, sp_cn (c &&& k) = ((((((((((((0 + ((c &&& k).testBit 0).toNat) + ((c &&& k).testBit 1).toNat) + ((c &&& k).testBit 2).toNat) + ((c &&& k).testBit 3).toNat) + ((c &&& k).testBit 4).toNat) + ((c &&& k).testBit 5).toNat) + ((c &&& k).testBit 6).toNat) + ((c &&& k).testBit 7).toNat) + ((c &&& k).testBit 8).toNat) + ((c &&& k).testBit 9).toNat) + ((c &&& k).testBit 10).toNat) + ((c &&& k).testBit 11).toNat) := fun k => rfl
  have b : ∀ x : Bool, x.toNat ≤ 1 := fun x => by cases x <;> decide
  have t1 : ∀ i, i < 12 → (71 : Nat).testBit i = decide (i = 0 ∨ i = 1 ∨ i = 2 ∨ i = 6) := by decide
  have t2 : ∀ i, i < 12 → (56 : Nat).testBit i = decide (i = 3 ∨ i = 4 ∨ i = 5) := by decide
  have t3 : ∀ i, i < 12 → (896 : Nat).testBit i = decide (i = 7 ∨ i = 8 ∨ i = 9) := by decide
  refine ⟨?_, ?_, ?_⟩
  · rw [e]
    simp only [Nat.testBit_and, t1 0 (by decide), t1 1 (by decide), t1 2 (by decide), t1 3 (by decide), t1 4 (by decide), t1 5 (by decide), t1 6 (by decide), t1 7 (by decide), t1 8 (by decide), t1 9 (by decide), t1 10 (by decide), t1 11 (by decide)]
    have := b (decide (c % 2 = 1)); have := b (c.testBit 1); have := b (c.testBit 2); have := b (c.testBit 6)
    simp
    omega
  · rw [e]
    simp only [Nat.testBit_and, t2 0 (by decide), t2 1 (by decide), t2 2 (by decide), t2 3 (by decide), t2 4 (by decide), t2 5 (by decide), t2 6 (by decide), t2 7 (by decide), t2 8 (by decide), t2 9 (by decide), t2 10 (by decide), t2 11 (by decide)]
    have := b (c.testBit 3); have := b (c.testBit 4); have := b (c.testBit 5)
    simp
    omega
  · rw [e]
    simp only [Nat.testBit_and, t3 0 (by decide), t3 1 (by decide), t3 2 (by decide), t3 3 (by decide), t3 4 (by decide), t3 5 (by decide), t3 6 (by decide), t3 7 (by decide), t3 8 (by decide), t3 9 (by decide), t3 10 (by decide), t3 11 (by decide)]
    have := b (c.testBit 7); have := b (c.testBit 8); have := b (c.testBit 9)
    simp
    omega
theorem sp_pr22 (c : Nat) : sp_pr c ≤ 22 := by
  have h := sp_cn_and c
  unfold sp_pr
  split <;> omega
theorem sp_to_lt {f : Nat → Bool} : sp_to f ≤ 4096 := by
  have key : ∀ n, sp_sum (fun q => sp_ct f q n) 23 ≤ n := by
    intro n
    induction n with
    | zero => exact Nat.le_of_eq (by simp [sp_sum, sp_ct])
    | succ n ih =>
      have h1 : ∀ N, sp_sum (fun q => sp_ct f q (n + 1)) N ≤ sp_sum (fun q => sp_ct f q n) N + (if sp_pr n < N then 1 else 0) := by
        intro N
        induction N with
        | zero => exact Nat.zero_le _
        | succ N ihN =>
          rw [sp_sum, sp_sum]
          by_cases hp : sp_pr n = N
          · rw [if_neg (by omega)] at ihN
            rw [if_pos (by omega)]
            have : sp_ct f N (n + 1) ≤ sp_ct f N n + 1 := by rw [sp_ct]; split <;> omega
            omega
          · have e : sp_ct f N (n + 1) = sp_ct f N n := sp_ct_n (fun z => hp z.2)
            rw [e]
            by_cases hlt : sp_pr n < N
            · rw [if_pos hlt] at ihN
              rw [if_pos (by omega)]
              omega
            · rw [if_neg hlt] at ihN
              rw [if_neg (by omega)]
              omega
      have := h1 23
      split at this <;> omega
  exact key 4096
theorem sp_bw_le {f : Nat → Bool} {p : Nat} (hp : p ≤ 23) : sp_bw f p ≤ 4096 := Nat.le_trans (sp_bw_mono hp) sp_to_lt
/-- the order lies in an array -/
def fo_in (f : Nat → Bool) (a : Nat) (h : Nat → Nat → Int32) : Prop := ∀ i, i < sp_to f → h a i = nI (sp_fo f i)
theorem fo_of {f : Nat → Bool} {a : Nat} {h : Nat → Nat → Int32} (h1 : ∀ c, c < 4096 → f c = true → h a (sp_rk f c) = nI c) : fo_in f a h := by
  intro i hi
  have h2 := sp_fo_ok hi
  have h3 := h1 _ h2.1 h2.2.1
  rw [h2.2.2] at h3
  exact h3
/-- RIVALS: how many -/
def sp_rv (f : Nat → Bool) (x : Nat) : Nat := if sp_to f = 0 then 0 else sp_bw f (min (sp_pr (sp_fo f 0) + x) 22 + 1)
theorem sp_rv_le (f : Nat → Bool) (x : Nat) : sp_rv f x ≤ sp_to f := by
  unfold sp_rv
  split
  · exact Nat.zero_le _
  · exact sp_bw_mono (by omega)
theorem sp_rv_iff {f : Nat → Bool} {x i : Nat} (hi : i < sp_to f) : i < sp_rv f x ↔ sp_pr (sp_fo f i) ≤ sp_pr (sp_fo f 0) + x := by
  have h := sp_fo_ok hi
  unfold sp_rv
  rw [if_neg (by omega)]
  have h2 := sp_rk_pr h.2.1 h.1 (min (sp_pr (sp_fo f 0) + x) 22)
  rw [h.2.2] at h2
  rw [h2]
  have := sp_pr22 (sp_fo f i)
  omega
