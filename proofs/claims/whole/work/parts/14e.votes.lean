/-! sums, votes, the tightest, the cheat -/
theorem sp_sum_add (f g : Nat → Nat) : ∀ n, sp_sum (fun j => f j + g j) n = sp_sum f n + sp_sum g n
  | 0 => rfl
  | n + 1 => by rw [sp_sum, sp_sum, sp_sum, sp_sum_add f g n]; omega
theorem sp_sum_0 : ∀ n, sp_sum (fun _ => 0) n = 0
  | 0 => rfl
  | n + 1 => by rw [sp_sum, sp_sum_0 n]
theorem sp_sum_one {a : Nat} (g : Nat → Nat) : ∀ n, sp_sum (fun v => (if v = a then 1 else 0) * g v) n = if a < n then g a else 0
  | 0 => by rw [if_neg (Nat.not_lt_zero _)]; rfl
  | n + 1 => by
    rw [sp_sum, sp_sum_one g n]
    by_cases h : n = a
    · subst h
      rw [if_neg (Nat.lt_irrefl _), if_pos rfl, if_pos (by omega)]
      omega
    · rw [if_neg h]
      by_cases h2 : a < n
      · rw [if_pos h2, if_pos (by omega)]; omega
      · rw [if_neg h2, if_neg (by omega)]; omega
/-- how many of the first n are v -/
def sp_ak (a : Nat → Nat) (n v : Nat) : Nat := sp_sum (fun j => if v = a j then 1 else 0) n
theorem sp_ak_sum {a g : Nat → Nat} {N : Nat} : ∀ n, (∀ j, j < n → a j < N) → sp_sum (fun v => sp_ak a n v * g v) N = sp_sum (fun j => g (a j)) n
  | 0, _ => by
    have : (fun v => sp_ak a 0 v * g v) = fun _ => 0 := by funext v; show 0 * g v = 0; omega
    rw [this, sp_sum_0]
    rfl
  | n + 1, h => by
    have ih := sp_ak_sum (a := a) (g := g) (N := N) n (fun j hj => h j (by omega))
    have e : (fun v => sp_ak a (n + 1) v * g v) = fun v => sp_ak a n v * g v + (if v = a n then 1 else 0) * g v := by
      funext v
      show (sp_ak a n v + (if v = a n then 1 else 0)) * g v = _
      rw [Nat.add_mul]
    rw [e, sp_sum_add, ih, sp_sum_one, if_pos (h n (by omega))]
    rfl
theorem sp_ak_le (a : Nat → Nat) (v : Nat) : ∀ n, sp_ak a n v ≤ n
  | 0 => Nat.le_refl _
  | n + 1 => by
    have := sp_ak_le a v n
    show sp_ak a n v + (if v = a n then 1 else 0) ≤ n + 1
    split <;> omega
theorem sp_tg_mod {T : Nat → Nat → Nat} {v m i p : Nat} : sp_tg T v m i p = sp_tg T (v % 128) m i p := by
  have h : ∀ k, k < 7 → (v % 128).testBit k = v.testBit k := by
    intro k hk
    rw [show (128 : Nat) = 2 ^ 7 from rfl, Nat.testBit_mod_two_pow]
    simp [hk]
  have h1 : sp_st T v p = sp_st T (v % 128) p := sp_or_cong (fun k hk => by rw [h k (by omega)])
  have h2 : sp_jm T v i p = sp_jm T (v % 128) i p := sp_or_cong (fun k hk => by rw [h (3 + k) (by omega)])
  unfold sp_tg
  rw [h 6 (by decide), h1, h2]
/-- whether a MOVE is let: as a number -/
def sp_iv (T : Nat → Nat → Nat) (v m i x : Nat) : Nat := ((sp_tg T v m i (x / 16)).testBit (x % 16)).toNat
theorem sp_iv_le (T : Nat → Nat → Nat) (v m i x : Nat) : sp_iv T v m i x ≤ 1 := by unfold sp_iv; cases (sp_tg T v m i (x / 16)).testBit (x % 16) <;> decide
/-- how many of the first n RIVALS let a MOVE -/
def sp_vt (T : Nat → Nat → Nat) (f : Nat → Bool) (m i n x : Nat) : Nat := sp_sum (fun j => sp_iv T (sp_lv T (sp_fo f j) m i) m i x) n
theorem sp_vt_le (T : Nat → Nat → Nat) (f : Nat → Bool) (m i n x : Nat) : sp_vt T f m i n x ≤ n := by
  have := sp_sum_le (f := fun j => sp_iv T (sp_lv T (sp_fo f j) m i) m i x) (b := 1) (fun j => sp_iv_le T _ m i x) n
  unfold sp_vt
  omega
/-- the votes while they are added: the sets of PARTS below v, and of v the MOVES from below p -/
def sp_va (T : Nat → Nat → Nat) (ak : Nat → Nat) (m i v p x : Nat) : Nat := sp_sum (fun w => ak w * sp_iv T w m i x) v + (if x / 16 < p then ak v * sp_iv T v m i x else 0)
theorem sp_va_end {T : Nat → Nat → Nat} {ak : Nat → Nat} {m i v x : Nat} (hx : x < 256) : sp_va T ak m i v 16 x = sp_va T ak m i (v + 1) 0 x := by
  unfold sp_va
  rw [if_pos (by omega), if_neg (Nat.not_lt_zero _), sp_sum]
  rfl
theorem sp_va_0 {T : Nat → Nat → Nat} {ak : Nat → Nat} {m i v p x : Nat} (h : ak v = 0) : sp_va T ak m i v p x = sp_va T ak m i (v + 1) 0 x := by
  unfold sp_va
  rw [if_neg (Nat.not_lt_zero _), sp_sum, h, Nat.zero_mul]
  split <;> rfl
theorem sp_va_1 {T : Nat → Nat → Nat} {ak : Nat → Nat} {m i x : Nat} : sp_va T ak m i 1 0 x = 0 := by
  unfold sp_va sp_sum sp_sum sp_iv
  rw [sp_tg_0, Nat.zero_testBit, if_neg (Nat.not_lt_zero _)]
  simp
theorem sp_va_s {T : Nat → Nat → Nat} {ak : Nat → Nat} {m i v p x : Nat} : sp_va T ak m i v (p + 1) x = sp_va T ak m i v p x + (if x / 16 = p ∧ (sp_tg T v m i p).testBit (x % 16) = true then ak v else 0) := by
  unfold sp_va
  by_cases h : x / 16 = p
  · subst h
    rw [if_pos (by omega), if_neg (Nat.lt_irrefl _)]
    unfold sp_iv
    by_cases hb : (sp_tg T v m i (x / 16)).testBit (x % 16) = true
    · rw [if_pos ⟨rfl, hb⟩, hb]; simp
    · rw [if_neg (fun z => hb z.2), eq_false_of_ne_true hb]; simp
  · have hn : ¬ (x / 16 = p ∧ (sp_tg T v m i p).testBit (x % 16) = true) := fun z => h z.1
    rw [if_neg hn]
    by_cases h2 : x / 16 < p
    · rw [if_pos (show x / 16 < p + 1 by omega), if_pos h2]; rfl
    · rw [if_neg (show ¬ x / 16 < p + 1 by omega), if_neg h2]
theorem sp_va_all {T : Nat → Nat → Nat} {f : Nat → Bool} {m i n x : Nat} : sp_va T (sp_ak (fun j => sp_lv T (sp_fo f j) m i % 128) n) m i 128 0 x = sp_vt T f m i n x := by
  unfold sp_va
  rw [if_neg (Nat.not_lt_zero _), Nat.add_zero]
  rw [sp_ak_sum (a := fun j => sp_lv T (sp_fo f j) m i % 128) (g := fun w => sp_iv T w m i x) n (fun j _ => Nat.mod_lt _ (by decide))]
  unfold sp_vt
  refine sp_sum_cong (fun j _ => ?_)
  unfold sp_iv
  rw [← sp_tg_mod]
theorem sp_va_le {T : Nat → Nat → Nat} {a : Nat → Nat} {m i v p x n N : Nat} (ha : ∀ j, j < n → a j < N) (hv : v < N) : sp_va T (sp_ak a n) m i v p x ≤ n := by
  have h1 : sp_va T (sp_ak a n) m i v p x ≤ sp_sum (fun w => sp_ak a n w * sp_iv T w m i x) N := by
    refine Nat.le_trans ?_ (sp_sum_step _ (show v + 1 ≤ N by omega))
    unfold sp_va
    rw [sp_sum]
    split
    · exact Nat.le_refl _
    · omega
  rw [sp_ak_sum (g := fun w => sp_iv T w m i x) n ha] at h1
  have h2 := sp_sum_le (f := fun j => sp_iv T (a j) m i x) (b := 1) (fun j => sp_iv_le T _ m i x) n
  omega
/-- ASK -/
def sp_as (V : Nat → Nat) (n : Nat) : Nat → Nat × Int32
  | 0 => (n, -1)
  | k + 1 => if max (V k) (n - V k) < (sp_as V n k).1 then (max (V k) (n - V k), nI k) else sp_as V n k
theorem sp_as_le (V : Nat → Nat) (n : Nat) : ∀ k, (sp_as V n k).1 ≤ n
  | 0 => Nat.le_refl _
  | k + 1 => by
    rw [sp_as]
    have := sp_as_le V n k
    split
    · show max (V k) (n - V k) ≤ n
      omega
    · exact this
theorem sp_as_in (V : Nat → Nat) (n : Nat) : ∀ k, (sp_as V n k).2 = -1 ∨ ∃ j, j < k ∧ (sp_as V n k).2 = nI j
  | 0 => Or.inl rfl
  | k + 1 => by
    rw [sp_as]
    split
    · exact Or.inr ⟨k, by omega, rfl⟩
    · rcases sp_as_in V n k with h | ⟨j, h1, h2⟩
      · exact Or.inl h
      · exact Or.inr ⟨j, by omega, h2⟩
theorem sp_mxI {a b : Nat} (ha : a < 2 ^ 31) (hb : b < 2 ^ 31) : (if nI a < nI b then nI b else nI a) = nI (max a b) := by
  by_cases h : a < b
  · rw [if_pos ((ab_lt ha hb).mpr h), Nat.max_eq_right (by omega)]
  · rw [if_neg (fun z => h ((ab_lt ha hb).mp z)), Nat.max_eq_left (by omega)]
/-- the first of the least -/
def sp_bi (w : Nat → Nat) : Nat → Nat
  | 0 => 0
  | n + 1 => if n = 0 then 0 else if w n < w (sp_bi w n) then n else sp_bi w n
theorem sp_bi_lt (w : Nat → Nat) : ∀ n, 1 ≤ n → sp_bi w n < n
  | 0, h => absurd h (by decide)
  | n + 1, _ => by
    rw [sp_bi]
    split
    · omega
    · have := sp_bi_lt w n (by omega)
      split <;> omega
theorem sp_bi_le (w : Nat → Nat) : ∀ n j, j < n → w (sp_bi w n) ≤ w j
  | 0, j, h => absurd h (Nat.not_lt_zero _)
  | n + 1, j, h => by
    rw [sp_bi]
    by_cases h0 : n = 0
    · rw [if_pos h0, show j = 0 by omega]
      exact Nat.le_refl _
    · rw [if_neg h0]
      by_cases hj : j = n
      · subst hj
        split <;> omega
      · have := sp_bi_le w n j (by omega)
        split <;> omega
def sp_wf (T : Nat → Nat → Nat) (Z : sp_G) (j : Nat) : Nat := sp_wd T (sp_fo (sp_ok1 T Z) j) Z
/-- TIGHT -/
def sp_ti (T : Nat → Nat → Nat) (Z : sp_G) : Nat := sp_fo (sp_ok1 T Z) (sp_bi (sp_wf T Z) (sp_rv (sp_ok1 T Z) 9))
theorem sp_wk_le (T : Nat → Nat → Nat) (c : Nat) (Z : sp_G) (g k : Nat) : sp_wk T c Z g k ≤ 192 := by
  unfold sp_wk sp_lc
  exact Nat.le_trans (sp_sum_le (b := 12) (fun p => sp_cn_le _) 16) (by decide)
theorem sp_wd_le {T : Nat → Nat → Nat} {c : Nat} {Z : sp_G} (hZ : gm_ok Z) : sp_wd T c Z ≤ 23040 := by
  unfold sp_wd
  have h : ∀ g, g < gN Z → sp_sum (fun k => sp_wk T c Z g k) (gL Z g) ≤ 3840 := by
    intro g hg
    have h1 := sp_sum_le (f := fun k => sp_wk T c Z g k) (b := 192) (fun k => sp_wk_le T c Z g k) (gL Z g)
    have h2 := gm_20 hZ hg
    omega
  have := sp_sumb h (gN Z) (Nat.le_refl _)
  have := hZ.1
  omega
/-- the first code of a PRICE whose FAULTY ones are least -/
def sp_ch (pr fy : Nat → Nat) (p : Nat) : Nat → Nat × Nat
  | 0 => (2147483647, 0)
  | n + 1 => if 1 ≤ n ∧ pr n ≤ p ∧ fy n < (sp_ch pr fy p n).1 then (fy n, n) else sp_ch pr fy p n
theorem sp_ch_0 {pr fy : Nat → Nat} {p n : Nat} (h : (sp_ch pr fy p n).1 = 0) : ∀ k, n ≤ k → sp_ch pr fy p k = sp_ch pr fy p n
  | 0, hk => by rw [show n = 0 by omega]
  | k + 1, hk => by
    by_cases e : n = k + 1
    · rw [e]
    · have ih := sp_ch_0 h k (by omega)
      rw [sp_ch, if_neg (by rw [ih, h]; omega), ih]
theorem sp_ch_le {pr fy : Nat → Nat} {p c : Nat} (h1 : 1 ≤ c) (hp : pr c ≤ p) : ∀ k, c < k → (sp_ch pr fy p k).1 ≤ fy c
  | 0, h => absurd h (Nat.not_lt_zero _)
  | k + 1, h => by
    rw [sp_ch]
    by_cases e : c = k
    · subst e
      split
      · exact Nat.le_refl _
      · rename_i hn
        show (sp_ch pr fy p c).1 ≤ fy c
        rcases Nat.lt_or_ge (fy c) (sp_ch pr fy p c).1 with q | q
        · exact absurd ⟨h1, hp, q⟩ hn
        · exact q
    · have ih := sp_ch_le (fy := fy) h1 hp k (by omega)
      split
      · rename_i hn
        show fy k ≤ fy c
        omega
      · exact ih
theorem sp_ch_in {pr fy : Nat → Nat} {p : Nat} : ∀ k, (sp_ch pr fy p k).1 = 2147483647 ∨ (1 ≤ (sp_ch pr fy p k).2 ∧ (sp_ch pr fy p k).2 < k ∧ (sp_ch pr fy p k).1 = fy (sp_ch pr fy p k).2)
  | 0 => Or.inl rfl
  | k + 1 => by
    rw [sp_ch]
    split
    · rename_i h
      exact Or.inr ⟨h.1, Nat.lt_succ_self k, rfl⟩
    · rcases sp_ch_in (pr := pr) (fy := fy) (p := p) k with h | ⟨h1, h2, h3⟩
      · exact Or.inl h
      · exact Or.inr ⟨h1, by omega, h3⟩
theorem sp_fy_le {T : Nat → Nat → Nat} {c : Nat} {Z : sp_G} (hZ : gm_ok Z) : sp_fy T c Z ≤ 126 := by
  unfold sp_fy
  have := sp_sumb (f := sp_fg T c Z) (b := 21) (fun g hg => sp_fg_le hZ hg) (gN Z) (Nat.le_refl _)
  have := hZ.1
  omega
