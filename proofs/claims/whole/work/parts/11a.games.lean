/-! GAMES: how many, and of each the START (two masks), its length, how it went out, its MOVES -/
abbrev sp_G : Type := Nat × (Nat → Nat) × (Nat → Nat) × (Nat → Nat) × (Nat → Int32) × (Nat → Nat → Nat)
abbrev gN (Z : sp_G) : Nat := Z.1
abbrev gA (Z : sp_G) : Nat → Nat := Z.2.1
abbrev gB (Z : sp_G) : Nat → Nat := Z.2.2.1
abbrev gL (Z : sp_G) : Nat → Nat := Z.2.2.2.1
abbrev gO (Z : sp_G) : Nat → Int32 := Z.2.2.2.2.1
abbrev gV (Z : sp_G) : Nat → Nat → Nat := Z.2.2.2.2.2
def gm_ok (Z : sp_G) : Prop := gN Z ≤ 6 ∧ ∀ g, g < gN Z → gA Z g < 4096 ∧ gB Z g < 4096 ∧ sp_dj (gA Z g) (gB Z g) ∧ gL Z g ≤ 20 ∧ (∀ k, k < gL Z g → sp_mv (gV Z g k)) ∧ (gO Z g = -1 ∨ gO Z g = 0 ∨ gO Z g = 1)
def gm_C (Z : sp_G) (h : Nat → Nat → Int32) : Prop := h 15 5 = nI (gN Z) ∧ ∀ g, g < gN Z → h 18 g = nI (sp_en (gA Z g) (gB Z g) 0) ∧ h 19 g = nI (gL Z g) ∧ h 20 g = gO Z g ∧ ∀ k, k < gL Z g → h 21 (20 * g + k) = nI (gV Z g k)
/-- the STATE ahead of the k-th MOVE, by a CODE: the TURN's pieces and the other's -/
def sp_sg (T : Nat → Nat → Nat) (c : Nat) (Z : sp_G) (g : Nat) : Nat → Nat × Nat
  | 0 => (gA Z g, gB Z g)
  | k + 1 => (sp_d2 T (sp_lv T c (sp_sg T c Z g k).1 (sp_sg T c Z g k).2) (sp_sg T c Z g k).1 (sp_sg T c Z g k).2 (gV Z g k), sp_d1 T (sp_lv T c (sp_sg T c Z g k).1 (sp_sg T c Z g k).2) (sp_sg T c Z g k).1 (sp_sg T c Z g k).2 (gV Z g k))
theorem sp_sg_ok {T : Nat → Nat → Nat} {c : Nat} {Z : sp_G} {g : Nat} (hZ : gm_ok Z) (hg : g < gN Z) : ∀ k, k ≤ gL Z g → (sp_sg T c Z g k).1 < 4096 ∧ (sp_sg T c Z g k).2 < 4096 ∧ sp_dj (sp_sg T c Z g k).1 (sp_sg T c Z g k).2
  | 0, _ => ⟨(hZ.2 g hg).1, (hZ.2 g hg).2.1, (hZ.2 g hg).2.2.1⟩
  | k + 1, hk => by
    obtain ⟨h1, h2, h3⟩ := sp_sg_ok (T := T) (c := c) hZ hg k (by omega)
    have hv := ((hZ.2 g hg).2.2.2.2.1 k (by omega)).2.1
    exact ⟨sp_d2_lt h2 hv, sp_d1_lt (T := T) (v := 0) h1 hv, sp_dj_next h1 h2 h3 hv⟩
theorem sp_sg_s {T : Nat → Nat → Nat} {c : Nat} {Z : sp_G} {g k : Nat} : nI (sp_en (sp_d2 T (sp_lv T c (sp_sg T c Z g k).1 (sp_sg T c Z g k).2) (sp_sg T c Z g k).1 (sp_sg T c Z g k).2 (gV Z g k)) (sp_d1 T (sp_lv T c (sp_sg T c Z g k).1 (sp_sg T c Z g k).2) (sp_sg T c Z g k).1 (sp_sg T c Z g k).2 (gV Z g k)) (1 - k % 2)) = nI (sp_en (sp_sg T c Z g (k + 1)).1 (sp_sg T c Z g (k + 1)).2 ((k + 1) % 2)) := by
  rw [show (k + 1) % 2 = 1 - k % 2 by omega]
  rfl
/-- the first below n, or n -/
def sp_ft (f : Nat → Bool) : Nat → Nat
  | 0 => 0
  | n + 1 => if sp_ft f n < n then sp_ft f n else if f n then n else n + 1
theorem sp_ft_at {f : Nat → Bool} {k : Nat} (hk : f k = true) (h : ∀ j, j < k → f j = false) : ∀ n, k < n → sp_ft f n = k
  | 0, hn => absurd hn (Nat.not_lt_zero k)
  | n + 1, hn => by
    have all : ∀ m, m ≤ k → sp_ft f m = m := by
      intro m
      induction m with
      | zero => intro _; rfl
      | succ m ih =>
        intro hm
        rw [sp_ft, ih (by omega), if_neg (Nat.lt_irrefl m), h m (by omega)]
        rfl
    rw [sp_ft]
    by_cases e : k = n
    · subst e
      rw [all k (Nat.le_refl k), if_neg (Nat.lt_irrefl k), if_pos hk]
    · rw [sp_ft_at hk h n (by omega), if_pos (by omega)]
theorem sp_ft_no {f : Nat → Bool} : ∀ n, (∀ j, j < n → f j = false) → sp_ft f n = n
  | 0, _ => rfl
  | n + 1, h => by
    rw [sp_ft, sp_ft_no n (fun j hj => h j (by omega)), if_neg (Nat.lt_irrefl n), h n (by omega)]
    rfl
def sp_alk (T : Nat → Nat → Nat) (c : Nat) (Z : sp_G) (g k : Nat) : Bool := sp_al T (sp_lv T c (sp_sg T c Z g k).1 (sp_sg T c Z g k).2) (sp_sg T c Z g k).1 (sp_sg T c Z g k).2 (gV Z g k)
def sp_wng (T : Nat → Nat → Nat) (c : Nat) (Z : sp_G) (g k : Nat) : Int32 := sp_wn T c (sp_sg T c Z g k).1 (sp_sg T c Z g k).2 (k % 2)
/-- where a GAME FAILS -/
def sp_fl (T : Nat → Nat → Nat) (c : Nat) (Z : sp_G) (g : Nat) : Int32 :=
  if sp_ft (fun k => !sp_alk T c Z g k) (gL Z g) < gL Z g then nI (sp_ft (fun k => !sp_alk T c Z g k) (gL Z g))
  else if sp_wng T c Z g (gL Z g) = gO Z g then -1 else nI (gL Z g)
def sp_lc (T : Nat → Nat → Nat) (c m i : Nat) : Nat := sp_sum (fun p => sp_cn (sp_tg T (sp_lv T c m i) m i p)) 16
def sp_wk (T : Nat → Nat → Nat) (c : Nat) (Z : sp_G) (g k : Nat) : Nat := sp_lc T c (sp_sg T c Z g k).1 (sp_sg T c Z g k).2
/-- WIDE -/
def sp_wd (T : Nat → Nat → Nat) (c : Nat) (Z : sp_G) : Nat := sp_sum (fun g => sp_sum (fun k => sp_wk T c Z g k) (gL Z g)) (gN Z)
/-- two CODES part at a place -/
def sp_pk (T : Nat → Nat → Nat) (c e : Nat) (Z : sp_G) (g k : Nat) : Bool := sp_any (fun p => !decide (sp_tg T (sp_lv T c (sp_sg T c Z g k).1 (sp_sg T c Z g k).2) (sp_sg T c Z g k).1 (sp_sg T c Z g k).2 p = sp_tg T (sp_lv T e (sp_sg T c Z g k).1 (sp_sg T c Z g k).2) (sp_sg T c Z g k).1 (sp_sg T c Z g k).2 p)) 16
def sp_pa (T : Nat → Nat → Nat) (c e : Nat) (Z : sp_G) : Int32 :=
  if sp_ft (fun g => sp_any (sp_pk T c e Z g) (gL Z g)) (gN Z) < gN Z then nI (100 * sp_ft (fun g => sp_any (sp_pk T c e Z g) (gL Z g)) (gN Z) + sp_ft (sp_pk T c e Z (sp_ft (fun g => sp_any (sp_pk T c e Z g) (gL Z g)) (gN Z))) (gL Z (sp_ft (fun g => sp_any (sp_pk T c e Z g) (gL Z g)) (gN Z)))) else -1
/-- FAULTY ones -/
def sp_fk (T : Nat → Nat → Nat) (c : Nat) (Z : sp_G) (g k : Nat) : Nat := if sp_alk T c Z g k then 0 else 1
def sp_fg (T : Nat → Nat → Nat) (c : Nat) (Z : sp_G) (g : Nat) : Nat := sp_sum (sp_fk T c Z g) (gL Z g) + (if sp_wng T c Z g (gL Z g) = gO Z g then 0 else 1)
def sp_fy (T : Nat → Nat → Nat) (c : Nat) (Z : sp_G) : Nat := sp_sum (sp_fg T c Z) (gN Z)
theorem sp_sum_step (f : Nat → Nat) : ∀ {a b : Nat}, a ≤ b → sp_sum f a ≤ sp_sum f b
  | a, 0, h => by rw [show a = 0 by omega]; exact Nat.le_refl _
  | a, b + 1, h => by
    by_cases e : a = b + 1
    · rw [e]; exact Nat.le_refl _
    · exact Nat.le_trans (sp_sum_step f (show a ≤ b by omega)) (Nat.le_add_right _ _)
theorem sp_fk_le (T : Nat → Nat → Nat) (c : Nat) (Z : sp_G) (g k : Nat) : sp_fk T c Z g k ≤ 1 := by unfold sp_fk; split <;> decide
theorem sp_fg_le {T : Nat → Nat → Nat} {c : Nat} {Z : sp_G} (hZ : gm_ok Z) {g : Nat} (hg : g < gN Z) : sp_fg T c Z g ≤ 21 := by
  unfold sp_fg
  have h1 := sp_sum_le (f := sp_fk T c Z g) (b := 1) (sp_fk_le T c Z g) (gL Z g)
  have h2 := (hZ.2 g hg).2.2.2.1
  split <;> omega
theorem sp_sumb {f : Nat → Nat} {b N : Nat} (hf : ∀ j, j < N → f j ≤ b) : ∀ n, n ≤ N → sp_sum f n ≤ n * b
  | 0, _ => Nat.zero_le _
  | n + 1, h => by
    rw [sp_sum, Nat.succ_mul]
    exact Nat.add_le_add (sp_sumb hf n (by omega)) (hf n (by omega))
