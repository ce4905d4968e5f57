/-! which codes fit: by base and ends; their order by price -/
theorem sp_184 {c : Nat} : c &&& 184 = (c % 512) &&& 184 := by
  apply Nat.eq_of_testBit_eq
  intro i
  rw [Nat.testBit_and, Nat.testBit_and, show (512 : Nat) = 2 ^ 9 from rfl, Nat.testBit_mod_two_pow]
  by_cases hi : i < 9
  · simp [hi]
  · have : (184 : Nat).testBit i = false := Nat.testBit_lt_two_pow (Nat.lt_of_lt_of_le (show 184 < 2 ^ 9 by decide) (Nat.pow_le_pow_right (by decide) (by omega)))
    rw [this, Bool.and_false, Bool.and_false]
theorem sp_255 {c : Nat} : c &&& 255 = (c % 512) &&& 255 := by
  apply Nat.eq_of_testBit_eq
  intro i
  rw [Nat.testBit_and, Nat.testBit_and, show (512 : Nat) = 2 ^ 9 from rfl, Nat.testBit_mod_two_pow]
  by_cases hi : i < 9
  · simp [hi]
  · have : (255 : Nat).testBit i = false := Nat.testBit_lt_two_pow (Nat.lt_of_lt_of_le (show 255 < 2 ^ 9 by decide) (Nat.pow_le_pow_right (by decide) (by omega)))
    rw [this, Bool.and_false, Bool.and_false]
theorem sp_bb {c i : Nat} (hi : i < 9) : (c % 512).testBit i = c.testBit i := by
  rw [show (512 : Nat) = 2 ^ 9 from rfl, Nat.testBit_mod_two_pow]
  simp [hi]
theorem sp_lj_b (T : Nat → Nat → Nat) (c m i : Nat) : sp_lj T (c % 512) m i = sp_lj T c m i := by
  unfold sp_lj
  refine sp_any_cong (fun k hk => sp_any_cong (fun q _ => ?_))
  unfold sp_ja
  rw [sp_bb (by omega)]
theorem sp_few_b (c m : Nat) : sp_few (c % 512) m = false := by
  unfold sp_few
  rw [show c % 512 / 1024 % 4 = 0 by omega]
  exact decide_eq_false (Nat.not_lt_zero _)
theorem sp_lv_b {T : Nat → Nat → Nat} {c m i : Nat} (h : sp_few c m = false) : sp_lv T c m i = sp_lv T (c % 512) m i := by
  unfold sp_lv
  rw [h, sp_few_b, sp_lj_b, sp_bb (by decide), ← sp_184, ← sp_255]
theorem sp_lv_few {T : Nat → Nat → Nat} {c m i : Nat} (h : sp_few c m = true) : sp_lv T c m i = 0 := by
  unfold sp_lv
  rw [h]
  rfl
theorem sp_or0 : ∀ (n : Nat), sp_or (fun _ => 0) n = 0
  | 0 => rfl
  | n + 1 => by rw [sp_or, sp_or0 n]; rfl
theorem sp_tg_0 (T : Nat → Nat → Nat) (m i p : Nat) : sp_tg T 0 m i p = 0 := by
  unfold sp_tg sp_st sp_jm
  have h1 : (fun k => if (0 : Nat).testBit k then T k p else 0) = fun _ => 0 := by funext k; simp
  have h2 : (fun k => if (0 : Nat).testBit (3 + k) then sp_bh T k (T k p &&& i) else 0) = fun _ => 0 := by funext k; simp
  rw [h1, h2, sp_or0]
  simp
theorem sp_alk_few {T : Nat → Nat → Nat} {c : Nat} {Z : sp_G} {g k : Nat} (h : sp_few c (sp_sg T c Z g k).1 = true) : sp_alk T c Z g k = false := by
  unfold sp_alk sp_al
  rw [sp_lv_few h, sp_tg_0]
  exact Nat.zero_testBit _
theorem sp_ft_lt {f : Nat → Bool} : ∀ {n}, sp_ft f n < n → f (sp_ft f n) = true ∧ ∀ j, j < sp_ft f n → f j = false
  | 0, h => absurd h (Nat.not_lt_zero _)
  | n + 1, h => by
    by_cases h1 : sp_ft f n < n
    · have e : sp_ft f (n + 1) = sp_ft f n := by rw [sp_ft, if_pos h1]
      rw [e]
      exact sp_ft_lt h1
    · have h0 : ∀ j, j < n → f j = false := by
        intro j hj
        cases hf : f j with
        | false => rfl
        | true =>
          exfalso
          have key : ∀ m, j < m → sp_ft f m ≤ j := by
            intro m
            induction m with
            | zero => intro z; omega
            | succ m ih =>
              intro z
              rw [sp_ft]
              by_cases hjm : j < m
              · have := ih hjm
                rw [if_pos (by omega)]
                exact this
              · have : j = m := by omega
                subst this
                split
                · omega
                · simp [hf]
          have := key n hj
          omega
      have h2 : sp_ft f n = n := sp_ft_no n h0
      rw [sp_ft, if_neg h1] at h ⊢
      cases hf : f n with
      | false => rw [hf] at h; simp at h
      | true => simp only [if_true]; exact ⟨hf, h0⟩
theorem sp_ft_le (f : Nat → Bool) : ∀ n, sp_ft f n ≤ n
  | 0 => Nat.le_refl _
  | n + 1 => by
    rw [sp_ft]
    split
    · omega
    · split <;> omega
theorem sp_ft_ge {f : Nat → Bool} {n : Nat} (h : ¬ sp_ft f n < n) : ∀ j, j < n → f j = false := by
  intro j hj
  cases hf : f j with
  | false => rfl
  | true =>
    exfalso
    have key : ∀ m, j < m → sp_ft f m ≤ j := by
      intro m
      induction m with
      | zero => intro z; omega
      | succ m ih =>
        intro z
        rw [sp_ft]
        by_cases hjm : j < m
        · have := ih hjm
          rw [if_pos (by omega)]
          exact this
        · have : j = m := by omega
          subst this
          split
          · omega
          · simp [hf]
    have := key n hj
    omega
theorem sp_nIm1 {n : Nat} (h : n < 2 ^ 31) : ¬ nI n = -1 := by
  intro e
  have h1 := congrArg Int32.toInt e
  rw [nI_toInt h] at h1
  have h2 : (-1 : Int32).toInt = -1 := by decide
  omega
/-- a GAME fits: all its MOVES are let, and it goes out so -/
theorem sp_fl_m1 {T : Nat → Nat → Nat} {c : Nat} {Z : sp_G} {g : Nat} (hL : gL Z g ≤ 20) : sp_fl T c Z g = -1 ↔ (∀ k, k < gL Z g → sp_alk T c Z g k = true) ∧ sp_wng T c Z g (gL Z g) = gO Z g := by
  unfold sp_fl
  by_cases h : sp_ft (fun k => !sp_alk T c Z g k) (gL Z g) < gL Z g
  · rw [if_pos h]
    constructor
    · intro e
      exact absurd e (sp_nIm1 (by omega))
    · rintro ⟨h1, -⟩
      have h2 := (sp_ft_lt h).1
      rw [h1 _ h] at h2
      cases h2
  · rw [if_neg h]
    have h1 := sp_ft_ge h
    by_cases hw : sp_wng T c Z g (gL Z g) = gO Z g
    · rw [if_pos hw]
      exact ⟨fun _ => ⟨fun k hk => by have := h1 k hk; simpa using this, hw⟩, fun _ => rfl⟩
    · rw [if_neg hw]
      exact ⟨fun e => absurd e (sp_nIm1 (by omega)), fun e => absurd e.2 hw⟩
theorem sp_sg_b {T : Nat → Nat → Nat} {c : Nat} {Z : sp_G} {g : Nat} : ∀ k, (∀ j, j < k → sp_few c (sp_sg T c Z g j).1 = false) → sp_sg T c Z g k = sp_sg T (c % 512) Z g k
  | 0, _ => rfl
  | k + 1, h => by
    have ih := sp_sg_b k (fun j hj => h j (by omega))
    have h1 := sp_lv_b (T := T) (i := (sp_sg T c Z g k).2) (h k (by omega))
    rw [sp_sg, sp_sg, h1, ih]
theorem sp_sg_b' {T : Nat → Nat → Nat} {c : Nat} {Z : sp_G} {g : Nat} : ∀ k, (∀ j, j < k → sp_few c (sp_sg T (c % 512) Z g j).1 = false) → sp_sg T c Z g k = sp_sg T (c % 512) Z g k
  | 0, _ => rfl
  | k + 1, h => by
    have ih := sp_sg_b' k (fun j hj => h j (by omega))
    have h1 := sp_lv_b (T := T) (c := c) (m := (sp_sg T (c % 512) Z g k).1) (i := (sp_sg T (c % 512) Z g k).2) (h k (by omega))
    rw [sp_sg, sp_sg, ih, h1]
theorem sp_fw_iff {T : Nat → Nat → Nat} {c : Nat} {Z : sp_G} {g e : Nat} (he : e ≤ 12) : ∀ k, e ≤ sp_fw T c Z g k ↔ ∀ j, j < k → e ≤ sp_cn (sp_sg T c Z g j).1
  | 0 => by
    constructor
    · intro _ j hj; omega
    · intro _; exact he
  | k + 1 => by
    rw [sp_fw, Nat.le_min, sp_fw_iff he k]
    constructor
    · rintro ⟨h1, h2⟩ j hj
      by_cases hk : j = k
      · rw [hk]; exact h2
      · exact h1 j (by omega)
    · intro h
      exact ⟨fun j hj => h j (by omega), h k (by omega)⟩
theorem sp_few_i2 {c m : Nat} (hc : c < 4096) : sp_few c m = decide (sp_cn m < c / 512 / 2) := by
  unfold sp_few
  rw [show c / 1024 % 4 = c / 512 / 2 by omega]
theorem sp_fewF {c m : Nat} (hc : c < 4096) : sp_few c m = false ↔ c / 512 / 2 ≤ sp_cn m := by
  rw [sp_few_i2 hc, decide_eq_false_iff_not, Nat.not_lt]
theorem sp_b9 {c : Nat} : c.testBit 9 = decide (c / 512 % 2 = 1) := by
  rw [Nat.testBit, Nat.shiftRight_eq_div_pow, Nat.and_comm, Nat.and_one_is_mod]
  show (c / 512 % 2 != 0) = _
  rcases Nat.mod_two_eq_zero_or_one (c / 512) with h | h <;> rw [h] <;> rfl
theorem sp_ov_e {T : Nat → Nat → Nat} {c : Nat} {Z : sp_G} {g : Nat} (hc : c < 4096) (h : sp_sg T c Z g (gL Z g) = sp_sg T (c % 512) Z g (gL Z g)) : sp_ov T c (sp_sg T c Z g (gL Z g)).1 (sp_sg T c Z g (gL Z g)).2 = sp_eo T (c % 512) Z g (c / 512) := by
  unfold sp_ov sp_eo
  rw [h, sp_b9, sp_few_i2 hc]
  by_cases hf : sp_cn (sp_sg T (c % 512) Z g (gL Z g)).1 < c / 512 / 2
  · rw [decide_eq_true hf, Bool.true_or, Bool.true_or]
  · rw [decide_eq_false hf, sp_lv_b (by rw [sp_few_i2 hc]; exact decide_eq_false hf)]
theorem sp_ef_bit {T : Nat → Nat → Nat} {c : Nat} {Z : sp_G} {g e : Nat} (he : e < 8) : (sp_ef T c Z g).testBit e = true ↔ (∀ k, k < gL Z g → sp_alk T c Z g k = true) ∧ sp_ec T c Z g e = true := by
  unfold sp_ef
  by_cases h : sp_any (fun k => !sp_alk T c Z g k) (gL Z g) = true
  · rw [if_pos h]
    constructor
    · intro z; rw [Nat.zero_testBit] at z; cases z
    · rintro ⟨h1, -⟩
      obtain ⟨j, hj, h2⟩ := (sp_any_iff _ _).mp h
      rw [h1 j hj] at h2
      cases h2
  · rw [if_neg h, sp_or_bit]
    have h' := (sp_any_no _ _).mp (Bool.not_eq_true _ ▸ h)
    constructor
    · intro z
      obtain ⟨j, hj, h2⟩ := (sp_any_iff _ _).mp z
      split at h2
      · rename_i h3
        rw [Nat.testBit_two_pow] at h2
        have : j = e := of_decide_eq_true h2
        subst this
        exact ⟨fun k hk => by have := h' k hk; simpa using this, h3⟩
      · rw [Nat.zero_testBit] at h2; cases h2
    · rintro ⟨-, h2⟩
      refine (sp_any_iff _ _).mpr ⟨e, he, ?_⟩
      rw [if_pos h2, Nat.testBit_two_pow]
      exact decide_eq_true rfl
/-- one walk by the base tells all -/
theorem sp_ef_fl {T : Nat → Nat → Nat} {c : Nat} {Z : sp_G} {g : Nat} (hL : gL Z g ≤ 20) (hc : c < 4096) : (sp_ef T (c % 512) Z g).testBit (c / 512) = true ↔ sp_fl T c Z g = -1 := by
  rw [sp_fl_m1 hL, sp_ef_bit (by omega)]
  have hec : sp_ec T (c % 512) Z g (c / 512) = true ↔ (∀ j, j < gL Z g → c / 512 / 2 ≤ sp_cn (sp_sg T (c % 512) Z g j).1) ∧ (if sp_eo T (c % 512) Z g (c / 512) then nI (1 - gL Z g % 2) else -1) = gO Z g := by
    unfold sp_ec
    rw [Bool.and_eq_true, decide_eq_true_eq, decide_eq_true_eq, sp_fw_iff (by omega)]
  rw [hec]
  have hw : sp_sg T c Z g (gL Z g) = sp_sg T (c % 512) Z g (gL Z g) → (sp_wng T c Z g (gL Z g) = gO Z g ↔ (if sp_eo T (c % 512) Z g (c / 512) then nI (1 - gL Z g % 2) else -1) = gO Z g) := by
    intro e
    unfold sp_wng sp_wn
    rw [sp_ov_e hc e]
  have hal : ∀ k, sp_sg T c Z g k = sp_sg T (c % 512) Z g k → sp_few c (sp_sg T (c % 512) Z g k).1 = false → sp_alk T c Z g k = sp_alk T (c % 512) Z g k := by
    intro k e hf
    unfold sp_alk
    rw [e, sp_lv_b hf]
  constructor
  · rintro ⟨h1, h2, h3⟩
    have hf : ∀ j, j < gL Z g → sp_few c (sp_sg T (c % 512) Z g j).1 = false := fun j hj => (sp_fewF hc).mpr (h2 j hj)
    have hs : ∀ k, k ≤ gL Z g → sp_sg T c Z g k = sp_sg T (c % 512) Z g k := fun k hk => sp_sg_b' k (fun j hj => hf j (by omega))
    exact ⟨fun k hk => by rw [hal k (hs k (by omega)) (hf k hk)]; exact h1 k hk, (hw (hs _ (Nat.le_refl _))).mpr h3⟩
  · rintro ⟨h1, h2⟩
    have hf : ∀ j, j < gL Z g → sp_few c (sp_sg T c Z g j).1 = false := by
      intro j hj
      cases hh : sp_few c (sp_sg T c Z g j).1 with
      | false => rfl
      | true => have := h1 j hj; rw [sp_alk_few hh] at this; cases this
    have hs : ∀ k, k ≤ gL Z g → sp_sg T c Z g k = sp_sg T (c % 512) Z g k := fun k hk => sp_sg_b k (fun j hj => hf j (by omega))
    have hf' : ∀ j, j < gL Z g → sp_few c (sp_sg T (c % 512) Z g j).1 = false := fun j hj => by rw [← hs j (by omega)]; exact hf j hj
    exact ⟨fun k hk => by rw [← hal k (hs k (by omega)) (hf' k hk)]; exact h1 k hk, fun j hj => (sp_fewF hc).mp (hf' j hj), (hw (hs _ (Nat.le_refl _))).mp h2⟩
theorem sp_sum_cong {f g : Nat → Nat} : ∀ {n : Nat}, (∀ j, j < n → f j = g j) → sp_sum f n = sp_sum g n
  | 0, _ => rfl
  | n + 1, h => by rw [sp_sum, sp_sum, sp_sum_cong (fun j hj => h j (by omega)), h n (by omega)]
/-- codes that fit have by one base one WIDE -/
theorem sp_wd_b {T : Nat → Nat → Nat} {c : Nat} {Z : sp_G} (hZ : gm_ok Z) (hf : ∀ g, g < gN Z → sp_fl T c Z g = -1) : sp_wd T c Z = sp_wd T (c % 512) Z := by
  unfold sp_wd
  refine sp_sum_cong (fun g hg => sp_sum_cong (fun k hk => ?_))
  have h1 := ((sp_fl_m1 (gm_20 hZ hg)).mp (hf g hg)).1
  have hf2 : ∀ j, j < gL Z g → sp_few c (sp_sg T c Z g j).1 = false := by
    intro j hj
    cases hh : sp_few c (sp_sg T c Z g j).1 with
    | false => rfl
    | true => have := h1 j hj; rw [sp_alk_few hh] at this; cases this
  have hs := sp_sg_b (T := T) k (fun j hj => hf2 j (by omega))
  unfold sp_wk sp_lc
  rw [sp_lv_b (hf2 k hk), hs]
/-- the ends by which a base FITS the first n GAMES -/
def sp_eb (T : Nat → Nat → Nat) (Z : sp_G) (b : Nat) : Nat → Nat
  | 0 => 255
  | n + 1 => sp_eb T Z b n &&& sp_ef T b Z n
def sp_ends (T : Nat → Nat → Nat) (Z : sp_G) (b : Nat) : Nat := if b = 0 then sp_eb T Z b (gN Z) &&& 254 else sp_eb T Z b (gN Z)
theorem sp_255b : ∀ e, e < 8 → (255 : Nat).testBit e = true := by decide
theorem sp_254b : ∀ e, e < 8 → (254 : Nat).testBit e = decide (e ≠ 0) := by decide
theorem sp_eb_bit {T : Nat → Nat → Nat} {Z : sp_G} {b e : Nat} (he : e < 8) : ∀ n, (sp_eb T Z b n).testBit e = true ↔ ∀ g, g < n → (sp_ef T b Z g).testBit e = true
  | 0 => by
    constructor
    · intro _ g hg; omega
    · intro _; exact sp_255b e he
  | n + 1 => by
    rw [sp_eb, Nat.testBit_and, Bool.and_eq_true, sp_eb_bit he n]
    constructor
    · rintro ⟨h1, h2⟩ g hg
      by_cases e : g = n
      · rw [e]; exact h2
      · exact h1 g (by omega)
    · intro h
      exact ⟨fun g hg => h g (by omega), h n (by omega)⟩
theorem sp_eb_lt (T : Nat → Nat → Nat) (Z : sp_G) (b : Nat) : ∀ n, sp_eb T Z b n < 256
  | 0 => show 255 < 256 by decide
  | n + 1 => Nat.lt_of_le_of_lt Nat.and_le_left (sp_eb_lt T Z b n)
theorem sp_eb_0 {T : Nat → Nat → Nat} {Z : sp_G} {b n : Nat} (h : sp_eb T Z b n = 0) : ∀ k, n ≤ k → sp_eb T Z b k = 0
  | 0, hk => by rw [show n = 0 by omega] at h; exact h
  | k + 1, hk => by
    by_cases e : n = k + 1
    · rw [← e]; exact h
    · rw [sp_eb, sp_eb_0 h k (by omega), Nat.zero_and]
/-- a code FITS -/
def sp_ok1 (T : Nat → Nat → Nat) (Z : sp_G) (c : Nat) : Bool := decide (1 ≤ c) && !sp_any (fun g => !decide (sp_fl T c Z g = -1)) (gN Z)
theorem sp_ok1_iff {T : Nat → Nat → Nat} {Z : sp_G} {c : Nat} : sp_ok1 T Z c = true ↔ 1 ≤ c ∧ ∀ g, g < gN Z → sp_fl T c Z g = -1 := by
  unfold sp_ok1
  rw [Bool.and_eq_true, decide_eq_true_eq, Bool.not_eq_true', sp_any_no]
  simp
theorem sp_ends_bit {T : Nat → Nat → Nat} {Z : sp_G} (hZ : gm_ok Z) {c : Nat} (hc : c < 4096) : (sp_ends T Z (c % 512)).testBit (c / 512) = sp_ok1 T Z c := by
  have key : (sp_ends T Z (c % 512)).testBit (c / 512) = true ↔ sp_ok1 T Z c = true := by
    rw [sp_ok1_iff]
    have h8 : c / 512 < 8 := by omega
    have hall : (∀ g, g < gN Z → (sp_ef T (c % 512) Z g).testBit (c / 512) = true) ↔ ∀ g, g < gN Z → sp_fl T c Z g = -1 := by
      constructor
      · intro h g hg; exact (sp_ef_fl (gm_20 hZ hg) hc).mp (h g hg)
      · intro h g hg; exact (sp_ef_fl (gm_20 hZ hg) hc).mpr (h g hg)
    unfold sp_ends
    by_cases hb : c % 512 = 0
    · rw [if_pos hb, Nat.testBit_and, Bool.and_eq_true, sp_eb_bit h8, sp_254b _ h8, decide_eq_true_eq, hall]
      constructor
      · rintro ⟨h1, h2⟩; exact ⟨by omega, h1⟩
      · rintro ⟨h1, h2⟩; exact ⟨h2, by omega⟩
    · rw [if_neg hb, sp_eb_bit h8, hall]
      constructor
      · intro h; exact ⟨by omega, h⟩
      · rintro ⟨-, h⟩; exact h
  cases h1 : sp_ok1 T Z c with
  | true => exact key.mpr h1
  | false =>
    cases h2 : (sp_ends T Z (c % 512)).testBit (c / 512) with
    | false => rfl
    | true => rw [key.mp h2] at h1; cases h1
theorem sp_ends_lt (T : Nat → Nat → Nat) (Z : sp_G) (b : Nat) : sp_ends T Z b < 256 := by
  unfold sp_ends
  split
  · exact Nat.lt_of_le_of_lt Nat.and_le_left (sp_eb_lt T Z b _)
  · exact sp_eb_lt T Z b _
