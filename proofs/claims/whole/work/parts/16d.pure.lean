/-! the reference: a MOVE is DONE; all LAWFUL MOVES -/
theorem sp_st_c {T : Nat → Nat → Nat} {a b p : Nat} (h : ∀ k, k < 3 → a.testBit k = b.testBit k) : sp_st T a p = sp_st T b p := by
  unfold sp_st
  exact sp_or_cong (fun k hk => by rw [h k hk])
theorem sp_jm_c {T : Nat → Nat → Nat} {a b i p : Nat} (h : ∀ k, k < 3 → a.testBit (3 + k) = b.testBit (3 + k)) : sp_jm T a i p = sp_jm T b i p := by
  unfold sp_jm
  exact sp_or_cong (fun k hk => by rw [h k hk])
theorem sp_jo_c {T : Nat → Nat → Nat} {a b i p q : Nat} (h : ∀ k, k < 3 → a.testBit (3 + k) = b.testBit (3 + k)) : sp_jo T a i p q = sp_jo T b i p q := by
  unfold sp_jo
  rw [sp_or_cong (fun k hk => by rw [h k hk])]
theorem md_1840 {c k : Nat} (hk : k < 3) : (c &&& 184).testBit k = false := by
  rw [Nat.testBit_and]
  rcases (by omega : k = 0 ∨ k = 1 ∨ k = 2) with rfl | rfl | rfl <;> exact Bool.and_false _
theorem sp_st_0 {T : Nat → Nat → Nat} {a p : Nat} (h : ∀ k, k < 3 → a.testBit k = false) : sp_st T a p = 0 := by
  unfold sp_st
  rw [sp_or_cong (g := fun _ => 0) (fun k hk => by rw [h k hk]; rfl)]
  exact sp_or0 3
def md_J (T : Nat → Nat → Nat) (c m i : Nat) : Bool := c.testBit 8 && sp_lj T c m i
theorem md_v0 {T : Nat → Nat → Nat} {c m i : Nat} (h : sp_few c m = true) : sp_lv T c m i = 0 := by
  unfold sp_lv; rw [if_pos h]
theorem md_v1 {T : Nat → Nat → Nat} {c m i : Nat} (h : sp_few c m = false) (hj : md_J T c m i = true) : sp_lv T c m i = c &&& 184 := by
  unfold sp_lv; rw [if_neg (by rw [h]; decide)]; exact if_pos hj
theorem md_v2 {T : Nat → Nat → Nat} {c m i : Nat} (h : sp_few c m = false) (hj : md_J T c m i = false) : sp_lv T c m i = c &&& 255 := by
  unfold sp_lv; rw [if_neg (by rw [h]; decide)]; exact if_neg (by unfold md_J at hj; rw [hj]; decide)
/-- what is let, in the reference's words -/
theorem md_stv {T : Nat → Nat → Nat} {c m i p : Nat} (h : sp_few c m = false) : sp_st T (sp_lv T c m i) p = if md_J T c m i = true then 0 else sp_st T c p := by
  cases hj : md_J T c m i with
  | true => rw [md_v1 h hj, if_pos rfl]; exact sp_st_0 (fun k hk => md_1840 hk)
  | false => rw [md_v2 h hj, if_neg (by decide)]; exact sp_st_c (fun k hk => md_255 (by omega))
theorem md_v3 {T : Nat → Nat → Nat} {c m i : Nat} (h : sp_few c m = false) {k : Nat} (hk : k < 3) : (sp_lv T c m i).testBit (3 + k) = c.testBit (3 + k) := by
  cases hj : md_J T c m i with
  | true => rw [md_v1 h hj]; exact md_184 hk
  | false => rw [md_v2 h hj]; exact md_255 (by omega)
theorem md_v7 {T : Nat → Nat → Nat} {c m i : Nat} (h : sp_few c m = false) : (sp_lv T c m i).testBit 7 = c.testBit 7 := by
  cases hj : md_J T c m i with
  | true => rw [md_v1 h hj, Nat.testBit_and]; exact Bool.and_true _
  | false => rw [md_v2 h hj]; exact md_255 (by omega)
theorem md_v6 {T : Nat → Nat → Nat} {c m i : Nat} (h : sp_few c m = false) : (sp_lv T c m i).testBit 6 = (c.testBit 6 && !md_J T c m i) := by
  cases hj : md_J T c m i with
  | true => rw [md_v1 h hj, Nat.testBit_and]; show (c.testBit 6 && false) = _; rw [Bool.and_false]; simp
  | false => rw [md_v2 h hj, md_255 (by omega)]; simp
theorem md_jmv {T : Nat → Nat → Nat} {c m i p : Nat} (h : sp_few c m = false) : sp_jm T (sp_lv T c m i) i p = sp_jm T c i p := sp_jm_c (fun k hk => md_v3 h hk)
theorem md_jov {T : Nat → Nat → Nat} {c m i p q : Nat} (h : sp_few c m = false) : sp_jo T (sp_lv T c m i) i p q = sp_jo T c i p q := sp_jo_c (fun k hk => md_v3 h hk)
theorem md_Jn {T : Nat → Nat → Nat} {c m i : Nat} : (¬ (c.testBit 8 = true ∧ sp_lj T c m i = true)) ↔ md_J T c m i = false := by
  unfold md_J
  cases c.testBit 8 <;> cases sp_lj T c m i <;> simp
/-- the POINTS to which a piece goes -/
def md_to (T : Nat → Nat → Nat) (c m i p : Nat) : Nat := (sp_jm T c i p &&& ab_no (m ||| i)) ||| (if md_J T c m i = true then 0 else sp_st T c p &&& ab_no (m ||| i))
theorem md_tg {T : Nat → Nat → Nat} {c m i p : Nat} (h : sp_few c m = false) (hp : p < 12) (hb : m.testBit p = true) : sp_tg T (sp_lv T c m i) m i p = md_to T c m i p := by
  unfold sp_tg md_to
  rw [if_neg (by omega), if_pos ⟨hp, hb⟩, md_stv h, md_jmv h]
  cases hj : md_J T c m i with
  | true => rw [if_pos rfl, if_pos rfl, Nat.zero_or, Nat.or_zero]
  | false => rw [if_neg (by decide), if_neg (by decide), Nat.or_comm, Nat.and_or_distrib_right]
theorem md_tgn {T : Nat → Nat → Nat} {v m i p : Nat} (hp : p < 12) (hb : m.testBit p = false) : sp_tg T v m i p = 0 := by
  unfold sp_tg
  rw [if_neg (by omega), if_neg (by rw [hb]; simp)]
theorem md_to_lt {T : Nat → Nat → Nat} {c m i p : Nat} : md_to T c m i p < 4096 := by
  unfold md_to
  refine Nat.or_lt_two_pow (n := 12) (Nat.lt_of_le_of_lt Nat.and_le_right (ab_no_lt _)) ?_
  split
  · decide
  · exact Nat.lt_of_le_of_lt Nat.and_le_right (ab_no_lt _)
theorem md_hwJ (T : Nat → Nat → Nat) (c m i x : Nat) : md_hw T c m i x =
  if sp_few c m = true then 0 else if (ab_no (m ||| i)).testBit (x % 16) = false then 0
  else if 240 ≤ x then (if c.testBit 6 = true ∧ md_J T c m i = false then 1 else 0)
  else if m.testBit (x / 16) = false then 0
  else if (sp_st T c (x / 16) &&& ab_no (m ||| i)).testBit (x % 16) = true ∧ md_J T c m i = false then 1
  else if (sp_jm T c i (x / 16) &&& ab_no (m ||| i)).testBit (x % 16) = true then 2 else 0 := by
  unfold md_hw
  simp only [md_Jn]
theorem md_al {T : Nat → Nat → Nat} {c m i x : Nat} (hx : sp_mv x) : sp_al T (sp_lv T c m i) m i x = !decide (md_hw T c m i x = 0) := by
  rw [md_hwJ]
  unfold sp_al
  cases hf : sp_few c m with
  | true => rw [if_pos rfl, md_v0 hf, sp_tg_0, Nat.zero_testBit]; rfl
  | false =>
    rw [if_neg (by decide)]
    by_cases h15 : x / 16 = 15
    · rw [h15]
      show (if (sp_lv T c m i).testBit 6 = true then ab_no (m ||| i) else 0).testBit (x % 16) = _
      rw [md_v6 hf]
      cases he : (ab_no (m ||| i)).testBit (x % 16) with
      | false =>
        rw [if_pos rfl]
        split
        · rw [he]; rfl
        · rw [Nat.zero_testBit]; rfl
      | true =>
        rw [if_neg (by decide : ¬ true = false), if_pos (show 240 ≤ x by omega)]
        cases c.testBit 6 with
        | false => simp
        | true =>
          cases md_J T c m i with
          | true => simp
          | false => simp [he]
    · have h12 : x / 16 < 12 := by rcases hx.2.2 with z | z <;> omega
      rw [if_neg (show ¬ 240 ≤ x by have := hx.2.1; omega)]
      cases hb : m.testBit (x / 16) with
      | false =>
        rw [md_tgn h12 hb, Nat.zero_testBit, if_pos rfl]
        simp
      | true =>
        rw [md_tg hf h12 hb, if_neg (by decide : ¬ true = false)]
        unfold md_to
        rw [Nat.testBit_or, Nat.testBit_and, Nat.testBit_and]
        cases he : (ab_no (m ||| i)).testBit (x % 16) with
        | false =>
          rw [if_pos rfl, Bool.and_false]
          split
          · simp
          · rw [Nat.testBit_and, he, Bool.and_false]; rfl
        | true =>
          rw [if_neg (by decide : ¬ true = false), Bool.and_true, Bool.and_true]
          cases hj : md_J T c m i with
          | true =>
            rw [if_pos rfl, Nat.zero_testBit, Bool.or_false, if_neg (by simp)]
            cases (sp_jm T c i (x / 16)).testBit (x % 16) <;> simp
          | false =>
            rw [if_neg (by decide), Nat.testBit_and, he, Bool.and_true]
            cases (sp_jm T c i (x / 16)).testBit (x % 16) <;> cases (sp_st T c (x / 16)).testBit (x % 16) <;> simp
theorem md_few {T : Nat → Nat → Nat} {c m i x : Nat} (h : ¬ md_hw T c m i x = 0) : sp_few c m = false := by
  cases hf : sp_few c m with
  | false => rfl
  | true => exact absurd (by unfold md_hw; rw [if_pos hf]) h
theorem md_tk {T : Nat → Nat → Nat} {c m i x : Nat} (hx : sp_mv x) (h240 : x < 240) : sp_tk T (sp_lv T c m i) m i x = (decide (md_hw T c m i x = 2) && c.testBit 7) := by
  unfold sp_tk
  rw [md_al hx]
  by_cases h0 : md_hw T c m i x = 0
  · rw [h0]; simp
  · have hf := md_few h0
    have h12 : x / 16 < 12 := by rcases hx.2.2 with z | z <;> omega
    rw [md_v7 hf, md_stv hf, decide_eq_false h0]
    have e : md_hw T c m i x = if (sp_st T c (x / 16) &&& ab_no (m ||| i)).testBit (x % 16) = true ∧ md_J T c m i = false then 1 else if (sp_jm T c i (x / 16) &&& ab_no (m ||| i)).testBit (x % 16) = true then 2 else 0 := by
      have h1 := h0
      rw [md_hwJ] at h1 ⊢
      rw [if_neg (by rw [hf]; decide)] at h1 ⊢
      by_cases he : (ab_no (m ||| i)).testBit (x % 16) = false
      · rw [if_pos he] at h1
        exact absurd rfl h1
      · rw [if_neg he] at h1 ⊢
        rw [if_neg (by omega)] at h1 ⊢
        by_cases hb : m.testBit (x / 16) = false
        · rw [if_pos hb] at h1
          exact absurd rfl h1
        · rw [if_neg hb]
    have he : (ab_no (m ||| i)).testBit (x % 16) = true := by
      cases he : (ab_no (m ||| i)).testBit (x % 16) with
      | true => rfl
      | false =>
        exfalso
        apply h0
        unfold md_hw
        rw [if_neg (by rw [hf]; decide), if_pos he]
    rw [Nat.testBit_and, Nat.testBit_and, he, Bool.and_true, Bool.and_true] at e
    rw [e] at h0 ⊢
    cases hj : md_J T c m i <;> cases h1 : (sp_st T c (x / 16)).testBit (x % 16) <;> cases h2 : (sp_jm T c i (x / 16)).testBit (x % 16) <;> cases c.testBit 7 <;> simp_all
theorem md_jn {T : Nat → Nat → Nat} (hO : sp_ok T) {c m i x : Nat} (hi : i < 4096) (hx : sp_mv x) (h240 : x < 240) (h : md_hw T c m i x = 2) : ¬ sp_jo T c i (x / 16) (x % 16) = 0 := by
  refine (sp_jm_bit hO hi (by rcases hx.2.2 with z | z <;> omega) hx.2.1).mp ?_
  unfold md_hw at h
  split at h
  · cases h
  · split at h
    · cases h
    · rw [if_neg (by omega)] at h
      split at h
      · cases h
      · split at h
        · cases h
        · split at h
          · rename_i z
            rw [Nat.testBit_and, Bool.and_eq_true] at z
            exact z.1
          · cases h
theorem md_cs {x q : Nat} (hx : x < 4096) : sp_clr x q ||| 2 ^ q = sp_set x q := by
  unfold sp_set
  apply Nat.eq_of_testBit_eq
  intro j
  rw [Nat.testBit_or, Nat.testBit_or, sp_clr_bit hx, Nat.testBit_two_pow]
  by_cases e : q = j <;> simp [e]
theorem md_m1 {m i p q : Nat} (hm : m < 4096) : sp_clr (sp_clr m p) q ||| (if m.testBit p = true then 2 ^ q else 0) = sp_m1 m i p q := by
  unfold sp_m1 sp_who
  cases hb : m.testBit p with
  | true => rw [if_pos rfl, if_pos rfl, if_pos rfl, md_cs (sp_clr_lt hm p)]
  | false =>
    simp only [Bool.false_eq_true, if_false, Nat.or_zero]
    rw [if_neg (by split <;> decide)]
theorem md_i1 {m i p q : Nat} (hi : i < 4096) (hd : sp_dj m i) : sp_clr (sp_clr i p) q ||| (if i.testBit p = true then 2 ^ q else 0) = sp_i1 m i p q := by
  unfold sp_i1 sp_who
  cases hb : i.testBit p with
  | true =>
    have hmb : m.testBit p = false := by
      cases h : m.testBit p with
      | false => rfl
      | true => exact absurd ⟨h, hb⟩ (hd p)
    simp only [hmb, Bool.false_eq_true, if_false, if_true]
    exact md_cs (sp_clr_lt hi p)
  | false =>
    simp only [Bool.false_eq_true, if_false, Nat.or_zero]
    rw [if_neg (by split <;> decide)]
def md_jc (T : Nat → Nat → Nat) (c i p q o k : Nat) : Bool := c.testBit (3 + k) && (i.testBit o && ((T k p).testBit o && (T k o).testBit q))
theorem md_jc_any {T : Nat → Nat → Nat} (hO : sp_ok T) {c i p q o : Nat} (hq : q < 12) (ho : o < 12) : sp_any (md_jc T c i p q o) 3 = (sp_jo T c i p q).testBit o := by
  unfold sp_jo
  rw [Nat.testBit_and, sp_or_bit]
  apply Bool.eq_iff_iff.mpr
  rw [Bool.and_eq_true, sp_any_iff, sp_any_iff]
  constructor
  · rintro ⟨k, hk, h⟩
    unfold md_jc at h
    simp only [Bool.and_eq_true] at h
    refine ⟨⟨k, hk, ?_⟩, h.2.1⟩
    rw [if_pos h.1, Nat.testBit_and, h.2.2.1, hO.2 k q o hk hq ho, h.2.2.2]
    rfl
  · rintro ⟨⟨k, hk, h⟩, h2⟩
    refine ⟨k, hk, ?_⟩
    by_cases hc : c.testBit (3 + k) = true
    · rw [if_pos hc, Nat.testBit_and, Bool.and_eq_true, hO.2 k q o hk hq ho] at h
      unfold md_jc
      rw [hc, h2, h.1, h.2]
      rfl
    · rw [if_neg hc, Nat.zero_testBit] at h
      cases h
theorem md_lo {x o : Nat} (ho : o < 12) (h : x.testBit o = true) (hl : ∀ j, j < o → x.testBit j = false) : sp_lo x = o := by
  have hr : List.range 12 = [0, 1, 2, 3, 4, 5, 6, 7, 8, 9, 10, 11] := rfl
  rcases (by omega : o = 0 ∨ o = 1 ∨ o = 2 ∨ o = 3 ∨ o = 4 ∨ o = 5 ∨ o = 6 ∨ o = 7 ∨ o = 8 ∨ o = 9 ∨ o = 10 ∨ o = 11) with rfl | rfl | rfl | rfl | rfl | rfl | rfl | rfl | rfl | rfl | rfl | rfl <;> simp [sp_lo, hr, List.find?, h, hl]
