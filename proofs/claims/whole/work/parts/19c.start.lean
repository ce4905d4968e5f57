/-! what both sides hold at first -/
def js_0 : jP := (fun _ _ => 0, (0, 0, 0), (0, fun _ => 0, fun _ => 0, fun _ => 0, fun _ => 0, fun _ _ => 0), (0, fun _ => 1), (fun _ => -1, fun _ => 0, fun _ _ => 0), [], fun _ => 0, -1, none)
theorem js_0ok : jok js_0 := ⟨⟨fun k p _ _ => ⟨(by decide : 0 < 4096), Nat.zero_testBit p⟩, fun k p q _ _ _ => (Nat.zero_testBit q).trans (Nat.zero_testBit p).symm⟩, ⟨(by decide : 0 < 4096), (by decide : 0 < 4096), (by decide : 0 < 2), fun p z => by have z1 : (0 : Nat).testBit p = true := z.1; rw [Nat.zero_testBit] at z1; cases z1⟩, ⟨(by decide : 0 ≤ 6), fun g hg => absurd hg (Nat.not_lt_zero g)⟩, ⟨(by decide : 0 ≤ 8), fun k hk => absurd hk (Nat.not_lt_zero k)⟩, fun s _ => ⟨Or.inl rfl, Nat.zero_le _⟩, (by decide : 0 < 20), fun I hI => by cases hI⟩
theorem js_0h1 {s : Nat} (hs : s < 8) : lm_h 1 s = -1 := by
  have e : lm_h 1 s = wi_h (hz_ 0 (fun _ _ => 0)) 1 s := rfl
  rw [e]
  exact if_pos ⟨rfl, hs⟩
theorem js_0C : jC js_0 (fun _ => 0) 0 lm_h lm_g (lm_r 12) := by
  refine ⟨fun k p _ _ => rfl, rfl, ⟨rfl, fun g hg => absurd hg (Nat.not_lt_zero g)⟩, ⟨rfl, fun j hj => absurd hj (Nat.not_lt_zero j)⟩, ⟨fun s hs => ⟨js_0h1 hs, rfl⟩, fun s k hs hk => ?_⟩, ⟨rfl, fun i b hb => by cases hb⟩, fun k _ _ => rfl, rfl, rfl, Or.inl rfl, Or.inl rfl, Or.inl rfl⟩
  rcases (by omega : s = 0 ∨ s = 1 ∨ s = 2 ∨ s = 3 ∨ s = 4 ∨ s = 5 ∨ s = 6 ∨ s = 7) with e | e | e | e | e | e | e | e <;> subst e <;> rfl
theorem js_0D : jD js_0 lm_h lm_g := by
  refine ⟨fun k p _ _ => rfl, ⟨rfl, rfl, rfl⟩, ⟨rfl, fun y hy => absurd hy (Nat.not_lt_zero y)⟩, ⟨rfl, fun k hk => absurd hk (Nat.not_lt_zero k)⟩, ⟨fun s hs => ⟨⟨rfl, fun z => absurd z (show ¬ (100 : Int32) ≤ -1 by decide), fun z => absurd z (show ¬ jhx (-1) = 2 by decide)⟩, rfl⟩, fun s k hs hk => rfl⟩, ⟨rfl, fun i b hb => by cases hb⟩, fun k _ _ => rfl, rfl, rfl, ⟨Or.inl rfl, Or.inl rfl, Or.inl (by show ¬ lm_h 30 32 = 1; rw [show lm_h 30 32 = 0 from rfl]; decide)⟩, fun i hi k hk => ?_⟩
  rcases (by omega : i = 0 ∨ i = 1 ∨ i = 2 ∨ i = 3 ∨ i = 4 ∨ i = 5) with e | e | e | e | e | e <;> subst e <;> rcases (by omega : k = 0 ∨ k = 1 ∨ k = 2) with f | f | f <;> subst f <;> rfl
theorem js_start : jA 0 lm_h lm_g (lm_r 12) := ⟨js_0, fun _ => 0, js_0ok, js_0C, js_0D⟩
