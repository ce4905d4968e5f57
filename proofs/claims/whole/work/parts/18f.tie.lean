/-! calls that change TIES: tie; the IMAGE -/
def jTt (T : Nat → Nat → Nat) (z x y : Nat) : Nat → Nat → Nat := fun k p => if k = z ∧ p = y then T z y ^^^ 2 ^ x else if k = z ∧ p = x then T z x ^^^ 2 ^ y else T k p
theorem jTt_bit {T : Nat → Nat → Nat} {z x y : Nat} (hxy : ¬ x = y) (k p q : Nat) : (jTt T z x y k p).testBit q = ((T k p).testBit q ^^ decide (k = z ∧ ((p = x ∧ q = y) ∨ (p = y ∧ q = x)))) := by
  unfold jTt
  by_cases h1 : k = z ∧ p = y
  · rw [if_pos h1, Nat.testBit_xor, Nat.testBit_two_pow, h1.1, h1.2]
    congr 1
    rw [decide_eq_decide]
    omega
  · rw [if_neg h1]
    by_cases h2 : k = z ∧ p = x
    · rw [if_pos h2, Nat.testBit_xor, Nat.testBit_two_pow, h2.1, h2.2]
      congr 1
      rw [decide_eq_decide]
      omega
    · rw [if_neg h2, decide_eq_false (by omega), Bool.xor_false]
theorem jTt_ok {T : Nat → Nat → Nat} (hO : sp_ok T) {z x y : Nat} (hx : x < 12) (hy : y < 12) (hxy : ¬ x = y) : sp_ok (jTt T z x y) := by
  refine ⟨fun k p hk hp => ⟨?_, ?_⟩, fun k p q hk hp hq => ?_⟩
  · unfold jTt
    split
    · rename_i e; rw [← e.1, ← e.2]; exact Nat.xor_lt_two_pow (n := 12) (hO.lt hk hp) (Nat.pow_lt_pow_right (by decide) hx)
    · split
      · rename_i e; rw [← e.1, ← e.2]; exact Nat.xor_lt_two_pow (n := 12) (hO.lt hk hp) (Nat.pow_lt_pow_right (by decide) hy)
      · exact hO.lt hk hp
  · rw [jTt_bit hxy, (hO.1 k p hk hp).2, decide_eq_false (by omega)]
    rfl
  · rw [jTt_bit hxy, jTt_bit hxy, hO.2 k p q hk hp hq]
    congr 1
    rw [decide_eq_decide]
    omega
theorem jTt_T {T : Nat → Nat → Nat} {h h' : Nat → Nat → Int32} {pl : Nat} (hT : bo_T T h pl) {z x y : Nat} (hz : z < 3) (hx : x < 12) (hy : y < 12) (e : ∀ b, h' pl b = if b = 12 * z + y then nI (T z y ^^^ 2 ^ x) else if b = 12 * z + x then nI (T z x ^^^ 2 ^ y) else h pl b) : bo_T (jTt T z x y) h' pl := by
  intro k p hk hp
  rw [e]
  unfold jTt
  by_cases h1 : k = z ∧ p = y
  · rw [if_pos h1, if_pos (by omega)]
  · rw [if_neg h1, if_neg (by omega)]
    by_cases h2 : k = z ∧ p = x
    · rw [if_pos h2, if_pos (by omega)]
    · rw [if_neg h2, if_neg (by omega)]
      exact hT k p hk hp
def jTs (σ : jP) (T : Nat → Nat → Nat) : jP := (T, σ.2)
theorem jC_T {σ : jP} {q : Nat → Nat} {nr : Nat} {h h' : Nat → Nat → Int32} {g : Nat → Nat → Int64} {rr : Nat → Option Nat} (H : jC σ q nr h g rr) {T : Nat → Nat → Nat} (hT : bo_T T h' 17) (e : ∀ a, a ≠ 17 → a ≠ 14 → h' a = h a) (k1 : h' 14 9 = 0) (k2 : h' 14 10 = -1) (k3 : h' 14 11 = -1) : jC (jTs σ T) q nr h' g rr := by
  obtain ⟨-, h2, h3, ⟨h4, h5⟩, ⟨h6, h7⟩, h8, h9, h10, h11, -⟩ := H
  have e0 := e 0 (by decide) (by decide)
  exact ⟨hT, by rw [e0]; exact h2, gm_C_fr (e 15 (by decide) (by decide)) (e 18 (by decide) (by decide)) (e 19 (by decide) (by decide)) (e 20 (by decide) (by decide)) (e 21 (by decide) (by decide)) h3, ⟨by rw [e0]; exact h4, ru_fr (fun a ha => e a (by omega) (by omega)) h5⟩, ⟨by rw [e 1 (by decide) (by decide), e 2 (by decide) (by decide)]; exact h6, h7⟩, tr_fr (e 13 (by decide) (by decide)) h8, by rw [e 28 (by decide) (by decide)]; exact h9, by rw [e0]; exact h10, jIC_fr e0 (e 29 (by decide) (by decide)) _ h11, Or.inl k1, Or.inl k2, Or.inl k3⟩
theorem jD_T {σ : jP} {h h' : Nat → Nat → Int32} {g : Nat → Nat → Int64} (H : jD σ h g) {T : Nat → Nat → Nat} (hT : bo_T T h' 32) (e : ∀ a, a ≠ 32 → a ≠ 30 → h' a = h a) (e3 : ∀ b, b < 31 ∨ 33 < b → h' 30 b = h 30 b) (k1 : h' 30 31 = -1) (k2 : h' 30 32 = 0) (k3 : h' 30 33 = -1) : jD (jTs σ T) h' g := by
  obtain ⟨-, h2, h3, ⟨h4, h5⟩, ⟨h6, h7⟩, h8, h9, h10, h11, -, h13⟩ := H
  exact ⟨hT, md_bd_fr (e3 5 (by decide)) (e3 3 (by decide)) (e3 4 (by decide)) h2, md_G_fr (e3 1 (by decide)) (e 34 (by decide) (by decide)) (e 35 (by decide) (by decide)) (e 36 (by decide) (by decide)) (e 37 (by decide) (by decide)) h3, ⟨(e3 0 (by decide)).trans h4, by rw [e 33 (by decide) (by decide)]; exact h5⟩, ⟨by rw [e 38 (by decide) (by decide), e 39 (by decide) (by decide), e 40 (by decide) (by decide), e 41 (by decide) (by decide)]; exact h6, h7⟩, mt_fr (e3 37 (by decide)) (e 49 (by decide) (by decide)) h8, by rw [e 31 (by decide) (by decide)]; exact h9, (e3 2 (by decide)).trans h10, jIM_id (σ := σ) rfl rfl h' _ (jIM_fr (fun b b1 b2 => e3 b (by omega)) (e 50 (by decide) (by decide)) _ h11), ⟨Or.inl k1, Or.inl k3, Or.inl (by rw [k2]; decide)⟩, by rw [e 48 (by decide) (by decide)]; exact h13⟩
theorem jnI {a b : Nat} (ha : a < 12) (hb : b < 12) : nI a = nI b ↔ a = b := ab_inj (by omega) (by omega)
theorem js_tie (l : Launch) {σ : jP} {q : Nat → Nat} {nr : Nat} {h : Nat → Nat → Int32} {g : Nat → Nat → Int64} {rr : Nat → Option Nat} (h0 : jok σ) (hC : jC σ q nr h g rr) (hD : jD σ h g) (x y z w : Int32) : ab_C l am_W_tie 20 0 0 (.ref 0 :: [.int x, .int y, .int z, .int w]) (ab_S nr h g rr) (jN l am_M_tie [.int x, .int y, .int z, .int w]) := by
  have hW := ct_W_tie l 18 nr h g rr hC.1 h0.1 x y z w
  have hM := fun h1 g1 (hD1 : jD σ h1 g1) => ct_M_tie l 19 nr h1 g1 rr hD1.1 h0.1 x y z w
  by_cases c1 : ab_bz (sp_pt x) = 0
  · exact jqb h0 hC hD hW hM (v := .int (-1 : Int32)) (some 1) (jo7s (by decide)) (by unfold fx_W_tie; rw [if_pos c1]; rfl) (fun h1 _ => by unfold fx_M_tie; rw [if_pos c1]; rfl)
  · by_cases c2 : ab_bz (sp_pt y) = 0
    · exact jqb h0 hC hD hW hM (v := .int (-1 : Int32)) (some 1) (jo7s (by decide)) (by unfold fx_W_tie; rw [if_neg c1, if_pos c2]; rfl) (fun h1 _ => by unfold fx_M_tie; rw [if_neg c1, if_pos c2]; rfl)
    · by_cases c3 : ab_bz (sp_tk3 z) = 0
      · refine jqb h0 hC hD hW hM (v := .int (-1 : Int32)) (some 1) (jo7s (by decide)) (by unfold fx_W_tie; rw [if_neg c1, if_neg c2, if_pos c3]; rfl) (fun h1 _ => ?_)
        unfold fx_M_tie
        rw [if_neg c1, if_neg c2]
        by_cases d : z < 0
        · rw [if_pos d]; rfl
        · rw [if_neg d, if_neg (show ¬ z ≤ 2 from fun e => ja_dec.mp c3 ⟨Int32.not_lt.mp d, by have := Int32.le_iff_toInt_le.mp e; exact Int32.lt_iff_toInt_lt.mpr (by have e : (2 : Int32).toInt = 2 := rfl; have e2 : (3 : Int32).toInt = 3 := rfl; omega)⟩)]; rfl
      · obtain ⟨xn, hx, rfl⟩ := sp_pt__n c1
        obtain ⟨yn, hy, rfl⟩ := sp_pt__n c2
        obtain ⟨zn, hz, rfl⟩ := sp_tk3_n c3
        have tx : (nI xn).toNatClampNeg = xn := ab_tn (by omega)
        have ty : (nI yn).toNatClampNeg = yn := ab_tn (by omega)
        have tz : (nI zn).toNatClampNeg = zn := ab_tn (by omega)
        have z0 : ¬ nI zn < (0 : Int32) := fun e => absurd ((ab_lt (b := 0) (by omega) (by decide)).mp e) (Nat.not_lt_zero _)
        have z2 : nI zn ≤ (2 : Int32) := (ab_le (b := 2) (by omega) (by decide)).mpr (by omega)
        by_cases c4 : xn = yn
        · exact jqb h0 hC hD hW hM (v := .int (-6 : Int32)) (some 6) (jo7s (by decide)) (by unfold fx_W_tie; rw [if_neg c1, if_neg c2, if_neg c3, tx, ty, if_pos (by rw [c4])]; rfl) (fun h1 _ => by unfold fx_M_tie; rw [if_neg c1, if_neg c2, if_neg z0, if_pos z2, tx, ty, if_pos (by rw [c4])]; rfl)
        · have n4 : ¬ nI xn = nI yn := fun e => c4 ((jnI hx hy).mp e)
          by_cases c5 : ab_bz ((jT σ zn xn).testBit yn) = w
          · refine jqb h0 hC hD hW hM (v := .int (0 : Int32)) none jo7n (by unfold fx_W_tie; rw [if_neg c1, if_neg c2, if_neg c3, tx, ty, tz, if_neg n4, if_pos c5]; rfl) (fun h1 _ => ?_)
            unfold fx_M_tie
            rw [if_neg c1, if_neg c2, if_neg z0, if_pos z2, tx, ty, tz, if_neg n4]
            subst c5
            cases (jT σ zn xn).testBit yn with
            | false => rw [if_neg (by decide), if_pos (by decide)]; rfl
            | true => rw [if_pos (by decide), if_pos (by decide)]; rfl
          · have n3 : ¬ (12 * zn + xn = 12 * zn + yn) := by omega
            refine jEb (σ' := jTs σ (jTt (jT σ) zn xn yn)) (q' := q) ⟨jTt_ok h0.1 hx hy c4, h0.2⟩ hD hW hM (v := .int (1 : Int32)) (by unfold fx_W_tie; rw [if_neg c1, if_neg c2, if_neg c3, tx, ty, tz, if_neg n4, if_neg c5]) ⟨jC_T hC (jTt_T hC.1 hz hx hy (fun b => ?_)) (fun a a1 a2 => by rw [ab_u2_row a2, ab_u2_row a2, ab_u2_row a2, ab_u2_row a1, ab_u2_row a1]) rfl rfl rfl, fun a a1 a2 => by rw [ab_u2_row (by omega), ab_u2_row (by omega), ab_u2_row (by omega), ab_u2_row (by omega), ab_u2_row (by omega)], rfl⟩ (fun h1 g1 hD1 => ⟨ab_u2 (ab_u2 (ab_u2 (ab_u2 (ab_u2 h1 32 (12 * zn + xn) (nI (jT σ zn xn ^^^ 2 ^ yn))) 32 (12 * zn + yn) (nI (jT σ zn yn ^^^ 2 ^ xn))) 30 31 (-1 : Int32)) 30 32 (0 : Int32)) 30 33 (-1 : Int32), g1, ?_, jD_T hD1 (jTt_T hD1.1 hz hx hy (fun b => ?_)) (fun a a1 a2 => by rw [ab_u2_row a2, ab_u2_row a2, ab_u2_row a2, ab_u2_row a1, ab_u2_row a1]) (fun b hb => by rw [ab_u2_ne (by omega), ab_u2_ne (by omega), ab_u2_ne (by omega), ab_u2_k (by decide), ab_u2_k (by decide)]) rfl rfl rfl, fun a ha => by rw [ab_u2_row (by omega), ab_u2_row (by omega), ab_u2_row (by omega), ab_u2_row (by omega), ab_u2_row (by omega)], fun _ _ => rfl⟩)
            · rw [ab_u2_k (by decide), ab_u2_k (by decide), ab_u2_k (by decide)]
              by_cases e1 : b = 12 * zn + yn
              · rw [if_pos e1, e1, ab_u2_at]
              · rw [if_neg e1, ab_u2_ne (fun e => e1 e.2)]
                by_cases e2 : b = 12 * zn + xn
                · rw [if_pos e2, e2, ab_u2_at]
                · rw [if_neg e2, ab_u2_ne (fun e => e2 e.2)]
            · unfold fx_M_tie
              rw [if_neg c1, if_neg c2, if_neg z0, if_pos z2, tx, ty, tz, if_neg n4]
              cases hb : (jT σ zn xn).testBit yn with
              | false =>
                rw [hb] at c5
                rw [if_neg (by decide), if_neg (show ¬ (0 : Int32) = w from c5)]
              | true =>
                rw [hb] at c5
                rw [if_pos (by decide), if_neg (show ¬ (1 : Int32) = w from c5)]
            · rw [ab_u2_k (by decide), ab_u2_k (by decide), ab_u2_k (by decide)]
              by_cases e1 : b = 12 * zn + yn
              · rw [if_pos e1, e1, ab_u2_at]
              · rw [if_neg e1, ab_u2_ne (fun e => e1 e.2)]
                by_cases e2 : b = 12 * zn + xn
                · rw [if_pos e2, e2, ab_u2_at]
                · rw [if_neg e2, ab_u2_ne (fun e => e2 e.2)]
/-! the IMAGE -/
theorem md_cp_no {h : Nat → Nat → Int32} {s d o1 o2 k a b : Nat} (hn : ¬ (a = d ∧ o2 ≤ b ∧ b < o2 + k)) : md_cp h s d o1 o2 k a b = h a b := if_neg hn
theorem md_cp_y {h : Nat → Nat → Int32} {s d o1 o2 k b : Nat} (hb : o2 ≤ b ∧ b < o2 + k) : md_cp h s d o1 o2 k d b = h s (o1 + (b - o2)) := if_pos ⟨rfl, hb⟩
theorem md_al_0a {h : Nat → Nat → Int32} {a b : Nat} (ha : a ≠ 50) : md_al_0 h a b = h a b := by
  unfold md_al_0
  rw [md_cp_no (by omega), md_cp_no (by omega), md_cp_no (by omega), md_cp_no (by omega), md_cp_no (by omega), md_cp_no (by omega)]
theorem md_al_0r {h : Nat → Nat → Int32} {a : Nat} (ha : a ≠ 50) : md_al_0 h a = h a := funext fun _ => md_al_0a ha
theorem md_al_01 {h : Nat → Nat → Int32} {b : Nat} (hb : b < 36) : md_al_0 h 50 b = h 32 b := by
  unfold md_al_0
  rw [md_cp_no (by omega), md_cp_no (by omega), md_cp_no (by omega), md_cp_no (by omega), md_cp_no (by omega), md_cp_y (by omega)]
  exact congrArg (h 32) (by omega)
theorem md_al_02 {h : Nat → Nat → Int32} {b : Nat} (hb : b < 8) : md_al_0 h 50 (36 + b) = h 33 b := by
  unfold md_al_0
  rw [md_cp_no (by omega), md_cp_no (by omega), md_cp_no (by omega), md_cp_no (by omega), md_cp_y (by omega), md_cp_no (by omega)]
  exact congrArg (h 33) (by omega)
theorem md_al_03 {h : Nat → Nat → Int32} {b : Nat} (hb : b < 72) : md_al_0 h 50 (44 + b) = h 34 b := by
  unfold md_al_0
  rw [md_cp_no (by omega), md_cp_no (by omega), md_cp_no (by omega), md_cp_y (by omega), md_cp_no (by omega), md_cp_no (by omega)]
  exact congrArg (h 34) (by omega)
theorem md_al_04 {h : Nat → Nat → Int32} {b : Nat} (hb : b < 120) : md_al_0 h 50 (116 + b) = h 35 b := by
  unfold md_al_0
  rw [md_cp_no (by omega), md_cp_no (by omega), md_cp_y (by omega), md_cp_no (by omega), md_cp_no (by omega), md_cp_no (by omega)]
  exact congrArg (h 35) (by omega)
theorem md_al_05 {h : Nat → Nat → Int32} {b : Nat} (hb : b < 6) : md_al_0 h 50 (236 + b) = h 36 b := by
  unfold md_al_0
  rw [md_cp_no (by omega), md_cp_y (by omega), md_cp_no (by omega), md_cp_no (by omega), md_cp_no (by omega), md_cp_no (by omega)]
  exact congrArg (h 36) (by omega)
theorem md_al_06 {h : Nat → Nat → Int32} {b : Nat} (hb : b < 6) : md_al_0 h 50 (242 + b) = h 37 b := by
  unfold md_al_0
  rw [md_cp_y (by omega), md_cp_no (by omega), md_cp_no (by omega), md_cp_no (by omega), md_cp_no (by omega), md_cp_no (by omega)]
  exact congrArg (h 37) (by omega)
def jIs (σ : jP) : jP := (σ.1, σ.2.1, σ.2.2.1, σ.2.2.2.1, σ.2.2.2.2.1, σ.2.2.2.2.2.1, σ.2.2.2.2.2.2.1, σ.2.2.2.2.2.2.2.1, some (jT σ, (jm σ, ji σ, jt σ), jn σ, gN (jZ σ)))
theorem jok_I {σ : jP} (H : jok σ) : jok (jIs σ) := ⟨H.1, H.2.1, H.2.2.1, H.2.2.2.1, H.2.2.2.2.1, H.2.2.2.2.2.1, fun I hI => by
  have e : I = (jT σ, (jm σ, ji σ, jt σ), jn σ, gN (jZ σ)) := (Option.some.inj hI).symm
  rw [e]
  exact ⟨H.1, H.2.1, Nat.le_refl _, Nat.le_refl _⟩⟩
theorem js_image (l : Launch) {σ : jP} {q : Nat → Nat} {nr : Nat} {h : Nat → Nat → Int32} {g : Nat → Nat → Int64} {rr : Nat → Option Nat} (h0 : jok σ) (hC : jC σ q nr h g rr) (hD : jD σ h g) : ab_C l am_W_image 20 0 0 (.ref 0 :: []) (ab_S nr h g rr) (jN l am_M_image []) := by
  refine jE (v := .int (nI (gN (jZ σ)))) (q' := q) (jok_I h0) hD (ab_C_wk (ct_W_image l 19 nr h g rr) ?_) (fun h1 g1 hD1 => ab_C_wk (ct_M_image l 18 nr h1 g1 rr) ?_)
  · intro r M1 K
    obtain ⟨K1, K2⟩ := Prod.mk.inj K
    obtain ⟨h1, h2, h3, ⟨h4, h5⟩, ⟨h6, h7⟩, h8, h9, h10, h11, h12⟩ := hC
    refine ⟨by rw [K1, h3.1], _, g, K2, ?_, fun a a1 a2 => ?_, rfl⟩
    · have e : ∀ a, a ≠ 0 → a ≠ 29 → (ab_u2 (ab_u2 (ab_u2 (ab_cpy (ab_u2 h 0 12 (1 : Int32)) 17 29 0 0 36) 0 14 (h 0 10)) 0 15 (h 0 4)) 0 16 (h 15 5)) a = h a := fun a a1 a2 => by
        rw [ab_u2_row a1, ab_u2_row a1, ab_u2_row a1]
        exact (funext fun b => if_neg a2).trans (ab_u2_row a1)
      have e0 : ∀ b, b < 12 → (ab_u2 (ab_u2 (ab_u2 (ab_cpy (ab_u2 h 0 12 (1 : Int32)) 17 29 0 0 36) 0 14 (h 0 10)) 0 15 (h 0 4)) 0 16 (h 15 5)) 0 b = h 0 b := fun b hb => by
        rw [ab_u2_ne (by omega), ab_u2_ne (by omega), ab_u2_ne (by omega)]
        exact (if_neg (by decide)).trans (ab_u2_ne (by omega))
      refine ⟨bo_T_fr (e 17 (by decide) (by decide)) h1, (e0 10 (by decide)).trans h2, gm_C_fr (e 15 (by decide) (by decide)) (e 18 (by decide) (by decide)) (e 19 (by decide) (by decide)) (e 20 (by decide) (by decide)) (e 21 (by decide) (by decide)) h3, ⟨(e0 4 (by decide)).trans h4, ru_fr (fun a ha => e a (by omega) (by omega)) h5⟩, ⟨by rw [e 1 (by decide) (by decide), e 2 (by decide) (by decide)]; exact h6, h7⟩, tr_fr (e 13 (by decide) (by decide)) h8, by rw [e 28 (by decide) (by decide)]; exact h9, (e0 5 (by decide)).trans h10, ⟨rfl, fun k p hk hp => ?_, ?_, ?_, ?_⟩, kp_fr (e 14 (by decide) (by decide)) (e 22 (by decide) (by decide)) (e 23 (by decide) (by decide)) h12⟩
      · rw [ab_u2_k (by decide), ab_u2_k (by decide), ab_u2_k (by decide)]
        show (if 29 = 29 then va_cpy ((ab_u2 h 0 12 (1 : Int32)) 17) ((ab_u2 h 0 12 (1 : Int32)) 29) 0 0 36 (12 * k + p) else _) = _
        rw [if_pos rfl]
        unfold va_cpy
        rw [if_pos (by omega), ab_u2_k (by decide), show 0 + (12 * k + p - 0) = 12 * k + p by omega]
        exact h1 k p hk hp
      · rw [ab_u2_ne (by decide), ab_u2_ne (by decide), ab_u2_at]; exact h2
      · rw [ab_u2_ne (by decide), ab_u2_at]; exact h4
      · rw [ab_u2_at]; exact h3.1
    · rw [ab_u2_row (by omega), ab_u2_row (by omega), ab_u2_row (by omega)]
      exact (funext fun b => if_neg (by omega)).trans (ab_u2_row (by omega))
  · rintro r M2 ⟨rfl, rfl⟩
    obtain ⟨k1, k2, k3, ⟨k4, k5⟩, ⟨k6, k7⟩, k8, k9, k10, k11, k12, k13⟩ := hD1
    generalize hB : ab_u2 (ab_u2 (ab_u2 (ab_u2 (ab_u2 h1 30 38 (h1 30 1)) 30 39 (h1 30 0)) 30 40 (h1 30 3)) 30 41 (h1 30 4)) 30 42 (h1 30 5) = B
    have b38 : B 30 38 = h1 30 1 := by rw [← hB, ab_u2_ne (by decide), ab_u2_ne (by decide), ab_u2_ne (by decide), ab_u2_ne (by decide), ab_u2_at]
    have b39 : B 30 39 = h1 30 0 := by rw [← hB, ab_u2_ne (by decide), ab_u2_ne (by decide), ab_u2_ne (by decide), ab_u2_at]
    have b40 : B 30 40 = h1 30 3 := by rw [← hB, ab_u2_ne (by decide), ab_u2_ne (by decide), ab_u2_at]
    have b41 : B 30 41 = h1 30 4 := by rw [← hB, ab_u2_ne (by decide), ab_u2_at]
    have b42 : B 30 42 = h1 30 5 := by rw [← hB, ab_u2_at]
    have bo : ∀ b, b < 38 → B 30 b = h1 30 b := fun b hb => by rw [← hB, ab_u2_ne (by omega), ab_u2_ne (by omega), ab_u2_ne (by omega), ab_u2_ne (by omega), ab_u2_ne (by omega)]
    have br : ∀ a, a ≠ 30 → B a = h1 a := fun a ha => by rw [← hB, ab_u2_row ha, ab_u2_row ha, ab_u2_row ha, ab_u2_row ha, ab_u2_row ha]
    have x : ∀ a, a ≠ 30 → a ≠ 50 → md_al_0 B a = h1 a := fun a a1 a2 => (md_al_0r a2).trans (br a a1)
    have y : ∀ b, b < 38 → md_al_0 B 30 b = h1 30 b := fun b hb => (md_al_0a (by decide)).trans (bo b hb)
    have n8 := h0.2.2.2.1.1
    have n6 := h0.2.2.1.1
    refine ⟨by rw [k3.1], _, g1, rfl, ⟨bo_T_fr (x 32 (by decide) (by decide)) k1, md_bd_fr (y 5 (by decide)) (y 3 (by decide)) (y 4 (by decide)) k2, md_G_fr (y 1 (by decide)) (x 34 (by decide) (by decide)) (x 35 (by decide) (by decide)) (x 36 (by decide) (by decide)) (x 37 (by decide) (by decide)) k3, ⟨(y 0 (by decide)).trans k4, by rw [x 33 (by decide) (by decide)]; exact k5⟩, ⟨by rw [x 38 (by decide) (by decide), x 39 (by decide) (by decide), x 40 (by decide) (by decide), x 41 (by decide) (by decide)]; exact k6, k7⟩, mt_fr (y 37 (by decide)) (x 49 (by decide) (by decide)) k8, by rw [x 31 (by decide) (by decide)]; exact k9, (y 2 (by decide)).trans k10, ⟨(md_al_0a (by decide)).trans (b38.trans k3.1), (md_al_0a (by decide)).trans (b39.trans k4), ⟨(md_al_0a (by decide)).trans (b42.trans k2.1), (md_al_0a (by decide)).trans (b40.trans k2.2.1), (md_al_0a (by decide)).trans (b41.trans k2.2.2)⟩, fun k p hk hp => ?_, fun k hk => ?_, fun u hu => ⟨fun p hp => ?_, ?_, ?_, fun k hk => ?_⟩⟩, md_K_fr (y _ (by decide)) (y _ (by decide)) (y _ (by decide)) (x 45 (by decide) (by decide)) (x 46 (by decide) (by decide)) k12, by rw [x 48 (by decide) (by decide)]; exact k13⟩, fun a ha => x a (by omega) (by omega), fun _ _ => rfl⟩
    · rw [md_al_01 (by omega), br 32 (by decide)]; exact k1 k p hk hp
    · have hk' : k < jn σ := hk
      rw [md_al_02 (by omega), br 33 (by decide)]; exact k5 k hk
    · have hu' : u < gN (jZ σ) := hu
      rw [md_al_03 (by omega), br 34 (by decide)]; exact (k3.2 u hu).1 p hp
    · have hu' : u < gN (jZ σ) := hu
      rw [md_al_05 (by omega), br 36 (by decide)]; exact (k3.2 u hu).2.1
    · have hu' : u < gN (jZ σ) := hu
      rw [md_al_06 (by omega), br 37 (by decide)]; exact (k3.2 u hu).2.2.1
    · have hu' : u < gN (jZ σ) := hu
      have hL := (h0.2.2.1.2 u hu).2.2.2.1
      have hk' : k < gL (jZ σ) u := hk
      rw [md_al_04 (by omega), br 35 (by decide)]; exact (k3.2 u hu).2.2.2 k hk
