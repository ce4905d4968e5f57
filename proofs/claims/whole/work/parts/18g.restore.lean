/-! restore -/
theorem md_al_1k {h : Nat → Nat → Int32} {a b : Nat} (ha : a < 32 ∨ 37 < a) : md_al_1 h a b = h a b := by
  unfold md_al_1
  rw [md_cp_no (by omega), md_cp_no (by omega), md_cp_no (by omega), md_cp_no (by omega), md_cp_no (by omega), md_cp_no (by omega)]
theorem md_al_1a {h : Nat → Nat → Int32} {b : Nat} (hb : b < 36) : md_al_1 h 32 b = h 50 b := by
  unfold md_al_1
  rw [md_cp_no (by omega), md_cp_no (by omega), md_cp_no (by omega), md_cp_no (by omega), md_cp_no (by omega), md_cp_y (by omega)]
  exact congrArg (h 50) (by omega)
theorem md_al_1b {h : Nat → Nat → Int32} {b : Nat} (hb : b < 8) : md_al_1 h 33 b = h 50 (36 + b) := by
  unfold md_al_1
  rw [md_cp_no (by omega), md_cp_no (by omega), md_cp_no (by omega), md_cp_no (by omega), md_cp_y (by omega), md_cp_no (by omega)]
  exact congrArg (h 50) (by omega)
theorem md_al_1c {h : Nat → Nat → Int32} {b : Nat} (hb : b < 72) : md_al_1 h 34 b = h 50 (44 + b) := by
  unfold md_al_1
  rw [md_cp_no (by omega), md_cp_no (by omega), md_cp_no (by omega), md_cp_y (by omega), md_cp_no (by omega), md_cp_no (by omega)]
  exact congrArg (h 50) (by omega)
theorem md_al_1d {h : Nat → Nat → Int32} {b : Nat} (hb : b < 120) : md_al_1 h 35 b = h 50 (116 + b) := by
  unfold md_al_1
  rw [md_cp_no (by omega), md_cp_no (by omega), md_cp_y (by omega), md_cp_no (by omega), md_cp_no (by omega), md_cp_no (by omega)]
  exact congrArg (h 50) (by omega)
theorem md_al_1e {h : Nat → Nat → Int32} {b : Nat} (hb : b < 6) : md_al_1 h 36 b = h 50 (236 + b) := by
  unfold md_al_1
  rw [md_cp_no (by omega), md_cp_y (by omega), md_cp_no (by omega), md_cp_no (by omega), md_cp_no (by omega), md_cp_no (by omega)]
  exact congrArg (h 50) (by omega)
theorem md_al_1f {h : Nat → Nat → Int32} {b : Nat} (hb : b < 6) : md_al_1 h 37 b = h 50 (242 + b) := by
  unfold md_al_1
  rw [md_cp_y (by omega), md_cp_no (by omega), md_cp_no (by omega), md_cp_no (by omega), md_cp_no (by omega), md_cp_no (by omega)]
  exact congrArg (h 50) (by omega)
def jRs (σ : jP) (I : jI) : jP := (I.1, I.2.1, (I.2.2.2, σ.2.2.1.2), (I.2.2.1, σ.2.2.2.1.2), ((fun s => rs_v I.2.2.1 (jh σ s)), jz σ, jl σ), σ.2.2.2.2.2)
/-- what a SHELF holds when there are k RULES again -/
theorem rs_c {n k : Nat} {x : Int32} (H : jhd n x) (hn : n ≤ 8) (hk : k ≤ n) : (rs_v k x = -1 ∧ (x = -1 ∨ ∃ r, r < n ∧ k ≤ r ∧ x = nI r)) ∨ (rs_v k x = x ∧ ((∃ r, r < k ∧ x = nI r) ∨ ∃ o, o < 4 ∧ x = nI (100 + o))) := by
  unfold rs_v
  rcases H with rfl | ⟨r, hr, rfl⟩ | ⟨o, ho, rfl⟩
  · refine Or.inl ⟨if_pos ⟨by decide, fun z => absurd z.1 (by decide)⟩, Or.inl rfl⟩
  · by_cases e : r < k
    · exact Or.inr ⟨if_neg (fun z => z.2 ⟨(ab_le (a := 0) (by decide) (by omega)).mpr (Nat.zero_le _), (ab_lt (by omega) (by omega)).mpr e⟩), Or.inl ⟨r, e, rfl⟩⟩
    · exact Or.inl ⟨if_pos ⟨(ab_lt (b := 100) (by omega) (by decide)).mpr (by omega), fun z => e ((ab_lt (by omega) (by omega)).mp z.2)⟩, Or.inr ⟨r, hr, by omega, rfl⟩⟩
  · exact Or.inr ⟨if_neg (fun z => absurd ((ab_lt (b := 100) (by omega) (by decide)).mp z.1) (by omega)), Or.inr ⟨o, ho, rfl⟩⟩
theorem jok_Rs {σ : jP} (H : jok σ) {I : jI} (hI : jJ σ = some I) : jok (jRs σ I) := by
  obtain ⟨p1, p2, p3, p4⟩ := H.2.2.2.2.2.2 I hI
  refine ⟨p1, p2, ⟨Nat.le_trans p4 H.2.2.1.1, fun u hu => H.2.2.1.2 u (Nat.lt_of_lt_of_le hu p4)⟩, ⟨Nat.le_trans p3 H.2.2.2.1.1, fun k hk => H.2.2.2.1.2 k (Nat.lt_of_lt_of_le hk p3)⟩, fun s hs => ⟨?_, (H.2.2.2.2.1 s hs).2⟩, H.2.2.2.2.2.1, fun I' hI' => ?_⟩
  · rcases rs_c (H.2.2.2.2.1 s hs).1 H.2.2.2.1.1 p3 with ⟨e, -⟩ | ⟨e, w | w⟩
    · show jhd I.2.2.1 (rs_v I.2.2.1 (jh σ s))
      rw [e]; exact Or.inl rfl
    · show jhd I.2.2.1 (rs_v I.2.2.1 (jh σ s))
      rw [e]; exact Or.inr (Or.inl w)
    · show jhd I.2.2.1 (rs_v I.2.2.1 (jh σ s))
      rw [e]; exact Or.inr (Or.inr w)
  · have e : I = I' := Option.some.inj (hI.symm.trans hI')
    subst e
    exact ⟨p1, p2, Nat.le_refl _, Nat.le_refl _⟩
theorem js_restore (l : Launch) {σ : jP} {q : Nat → Nat} {nr : Nat} {h : Nat → Nat → Int32} {g : Nat → Nat → Int64} {rr : Nat → Option Nat} (h0 : jok σ) (hC : jC σ q nr h g rr) (hD : jD σ h g) : ab_C l am_W_restore 20 0 0 (.ref 0 :: []) (ab_S nr h g rr) (jN l am_M_restore []) := by
  cases hI : jJ σ with
  | none =>
    have i1 : jIC h (jJ σ) := hC.2.2.2.2.2.2.2.2.1
    rw [hI] at i1
    refine jq h0 hC hD (v := .int (-6 : Int32)) (o := some 6) (jo7s (by decide)) (ab_C_wk (ct_W_restore_0 l 18 nr h g rr i1) ?_) (fun h1 hD1 => ?_)
    · rintro r M1 ⟨rfl, rfl⟩
      exact ⟨rfl, _, rfl, kp_X (jkp hC) (some 6), fr_rf _⟩
    · have i2 : jIM σ h1 (jJ σ) := hD1.2.2.2.2.2.2.2.2.1
      rw [hI] at i2
      refine ab_C_wk (ct_M_restore_0 l 18 nr h1 g rr i2) ?_
      rintro r M2 ⟨rfl, rfl⟩
      exact ⟨rfl, _, rfl, md_KX (jK_M hD1) (some 6), md_kr_rf _⟩
  | some I =>
    obtain ⟨p1, p2, p3, p4⟩ := h0.2.2.2.2.2.2 I hI
    have i1 : jIC h (jJ σ) := hC.2.2.2.2.2.2.2.2.1
    rw [hI] at i1
    obtain ⟨i12, i29, i14, i15, i16⟩ : h 0 12 = 1 ∧ bo_T I.1 h 29 ∧ h 0 14 = nI (sp_en I.2.1.1 I.2.1.2.1 I.2.1.2.2) ∧ h 0 15 = nI I.2.2.1 ∧ h 0 16 = nI I.2.2.2 := i1
    refine jE (v := .int (nI I.2.2.2)) (q' := q) (jok_Rs h0 hI) hD (ab_C_wk (ct_W_restore_1 l 19 nr h g rr i12 i15) ?_) (fun h1 g1 hD1 => ?_)
    · rintro r M1 ⟨rfl, h', rfl, e, e1⟩
      obtain ⟨c1, c2, c3, ⟨c4, c5⟩, ⟨c6, c7⟩, c8, c9, c10, -, -⟩ := hC
      have x : ∀ a, a ≠ 0 → a ≠ 1 → a ≠ 14 → a ≠ 15 → a ≠ 17 → h' a = h a := fun a a0 a1 a14 a15 a17 => by
        rw [e a a1]
        unfold rs_M
        rw [ab_u2_row a14, ab_u2_row a14, ab_u2_row a14, ab_u2_row a15, ab_u2_row a0, ab_u2_row a0]
        exact funext fun b => if_neg a17
      have y : ∀ b, b ≠ 4 → b ≠ 10 → h' 0 b = h 0 b := fun b b1 b2 => by
        rw [e 0 (by decide)]
        unfold rs_M
        rw [ab_u2_k (by decide), ab_u2_k (by decide), ab_u2_k (by decide), ab_u2_k (by decide), ab_u2_ne (by omega), ab_u2_ne (by omega)]
        exact if_neg (by decide)
      refine ⟨by rw [i16], h', g, rfl, ⟨fun k p hk hp => ?_, ?_, ⟨?_, fun u hu => ?_⟩, ⟨?_, fun j hj => ?_⟩, ⟨fun s hs => ⟨?_, ?_⟩, c7⟩, tr_fr (x 13 (by decide) (by decide) (by decide) (by decide) (by decide)) c8, by rw [x 28 (by decide) (by decide) (by decide) (by decide) (by decide)]; exact c9, (y 5 (by decide) (by decide)).trans c10, ?_, ?_⟩, fun a a1 a2 => x a (by omega) (by omega) (by omega) (by omega) (by omega), rfl⟩
      · rw [e 17 (by decide)]
        unfold rs_M
        rw [ab_u2_k (by decide), ab_u2_k (by decide), ab_u2_k (by decide), ab_u2_k (by decide), ab_u2_k (by decide), ab_u2_k (by decide)]
        show (if 17 = 17 then va_cpy (h 29) (h 17) 0 0 36 (12 * k + p) else _) = _
        rw [if_pos rfl]
        unfold va_cpy
        rw [if_pos (by omega), show 0 + (12 * k + p - 0) = 12 * k + p by omega]
        exact i29 k p hk hp
      · rw [e 0 (by decide)]
        unfold rs_M
        rw [ab_u2_k (by decide), ab_u2_k (by decide), ab_u2_k (by decide), ab_u2_k (by decide), ab_u2_ne (by decide), ab_u2_at]
        exact i14
      · rw [e 15 (by decide)]
        unfold rs_M
        rw [ab_u2_k (by decide), ab_u2_k (by decide), ab_u2_k (by decide), ab_u2_at]
        exact i16
      · have z := c3.2 u (Nat.lt_of_lt_of_le hu p4)
        rw [x 18 (by decide) (by decide) (by decide) (by decide) (by decide), x 19 (by decide) (by decide) (by decide) (by decide) (by decide), x 20 (by decide) (by decide) (by decide) (by decide) (by decide), x 21 (by decide) (by decide) (by decide) (by decide) (by decide)]
        exact z
      · rw [e 0 (by decide)]
        unfold rs_M
        rw [ab_u2_k (by decide), ab_u2_k (by decide), ab_u2_k (by decide), ab_u2_k (by decide), ab_u2_at]
        exact i15
      · have z := c5 j (Nat.lt_of_lt_of_le hj p3)
        rw [x (51 + q j) (by omega) (by omega) (by omega) (by omega) (by omega)]
        exact z
      · rw [e1 s hs, (c6 s hs).1]; rfl
      · rw [x 2 (by decide) (by decide) (by decide) (by decide) (by decide)]
        exact (c6 s hs).2
      · show jIC h' (jJ σ)
        rw [hI]
        exact ⟨(y 12 (by decide) (by decide)).trans i12, bo_T_fr (x 29 (by decide) (by decide) (by decide) (by decide) (by decide)) i29, (y 14 (by decide) (by decide)).trans i14, (y 15 (by decide) (by decide)).trans i15, (y 16 (by decide) (by decide)).trans i16⟩
      · have f : h' 14 = rs_M h 14 := e 14 (by decide)
        refine ⟨Or.inl ?_, Or.inl ?_, Or.inl ?_⟩ <;> rw [f] <;> unfold rs_M
        · rw [ab_u2_ne (by decide), ab_u2_ne (by decide), ab_u2_at]
        · rw [ab_u2_ne (by decide), ab_u2_at]
        · rw [ab_u2_at]
    · have i2 : jIM σ h1 (jJ σ) := hD1.2.2.2.2.2.2.2.2.1
      rw [hI] at i2
      obtain ⟨m38, m39, ⟨m42, m40, m41⟩, mk1, mk2, mk3⟩ : h1 30 38 = nI I.2.2.2 ∧ h1 30 39 = nI I.2.2.1 ∧ (h1 30 42 = nI I.2.1.2.2 ∧ h1 30 40 = nI (if I.2.1.2.2 = 0 then I.2.1.1 else I.2.1.2.1) ∧ h1 30 41 = nI (if I.2.1.2.2 = 0 then I.2.1.2.1 else I.2.1.1)) ∧ jKp σ I h1 := i2
      have n6 := h0.2.2.1.1
      have n8 := h0.2.2.2.1.1
      refine ab_C_wk (ct_M_restore_1 l 18 nr h1 g1 rr (by rw [m38]; exact sp_nI_ne (by omega)) m39) ?_
      rintro r M2 ⟨rfl, rfl⟩
      obtain ⟨k1, k2, k3, ⟨k4, k5⟩, ⟨k6, k7⟩, k8, k9, k10, -, -, k13⟩ := hD1
      generalize hB : ab_u2 (ab_u2 (ab_u2 (ab_u2 (ab_u2 h1 30 1 (h1 30 38)) 30 0 (h1 30 39)) 30 3 (h1 30 40)) 30 4 (h1 30 41)) 30 5 (h1 30 42) = B
      have b1 : B 30 1 = nI I.2.2.2 := by rw [← hB, ab_u2_ne (by decide), ab_u2_ne (by decide), ab_u2_ne (by decide), ab_u2_ne (by decide), ab_u2_at]; exact m38
      have b0 : B 30 0 = nI I.2.2.1 := by rw [← hB, ab_u2_ne (by decide), ab_u2_ne (by decide), ab_u2_ne (by decide), ab_u2_at]; exact m39
      have b3 : B 30 3 = h1 30 40 := by rw [← hB, ab_u2_ne (by decide), ab_u2_ne (by decide), ab_u2_at]
      have b4 : B 30 4 = h1 30 41 := by rw [← hB, ab_u2_ne (by decide), ab_u2_at]
      have b5 : B 30 5 = h1 30 42 := by rw [← hB, ab_u2_at]
      have bo : ∀ b, b = 2 ∨ 5 < b → B 30 b = h1 30 b := fun b hb => by rw [← hB, ab_u2_ne (by omega), ab_u2_ne (by omega), ab_u2_ne (by omega), ab_u2_ne (by omega), ab_u2_ne (by omega)]
      have br : ∀ a, a ≠ 30 → B a = h1 a := fun a ha => by rw [← hB, ab_u2_row ha, ab_u2_row ha, ab_u2_row ha, ab_u2_row ha, ab_u2_row ha]
      have er : md_rs h1 = ab_u2 (ab_u2 (ab_u2 (md_al_1 B) 30 31 (-1 : Int32)) 30 32 (0 : Int32)) 30 33 (-1 : Int32) := by rw [← hB]; rfl
      have f0 : ∀ a, a ≠ 30 → a ≠ 38 → md_rv I.2.2.1 (md_rs h1) 8 a = md_al_1 B a := fun a a1 a2 => funext fun b => by
        have z : md_rv I.2.2.1 (md_rs h1) 8 a b = md_rs h1 a b := if_neg (fun w => a2 w.1)
        rw [z, er, ab_u2_k a1, ab_u2_k a1, ab_u2_k a1]
      have f30 : ∀ b, b < 31 ∨ 33 < b → md_rv I.2.2.1 (md_rs h1) 8 30 b = B 30 b := fun b hb => by
        have z : md_rv I.2.2.1 (md_rs h1) 8 30 b = md_rs h1 30 b := if_neg (fun w => absurd w.1 (by decide))
        rw [z, er, ab_u2_ne (by omega), ab_u2_ne (by omega), ab_u2_ne (by omega)]
        exact md_al_1k (by decide)
      have f3x : md_rv I.2.2.1 (md_rs h1) 8 30 31 = -1 ∧ md_rv I.2.2.1 (md_rs h1) 8 30 32 = 0 ∧ md_rv I.2.2.1 (md_rs h1) 8 30 33 = -1 := by
        refine ⟨?_, ?_, ?_⟩
        · refine (if_neg (fun w => absurd w.1 (by decide)) : _ = md_rs h1 30 31).trans ?_
          rw [er, ab_u2_ne (by decide), ab_u2_ne (by decide), ab_u2_at]
        · refine (if_neg (fun w => absurd w.1 (by decide)) : _ = md_rs h1 30 32).trans ?_
          rw [er, ab_u2_ne (by decide), ab_u2_at]
        · refine (if_neg (fun w => absurd w.1 (by decide)) : _ = md_rs h1 30 33).trans ?_
          rw [er, ab_u2_at]
      have f1 : ∀ a, a < 30 ∨ (37 < a ∧ a ≠ 38) ∨ a = 31 → md_rv I.2.2.1 (md_rs h1) 8 a = h1 a := fun a ha => by
        rw [f0 a (by omega) (by omega), ← br a (by omega)]
        exact funext fun b => md_al_1k (by omega)
      have m38' : md_rs h1 38 = h1 38 := by
        rw [er, ab_u2_row (by decide), ab_u2_row (by decide), ab_u2_row (by decide), ← br 38 (by decide)]
        exact funext fun b => md_al_1k (by decide)
      have m41' : md_rs h1 41 = h1 41 := by
        rw [er, ab_u2_row (by decide), ab_u2_row (by decide), ab_u2_row (by decide), ← br 41 (by decide)]
        exact funext fun b => md_al_1k (by decide)
      have b50 := br 50 (by decide)
      refine ⟨by rw [m38], _, g1, rfl, ⟨fun k p hk hp => ?_, ⟨?_, ?_, ?_⟩, ⟨?_, fun u hu => ⟨fun p hp => ?_, ?_, ?_, fun k hk => ?_⟩⟩, ⟨(f30 0 (by decide)).trans b0, fun k hk => ?_⟩, ⟨fun s hs => ⟨⟨?_, ?_, ?_⟩, ?_⟩, k7⟩, mt_fr ((f30 37 (by decide)).trans (bo 37 (by decide))) (f1 49 (by decide)) k8, by rw [f1 31 (by decide)]; exact k9, (f30 2 (by decide)).trans ((bo 2 (by decide)).trans k10), ?_, ⟨Or.inl f3x.1, Or.inl f3x.2.2, Or.inl (by rw [f3x.2.1]; decide)⟩, by rw [f1 48 (by decide)]; exact k13⟩, fun a ha => f1 a (by omega), fun _ _ => rfl⟩
      · rw [f0 32 (by decide) (by decide), md_al_1a (by omega), b50]; exact mk1 k p hk hp
      · exact (f30 5 (by decide)).trans (b5.trans m42)
      · exact (f30 3 (by decide)).trans (b3.trans m40)
      · exact (f30 4 (by decide)).trans (b4.trans m41)
      · exact (f30 1 (by decide)).trans b1
      · have hu' : u < I.2.2.2 := hu
        rw [f0 34 (by decide) (by decide), md_al_1c (by omega), b50]; exact (mk3 u hu).1 p hp
      · have hu' : u < I.2.2.2 := hu
        rw [f0 36 (by decide) (by decide), md_al_1e (by omega), b50]; exact (mk3 u hu).2.1
      · have hu' : u < I.2.2.2 := hu
        rw [f0 37 (by decide) (by decide), md_al_1f (by omega), b50]; exact (mk3 u hu).2.2.1
      · have hu' : u < I.2.2.2 := hu
        have hL := (h0.2.2.1.2 u (Nat.lt_of_lt_of_le hu p4)).2.2.2.1
        have hk' : k < gL (jZ σ) u := hk
        rw [f0 35 (by decide) (by decide), md_al_1d (by omega), b50]; exact (mk3 u hu).2.2.2 k hk
      · have hk' : k < I.2.2.1 := hk
        rw [f0 33 (by decide) (by decide), md_al_1b (by omega), b50]; exact mk2 k hk
      · show (if 38 = 38 ∧ s < 8 ∧ md_rs h1 38 s = 2 ∧ nI I.2.2.1 ≤ md_rs h1 41 s then 0 else md_rs h1 38 s) = jhx (rs_v I.2.2.1 (jh σ s))
        rw [m38', m41']
        have z := (k6 s hs).1
        rcases rs_c (h0.2.2.2.2.1 s hs).1 n8 p3 with ⟨e, w | ⟨r, hr, hkr, w⟩⟩ | ⟨e, ⟨r, hr, w⟩ | ⟨o, ho, w⟩⟩
        · rw [e, z.1, w, if_neg (fun v => absurd v.2.2.1 (by decide))]
        · have j2 := (jhd_r r (by omega)).1
          rw [← w] at j2
          rw [e, z.1, j2, z.2.2 j2, w, if_pos ⟨rfl, hs, rfl, (ab_le (by omega) (by omega)).mpr hkr⟩]; decide
        · have j2 := (jhd_r r (by omega)).1
          rw [← w] at j2
          rw [e, z.1, j2, z.2.2 j2, w, if_neg (fun v => absurd ((ab_le (by omega) (by omega)).mp v.2.2.2) (by omega))]
        · have j1 := (jhd_o o ho).1
          rw [← w] at j1
          rw [e, z.1, j1, if_neg (fun v => absurd v.2.2.1 (by decide))]
      · intro v
        have z := (k6 s hs).1
        rw [f1 39 (by decide)]
        have v' : (100 : Int32) ≤ rs_v I.2.2.1 (jh σ s) := v
        show h1 39 s = rs_v I.2.2.1 (jh σ s) - 100
        rcases rs_c (h0.2.2.2.2.1 s hs).1 n8 p3 with ⟨e, -⟩ | ⟨e, -⟩
        · rw [e] at v'; exact absurd v' (by decide)
        · rw [e] at v' ⊢; exact z.2.1 v'
      · intro v
        have z := (k6 s hs).1
        rw [f1 41 (by decide)]
        have v' : jhx (rs_v I.2.2.1 (jh σ s)) = 2 := v
        show h1 41 s = rs_v I.2.2.1 (jh σ s)
        rcases rs_c (h0.2.2.2.2.1 s hs).1 n8 p3 with ⟨e, -⟩ | ⟨e, -⟩
        · rw [e] at v'; exact absurd v' (by decide)
        · rw [e] at v' ⊢; exact z.2.2 v'
      · rw [f1 40 (by decide)]; exact (k6 s hs).2
      · show jIM (jRs σ I) (md_rv I.2.2.1 (md_rs h1) 8) (jJ σ)
        rw [hI]
        have g50 := f1 50 (by decide)
        have g30 : ∀ b, 38 ≤ b → md_rv I.2.2.1 (md_rs h1) 8 30 b = h1 30 b := fun b hb => (f30 b (by omega)).trans (bo b (by omega))
        refine ⟨(g30 38 (by decide)).trans m38, (g30 39 (by decide)).trans m39, ⟨(g30 42 (by decide)).trans m42, (g30 40 (by decide)).trans m40, (g30 41 (by decide)).trans m41⟩, ?_⟩
        unfold jKp
        rw [g50]
        exact ⟨mk1, mk2, mk3⟩
