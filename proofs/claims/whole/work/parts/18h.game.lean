/-! game -/
theorem jIM_id2 {σ σ' : jP} {h : Nat → Nat → Int32} : ∀ (o : Option jI), (∀ I, o = some I → (∀ k, k < I.2.2.1 → jc σ' k = jc σ k) ∧ ∀ y, y < I.2.2.2 → gA (jZ σ') y = gA (jZ σ) y ∧ gB (jZ σ') y = gB (jZ σ) y ∧ gL (jZ σ') y = gL (jZ σ) y ∧ gO (jZ σ') y = gO (jZ σ) y ∧ gV (jZ σ') y = gV (jZ σ) y) → jIM σ h o → jIM σ' h o
  | none, _, H => H
  | some I, e, H => by
    obtain ⟨e1, e2⟩ := e I rfl
    have H2 : h 30 38 = nI I.2.2.2 ∧ h 30 39 = nI I.2.2.1 ∧ (h 30 42 = nI I.2.1.2.2 ∧ h 30 40 = nI (if I.2.1.2.2 = 0 then I.2.1.1 else I.2.1.2.1) ∧ h 30 41 = nI (if I.2.1.2.2 = 0 then I.2.1.2.1 else I.2.1.1)) ∧ jKp σ I h := H
    obtain ⟨z1, z2, z3⟩ := H2.2.2.2
    refine ⟨H2.1, H2.2.1, H2.2.2.1, z1, fun k hk => by rw [e1 k hk]; exact z2 k hk, fun y hy => ?_⟩
    obtain ⟨a1, a2, a3, a4, a5⟩ := e2 y hy
    rw [a1, a2, a3, a4, a5]
    exact z3 y hy
theorem jgw {w : Nat → Nat} {p : Nat} (hp : p < 12) (hw : w p < 3) : md_sw (sp_mk w 1 12) (sp_mk w 2 12) p = w p := by
  unfold md_sw
  rw [sp_mk_bit, sp_mk_bit, decide_eq_true hp, Bool.true_and, Bool.true_and]
  rcases (by omega : w p = 0 ∨ w p = 1 ∨ w p = 2) with e | e | e <;> rw [e] <;> rfl
def jZa (Z : sp_G) (A B n : Nat) (o : Int32) (V : Nat → Nat) : sp_G := (gN Z + 1, ju (gA Z) (gN Z) A, ju (gB Z) (gN Z) B, ju (gL Z) (gN Z) n, ju (gO Z) (gN Z) o, ju (gV Z) (gN Z) V)
def jGs (σ : jP) (Z : sp_G) : jP := (σ.1, σ.2.1, Z, σ.2.2.2)
theorem js_game (l : Launch) {σ : jP} {q : Nat → Nat} {nr : Nat} {h : Nat → Nat → Int32} {g : Nat → Nat → Int64} {rr : Nat → Option Nat} (h0 : jok σ) (hC : jC σ q nr h g rr) (hD : jD σ h g) (s u x y : Int32) : ab_C l am_W_game 20 0 0 (.ref 0 :: [.int s, .int u, .int x, .int y]) (ab_S nr h g rr) (jN l am_M_game [.int s, .int u, .int x, .int y]) := by
  have hW := ct_W_game l 17 nr h g rr (jz_W h0 hC) h0.2.2.1 hC.2.2.1 s u x y
  have hM := fun h1 g1 (hD1 : jD σ h1 g1) => ct_M_game l 18 nr h1 g1 rr (jz_M h0 hD1) h0.2.2.1.1 hD1.2.2.1.1 s u x y
  rcases jtwo h0 hC s u with ⟨c, e⟩ | ⟨⟨c1, c2⟩, k, k2, ⟨hk, rfl⟩, ⟨hk2, rfl⟩, ⟨c, e⟩ | ⟨c, e⟩ | ⟨⟨o, ho, e1⟩, ⟨o2, ho2, f1⟩, e2, f2, ⟨e5, f5⟩, e⟩⟩
  · refine jqb h0 hC hD hW hM (v := .int (-1 : Int32)) (some 1) (jo7s (by decide)) (by unfold fx_W_game; rw [e, if_neg (by decide)]; rfl) (fun h1 _ => ?_)
    unfold fx_M_game
    rcases c with c | ⟨c, c'⟩
    · rw [if_pos c]; rfl
    · rw [if_neg c, if_pos c']; rfl
  · have tk : (nI k).toNatClampNeg = k := ab_tn (by omega)
    have tk2 : (nI k2).toNatClampNeg = k2 := ab_tn (by omega)
    refine jqb h0 hC hD hW hM (v := .int (-2 : Int32)) (some 2) (jo7s (by decide)) (by unfold fx_W_game; rw [e, if_neg (by decide)]; rfl) (fun h1 hD1 => ?_)
    have m1 := (hD1.2.2.2.2.1.1 k hk).1.1
    have m2 := (hD1.2.2.2.2.1.1 k2 hk2).1.1
    unfold fx_M_game
    rw [if_neg c1, if_neg c2, tk, tk2, m1, m2]
    rcases c with c | ⟨c, c'⟩
    · rw [if_pos c]; rfl
    · rw [if_neg c, if_pos c']; rfl
  · have tk : (nI k).toNatClampNeg = k := ab_tn (by omega)
    have tk2 : (nI k2).toNatClampNeg = k2 := ab_tn (by omega)
    refine jqb h0 hC hD hW hM (v := .int (-3 : Int32)) (some 3) (jo7s (by decide)) (by unfold fx_W_game; rw [e, if_neg (by decide)]; rfl) (fun h1 hD1 => ?_)
    have m1 := (hD1.2.2.2.2.1.1 k hk).1.1
    have m2 := (hD1.2.2.2.2.1.1 k2 hk2).1.1
    unfold fx_M_game
    rw [if_neg c1, if_neg c2, tk, tk2, m1, m2]
    rcases c with ⟨c, c'⟩ | ⟨c, c'⟩
    · rw [c, if_neg (by decide), if_neg c', if_pos rfl]; rfl
    · rw [c, c', if_neg (by decide), if_neg (by decide), if_neg (by decide), if_pos rfl]; rfl
  · have tk : (nI k).toNatClampNeg = k := ab_tn (by omega)
    have tk2 : (nI k2).toNatClampNeg = k2 := ab_tn (by omega)
    have z1 := (h0.2.2.2.2.1 k hk).2
    have z2 := (h0.2.2.2.2.1 k2 hk2).2
    have n6 := h0.2.2.1.1
    have eM : ∀ (F : Option Value × ab_Me) h1 g1, jD σ h1 g1 → (if 0 ≤ x then (if nI (jz σ k) < (12 : Int32) then (some (.int (-5 : Int32)), ab_S nr (ab_u2 h1 31 5 (h1 31 5 + 1)) g1 rr) else if nI x.toNatClampNeg ≤ nI (jz σ k2) then (if (20 : Int32) < nI x.toNatClampNeg then (some (.int (-6 : Int32)), ab_S nr (ab_u2 h1 31 6 (h1 31 6 + 1)) g1 rr) else if y < (-1 : Int32) then (some (.int (-6 : Int32)), ab_S nr (ab_u2 h1 31 6 (h1 31 6 + 1)) g1 rr) else if y ≤ (1 : Int32) then (if sp_any (md_bs g1 k) 12 = true then (some (.int (-6 : Int32)), ab_S nr (ab_u2 h1 31 6 (h1 31 6 + 1)) g1 rr) else if sp_any (md_nm g1 k2) x.toNatClampNeg = true then (some (.int (-6 : Int32)), ab_S nr (ab_u2 h1 31 6 (h1 31 6 + 1)) g1 rr) else if nI (gN (jZ σ)) = (6 : Int32) then (some (.int (-7 : Int32)), ab_S nr (ab_u2 h1 31 7 (h1 31 7 + 1)) g1 rr) else (some (.int (nI (gN (jZ σ)))), ab_S nr (ab_u2 (ab_u2 (ab_u2 (ab_u2 (ab_u2 (ab_u2 (md_wr (md_wr h1 34 (12 * gN (jZ σ)) (fun p => (g1 42 ((60 * k) + p)).toInt32) 12) 35 (20 * gN (jZ σ)) (fun p => (g1 42 ((60 * k2) + p)).toInt32) x.toNatClampNeg) 36 (gN (jZ σ)) (nI x.toNatClampNeg)) 37 (gN (jZ σ)) y) 30 31 (-1 : Int32)) 30 32 (0 : Int32)) 30 33 (-1 : Int32)) 30 1 (nI (gN (jZ σ) + 1))) g1 rr)) else (some (.int (-6 : Int32)), ab_S nr (ab_u2 h1 31 6 (h1 31 6 + 1)) g1 rr)) else (some (.int (-5 : Int32)), ab_S nr (ab_u2 h1 31 5 (h1 31 5 + 1)) g1 rr)) else (some (.int (-4 : Int32)), ab_S nr (ab_u2 h1 31 4 (h1 31 4 + 1)) g1 rr)) = F → fx_M_game nr h1 g1 rr (jz σ) (gN (jZ σ)) (nI k) (nI k2) x y = F := by
      intro F h1 g1 hD1 eF
      have m1 := (hD1.2.2.2.2.1.1 k hk).1
      have m2 := (hD1.2.2.2.2.1.1 k2 hk2).1
      rw [← eF]
      unfold fx_M_game
      rw [if_neg c1, if_neg c2, tk, tk2, m1.1, m2.1, e2, f2, if_neg (by decide), if_neg (by decide), if_neg (by decide), if_neg (by decide)]
    have eW : ∀ F, (if 0 ≤ x then (if nI (jz σ k) < (12 : Int32) then (some (.int (-5 : Int32)), ab_S nr (ab_u2 h 28 5 (h 28 5 + 1)) g rr) else if nI x.toNatClampNeg ≤ nI (jz σ k2) then (if (20 : Int32) < nI x.toNatClampNeg then (some (.int (-6 : Int32)), ab_S nr (ab_u2 h 28 6 (h 28 6 + 1)) g rr) else if y < (-1 : Int32) then (some (.int (-6 : Int32)), ab_S nr (ab_u2 h 28 6 (h 28 6 + 1)) g rr) else if (1 : Int32) < y then (some (.int (-6 : Int32)), ab_S nr (ab_u2 h 28 6 (h 28 6 + 1)) g rr) else if (ab_bz (!sp_any (sp_bs g k) 12)) = 0 then (some (.int (-6 : Int32)), ab_S nr (ab_u2 h 28 6 (h 28 6 + 1)) g rr) else if (ab_bz (!sp_any (fun j => !sp_im (g (4 + k2) j).toInt32) x.toNatClampNeg)) = 0 then (some (.int (-6 : Int32)), ab_S nr (ab_u2 h 28 6 (h 28 6 + 1)) g rr) else if nI (gN (jZ σ)) < (6 : Int32) then (some (.int (nI (gN (jZ σ)))), ab_S nr (ab_u2 (gm_w (ab_u2 (ab_u2 (ab_u2 h 14 9 (0 : Int32)) 14 10 (-1 : Int32)) 14 11 (-1 : Int32)) (gN (jZ σ)) (nI (sp_en (sp_mk (sp_gw g k) 1 12) (sp_mk (sp_gw g k) 2 12) 0)) (nI x.toNatClampNeg) y (fun j => (g (4 + k2) j).toInt32) x.toNatClampNeg) 15 5 (nI (gN (jZ σ) + 1))) g rr) else (some (.int (-7 : Int32)), ab_S nr (ab_u2 h 28 7 (h 28 7 + 1)) g rr)) else (some (.int (-5 : Int32)), ab_S nr (ab_u2 h 28 5 (h 28 5 + 1)) g rr)) else (some (.int (-4 : Int32)), ab_S nr (ab_u2 h 28 4 (h 28 4 + 1)) g rr)) = F → fx_W_game nr h g rr (jz σ) (jZ σ) (nI k) (nI k2) x y = F := by
      intro F eF
      rw [← eF]
      unfold fx_W_game
      rw [e, if_pos rfl, tk, tk2]
    by_cases d1 : 0 ≤ x
    · by_cases d2 : nI (jz σ k) < (12 : Int32)
      · exact jqb h0 hC hD hW hM (v := .int (-5 : Int32)) (some 5) (jo7s (by decide)) (eW _ (by rw [if_pos d1, if_pos d2]; rfl)) (fun h1 hD1 => eM _ h1 g hD1 (by rw [if_pos d1, if_pos d2]; rfl))
      · by_cases d3 : nI x.toNatClampNeg ≤ nI (jz σ k2)
        · by_cases d4 : (20 : Int32) < nI x.toNatClampNeg
          · exact jqb h0 hC hD hW hM (v := .int (-6 : Int32)) (some 6) (jo7s (by decide)) (eW _ (by rw [if_pos d1, if_neg d2, if_pos d3, if_pos d4]; rfl)) (fun h1 hD1 => eM _ h1 g hD1 (by rw [if_pos d1, if_neg d2, if_pos d3, if_pos d4]; rfl))
          · by_cases d5 : y < (-1 : Int32)
            · exact jqb h0 hC hD hW hM (v := .int (-6 : Int32)) (some 6) (jo7s (by decide)) (eW _ (by rw [if_pos d1, if_neg d2, if_pos d3, if_neg d4, if_pos d5]; rfl)) (fun h1 hD1 => eM _ h1 g hD1 (by rw [if_pos d1, if_neg d2, if_pos d3, if_neg d4, if_pos d5]; rfl))
            · by_cases d6 : (1 : Int32) < y
              · exact jqb h0 hC hD hW hM (v := .int (-6 : Int32)) (some 6) (jo7s (by decide)) (eW _ (by rw [if_pos d1, if_neg d2, if_pos d3, if_neg d4, if_neg d5, if_pos d6]; rfl)) (fun h1 hD1 => eM _ h1 g hD1 (by rw [if_pos d1, if_neg d2, if_pos d3, if_neg d4, if_neg d5, if_neg (Int32.not_le.mpr d6)]; rfl))
              · have d6' : y ≤ (1 : Int32) := Int32.not_lt.mp d6
                obtain ⟨n, hn, rfl⟩ := nn_n (Int32.not_lt.mpr d1)
                have tn : (nI n).toNatClampNeg = n := ab_tn hn
                rw [tn] at d3 d4
                have hz12 : 12 ≤ jz σ k := Nat.le_of_not_lt (fun w => d2 ((ab_lt (b := 12) (by omega) (by decide)).mpr w))
                have hn2 : n ≤ jz σ k2 := (ab_le hn (by omega)).mp d3
                have hn20 : n ≤ 20 := Nat.le_of_not_lt (fun w => d4 ((ab_lt (a := 20) (by decide) hn).mpr w))
                have cS : ∀ h1 g1, jD σ h1 g1 → ∀ p, p < 60 → g1 42 (60 * k + p) = g (4 + k) p := fun h1 g1 hD1 p hp => (hD1.2.2.2.2.1.2 k p hk hp).trans (hC.2.2.2.2.1.2 k p hk hp).symm
                have cU : ∀ h1 g1, jD σ h1 g1 → ∀ p, p < 60 → g1 42 (60 * k2 + p) = g (4 + k2) p := fun h1 g1 hD1 p hp => (hD1.2.2.2.2.1.2 k2 p hk2 hp).trans (hC.2.2.2.2.1.2 k2 p hk2 hp).symm
                have aS : ∀ h1 g1, jD σ h1 g1 → sp_any (md_bs g1 k) 12 = sp_any (sp_bs g k) 12 := fun h1 g1 hD1 => sp_any_cong (fun p hp => by unfold md_bs sp_bs; rw [cS h1 g1 hD1 p (by omega)])
                have aU : ∀ h1 g1, jD σ h1 g1 → sp_any (md_nm g1 k2) n = sp_any (fun j => !sp_im (g (4 + k2) j).toInt32) n := fun h1 g1 hD1 => sp_any_cong (fun p hp => by unfold md_nm; rw [cU h1 g1 hD1 p (by omega)])
                cases d7 : sp_any (sp_bs g k) 12 with
                | true => exact jqb h0 hC hD hW hM (v := .int (-6 : Int32)) (some 6) (jo7s (by decide)) (eW _ (by rw [tn, if_pos d1, if_neg d2, if_pos d3, if_neg d4, if_neg d5, if_neg d6, d7, if_pos (by decide)]; rfl)) (fun h1 hD1 => eM _ h1 g hD1 (by rw [tn, if_pos d1, if_neg d2, if_pos d3, if_neg d4, if_neg d5, if_pos d6', aS h1 g hD1, d7, if_pos rfl]; rfl))
                | false =>
                  cases d8 : sp_any (fun j => !sp_im (g (4 + k2) j).toInt32) n with
                  | true => exact jqb h0 hC hD hW hM (v := .int (-6 : Int32)) (some 6) (jo7s (by decide)) (eW _ (by rw [tn, if_pos d1, if_neg d2, if_pos d3, if_neg d4, if_neg d5, if_neg d6, d7, if_neg (by decide), d8, if_pos (by decide)]; rfl)) (fun h1 hD1 => eM _ h1 g hD1 (by rw [tn, if_pos d1, if_neg d2, if_pos d3, if_neg d4, if_neg d5, if_pos d6', aS h1 g hD1, d7, if_neg (by decide), aU h1 g hD1, d8, if_pos rfl]; rfl))
                  | false =>
                    by_cases d9 : gN (jZ σ) = 6
                    · have d9' : ¬ nI (gN (jZ σ)) < (6 : Int32) := by rw [d9]; decide
                      exact jqb h0 hC hD hW hM (v := .int (-7 : Int32)) (some 7) (jo7s (by decide)) (eW _ (by rw [tn, if_pos d1, if_neg d2, if_pos d3, if_neg d4, if_neg d5, if_neg d6, d7, if_neg (by decide), d8, if_neg (by decide), if_neg d9']; rfl)) (fun h1 hD1 => eM _ h1 g hD1 (by rw [tn, if_pos d1, if_neg d2, if_pos d3, if_neg d4, if_neg d5, if_pos d6', aS h1 g hD1, d7, if_neg (by decide), aU h1 g hD1, d8, if_neg (by decide), if_pos (show nI (gN (jZ σ)) = (6 : Int32) by rw [d9]; rfl)]; rfl))
                    · have d9' : nI (gN (jZ σ)) < (6 : Int32) := (ab_lt (b := 6) (by omega) (by decide)).mpr (by omega)
                      have d9'' : ¬ nI (gN (jZ σ)) = (6 : Int32) := fun w => d9 ((ab_inj (b := 6) (by omega) (by decide)).mp w)
                      have hw : ∀ p, p < 12 → sp_gw g k p < 3 ∧ (g (4 + k) p).toInt32 = nI (sp_gw g k p) := fun p hp => sp_bs_w d7 hp
                      have hmv : ∀ j, j < n → sp_mv (g (4 + k2) j).toInt32.toNatClampNeg ∧ (g (4 + k2) j).toInt32 = nI (g (4 + k2) j).toInt32.toNatClampNeg := fun j hj => by
                        have w := (sp_any_no _ _).mp d8 j hj
                        have w2 : sp_im (g (4 + k2) j).toInt32 = true := by simpa using w
                        obtain ⟨m, ⟨hm, hm2⟩, em⟩ := im_n (x := (g (4 + k2) j).toInt32) (by rw [w2]; decide)
                        rw [em, ab_tn (by omega)]
                        exact ⟨hm, rfl⟩
                      have hy : y = -1 ∨ y = 0 ∨ y = 1 := by
                        have a1 := Int32.le_iff_toInt_le.mp d6'
                        have a2 := Int32.le_iff_toInt_le.mp (Int32.not_lt.mp d5)
                        have b1 : (1 : Int32).toInt = 1 := rfl
                        have b2 : (-1 : Int32).toInt = -1 := rfl
                        have b3 : (0 : Int32).toInt = 0 := rfl
                        rcases (by omega : y.toInt = -1 ∨ y.toInt = 0 ∨ y.toInt = 1) with w | w | w
                        · exact Or.inl (Int32.toInt_inj.mp (w.trans b2.symm))
                        · exact Or.inr (Or.inl (Int32.toInt_inj.mp (w.trans b3.symm)))
                        · exact Or.inr (Or.inr (Int32.toInt_inj.mp (w.trans b1.symm)))
                      have hL : ∀ u, u < gN (jZ σ) → gL (jZ σ) u ≤ 20 := fun u hu => (h0.2.2.1.2 u hu).2.2.2.1
                      refine jEb (σ' := jGs σ (jZa (jZ σ) (sp_mk (sp_gw g k) 1 12) (sp_mk (sp_gw g k) 2 12) n y (fun j => (g (4 + k2) j).toInt32.toNatClampNeg))) (q' := q) ?_ hD hW hM (v := .int (nI (gN (jZ σ)))) (eW _ (by rw [tn, if_pos d1, if_neg d2, if_pos d3, if_neg d4, if_neg d5, if_neg d6, d7, if_neg (by decide), d8, if_neg (by decide), if_pos d9'])) ⟨?_, fun a a1 a2 => ?_, rfl⟩ (fun h1 g1 hD1 => ⟨ab_u2 (ab_u2 (ab_u2 (ab_u2 (ab_u2 (ab_u2 (md_wr (md_wr h1 34 (12 * gN (jZ σ)) (fun p => (g1 42 ((60 * k) + p)).toInt32) 12) 35 (20 * gN (jZ σ)) (fun p => (g1 42 ((60 * k2) + p)).toInt32) n) 36 (gN (jZ σ)) (nI n)) 37 (gN (jZ σ)) y) 30 31 (-1 : Int32)) 30 32 (0 : Int32)) 30 33 (-1 : Int32)) 30 1 (nI (gN (jZ σ) + 1)), g1, eM _ h1 g1 hD1 (by rw [tn, if_pos d1, if_neg d2, if_pos d3, if_neg d4, if_neg d5, if_pos d6', aS h1 g1 hD1, d7, if_neg (by decide), aU h1 g1 hD1, d8, if_neg (by decide), if_neg d9'']), ?_, fun a ha => ?_, fun _ _ => rfl⟩)
                      · refine ⟨h0.1, h0.2.1, ⟨by show gN (jZ σ) + 1 ≤ 6; omega, fun u hu => ?_⟩, h0.2.2.2.1, h0.2.2.2.2.1, h0.2.2.2.2.2.1, fun I hI => ?_⟩
                        · by_cases eu : u = gN (jZ σ)
                          · subst eu
                            show (ju (gA (jZ σ)) (gN (jZ σ)) _ (gN (jZ σ)) < 4096 ∧ ju (gB (jZ σ)) (gN (jZ σ)) _ (gN (jZ σ)) < 4096 ∧ sp_dj (ju (gA (jZ σ)) (gN (jZ σ)) _ (gN (jZ σ))) (ju (gB (jZ σ)) (gN (jZ σ)) _ (gN (jZ σ))) ∧ ju (gL (jZ σ)) (gN (jZ σ)) n (gN (jZ σ)) ≤ 20 ∧ (∀ j, j < ju (gL (jZ σ)) (gN (jZ σ)) n (gN (jZ σ)) → sp_mv (ju (gV (jZ σ)) (gN (jZ σ)) _ (gN (jZ σ)) j)) ∧ (ju (gO (jZ σ)) (gN (jZ σ)) y (gN (jZ σ)) = -1 ∨ ju (gO (jZ σ)) (gN (jZ σ)) y (gN (jZ σ)) = 0 ∨ ju (gO (jZ σ)) (gN (jZ σ)) y (gN (jZ σ)) = 1))
                            rw [ju_at, ju_at, ju_at, ju_at, ju_at]
                            exact ⟨sp_mk_lt _ _ (by decide), sp_mk_lt _ _ (by decide), sp_mk_dj _ _, hn20, fun j hj => (hmv j hj).1, hy⟩
                          · have hu' : u < gN (jZ σ) := by have : u < gN (jZ σ) + 1 := hu; omega
                            show (ju (gA (jZ σ)) (gN (jZ σ)) _ u < 4096 ∧ ju (gB (jZ σ)) (gN (jZ σ)) _ u < 4096 ∧ sp_dj (ju (gA (jZ σ)) (gN (jZ σ)) _ u) (ju (gB (jZ σ)) (gN (jZ σ)) _ u) ∧ ju (gL (jZ σ)) (gN (jZ σ)) n u ≤ 20 ∧ (∀ j, j < ju (gL (jZ σ)) (gN (jZ σ)) n u → sp_mv (ju (gV (jZ σ)) (gN (jZ σ)) _ u j)) ∧ (ju (gO (jZ σ)) (gN (jZ σ)) y u = -1 ∨ ju (gO (jZ σ)) (gN (jZ σ)) y u = 0 ∨ ju (gO (jZ σ)) (gN (jZ σ)) y u = 1))
                            rw [ju_ne eu, ju_ne eu, ju_ne eu, ju_ne eu, ju_ne eu]
                            exact h0.2.2.1.2 u hu'
                        · obtain ⟨p1, p2, p3, p4⟩ := h0.2.2.2.2.2.2 I hI
                          exact ⟨p1, p2, p3, Nat.le_succ_of_le p4⟩
                      · have x0 : ∀ a, a ≠ 14 → a ≠ 15 → a ≠ 18 → a ≠ 19 → a ≠ 20 → a ≠ 21 → (ab_u2 (gm_w (ab_u2 (ab_u2 (ab_u2 h 14 9 (0 : Int32)) 14 10 (-1 : Int32)) 14 11 (-1 : Int32)) (gN (jZ σ)) (nI (sp_en (sp_mk (sp_gw g k) 1 12) (sp_mk (sp_gw g k) 2 12) 0)) (nI n) y (fun j => (g (4 + k2) j).toInt32) n) 15 5 (nI (gN (jZ σ) + 1))) a = h a := fun a a14 a15 a18 a19 a20 a21 => by
                          rw [ab_u2_row a15]
                          funext b
                          unfold gm_w
                          rw [if_neg (fun w => a18 w.1), if_neg (fun w => a19 w.1), if_neg (fun w => a20 w.1), if_neg (fun w => a21 w.1), ab_u2_k a14, ab_u2_k a14, ab_u2_k a14]
                        have hgm : ∀ a b, a ≠ 15 → (ab_u2 (gm_w (ab_u2 (ab_u2 (ab_u2 h 14 9 (0 : Int32)) 14 10 (-1 : Int32)) 14 11 (-1 : Int32)) (gN (jZ σ)) (nI (sp_en (sp_mk (sp_gw g k) 1 12) (sp_mk (sp_gw g k) 2 12) 0)) (nI n) y (fun j => (g (4 + k2) j).toInt32) n) 15 5 (nI (gN (jZ σ) + 1))) a b = gm_w (ab_u2 (ab_u2 (ab_u2 h 14 9 (0 : Int32)) 14 10 (-1 : Int32)) 14 11 (-1 : Int32)) (gN (jZ σ)) (nI (sp_en (sp_mk (sp_gw g k) 1 12) (sp_mk (sp_gw g k) 2 12) 0)) (nI n) y (fun j => (g (4 + k2) j).toInt32) n a b := fun a b ha => ab_u2_k ha
                        obtain ⟨j1, j2, j3, ⟨j4, j5⟩, ⟨j6, j7⟩, j8, j9, j10, j11, -⟩ := hC
                        have e0 := x0 0 (by decide) (by decide) (by decide) (by decide) (by decide) (by decide)
                        refine ⟨bo_T_fr (x0 17 (by decide) (by decide) (by decide) (by decide) (by decide) (by decide)) j1, by rw [e0]; exact j2, ⟨ab_u2_at, fun u hu => ?_⟩, ⟨by rw [e0]; exact j4, ru_fr (fun a ha => x0 a (by omega) (by omega) (by omega) (by omega) (by omega) (by omega)) j5⟩, ⟨by rw [x0 1 (by decide) (by decide) (by decide) (by decide) (by decide) (by decide), x0 2 (by decide) (by decide) (by decide) (by decide) (by decide) (by decide)]; exact j6, j7⟩, tr_fr (x0 13 (by decide) (by decide) (by decide) (by decide) (by decide) (by decide)) j8, by rw [x0 28 (by decide) (by decide) (by decide) (by decide) (by decide) (by decide)]; exact j9, by rw [e0]; exact j10, jIC_fr e0 (x0 29 (by decide) (by decide) (by decide) (by decide) (by decide) (by decide)) _ j11, Or.inl ?_, Or.inl ?_, Or.inl ?_⟩
                        · rw [hgm 18 _ (by decide), hgm 19 _ (by decide), hgm 20 _ (by decide)]
                          by_cases eu : u = gN (jZ σ)
                          · subst eu
                            show gm_w _ _ _ _ _ _ _ 18 (gN (jZ σ)) = nI (sp_en (ju (gA (jZ σ)) (gN (jZ σ)) _ (gN (jZ σ))) (ju (gB (jZ σ)) (gN (jZ σ)) _ (gN (jZ σ))) 0) ∧ gm_w _ _ _ _ _ _ _ 19 (gN (jZ σ)) = nI (ju (gL (jZ σ)) (gN (jZ σ)) n (gN (jZ σ))) ∧ gm_w _ _ _ _ _ _ _ 20 (gN (jZ σ)) = ju (gO (jZ σ)) (gN (jZ σ)) y (gN (jZ σ)) ∧ ∀ j, j < ju (gL (jZ σ)) (gN (jZ σ)) n (gN (jZ σ)) → _ = nI (ju (gV (jZ σ)) (gN (jZ σ)) _ (gN (jZ σ)) j)
                            rw [ju_at, ju_at, ju_at, ju_at, ju_at]
                            unfold gm_w
                            refine ⟨if_pos ⟨rfl, rfl⟩, (if_neg (fun w => absurd w.1 (by decide))).trans (if_pos ⟨rfl, rfl⟩), (if_neg (fun w => absurd w.1 (by decide))).trans ((if_neg (fun w => absurd w.1 (by decide))).trans (if_pos ⟨rfl, rfl⟩)), fun j hj => ?_⟩
                            rw [ab_u2_k (by decide), if_neg (fun w => absurd w.1 (by decide)), if_neg (fun w => absurd w.1 (by decide)), if_neg (fun w => absurd w.1 (by decide)), if_pos ⟨rfl, by omega, by omega⟩, Nat.add_sub_cancel_left]
                            exact (hmv j hj).2
                          · have hu' : u < gN (jZ σ) := by have : u < gN (jZ σ) + 1 := hu; omega
                            have w3 := j3.2 u hu'
                            show gm_w _ _ _ _ _ _ _ 18 u = nI (sp_en (ju (gA (jZ σ)) (gN (jZ σ)) _ u) (ju (gB (jZ σ)) (gN (jZ σ)) _ u) 0) ∧ gm_w _ _ _ _ _ _ _ 19 u = nI (ju (gL (jZ σ)) (gN (jZ σ)) n u) ∧ gm_w _ _ _ _ _ _ _ 20 u = ju (gO (jZ σ)) (gN (jZ σ)) y u ∧ ∀ j, j < ju (gL (jZ σ)) (gN (jZ σ)) n u → _ = nI (ju (gV (jZ σ)) (gN (jZ σ)) _ u j)
                            rw [ju_ne eu, ju_ne eu, ju_ne eu, ju_ne eu, ju_ne eu]
                            have gw : ∀ a b, ¬ (a = 14) → (∀ w : a = 18 ∨ a = 19 ∨ a = 20, b ≠ gN (jZ σ)) → ¬ (a = 21 ∧ 20 * gN (jZ σ) ≤ b ∧ b < 20 * gN (jZ σ) + n) → gm_w (ab_u2 (ab_u2 (ab_u2 h 14 9 (0 : Int32)) 14 10 (-1 : Int32)) 14 11 (-1 : Int32)) (gN (jZ σ)) (nI (sp_en (sp_mk (sp_gw g k) 1 12) (sp_mk (sp_gw g k) 2 12) 0)) (nI n) y (fun j => (g (4 + k2) j).toInt32) n a b = h a b := fun a b a14 ab hab => by
                              unfold gm_w
                              rw [if_neg (fun w => ab (Or.inl w.1) w.2), if_neg (fun w => ab (Or.inr (Or.inl w.1)) w.2), if_neg (fun w => ab (Or.inr (Or.inr w.1)) w.2), if_neg hab, ab_u2_k a14, ab_u2_k a14, ab_u2_k a14]
                            refine ⟨(gw 18 u (by decide) (fun _ => eu) (by omega)).trans w3.1, (gw 19 u (by decide) (fun _ => eu) (by omega)).trans w3.2.1, (gw 20 u (by decide) (fun _ => eu) (by omega)).trans w3.2.2.1, fun j hj => ?_⟩
                            have := hL u hu'
                            rw [ab_u2_k (by decide)]
                            exact (gw 21 (20 * u + j) (by decide) (fun w => by omega) (by omega)).trans (w3.2.2.2 j hj)
                        · rw [hgm 14 _ (by decide)]
                          unfold gm_w
                          rw [if_neg (fun w => absurd w.1 (by decide)), if_neg (fun w => absurd w.1 (by decide)), if_neg (fun w => absurd w.1 (by decide)), if_neg (fun w => absurd w.1 (by decide)), ab_u2_ne (by decide), ab_u2_ne (by decide), ab_u2_at]
                        · rw [hgm 14 _ (by decide)]
                          unfold gm_w
                          rw [if_neg (fun w => absurd w.1 (by decide)), if_neg (fun w => absurd w.1 (by decide)), if_neg (fun w => absurd w.1 (by decide)), if_neg (fun w => absurd w.1 (by decide)), ab_u2_ne (by decide), ab_u2_at]
                        · rw [hgm 14 _ (by decide)]
                          unfold gm_w
                          rw [if_neg (fun w => absurd w.1 (by decide)), if_neg (fun w => absurd w.1 (by decide)), if_neg (fun w => absurd w.1 (by decide)), if_neg (fun w => absurd w.1 (by decide)), ab_u2_at]
                      · rw [ab_u2_row (by omega)]
                        funext b
                        unfold gm_w
                        rw [if_neg (by omega), if_neg (by omega), if_neg (by omega), if_neg (by omega), ab_u2_k (by omega), ab_u2_k (by omega), ab_u2_k (by omega)]
                      · have hcS := cS h1 g1 hD1
                        have hcU := cU h1 g1 hD1
                        obtain ⟨q1, q2, q3, ⟨q4, q5⟩, ⟨q6, q7⟩, q8, q9, q10, q11, -, q13⟩ := hD1
                        generalize hY : ab_u2 (ab_u2 (ab_u2 (ab_u2 (ab_u2 (ab_u2 (md_wr (md_wr h1 34 (12 * gN (jZ σ)) (fun p => (g1 42 ((60 * k) + p)).toInt32) 12) 35 (20 * gN (jZ σ)) (fun p => (g1 42 ((60 * k2) + p)).toInt32) n) 36 (gN (jZ σ)) (nI n)) 37 (gN (jZ σ)) y) 30 31 (-1 : Int32)) 30 32 (0 : Int32)) 30 33 (-1 : Int32)) 30 1 (nI (gN (jZ σ) + 1)) = Y
                        have y0 : ∀ a, a ≠ 30 → a ≠ 34 → a ≠ 35 → a ≠ 36 → a ≠ 37 → Y a = h1 a := fun a a30 a34 a35 a36 a37 => by
                          rw [← hY, ab_u2_row a30, ab_u2_row a30, ab_u2_row a30, ab_u2_row a30, ab_u2_row a37, ab_u2_row a36]
                          funext b
                          rw [md_wr_k a35, md_wr_k a34]
                        have y30 : ∀ b, b ≠ 1 → (b < 31 ∨ 33 < b) → Y 30 b = h1 30 b := fun b b1 b2 => by
                          rw [← hY, ab_u2_ne (by omega), ab_u2_ne (by omega), ab_u2_ne (by omega), ab_u2_ne (by omega), ab_u2_k (by decide), ab_u2_k (by decide), md_wr_k (by decide), md_wr_k (by decide)]
                        have y34 : ∀ b, Y 34 b = md_wr h1 34 (12 * gN (jZ σ)) (fun p => (g1 42 ((60 * k) + p)).toInt32) 12 34 b := fun b => by
                          rw [← hY, ab_u2_k (by decide), ab_u2_k (by decide), ab_u2_k (by decide), ab_u2_k (by decide), ab_u2_k (by decide), ab_u2_k (by decide), md_wr_k (by decide)]
                        have y35 : ∀ b, Y 35 b = if 35 = 35 ∧ 20 * gN (jZ σ) ≤ b ∧ b < 20 * gN (jZ σ) + n then (g1 42 ((60 * k2) + (b - 20 * gN (jZ σ)))).toInt32 else h1 35 b := fun b => by
                          rw [← hY, ab_u2_k (by decide), ab_u2_k (by decide), ab_u2_k (by decide), ab_u2_k (by decide), ab_u2_k (by decide), ab_u2_k (by decide)]
                          show (if 35 = 35 ∧ 20 * gN (jZ σ) ≤ b ∧ b < 20 * gN (jZ σ) + n then (g1 42 ((60 * k2) + (b - 20 * gN (jZ σ)))).toInt32 else _) = _
                          rw [md_wr_k (by decide)]
                        have y36 : ∀ b, Y 36 b = if b = gN (jZ σ) then nI n else h1 36 b := fun b => by
                          rw [← hY, ab_u2_k (by decide), ab_u2_k (by decide), ab_u2_k (by decide), ab_u2_k (by decide), ab_u2_k (by decide)]
                          by_cases eb : b = gN (jZ σ)
                          · rw [if_pos eb, eb, ab_u2_at]
                          · rw [if_neg eb, ab_u2_ne (fun w => eb w.2), md_wr_k (by decide), md_wr_k (by decide)]
                        have y37 : ∀ b, Y 37 b = if b = gN (jZ σ) then y else h1 37 b := fun b => by
                          rw [← hY, ab_u2_k (by decide), ab_u2_k (by decide), ab_u2_k (by decide), ab_u2_k (by decide)]
                          by_cases eb : b = gN (jZ σ)
                          · rw [if_pos eb, eb, ab_u2_at]
                          · rw [if_neg eb, ab_u2_ne (fun w => eb w.2), ab_u2_k (by decide), md_wr_k (by decide), md_wr_k (by decide)]
                        have yk : Y 30 31 = -1 ∧ Y 30 32 = 0 ∧ Y 30 33 = -1 ∧ Y 30 1 = nI (gN (jZ σ) + 1) := by
                          rw [← hY]
                          exact ⟨rfl, rfl, rfl, rfl⟩
                        refine ⟨bo_T_fr (y0 32 (by decide) (by decide) (by decide) (by decide) (by decide)) q1, md_bd_fr (y30 5 (by decide) (by decide)) (y30 3 (by decide) (by decide)) (y30 4 (by decide) (by decide)) q2, ⟨yk.2.2.2, fun u hu => ?_⟩, ⟨(y30 0 (by decide) (by decide)).trans q4, by rw [y0 33 (by decide) (by decide) (by decide) (by decide) (by decide)]; exact q5⟩, ⟨by rw [y0 38 (by decide) (by decide) (by decide) (by decide) (by decide), y0 39 (by decide) (by decide) (by decide) (by decide) (by decide), y0 40 (by decide) (by decide) (by decide) (by decide) (by decide), y0 41 (by decide) (by decide) (by decide) (by decide) (by decide)]; exact q6, q7⟩, mt_fr (y30 37 (by decide) (by decide)) (y0 49 (by decide) (by decide) (by decide) (by decide) (by decide)) q8, by rw [y0 31 (by decide) (by decide) (by decide) (by decide) (by decide)]; exact q9, (y30 2 (by decide) (by decide)).trans q10, jIM_id2 (σ := σ) _ (fun I hI => ⟨fun _ _ => rfl, fun u hu => ?_⟩) (jIM_fr (fun b b1 b2 => y30 b (by omega) (by omega)) (y0 50 (by decide) (by decide) (by decide) (by decide) (by decide)) _ q11), ⟨Or.inl yk.1, Or.inl yk.2.2.1, Or.inl (by rw [yk.2.1]; decide)⟩, by rw [y0 48 (by decide) (by decide) (by decide) (by decide) (by decide)]; exact q13⟩
                        · by_cases eu : u = gN (jZ σ)
                          · subst eu
                            show (∀ p, p < 12 → _ = nI (md_sw (ju (gA (jZ σ)) (gN (jZ σ)) _ (gN (jZ σ))) (ju (gB (jZ σ)) (gN (jZ σ)) _ (gN (jZ σ))) p)) ∧ _ = nI (ju (gL (jZ σ)) (gN (jZ σ)) n (gN (jZ σ))) ∧ _ = ju (gO (jZ σ)) (gN (jZ σ)) y (gN (jZ σ)) ∧ ∀ j, j < ju (gL (jZ σ)) (gN (jZ σ)) n (gN (jZ σ)) → _ = nI (ju (gV (jZ σ)) (gN (jZ σ)) _ (gN (jZ σ)) j)
                            rw [ju_at, ju_at, ju_at, ju_at, ju_at]
                            refine ⟨fun p hp => ?_, by rw [y36, if_pos rfl], by rw [y37, if_pos rfl], fun j hj => ?_⟩
                            · rw [y34]
                              refine (if_pos ⟨rfl, by omega, by omega⟩).trans ?_
                              rw [Nat.add_sub_cancel_left]
                              show (g1 42 (60 * k + p)).toInt32 = _
                              rw [hcS p (by omega), (hw p hp).2, jgw hp (hw p hp).1]
                            · rw [y35, if_pos ⟨rfl, by omega, by omega⟩, Nat.add_sub_cancel_left, hcU j (by omega)]
                              exact (hmv j hj).2
                          · have hu' : u < gN (jZ σ) := by have : u < gN (jZ σ) + 1 := hu; omega
                            have w3 := q3.2 u hu'
                            have := hL u hu'
                            show (∀ p, p < 12 → _ = nI (md_sw (ju (gA (jZ σ)) (gN (jZ σ)) _ u) (ju (gB (jZ σ)) (gN (jZ σ)) _ u) p)) ∧ _ = nI (ju (gL (jZ σ)) (gN (jZ σ)) n u) ∧ _ = ju (gO (jZ σ)) (gN (jZ σ)) y u ∧ ∀ j, j < ju (gL (jZ σ)) (gN (jZ σ)) n u → _ = nI (ju (gV (jZ σ)) (gN (jZ σ)) _ u j)
                            rw [ju_ne eu, ju_ne eu, ju_ne eu, ju_ne eu, ju_ne eu]
                            refine ⟨fun p hp => ?_, by rw [y36, if_neg eu]; exact w3.2.1, by rw [y37, if_neg eu]; exact w3.2.2.1, fun j hj => ?_⟩
                            · rw [y34]
                              exact (if_neg (fun w => by omega)).trans (w3.1 p hp)
                            · rw [y35, if_neg (fun w => by omega)]
                              exact w3.2.2.2 j hj
                        · have p4 := (h0.2.2.2.2.2.2 I hI).2.2.2
                          have eu : u ≠ gN (jZ σ) := by omega
                          exact ⟨ju_ne eu, ju_ne eu, ju_ne eu, ju_ne eu, ju_ne eu⟩
                      · rw [ab_u2_row (by omega), ab_u2_row (by omega), ab_u2_row (by omega), ab_u2_row (by omega), ab_u2_row (by omega), ab_u2_row (by omega)]
                        funext b
                        rw [md_wr_k (by omega), md_wr_k (by omega)]
        · exact jqb h0 hC hD hW hM (v := .int (-5 : Int32)) (some 5) (jo7s (by decide)) (eW _ (by rw [if_pos d1, if_neg d2, if_neg d3]; rfl)) (fun h1 hD1 => eM _ h1 g hD1 (by rw [if_pos d1, if_neg d2, if_neg d3]; rfl))
    · exact jqb h0 hC hD hW hM (v := .int (-4 : Int32)) (some 4) (jo7s (by decide)) (eW _ (by rw [if_neg d1]; rfl)) (fun h1 hD1 => eM _ h1 g hD1 (by rw [if_neg d1]; rfl))
