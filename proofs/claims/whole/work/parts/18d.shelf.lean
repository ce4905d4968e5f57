/-! calls that change SHELVES: row, set, copy, show -/
theorem jE {l : Launch} {σ σ' : jP} {q' : Nat → Nat} {nr : Nat} {h : Nat → Nat → Int32} {g : Nat → Nat → Int64} {rr : Nat → Option Nat} (h0' : jok σ') (hD : jD σ h g) {yW yM : ab_M} {as : List Value} {v : Value}
    (hW : ab_C l yW 20 0 0 (.ref 0 :: as) (ab_S nr h g rr) (fun r M1 => r = some v ∧ ∃ h1 g1, M1 = ab_S nr h1 g1 rr ∧ jC σ' q' nr h1 g1 rr ∧ (∀ a, 30 ≤ a → a ≤ 50 → h1 a = h a) ∧ g1 42 = g 42))
    (hM : ∀ h1 g1, jD σ h1 g1 → ab_C l yM 20 0 0 (.ref 30 :: as) (ab_S nr h1 g1 rr) (fun r M2 => r = some v ∧ ∃ h2 g2, M2 = ab_S nr h2 g2 rr ∧ jD σ' h2 g2 ∧ (∀ a, a < 30 ∨ 51 ≤ a → h2 a = h1 a) ∧ ∀ s, s < 8 → g2 (4 + s) = g1 (4 + s))) : ab_C l yW 20 0 0 (.ref 0 :: as) (ab_S nr h g rr) (jN l yM as) := by
  refine ab_C_wk hW ?_
  rintro r M1 ⟨rfl, h1, g1, rfl, hC1, e1, e2⟩
  refine ⟨v, nr, h1, g1, rr, rfl, rfl, ab_C_wk (hM h1 g1 (jD_at hD e1 e2)) ?_⟩
  rintro r M2 ⟨rfl, h2, g2, rfl, hD2, e3, e4⟩
  exact ⟨rfl, nr, h2, g2, rr, rfl, σ', q', h0', jC_at hC1 e3 e4, hD2⟩
/-- the same where both methods' contracts are equations -/
theorem jEb {l : Launch} {σ σ' : jP} {q' : Nat → Nat} {nr : Nat} {h : Nat → Nat → Int32} {g : Nat → Nat → Int64} {rr : Nat → Option Nat} (h0' : jok σ') (hD : jD σ h g) {yW yM : ab_M} {as : List Value} {v : Value} {FW : Option Value × ab_Me} {FM : (Nat → Nat → Int32) → (Nat → Nat → Int64) → Option Value × ab_Me}
    (hW : ab_C l yW 20 0 0 (.ref 0 :: as) (ab_S nr h g rr) (fun r M1 => (r, M1) = FW)) (hM : ∀ h1 g1, jD σ h1 g1 → ab_C l yM 20 0 0 (.ref 30 :: as) (ab_S nr h1 g1 rr) (fun r M2 => (r, M2) = FM h1 g1))
    {hX : Nat → Nat → Int32} {gX : Nat → Nat → Int64} (eW : FW = (some v, ab_S nr hX gX rr)) (jW : jC σ' q' nr hX gX rr ∧ (∀ a, 30 ≤ a → a ≤ 50 → hX a = h a) ∧ gX 42 = g 42)
    (eM : ∀ h1 g1, jD σ h1 g1 → ∃ h2 g2, FM h1 g1 = (some v, ab_S nr h2 g2 rr) ∧ jD σ' h2 g2 ∧ (∀ a, a < 30 ∨ 51 ≤ a → h2 a = h1 a) ∧ ∀ s, s < 8 → g2 (4 + s) = g1 (4 + s)) : ab_C l yW 20 0 0 (.ref 0 :: as) (ab_S nr h g rr) (jN l yM as) := by
  refine jE (v := v) (q' := q') h0' hD (ab_C_wk hW ?_) (fun h1 g1 hD1 => ab_C_wk (hM h1 g1 hD1) ?_)
  · intro r M1 K
    rw [eW] at K
    exact ⟨(Prod.mk.inj K).1, hX, gX, (Prod.mk.inj K).2, jW⟩
  · intro r M2 K
    obtain ⟨h2, g2, e, z⟩ := eM h1 g1 hD1
    rw [e] at K
    exact ⟨(Prod.mk.inj K).1, h2, g2, (Prod.mk.inj K).2, z⟩
/-- a REFUSAL, or nothing, the same where both methods' contracts are equations -/
theorem jqb {l : Launch} {σ : jP} {q : Nat → Nat} {nr : Nat} {h : Nat → Nat → Int32} {g : Nat → Nat → Int64} {rr : Nat → Option Nat} (h0 : jok σ) (hC : jC σ q nr h g rr) (hD : jD σ h g) {yW yM : ab_M} {as : List Value} {v : Value} {FW : Option Value × ab_Me} {FM : (Nat → Nat → Int32) → (Nat → Nat → Int64) → Option Value × ab_Me}
    (hW : ab_C l yW 20 0 0 (.ref 0 :: as) (ab_S nr h g rr) (fun r M1 => (r, M1) = FW)) (hM : ∀ h1 g1, jD σ h1 g1 → ab_C l yM 20 0 0 (.ref 30 :: as) (ab_S nr h1 g1 rr) (fun r M2 => (r, M2) = FM h1 g1))
    (o : Option Nat) (ho : jo7 o) (eW : FW = (some v, ab_S nr (jX o 28 h) g rr)) (eM : ∀ h1, jD σ h1 g → FM h1 g = (some v, ab_S nr (jX o 31 h1) g rr)) : ab_C l yW 20 0 0 (.ref 0 :: as) (ab_S nr h g rr) (jN l yM as) :=
  jq h0 hC hD ho (ab_C_wk hW (fun r M1 K => jwa (jkp hC) K eW)) (fun h1 hD1 => ab_C_wk (hM h1 g hD1) (fun r M2 K => jmb (jK_M hD1) K (eM h1 hD1)))
def jS (σ : jP) (hd : Nat → Int32) (zs : Nat → Nat) (cl : Nat → Nat → Int64) : jP := (σ.1, σ.2.1, σ.2.2.1, σ.2.2.2.1, (hd, zs, cl), σ.2.2.2.2.2)
theorem jok_S {σ : jP} (H : jok σ) {hd : Nat → Int32} {zs : Nat → Nat} {cl : Nat → Nat → Int64} (hs : ∀ s, s < 8 → jhd (jn σ) (hd s) ∧ zs s ≤ 60) : jok (jS σ hd zs cl) := ⟨H.1, H.2.1, H.2.2.1, H.2.2.2.1, hs, H.2.2.2.2.2.1, H.2.2.2.2.2.2⟩
theorem jC_S {σ : jP} {q : Nat → Nat} {nr : Nat} {h h' : Nat → Nat → Int32} {g g' : Nat → Nat → Int64} {rr : Nat → Option Nat} (H : jC σ q nr h g rr) (e : ∀ a, a ≠ 1 → a ≠ 2 → h' a = h a) {hd : Nat → Int32} {zs : Nat → Nat} {cl : Nat → Nat → Int64} (hs : ∀ s, s < 8 → h' 1 s = hd s ∧ h' 2 s = nI (zs s)) (hg : ∀ s k, s < 8 → k < 60 → g' (4 + s) k = cl s k) : jC (jS σ hd zs cl) q nr h' g' rr := by
  obtain ⟨h1, h2, h3, ⟨h4, h5⟩, -, h8, h9, h10, h11, h12⟩ := H
  have e0 := e 0 (by omega) (by omega)
  refine ⟨bo_T_fr (e 17 (by omega) (by omega)) h1, by rw [e0]; exact h2, gm_C_fr (e 15 (by omega) (by omega)) (e 18 (by omega) (by omega)) (e 19 (by omega) (by omega)) (e 20 (by omega) (by omega)) (e 21 (by omega) (by omega)) h3, ⟨by rw [e0]; exact h4, ru_fr (fun a ha => e a (by omega) (by omega)) h5⟩, ⟨hs, hg⟩, tr_fr (e 13 (by omega) (by omega)) h8, by rw [e 28 (by omega) (by omega)]; exact h9, by rw [e0]; exact h10, jIC_fr e0 (e 29 (by omega) (by omega)) _ h11, kp_fr (e 14 (by omega) (by omega)) (e 22 (by omega) (by omega)) (e 23 (by omega) (by omega)) h12⟩
theorem jIM_id {σ σ' : jP} (e1 : jc σ' = jc σ) (e2 : jZ σ' = jZ σ) (h : Nat → Nat → Int32) : ∀ (o : Option jI), jIM σ h o → jIM σ' h o
  | none, H => H
  | some I, H => by
    have H2 : h 30 38 = nI I.2.2.2 ∧ h 30 39 = nI I.2.2.1 ∧ (h 30 42 = nI I.2.1.2.2 ∧ h 30 40 = nI (if I.2.1.2.2 = 0 then I.2.1.1 else I.2.1.2.1) ∧ h 30 41 = nI (if I.2.1.2.2 = 0 then I.2.1.2.1 else I.2.1.1)) ∧ jKp σ I h := H
    refine ⟨H2.1, H2.2.1, H2.2.2.1, ?_⟩
    have z := H2.2.2.2
    unfold jKp at z ⊢
    rw [e1, e2]
    exact z
theorem jD_S {σ : jP} {h h' : Nat → Nat → Int32} {g g' : Nat → Nat → Int64} (H : jD σ h g) (e : ∀ a, a ≠ 38 → a ≠ 39 → a ≠ 40 → a ≠ 41 → h' a = h a) {hd : Nat → Int32} {zs : Nat → Nat} {cl : Nat → Nat → Int64} (hs : ∀ s, s < 8 → (h' 38 s = jhx (hd s) ∧ (100 ≤ hd s → h' 39 s = hd s - 100) ∧ (jhx (hd s) = 2 → h' 41 s = hd s)) ∧ h' 40 s = nI (zs s)) (hg : ∀ s k, s < 8 → k < 60 → g' 42 (60 * s + k) = cl s k) : jD (jS σ hd zs cl) h' g' := by
  obtain ⟨h1, h2, h3, ⟨h4, h5⟩, -, h8, h9, h10, h11, h12, h13⟩ := H
  have e30 := e 30 (by omega) (by omega) (by omega) (by omega)
  have x : ∀ b, h' 30 b = h 30 b := fun b => congrFun e30 b
  refine ⟨bo_T_fr (e 32 (by omega) (by omega) (by omega) (by omega)) h1, md_bd_fr (x 5) (x 3) (x 4) h2, md_G_fr (x 1) (e 34 (by omega) (by omega) (by omega) (by omega)) (e 35 (by omega) (by omega) (by omega) (by omega)) (e 36 (by omega) (by omega) (by omega) (by omega)) (e 37 (by omega) (by omega) (by omega) (by omega)) h3, ⟨by rw [e30]; exact h4, by rw [e 33 (by omega) (by omega) (by omega) (by omega)]; exact h5⟩, ⟨hs, hg⟩, mt_fr (x 37) (e 49 (by omega) (by omega) (by omega) (by omega)) h8, by rw [e 31 (by omega) (by omega) (by omega) (by omega)]; exact h9, by rw [e30]; exact h10, jIM_id (σ := σ) rfl rfl h' _ (jIM_fr (fun b _ _ => x b) (e 50 (by omega) (by omega) (by omega) (by omega)) _ h11), md_K_fr (x _) (x _) (x _) (e 45 (by omega) (by omega) (by omega) (by omega)) (e 46 (by omega) (by omega) (by omega) (by omega)) h12, by rw [e 48 (by omega) (by omega) (by omega) (by omega)]; exact h13⟩
/-- one SHELF holds something else -/
def ju {α : Type} (f : Nat → α) (s : Nat) (x : α) : Nat → α := fun j => if j = s then x else f j
theorem ju_at {α : Type} {f : Nat → α} {s : Nat} {x : α} : ju f s x s = x := if_pos rfl
theorem ju_ne {α : Type} {f : Nat → α} {s j : Nat} {x : α} (h : j ≠ s) : ju f s x j = f j := if_neg h
theorem jcl_of {cl : Nat → Nat → Int64} {s s' k k' : Nat} (hk : k < 60) (hk' : k' < 60) : 60 * s + k = 60 * s' + k' ↔ s = s' ∧ k = k' := by omega
theorem js_row (l : Launch) {σ : jP} {q : Nat → Nat} {nr : Nat} {h : Nat → Nat → Int32} {g : Nat → Nat → Int64} {rr : Nat → Option Nat} (h0 : jok σ) (hC : jC σ q nr h g rr) (hD : jD σ h g) (s x y : Int32) : ab_C l am_W_row 20 0 0 (.ref 0 :: [.int s, .int x, .int y]) (ab_S nr h g rr) (jN l am_M_row [.int s, .int x, .int y]) := by
  have hW := ct_W_row l 18 nr h g rr s x y
  have hM := fun h1 g1 (_ : jD σ h1 g1) => ct_M_row l 19 nr h1 g1 rr s x y
  by_cases c1 : ab_bz (sp_sh s) = 0
  · exact jqb h0 hC hD hW hM (v := .int (-1 : Int32)) (some 1) (jo7s (by decide)) (by unfold fx_W_row; rw [if_pos c1]; rfl) (fun h1 _ => by unfold fx_M_row; rw [if_pos c1]; rfl)
  · by_cases c2 : 0 ≤ y
    · by_cases c3 : x < 0
      · exact jqb h0 hC hD hW hM (v := .int (-6 : Int32)) (some 6) (jo7s (by decide)) (by unfold fx_W_row; rw [if_neg c1, if_pos c2, if_pos c3]; rfl) (fun h1 _ => by unfold fx_M_row; rw [if_neg c1, if_pos c2, if_pos c3]; rfl)
      · by_cases c4 : x < 4
        · obtain ⟨o, ho, rfl⟩ := sp_bt_n (N := 4) (by decide) c3 c4
          have c4' : nI o ≤ 3 := (ab_le (b := 3) (by omega) (by decide)).mpr (by omega)
          by_cases c5 : y ≤ 60
          · obtain ⟨k, hk, rfl⟩ := sp_sh_n c1
            have tk : (nI k).toNatClampNeg = k := ab_tn (by omega)
            obtain ⟨n, hn, rfl⟩ := nn_n (Int32.not_lt.mpr c2)
            have hn60 : n ≤ 60 := (ab_le (b := 60) hn (by decide)).mp c5
            have ho' := jhd_o o ho
            have e100 : (100 : Int32) + nI o = nI (100 + o) := ab_add 100 o
            refine jEb (σ' := jS σ (ju (jh σ) k (nI (100 + o))) (ju (jz σ) k n) (ju (jl σ) k (fun _ => 0))) (q' := q) ?_ hD hW hM (v := .int (1 : Int32)) (by unfold fx_W_row; rw [if_neg c1, if_pos c2, if_neg c3, if_pos c4, if_pos c5, tk, e100]) ⟨jC_S hC (fun a a1 a2 => by rw [ab_u2_row a2, ab_u2_row a1]) (fun j hj => ?_) (fun j b hj hb => ?_), fun a a1 a2 => by rw [ab_u2_row (by omega), ab_u2_row (by omega)], funext fun b => if_neg (fun z : 42 = 4 + k ∧ b < 60 => by omega)⟩ (fun h1 g1 hD1 => ?_)
            · refine jok_S h0 (fun j hj => ?_)
              by_cases e : j = k
              · subst e; rw [ju_at, ju_at]; exact ⟨Or.inr (Or.inr ⟨o, ho, rfl⟩), hn60⟩
              · rw [ju_ne e, ju_ne e]; exact h0.2.2.2.2.1 j hj
            · by_cases e : j = k
              · subst e; rw [ju_at, ju_at, ab_u2_at, ab_u2_k (by decide), ab_u2_at]; exact ⟨rfl, rfl⟩
              · rw [ju_ne e, ju_ne e, ab_u2_k (by decide), ab_u2_ne (fun z => e z.2), ab_u2_ne (fun z => e z.2), ab_u2_k (by decide)]; exact hC.2.2.2.2.1.1 j hj
            · by_cases e : j = k
              · subst e; rw [ju_at]; exact if_pos ⟨rfl, hb⟩
              · rw [ju_ne e]; exact (if_neg (fun z => e (by omega))).trans (hC.2.2.2.2.1.2 j b hj hb)
            · refine ⟨_, _, by unfold fx_M_row; rw [if_neg c1, if_pos c2, if_neg c3, if_pos c4', if_pos c5, tk], jD_S hD1 (fun a a1 a2 a3 a4 => by rw [ab_u2_row a3, ab_u2_row a2, ab_u2_row a1]) (fun j hj => ?_) (fun j b hj hb => ?_), fun a ha => by rw [ab_u2_row (by omega), ab_u2_row (by omega), ab_u2_row (by omega)], fun s' hs' => funext fun b => if_neg (fun z : 4 + s' = 42 ∧ 60 * k ≤ b ∧ b < 60 * k + 60 => by omega)⟩
              · have z := hD1.2.2.2.2.1.1 j hj
                by_cases e : j = k
                · subst e
                  rw [ju_at, ju_at, ab_u2_at, ab_u2_k (by decide), ab_u2_k (by decide), ab_u2_at, ab_u2_k (by decide), ab_u2_at, ho'.1]
                  exact ⟨⟨rfl, fun _ => by rw [← e100, Int32.add_comm, Int32.add_sub_cancel], fun z => absurd z (by decide)⟩, rfl⟩
                · have f : ∀ a, (ab_u2 (ab_u2 (ab_u2 h1 38 k 1) 39 k (nI o)) 40 k (nI n)) a j = h1 a j := fun a => by rw [ab_u2_ne (fun z => e z.2), ab_u2_ne (fun z => e z.2), ab_u2_ne (fun z => e z.2)]
                  rw [ju_ne e, ju_ne e, f 38, f 39, f 41, f 40]
                  exact z
              · by_cases e : j = k
                · subst e; rw [ju_at]; exact if_pos ⟨rfl, by omega, by omega⟩
                · rw [ju_ne e]; exact (if_neg (fun z => e (by omega))).trans (hD1.2.2.2.2.1.2 j b hj hb)
          · exact jqb h0 hC hD hW hM (v := .int (-7 : Int32)) (some 7) (jo7s (by decide)) (by unfold fx_W_row; rw [if_neg c1, if_pos c2, if_neg c3, if_pos c4, if_neg c5]; rfl) (fun h1 _ => by unfold fx_M_row; rw [if_neg c1, if_pos c2, if_neg c3, if_pos c4', if_neg c5]; rfl)
        · have c4' : ¬ x ≤ 3 := fun z => c4 (by have := Int32.le_iff_toInt_le.mp z; exact Int32.lt_iff_toInt_lt.mpr (by have e : (3 : Int32).toInt = 3 := rfl; have e2 : (4 : Int32).toInt = 4 := rfl; omega))
          exact jqb h0 hC hD hW hM (v := .int (-6 : Int32)) (some 6) (jo7s (by decide)) (by unfold fx_W_row; rw [if_neg c1, if_pos c2, if_neg c3, if_neg c4]; rfl) (fun h1 _ => by unfold fx_M_row; rw [if_neg c1, if_pos c2, if_neg c3, if_neg c4']; rfl)
    · exact jqb h0 hC hD hW hM (v := .int (-4 : Int32)) (some 4) (jo7s (by decide)) (by unfold fx_W_row; rw [if_neg c1, if_neg c2]; rfl) (fun h1 _ => by unfold fx_M_row; rw [if_neg c1, if_neg c2]; rfl)
theorem js_set (l : Launch) {σ : jP} {q : Nat → Nat} {nr : Nat} {h : Nat → Nat → Int32} {g : Nat → Nat → Int64} {rr : Nat → Option Nat} (h0 : jok σ) (hC : jC σ q nr h g rr) (hD : jD σ h g) (s x : Int32) (v : Int64) : ab_C l am_W_set 20 0 0 (.ref 0 :: [.int s, .int x, .long v]) (ab_S nr h g rr) (jN l am_M_set [.int s, .int x, .long v]) := by
  have hW := ct_W_set l 18 nr h g rr (jz_W h0 hC) s x v
  have hM := fun h1 g1 (hD1 : jD σ h1 g1) => ct_M_set l 19 nr h1 g1 rr (jz_M h0 hD1) s x v
  by_cases c1 : ab_bz (sp_sh s) = 0
  · exact jqb h0 hC hD hW hM (v := .int (-1 : Int32)) (some 1) (jo7s (by decide)) (by unfold fx_W_set; rw [jrr_n c1, if_neg (by decide)]; rfl) (fun h1 _ => by unfold fx_M_set; rw [if_pos c1]; rfl)
  · obtain ⟨k, hk, rfl⟩ := sp_sh_n c1
    have tk : (nI k).toNatClampNeg = k := ab_tn (by omega)
    have eW := jrr_W hC hk c1
    rcases jhd_c (h0.2.2.2.2.1 k hk).1 h0.2.2.2.1.1 with ⟨-, e2, e3⟩ | ⟨-, e2, e3, -⟩ | ⟨⟨o, ho, e1⟩, e2, e3, -, e5⟩
    · exact jqb h0 hC hD hW hM (v := .int (-3 : Int32)) (some 3) (jo7s (by decide)) (by unfold fx_W_set; rw [eW, e3, if_neg (by decide)]; rfl) (fun h1 hD1 => by unfold fx_M_set; rw [if_neg c1, tk, (hD1.2.2.2.2.1.1 k hk).1.1, e2, if_neg (by decide), if_pos rfl]; rfl)
    · exact jqb h0 hC hD hW hM (v := .int (-2 : Int32)) (some 2) (jo7s (by decide)) (by unfold fx_W_set; rw [eW, e3, if_neg (by decide)]; rfl) (fun h1 hD1 => by unfold fx_M_set; rw [if_neg c1, tk, (hD1.2.2.2.2.1.1 k hk).1.1, e2, if_pos rfl]; rfl)
    · have z60 := (h0.2.2.2.2.1 k hk).2
      by_cases c2 : x < 0
      · exact jqb h0 hC hD hW hM (v := .int (-5 : Int32)) (some 5) (jo7s (by decide)) (by unfold fx_W_set; rw [eW, e3, if_pos rfl, if_pos c2]; rfl) (fun h1 hD1 => by unfold fx_M_set; rw [if_neg c1, tk, (hD1.2.2.2.2.1.1 k hk).1.1, e2, if_neg (by decide), if_neg (by decide), if_pos c2]; rfl)
      · by_cases c3 : x < nI (jz σ k)
        · obtain ⟨j, hj, rfl⟩ := sp_bt_n (by omega) c2 c3
          have tj : (nI j).toNatClampNeg = j := ab_tn (by omega)
          refine jEb (σ' := jS σ (jh σ) (jz σ) (ju (jl σ) k (ju (jl σ k) j (fv_lb (jh σ k - 100) v)))) (q' := q) (jok_S h0 (fun s hs => h0.2.2.2.2.1 s hs)) hD hW hM (v := .int (1 : Int32)) (by unfold fx_W_set; rw [eW, e3, if_pos rfl, if_neg c2, tk, if_pos c3, tj, (hC.2.2.2.2.1.1 k hk).1]) ⟨jC_S hC (fun a a1 a2 => rfl) hC.2.2.2.2.1.1 (fun s' b hs' hb => ?_), fun a a1 a2 => rfl, ab_u2_row (by omega)⟩ (fun h1 g1 hD1 => ?_)
          · by_cases e : s' = k
            · subst e
              rw [ju_at]
              by_cases e' : b = j
              · subst e'; rw [ju_at, ab_u2_at]
              · rw [ju_ne e', ab_u2_ne (fun z => e' z.2)]; exact hC.2.2.2.2.1.2 s' b hs' hb
            · rw [ju_ne e, ab_u2_ne (fun z => e (by omega))]; exact hC.2.2.2.2.1.2 s' b hs' hb
          · have hM39 := (hD1.2.2.2.2.1.1 k hk).1.2.1 e5
            refine ⟨h1, ab_u2 g1 42 (60 * k + j) (fv_lb (jh σ k - 100) v), ?_, jD_S hD1 (fun a a1 a2 a3 a4 => rfl) hD1.2.2.2.2.1.1 (fun s' b hs' hb => ?_), fun a ha => rfl, fun s' hs' => ab_u2_row (by omega)⟩
            · unfold fx_M_set fv_lb
              rw [if_neg c1, tk, (hD1.2.2.2.2.1.1 k hk).1.1, e2, if_neg (by decide), if_neg (by decide), if_neg c2, if_pos c3, tj, hM39]
              by_cases d0 : jh σ k - 100 = 0
              · rw [if_pos d0, if_pos d0]
              · rw [if_neg d0, if_neg d0]
                by_cases d1 : jh σ k - 100 = 1
                · rw [if_pos d1, if_pos d1]
                · rw [if_neg d1, if_neg d1]
                  by_cases d2 : jh σ k - 100 = 2
                  · rw [if_pos d2, if_pos d2]
                  · rw [if_neg d2, if_neg d2]
            · by_cases e : s' = k
              · subst e
                rw [ju_at]
                by_cases e' : b = j
                · subst e'; rw [ju_at, ab_u2_at]
                · rw [ju_ne e', ab_u2_ne (fun z => e' (by omega))]; exact hD1.2.2.2.2.1.2 s' b hs' hb
              · rw [ju_ne e, ab_u2_ne (fun z => e (by omega))]; exact hD1.2.2.2.2.1.2 s' b hs' hb
        · exact jqb h0 hC hD hW hM (v := .int (-5 : Int32)) (some 5) (jo7s (by decide)) (by unfold fx_W_set; rw [eW, e3, if_pos rfl, if_neg c2, tk, if_neg c3]; rfl) (fun h1 hD1 => by unfold fx_M_set; rw [if_neg c1, tk, (hD1.2.2.2.2.1.1 k hk).1.1, e2, if_neg (by decide), if_neg (by decide), if_neg c2, if_neg c3]; rfl)
theorem js_show (l : Launch) {σ : jP} {q : Nat → Nat} {nr : Nat} {h : Nat → Nat → Int32} {g : Nat → Nat → Int64} {rr : Nat → Option Nat} (h0 : jok σ) (hC : jC σ q nr h g rr) (hD : jD σ h g) (s x : Int32) : ab_C l am_W_show 20 0 0 (.ref 0 :: [.int s, .int x]) (ab_S nr h g rr) (jN l am_M_show [.int s, .int x]) := by
  have hW := ct_W_show l 18 nr h g rr h0.2.2.2.1.1 hC.2.2.2.1.1 hC.2.2.2.1.2 s x
  have hM := fun h1 g1 (hD1 : jD σ h1 g1) => ct_M_show l 19 nr h1 g1 rr hD1.2.2.2.1.1 h0.2.2.2.1.1 s x
  by_cases c1 : ab_bz (sp_sh s) = 0
  · exact jqb h0 hC hD hW hM (v := .int (-1 : Int32)) (some 1) (jo7s (by decide)) (by unfold fx_W_show; rw [if_pos c1]; rfl) (fun h1 _ => by unfold fx_M_show; rw [if_pos c1]; rfl)
  · obtain ⟨k, hk, rfl⟩ := sp_sh_n c1
    have tk : (nI k).toNatClampNeg = k := ab_tn (by omega)
    have go : ∀ (w y : Int32), jhd (jn σ) y → (jhx y = 2 ∨ y = -1) → fx_W_show nr h g rr (jn σ) q (jc σ) (nI k) x = (some (.int w), ab_S nr (ab_u2 h 1 k y) g rr) → (∀ h1 g1, jD σ h1 g1 → fx_M_show nr h1 g1 rr (jn σ) (nI k) x = (some (.int w), ab_S nr (ab_u2 (ab_u2 h1 38 k (jhx y)) 41 k y) g1 rr)) → ab_C l am_W_show 20 0 0 (.ref 0 :: [.int (nI k), .int x]) (ab_S nr h g rr) (jN l am_M_show [.int (nI k), .int x]) := by
      intro w y hy hy2 eW eM
      have hno : ¬ (100 : Int32) ≤ y := by
        rcases hy2 with z | z
        · rcases jhd_c hy h0.2.2.2.1.1 with ⟨-, e2, -⟩ | ⟨-, -, -, -, e5⟩ | ⟨-, e2, -⟩
          · rw [e2] at z; exact absurd z (by decide)
          · exact e5
          · rw [e2] at z; exact absurd z (by decide)
        · rw [z]; decide
      refine jEb (σ' := jS σ (ju (jh σ) k y) (jz σ) (jl σ)) (q' := q) (jok_S h0 (fun j hj => ?_)) hD hW hM (v := .int w) eW ⟨jC_S hC (fun a a1 a2 => ab_u2_row a1) (fun j hj => ?_) hC.2.2.2.2.1.2, fun a a1 a2 => ab_u2_row (by omega), rfl⟩ (fun h1 g1 hD1 => ⟨_, _, eM h1 g1 hD1, jD_S hD1 (fun a a1 a2 a3 a4 => by rw [ab_u2_row a4, ab_u2_row a1]) (fun j hj => ?_) hD1.2.2.2.2.1.2, fun a ha => by rw [ab_u2_row (by omega), ab_u2_row (by omega)], fun s' hs' => rfl⟩)
      · by_cases e : j = k
        · subst e; rw [ju_at]; exact ⟨hy, (h0.2.2.2.2.1 j hj).2⟩
        · rw [ju_ne e]; exact h0.2.2.2.2.1 j hj
      · by_cases e : j = k
        · subst e; rw [ju_at, ab_u2_at, ab_u2_k (by decide)]; exact ⟨rfl, (hC.2.2.2.2.1.1 j hj).2⟩
        · rw [ju_ne e, ab_u2_ne (fun z => e z.2), ab_u2_k (by decide)]; exact hC.2.2.2.2.1.1 j hj
      · have z := hD1.2.2.2.2.1.1 j hj
        by_cases e : j = k
        · subst e
          rw [ju_at, ab_u2_k (by decide), ab_u2_at, ab_u2_at, ab_u2_k (by decide), ab_u2_k (by decide)]
          exact ⟨⟨rfl, fun z => absurd z hno, fun _ => rfl⟩, z.2⟩
        · rw [ju_ne e, ab_u2_k (by decide), ab_u2_ne (fun z => e z.2), ab_u2_k (by decide), ab_u2_k (by decide), ab_u2_ne (fun z => e z.2), ab_u2_k (by decide), ab_u2_k (by decide), ab_u2_k (by decide)]
          exact z
    by_cases c2 : x = -1
    · subst c2
      exact go 0 (-1) (Or.inl rfl) (Or.inr rfl) (by unfold fx_W_show; rw [if_neg c1, if_pos rfl, if_pos rfl, tk]) (fun h1 g1 hD1 => by unfold fx_M_show; rw [if_neg c1, if_pos rfl, if_pos rfl, if_pos rfl, tk]; rfl)
    · by_cases c3 : ab_bz (decide (0 ≤ x ∧ x < nI (jn σ))) = 0
      · exact jqb h0 hC hD hW hM (v := .int (-1 : Int32)) (some 1) (jo7s (by decide)) (by unfold fx_W_show; rw [if_neg c1, if_neg c2, if_pos c3]; rfl) (fun h1 _ => by unfold fx_M_show; rw [if_neg c1, if_neg c2, if_pos c3]; rfl)
      · have n8 := h0.2.2.2.1.1
        obtain ⟨r, hr, rfl⟩ := sp_ra_n (by omega) c3
        have tr : (nI r).toNatClampNeg = r := ab_tn (by omega)
        have e2 := (jhd_r r (by omega)).1
        exact go 1 (nI r) (Or.inr (Or.inl ⟨r, hr, rfl⟩)) (Or.inl e2) (by unfold fx_W_show; rw [if_neg c1, if_neg c2, if_neg c3, tr, if_neg c2, tk]) (fun h1 g1 hD1 => by unfold fx_M_show; rw [if_neg c1, if_neg c2, if_neg c3, tr, if_neg c2, if_neg c2, tk, e2])
/-- two SHELVES that are to be ROWS -/
theorem jtwo {σ : jP} {q : Nat → Nat} {nr : Nat} {h : Nat → Nat → Int32} {g : Nat → Nat → Int64} {rr : Nat → Option Nat} (h0 : jok σ) (hC : jC σ q nr h g rr) (s u : Int32) : ((ab_bz (sp_sh s) = 0 ∨ (¬ ab_bz (sp_sh s) = 0 ∧ ab_bz (sp_sh u) = 0)) ∧ fv_W_twoRowsRefusal h s u = -1) ∨
    ((¬ ab_bz (sp_sh s) = 0 ∧ ¬ ab_bz (sp_sh u) = 0) ∧ ∃ k k2, (k < 8 ∧ s = nI k) ∧ (k2 < 8 ∧ u = nI k2) ∧ (((jhx (jh σ k) = 2 ∨ (¬ jhx (jh σ k) = 2 ∧ jhx (jh σ k2) = 2)) ∧ fv_W_twoRowsRefusal h s u = -2) ∨ (((jhx (jh σ k) = 0 ∧ ¬ jhx (jh σ k2) = 2) ∨ (jhx (jh σ k) = 1 ∧ jhx (jh σ k2) = 0)) ∧ fv_W_twoRowsRefusal h s u = -3) ∨
      ((∃ o, o < 4 ∧ jh σ k = nI (100 + o)) ∧ (∃ o, o < 4 ∧ jh σ k2 = nI (100 + o)) ∧ jhx (jh σ k) = 1 ∧ jhx (jh σ k2) = 1 ∧ (100 ≤ jh σ k ∧ 100 ≤ jh σ k2) ∧ fv_W_twoRowsRefusal h s u = 0))) := by
  have jd : ∀ a b c, fv_W_rowRefusal h s = a → fv_W_rowRefusal h u = b → (if a = 0 then a + b else if b = 0 then a + b else if a < b then b else a) = c → fv_W_twoRowsRefusal h s u = c := fun a b c ha hb hc => by
    unfold fv_W_twoRowsRefusal
    rw [ha, hb]
    exact hc
  have n8 := h0.2.2.2.1.1
  by_cases c1 : ab_bz (sp_sh s) = 0
  · refine Or.inl ⟨Or.inl c1, ?_⟩
    by_cases c2 : ab_bz (sp_sh u) = 0
    · exact jd _ _ _ (jrr_n c1) (jrr_n c2) (by decide)
    · obtain ⟨k2, hk2, rfl⟩ := sp_sh_n c2
      rcases jhd_c (h0.2.2.2.2.1 k2 hk2).1 n8 with ⟨-, -, e3⟩ | ⟨-, -, e3, -⟩ | ⟨-, -, e3, -⟩ <;> exact jd _ _ _ (jrr_n c1) ((jrr_W hC hk2 c2).trans e3) (by decide)
  · obtain ⟨k, hk, rfl⟩ := sp_sh_n c1
    by_cases c2 : ab_bz (sp_sh u) = 0
    · refine Or.inl ⟨Or.inr ⟨c1, c2⟩, ?_⟩
      rcases jhd_c (h0.2.2.2.2.1 k hk).1 n8 with ⟨-, -, e3⟩ | ⟨-, -, e3, -⟩ | ⟨-, -, e3, -⟩ <;> exact jd _ _ _ ((jrr_W hC hk c1).trans e3) (jrr_n c2) (by decide)
    · obtain ⟨k2, hk2, rfl⟩ := sp_sh_n c2
      refine Or.inr ⟨⟨c1, c2⟩, k, k2, ⟨hk, rfl⟩, ⟨hk2, rfl⟩, ?_⟩
      have a1 := jrr_W hC hk c1
      have a2 := jrr_W hC hk2 c2
      rcases jhd_c (h0.2.2.2.2.1 k hk).1 n8 with ⟨-, e2, e3⟩ | ⟨-, e2, e3, -⟩ | ⟨w1, e2, e3, -, e5⟩ <;> rcases jhd_c (h0.2.2.2.2.1 k2 hk2).1 n8 with ⟨-, f2, f3⟩ | ⟨-, f2, f3, -⟩ | ⟨w2, f2, f3, -, f5⟩ <;> rw [e2, f2]
      · exact Or.inr (Or.inl ⟨Or.inl ⟨rfl, by decide⟩, jd _ _ _ (a1.trans e3) (a2.trans f3) (by decide)⟩)
      · exact Or.inl ⟨Or.inr ⟨by decide, rfl⟩, jd _ _ _ (a1.trans e3) (a2.trans f3) (by decide)⟩
      · exact Or.inr (Or.inl ⟨Or.inl ⟨rfl, by decide⟩, jd _ _ _ (a1.trans e3) (a2.trans f3) (by decide)⟩)
      · exact Or.inl ⟨Or.inl rfl, jd _ _ _ (a1.trans e3) (a2.trans f3) (by decide)⟩
      · exact Or.inl ⟨Or.inl rfl, jd _ _ _ (a1.trans e3) (a2.trans f3) (by decide)⟩
      · exact Or.inl ⟨Or.inl rfl, jd _ _ _ (a1.trans e3) (a2.trans f3) (by decide)⟩
      · exact Or.inr (Or.inl ⟨Or.inr ⟨rfl, rfl⟩, jd _ _ _ (a1.trans e3) (a2.trans f3) (by decide)⟩)
      · exact Or.inl ⟨Or.inr ⟨by decide, rfl⟩, jd _ _ _ (a1.trans e3) (a2.trans f3) (by decide)⟩
      · exact Or.inr (Or.inr ⟨w1, w2, rfl, rfl, ⟨e5, f5⟩, jd _ _ _ (a1.trans e3) (a2.trans f3) (by decide)⟩)
theorem jo_eq : ∀ a, a < 4 → ∀ b, b < 4 → (nI (100 + a) - 100 = nI (100 + b) - 100 ↔ nI (100 + a) = nI (100 + b)) := by decide +kernel
theorem js_copy (l : Launch) {σ : jP} {q : Nat → Nat} {nr : Nat} {h : Nat → Nat → Int32} {g : Nat → Nat → Int64} {rr : Nat → Option Nat} (h0 : jok σ) (hC : jC σ q nr h g rr) (hD : jD σ h g) (s u x y z : Int32) : ab_C l am_W_copy 20 0 0 (.ref 0 :: [.int s, .int u, .int x, .int y, .int z]) (ab_S nr h g rr) (jN l am_M_copy [.int s, .int u, .int x, .int y, .int z]) := by
  have hW := ct_W_copy l 17 nr h g rr (jz_W h0 hC) s u x y z
  have hM := fun h1 g1 (hD1 : jD σ h1 g1) => ct_M_copy l 19 nr h1 g1 rr (jz_M h0 hD1) s u x y z
  rcases jtwo h0 hC s u with ⟨c, e⟩ | ⟨⟨c1, c2⟩, k, k2, ⟨hk, rfl⟩, ⟨hk2, rfl⟩, ⟨c, e⟩ | ⟨c, e⟩ | ⟨⟨o, ho, e1⟩, ⟨o2, ho2, f1⟩, e2, f2, ⟨e5, f5⟩, e⟩⟩
  · refine jqb h0 hC hD hW hM (v := .int (-1 : Int32)) (some 1) (jo7s (by decide)) (by unfold fx_W_copy; rw [e, if_neg (by decide)]; rfl) (fun h1 _ => ?_)
    unfold fx_M_copy
    rcases c with c | ⟨c, c'⟩
    · rw [if_pos c]; rfl
    · rw [if_neg c, if_pos c']; rfl
  · have tk : (nI k).toNatClampNeg = k := ab_tn (by omega)
    have tk2 : (nI k2).toNatClampNeg = k2 := ab_tn (by omega)
    refine jqb h0 hC hD hW hM (v := .int (-2 : Int32)) (some 2) (jo7s (by decide)) (by unfold fx_W_copy; rw [e, if_neg (by decide)]; rfl) (fun h1 hD1 => ?_)
    have m1 := (hD1.2.2.2.2.1.1 k hk).1.1
    have m2 := (hD1.2.2.2.2.1.1 k2 hk2).1.1
    unfold fx_M_copy
    rw [if_neg c1, if_neg c2, tk, tk2, m1, m2]
    rcases c with c | ⟨c, c'⟩
    · rw [if_pos c]; rfl
    · rw [if_neg c, if_pos c']; rfl
  · have tk : (nI k).toNatClampNeg = k := ab_tn (by omega)
    have tk2 : (nI k2).toNatClampNeg = k2 := ab_tn (by omega)
    refine jqb h0 hC hD hW hM (v := .int (-3 : Int32)) (some 3) (jo7s (by decide)) (by unfold fx_W_copy; rw [e, if_neg (by decide)]; rfl) (fun h1 hD1 => ?_)
    have m1 := (hD1.2.2.2.2.1.1 k hk).1.1
    have m2 := (hD1.2.2.2.2.1.1 k2 hk2).1.1
    unfold fx_M_copy
    rw [if_neg c1, if_neg c2, tk, tk2, m1, m2]
    rcases c with ⟨c, c'⟩ | ⟨c, c'⟩
    · rw [c, if_neg (by decide), if_neg c', if_neg (by decide), if_pos rfl]; rfl
    · rw [c, c', if_neg (by decide), if_neg (by decide), if_pos rfl, if_neg (by decide), if_neg (by decide), if_pos rfl]; rfl
  · have tk : (nI k).toNatClampNeg = k := ab_tn (by omega)
    have tk2 : (nI k2).toNatClampNeg = k2 := ab_tn (by omega)
    have z1 := (h0.2.2.2.2.1 k hk).2
    have z2 := (h0.2.2.2.2.1 k2 hk2).2
    have w1 := (hC.2.2.2.2.1.1 k hk).1
    have w2 := (hC.2.2.2.2.1.1 k2 hk2).1
    have hso := jo_eq o ho o2 ho2
    rw [← e1, ← f1] at hso
    have eM : ∀ (F : Option Value × ab_Me) h1 g1, jD σ h1 g1 → (if jh σ k = jh σ k2 then (if 0 ≤ z then (if x < 0 then (some (.int (-5 : Int32)), ab_S nr (ab_u2 h1 31 5 (h1 31 5 + 1)) g1 rr) else if y < 0 then (some (.int (-5 : Int32)), ab_S nr (ab_u2 h1 31 5 (h1 31 5 + 1)) g1 rr) else if nI (jz σ k) - nI z.toNatClampNeg < x then (some (.int (-5 : Int32)), ab_S nr (ab_u2 h1 31 5 (h1 31 5 + 1)) g1 rr) else if y ≤ nI (jz σ k2) - nI z.toNatClampNeg then (some (.int (1 : Int32)), ab_S nr h1 (md_cb (md_ca g1 (60 * k + x.toNatClampNeg) z.toNatClampNeg) (60 * k2 + y.toNatClampNeg) z.toNatClampNeg) rr) else (some (.int (-5 : Int32)), ab_S nr (ab_u2 h1 31 5 (h1 31 5 + 1)) g1 rr)) else (some (.int (-4 : Int32)), ab_S nr (ab_u2 h1 31 4 (h1 31 4 + 1)) g1 rr)) else (some (.int (-2 : Int32)), ab_S nr (ab_u2 h1 31 2 (h1 31 2 + 1)) g1 rr)) = F → fx_M_copy nr h1 g1 rr (jz σ) (nI k) (nI k2) x y z = F := by
      intro F h1 g1 hD1 eF
      have m1 := (hD1.2.2.2.2.1.1 k hk).1
      have m2 := (hD1.2.2.2.2.1.1 k2 hk2).1
      rw [← eF]
      unfold fx_M_copy
      rw [if_neg c1, if_neg c2, tk, tk2, m1.1, m2.1, e2, f2, if_neg (by decide), if_neg (by decide), if_pos rfl, if_pos rfl, m1.2.1 e5, m2.2.1 f5]
      by_cases d : jh σ k = jh σ k2
      · rw [if_pos d, if_pos (hso.mpr d), if_neg (by decide), if_neg (by decide)]
      · rw [if_neg d, if_neg (fun w => d (hso.mp w))]
    by_cases d : jh σ k = jh σ k2
    · have eW : ∀ F, (if 0 ≤ z then (if x < 0 then (some (.int (-5 : Int32)), ab_S nr (ab_u2 h 28 5 (h 28 5 + 1)) g rr) else if y < 0 then (some (.int (-5 : Int32)), ab_S nr (ab_u2 h 28 5 (h 28 5 + 1)) g rr) else if nI (jz σ k) - nI z.toNatClampNeg < x then (some (.int (-5 : Int32)), ab_S nr (ab_u2 h 28 5 (h 28 5 + 1)) g rr) else if y ≤ nI (jz σ k2) - nI z.toNatClampNeg then (some (.int (1 : Int32)), ab_S nr h (ab_cpy g (4 + k) (4 + k2) x.toNatClampNeg y.toNatClampNeg z.toNatClampNeg) rr) else (some (.int (-5 : Int32)), ab_S nr (ab_u2 h 28 5 (h 28 5 + 1)) g rr)) else (some (.int (-4 : Int32)), ab_S nr (ab_u2 h 28 4 (h 28 4 + 1)) g rr)) = F → fx_W_copy nr h g rr (jz σ) (nI k) (nI k2) x y z = F := by
        intro F eF
        rw [← eF]
        unfold fx_W_copy
        rw [e, if_pos rfl, tk, tk2, w1, w2, if_pos d]
      by_cases d1 : 0 ≤ z
      · by_cases d2 : x < 0
        · exact jqb h0 hC hD hW hM (v := .int (-5 : Int32)) (some 5) (jo7s (by decide)) (eW _ (by rw [if_pos d1, if_pos d2]; rfl)) (fun h1 hD1 => eM _ h1 g hD1 (by rw [if_pos d, if_pos d1, if_pos d2]; rfl))
        · by_cases d3 : y < 0
          · exact jqb h0 hC hD hW hM (v := .int (-5 : Int32)) (some 5) (jo7s (by decide)) (eW _ (by rw [if_pos d1, if_neg d2, if_pos d3]; rfl)) (fun h1 hD1 => eM _ h1 g hD1 (by rw [if_pos d, if_pos d1, if_neg d2, if_pos d3]; rfl))
          · by_cases d4 : nI (jz σ k) - nI z.toNatClampNeg < x
            · exact jqb h0 hC hD hW hM (v := .int (-5 : Int32)) (some 5) (jo7s (by decide)) (eW _ (by rw [if_pos d1, if_neg d2, if_neg d3, if_pos d4]; rfl)) (fun h1 hD1 => eM _ h1 g hD1 (by rw [if_pos d, if_pos d1, if_neg d2, if_neg d3, if_pos d4]; rfl))
            · by_cases d5 : y ≤ nI (jz σ k2) - nI z.toNatClampNeg
              · obtain ⟨n, hn, rfl⟩ := nn_n (Int32.not_lt.mpr d1)
                have tn : (nI n).toNatClampNeg = n := ab_tn hn
                rw [tn] at d4 d5
                obtain ⟨a, ha, rfl⟩ := cp_n z1 hn d2 d4
                obtain ⟨b, hb, rfl⟩ := cp_n z2 hn d3 (Int32.not_lt.mpr d5)
                have ta : (nI a).toNatClampNeg = a := ab_tn (by omega)
                have tb : (nI b).toNatClampNeg = b := ab_tn (by omega)
                refine jEb (σ' := jS σ (jh σ) (jz σ) (fun s' k' => if s' = k2 ∧ b ≤ k' ∧ k' < b + n then jl σ k (a + (k' - b)) else jl σ s' k')) (q' := q) (jok_S h0 (fun s hs => h0.2.2.2.2.1 s hs)) hD hW hM (v := .int (1 : Int32)) (eW _ (by rw [if_pos d1, if_neg d2, if_neg d3, tn, if_neg d4, if_pos d5, ta, tb])) ⟨jC_S hC (fun a a1 a2 => rfl) hC.2.2.2.2.1.1 (fun s' k' hs' hk' => ?_), fun a a1 a2 => rfl, funext fun j => if_neg (fun z : 42 = 4 + k2 => by omega)⟩ (fun h1 g1 hD1 => ⟨h1, _, eM _ h1 g1 hD1 (by rw [if_pos d, if_pos d1, if_neg d2, if_neg d3, tn, if_neg d4, if_pos d5, ta, tb]), jD_S hD1 (fun a a1 a2 a3 a4 => rfl) hD1.2.2.2.2.1.1 (fun s' k' hs' hk' => ?_), fun a ha => rfl, fun s' hs' => funext fun k' => ?_⟩)
                · show (if 4 + s' = 4 + k2 then va_cpy (g (4 + k)) (g (4 + k2)) a b n k' else g (4 + s') k') = if s' = k2 ∧ b ≤ k' ∧ k' < b + n then jl σ k (a + (k' - b)) else jl σ s' k'
                  by_cases f : s' = k2
                  · subst f
                    rw [if_pos rfl]
                    unfold va_cpy
                    by_cases f2 : b ≤ k' ∧ k' < b + n
                    · rw [if_pos f2, if_pos ⟨rfl, f2⟩]
                      exact hC.2.2.2.2.1.2 k _ hk (by omega)
                    · rw [if_neg f2, if_neg (fun w => f2 w.2)]
                      exact hC.2.2.2.2.1.2 s' k' hs' hk'
                  · rw [if_neg (fun w => f (by omega)), if_neg (fun w => f w.1)]
                    exact hC.2.2.2.2.1.2 s' k' hs' hk'
                · show (if 42 = 42 ∧ 60 * k2 + b ≤ 60 * s' + k' ∧ 60 * s' + k' < 60 * k2 + b + n then (if 43 = 43 ∧ 60 * s' + k' - (60 * k2 + b) < n then g1 42 (60 * k + a + (60 * s' + k' - (60 * k2 + b))) else g1 43 (60 * s' + k' - (60 * k2 + b))) else (if 42 = 43 ∧ 60 * s' + k' < n then g1 42 (60 * k + a + (60 * s' + k')) else g1 42 (60 * s' + k'))) = if s' = k2 ∧ b ≤ k' ∧ k' < b + n then jl σ k (a + (k' - b)) else jl σ s' k'
                  by_cases f : s' = k2 ∧ b ≤ k' ∧ k' < b + n
                  · rw [if_pos f, if_pos (by omega), if_pos (by omega), show 60 * k + a + (60 * s' + k' - (60 * k2 + b)) = 60 * k + (a + (k' - b)) by omega]
                    exact hD1.2.2.2.2.1.2 k _ hk (by omega)
                  · rw [if_neg f, if_neg (by omega), if_neg (by omega)]
                    exact hD1.2.2.2.2.1.2 s' k' hs' hk'
                · show (if 4 + s' = 42 ∧ 60 * k2 + b ≤ k' ∧ k' < 60 * k2 + b + n then _ else (if 4 + s' = 43 ∧ k' < n then _ else g1 (4 + s') k')) = g1 (4 + s') k'
                  rw [if_neg (by omega), if_neg (by omega)]
              · exact jqb h0 hC hD hW hM (v := .int (-5 : Int32)) (some 5) (jo7s (by decide)) (eW _ (by rw [if_pos d1, if_neg d2, if_neg d3, if_neg d4, if_neg d5]; rfl)) (fun h1 hD1 => eM _ h1 g hD1 (by rw [if_pos d, if_pos d1, if_neg d2, if_neg d3, if_neg d4, if_neg d5]; rfl))
      · exact jqb h0 hC hD hW hM (v := .int (-4 : Int32)) (some 4) (jo7s (by decide)) (eW _ (by rw [if_neg d1]; rfl)) (fun h1 hD1 => eM _ h1 g hD1 (by rw [if_pos d, if_neg d1]; rfl))
    · exact jqb h0 hC hD hW hM (v := .int (-2 : Int32)) (some 2) (jo7s (by decide)) (by unfold fx_W_copy; rw [e, if_pos rfl, tk, tk2, w1, w2, if_neg d]; rfl) (fun h1 hD1 => eM _ h1 g hD1 (by rw [if_neg d]; rfl))
