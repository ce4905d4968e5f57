/-! both sides beside one another: what they hold in common -/
theorem ab_C_wk {l : Launch} {y : ab_M} {d kc ks : Nat} {as : List Value} {M : ab_Me} {K K' : Option Value → ab_Me → Prop} (k : ab_C l y d kc ks as M K) (h : ∀ v M', K v M' → K' v M') : ab_C l y d kc ks as M K' := by
  intro E D sz
  refine MetFree.mono (k E D sz) (fun _ _ z => z) (fun _ _ _ _ _ z => z) ?_
  rintro a s o s' - ⟨⟨⟨v, E', M', h1, h2, h3⟩, h4⟩, h5⟩
  exact ⟨⟨⟨v, E', M', h1, h _ _ h2, h3⟩, h4⟩, h5⟩
theorem ab_CX_wk {l : Launch} {X : Option (Nat × (Nat → Int32))} {y : ab_M} {d kc ks : Nat} {as : List Value} {M : ab_Me} {K K' : Option Value → ab_Me → Prop} (k : ab_CX l X y d kc ks as M K) (h : ∀ v M', K v M' → K' v M') : ab_CX l X y d kc ks as M K' := by
  intro E D sz
  refine MetFree.mono (k E D sz) (fun _ _ z => z) (fun _ _ _ _ _ z => z) ?_
  rintro a s o s' - ⟨⟨⟨v, E', M', h1, h2, h3⟩, h4⟩, h5⟩
  exact ⟨⟨⟨v, E', M', h1, h _ _ h2, h3⟩, h4⟩, h5⟩
/-- what an IMAGE holds: TIES, NOW, how many RULES, how many GAMES -/
abbrev jI : Type := (Nat → Nat → Nat) × (Nat × Nat × Nat) × Nat × Nat
/-- TIES; NOW (the TURN's pieces, the other's, the TURN); GAMES; RULES (how many, CODES); SHELVES (what they hold, sizes, cells); THE TRACE; REFUSALS; the FAULT; THE IMAGE -/
abbrev jP : Type := (Nat → Nat → Nat) × (Nat × Nat × Nat) × sp_G × (Nat × (Nat → Nat)) × ((Nat → Int32) × (Nat → Nat) × (Nat → Nat → Int64)) × List Int32 × (Nat → Int32) × Int32 × Option jI
abbrev jT (σ : jP) : Nat → Nat → Nat := σ.1
abbrev jm (σ : jP) : Nat := σ.2.1.1
abbrev ji (σ : jP) : Nat := σ.2.1.2.1
abbrev jt (σ : jP) : Nat := σ.2.1.2.2
abbrev jZ (σ : jP) : sp_G := σ.2.2.1
abbrev jn (σ : jP) : Nat := σ.2.2.2.1.1
abbrev jc (σ : jP) : Nat → Nat := σ.2.2.2.1.2
abbrev jh (σ : jP) : Nat → Int32 := σ.2.2.2.2.1.1
abbrev jz (σ : jP) : Nat → Nat := σ.2.2.2.2.1.2.1
abbrev jl (σ : jP) : Nat → Nat → Int64 := σ.2.2.2.2.1.2.2
abbrev jb (σ : jP) : List Int32 := σ.2.2.2.2.2.1
abbrev jr (σ : jP) : Nat → Int32 := σ.2.2.2.2.2.2.1
abbrev jf (σ : jP) : Int32 := σ.2.2.2.2.2.2.2.1
abbrev jJ (σ : jP) : Option jI := σ.2.2.2.2.2.2.2.2
/-- NOTHING, a RULE's number, or 100 and a SORT -/
def jhd (n : Nat) (x : Int32) : Prop := x = -1 ∨ (∃ r, r < n ∧ x = nI r) ∨ ∃ o, o < 4 ∧ x = nI (100 + o)
def jIp (σ : jP) (I : jI) : Prop := sp_ok I.1 ∧ (I.2.1.1 < 4096 ∧ I.2.1.2.1 < 4096 ∧ I.2.1.2.2 < 2 ∧ sp_dj I.2.1.1 I.2.1.2.1) ∧ I.2.2.1 ≤ jn σ ∧ I.2.2.2 ≤ gN (jZ σ)
/-- what holds of them alone -/
def jok (σ : jP) : Prop := sp_ok (jT σ) ∧ (jm σ < 4096 ∧ ji σ < 4096 ∧ jt σ < 2 ∧ sp_dj (jm σ) (ji σ)) ∧ gm_ok (jZ σ) ∧ (jn σ ≤ 8 ∧ ∀ k, k < jn σ → 1 ≤ jc σ k ∧ jc σ k < 4096) ∧ (∀ s, s < 8 → jhd (jn σ) (jh σ s) ∧ jz σ s ≤ 60) ∧ (jb σ).length < 20 ∧ ∀ I, jJ σ = some I → jIp σ I
def jIC (h : Nat → Nat → Int32) (o : Option jI) : Prop := match o with
  | none => h 0 12 = 0
  | some I => h 0 12 = 1 ∧ bo_T I.1 h 29 ∧ h 0 14 = nI (sp_en I.2.1.1 I.2.1.2.1 I.2.1.2.2) ∧ h 0 15 = nI I.2.2.1 ∧ h 0 16 = nI I.2.2.2
/-- the class holds them -/
def jC (σ : jP) (q : Nat → Nat) (nr : Nat) (h : Nat → Nat → Int32) (g : Nat → Nat → Int64) (rr : Nat → Option Nat) : Prop :=
  bo_T (jT σ) h 17 ∧ h 0 10 = nI (sp_en (jm σ) (ji σ) (jt σ)) ∧ gm_C (jZ σ) h ∧ (h 0 4 = nI (jn σ) ∧ ru_ok nr (jn σ) q (jc σ) h rr) ∧ ((∀ s, s < 8 → h 1 s = jh σ s ∧ h 2 s = nI (jz σ s)) ∧ ∀ s k, s < 8 → k < 60 → g (4 + s) k = jl σ s k) ∧ tr_ok h (jb σ) ∧ (∀ k, 1 ≤ k → k ≤ 7 → h 28 k = jr σ k) ∧ h 0 5 = jf σ ∧ jIC h (jJ σ) ∧ kp_C (jT σ) (jZ σ) h
def jhx (x : Int32) : Int32 := if x = -1 then 0 else if 100 ≤ x then 1 else 2
/-- what the reference keeps for its IMAGE: TIES, CODES, GAMES -/
def jKp (σ : jP) (I : jI) (h : Nat → Nat → Int32) : Prop := (∀ k p, k < 3 → p < 12 → h 50 (12 * k + p) = nI (I.1 k p)) ∧ (∀ k, k < I.2.2.1 → h 50 (36 + k) = nI (jc σ k)) ∧
  ∀ y, y < I.2.2.2 → (∀ p, p < 12 → h 50 (44 + (12 * y + p)) = nI (md_sw (gA (jZ σ) y) (gB (jZ σ) y) p)) ∧ h 50 (236 + y) = nI (gL (jZ σ) y) ∧ h 50 (242 + y) = gO (jZ σ) y ∧ ∀ k, k < gL (jZ σ) y → h 50 (116 + (20 * y + k)) = nI (gV (jZ σ) y k)
def jIM (σ : jP) (h : Nat → Nat → Int32) (o : Option jI) : Prop := match o with
  | none => h 30 38 = -1
  | some I => h 30 38 = nI I.2.2.2 ∧ h 30 39 = nI I.2.2.1 ∧ (h 30 42 = nI I.2.1.2.2 ∧ h 30 40 = nI (if I.2.1.2.2 = 0 then I.2.1.1 else I.2.1.2.1) ∧ h 30 41 = nI (if I.2.1.2.2 = 0 then I.2.1.2.1 else I.2.1.1)) ∧ jKp σ I h
/-- the reference holds them -/
def jD (σ : jP) (h : Nat → Nat → Int32) (g : Nat → Nat → Int64) : Prop :=
  bo_T (jT σ) h 32 ∧ md_bd (jm σ) (ji σ) (jt σ) h ∧ md_G (jZ σ) h ∧ (h 30 0 = nI (jn σ) ∧ ∀ k, k < jn σ → h 33 k = nI (jc σ k)) ∧ ((∀ s, s < 8 → (h 38 s = jhx (jh σ s) ∧ (100 ≤ jh σ s → h 39 s = jh σ s - 100) ∧ (jhx (jh σ s) = 2 → h 41 s = jh σ s)) ∧ h 40 s = nI (jz σ s)) ∧ ∀ s k, s < 8 → k < 60 → g 42 (60 * s + k) = jl σ s k) ∧ mt_ok h (jb σ) ∧ (∀ k, 1 ≤ k → k ≤ 7 → h 31 k = jr σ k) ∧ h 30 2 = jf σ ∧ jIM σ h (jJ σ) ∧ md_K (jT σ) (jZ σ) h ∧ ∀ i, i < 6 → ∀ k, k < 3 → h 48 (3 * i + k) = nI (sp_wa i k)
/-- both -/
def jA (nr : Nat) (h : Nat → Nat → Int32) (g : Nat → Nat → Int64) (rr : Nat → Option Nat) : Prop := ∃ (σ : jP) (q : Nat → Nat), jok σ ∧ jC σ q nr h g rr ∧ jD σ h g
theorem tr_fr {h h' : Nat → Nat → Int32} (e : h' 13 = h 13) {bs : List Int32} (H : tr_ok h bs) : tr_ok h' bs := by
  unfold tr_ok
  rw [e]
  exact H
theorem ru_fr {nr n : Nat} {q cs : Nat → Nat} {h h' : Nat → Nat → Int32} {rr : Nat → Option Nat} (e : ∀ a, 51 ≤ a → h' a = h a) (H : ru_ok nr n q cs h rr) : ru_ok nr n q cs h' rr := fun j hj => by
  have z := H j hj
  rw [e (51 + q j) (by omega)]
  exact z
theorem jIC_fr {h h' : Nat → Nat → Int32} (e0 : h' 0 = h 0) (e29 : h' 29 = h 29) : ∀ (o : Option jI), jIC h o → jIC h' o
  | none, H => by
    show h' 0 12 = 0
    rw [e0]
    exact H
  | some I, H => by
    have H2 : h 0 12 = 1 ∧ bo_T I.1 h 29 ∧ h 0 14 = nI (sp_en I.2.1.1 I.2.1.2.1 I.2.1.2.2) ∧ h 0 15 = nI I.2.2.1 ∧ h 0 16 = nI I.2.2.2 := H
    show h' 0 12 = 1 ∧ bo_T I.1 h' 29 ∧ h' 0 14 = nI (sp_en I.2.1.1 I.2.1.2.1 I.2.1.2.2) ∧ h' 0 15 = nI I.2.2.1 ∧ h' 0 16 = nI I.2.2.2
    rw [e0]
    exact ⟨H2.1, bo_T_fr e29 H2.2.1, H2.2.2⟩
/-- the class's side, where none of its places has changed but what it knows of CODES -/
theorem jC_fr {σ : jP} {q : Nat → Nat} {nr : Nat} {h h' : Nat → Nat → Int32} {g g' : Nat → Nat → Int64} {rr : Nat → Option Nat} (H : jC σ q nr h g rr) (e : ∀ a, a < 30 ∨ 51 ≤ a → a ≠ 14 → (a < 22 ∨ 27 < a) → h' a = h a) (eg : ∀ s, s < 8 → g' (4 + s) = g (4 + s)) (kp : kp_C (jT σ) (jZ σ) h') : jC σ q nr h' g' rr := by
  obtain ⟨h1, h2, h3, ⟨h4, h5⟩, ⟨h6, h7⟩, h8, h9, h10, h11, -⟩ := H
  have e0 := e 0 (by omega) (by omega) (by omega)
  have e1 := e 1 (by omega) (by omega) (by omega)
  have e2 := e 2 (by omega) (by omega) (by omega)
  have e28 := e 28 (by omega) (by omega) (by omega)
  refine ⟨bo_T_fr (e 17 (by omega) (by omega) (by omega)) h1, by rw [e0]; exact h2, gm_C_fr (e 15 (by omega) (by omega) (by omega)) (e 18 (by omega) (by omega) (by omega)) (e 19 (by omega) (by omega) (by omega)) (e 20 (by omega) (by omega) (by omega)) (e 21 (by omega) (by omega) (by omega)) h3, ⟨by rw [e0]; exact h4, ru_fr (fun a ha => e a (by omega) (by omega) (by omega)) h5⟩, ⟨by rw [e1, e2]; exact h6, fun s k hs hk => by rw [eg s hs]; exact h7 s k hs hk⟩, tr_fr (e 13 (by omega) (by omega) (by omega)) h8, by rw [e28]; exact h9, by rw [e0]; exact h10, jIC_fr e0 (e 29 (by omega) (by omega) (by omega)) _ h11, kp⟩
theorem jC_at {σ : jP} {q : Nat → Nat} {nr : Nat} {h h' : Nat → Nat → Int32} {g g' : Nat → Nat → Int64} {rr : Nat → Option Nat} (H : jC σ q nr h g rr) (e : ∀ a, a < 30 ∨ 51 ≤ a → h' a = h a) (eg : ∀ s, s < 8 → g' (4 + s) = g (4 + s)) : jC σ q nr h' g' rr :=
  jC_fr H (fun a z _ _ => e a z) eg (kp_fr (e 14 (by omega)) (e 22 (by omega)) (e 23 (by omega)) H.2.2.2.2.2.2.2.2.2)
theorem mt_fr {h h' : Nat → Nat → Int32} (e : h' 30 37 = h 30 37) (e2 : h' 49 = h 49) {bs : List Int32} (H : mt_ok h bs) : mt_ok h' bs := by
  unfold mt_ok
  rw [e, e2]
  exact H
theorem jIM_fr {σ : jP} {h h' : Nat → Nat → Int32} (e0 : ∀ b, 38 ≤ b → b ≤ 42 → h' 30 b = h 30 b) (e50 : h' 50 = h 50) : ∀ (o : Option jI), jIM σ h o → jIM σ h' o
  | none, H => (e0 38 (by omega) (by omega)).trans H
  | some I, H => by
    have H2 : h 30 38 = nI I.2.2.2 ∧ h 30 39 = nI I.2.2.1 ∧ (h 30 42 = nI I.2.1.2.2 ∧ h 30 40 = nI (if I.2.1.2.2 = 0 then I.2.1.1 else I.2.1.2.1) ∧ h 30 41 = nI (if I.2.1.2.2 = 0 then I.2.1.2.1 else I.2.1.1)) ∧ jKp σ I h := H
    show h' 30 38 = nI I.2.2.2 ∧ h' 30 39 = nI I.2.2.1 ∧ (h' 30 42 = nI I.2.1.2.2 ∧ h' 30 40 = nI (if I.2.1.2.2 = 0 then I.2.1.1 else I.2.1.2.1) ∧ h' 30 41 = nI (if I.2.1.2.2 = 0 then I.2.1.2.1 else I.2.1.1)) ∧ jKp σ I h'
    rw [e0 38 (by omega) (by omega), e0 39 (by omega) (by omega), e0 40 (by omega) (by omega), e0 41 (by omega) (by omega), e0 42 (by omega) (by omega)]
    unfold jKp
    rw [e50]
    exact H2
theorem md_bd_fr {m i t : Nat} {h h' : Nat → Nat → Int32} (e5 : h' 30 5 = h 30 5) (e3 : h' 30 3 = h 30 3) (e4 : h' 30 4 = h 30 4) (H : md_bd m i t h) : md_bd m i t h' := by
  unfold md_bd
  rw [e5, e3, e4]
  exact H
/-- the reference's side, where nothing but scratch and what is kept has changed -/
theorem jD_fr {σ : jP} {h h' : Nat → Nat → Int32} {g g' : Nat → Nat → Int64} (H : jD σ h g) (e : ∀ a b, 30 ≤ a → a ≤ 50 → ¬ md_krr a b → h' a b = h a b) (eg : g' 42 = g 42) (kp : md_K (jT σ) (jZ σ) h') : jD σ h' g' := by
  obtain ⟨h1, h2, h3, ⟨h4, h5⟩, ⟨h6, h7⟩, h8, h9, h10, h11, -, h13⟩ := H
  have er : ∀ a, 30 < a → a ≤ 50 → (a < 44 ∨ 47 < a) → h' a = h a := fun a q1 q2 q3 => funext fun b => e a b (by omega) q2 (fun z => by rcases z with z | z <;> omega)
  have e3 : ∀ b, b ≠ 24 → b ≠ 25 → b ≠ 27 → b ≠ 28 → b ≠ 31 → b ≠ 32 → b ≠ 33 → h' 30 b = h 30 b := fun b a1 a2 a3 a4 a5 a6 a7 => e 30 b (by omega) (by omega) (fun z => by rcases z with z | z <;> omega)
  have x : ∀ b, b < 24 → h' 30 b = h 30 b := fun b hb => e3 b (by omega) (by omega) (by omega) (by omega) (by omega) (by omega) (by omega)
  have y : ∀ b, 34 ≤ b → h' 30 b = h 30 b := fun b hb => e3 b (by omega) (by omega) (by omega) (by omega) (by omega) (by omega) (by omega)
  refine ⟨bo_T_fr (er 32 (by omega) (by omega) (by omega)) h1, md_bd_fr (x 5 (by omega)) (x 3 (by omega)) (x 4 (by omega)) h2, md_G_fr (x 1 (by omega)) (er 34 (by omega) (by omega) (by omega)) (er 35 (by omega) (by omega) (by omega)) (er 36 (by omega) (by omega) (by omega)) (er 37 (by omega) (by omega) (by omega)) h3, ⟨(x 0 (by omega)).trans h4, by rw [er 33 (by omega) (by omega) (by omega)]; exact h5⟩, ⟨by rw [er 38 (by omega) (by omega) (by omega), er 39 (by omega) (by omega) (by omega), er 40 (by omega) (by omega) (by omega), er 41 (by omega) (by omega) (by omega)]; exact h6, by rw [eg]; exact h7⟩, mt_fr (y 37 (by omega)) (er 49 (by omega) (by omega) (by omega)) h8, by rw [er 31 (by omega) (by omega) (by omega)]; exact h9, (x 2 (by omega)).trans h10, jIM_fr (fun b q1 q2 => y b (by omega)) (er 50 (by omega) (by omega) (by omega)) _ h11, kp, by rw [er 48 (by omega) (by omega) (by omega)]; exact h13⟩
theorem jD_at {σ : jP} {h h' : Nat → Nat → Int32} {g g' : Nat → Nat → Int64} (H : jD σ h g) (e : ∀ a, 30 ≤ a → a ≤ 50 → h' a = h a) (eg : g' 42 = g 42) : jD σ h' g' :=
  jD_fr H (fun a b z z2 _ => congrFun (e a z z2) b) eg (md_K_fr (congrFun (e 30 (by omega) (by omega)) _) (congrFun (e 30 (by omega) (by omega)) _) (congrFun (e 30 (by omega) (by omega)) _) (e 45 (by omega) (by omega)) (e 46 (by omega) (by omega)) H.2.2.2.2.2.2.2.2.2.1)
/-! a REFUSAL is counted -/
def jbp (r : Nat → Int32) (k : Nat) : Nat → Int32 := fun j => if j = k then r k + 1 else r j
def jR (σ : jP) (o : Option Nat) : jP := match o with
  | none => σ
  | some k => (σ.1, σ.2.1, σ.2.2.1, σ.2.2.2.1, σ.2.2.2.2.1, σ.2.2.2.2.2.1, jbp (jr σ) k, σ.2.2.2.2.2.2.2.1, σ.2.2.2.2.2.2.2.2)
def jX (o : Option Nat) (pl : Nat) (h : Nat → Nat → Int32) : Nat → Nat → Int32 := match o with
  | none => h
  | some k => ab_u2 h pl k (h pl k + 1)
def jo7 (o : Option Nat) : Prop := ∀ k, o = some k → 1 ≤ k ∧ k ≤ 7
theorem jok_R {σ : jP} (H : jok σ) (o : Option Nat) : jok (jR σ o) := by
  cases o with
  | none => exact H
  | some k => exact H
theorem jX_row {o : Option Nat} {pl a : Nat} {h : Nat → Nat → Int32} (hn : a ≠ pl) : jX o pl h a = h a := by
  cases o with
  | none => rfl
  | some k => exact ab_u2_row hn
theorem jbp_h {r : Nat → Int32} {f : Nat → Int32} {h : Nat → Nat → Int32} {pl k : Nat} (hf : ∀ j, 1 ≤ j → j ≤ 7 → h pl j = r j) (hk : 1 ≤ k ∧ k ≤ 7) : ∀ j, 1 ≤ j → j ≤ 7 → ab_u2 h pl k (h pl k + 1) pl j = jbp r k j := by
  intro j h1 h7
  unfold jbp
  by_cases e : j = k
  · rw [if_pos e, e, ab_u2_at, hf k hk.1 hk.2]
  · rw [if_neg e, ab_u2_ne (fun z => e z.2), hf j h1 h7]
theorem jC_R {σ : jP} {q : Nat → Nat} {nr : Nat} {h : Nat → Nat → Int32} {g : Nat → Nat → Int64} {rr : Nat → Option Nat} (H : jC σ q nr h g rr) {o : Option Nat} (ho : jo7 o) : jC (jR σ o) q nr (jX o 28 h) g rr := by
  cases o with
  | none => exact H
  | some k =>
    obtain ⟨h1, h2, h3, ⟨h4, h5⟩, h6, h8, h9, h10, h11, h12⟩ := H
    have x : ∀ a, a ≠ 28 → ab_u2 h 28 k (h 28 k + 1) a = h a := fun a ha => ab_u2_row ha
    refine ⟨bo_T_fr (x 17 (by decide)) h1, h2, gm_C_fr (x 15 (by decide)) (x 18 (by decide)) (x 19 (by decide)) (x 20 (by decide)) (x 21 (by decide)) h3, ⟨h4, ru_fr (fun a ha => x a (by omega)) h5⟩, h6, tr_fr (x 13 (by decide)) h8, jbp_h (f := jr σ) h9 (ho k rfl), h10, jIC_fr (x 0 (by decide)) (x 29 (by decide)) _ h11, kp_fr (x 14 (by decide)) (x 22 (by decide)) (x 23 (by decide)) h12⟩
theorem jD_R {σ : jP} {h : Nat → Nat → Int32} {g : Nat → Nat → Int64} (H : jD σ h g) {o : Option Nat} (ho : jo7 o) : jD (jR σ o) (jX o 31 h) g := by
  cases o with
  | none => exact H
  | some k =>
    obtain ⟨h1, h2, h3, ⟨h4, h5⟩, h6, h8, h9, h10, h11, h12, h13⟩ := H
    have x : ∀ a, a ≠ 31 → ab_u2 h 31 k (h 31 k + 1) a = h a := fun a ha => ab_u2_row ha
    have x30 : ∀ b, ab_u2 h 31 k (h 31 k + 1) 30 b = h 30 b := fun b => congrFun (x 30 (by decide)) b
    refine ⟨bo_T_fr (x 32 (by decide)) h1, md_bd_fr (x30 5) (x30 3) (x30 4) h2, md_G_fr (x30 1) (x 34 (by decide)) (x 35 (by decide)) (x 36 (by decide)) (x 37 (by decide)) h3, ⟨h4, h5⟩, h6, mt_fr (x30 37) (x 49 (by decide)) h8, jbp_h (f := jr σ) h9 (ho k rfl), h10, ?_, md_K_31 h12 _ _, h13⟩
    have z := jIM_fr (σ := σ) (fun b _ _ => x30 b) (x 50 (by decide)) _ h11
    show jIM (jR σ (some k)) (ab_u2 h 31 k (h 31 k + 1)) (jJ σ)
    cases hI : jJ σ with
    | none => rw [hI] at z; exact z
    | some I => rw [hI] at z; exact z
/-- the reference's answer to the same call: the same, and both hold the same then -/
def jN (l : Launch) (y : ab_M) (as : List Value) : Option Value → ab_Me → Prop := fun r M1 => ∃ v nr1 h1 g1 rr1, r = some v ∧ M1 = ab_S nr1 h1 g1 rr1 ∧ ab_C l y 20 0 0 (.ref 30 :: as) M1 (fun r2 M2 => r2 = some v ∧ ∃ nr2 h2 g2 rr2, M2 = ab_S nr2 h2 g2 rr2 ∧ jA nr2 h2 g2 rr2)
/-- a call that changes nothing but how many REFUSALS there were -/
theorem jq {l : Launch} {σ : jP} {q : Nat → Nat} {nr : Nat} {h : Nat → Nat → Int32} {g : Nat → Nat → Int64} {rr : Nat → Option Nat} (h0 : jok σ) (hC : jC σ q nr h g rr) (hD : jD σ h g) {yW yM : ab_M} {as : List Value} {v : Value} {o : Option Nat} (ho : jo7 o)
    (hW : ab_C l yW 20 0 0 (.ref 0 :: as) (ab_S nr h g rr) (fun r M1 => r = some v ∧ ∃ h1, M1 = ab_S nr h1 g rr ∧ kp_C (jT σ) (jZ σ) h1 ∧ fr_K (jX o 28 h) h1))
    (hM : ∀ h1, jD σ h1 g → ab_C l yM 20 0 0 (.ref 30 :: as) (ab_S nr h1 g rr) (fun r M2 => r = some v ∧ ∃ h2, M2 = ab_S nr h2 g rr ∧ md_K (jT σ) (jZ σ) h2 ∧ md_kr (jX o 31 h1) h2)) : ab_C l yW 20 0 0 (.ref 0 :: as) (ab_S nr h g rr) (jN l yM as) := by
  refine ab_C_wk hW ?_
  rintro r M1 ⟨rfl, h1, rfl, hk, hf⟩
  have hD1 : jD σ h1 g := jD_at hD (fun a q1 q2 => (hf a (by omega) (by omega)).trans (jX_row (by omega))) rfl
  refine ⟨v, nr, h1, g, rr, rfl, rfl, ab_C_wk (hM h1 hD1) ?_⟩
  rintro r M2 ⟨rfl, h2, rfl, hk2, hf2⟩
  have hC1 : jC (jR σ o) q nr h1 g rr := jC_fr (jC_R hC ho) (fun a _ z1 z2 => hf a z1 z2) (fun _ _ => rfl) (by cases o <;> exact hk)
  refine ⟨rfl, nr, h2, g, rr, rfl, jR σ o, q, jok_R h0 o, jC_at hC1 (fun a ha => ?_) (fun _ _ => rfl), jD_fr (jD_R hD1 ho) (fun a b _ _ z => hf2 a b z) rfl (by cases o <;> exact hk2)⟩
  have e : ∀ b, h2 a b = jX o 31 h1 a b := fun b => hf2 a b (fun z => by rcases z with z | z <;> omega)
  exact (funext e).trans (jX_row (by omega))
