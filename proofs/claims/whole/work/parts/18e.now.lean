/-! calls that change NOW: point, turn, play, load; act -/
theorem jEa {l : Launch} {σ σ' : jP} {q' : Nat → Nat} {nr : Nat} {h : Nat → Nat → Int32} {g : Nat → Nat → Int64} {rr : Nat → Option Nat} {T0 : Nat → Nat → Nat} {Z0 : sp_G} (h0' : jok σ') (hD : jD σ h g) {yW yM : ab_M} {as : List Value} {v : Value} {FW : Option Value × ab_Me} {FM : (Nat → Nat → Int32) → Option Value × (Nat → Nat → Int32)}
    (hW : ab_C l yW 20 0 0 (.ref 0 :: as) (ab_S nr h g rr) (fun r M1 => (r, M1) = FW)) (hM : ∀ h1 g1, jD σ h1 g1 → ab_C l yM 20 0 0 (.ref 30 :: as) (ab_S nr h1 g1 rr) (fun r M2 => ∃ X h', (r, X) = FM h1 ∧ M2 = ab_S nr h' g1 rr ∧ md_K T0 Z0 h' ∧ md_kr X h'))
    {hX : Nat → Nat → Int32} (eW : FW = (some v, ab_S nr hX g rr)) (jW : jC σ' q' nr hX g rr ∧ ∀ a, 30 ≤ a → a ≤ 50 → hX a = h a)
    (eM : ∀ h1 g1, jD σ h1 g1 → ∃ X, FM h1 = (some v, X) ∧ (∀ a, a < 30 ∨ 51 ≤ a → X a = h1 a) ∧ ∀ h', md_K T0 Z0 h' → md_kr X h' → jD σ' h' g1) : ab_C l yW 20 0 0 (.ref 0 :: as) (ab_S nr h g rr) (jN l yM as) := by
  refine jE (v := v) (q' := q') h0' hD (ab_C_wk hW ?_) (fun h1 g1 hD1 => ab_C_wk (hM h1 g1 hD1) ?_)
  · intro r M1 K
    rw [eW] at K
    exact ⟨(Prod.mk.inj K).1, hX, g, (Prod.mk.inj K).2, jW.1, jW.2, rfl⟩
  · rintro r M2 ⟨X, h', K, rfl, k1, k2⟩
    obtain ⟨X', e, e2, e3⟩ := eM h1 g1 hD1
    rw [e] at K
    obtain ⟨e4, e5⟩ := Prod.mk.inj K
    subst e5
    exact ⟨e4, h', g1, rfl, e3 h' k1 k2, fun a ha => (funext fun b => k2 a b (fun z => by rcases z with z | z <;> omega)).trans (e2 a ha), fun _ _ => rfl⟩
theorem jqa {l : Launch} {σ : jP} {q : Nat → Nat} {nr : Nat} {h : Nat → Nat → Int32} {g : Nat → Nat → Int64} {rr : Nat → Option Nat} (h0 : jok σ) (hC : jC σ q nr h g rr) (hD : jD σ h g) {yW yM : ab_M} {as : List Value} {v : Value} {FW : Option Value × ab_Me} {FM : (Nat → Nat → Int32) → Option Value × (Nat → Nat → Int32)}
    (hW : ab_C l yW 20 0 0 (.ref 0 :: as) (ab_S nr h g rr) (fun r M1 => (r, M1) = FW)) (hM : ∀ h1 g1, jD σ h1 g1 → ab_C l yM 20 0 0 (.ref 30 :: as) (ab_S nr h1 g1 rr) (fun r M2 => ∃ X h', (r, X) = FM h1 ∧ M2 = ab_S nr h' g1 rr ∧ md_K (jT σ) (jZ σ) h' ∧ md_kr X h'))
    (o : Option Nat) (ho : jo7 o) (eW : FW = (some v, ab_S nr (jX o 28 h) g rr)) (eM : ∀ h1, FM h1 = (some v, jX o 31 h1)) : ab_C l yW 20 0 0 (.ref 0 :: as) (ab_S nr h g rr) (jN l yM as) :=
  jq h0 hC hD ho (ab_C_wk hW (fun r M1 K => jwa (jkp hC) K eW)) (fun h1 hD1 => ab_C_wk (hM h1 g hD1) (fun r M2 K => jma K (eM h1)))
def jW (σ : jP) (m i t : Nat) : jP := (σ.1, (m, i, t), σ.2.2)
theorem jok_W {σ : jP} (H : jok σ) {m i t : Nat} (hn : m < 4096 ∧ i < 4096 ∧ t < 2 ∧ sp_dj m i) : jok (jW σ m i t) := ⟨H.1, hn, H.2.2⟩
theorem jIC_fr2 {h h' : Nat → Nat → Int32} (e0 : ∀ b, b ≠ 10 → h' 0 b = h 0 b) (e29 : h' 29 = h 29) : ∀ (o : Option jI), jIC h o → jIC h' o
  | none, H => (e0 12 (by decide)).trans H
  | some I, H => by
    have H2 : h 0 12 = 1 ∧ bo_T I.1 h 29 ∧ h 0 14 = nI (sp_en I.2.1.1 I.2.1.2.1 I.2.1.2.2) ∧ h 0 15 = nI I.2.2.1 ∧ h 0 16 = nI I.2.2.2 := H
    exact ⟨(e0 12 (by decide)).trans H2.1, bo_T_fr e29 H2.2.1, (e0 14 (by decide)).trans H2.2.2.1, (e0 15 (by decide)).trans H2.2.2.2.1, (e0 16 (by decide)).trans H2.2.2.2.2⟩
theorem jC_W {σ : jP} {q : Nat → Nat} {nr : Nat} {h : Nat → Nat → Int32} {g : Nat → Nat → Int64} {rr : Nat → Option Nat} (H : jC σ q nr h g rr) (m i t : Nat) : jC (jW σ m i t) q nr (ab_u2 h 0 10 (nI (sp_en m i t))) g rr := by
  obtain ⟨h1, h2, h3, ⟨h4, h5⟩, ⟨h6, h7⟩, h8, h9, h10, h11, h12⟩ := H
  have e : ∀ a, a ≠ 0 → ab_u2 h 0 10 (nI (sp_en m i t)) a = h a := fun a ha => ab_u2_row ha
  have e0 : ∀ b, b ≠ 10 → ab_u2 h 0 10 (nI (sp_en m i t)) 0 b = h 0 b := fun b hb => ab_u2_ne (fun z => hb z.2)
  exact ⟨bo_T_fr (e 17 (by decide)) h1, ab_u2_at, gm_C_fr (e 15 (by decide)) (e 18 (by decide)) (e 19 (by decide)) (e 20 (by decide)) (e 21 (by decide)) h3, ⟨(e0 4 (by decide)).trans h4, ru_fr (fun a ha => e a (by omega)) h5⟩, ⟨by rw [e 1 (by decide), e 2 (by decide)]; exact h6, h7⟩, tr_fr (e 13 (by decide)) h8, by rw [e 28 (by decide)]; exact h9, (e0 5 (by decide)).trans h10, jIC_fr2 e0 (e 29 (by decide)) _ h11, kp_fr (e 14 (by decide)) (e 22 (by decide)) (e 23 (by decide)) h12⟩
theorem jD_W {σ : jP} {h h' : Nat → Nat → Int32} {g : Nat → Nat → Int64} (H : jD σ h g) {m i t : Nat} (hB : md_bd m i t h') (e : ∀ a b, 30 ≤ a → a ≤ 50 → ¬ md_krr a b → ¬ (a = 30 ∧ (b = 3 ∨ b = 4 ∨ b = 5)) → h' a b = h a b) (kp : md_K (jT σ) (jZ σ) h') : jD (jW σ m i t) h' g := by
  obtain ⟨h1, -, h3, ⟨h4, h5⟩, ⟨h6, h7⟩, h8, h9, h10, h11, -, h13⟩ := H
  have er : ∀ a, 30 < a → a ≤ 50 → (a < 44 ∨ 47 < a) → h' a = h a := fun a q1 q2 q3 => funext fun b => e a b (by omega) q2 (fun z => by rcases z with z | z <;> omega) (fun z => by omega)
  have e3 : ∀ b, b ≠ 24 → b ≠ 25 → b ≠ 27 → b ≠ 28 → b ≠ 31 → b ≠ 32 → b ≠ 33 → b ≠ 3 → b ≠ 4 → b ≠ 5 → h' 30 b = h 30 b := fun b a1 a2 a3 a4 a5 a6 a7 a8 a9 a10 => e 30 b (by omega) (by omega) (fun z => by rcases z with z | z <;> omega) (fun z => by omega)
  have y : ∀ b, 34 ≤ b → h' 30 b = h 30 b := fun b hb => e3 b (by omega) (by omega) (by omega) (by omega) (by omega) (by omega) (by omega) (by omega) (by omega) (by omega)
  exact ⟨bo_T_fr (er 32 (by omega) (by omega) (by omega)) h1, hB, md_G_fr (e3 1 (by omega) (by omega) (by omega) (by omega) (by omega) (by omega) (by omega) (by omega) (by omega) (by omega)) (er 34 (by omega) (by omega) (by omega)) (er 35 (by omega) (by omega) (by omega)) (er 36 (by omega) (by omega) (by omega)) (er 37 (by omega) (by omega) (by omega)) h3, ⟨(e3 0 (by omega) (by omega) (by omega) (by omega) (by omega) (by omega) (by omega) (by omega) (by omega) (by omega)).trans h4, by rw [er 33 (by omega) (by omega) (by omega)]; exact h5⟩, ⟨by rw [er 38 (by omega) (by omega) (by omega), er 39 (by omega) (by omega) (by omega), er 40 (by omega) (by omega) (by omega), er 41 (by omega) (by omega) (by omega)]; exact h6, h7⟩, mt_fr (y 37 (by omega)) (er 49 (by omega) (by omega) (by omega)) h8, by rw [er 31 (by omega) (by omega) (by omega)]; exact h9, (e3 2 (by omega) (by omega) (by omega) (by omega) (by omega) (by omega) (by omega) (by omega) (by omega) (by omega)).trans h10, jIM_id (σ := σ) rfl rfl h' _ (jIM_fr (fun b q1 q2 => y b (by omega)) (er 50 (by omega) (by omega) (by omega)) _ h11), kp, by rw [er 48 (by omega) (by omega) (by omega)]; exact h13⟩
/-- out of a memory X with the new NOW -/
theorem jD_WX {σ : jP} {h X h' : Nat → Nat → Int32} {g : Nat → Nat → Int64} (H : jD σ h g) {m i t : Nat} (hB : md_bd m i t X) (e : ∀ a b, 30 ≤ a → a ≤ 50 → ¬ md_krr a b → ¬ (a = 30 ∧ (b = 3 ∨ b = 4 ∨ b = 5)) → X a b = h a b) (kp : md_K (jT σ) (jZ σ) h') (kr : md_kr X h') : jD (jW σ m i t) h' g :=
  jD_W H (md_bd_kr kr hB) (fun a b a1 a2 a3 a4 => (kr a b a3).trans (e a b a1 a2 a3 a4)) kp
theorem ju2_30 {h : Nat → Nat → Int32} {b : Nat} {v : Int32} (hb : b = 3 ∨ b = 4 ∨ b = 5 ∨ b = 24 ∨ b = 25) (a c : Nat) (h1 : ¬ md_krr a c) (h2 : ¬ (a = 30 ∧ (c = 3 ∨ c = 4 ∨ c = 5))) : ab_u2 h 30 b v a c = h a c := ab_u2_ne (fun z => by
  rcases hb with r | r | r | r | r
  · exact h2 ⟨z.1, Or.inl (z.2.trans r)⟩
  · exact h2 ⟨z.1, Or.inr (Or.inl (z.2.trans r))⟩
  · exact h2 ⟨z.1, Or.inr (Or.inr (z.2.trans r))⟩
  · exact h1 (Or.inr ⟨z.1, Or.inl (z.2.trans r)⟩)
  · exact h1 (Or.inr ⟨z.1, Or.inr (Or.inl (z.2.trans r))⟩))
def jpa (t m i : Nat) : Nat := if t = 0 then m else i
def jpb (t m i : Nat) : Nat := if t = 0 then i else m
theorem js_pM {h : Nat → Nat → Int32} {a b p w : Nat} (ha : a < 4096) (hb : b < 4096) (hp : p < 12) (hw : w < 3) (c1 : ¬ ab_bz (sp_pt (nI p)) = 0) : fx_M_point h a b (nI p) (nI w) = (some (.int (nI ((a.testBit p).toNat + 2 * (b.testBit p).toNat))), ab_u2 (ab_u2 h 30 3 (nI (if w = 1 then sp_set a p else sp_clr a p))) 30 4 (nI (if w = 2 then sp_set b p else sp_clr b p))) := by
  have tp : (nI p).toNatClampNeg = p := ab_tn (by omega)
  unfold fx_M_point
  rw [if_neg c1, tp]
  rcases (by omega : w = 0 ∨ w = 1 ∨ w = 2) with r | r | r <;> subst r
  · rw [if_neg (by decide), if_pos (by decide), if_neg (by decide), if_neg (by decide), if_neg (by decide), if_neg (by decide), Nat.or_zero, Nat.or_zero]
  · rw [if_neg (by decide), if_pos (by decide), if_pos (by decide), if_neg (by decide), if_pos rfl, if_neg (by decide), Nat.or_zero, md_cs ha]
  · rw [if_neg (by decide), if_pos (by decide), if_neg (by decide), if_pos (by decide), if_neg (by decide), if_pos rfl, Nat.or_zero, md_cs hb]
theorem js_point (l : Launch) {σ : jP} {q : Nat → Nat} {nr : Nat} {h : Nat → Nat → Int32} {g : Nat → Nat → Int64} {rr : Nat → Option Nat} (h0 : jok σ) (hC : jC σ q nr h g rr) (hD : jD σ h g) (x y : Int32) : ab_C l am_W_point 20 0 0 (.ref 0 :: [.int x, .int y]) (ab_S nr h g rr) (jN l am_M_point [.int x, .int y]) := by
  obtain ⟨hm, hi, ht, hdj⟩ := h0.2.1
  have ha : jpa (jt σ) (jm σ) (ji σ) < 4096 := by unfold jpa; split <;> omega
  have hb : jpb (jt σ) (jm σ) (ji σ) < 4096 := by unfold jpb; split <;> omega
  have hW := ct_W_point l 18 nr h g rr hm hi ht hdj hC.2.1 x y
  have hM := fun h1 g1 (hD1 : jD σ h1 g1) => ct_M_point l 19 nr h1 g1 rr ha hb hD1.2.1.2.1 hD1.2.1.2.2 (jK_M hD1) x y
  by_cases c1 : ab_bz (sp_pt x) = 0
  · exact jqa h0 hC hD hW hM (v := .int (-1 : Int32)) (some 1) (jo7s (by decide)) (by unfold fx_W_point; rw [if_pos c1]; rfl) (fun h1 => by unfold fx_M_point; rw [if_pos c1]; rfl)
  · by_cases c2 : y < 0
    · exact jqa h0 hC hD hW hM (v := .int (-6 : Int32)) (some 6) (jo7s (by decide)) (by unfold fx_W_point; rw [if_neg c1, if_pos c2]; rfl) (fun h1 => by unfold fx_M_point; rw [if_neg c1, if_pos c2]; rfl)
    · by_cases c3 : y ≤ 2
      · obtain ⟨p, hp, rfl⟩ := sp_pt__n c1
        obtain ⟨w, hw, rfl⟩ := sp_bt_n (N := 3) (by decide) c2 (by have := Int32.le_iff_toInt_le.mp c3; exact Int32.lt_iff_toInt_lt.mpr (by have e : (2 : Int32).toInt = 2 := rfl; have e2 : (nI 3).toInt = 3 := rfl; omega))
        have tp : (nI p).toNatClampNeg = p := ab_tn (by omega)
        have tw : (nI w).toNatClampNeg = w := ab_tn (by omega)
        have hv : sp_wv (sp_who (jm σ) (ji σ) p) (jt σ) = ((jpa (jt σ) (jm σ) (ji σ)).testBit p).toNat + 2 * ((jpb (jt σ) (jm σ) (ji σ)).testBit p).toNat := by
          have dj := hdj p
          rcases (by omega : jt σ = 0 ∨ jt σ = 1) with r | r
          · rw [r]
            show sp_wv (sp_who (jm σ) (ji σ) p) 0 = ((jm σ).testBit p).toNat + 2 * ((ji σ).testBit p).toNat
            unfold sp_wv sp_who
            cases e1 : (jm σ).testBit p <;> cases e2 : (ji σ).testBit p <;> first | rfl | exact absurd ⟨e1, e2⟩ dj
          · rw [r]
            show sp_wv (sp_who (jm σ) (ji σ) p) 1 = ((ji σ).testBit p).toNat + 2 * ((jm σ).testBit p).toNat
            unfold sp_wv sp_who
            cases e1 : (jm σ).testBit p <;> cases e2 : (ji σ).testBit p <;> first | rfl | exact absurd ⟨e1, e2⟩ dj
        have n1 : (if sp_wv w (jt σ) = 1 then sp_set (jm σ) p else sp_clr (jm σ) p) < 4096 := by
          split
          · exact sp_set_lt hm hp
          · exact sp_clr_lt hm p
        have n2 : (if sp_wv w (jt σ) = 2 then sp_set (ji σ) p else sp_clr (ji σ) p) < 4096 := by
          split
          · exact sp_set_lt hi hp
          · exact sp_clr_lt hi p
        have n3 : sp_dj (if sp_wv w (jt σ) = 1 then sp_set (jm σ) p else sp_clr (jm σ) p) (if sp_wv w (jt σ) = 2 then sp_set (ji σ) p else sp_clr (ji σ) p) := by
          intro j ⟨b1, b2⟩
          have dj := hdj j
          by_cases d1 : sp_wv w (jt σ) = 1
          · rw [if_pos d1, sp_set_bit] at b1
            rw [if_neg (by omega), sp_clr_bit hi] at b2
            by_cases e : p = j
            · rw [decide_eq_true e] at b2; simp at b2
            · rw [decide_eq_false e, Bool.or_false] at b1
              rw [decide_eq_false e] at b2
              exact dj ⟨b1, by simpa using b2⟩
          · rw [if_neg d1, sp_clr_bit hm] at b1
            by_cases e : p = j
            · rw [decide_eq_true e] at b1; simp at b1
            · rw [decide_eq_false e] at b1
              refine dj ⟨by simpa using b1, ?_⟩
              by_cases d2 : sp_wv w (jt σ) = 2
              · rw [if_pos d2, sp_set_bit, decide_eq_false e, Bool.or_false] at b2; exact b2
              · rw [if_neg d2, sp_clr_bit hi, decide_eq_false e] at b2; simpa using b2
        refine jEa (σ' := jW σ (if sp_wv w (jt σ) = 1 then sp_set (jm σ) p else sp_clr (jm σ) p) (if sp_wv w (jt σ) = 2 then sp_set (ji σ) p else sp_clr (ji σ) p) (jt σ)) (q' := q) (jok_W h0 ⟨n1, n2, ht, n3⟩) hD hW hM (v := .int (nI (sp_wv (sp_who (jm σ) (ji σ) p) (jt σ)))) (by unfold fx_W_point; rw [if_neg c1, if_neg c2, if_pos c3, tp, tw]) ⟨jC_W hC _ _ _, fun a a1 a2 => ab_u2_row (by omega)⟩ (fun h1 g1 hD1 => ⟨ab_u2 (ab_u2 h1 30 3 (nI (if w = 1 then sp_set (jpa (jt σ) (jm σ) (ji σ)) p else sp_clr (jpa (jt σ) (jm σ) (ji σ)) p))) 30 4 (nI (if w = 2 then sp_set (jpb (jt σ) (jm σ) (ji σ)) p else sp_clr (jpb (jt σ) (jm σ) (ji σ)) p)), by rw [js_pM ha hb hp hw c1, hv], fun a ha => by rw [ab_u2_row (by omega), ab_u2_row (by omega)], fun h' k1 k2 => jD_WX hD1 ⟨(ab_u2_ne (fun z => by omega)).trans ((ab_u2_ne (fun z => by omega)).trans hD1.2.1.1), ?_, ?_⟩ (fun a b _ _ a3 a4 => by rw [ju2_30 (by omega) a b a3 a4, ju2_30 (by omega) a b a3 a4]) k1 k2⟩)
        · rw [ab_u2_ne (fun z => by omega), ab_u2_at]
          congr 1
          unfold jpa sp_wv
          rcases (by omega : jt σ = 0 ∨ jt σ = 1) with r | r <;> rw [r] <;> rcases (by omega : w = 0 ∨ w = 1 ∨ w = 2) with s | s | s <;> rw [s] <;> rfl
        · rw [ab_u2_at]
          congr 1
          unfold jpb sp_wv
          rcases (by omega : jt σ = 0 ∨ jt σ = 1) with r | r <;> rw [r] <;> rcases (by omega : w = 0 ∨ w = 1 ∨ w = 2) with s | s | s <;> rw [s] <;> rfl
      · exact jqa h0 hC hD hW hM (v := .int (-6 : Int32)) (some 6) (jo7s (by decide)) (by unfold fx_W_point; rw [if_neg c1, if_neg c2, if_neg c3]; rfl) (fun h1 => by unfold fx_M_point; rw [if_neg c1, if_neg c2, if_neg c3]; rfl)
theorem js_turn (l : Launch) {σ : jP} {q : Nat → Nat} {nr : Nat} {h : Nat → Nat → Int32} {g : Nat → Nat → Int64} {rr : Nat → Option Nat} (h0 : jok σ) (hC : jC σ q nr h g rr) (hD : jD σ h g) (x : Int32) : ab_C l am_W_turn 20 0 0 (.ref 0 :: [.int x]) (ab_S nr h g rr) (jN l am_M_turn [.int x]) := by
  obtain ⟨hm, hi, ht, hdj⟩ := h0.2.1
  have hW := ct_W_turn l 18 nr h g rr hm hi ht hdj hC.2.1 x
  have hM := fun h1 g1 (hD1 : jD σ h1 g1) => ct_M_turn l 19 nr h1 g1 rr hm hi ht hD1.2.1 (jK_M hD1) x
  by_cases c2 : x < 0
  · exact jqa h0 hC hD hW hM (v := .int (-6 : Int32)) (some 6) (jo7s (by decide)) (by unfold fx_W_turn; rw [if_pos c2]; rfl) (fun h1 => by unfold fx_M_turn; rw [if_pos c2]; rfl)
  · by_cases c3 : x ≤ 1
    · obtain ⟨w, hw, rfl⟩ := sp_bt_n (N := 2) (by decide) c2 (by have := Int32.le_iff_toInt_le.mp c3; exact Int32.lt_iff_toInt_lt.mpr (by have e : (1 : Int32).toInt = 1 := rfl; have e2 : (nI 2).toInt = 2 := rfl; omega))
      by_cases c4 : jt σ = w
      · refine jEa (σ' := jW σ (jm σ) (ji σ) (jt σ)) (q' := q) h0 hD hW hM (v := .int (nI (jt σ))) (hX := h) (by unfold fx_W_turn; rw [if_neg c2, if_pos c3, if_pos (by rw [c4])]) ⟨hC, fun a a1 a2 => rfl⟩ (fun h1 g1 hD1 => ⟨ab_u2 h1 30 5 (nI w), by unfold fx_M_turn; rw [if_neg c2, if_pos c3], fun a ha => ab_u2_row (by omega), fun h' k1 k2 => jD_WX hD1 ⟨by rw [ab_u2_at, c4], (ab_u2_ne (fun z => by omega)).trans hD1.2.1.2.1, (ab_u2_ne (fun z => by omega)).trans hD1.2.1.2.2⟩ (fun a b _ _ a3 a4 => ju2_30 (by omega) a b a3 a4) k1 k2⟩)
      · have ew : w = 1 - jt σ := by omega
        refine jEa (σ' := jW σ (ji σ) (jm σ) (1 - jt σ)) (q' := q) (jok_W h0 ⟨hi, hm, by omega, fun p z => hdj p ⟨z.2, z.1⟩⟩) hD hW hM (v := .int (nI (jt σ))) (by unfold fx_W_turn; rw [if_neg c2, if_pos c3, if_neg (fun z => c4 ((ab_inj (by omega) (by omega)).mp z))]) ⟨jC_W hC _ _ _, fun a a1 a2 => ab_u2_row (by omega)⟩ (fun h1 g1 hD1 => ⟨ab_u2 h1 30 5 (nI w), by unfold fx_M_turn; rw [if_neg c2, if_pos c3], fun a ha => ab_u2_row (by omega), fun h' k1 k2 => jD_WX hD1 ⟨by rw [ab_u2_at, ew], (ab_u2_ne (fun z => by omega)).trans (hD1.2.1.2.1.trans ?_), (ab_u2_ne (fun z => by omega)).trans (hD1.2.1.2.2.trans ?_)⟩ (fun a b _ _ a3 a4 => ju2_30 (by omega) a b a3 a4) k1 k2⟩)
        · rcases (by omega : jt σ = 0 ∨ jt σ = 1) with r | r <;> rw [r] <;> rfl
        · rcases (by omega : jt σ = 0 ∨ jt σ = 1) with r | r <;> rw [r] <;> rfl
    · exact jqa h0 hC hD hW hM (v := .int (-6 : Int32)) (some 6) (jo7s (by decide)) (by unfold fx_W_turn; rw [if_neg c2, if_neg c3]; rfl) (fun h1 => by unfold fx_M_turn; rw [if_neg c2, if_neg c3]; rfl)
theorem js_play (l : Launch) {σ : jP} {q : Nat → Nat} {nr : Nat} {h : Nat → Nat → Int32} {g : Nat → Nat → Int64} {rr : Nat → Option Nat} (h0 : jok σ) (hC : jC σ q nr h g rr) (hD : jD σ h g) (x y : Int32) : ab_C l am_W_play 20 0 0 (.ref 0 :: [.int x, .int y]) (ab_S nr h g rr) (jN l am_M_play [.int x, .int y]) := by
  obtain ⟨hm, hi, ht, hdj⟩ := h0.2.1
  have hW := ct_W_play l 16 nr h g rr hC.1 h0.1 hm hi ht hdj hC.2.1 x y
  have hM := fun h1 g1 (hD1 : jD σ h1 g1) => ct_M_play l 15 nr h1 g1 rr hD1.1 h0.1 hm hi ht hdj hD1.2.1 (jK_M hD1) x y
  by_cases c1 : ab_bz (sp_cd x) = 0
  · exact jqa h0 hC hD hW hM (v := .int (-1 : Int32)) (some 1) (jo7s (by decide)) (by unfold fx_W_play; rw [if_pos c1]; rfl) (fun h1 => by unfold fx_M_play; rw [if_pos c1]; rfl)
  · by_cases c2 : ab_bz (sp_im y) = 0
    · have e : md_hx (jT σ) x.toNatClampNeg (jm σ) (ji σ) y = 0 := by
        unfold md_hx
        rw [if_neg (by rw [(ab_bz0 _).mp c2]; decide)]
      exact jqa h0 hC hD hW hM (v := .int (-6 : Int32)) (some 6) (jo7s (by decide)) (by unfold fx_W_play; rw [if_neg c1, if_pos c2]; rfl) (fun h1 => by unfold fx_M_play; rw [if_neg c1, e, if_pos (show nI 0 = 0 from rfl)]; rfl)
    · obtain ⟨n, ⟨hn, hn2⟩, rfl⟩ := im_n c2
      have tn : (nI n).toNatClampNeg = n := ab_tn (by omega)
      have ex : md_hx (jT σ) x.toNatClampNeg (jm σ) (ji σ) (nI n) = md_hw (jT σ) x.toNatClampNeg (jm σ) (ji σ) n := by
        unfold md_hx
        rw [if_pos ((ab_bz1 _).mp c2), tn]
      have hw3 : md_hw (jT σ) x.toNatClampNeg (jm σ) (ji σ) n < 3 := by
        unfold md_hw
        repeat' split
        all_goals decide
      by_cases c3 : md_hw (jT σ) x.toNatClampNeg (jm σ) (ji σ) n = 0
      · have ea := md_hal (T := jT σ) (c := x.toNatClampNeg) (m := jm σ) (i := ji σ) hn c3
        exact jqa h0 hC hD hW hM (v := .int (-6 : Int32)) (some 6) (jo7s (by decide)) (by unfold fx_W_play; rw [if_neg c1, if_neg c2, tn, ea, if_pos (show ab_bz false = 0 from rfl)]; rfl) (fun h1 => by unfold fx_M_play; rw [if_neg c1, ex, c3, if_pos (show nI 0 = 0 from rfl)]; rfl)
      · have ea := md_hal1 (T := jT σ) (c := x.toNatClampNeg) (m := jm σ) (i := ji σ) hn c3
        have d1 := sp_d1_lt (T := jT σ) (v := sp_lv (jT σ) x.toNatClampNeg (jm σ) (ji σ)) (i := ji σ) hm hn.2.1
        have d2 := sp_d2_lt (T := jT σ) (v := sp_lv (jT σ) x.toNatClampNeg (jm σ) (ji σ)) (m := jm σ) hi hn.2.1
        have dd := sp_dj_next (T := jT σ) (v := sp_lv (jT σ) x.toNatClampNeg (jm σ) (ji σ)) hm hi hdj hn.2.1
        refine jEa (σ' := jW σ (sp_d2 (jT σ) (sp_lv (jT σ) x.toNatClampNeg (jm σ) (ji σ)) (jm σ) (ji σ) n) (sp_d1 (jT σ) (sp_lv (jT σ) x.toNatClampNeg (jm σ) (ji σ)) (jm σ) (ji σ) n) (1 - jt σ)) (q' := q) (jok_W h0 ⟨d2, d1, by omega, dd⟩) hD hW hM (v := .int (nI (sp_cn (sp_d2 (jT σ) (sp_lv (jT σ) x.toNatClampNeg (jm σ) (ji σ)) (jm σ) (ji σ) n ||| sp_d1 (jT σ) (sp_lv (jT σ) x.toNatClampNeg (jm σ) (ji σ)) (jm σ) (ji σ) n)))) (by unfold fx_W_play; rw [if_neg c1, if_neg c2, tn, ea, if_neg (by decide)]) ⟨jC_W hC _ _ _, fun a a1 a2 => ab_u2_row (by omega)⟩ (fun h1 g1 hD1 => ⟨_, by unfold fx_M_play; rw [if_neg c1, ex, if_neg (show ¬ nI (md_hw (jT σ) x.toNatClampNeg (jm σ) (ji σ) n) = 0 from fun z => c3 ((ab_inj (b := 0) (by omega) (by decide)).mp z)), tn], fun a ha => by rw [ab_u2_row (by omega), ab_u2_row (by omega), ab_u2_row (by omega), ab_u2_row (by omega), ab_u2_row (by omega)], fun h' k1 k2 => jD_WX hD1 ⟨?_, ?_, ab_u2_at⟩ (fun a b _ _ a3 a4 => by rw [ju2_30 (by omega) a b a3 a4, ju2_30 (by omega) a b a3 a4, ju2_30 (by omega) a b a3 a4, ju2_30 (by omega) a b a3 a4, ju2_30 (by omega) a b a3 a4]) k1 k2⟩)
        · rw [ab_u2_ne (fun z => by omega), ab_u2_ne (fun z => by omega), ab_u2_at]
        · rw [ab_u2_ne (fun z => by omega), ab_u2_at]
theorem js_load (l : Launch) {σ : jP} {q : Nat → Nat} {nr : Nat} {h : Nat → Nat → Int32} {g : Nat → Nat → Int64} {rr : Nat → Option Nat} (h0 : jok σ) (hC : jC σ q nr h g rr) (hD : jD σ h g) (x y z : Int32) : ab_C l am_W_load 20 0 0 (.ref 0 :: [.int x, .int y, .int z]) (ab_S nr h g rr) (jN l am_M_load [.int x, .int y, .int z]) := by
  have hW := ct_W_load l 15 nr h g rr hC.1 h0.1 h0.2.2.1 hC.2.2.1 x y z
  have hM := fun h1 g1 (hD1 : jD σ h1 g1) => ct_M_load l 14 nr h1 g1 rr hD1.1 h0.1 h0.2.2.1 hD1.2.2.1 (jK_M hD1) x y z
  by_cases c1 : ab_bz (decide (0 ≤ x ∧ x < nI (gN (jZ σ)))) = 0
  · exact jqa h0 hC hD hW hM (v := .int (-1 : Int32)) (some 1) (jo7s (by decide)) (by unfold fx_W_load; rw [if_pos c1]; rfl) (fun h1 => by unfold fx_M_load; rw [if_pos c1]; rfl)
  · by_cases c2 : ab_bz (sp_cd z) = 0
    · exact jqa h0 hC hD hW hM (v := .int (-1 : Int32)) (some 1) (jo7s (by decide)) (by unfold fx_W_load; rw [if_neg c1, if_pos c2]; rfl) (fun h1 => by unfold fx_M_load; rw [if_neg c1, if_pos c2]; rfl)
    · by_cases c3 : y < 0
      · exact jqa h0 hC hD hW hM (v := .int (-6 : Int32)) (some 6) (jo7s (by decide)) (by unfold fx_W_load; rw [if_neg c1, if_neg c2, if_pos c3]; rfl) (fun h1 => by unfold fx_M_load; rw [if_neg c1, if_neg c2, if_pos c3]; rfl)
      · have h6 := h0.2.2.1.1
        obtain ⟨gm, hg, rfl⟩ := sp_ra_n (by omega) c1
        have tg : (nI gm).toNatClampNeg = gm := ab_tn (by omega)
        have hL := (h0.2.2.1.2 gm hg).2.2.2.1
        by_cases c4 : y ≤ nI (gL (jZ σ) gm)
        · obtain ⟨k, hk, rfl⟩ := nn_n c3
          have hk2 := (ab_le hk (by omega)).mp c4
          have tk : (nI k).toNatClampNeg = k := ab_tn (by omega)
          obtain ⟨s1, s2, s3⟩ := sp_sg_ok (T := jT σ) (c := z.toNatClampNeg) h0.2.2.1 hg k hk2
          refine jEa (σ' := jW σ (sp_sg (jT σ) z.toNatClampNeg (jZ σ) gm k).1 (sp_sg (jT σ) z.toNatClampNeg (jZ σ) gm k).2 (k % 2)) (q' := q) (jok_W h0 ⟨s1, s2, by omega, s3⟩) hD hW hM (v := .int (nI (k % 2))) (by unfold fx_W_load; rw [if_neg c1, if_neg c2, if_neg c3, tg, if_pos c4, tk]) ⟨jC_W hC _ _ _, fun a a1 a2 => ab_u2_row (by omega)⟩ (fun h1 g1 hD1 => ⟨_, by unfold fx_M_load md_lx; rw [if_neg c1, if_neg c2, if_neg c3, tg, if_pos c4, tk], fun a ha => by rw [ab_u2_row (by omega), ab_u2_row (by omega), ab_u2_row (by omega)], fun h' k1 k2 => jD_WX hD1 ⟨?_, ?_, ab_u2_at⟩ (fun a b _ _ a3 a4 => by rw [ju2_30 (by omega) a b a3 a4, ju2_30 (by omega) a b a3 a4, ju2_30 (by omega) a b a3 a4]) k1 k2⟩)
          · rw [ab_u2_ne (fun z => by omega), ab_u2_ne (fun z => by omega), ab_u2_at]
          · rw [ab_u2_ne (fun z => by omega), ab_u2_at]
        · exact jqa h0 hC hD hW hM (v := .int (-6 : Int32)) (some 6) (jo7s (by decide)) (by unfold fx_W_load; rw [if_neg c1, if_neg c2, if_neg c3, tg, if_neg c4]; rfl) (fun h1 => by unfold fx_M_load; rw [if_neg c1, if_neg c2, if_neg c3, tg, if_neg c4]; rfl)
theorem sp_edb_le (kd : Int32) : (sp_edb kd).length ≤ 10 := by
  have h1 := sp_leb_le kd
  have h2 := sp_gob_le kd
  unfold sp_edb
  rw [List.length_append, List.length_cons, List.length_append]
  have h3 : (if kd = 4 then [50] else if kd = 6 then [70] else if kd = 7 then [81] else [] : List Int32).length ≤ 1 := by
    repeat' split
    all_goals decide
  omega
theorem js_actb (n : Nat) (cs : Nat → Nat) (x y z : Int32) : (fx_W_act n cs x y z).2.length < 20 := by
  unfold fx_W_act
  repeat' split
  · decide
  · have := sp_gob_le (nI (sp_kd (cs x.toNatClampNeg))); show (sp_gob _).length < 20; omega
  · have := sp_leb_le (nI (sp_kd (cs x.toNatClampNeg))); show (sp_leb _).length < 20; omega
  · have := sp_edb_le (nI (sp_kd (cs x.toNatClampNeg))); show (sp_edb _).length < 20; omega
  · decide
  · decide
theorem js_actv (n : Nat) (cs : Nat → Nat) (x y z : Int32) : ∃ v : Int32, (fx_W_act n cs x y z).1 = some (.int v) := by
  unfold fx_W_act
  repeat' split
  all_goals exact ⟨_, rfl⟩
def jB (σ : jP) (bs : List Int32) : jP := (σ.1, σ.2.1, σ.2.2.1, σ.2.2.2.1, σ.2.2.2.2.1, bs, σ.2.2.2.2.2.2)
theorem js_act (l : Launch) {σ : jP} {q : Nat → Nat} {nr : Nat} {h : Nat → Nat → Int32} {g : Nat → Nat → Int64} {rr : Nat → Option Nat} (h0 : jok σ) (hC : jC σ q nr h g rr) (hD : jD σ h g) (x y z : Int32) : ab_C l am_W_act 20 0 0 (.ref 0 :: [.int x, .int y, .int z]) (ab_S nr h g rr) (jN l am_M_act [.int x, .int y, .int z]) := by
  obtain ⟨v, ev⟩ := js_actv (jn σ) (jc σ) x y z
  have hl := js_actb (jn σ) (jc σ) x y z
  have h0' : jok (jB σ (fx_W_act (jn σ) (jc σ) x y z).2) := ⟨h0.1, h0.2.1, h0.2.2.1, h0.2.2.2.1, h0.2.2.2.2.1, hl, h0.2.2.2.2.2.2⟩
  refine jE (v := .int v) (q' := q) h0' hD (ab_C_wk (ct_W_act l 13 nr h g rr h0.2.2.2.1.1 hC.2.2.2.1.1 hC.2.2.2.1.2 x y z) ?_) (fun h1 g1 hD1 => ab_C_wk (ct_M_act l 14 nr h1 g1 rr hD1.2.2.2.1.1 h0.2.2.2.1.1 (jcs_M h0 hD1) x y z) ?_)
  · rintro r M1 ⟨h', rfl, e, bs, tb, K⟩
    have e1 : r = _ := congrArg Prod.fst K
    have e2 : bs = _ := congrArg Prod.snd K
    refine ⟨e1.trans ev, h', g, rfl, ?_, fun a a1 a2 => e a (by omega), rfl⟩
    obtain ⟨h1, h2, h3, ⟨h4, h5⟩, ⟨h6, h7⟩, h8, h9, h10, h11, h12⟩ := hC
    have e0 := e 0 (by decide)
    rw [e2] at tb
    exact ⟨bo_T_fr (e 17 (by decide)) h1, by rw [e0]; exact h2, gm_C_fr (e 15 (by decide)) (e 18 (by decide)) (e 19 (by decide)) (e 20 (by decide)) (e 21 (by decide)) h3, ⟨by rw [e0]; exact h4, ru_fr (fun a ha => e a (by omega)) h5⟩, ⟨by rw [e 1 (by decide), e 2 (by decide)]; exact h6, h7⟩, tb, by rw [e 28 (by decide)]; exact h9, by rw [e0]; exact h10, jIC_fr e0 (e 29 (by decide)) _ h11, kp_fr (e 14 (by decide)) (e 22 (by decide)) (e 23 (by decide)) h12⟩
  · rintro r M2 ⟨h', rfl, e, bs, tb, K⟩
    have e1 : r = _ := congrArg Prod.fst K
    have e2 : bs = _ := congrArg Prod.snd K
    refine ⟨e1.trans ev, h', g1, rfl, ?_, fun a ha => e.1 a (by omega) (by omega), fun _ _ => rfl⟩
    obtain ⟨k1, k2, k3, ⟨k4, k5⟩, ⟨k6, k7⟩, k8, k9, k10, k11, k12, k13⟩ := hD1
    have x : ∀ a, a ≠ 49 → a ≠ 30 → h' a = h1 a := e.1
    have y : ∀ b, b ≠ 37 → h' 30 b = h1 30 b := e.2
    rw [e2] at tb
    exact ⟨bo_T_fr (x 32 (by decide) (by decide)) k1, md_bd_fr (y 5 (by decide)) (y 3 (by decide)) (y 4 (by decide)) k2, md_G_fr (y 1 (by decide)) (x 34 (by decide) (by decide)) (x 35 (by decide) (by decide)) (x 36 (by decide) (by decide)) (x 37 (by decide) (by decide)) k3, ⟨(y 0 (by decide)).trans k4, by rw [x 33 (by decide) (by decide)]; exact k5⟩, ⟨by rw [x 38 (by decide) (by decide), x 39 (by decide) (by decide), x 40 (by decide) (by decide), x 41 (by decide) (by decide)]; exact k6, k7⟩, tb, by rw [x 31 (by decide) (by decide)]; exact k9, (y 2 (by decide)).trans k10, jIM_id (σ := σ) rfl rfl h' _ (jIM_fr (fun b b1 b2 => y b (by omega)) (x 50 (by decide) (by decide)) _ k11), md_K_fr (y _ (by decide)) (y _ (by decide)) (y _ (by decide)) (x 45 (by decide) (by decide)) (x 46 (by decide) (by decide)) k12, by rw [x 48 (by decide) (by decide)]; exact k13⟩
