/-! rule -/
theorem sp_ft_cong {f g : Nat → Bool} : ∀ n, (∀ i, i < n → f i = g i) → sp_ft f n = sp_ft g n
  | 0, _ => rfl
  | n + 1, h => by rw [sp_ft, sp_ft, sp_ft_cong n (fun i hi => h i (by omega)), h n (by omega)]
theorem sp_rs_cong {f g : Nat → Int32} : ∀ n, (∀ i, i < n → f i = g i) → sp_rs f n = sp_rs g n
  | 0, _ => rfl
  | n + 1, h => by
    show sp_rst (f n) (sp_rs f n) = sp_rst (g n) (sp_rs g n)
    rw [sp_rs_cong n (fun i hi => h i (by omega)), h n (by omega)]
theorem sp_rd_cong {f g : Nat → Int32} {n : Nat} (h : ∀ i, i < n → f i = g i) : sp_rd f n = sp_rd g n := by
  have e : sp_rdk f n = sp_rdk g n := sp_ft_cong n (fun i hi => by rw [h i hi, sp_rs_cong i (fun j hj => h j (by omega))])
  unfold sp_rd
  rw [e, sp_rs_cong n h]
theorem jER {l : Launch} {X : Option (Nat × (Nat → Int32))} {kc ks : Nat} {σ σ' : jP} {q' : Nat → Nat} {nr : Nat} {h : Nat → Nat → Int32} {g : Nat → Nat → Int64} {rr : Nat → Option Nat} (h0' : jok σ') (hD : jD σ h g) {yW yM : ab_M} {as : List Value} {v : Value}
    (hW : ab_CX l X yW 20 kc ks (.ref 0 :: as) (ab_S nr h g rr) (fun r M1 => r = some v ∧ ∃ nr1 h1 g1 rr1, M1 = ab_S nr1 h1 g1 rr1 ∧ jC σ' q' nr1 h1 g1 rr1 ∧ (∀ a, 30 ≤ a → a ≤ 50 → h1 a = h a) ∧ g1 42 = g 42))
    (hM : ∀ nr1 rr1 h1 g1, jD σ h1 g1 → ab_C l yM 20 0 0 (.ref 30 :: as) (ab_S nr1 h1 g1 rr1) (fun r M2 => r = some v ∧ ∃ h2 g2, M2 = ab_S nr1 h2 g2 rr1 ∧ jD σ' h2 g2 ∧ (∀ a, a < 30 ∨ 51 ≤ a → h2 a = h1 a) ∧ ∀ s, s < 8 → g2 (4 + s) = g1 (4 + s))) : ab_CX l X yW 20 kc ks (.ref 0 :: as) (ab_S nr h g rr) (jN l yM as) := by
  refine ab_CX_wk hW ?_
  rintro r M1 ⟨rfl, nr1, h1, g1, rr1, rfl, hC1, e1, e2⟩
  refine ⟨v, nr1, h1, g1, rr1, rfl, rfl, ab_C_wk (hM nr1 rr1 h1 g1 (jD_at hD e1 e2)) ?_⟩
  rintro r M2 ⟨rfl, h2, g2, rfl, hD2, e3, e4⟩
  exact ⟨rfl, nr1, h2, g2, rr1, rfl, σ', q', h0', jC_at hC1 e3 e4, hD2⟩
def jFs (σ : jP) (f : Int32) : jP := (σ.1, σ.2.1, σ.2.2.1, σ.2.2.2.1, σ.2.2.2.2.1, σ.2.2.2.2.2.1, σ.2.2.2.2.2.2.1, f, σ.2.2.2.2.2.2.2.2)
theorem jIC_fr3 {h h' : Nat → Nat → Int32} (e0 : ∀ b, 12 ≤ b → h' 0 b = h 0 b) (e29 : h' 29 = h 29) : ∀ (o : Option jI), jIC h o → jIC h' o
  | none, H => (e0 12 (by decide)).trans H
  | some I, H => by
    have H2 : h 0 12 = 1 ∧ bo_T I.1 h 29 ∧ h 0 14 = nI (sp_en I.2.1.1 I.2.1.2.1 I.2.1.2.2) ∧ h 0 15 = nI I.2.2.1 ∧ h 0 16 = nI I.2.2.2 := H
    exact ⟨(e0 12 (by decide)).trans H2.1, bo_T_fr e29 H2.2.1, (e0 14 (by decide)).trans H2.2.2.1, (e0 15 (by decide)).trans H2.2.2.2.1, (e0 16 (by decide)).trans H2.2.2.2.2⟩
theorem jC_F {σ : jP} {q : Nat → Nat} {nr : Nat} {h : Nat → Nat → Int32} {g : Nat → Nat → Int64} {rr : Nat → Option Nat} (H : jC σ q nr h g rr) (f : Int32) : jC (jFs σ f) q nr (ab_u2 h 0 5 f) g rr := by
  obtain ⟨h1, h2, h3, ⟨h4, h5⟩, ⟨h6, h7⟩, h8, h9, h10, h11, h12⟩ := H
  have e : ∀ a, a ≠ 0 → ab_u2 h 0 5 f a = h a := fun a ha => ab_u2_row ha
  have e0 : ∀ b, b ≠ 5 → ab_u2 h 0 5 f 0 b = h 0 b := fun b hb => ab_u2_ne (fun z => hb z.2)
  exact ⟨bo_T_fr (e 17 (by decide)) h1, (e0 10 (by decide)).trans h2, gm_C_fr (e 15 (by decide)) (e 18 (by decide)) (e 19 (by decide)) (e 20 (by decide)) (e 21 (by decide)) h3, ⟨(e0 4 (by decide)).trans h4, ru_fr (fun a ha => e a (by omega)) h5⟩, ⟨by rw [e 1 (by decide), e 2 (by decide)]; exact h6, h7⟩, tr_fr (e 13 (by decide)) h8, by rw [e 28 (by decide)]; exact h9, ab_u2_at, jIC_fr3 (fun b hb => e0 b (by omega)) (e 29 (by decide)) _ h11, kp_fr (e 14 (by decide)) (e 22 (by decide)) (e 23 (by decide)) h12⟩
theorem jD_F {σ : jP} {h : Nat → Nat → Int32} {g : Nat → Nat → Int64} (H : jD σ h g) (f : Int32) : jD (jFs σ f) (ab_u2 h 30 2 f) g := by
  obtain ⟨h1, h2, h3, ⟨h4, h5⟩, ⟨h6, h7⟩, h8, h9, h10, h11, h12, h13⟩ := H
  have x : ∀ a, a ≠ 30 → ab_u2 h 30 2 f a = h a := fun a ha => ab_u2_row ha
  have y : ∀ b, b ≠ 2 → ab_u2 h 30 2 f 30 b = h 30 b := fun b hb => ab_u2_ne (fun z => hb z.2)
  exact ⟨bo_T_fr (x 32 (by decide)) h1, md_bd_fr (y 5 (by decide)) (y 3 (by decide)) (y 4 (by decide)) h2, md_G_fr (y 1 (by decide)) (x 34 (by decide)) (x 35 (by decide)) (x 36 (by decide)) (x 37 (by decide)) h3, ⟨(y 0 (by decide)).trans h4, by rw [x 33 (by decide)]; exact h5⟩, ⟨by rw [x 38 (by decide), x 39 (by decide), x 40 (by decide), x 41 (by decide)]; exact h6, h7⟩, mt_fr (y 37 (by decide)) (x 49 (by decide)) h8, by rw [x 31 (by decide)]; exact h9, ab_u2_at, jIM_id (σ := σ) rfl rfl _ _ (jIM_fr (fun b b1 b2 => y b (by omega)) (x 50 (by decide)) _ h11), md_K_fr (y _ (by decide)) (y _ (by decide)) (y _ (by decide)) (x 45 (by decide)) (x 46 (by decide)) h12, by rw [x 48 (by decide)]; exact h13⟩
theorem jD_ku {σ : jP} {h h' : Nat → Nat → Int32} {g : Nat → Nat → Int64} (H : jD σ h g) (e : md_ku h h') : jD σ h' g := by
  obtain ⟨h1, h2, h3, ⟨h4, h5⟩, ⟨h6, h7⟩, h8, h9, h10, h11, h12, h13⟩ := H
  have x : ∀ a, a ≠ 30 → h' a = h a := fun a ha => funext fun b => e a b (fun z => ha z.1)
  have y : ∀ b, b < 19 ∨ 23 < b → h' 30 b = h 30 b := fun b hb => e 30 b (by omega)
  exact ⟨bo_T_fr (x 32 (by decide)) h1, md_bd_fr (y 5 (by decide)) (y 3 (by decide)) (y 4 (by decide)) h2, md_G_fr (y 1 (by decide)) (x 34 (by decide)) (x 35 (by decide)) (x 36 (by decide)) (x 37 (by decide)) h3, ⟨(y 0 (by decide)).trans h4, by rw [x 33 (by decide)]; exact h5⟩, ⟨by rw [x 38 (by decide), x 39 (by decide), x 40 (by decide), x 41 (by decide)]; exact h6, h7⟩, mt_fr (y 37 (by decide)) (x 49 (by decide)) h8, by rw [x 31 (by decide)]; exact h9, (y 2 (by decide)).trans h10, jIM_fr (fun b b1 b2 => y b (by omega)) (x 50 (by decide)) _ h11, md_K_fr (y _ (by decide)) (y _ (by decide)) (y _ (by decide)) (x 45 (by decide)) (x 46 (by decide)) h12, by rw [x 48 (by decide)]; exact h13⟩
def jNs (σ : jP) (c : Nat) : jP := (σ.1, σ.2.1, σ.2.2.1, (jn σ + 1, ju (jc σ) (jn σ) c), σ.2.2.2.2)
theorem jhd_s {n : Nat} {x : Int32} (H : jhd n x) : jhd (n + 1) x := by
  rcases H with z | ⟨r, hr, z⟩ | z
  · exact Or.inl z
  · exact Or.inr (Or.inl ⟨r, by omega, z⟩)
  · exact Or.inr (Or.inr z)
theorem jok_N {σ : jP} (H : jok σ) {c : Nat} (hn : jn σ < 8) (h1 : 1 ≤ c) (hc : c < 4096) : jok (jNs σ c) := by
  refine ⟨H.1, H.2.1, H.2.2.1, ⟨hn, fun k hk => ?_⟩, fun s hs => ⟨jhd_s (H.2.2.2.2.1 s hs).1, (H.2.2.2.2.1 s hs).2⟩, H.2.2.2.2.2.1, fun I hI => ?_⟩
  · show 1 ≤ ju (jc σ) (jn σ) c k ∧ ju (jc σ) (jn σ) c k < 4096
    by_cases e : k = jn σ
    · rw [e, ju_at]; exact ⟨h1, hc⟩
    · rw [ju_ne e]
      have hk' : k < jn σ + 1 := hk
      exact H.2.2.2.1.2 k (by omega)
  · obtain ⟨p1, p2, p3, p4⟩ := H.2.2.2.2.2.2 I hI
    exact ⟨p1, p2, Nat.le_succ_of_le p3, p4⟩
theorem jC_N {σ : jP} {q : Nat → Nat} {nr : Nat} {h : Nat → Nat → Int32} {g : Nat → Nat → Int64} {rr : Nat → Option Nat} (H : jC σ q nr h g rr) {c : Nat} (h1c : 1 ≤ c) (hc : c < 4096) : jC (jNs σ c) (ju q (jn σ) nr) (nr + 1) (ab_u2 (ab_u2 (ab_u2 (ab_u2 (ab_u2 (hz_ (51 + nr) h) (51 + nr) 0 (nI (jn σ))) (51 + nr) 1 (nI c)) (51 + nr) 2 (nI (sp_kd c))) (51 + nr) 3 (nI (sp_pr c))) 0 4 (nI (jn σ + 1))) (gz_ (51 + nr) g) (fun j => if j = jn σ then some (51 + nr) else rr j) := by
  obtain ⟨h1, h2, h3, ⟨h4, h5⟩, ⟨h6, h7⟩, h8, h9, h10, h11, h12⟩ := H
  generalize hY : ab_u2 (ab_u2 (ab_u2 (ab_u2 (ab_u2 (hz_ (51 + nr) h) (51 + nr) 0 (nI (jn σ))) (51 + nr) 1 (nI c)) (51 + nr) 2 (nI (sp_kd c))) (51 + nr) 3 (nI (sp_pr c))) 0 4 (nI (jn σ + 1)) = Y
  have x : ∀ a, a ≠ 0 → a ≠ 51 + nr → Y a = h a := fun a a0 a1 => by
    rw [← hY, ab_u2_row a0, ab_u2_row a1, ab_u2_row a1, ab_u2_row a1, ab_u2_row a1]
    exact funext fun b => hz_ne a1
  have y : ∀ b, b ≠ 4 → Y 0 b = h 0 b := fun b hb => by
    rw [← hY, ab_u2_ne (fun z => hb z.2), ab_u2_k (by omega), ab_u2_k (by omega), ab_u2_k (by omega), ab_u2_k (by omega)]
    exact hz_ne (by omega)
  refine ⟨bo_T_fr (x 17 (by omega) (by omega)) h1, (y 10 (by decide)).trans h2, gm_C_fr (x 15 (by omega) (by omega)) (x 18 (by omega) (by omega)) (x 19 (by omega) (by omega)) (x 20 (by omega) (by omega)) (x 21 (by omega) (by omega)) h3, ⟨by rw [← hY, ab_u2_at]; rfl, fun j hj => ?_⟩, ⟨by rw [x 1 (by omega) (by omega), x 2 (by omega) (by omega)]; exact h6, fun s k hs hk => ?_⟩, tr_fr (x 13 (by omega) (by omega)) h8, by rw [x 28 (by omega) (by omega)]; exact h9, (y 5 (by decide)).trans h10, jIC_fr3 (fun b hb => y b (by omega)) (x 29 (by omega) (by omega)) _ h11, kp_fr (x 14 (by omega) (by omega)) (x 22 (by omega) (by omega)) (x 23 (by omega) (by omega)) h12⟩
  · by_cases e : j = jn σ
    · subst e
      show ju q (jn σ) nr (jn σ) < nr + 1 ∧ (if jn σ = jn σ then some (51 + nr) else rr (jn σ)) = some (51 + ju q (jn σ) nr (jn σ)) ∧ Y (51 + ju q (jn σ) nr (jn σ)) 0 = nI (jn σ) ∧ Y (51 + ju q (jn σ) nr (jn σ)) 1 = nI (ju (jc σ) (jn σ) c (jn σ)) ∧ Y (51 + ju q (jn σ) nr (jn σ)) 2 = nI (sp_kd (ju (jc σ) (jn σ) c (jn σ))) ∧ Y (51 + ju q (jn σ) nr (jn σ)) 3 = nI (sp_pr (ju (jc σ) (jn σ) c (jn σ))) ∧ 1 ≤ ju (jc σ) (jn σ) c (jn σ) ∧ ju (jc σ) (jn σ) c (jn σ) < 4096
      rw [ju_at, ju_at, if_pos rfl, ← hY]
      have k0 : 51 + nr ≠ 0 := by omega
      refine ⟨by omega, rfl, ?_, ?_, ?_, ?_, h1c, hc⟩
      · rw [ab_u2_k k0, ab_u2_ne (by omega), ab_u2_ne (by omega), ab_u2_ne (by omega), ab_u2_at]
      · rw [ab_u2_k k0, ab_u2_ne (by omega), ab_u2_ne (by omega), ab_u2_at]
      · rw [ab_u2_k k0, ab_u2_ne (by omega), ab_u2_at]
      · rw [ab_u2_k k0, ab_u2_at]
    · have hj' : j < jn σ := by have : j < jn σ + 1 := hj; omega
      have z := h5 j hj'
      show ju q (jn σ) nr j < nr + 1 ∧ (if j = jn σ then some (51 + nr) else rr j) = some (51 + ju q (jn σ) nr j) ∧ Y (51 + ju q (jn σ) nr j) 0 = nI j ∧ Y (51 + ju q (jn σ) nr j) 1 = nI (ju (jc σ) (jn σ) c j) ∧ Y (51 + ju q (jn σ) nr j) 2 = nI (sp_kd (ju (jc σ) (jn σ) c j)) ∧ Y (51 + ju q (jn σ) nr j) 3 = nI (sp_pr (ju (jc σ) (jn σ) c j)) ∧ 1 ≤ ju (jc σ) (jn σ) c j ∧ ju (jc σ) (jn σ) c j < 4096
      rw [ju_ne e, ju_ne e, if_neg e, x (51 + q j) (by omega) (by have := z.1; omega)]
      exact ⟨by have := z.1; omega, z.2⟩
  · exact (if_neg (by omega)).trans (h7 s k hs hk)
theorem jD_N {σ : jP} (h0 : jok σ) {h : Nat → Nat → Int32} {g : Nat → Nat → Int64} (H : jD σ h g) (c : Nat) : jD (jNs σ c) (ab_u2 (ab_u2 h 33 (jn σ) (nI c)) 30 0 (nI (jn σ + 1))) g := by
  obtain ⟨h1, h2, h3, ⟨h4, h5⟩, ⟨h6, h7⟩, h8, h9, h10, h11, h12, h13⟩ := H
  generalize hY : ab_u2 (ab_u2 h 33 (jn σ) (nI c)) 30 0 (nI (jn σ + 1)) = Y
  have x : ∀ a, a ≠ 30 → a ≠ 33 → Y a = h a := fun a a1 a2 => by rw [← hY, ab_u2_row a1, ab_u2_row a2]
  have y : ∀ b, b ≠ 0 → Y 30 b = h 30 b := fun b hb => by rw [← hY, ab_u2_ne (fun z => hb z.2), ab_u2_k (by decide)]
  refine ⟨bo_T_fr (x 32 (by decide) (by decide)) h1, md_bd_fr (y 5 (by decide)) (y 3 (by decide)) (y 4 (by decide)) h2, md_G_fr (y 1 (by decide)) (x 34 (by decide) (by decide)) (x 35 (by decide) (by decide)) (x 36 (by decide) (by decide)) (x 37 (by decide) (by decide)) h3, ⟨by rw [← hY, ab_u2_at]; rfl, fun k hk => ?_⟩, ⟨by rw [x 38 (by decide) (by decide), x 39 (by decide) (by decide), x 40 (by decide) (by decide), x 41 (by decide) (by decide)]; exact h6, h7⟩, mt_fr (y 37 (by decide)) (x 49 (by decide) (by decide)) h8, by rw [x 31 (by decide) (by decide)]; exact h9, (y 2 (by decide)).trans h10, jIM_id2 (σ := σ) _ (fun I hI => ⟨fun k hk => ?_, fun _ _ => ⟨rfl, rfl, rfl, rfl, rfl⟩⟩) (jIM_fr (fun b b1 b2 => y b (by omega)) (x 50 (by decide) (by decide)) _ h11), md_K_fr (y _ (by decide)) (y _ (by decide)) (y _ (by decide)) (x 45 (by decide) (by decide)) (x 46 (by decide) (by decide)) h12, by rw [x 48 (by decide) (by decide)]; exact h13⟩
  · show Y 33 k = nI (ju (jc σ) (jn σ) c k)
    rw [← hY, ab_u2_k (by decide)]
    by_cases e : k = jn σ
    · rw [e, ju_at, ab_u2_at]
    · have hk' : k < jn σ + 1 := hk
      rw [ju_ne e, ab_u2_ne (fun z => e z.2)]
      exact h5 k (by omega)
  · have p3 := (h0.2.2.2.2.2.2 I hI).2.2.1
    exact ju_ne (by omega)
theorem js_rule {n0 : Nat} {xs0 : Nat → Int32} (l : Launch) {σ : jP} {q : Nat → Nat} {nr : Nat} {h : Nat → Nat → Int32} {g : Nat → Nat → Int64} {rr : Nat → Option Nat} (h0 : jok σ) (hC : jC σ q nr h g rr) (hD : jD σ h g) (s : Int32) : ab_CX l (some (n0, xs0)) am_W_rule 20 1 5 (.ref 0 :: [.int s]) (ab_S nr h g rr) (jN l am_M_rule [.int s]) := by
  have hW := ct_W_rule (n0 := n0) (xs0 := xs0) l 13 nr h g rr h0.2.2.2.1.1 hC.2.2.2.1.1 hC.2.2.2.1.2 (jz_W h0 hC) s
  have hM := fun nr1 rr1 h1 g1 (hD1 : jD σ h1 g1) => ct_M_rule l 14 nr1 h1 g1 rr1 hD1.2.2.2.1.1 h0.2.2.2.1.1 (jz_M h0 hD1) s
  have n8 := h0.2.2.2.1.1
  -- a REFUSAL before the letters
  have go : ∀ (v : Int32) (k : Nat), 1 ≤ k ∧ k ≤ 7 → fx_W_rule nr h g rr (jz σ) (jn σ) s = (some (.int v), ab_S nr (ab_u2 h 28 k (h 28 k + 1)) g rr) → (∀ h1 g1, jD σ h1 g1 → fx_M_rule h1 g1 (jz σ) (jn σ) s = (some (.int v), ab_u2 h1 31 k (h1 31 k + 1))) → ab_CX l (some (n0, xs0)) am_W_rule 20 1 5 (.ref 0 :: [.int s]) (ab_S nr h g rr) (jN l am_M_rule [.int s]) := fun v k hk eW eM =>
    jER (v := .int v) (σ' := jR σ (some k)) (q' := q) (jok_R h0 _) hD (ab_CX_wk hW (fun r M1 K => by
      rw [eW] at K
      exact ⟨(Prod.mk.inj K).1, nr, _, g, rr, (Prod.mk.inj K).2, jC_R hC (jo7s hk), fun a a1 a2 => ab_u2_row (by omega), rfl⟩)) (fun nr1 rr1 h1 g1 hD1 => ab_C_wk (hM nr1 rr1 h1 g1 hD1) (fun r M2 K => by
      obtain ⟨X, h', K, rfl, ku⟩ := K
      rw [eM h1 g1 hD1] at K
      obtain ⟨K1, K2⟩ := Prod.mk.inj K
      subst K2
      exact ⟨K1, h', g1, rfl, jD_ku (jD_R hD1 (jo7s hk)) ku, fun a ha => (funext fun b => ku a b (fun z => by omega)).trans (ab_u2_row (by omega)), fun _ _ => rfl⟩))
  -- a REFUSAL with a FAULT
  have go2 : ∀ (v f : Int32) (k : Nat), 1 ≤ k ∧ k ≤ 7 → fx_W_rule nr h g rr (jz σ) (jn σ) s = (some (.int v), ab_S nr (ab_u2 (ab_u2 h 0 5 f) 28 k (ab_u2 h 0 5 f 28 k + 1)) g rr) → (∀ h1 g1, jD σ h1 g1 → fx_M_rule h1 g1 (jz σ) (jn σ) s = (some (.int v), ab_u2 (ab_u2 h1 30 2 f) 31 k (h1 31 k + 1))) → ab_CX l (some (n0, xs0)) am_W_rule 20 1 5 (.ref 0 :: [.int s]) (ab_S nr h g rr) (jN l am_M_rule [.int s]) := fun v f k hk eW eM =>
    jER (v := .int v) (σ' := jR (jFs σ f) (some k)) (q' := q) (jok_R (σ := jFs σ f) h0 _) hD (ab_CX_wk hW (fun r M1 K => by
      rw [eW] at K
      exact ⟨(Prod.mk.inj K).1, nr, _, g, rr, (Prod.mk.inj K).2, jC_R (jC_F hC f) (jo7s hk), fun a a1 a2 => by rw [ab_u2_row (by omega), ab_u2_row (by omega)], rfl⟩)) (fun nr1 rr1 h1 g1 hD1 => ab_C_wk (hM nr1 rr1 h1 g1 hD1) (fun r M2 K => by
      obtain ⟨X, h', K, rfl, ku⟩ := K
      rw [eM h1 g1 hD1] at K
      obtain ⟨K1, K2⟩ := Prod.mk.inj K
      subst K2
      exact ⟨K1, h', g1, rfl, jD_ku (jD_R (jD_F hD1 f) (jo7s hk)) ku, fun a ha => (funext fun b => ku a b (fun z => by omega)).trans (by rw [ab_u2_row (by omega), ab_u2_row (by omega)]), fun _ _ => rfl⟩))
  by_cases c1 : ab_bz (sp_sh s) = 0
  · exact go (-1) 1 (by decide) (by unfold fx_W_rule; rw [jrr_n c1, if_neg (by decide)]; rfl) (fun h1 g1 _ => by unfold fx_M_rule; rw [if_pos c1])
  · obtain ⟨k, hk, rfl⟩ := sp_sh_n c1
    have tk : (nI k).toNatClampNeg = k := ab_tn (by omega)
    have eW := jrr_W hC hk c1
    rcases jhd_c (h0.2.2.2.2.1 k hk).1 n8 with ⟨-, e2, e3⟩ | ⟨-, e2, e3, -⟩ | ⟨-, e2, e3, -⟩
    · exact go (-3) 3 (by decide) (by unfold fx_W_rule; rw [eW, e3, if_neg (by decide)]; rfl) (fun h1 g1 hD1 => by unfold fx_M_rule; rw [if_neg c1, tk, (hD1.2.2.2.2.1.1 k hk).1.1, e2, if_neg (by decide), if_pos rfl])
    · exact go (-2) 2 (by decide) (by unfold fx_W_rule; rw [eW, e3, if_neg (by decide)]; rfl) (fun h1 g1 hD1 => by unfold fx_M_rule; rw [if_neg c1, tk, (hD1.2.2.2.2.1.1 k hk).1.1, e2, if_pos rfl])
    · have z60 := (h0.2.2.2.2.1 k hk).2
      have er : ∀ h1 g1, jD σ h1 g1 → sp_rd (md_f g1 k) (jz σ k) = sp_rd (fun i => (g (4 + k) i).toInt32) (jz σ k) := fun h1 g1 hD1 => sp_rd_cong (fun i hi => by
        show (g1 42 (60 * k + i)).toInt32 = (g (4 + k) i).toInt32
        rw [hD1.2.2.2.2.1.2 k i hk (by omega), hC.2.2.2.2.1.2 k i hk (by omega)])
      have eM : ∀ h1 g1, jD σ h1 g1 → fx_M_rule h1 g1 (jz σ) (jn σ) (nI k) = fx_M_rule2 h1 g1 (jz σ k) (jn σ) k := fun h1 g1 hD1 => by
        unfold fx_M_rule
        rw [if_neg c1, tk, (hD1.2.2.2.2.1.1 k hk).1.1, e2, if_neg (by decide), if_neg (by decide)]
      generalize hrd : sp_rd (fun i => (g (4 + k) i).toInt32) (jz σ k) = rd at er
      by_cases c2 : 0 ≤ rd
      · obtain ⟨c, ec, hc1, hc⟩ := sp_rd_c z60 (by rw [hrd]; exact c2)
        rw [hrd] at ec
        by_cases c3 : jn σ = 8
        · exact go2 (-7) (-1) 7 (by decide) (by unfold fx_W_rule; rw [eW, e3, if_pos rfl, tk, hrd, if_pos c2, if_neg (by rw [c3]; decide)]) (fun h1 g1 hD1 => by rw [eM h1 g1 hD1]; unfold fx_M_rule2; rw [er h1 g1 hD1, if_pos c2, if_pos c3])
        · have tc : (nI c).toNatClampNeg = c := ab_tn (by omega)
          subst ec
          refine jER (v := .int (nI (jn σ))) (σ' := jNs (jFs σ (-1)) c) (q' := ju q (jn σ) nr) (jok_N (σ := jFs σ (-1)) h0 (by show jn σ < 8; omega) hc1 hc) hD (ab_CX_wk hW (fun r M1 K => ?_)) (fun nr1 rr1 h1 g1 hD1 => ab_C_wk (hM nr1 rr1 h1 g1 hD1) (fun r M2 K => ?_))
          · unfold fx_W_rule at K
            rw [eW, e3, if_pos rfl, tk, hrd, if_pos c2, if_pos (show nI (jn σ) < (8 : Int32) from (ab_lt (b := 8) (by omega) (by decide)).mpr (by omega)), tc] at K
            exact ⟨(Prod.mk.inj K).1, nr + 1, _, _, _, (Prod.mk.inj K).2, jC_N (σ := jFs σ (-1)) (jC_F hC (-1)) hc1 hc, fun a a1 a2 => by
              rw [ab_u2_row (by omega), ab_u2_row (by omega), ab_u2_row (by omega), ab_u2_row (by omega), ab_u2_row (by omega)]
              exact (funext fun b => hz_ne (by omega)).trans (ab_u2_row (by omega)), funext fun b => if_neg (by omega)⟩
          · obtain ⟨X, h', K, rfl, ku⟩ := K
            rw [eM h1 g1 hD1] at K
            unfold fx_M_rule2 at K
            rw [er h1 g1 hD1, if_pos c2, if_neg c3] at K
            obtain ⟨K1, K2⟩ := Prod.mk.inj K
            subst K2
            exact ⟨K1, h', g1, rfl, jD_ku (jD_N (σ := jFs σ (-1)) h0 (jD_F hD1 (-1)) c) ku, fun a ha => (funext fun b => ku a b (fun z => by omega)).trans (by rw [ab_u2_row (by omega), ab_u2_row (by omega), ab_u2_row (by omega)]), fun _ _ => rfl⟩
      · exact go2 (-6) (-1 - rd) 6 (by decide) (by unfold fx_W_rule; rw [eW, e3, if_pos rfl, tk, hrd, if_neg c2]) (fun h1 g1 hD1 => by rw [eM h1 g1 hD1]; unfold fx_M_rule2; rw [er h1 g1 hD1, if_neg c2])
