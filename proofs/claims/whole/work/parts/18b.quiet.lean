/-! the quiet calls: what changes nothing but how many REFUSALS there were -/
theorem jo7n : jo7 none := fun k z => by cases z
theorem jo7s {k : Nat} (h : 1 ≤ k ∧ k ≤ 7) : jo7 (some k) := fun j z => by cases z; exact h
theorem kp_X {T : Nat → Nat → Nat} {Z : sp_G} {h : Nat → Nat → Int32} (H : kp_C T Z h) (o : Option Nat) : kp_C T Z (jX o 28 h) := kp_fr (jX_row (by decide)) (jX_row (by decide)) (jX_row (by decide)) H
theorem md_KX {T : Nat → Nat → Nat} {Z : sp_G} {h : Nat → Nat → Int32} (H : md_K T Z h) (o : Option Nat) : md_K T Z (jX o 31 h) := md_K_fr (congrFun (jX_row (by decide)) _) (congrFun (jX_row (by decide)) _) (congrFun (jX_row (by decide)) _) (jX_row (by decide)) (jX_row (by decide)) H
theorem jwa {T : Nat → Nat → Nat} {Z : sp_G} {nr : Nat} {h : Nat → Nat → Int32} {g : Nat → Nat → Int64} {rr : Nat → Option Nat} {r : Option Value} {M1 : ab_Me} {F : Option Value × ab_Me} {v : Value} {o : Option Nat} (kp : kp_C T Z h) (K : (r, M1) = F) (e : F = (some v, ab_S nr (jX o 28 h) g rr)) : r = some v ∧ ∃ h1, M1 = ab_S nr h1 g rr ∧ kp_C T Z h1 ∧ fr_K (jX o 28 h) h1 := by
  rw [e] at K
  exact ⟨(Prod.mk.inj K).1, _, (Prod.mk.inj K).2, kp_X kp o, fr_rf _⟩
theorem jwb {T : Nat → Nat → Nat} {Z : sp_G} {nr : Nat} {h : Nat → Nat → Int32} {g : Nat → Nat → Int64} {rr : Nat → Option Nat} {r : Option Value} {M1 : ab_Me} {F : Option Value × (Nat → Nat → Int32)} {v : Value} {o : Option Nat} (_ : kp_C T Z h) (K : ∃ X h', (r, X) = F ∧ M1 = ab_S nr h' g rr ∧ kp_C T Z h' ∧ fr_K X h') (e : F = (some v, jX o 28 h)) : r = some v ∧ ∃ h1, M1 = ab_S nr h1 g rr ∧ kp_C T Z h1 ∧ fr_K (jX o 28 h) h1 := by
  obtain ⟨X, h', K, h1, h2, h3⟩ := K
  rw [e] at K
  obtain ⟨k1, k2⟩ := Prod.mk.inj K
  subst k2
  exact ⟨k1, h', h1, h2, h3⟩
theorem jma {T : Nat → Nat → Nat} {Z : sp_G} {nr : Nat} {h : Nat → Nat → Int32} {g : Nat → Nat → Int64} {rr : Nat → Option Nat} {r : Option Value} {M2 : ab_Me} {F : Option Value × (Nat → Nat → Int32)} {v : Value} {o : Option Nat} (K : ∃ X h', (r, X) = F ∧ M2 = ab_S nr h' g rr ∧ md_K T Z h' ∧ md_kr X h') (e : F = (some v, jX o 31 h)) : r = some v ∧ ∃ h2, M2 = ab_S nr h2 g rr ∧ md_K T Z h2 ∧ md_kr (jX o 31 h) h2 := by
  obtain ⟨X, h', K, h1, h2, h3⟩ := K
  rw [e] at K
  obtain ⟨k1, k2⟩ := Prod.mk.inj K
  subst k2
  exact ⟨k1, h', h1, h2, h3⟩
theorem jmb {T : Nat → Nat → Nat} {Z : sp_G} {nr : Nat} {h : Nat → Nat → Int32} {g : Nat → Nat → Int64} {rr : Nat → Option Nat} {r : Option Value} {M2 : ab_Me} {F : Option Value × ab_Me} {v : Value} {o : Option Nat} (kp : md_K T Z h) (K : (r, M2) = F) (e : F = (some v, ab_S nr (jX o 31 h) g rr)) : r = some v ∧ ∃ h2, M2 = ab_S nr h2 g rr ∧ md_K T Z h2 ∧ md_kr (jX o 31 h) h2 := by
  rw [e] at K
  exact ⟨(Prod.mk.inj K).1, _, (Prod.mk.inj K).2, md_KX kp o, md_kr_rf _⟩
theorem jz_W {σ : jP} {q : Nat → Nat} {nr : Nat} {h : Nat → Nat → Int32} {g : Nat → Nat → Int64} {rr : Nat → Option Nat} (h0 : jok σ) (hC : jC σ q nr h g rr) : ∀ s, s < 8 → jz σ s ≤ 60 ∧ h 2 s = nI (jz σ s) := fun s hs => ⟨(h0.2.2.2.2.1 s hs).2, (hC.2.2.2.2.1.1 s hs).2⟩
theorem jz_M {σ : jP} {h : Nat → Nat → Int32} {g : Nat → Nat → Int64} (h0 : jok σ) (hD : jD σ h g) : ∀ s, s < 8 → jz σ s ≤ 60 ∧ h 40 s = nI (jz σ s) := fun s hs => ⟨(h0.2.2.2.2.1 s hs).2, (hD.2.2.2.2.1.1 s hs).2⟩
theorem jcs_M {σ : jP} {h : Nat → Nat → Int32} {g : Nat → Nat → Int64} (h0 : jok σ) (hD : jD σ h g) : ∀ k, k < jn σ → h 33 k = nI (jc σ k) ∧ 1 ≤ jc σ k ∧ jc σ k < 4096 := fun k hk => ⟨hD.2.2.2.1.2 k hk, h0.2.2.2.1.2 k hk⟩
theorem jK_M {σ : jP} {h : Nat → Nat → Int32} {g : Nat → Nat → Int64} (hD : jD σ h g) : md_K (jT σ) (jZ σ) h := hD.2.2.2.2.2.2.2.2.2.1
theorem sp_fd_n (x : Int32) : ∀ (l : List Nat) (n : Nat), (∀ j, j < l.length → ¬ nI (n + j) = x) → sp_fd x l n = -1
  | [], _, _ => rfl
  | a :: l, n, h => by
    rw [sp_fd, if_neg (show ¬ nI n = x from h 0 (Nat.zero_lt_succ _))]
    exact sp_fd_n x l (n + 1) (fun j hj => by rw [show n + 1 + j = n + (j + 1) by omega]; exact h (j + 1) (Nat.succ_lt_succ hj))
theorem sp_fd_y : ∀ (l : List Nat) (n j : Nat), j < l.length → n + l.length < 2 ^ 31 → sp_fd (nI (n + j)) l n = nI (l.getD j 0)
  | [], _, _, h, _ => absurd h (Nat.not_lt_zero _)
  | a :: l, n, 0, h, _ => by
    rw [sp_fd, if_pos (show nI n = nI (n + 0) from rfl)]
    rfl
  | a :: l, n, j + 1, h, h2 => by
    rw [List.length_cons] at h h2
    rw [sp_fd, if_neg (fun z => absurd ((ab_inj (by omega) (by omega)).mp z) (by omega)), show n + (j + 1) = n + 1 + j by omega, sp_fd_y l (n + 1) j (by omega) (by omega)]
    rfl
theorem ja_wv {a b p : Nat} : sp_wv (sp_who a b p) 0 = md_sw a b p := by
  unfold sp_wv sp_who md_sw
  cases a.testBit p <;> cases b.testBit p <;> rfl
theorem ja_dec {p : Prop} [Decidable p] : ab_bz (decide p) = 0 ↔ ¬ p := by
  unfold ab_bz
  by_cases h : p <;> simp [h]
set_option maxHeartbeats 1000000 in
theorem ja_price (nr : Nat) (h : Nat → Nat → Int32) (g : Nat → Nat → Int64) (rr : Nat → Option Nat) (x : Int32) : ∃ v o, jo7 o ∧ fx_W_price nr h g rr  x = (some v, ab_S nr (jX o 28 h) g rr) ∧ ∀ (h : Nat → Nat → Int32), fx_M_price h  x = (some v, jX o 31 h) := by
  by_cases c1 : (ab_bz (sp_cd x)) = 0
  · refine ⟨.int (-1 : Int32), (some 1), jo7s (by decide), ?_, fun h => ?_⟩
    · show fx_W_price nr h g rr  x = (some (.int (-1 : Int32)), ab_S nr (ab_u2 h 28 1 (h 28 1 + 1)) g rr)
      unfold fx_W_price
      rw [if_pos c1]
    · show fx_M_price h  x = (some (.int (-1 : Int32)), ab_u2 h 31 1 (h 31 1 + 1))
      unfold fx_M_price
      rw [if_pos c1]
  · refine ⟨.int (nI (sp_pr x.toNatClampNeg)), none, jo7n, ?_, fun h => ?_⟩
    · show fx_W_price nr h g rr  x = (some (.int (nI (sp_pr x.toNatClampNeg))), ab_S nr h g rr)
      unfold fx_W_price
      rw [if_neg c1]
    · show fx_M_price h  x = (some (.int (nI (sp_pr x.toNatClampNeg))), h)
      unfold fx_M_price
      rw [if_neg c1]
theorem js_price (l : Launch) {σ : jP} {q : Nat → Nat} {nr : Nat} {h : Nat → Nat → Int32} {g : Nat → Nat → Int64} {rr : Nat → Option Nat} (h0 : jok σ) (hC : jC σ q nr h g rr) (hD : jD σ h g) (x : Int32) : ab_C l am_W_price 20 0 0 (.ref 0 :: [.int x]) (ab_S nr h g rr) (jN l am_M_price [.int x]) := by
  obtain ⟨v, o, ho, eW, eM⟩ := ja_price nr h g rr  x
  exact jq h0 hC hD ho (ab_C_wk (ct_W_price l 18 nr h g rr  x) (fun r M1 K => jwa hC.2.2.2.2.2.2.2.2.2 K eW)) (fun h1 hD1 => ab_C_wk (ct_M_price l 18 nr h1 g rr (jK_M hD1) x) (fun r M2 K => jma K (eM h1)))
set_option maxHeartbeats 1000000 in
theorem ja_judge (nr : Nat) (h : Nat → Nat → Int32) (g : Nat → Nat → Int64) (rr : Nat → Option Nat) (T : Nat → Nat → Nat) (Z : sp_G) (x y : Int32) : ∃ v o, jo7 o ∧ fx_W_judge nr h g rr T Z x y = (some v, ab_S nr (jX o 28 h) g rr) ∧ ∀ (h : Nat → Nat → Int32), fx_M_judge h T Z x y = (some v, jX o 31 h) := by
  by_cases c1 : (ab_bz (decide (0 ≤ x ∧ x < nI (gN Z)))) = 0
  · refine ⟨.int (-11 : Int32), (some 1), jo7s (by decide), ?_, fun h => ?_⟩
    · show fx_W_judge nr h g rr T Z x y = (some (.int (-11 : Int32)), ab_S nr (ab_u2 h 28 1 (h 28 1 + 1)) g rr)
      unfold fx_W_judge
      rw [if_pos c1]
    · show fx_M_judge h T Z x y = (some (.int (-11 : Int32)), ab_u2 h 31 1 (h 31 1 + 1))
      unfold fx_M_judge
      rw [if_pos c1]
  · by_cases c2 : (ab_bz (sp_cd y)) = 0
    · refine ⟨.int (-11 : Int32), (some 1), jo7s (by decide), ?_, fun h => ?_⟩
      · show fx_W_judge nr h g rr T Z x y = (some (.int (-11 : Int32)), ab_S nr (ab_u2 h 28 1 (h 28 1 + 1)) g rr)
        unfold fx_W_judge
        rw [if_neg c1, if_pos c2]
      · show fx_M_judge h T Z x y = (some (.int (-11 : Int32)), ab_u2 h 31 1 (h 31 1 + 1))
        unfold fx_M_judge
        rw [if_neg c1, if_pos c2]
    · refine ⟨.int (sp_fl T y.toNatClampNeg Z x.toNatClampNeg), none, jo7n, ?_, fun h => ?_⟩
      · show fx_W_judge nr h g rr T Z x y = (some (.int (sp_fl T y.toNatClampNeg Z x.toNatClampNeg)), ab_S nr h g rr)
        unfold fx_W_judge
        rw [if_neg c1, if_neg c2]
      · show fx_M_judge h T Z x y = (some (.int (sp_fl T y.toNatClampNeg Z x.toNatClampNeg)), h)
        unfold fx_M_judge
        rw [if_neg c1, if_neg c2]
theorem js_judge (l : Launch) {σ : jP} {q : Nat → Nat} {nr : Nat} {h : Nat → Nat → Int32} {g : Nat → Nat → Int64} {rr : Nat → Option Nat} (h0 : jok σ) (hC : jC σ q nr h g rr) (hD : jD σ h g) (x : Int32) (y : Int32) : ab_C l am_W_judge 20 0 0 (.ref 0 :: [.int x, .int y]) (ab_S nr h g rr) (jN l am_M_judge [.int x, .int y]) := by
  obtain ⟨v, o, ho, eW, eM⟩ := ja_judge nr h g rr (jT σ) (jZ σ) x y
  exact jq h0 hC hD ho (ab_C_wk (ct_W_judge l 14 nr h g rr hC.1 h0.1 h0.2.2.1 hC.2.2.1 x y) (fun r M1 K => jwa hC.2.2.2.2.2.2.2.2.2 K eW)) (fun h1 hD1 => ab_C_wk (ct_M_judge l 14 nr h1 g rr hD1.1 h0.1 h0.2.2.1 hD1.2.2.1 (jK_M hD1) x y) (fun r M2 K => jma K (eM h1)))
set_option maxHeartbeats 1000000 in
theorem ja_wide (nr : Nat) (h : Nat → Nat → Int32) (g : Nat → Nat → Int64) (rr : Nat → Option Nat) (T : Nat → Nat → Nat) (Z : sp_G) (x : Int32) : ∃ v o, jo7 o ∧ fx_W_wide nr h g rr T Z x = (some v, ab_S nr (jX o 28 h) g rr) ∧ ∀ (h : Nat → Nat → Int32), fx_M_wide h T Z x = (some v, jX o 31 h) := by
  by_cases c1 : (ab_bz (sp_cd x)) = 0
  · refine ⟨.int (-1 : Int32), (some 1), jo7s (by decide), ?_, fun h => ?_⟩
    · show fx_W_wide nr h g rr T Z x = (some (.int (-1 : Int32)), ab_S nr (ab_u2 h 28 1 (h 28 1 + 1)) g rr)
      unfold fx_W_wide
      rw [if_pos c1]
    · show fx_M_wide h T Z x = (some (.int (-1 : Int32)), ab_u2 h 31 1 (h 31 1 + 1))
      unfold fx_M_wide
      rw [if_pos c1]
  · refine ⟨.int (nI (sp_wd T x.toNatClampNeg Z)), none, jo7n, ?_, fun h => ?_⟩
    · show fx_W_wide nr h g rr T Z x = (some (.int (nI (sp_wd T x.toNatClampNeg Z))), ab_S nr h g rr)
      unfold fx_W_wide
      rw [if_neg c1]
    · show fx_M_wide h T Z x = (some (.int (nI (sp_wd T x.toNatClampNeg Z))), h)
      unfold fx_M_wide
      rw [if_neg c1]
theorem js_wide (l : Launch) {σ : jP} {q : Nat → Nat} {nr : Nat} {h : Nat → Nat → Int32} {g : Nat → Nat → Int64} {rr : Nat → Option Nat} (h0 : jok σ) (hC : jC σ q nr h g rr) (hD : jD σ h g) (x : Int32) : ab_C l am_W_wide 20 0 0 (.ref 0 :: [.int x]) (ab_S nr h g rr) (jN l am_M_wide [.int x]) := by
  obtain ⟨v, o, ho, eW, eM⟩ := ja_wide nr h g rr (jT σ) (jZ σ) x
  exact jq h0 hC hD ho (ab_C_wk (ct_W_wide l 15 nr h g rr hC.1 h0.1 h0.2.2.1 hC.2.2.1 x) (fun r M1 K => jwa hC.2.2.2.2.2.2.2.2.2 K eW)) (fun h1 hD1 => ab_C_wk (ct_M_wide l 14 nr h1 g rr hD1.1 h0.1 h0.2.2.1 hD1.2.2.1 (jK_M hD1) x) (fun r M2 K => jma K (eM h1)))
set_option maxHeartbeats 1000000 in
theorem ja_part (nr : Nat) (h : Nat → Nat → Int32) (g : Nat → Nat → Int64) (rr : Nat → Option Nat) (T : Nat → Nat → Nat) (Z : sp_G) (x y : Int32) : ∃ v o, jo7 o ∧ fx_W_part nr h g rr T Z x y = (some v, ab_S nr (jX o 28 h) g rr) ∧ ∀ (h : Nat → Nat → Int32), fx_M_part2 h T Z x y = (some v, jX o 31 h) := by
  by_cases c1 : (ab_bz (sp_cd x)) = 0
  · refine ⟨.int (-11 : Int32), (some 1), jo7s (by decide), ?_, fun h => ?_⟩
    · show fx_W_part nr h g rr T Z x y = (some (.int (-11 : Int32)), ab_S nr (ab_u2 h 28 1 (h 28 1 + 1)) g rr)
      unfold fx_W_part
      rw [if_pos c1]
    · show fx_M_part2 h T Z x y = (some (.int (-11 : Int32)), ab_u2 h 31 1 (h 31 1 + 1))
      unfold fx_M_part2
      rw [if_pos c1]
  · by_cases c2 : (ab_bz (sp_cd y)) = 0
    · refine ⟨.int (-11 : Int32), (some 1), jo7s (by decide), ?_, fun h => ?_⟩
      · show fx_W_part nr h g rr T Z x y = (some (.int (-11 : Int32)), ab_S nr (ab_u2 h 28 1 (h 28 1 + 1)) g rr)
        unfold fx_W_part
        rw [if_neg c1, if_pos c2]
      · show fx_M_part2 h T Z x y = (some (.int (-11 : Int32)), ab_u2 h 31 1 (h 31 1 + 1))
        unfold fx_M_part2
        rw [if_neg c1, if_pos c2]
    · refine ⟨.int (sp_pa T x.toNatClampNeg y.toNatClampNeg Z), none, jo7n, ?_, fun h => ?_⟩
      · show fx_W_part nr h g rr T Z x y = (some (.int (sp_pa T x.toNatClampNeg y.toNatClampNeg Z)), ab_S nr h g rr)
        unfold fx_W_part
        rw [if_neg c1, if_neg c2]
      · show fx_M_part2 h T Z x y = (some (.int (sp_pa T x.toNatClampNeg y.toNatClampNeg Z)), h)
        unfold fx_M_part2
        rw [if_neg c1, if_neg c2]
theorem js_part (l : Launch) {σ : jP} {q : Nat → Nat} {nr : Nat} {h : Nat → Nat → Int32} {g : Nat → Nat → Int64} {rr : Nat → Option Nat} (h0 : jok σ) (hC : jC σ q nr h g rr) (hD : jD σ h g) (x : Int32) (y : Int32) : ab_C l am_W_part 20 0 0 (.ref 0 :: [.int x, .int y]) (ab_S nr h g rr) (jN l am_M_part2 [.int x, .int y]) := by
  obtain ⟨v, o, ho, eW, eM⟩ := ja_part nr h g rr (jT σ) (jZ σ) x y
  exact jq h0 hC hD ho (ab_C_wk (ct_W_part l 15 nr h g rr hC.1 h0.1 h0.2.2.1 hC.2.2.1 x y) (fun r M1 K => jwa hC.2.2.2.2.2.2.2.2.2 K eW)) (fun h1 hD1 => ab_C_wk (ct_M_part2 l 14 nr h1 g rr hD1.1 h0.1 h0.2.2.1 hD1.2.2.1 (jK_M hD1) x y) (fun r M2 K => jma K (eM h1)))
set_option maxHeartbeats 1000000 in
theorem ja_value (nr : Nat) (h : Nat → Nat → Int32) (g : Nat → Nat → Int64) (rr : Nat → Option Nat) (T : Nat → Nat → Nat) (m i t : Nat) (Z : sp_G) (x y : Int32) : ∃ v o, jo7 o ∧ fx_W_value nr h g rr T m i t x y = (some v, ab_S nr (jX o 28 h) g rr) ∧ ∀ (h : Nat → Nat → Int32), fx_M_value h T m i t Z x y = (some v, jX o 31 h) := by
  by_cases c1 : (ab_bz (sp_cd x)) = 0
  · refine ⟨.int (-11 : Int32), (some 1), jo7s (by decide), ?_, fun h => ?_⟩
    · show fx_W_value nr h g rr T m i t x y = (some (.int (-11 : Int32)), ab_S nr (ab_u2 h 28 1 (h 28 1 + 1)) g rr)
      unfold fx_W_value
      rw [if_pos c1]
    · show fx_M_value h T m i t Z x y = (some (.int (-11 : Int32)), ab_u2 h 31 1 (h 31 1 + 1))
      unfold fx_M_value
      rw [if_pos c1]
  · by_cases c2 : y < 0
    · refine ⟨.int (-16 : Int32), (some 6), jo7s (by decide), ?_, fun h => ?_⟩
      · show fx_W_value nr h g rr T m i t x y = (some (.int (-16 : Int32)), ab_S nr (ab_u2 h 28 6 (h 28 6 + 1)) g rr)
        unfold fx_W_value
        rw [if_neg c1, if_pos c2]
      · show fx_M_value h T m i t Z x y = (some (.int (-16 : Int32)), ab_u2 h 31 6 (h 31 6 + 1))
        unfold fx_M_value
        rw [if_neg c1, if_pos c2]
    · by_cases c3 : y ≤ (3 : Int32)
      · refine ⟨.int (sp_vl T x.toNatClampNeg y.toNatClampNeg m i), none, jo7n, ?_, fun h => ?_⟩
        · show fx_W_value nr h g rr T m i t x y = (some (.int (sp_vl T x.toNatClampNeg y.toNatClampNeg m i)), ab_S nr h g rr)
          unfold fx_W_value
          rw [if_neg c1, if_neg c2, if_pos c3]
        · show fx_M_value h T m i t Z x y = (some (.int (sp_vl T x.toNatClampNeg y.toNatClampNeg m i)), h)
          unfold fx_M_value
          rw [if_neg c1, if_neg c2, if_pos c3]
      · refine ⟨.int (-16 : Int32), (some 6), jo7s (by decide), ?_, fun h => ?_⟩
        · show fx_W_value nr h g rr T m i t x y = (some (.int (-16 : Int32)), ab_S nr (ab_u2 h 28 6 (h 28 6 + 1)) g rr)
          unfold fx_W_value
          rw [if_neg c1, if_neg c2, if_neg c3]
        · show fx_M_value h T m i t Z x y = (some (.int (-16 : Int32)), ab_u2 h 31 6 (h 31 6 + 1))
          unfold fx_M_value
          rw [if_neg c1, if_neg c2, if_neg c3]
theorem js_value (l : Launch) {σ : jP} {q : Nat → Nat} {nr : Nat} {h : Nat → Nat → Int32} {g : Nat → Nat → Int64} {rr : Nat → Option Nat} (h0 : jok σ) (hC : jC σ q nr h g rr) (hD : jD σ h g) (x : Int32) (y : Int32) : ab_C l am_W_value 20 0 0 (.ref 0 :: [.int x, .int y]) (ab_S nr h g rr) (jN l am_M_value [.int x, .int y]) := by
  obtain ⟨v, o, ho, eW, eM⟩ := ja_value nr h g rr (jT σ) (jm σ) (ji σ) (jt σ) (jZ σ) x y
  exact jq h0 hC hD ho (ab_C_wk (ct_W_value l 8 nr h g rr hC.1 h0.1 h0.2.1.1 h0.2.1.2.1 h0.2.1.2.2.1 h0.2.1.2.2.2 hC.2.1 x y) (fun r M1 K => jwa hC.2.2.2.2.2.2.2.2.2 K eW)) (fun h1 hD1 => ab_C_wk (ct_M_value l 12 nr h1 g rr hD1.1 h0.1 h0.2.1.1 h0.2.1.2.1 h0.2.1.2.2.1 h0.2.1.2.2.2 hD1.2.1 h0.2.2.1 hD1.2.2.1 (jK_M hD1) x y) (fun r M2 K => jma K (eM h1)))
set_option maxHeartbeats 1000000 in
theorem ja_best (nr : Nat) (h : Nat → Nat → Int32) (g : Nat → Nat → Int64) (rr : Nat → Option Nat) (T : Nat → Nat → Nat) (m i t : Nat) (x y : Int32) : ∃ v o, jo7 o ∧ fx_W_best nr h g rr T m i t x y = (some v, ab_S nr (jX o 28 h) g rr) ∧ ∀ (h : Nat → Nat → Int32), fx_M_best h T m i t x y = (some v, jX o 31 h) := by
  by_cases c1 : (ab_bz (sp_cd x)) = 0
  · refine ⟨.int (-11 : Int32), (some 1), jo7s (by decide), ?_, fun h => ?_⟩
    · show fx_W_best nr h g rr T m i t x y = (some (.int (-11 : Int32)), ab_S nr (ab_u2 h 28 1 (h 28 1 + 1)) g rr)
      unfold fx_W_best
      rw [if_pos c1]
    · show fx_M_best h T m i t x y = (some (.int (-11 : Int32)), ab_u2 h 31 1 (h 31 1 + 1))
      unfold fx_M_best
      rw [if_pos c1]
  · by_cases c2 : y < (1 : Int32)
    · refine ⟨.int (-16 : Int32), (some 6), jo7s (by decide), ?_, fun h => ?_⟩
      · show fx_W_best nr h g rr T m i t x y = (some (.int (-16 : Int32)), ab_S nr (ab_u2 h 28 6 (h 28 6 + 1)) g rr)
        unfold fx_W_best
        rw [if_neg c1, if_pos c2]
      · show fx_M_best h T m i t x y = (some (.int (-16 : Int32)), ab_u2 h 31 6 (h 31 6 + 1))
        unfold fx_M_best
        rw [if_neg c1, if_pos c2]
    · by_cases c3 : y ≤ (3 : Int32)
      · refine ⟨.int (sp_bo T x.toNatClampNeg (y.toNatClampNeg - 1) m i), none, jo7n, ?_, fun h => ?_⟩
        · show fx_W_best nr h g rr T m i t x y = (some (.int (sp_bo T x.toNatClampNeg (y.toNatClampNeg - 1) m i)), ab_S nr h g rr)
          unfold fx_W_best
          rw [if_neg c1, if_neg c2, if_pos c3]
        · show fx_M_best h T m i t x y = (some (.int (sp_bo T x.toNatClampNeg (y.toNatClampNeg - 1) m i)), h)
          unfold fx_M_best
          rw [if_neg c1, if_neg c2, if_pos c3]
      · refine ⟨.int (-16 : Int32), (some 6), jo7s (by decide), ?_, fun h => ?_⟩
        · show fx_W_best nr h g rr T m i t x y = (some (.int (-16 : Int32)), ab_S nr (ab_u2 h 28 6 (h 28 6 + 1)) g rr)
          unfold fx_W_best
          rw [if_neg c1, if_neg c2, if_neg c3]
        · show fx_M_best h T m i t x y = (some (.int (-16 : Int32)), ab_u2 h 31 6 (h 31 6 + 1))
          unfold fx_M_best
          rw [if_neg c1, if_neg c2, if_neg c3]
theorem js_best (l : Launch) {σ : jP} {q : Nat → Nat} {nr : Nat} {h : Nat → Nat → Int32} {g : Nat → Nat → Int64} {rr : Nat → Option Nat} (h0 : jok σ) (hC : jC σ q nr h g rr) (hD : jD σ h g) (x : Int32) (y : Int32) : ab_C l am_W_best 20 0 0 (.ref 0 :: [.int x, .int y]) (ab_S nr h g rr) (jN l am_M_best [.int x, .int y]) := by
  obtain ⟨v, o, ho, eW, eM⟩ := ja_best nr h g rr (jT σ) (jm σ) (ji σ) (jt σ) x y
  exact jq h0 hC hD ho (ab_C_wk (ct_W_best l 9 nr h g rr hC.1 h0.1 h0.2.1.1 h0.2.1.2.1 h0.2.1.2.2.1 h0.2.1.2.2.2 hC.2.1 x y) (fun r M1 K => jwa hC.2.2.2.2.2.2.2.2.2 K eW)) (fun h1 hD1 => ab_C_wk (ct_M_best l 11 nr h1 g rr hD1.1 h0.1 h0.2.2.1 hD1.2.2.1 (jK_M hD1) h0.2.1.1 h0.2.1.2.1 h0.2.1.2.2.1 h0.2.1.2.2.2 hD1.2.1 x y) (fun r M2 K => jma K (eM h1)))
set_option maxHeartbeats 1000000 in
theorem ja_find (nr : Nat) (h : Nat → Nat → Int32) (g : Nat → Nat → Int64) (rr : Nat → Option Nat) (T : Nat → Nat → Nat) (Z : sp_G) : ∃ v o, jo7 o ∧ fx_W_find h T Z = (some v, jX o 28 h) ∧ ∀ (h : Nat → Nat → Int32), fx_M_find h T Z = (some v, jX o 31 h) := by
  by_cases c1 : (nI (sp_to (sp_ok1 T Z))) = 0
  · refine ⟨.int (-5 : Int32), (some 5), jo7s (by decide), ?_, fun h => ?_⟩
    · show fx_W_find h T Z = (some (.int (-5 : Int32)), ab_u2 h 28 5 (h 28 5 + 1))
      unfold fx_W_find
      rw [if_pos c1]
    · show fx_M_find h T Z = (some (.int (-5 : Int32)), ab_u2 h 31 5 (h 31 5 + 1))
      unfold fx_M_find
      rw [if_pos c1]
  · refine ⟨.int (nI (sp_fo (sp_ok1 T Z) 0)), none, jo7n, ?_, fun h => ?_⟩
    · show fx_W_find h T Z = (some (.int (nI (sp_fo (sp_ok1 T Z) 0))), h)
      unfold fx_W_find
      rw [if_neg c1]
    · show fx_M_find h T Z = (some (.int (nI (sp_fo (sp_ok1 T Z) 0))), h)
      unfold fx_M_find
      rw [if_neg c1]
theorem js_find (l : Launch) {σ : jP} {q : Nat → Nat} {nr : Nat} {h : Nat → Nat → Int32} {g : Nat → Nat → Int64} {rr : Nat → Option Nat} (h0 : jok σ) (hC : jC σ q nr h g rr) (hD : jD σ h g)  : ab_C l am_W_find 20 0 0 (.ref 0 :: []) (ab_S nr h g rr) (jN l am_M_find []) := by
  obtain ⟨v, o, ho, eW, eM⟩ := ja_find nr h g rr (jT σ) (jZ σ) 
  exact jq h0 hC hD ho (ab_C_wk (ct_W_find l 11 nr h g rr hC.1 h0.1 h0.2.2.1 hC.2.2.1 hC.2.2.2.2.2.2.2.2.2 ) (fun r M1 K => jwb hC.2.2.2.2.2.2.2.2.2 K eW)) (fun h1 hD1 => ab_C_wk (ct_M_find l 12 nr h1 g rr hD1.1 h0.1 h0.2.2.1 hD1.2.2.1 (jK_M hD1) ) (fun r M2 K => jma K (eM h1)))
set_option maxHeartbeats 1000000 in
theorem ja_fits (nr : Nat) (h : Nat → Nat → Int32) (g : Nat → Nat → Int64) (rr : Nat → Option Nat) (T : Nat → Nat → Nat) (Z : sp_G) : ∃ v o, jo7 o ∧ fx_W_fits h T Z = (some v, jX o 28 h) ∧ ∀ (h : Nat → Nat → Int32), fx_M_fits h T Z = (some v, jX o 31 h) := by
  refine ⟨.int (nI (sp_to (sp_ok1 T Z))), none, jo7n, ?_, fun h => ?_⟩
  · show fx_W_fits h T Z = (some (.int (nI (sp_to (sp_ok1 T Z)))), h)
    unfold fx_W_fits
    rfl
  · show fx_M_fits h T Z = (some (.int (nI (sp_to (sp_ok1 T Z)))), h)
    unfold fx_M_fits
    rfl
theorem js_fits (l : Launch) {σ : jP} {q : Nat → Nat} {nr : Nat} {h : Nat → Nat → Int32} {g : Nat → Nat → Int64} {rr : Nat → Option Nat} (h0 : jok σ) (hC : jC σ q nr h g rr) (hD : jD σ h g)  : ab_C l am_W_fits 20 0 0 (.ref 0 :: []) (ab_S nr h g rr) (jN l am_M_fits []) := by
  obtain ⟨v, o, ho, eW, eM⟩ := ja_fits nr h g rr (jT σ) (jZ σ) 
  exact jq h0 hC hD ho (ab_C_wk (ct_W_fits l 11 nr h g rr hC.1 h0.1 h0.2.2.1 hC.2.2.1 hC.2.2.2.2.2.2.2.2.2 ) (fun r M1 K => jwb hC.2.2.2.2.2.2.2.2.2 K eW)) (fun h1 hD1 => ab_C_wk (ct_M_fits l 12 nr h1 g rr hD1.1 h0.1 h0.2.2.1 hD1.2.2.1 (jK_M hD1) ) (fun r M2 K => jma K (eM h1)))
set_option maxHeartbeats 1000000 in
theorem ja_rivals (nr : Nat) (h : Nat → Nat → Int32) (g : Nat → Nat → Int64) (rr : Nat → Option Nat) (T : Nat → Nat → Nat) (Z : sp_G) (x : Int32) : ∃ v o, jo7 o ∧ fx_W_rivals h T Z x = (some v, jX o 28 h) ∧ ∀ (h : Nat → Nat → Int32), fx_M_rivals h T Z x = (some v, jX o 31 h) := by
  by_cases c1 : (ab_bz (sp_x9 x)) = 0
  · refine ⟨.int (-6 : Int32), (some 6), jo7s (by decide), ?_, fun h => ?_⟩
    · show fx_W_rivals h T Z x = (some (.int (-6 : Int32)), ab_u2 h 28 6 (h 28 6 + 1))
      unfold fx_W_rivals
      rw [if_pos c1]
    · show fx_M_rivals h T Z x = (some (.int (-6 : Int32)), ab_u2 h 31 6 (h 31 6 + 1))
      unfold fx_M_rivals
      rw [if_pos c1]
  · refine ⟨.int (nI (sp_rv (sp_ok1 T Z) x.toNatClampNeg)), none, jo7n, ?_, fun h => ?_⟩
    · show fx_W_rivals h T Z x = (some (.int (nI (sp_rv (sp_ok1 T Z) x.toNatClampNeg))), h)
      unfold fx_W_rivals
      rw [if_neg c1]
    · show fx_M_rivals h T Z x = (some (.int (nI (sp_rv (sp_ok1 T Z) x.toNatClampNeg))), h)
      unfold fx_M_rivals
      rw [if_neg c1]
theorem js_rivals (l : Launch) {σ : jP} {q : Nat → Nat} {nr : Nat} {h : Nat → Nat → Int32} {g : Nat → Nat → Int64} {rr : Nat → Option Nat} (h0 : jok σ) (hC : jC σ q nr h g rr) (hD : jD σ h g) (x : Int32) : ab_C l am_W_rivals 20 0 0 (.ref 0 :: [.int x]) (ab_S nr h g rr) (jN l am_M_rivals [.int x]) := by
  obtain ⟨v, o, ho, eW, eM⟩ := ja_rivals nr h g rr (jT σ) (jZ σ) x
  exact jq h0 hC hD ho (ab_C_wk (ct_W_rivals l 11 nr h g rr hC.1 h0.1 h0.2.2.1 hC.2.2.1 hC.2.2.2.2.2.2.2.2.2 x) (fun r M1 K => jwb hC.2.2.2.2.2.2.2.2.2 K eW)) (fun h1 hD1 => ab_C_wk (ct_M_rivals l 11 nr h1 g rr hD1.1 h0.1 h0.2.2.1 hD1.2.2.1 (jK_M hD1) x) (fun r M2 K => jma K (eM h1)))
set_option maxHeartbeats 1000000 in
theorem ja_rival (nr : Nat) (h : Nat → Nat → Int32) (g : Nat → Nat → Int64) (rr : Nat → Option Nat) (T : Nat → Nat → Nat) (Z : sp_G) (x y : Int32) : ∃ v o, jo7 o ∧ fx_W_rival h T Z x y = (some v, jX o 28 h) ∧ ∀ (h : Nat → Nat → Int32), fx_M_rival h T Z x y = (some v, jX o 31 h) := by
  by_cases c1 : (ab_bz (sp_x9 x)) = 0
  · refine ⟨.int (-5 : Int32), (some 5), jo7s (by decide), ?_, fun h => ?_⟩
    · show fx_W_rival h T Z x y = (some (.int (-5 : Int32)), ab_u2 h 28 5 (h 28 5 + 1))
      unfold fx_W_rival
      rw [if_pos c1]
    · show fx_M_rival h T Z x y = (some (.int (-5 : Int32)), ab_u2 h 31 5 (h 31 5 + 1))
      unfold fx_M_rival
      rw [if_pos c1]
  · by_cases c2 : y < 0
    · refine ⟨.int (-5 : Int32), (some 5), jo7s (by decide), ?_, fun h => ?_⟩
      · show fx_W_rival h T Z x y = (some (.int (-5 : Int32)), ab_u2 h 28 5 (h 28 5 + 1))
        unfold fx_W_rival
        rw [if_neg c1, if_pos c2]
      · show fx_M_rival h T Z x y = (some (.int (-5 : Int32)), ab_u2 h 31 5 (h 31 5 + 1))
        unfold fx_M_rival
        rw [if_neg c1, if_pos c2]
    · by_cases c3 : y < (nI (sp_rv (sp_ok1 T Z) x.toNatClampNeg))
      · refine ⟨.int (nI (sp_fo (sp_ok1 T Z) y.toNatClampNeg)), none, jo7n, ?_, fun h => ?_⟩
        · show fx_W_rival h T Z x y = (some (.int (nI (sp_fo (sp_ok1 T Z) y.toNatClampNeg))), h)
          unfold fx_W_rival
          rw [if_neg c1, if_neg c2, if_pos c3]
        · show fx_M_rival h T Z x y = (some (.int (nI (sp_fo (sp_ok1 T Z) y.toNatClampNeg))), h)
          unfold fx_M_rival
          rw [if_neg c1, if_neg c2, if_pos c3]
      · refine ⟨.int (-5 : Int32), (some 5), jo7s (by decide), ?_, fun h => ?_⟩
        · show fx_W_rival h T Z x y = (some (.int (-5 : Int32)), ab_u2 h 28 5 (h 28 5 + 1))
          unfold fx_W_rival
          rw [if_neg c1, if_neg c2, if_neg c3]
        · show fx_M_rival h T Z x y = (some (.int (-5 : Int32)), ab_u2 h 31 5 (h 31 5 + 1))
          unfold fx_M_rival
          rw [if_neg c1, if_neg c2, if_neg c3]
theorem js_rival (l : Launch) {σ : jP} {q : Nat → Nat} {nr : Nat} {h : Nat → Nat → Int32} {g : Nat → Nat → Int64} {rr : Nat → Option Nat} (h0 : jok σ) (hC : jC σ q nr h g rr) (hD : jD σ h g) (x : Int32) (y : Int32) : ab_C l am_W_rival 20 0 0 (.ref 0 :: [.int x, .int y]) (ab_S nr h g rr) (jN l am_M_rival [.int x, .int y]) := by
  obtain ⟨v, o, ho, eW, eM⟩ := ja_rival nr h g rr (jT σ) (jZ σ) x y
  exact jq h0 hC hD ho (ab_C_wk (ct_W_rival l 11 nr h g rr hC.1 h0.1 h0.2.2.1 hC.2.2.1 hC.2.2.2.2.2.2.2.2.2 x y) (fun r M1 K => jwb hC.2.2.2.2.2.2.2.2.2 K eW)) (fun h1 hD1 => ab_C_wk (ct_M_rival l 11 nr h1 g rr hD1.1 h0.1 h0.2.2.1 hD1.2.2.1 (jK_M hD1) x y) (fun r M2 K => jma K (eM h1)))
theorem ja_rv9 (f : Nat → Bool) : nI (sp_rv f 9) = 0 ↔ nI (sp_to f) = 0 := by
  have h1 := sp_to_lt (f := f)
  have h2 := sp_rv_le f 9
  rw [show (0 : Int32) = nI 0 from rfl, ab_inj (by omega) (by decide), ab_inj (by omega) (by decide)]
  constructor
  · intro h
    by_cases e : sp_to f = 0
    · exact e
    · have := sp_rv_pos e 9
      omega
  · intro h
    omega
set_option maxHeartbeats 1000000 in
theorem ja_tight (nr : Nat) (h : Nat → Nat → Int32) (g : Nat → Nat → Int64) (rr : Nat → Option Nat) (T : Nat → Nat → Nat) (Z : sp_G) : ∃ v o, jo7 o ∧ fx_W_tight h T Z = (some v, jX o 28 h) ∧ ∀ (h : Nat → Nat → Int32), fx_M_tight h T Z = (some v, jX o 31 h) := by
  by_cases c1 : (nI (sp_to (sp_ok1 T Z))) = 0
  · refine ⟨.int (-5 : Int32), (some 5), jo7s (by decide), ?_, fun h => ?_⟩
    · show fx_W_tight h T Z = (some (.int (-5 : Int32)), ab_u2 h 28 5 (h 28 5 + 1))
      unfold fx_W_tight
      rw [if_pos c1]
    · show fx_M_tight h T Z = (some (.int (-5 : Int32)), ab_u2 h 31 5 (h 31 5 + 1))
      unfold fx_M_tight
      rw [if_pos ((ja_rv9 _).mpr c1)]
  · refine ⟨.int (nI (sp_ti T Z)), none, jo7n, ?_, fun h => ?_⟩
    · show fx_W_tight h T Z = (some (.int (nI (sp_ti T Z))), h)
      unfold fx_W_tight
      rw [if_neg c1]
    · show fx_M_tight h T Z = (some (.int (nI (sp_ti T Z))), h)
      unfold fx_M_tight
      rw [if_neg (fun z => c1 ((ja_rv9 _).mp z))]
theorem js_tight (l : Launch) {σ : jP} {q : Nat → Nat} {nr : Nat} {h : Nat → Nat → Int32} {g : Nat → Nat → Int64} {rr : Nat → Option Nat} (h0 : jok σ) (hC : jC σ q nr h g rr) (hD : jD σ h g)  : ab_C l am_W_tight 20 0 0 (.ref 0 :: []) (ab_S nr h g rr) (jN l am_M_tight []) := by
  obtain ⟨v, o, ho, eW, eM⟩ := ja_tight nr h g rr (jT σ) (jZ σ) 
  exact jq h0 hC hD ho (ab_C_wk (ct_W_tight l 11 nr h g rr hC.1 h0.1 h0.2.2.1 hC.2.2.1 hC.2.2.2.2.2.2.2.2.2 ) (fun r M1 K => jwb hC.2.2.2.2.2.2.2.2.2 K eW)) (fun h1 hD1 => ab_C_wk (ct_M_tight l 11 nr h1 g rr hD1.1 h0.1 h0.2.2.1 hD1.2.2.1 (jK_M hD1) ) (fun r M2 K => jma K (eM h1)))
set_option maxHeartbeats 1000000 in
theorem ja_ask (nr : Nat) (h : Nat → Nat → Int32) (g : Nat → Nat → Int64) (rr : Nat → Option Nat) (T : Nat → Nat → Nat) (m i t : Nat) (Z : sp_G) (x : Int32) : ∃ v o, jo7 o ∧ fx_W_ask h T m i t Z x = (some v, jX o 28 h) ∧ ∀ (h : Nat → Nat → Int32), fx_M_ask h T m i t Z x = (some v, jX o 31 h) := by
  by_cases c1 : (ab_bz (sp_x9 x)) = 0
  · refine ⟨.int (-16 : Int32), (some 6), jo7s (by decide), ?_, fun h => ?_⟩
    · show fx_W_ask h T m i t Z x = (some (.int (-16 : Int32)), ab_u2 h 28 6 (h 28 6 + 1))
      unfold fx_W_ask
      rw [if_pos c1]
    · show fx_M_ask h T m i t Z x = (some (.int (-16 : Int32)), ab_u2 h 31 6 (h 31 6 + 1))
      unfold fx_M_ask
      rw [if_pos c1]
  · refine ⟨.int ((sp_as (sp_vt T (sp_ok1 T Z) m i (sp_rv (sp_ok1 T Z) x.toNatClampNeg)) (sp_rv (sp_ok1 T Z) x.toNatClampNeg) 256).2), none, jo7n, ?_, fun h => ?_⟩
    · show fx_W_ask h T m i t Z x = (some (.int ((sp_as (sp_vt T (sp_ok1 T Z) m i (sp_rv (sp_ok1 T Z) x.toNatClampNeg)) (sp_rv (sp_ok1 T Z) x.toNatClampNeg) 256).2)), h)
      unfold fx_W_ask
      rw [if_neg c1]
    · show fx_M_ask h T m i t Z x = (some (.int ((sp_as (sp_vt T (sp_ok1 T Z) m i (sp_rv (sp_ok1 T Z) x.toNatClampNeg)) (sp_rv (sp_ok1 T Z) x.toNatClampNeg) 256).2)), h)
      unfold fx_M_ask
      rw [if_neg c1]
theorem js_ask (l : Launch) {σ : jP} {q : Nat → Nat} {nr : Nat} {h : Nat → Nat → Int32} {g : Nat → Nat → Int64} {rr : Nat → Option Nat} (h0 : jok σ) (hC : jC σ q nr h g rr) (hD : jD σ h g) (x : Int32) : ab_C l am_W_ask 20 0 0 (.ref 0 :: [.int x]) (ab_S nr h g rr) (jN l am_M_ask [.int x]) := by
  obtain ⟨v, o, ho, eW, eM⟩ := ja_ask nr h g rr (jT σ) (jm σ) (ji σ) (jt σ) (jZ σ) x
  exact jq h0 hC hD ho (ab_C_wk (ct_W_ask l 11 nr h g rr hC.1 h0.1 h0.2.1.1 h0.2.1.2.1 h0.2.1.2.2.1 h0.2.1.2.2.2 hC.2.1 h0.2.2.1 hC.2.2.1 hC.2.2.2.2.2.2.2.2.2 x) (fun r M1 K => jwb hC.2.2.2.2.2.2.2.2.2 K eW)) (fun h1 hD1 => ab_C_wk (ct_M_ask l 9 nr h1 g rr hD1.1 h0.1 h0.2.1.1 h0.2.1.2.1 h0.2.1.2.2.1 h0.2.1.2.2.2 hD1.2.1 h0.2.2.1 hD1.2.2.1 (jK_M hD1) x) (fun r M2 K => jma K (eM h1)))
set_option maxHeartbeats 1000000 in
theorem ja_left (nr : Nat) (h : Nat → Nat → Int32) (g : Nat → Nat → Int64) (rr : Nat → Option Nat) (T : Nat → Nat → Nat) (m i t : Nat) (Z : sp_G) (x : Int32) : ∃ v o, jo7 o ∧ fx_W_left h T m i t Z x = (some v, jX o 28 h) ∧ ∀ (h : Nat → Nat → Int32), fx_M_left h T m i t Z x = (some v, jX o 31 h) := by
  by_cases c1 : (ab_bz (sp_x9 x)) = 0
  · refine ⟨.int (-6 : Int32), (some 6), jo7s (by decide), ?_, fun h => ?_⟩
    · show fx_W_left h T m i t Z x = (some (.int (-6 : Int32)), ab_u2 h 28 6 (h 28 6 + 1))
      unfold fx_W_left
      rw [if_pos c1]
    · show fx_M_left h T m i t Z x = (some (.int (-6 : Int32)), ab_u2 h 31 6 (h 31 6 + 1))
      unfold fx_M_left
      rw [if_pos c1]
  · refine ⟨.int (if (sp_as (sp_vt T (sp_ok1 T Z) m i (sp_rv (sp_ok1 T Z) x.toNatClampNeg)) (sp_rv (sp_ok1 T Z) x.toNatClampNeg) 256).2 = -1 then 0 else nI (sp_as (sp_vt T (sp_ok1 T Z) m i (sp_rv (sp_ok1 T Z) x.toNatClampNeg)) (sp_rv (sp_ok1 T Z) x.toNatClampNeg) 256).1), none, jo7n, ?_, fun h => ?_⟩
    · show fx_W_left h T m i t Z x = (some (.int (if (sp_as (sp_vt T (sp_ok1 T Z) m i (sp_rv (sp_ok1 T Z) x.toNatClampNeg)) (sp_rv (sp_ok1 T Z) x.toNatClampNeg) 256).2 = -1 then 0 else nI (sp_as (sp_vt T (sp_ok1 T Z) m i (sp_rv (sp_ok1 T Z) x.toNatClampNeg)) (sp_rv (sp_ok1 T Z) x.toNatClampNeg) 256).1)), h)
      unfold fx_W_left
      rw [if_neg c1]
    · show fx_M_left h T m i t Z x = (some (.int (if (sp_as (sp_vt T (sp_ok1 T Z) m i (sp_rv (sp_ok1 T Z) x.toNatClampNeg)) (sp_rv (sp_ok1 T Z) x.toNatClampNeg) 256).2 = -1 then 0 else nI (sp_as (sp_vt T (sp_ok1 T Z) m i (sp_rv (sp_ok1 T Z) x.toNatClampNeg)) (sp_rv (sp_ok1 T Z) x.toNatClampNeg) 256).1)), h)
      unfold fx_M_left
      rw [if_neg c1]
      rfl
theorem js_left (l : Launch) {σ : jP} {q : Nat → Nat} {nr : Nat} {h : Nat → Nat → Int32} {g : Nat → Nat → Int64} {rr : Nat → Option Nat} (h0 : jok σ) (hC : jC σ q nr h g rr) (hD : jD σ h g) (x : Int32) : ab_C l am_W_left 20 0 0 (.ref 0 :: [.int x]) (ab_S nr h g rr) (jN l am_M_left [.int x]) := by
  obtain ⟨v, o, ho, eW, eM⟩ := ja_left nr h g rr (jT σ) (jm σ) (ji σ) (jt σ) (jZ σ) x
  exact jq h0 hC hD ho (ab_C_wk (ct_W_left l 11 nr h g rr hC.1 h0.1 h0.2.1.1 h0.2.1.2.1 h0.2.1.2.2.1 h0.2.1.2.2.2 hC.2.1 h0.2.2.1 hC.2.2.1 hC.2.2.2.2.2.2.2.2.2 x) (fun r M1 K => jwb hC.2.2.2.2.2.2.2.2.2 K eW)) (fun h1 hD1 => ab_C_wk (ct_M_left l 9 nr h1 g rr hD1.1 h0.1 h0.2.2.1 hD1.2.2.1 (jK_M hD1) h0.2.1.1 h0.2.1.2.1 h0.2.1.2.2.1 hD1.2.1 x) (fun r M2 K => jma K (eM h1)))
theorem ja_over (nr : Nat) (h : Nat → Nat → Int32) (g : Nat → Nat → Int64) (rr : Nat → Option Nat) (T : Nat → Nat → Nat) (m i t : Nat) (x : Int32) : ∃ v o, jo7 o ∧ fx_W_over nr h g rr T m i t x = (some v, ab_S nr (jX o 28 h) g rr) ∧ ∀ (h : Nat → Nat → Int32), fx_M_over h T m i t x = (some v, jX o 31 h) := by
  by_cases c1 : ab_bz (sp_cd x) = 0
  · refine ⟨.int (-11 : Int32), some 1, jo7s (by decide), ?_, fun h => ?_⟩
    · show fx_W_over nr h g rr T m i t x = (some (.int (-11 : Int32)), ab_S nr (ab_u2 h 28 1 (h 28 1 + 1)) g rr)
      unfold fx_W_over
      rw [if_pos c1]
    · show fx_M_over h T m i t x = (some (.int (-11 : Int32)), ab_u2 h 31 1 (h 31 1 + 1))
      unfold fx_M_over
      rw [if_pos c1]
  · refine ⟨.int (sp_wn T x.toNatClampNeg m i t), none, jo7n, ?_, fun h => ?_⟩
    · show fx_W_over nr h g rr T m i t x = (some (.int (sp_wn T x.toNatClampNeg m i t)), ab_S nr h g rr)
      unfold fx_W_over
      rw [if_neg c1]
    · show fx_M_over h T m i t x = (some (.int (sp_wn T x.toNatClampNeg m i t)), h)
      unfold fx_M_over sp_wn
      rw [if_neg c1]
      cases e : sp_ov T x.toNatClampNeg m i with
      | false => rw [if_pos (show ab_bz false = 0 from rfl), if_neg (by decide)]
      | true => rw [if_neg (show ¬ ab_bz true = 0 by decide), if_pos rfl]
theorem js_over (l : Launch) {σ : jP} {q : Nat → Nat} {nr : Nat} {h : Nat → Nat → Int32} {g : Nat → Nat → Int64} {rr : Nat → Option Nat} (h0 : jok σ) (hC : jC σ q nr h g rr) (hD : jD σ h g) (x : Int32) : ab_C l am_W_over 20 0 0 (.ref 0 :: [.int x]) (ab_S nr h g rr) (jN l am_M_over [.int x]) := by
  obtain ⟨v, o, ho, eW, eM⟩ := ja_over nr h g rr (jT σ) (jm σ) (ji σ) (jt σ) x
  exact jq h0 hC hD ho (ab_C_wk (ct_W_over l 15 nr h g rr hC.1 h0.1 h0.2.1.1 h0.2.1.2.1 h0.2.1.2.2.1 h0.2.1.2.2.2 hC.2.1 x) (fun r M1 K => jwa hC.2.2.2.2.2.2.2.2.2 K eW)) (fun h1 hD1 => ab_C_wk (ct_M_over l 16 nr h1 g rr hD1.1 h0.1 h0.2.1.1 h0.2.1.2.1 h0.2.1.2.2.1 h0.2.1.2.2.2 hD1.2.1 (jK_M hD1) x) (fun r M2 K => jma K (eM h1)))
set_option maxHeartbeats 1000000 in
theorem ja_moves (nr : Nat) (h : Nat → Nat → Int32) (g : Nat → Nat → Int64) (rr : Nat → Option Nat) (T : Nat → Nat → Nat) (m i t : Nat) (x : Int32) : ∃ v o, jo7 o ∧ fx_W_moves nr h g rr T m i t x = (some v, ab_S nr (jX o 28 h) g rr) ∧ ∀ (h : Nat → Nat → Int32), fx_M_moves h T m i t x = (some v, jX o 31 h) := by
  by_cases c1 : (ab_bz (sp_cd x)) = 0
  · refine ⟨.int (-1 : Int32), (some 1), jo7s (by decide), ?_, fun h => ?_⟩
    · show fx_W_moves nr h g rr T m i t x = (some (.int (-1 : Int32)), ab_S nr (ab_u2 h 28 1 (h 28 1 + 1)) g rr)
      unfold fx_W_moves
      rw [if_pos c1]
    · show fx_M_moves h T m i t x = (some (.int (-1 : Int32)), ab_u2 h 31 1 (h 31 1 + 1))
      unfold fx_M_moves
      rw [if_pos c1]
  · refine ⟨.int (nI (sp_sum (fun p => sp_cn (sp_tg T (sp_lv T x.toNatClampNeg m i) m i p)) 16)), none, jo7n, ?_, fun h => ?_⟩
    · show fx_W_moves nr h g rr T m i t x = (some (.int (nI (sp_sum (fun p => sp_cn (sp_tg T (sp_lv T x.toNatClampNeg m i) m i p)) 16))), ab_S nr h g rr)
      unfold fx_W_moves
      rw [if_neg c1]
    · show fx_M_moves h T m i t x = (some (.int (nI (sp_sum (fun p => sp_cn (sp_tg T (sp_lv T x.toNatClampNeg m i) m i p)) 16))), h)
      unfold fx_M_moves
      rw [if_neg c1]
      rw [md_ml_len]
theorem js_moves (l : Launch) {σ : jP} {q : Nat → Nat} {nr : Nat} {h : Nat → Nat → Int32} {g : Nat → Nat → Int64} {rr : Nat → Option Nat} (h0 : jok σ) (hC : jC σ q nr h g rr) (hD : jD σ h g) (x : Int32) : ab_C l am_W_moves 20 0 0 (.ref 0 :: [.int x]) (ab_S nr h g rr) (jN l am_M_moves [.int x]) := by
  obtain ⟨v, o, ho, eW, eM⟩ := ja_moves nr h g rr (jT σ) (jm σ) (ji σ) (jt σ) x
  exact jq h0 hC hD ho (ab_C_wk (ct_W_moves l 16 nr h g rr hC.1 h0.1 h0.2.1.1 h0.2.1.2.1 h0.2.1.2.2.1 h0.2.1.2.2.2 hC.2.1 x) (fun r M1 K => jwa hC.2.2.2.2.2.2.2.2.2 K eW)) (fun h1 hD1 => ab_C_wk (ct_M_moves l 16 nr h1 g rr hD1.1 h0.1 h0.2.1.1 h0.2.1.2.1 h0.2.1.2.2.1 h0.2.1.2.2.2 hD1.2.1 (jK_M hD1) x) (fun r M2 K => jma K (eM h1)))
theorem ja_lt0 {y : Int32} (h : y < 0) (j : Nat) (hj : j < 2 ^ 31) : ¬ nI (0 + j) = y := fun z => by
  rw [Nat.zero_add] at z
  rw [← z] at h
  exact absurd ((ab_lt hj (b := 0) (by decide)).mp h) (Nat.not_lt_zero _)
theorem ja_move (nr : Nat) (h : Nat → Nat → Int32) (g : Nat → Nat → Int64) (rr : Nat → Option Nat) (T : Nat → Nat → Nat) (m i t : Nat) (x y : Int32) : ∃ v o, jo7 o ∧ fx_W_move nr h g rr T m i t x y = (some v, ab_S nr (jX o 28 h) g rr) ∧ ∀ (h : Nat → Nat → Int32), fx_M_move h T m i t x y = (some v, jX o 31 h) := by
  by_cases c1 : ab_bz (sp_cd x) = 0
  · refine ⟨.int (-5 : Int32), some 5, jo7s (by decide), ?_, fun h => ?_⟩
    · show fx_W_move nr h g rr T m i t x y = (some (.int (-5 : Int32)), ab_S nr (ab_u2 h 28 5 (h 28 5 + 1)) g rr)
      unfold fx_W_move
      rw [if_pos c1]
    · show fx_M_move h T m i t x y = (some (.int (-5 : Int32)), ab_u2 h 31 5 (h 31 5 + 1))
      unfold fx_M_move
      rw [if_pos c1]
  · have hle := md_ml_le T (sp_lv T x.toNatClampNeg m i) m i
    have hml := fun a => sp_ml_lt (T := T) (v := sp_lv T x.toNatClampNeg m i) (m := m) (i := i) (a := a)
    have key : ∀ l : List Nat, sp_ml T (sp_lv T x.toNatClampNeg m i) m i = l → l.length ≤ 144 → (∀ a, a ∈ l → a < 2 ^ 31) → ∃ v o, jo7 o ∧ fx_W_move nr h g rr T m i t x y = (some v, ab_S nr (jX o 28 h) g rr) ∧ ∀ (h : Nat → Nat → Int32), fx_M_move h T m i t x y = (some v, jX o 31 h) := by
      intro l hl hle hml
      by_cases c3 : ¬ y < 0 ∧ y < nI l.length
      · obtain ⟨k, hk, rfl⟩ := sp_bt_n (by omega) c3.1 c3.2
        have e := sp_fd_y l 0 k hk (by omega)
        rw [Nat.zero_add] at e
        have hne : ¬ nI (l.getD k 0) = -1 := sp_nI_ne (by rw [← md_getD hk]; exact hml _ (List.getElem_mem hk))
        refine ⟨.int (nI (l.getD k 0)), none, jo7n, ?_, fun h => ?_⟩
        · show fx_W_move nr h g rr T m i t x (nI k) = (some (.int (nI (l.getD k 0))), ab_S nr h g rr)
          unfold fx_W_move
          rw [if_neg c1, hl, e, if_neg hne]
        · show fx_M_move h T m i t x (nI k) = (some (.int (nI (l.getD k 0))), h)
          unfold fx_M_move
          rw [if_neg c1, if_neg c3.1, hl, if_pos c3.2, ab_tn (show k < 2 ^ 31 by omega)]
      · have e : sp_fd y l 0 = -1 := sp_fd_n y l 0 (fun j hj => by
          by_cases c4 : y < 0
          · exact ja_lt0 c4 j (by omega)
          · intro z
            rw [Nat.zero_add] at z
            exact c3 ⟨c4, by rw [← z]; exact (ab_lt (by omega) (by omega)).mpr hj⟩)
        refine ⟨.int (-5 : Int32), some 5, jo7s (by decide), ?_, fun h => ?_⟩
        · show fx_W_move nr h g rr T m i t x y = (some (.int (-5 : Int32)), ab_S nr (ab_u2 h 28 5 (h 28 5 + 1)) g rr)
          unfold fx_W_move
          rw [if_neg c1, hl, e, if_pos rfl]
        · show fx_M_move h T m i t x y = (some (.int (-5 : Int32)), ab_u2 h 31 5 (h 31 5 + 1))
          unfold fx_M_move
          rw [if_neg c1, hl]
          by_cases c4 : y < 0
          · rw [if_pos c4]
          · rw [if_neg c4, if_neg (fun z => c3 ⟨c4, z⟩)]
    exact key _ rfl hle hml
theorem ja_nd {p : Prop} [Decidable p] (h : ¬ ab_bz (decide p) = 0) : p := Decidable.not_not.mp (fun z => h (ja_dec.mpr z))
theorem ja_sv {f : Nat → Bool} {v k : Nat} (h1 : ¬ nI (sp_to f) = 0) (h2 : nI v = 0) (h3 : nI v = nI (sp_rv f k)) : False := by
  have a := sp_to_lt (f := f)
  have b := sp_rv_le f k
  have c := sp_rv_pos (f := f) (fun z => h1 (by rw [z]; rfl)) k
  rw [h3] at h2
  exact absurd ((ab_inj (b := 0) (by omega) (by decide)).mp h2) (by omega)
theorem js_move (l : Launch) {σ : jP} {q : Nat → Nat} {nr : Nat} {h : Nat → Nat → Int32} {g : Nat → Nat → Int64} {rr : Nat → Option Nat} (h0 : jok σ) (hC : jC σ q nr h g rr) (hD : jD σ h g) (x : Int32) (y : Int32) : ab_C l am_W_move 20 0 0 (.ref 0 :: [.int x, .int y]) (ab_S nr h g rr) (jN l am_M_move [.int x, .int y]) := by
  obtain ⟨v, o, ho, eW, eM⟩ := ja_move nr h g rr (jT σ) (jm σ) (ji σ) (jt σ) x y
  exact jq h0 hC hD ho (ab_C_wk (ct_W_move l 16 nr h g rr hC.1 h0.1 h0.2.1.1 h0.2.1.2.1 h0.2.1.2.2.1 h0.2.1.2.2.2 hC.2.1 x y) (fun r M1 K => jwa hC.2.2.2.2.2.2.2.2.2 K eW)) (fun h1 hD1 => ab_C_wk (ct_M_move l 16 nr h1 g rr hD1.1 h0.1 h0.2.1.1 h0.2.1.2.1 h0.2.1.2.2.1 h0.2.1.2.2.2 hD1.2.1 (jK_M hD1) x y) (fun r M2 K => jma K (eM h1)))
set_option maxHeartbeats 1000000 in
theorem ja_sure (nr : Nat) (h : Nat → Nat → Int32) (g : Nat → Nat → Int64) (rr : Nat → Option Nat) (T : Nat → Nat → Nat) (m i t : Nat) (Z : sp_G) (x y : Int32) : ∃ v o, jo7 o ∧ fx_W_sure h T m i t Z x y = (some v, jX o 28 h) ∧ ∀ (h : Nat → Nat → Int32), fx_M_sure h T m i t Z x y = (some v, jX o 31 h) := by
  by_cases c1 : (nI (sp_to (sp_ok1 T Z))) = 0
  · refine ⟨.int (-5 : Int32), (some 5), jo7s (by decide), ?_, fun h => ?_⟩
    · show fx_W_sure h T m i t Z x y = (some (.int (-5 : Int32)), ab_u2 h 28 5 (h 28 5 + 1))
      unfold fx_W_sure
      rw [if_pos c1]
    · show fx_M_sure h T m i t Z x y = (some (.int (-5 : Int32)), ab_u2 h 31 5 (h 31 5 + 1))
      unfold fx_M_sure
      rw [if_pos c1]
  · by_cases c2 : (ab_bz (sp_x9 y)) = 0
    · refine ⟨.int (-6 : Int32), (some 6), jo7s (by decide), ?_, fun h => ?_⟩
      · show fx_W_sure h T m i t Z x y = (some (.int (-6 : Int32)), ab_u2 h 28 6 (h 28 6 + 1))
        unfold fx_W_sure
        rw [if_neg c1, if_pos c2]
      · show fx_M_sure h T m i t Z x y = (some (.int (-6 : Int32)), ab_u2 h 31 6 (h 31 6 + 1))
        unfold fx_M_sure
        rw [if_neg c1, if_pos c2]
    · by_cases c3 : (ab_bz (sp_im x)) = 0
      · refine ⟨.int (-6 : Int32), (some 6), jo7s (by decide), ?_, fun h => ?_⟩
        · show fx_W_sure h T m i t Z x y = (some (.int (-6 : Int32)), ab_u2 h 28 6 (h 28 6 + 1))
          unfold fx_W_sure
          rw [if_neg c1, if_neg c2, if_pos c3]
        · show fx_M_sure h T m i t Z x y = (some (.int (-6 : Int32)), ab_u2 h 31 6 (h 31 6 + 1))
          unfold fx_M_sure
          rw [if_neg c1, if_neg c2, if_pos c3]
      · by_cases c4 : (nI (sp_vt T (sp_ok1 T Z) m i (sp_rv (sp_ok1 T Z) y.toNatClampNeg) x.toNatClampNeg)) = 0
        · by_cases d5 : (nI (sp_vt T (sp_ok1 T Z) m i (sp_rv (sp_ok1 T Z) y.toNatClampNeg) x.toNatClampNeg)) = (nI (sp_rv (sp_ok1 T Z) y.toNatClampNeg))
          · exact absurd d5 (fun z => ja_sv c1 c4 z)
          · refine ⟨.int (0 : Int32), none, jo7n, ?_, fun h => ?_⟩
            · show fx_W_sure h T m i t Z x y = (some (.int (0 : Int32)), h)
              unfold fx_W_sure
              rw [if_neg c1, if_neg c2, if_neg c3, if_pos c4]
            · show fx_M_sure h T m i t Z x y = (some (.int (0 : Int32)), h)
              unfold fx_M_sure
              rw [if_neg c1, if_neg c2, if_neg c3, if_neg d5, if_pos c4]
        · by_cases c6 : (nI (sp_vt T (sp_ok1 T Z) m i (sp_rv (sp_ok1 T Z) y.toNatClampNeg) x.toNatClampNeg)) = (nI (sp_rv (sp_ok1 T Z) y.toNatClampNeg))
          · refine ⟨.int (1 : Int32), none, jo7n, ?_, fun h => ?_⟩
            · show fx_W_sure h T m i t Z x y = (some (.int (1 : Int32)), h)
              unfold fx_W_sure
              rw [if_neg c1, if_neg c2, if_neg c3, if_neg c4, if_pos c6]
            · show fx_M_sure h T m i t Z x y = (some (.int (1 : Int32)), h)
              unfold fx_M_sure
              rw [if_neg c1, if_neg c2, if_neg c3, if_pos c6]
          · refine ⟨.int (2 : Int32), none, jo7n, ?_, fun h => ?_⟩
            · show fx_W_sure h T m i t Z x y = (some (.int (2 : Int32)), h)
              unfold fx_W_sure
              rw [if_neg c1, if_neg c2, if_neg c3, if_neg c4, if_neg c6]
            · show fx_M_sure h T m i t Z x y = (some (.int (2 : Int32)), h)
              unfold fx_M_sure
              rw [if_neg c1, if_neg c2, if_neg c3, if_neg c6, if_neg c4]
theorem js_sure (l : Launch) {σ : jP} {q : Nat → Nat} {nr : Nat} {h : Nat → Nat → Int32} {g : Nat → Nat → Int64} {rr : Nat → Option Nat} (h0 : jok σ) (hC : jC σ q nr h g rr) (hD : jD σ h g) (x : Int32) (y : Int32) : ab_C l am_W_sure 20 0 0 (.ref 0 :: [.int x, .int y]) (ab_S nr h g rr) (jN l am_M_sure [.int x, .int y]) := by
  obtain ⟨v, o, ho, eW, eM⟩ := ja_sure nr h g rr (jT σ) (jm σ) (ji σ) (jt σ) (jZ σ) x y
  exact jq h0 hC hD ho (ab_C_wk (ct_W_sure l 11 nr h g rr hC.1 h0.1 h0.2.1.1 h0.2.1.2.1 h0.2.1.2.2.1 h0.2.1.2.2.2 hC.2.1 h0.2.2.1 hC.2.2.1 hC.2.2.2.2.2.2.2.2.2 x y) (fun r M1 K => jwb hC.2.2.2.2.2.2.2.2.2 K eW)) (fun h1 hD1 => ab_C_wk (ct_M_sure l 10 nr h1 g rr hD1.1 h0.1 h0.2.1.1 h0.2.1.2.1 h0.2.1.2.2.1 h0.2.1.2.2.2 hD1.2.1 h0.2.2.1 hD1.2.2.1 (jK_M hD1) x y) (fun r M2 K => jma K (eM h1)))
set_option maxHeartbeats 1000000 in
theorem ja_cheat (nr : Nat) (h : Nat → Nat → Int32) (g : Nat → Nat → Int64) (rr : Nat → Option Nat) (T : Nat → Nat → Nat) (Z : sp_G) (hZ : gm_ok Z) (x y : Int32) : ∃ v o, jo7 o ∧ fx_W_cheat h T Z x y = (some v, jX o 28 h) ∧ ∀ (h : Nat → Nat → Int32), fx_M_cheat h T Z x y = (some v, jX o 31 h) := by
  by_cases c1 : x < (1 : Int32)
  · refine ⟨.int (-6 : Int32), (some 6), jo7s (by decide), ?_, fun h => ?_⟩
    · show fx_W_cheat h T Z x y = (some (.int (-6 : Int32)), ab_u2 h 28 6 (h 28 6 + 1))
      unfold fx_W_cheat
      rw [if_pos c1]
    · show fx_M_cheat h T Z x y = (some (.int (-6 : Int32)), ab_u2 h 31 6 (h 31 6 + 1))
      unfold fx_M_cheat
      rw [if_pos c1]
  · by_cases c2 : (25 : Int32) < x
    · refine ⟨.int (-6 : Int32), (some 6), jo7s (by decide), ?_, fun h => ?_⟩
      · show fx_W_cheat h T Z x y = (some (.int (-6 : Int32)), ab_u2 h 28 6 (h 28 6 + 1))
        unfold fx_W_cheat
        rw [if_neg c1, if_pos c2]
      · show fx_M_cheat h T Z x y = (some (.int (-6 : Int32)), ab_u2 h 31 6 (h 31 6 + 1))
        unfold fx_M_cheat
        rw [if_neg c1, if_pos c2]
    · by_cases c3 : y < 0
      · refine ⟨.int (-6 : Int32), (some 6), jo7s (by decide), ?_, fun h => ?_⟩
        · show fx_W_cheat h T Z x y = (some (.int (-6 : Int32)), ab_u2 h 28 6 (h 28 6 + 1))
          unfold fx_W_cheat
          rw [if_neg c1, if_neg c2, if_pos c3]
        · show fx_M_cheat h T Z x y = (some (.int (-6 : Int32)), ab_u2 h 31 6 (h 31 6 + 1))
          unfold fx_M_cheat
          rw [if_neg c1, if_neg c2, if_pos c3]
      · by_cases c4 : y ≤ (1 : Int32)
        · by_cases c5 : y = 0
          · refine ⟨.int (nI (if sp_fy T (sp_ch sp_pr (fun c => sp_fy T c Z) x.toNatClampNeg 4096).2 Z < 2147483647 then sp_fy T (sp_ch sp_pr (fun c => sp_fy T c Z) x.toNatClampNeg 4096).2 Z else 2147483647)), none, jo7n, ?_, fun h => ?_⟩
            · show fx_W_cheat h T Z x y = (some (.int (nI (if sp_fy T (sp_ch sp_pr (fun c => sp_fy T c Z) x.toNatClampNeg 4096).2 Z < 2147483647 then sp_fy T (sp_ch sp_pr (fun c => sp_fy T c Z) x.toNatClampNeg 4096).2 Z else 2147483647))), h)
              unfold fx_W_cheat
              rw [if_neg c1, if_neg c2, if_neg c3, if_pos c4, if_pos c5]
            · show fx_M_cheat h T Z x y = (some (.int (nI (if sp_fy T (sp_ch sp_pr (fun c => sp_fy T c Z) x.toNatClampNeg 4096).2 Z < 2147483647 then sp_fy T (sp_ch sp_pr (fun c => sp_fy T c Z) x.toNatClampNeg 4096).2 Z else 2147483647))), h)
              unfold fx_M_cheat
              rw [if_neg c1, if_neg c2, if_neg c3, if_pos c4, if_pos c5]
              rw [if_pos (Nat.lt_of_le_of_lt (sp_fy_le hZ) (by decide))]
          · refine ⟨.int (nI (sp_ch sp_pr (fun c => sp_fy T c Z) x.toNatClampNeg 4096).2), none, jo7n, ?_, fun h => ?_⟩
            · show fx_W_cheat h T Z x y = (some (.int (nI (sp_ch sp_pr (fun c => sp_fy T c Z) x.toNatClampNeg 4096).2)), h)
              unfold fx_W_cheat
              rw [if_neg c1, if_neg c2, if_neg c3, if_pos c4, if_neg c5]
            · show fx_M_cheat h T Z x y = (some (.int (nI (sp_ch sp_pr (fun c => sp_fy T c Z) x.toNatClampNeg 4096).2)), h)
              unfold fx_M_cheat
              rw [if_neg c1, if_neg c2, if_neg c3, if_pos c4, if_neg c5]
        · refine ⟨.int (-6 : Int32), (some 6), jo7s (by decide), ?_, fun h => ?_⟩
          · show fx_W_cheat h T Z x y = (some (.int (-6 : Int32)), ab_u2 h 28 6 (h 28 6 + 1))
            unfold fx_W_cheat
            rw [if_neg c1, if_neg c2, if_neg c3, if_neg c4]
          · show fx_M_cheat h T Z x y = (some (.int (-6 : Int32)), ab_u2 h 31 6 (h 31 6 + 1))
            unfold fx_M_cheat
            rw [if_neg c1, if_neg c2, if_neg c3, if_neg c4]
theorem js_cheat (l : Launch) {σ : jP} {q : Nat → Nat} {nr : Nat} {h : Nat → Nat → Int32} {g : Nat → Nat → Int64} {rr : Nat → Option Nat} (h0 : jok σ) (hC : jC σ q nr h g rr) (hD : jD σ h g) (x : Int32) (y : Int32) : ab_C l am_W_cheat 20 0 0 (.ref 0 :: [.int x, .int y]) (ab_S nr h g rr) (jN l am_M_cheat [.int x, .int y]) := by
  obtain ⟨v, o, ho, eW, eM⟩ := ja_cheat nr h g rr (jT σ) (jZ σ) h0.2.2.1 x y
  exact jq h0 hC hD ho (ab_C_wk (ct_W_cheat l 13 nr h g rr hC.1 h0.1 h0.2.2.1 hC.2.2.1 hC.2.2.2.2.2.2.2.2.2 x y) (fun r M1 K => jwb hC.2.2.2.2.2.2.2.2.2 K eW)) (fun h1 hD1 => ab_C_wk (ct_M_cheat l 12 nr h1 g rr hD1.1 h0.1 h0.2.2.1 hD1.2.2.1 (jK_M hD1) x y) (fun r M2 K => jma K (eM h1)))
set_option maxHeartbeats 1000000 in
theorem ja_ruleOf (nr : Nat) (h : Nat → Nat → Int32) (g : Nat → Nat → Int64) (rr : Nat → Option Nat) (n_ : Nat) (q cs : Nat → Nat) (x y : Int32) : ∃ v o, jo7 o ∧ fx_W_ruleOf nr h g rr n_ q cs x y = (some v, ab_S nr (jX o 28 h) g rr) ∧ ∀ (h : Nat → Nat → Int32), fx_M_ruleOf h n_ cs x y = (some v, jX o 31 h) := by
  by_cases c1 : 0 ≤ x ∧ x < nI n_
  · by_cases c2 : y < 0
    · refine ⟨.int (-5 : Int32), (some 5), jo7s (by decide), ?_, fun h => ?_⟩
      · show fx_W_ruleOf nr h g rr n_ q cs x y = (some (.int (-5 : Int32)), ab_S nr (ab_u2 h 28 5 (h 28 5 + 1)) g rr)
        unfold fx_W_ruleOf
        rw [if_pos c1, if_pos c2]
      · show fx_M_ruleOf h n_ cs x y = (some (.int (-5 : Int32)), ab_u2 h 31 5 (h 31 5 + 1))
        unfold fx_M_ruleOf
        rw [if_neg (fun z => ja_dec.mp z c1), if_pos c2]
    · by_cases c3 : y ≤ (2 : Int32)
      · by_cases c4 : y = 0
        · refine ⟨.int (nI (cs x.toNatClampNeg)), none, jo7n, ?_, fun h => ?_⟩
          · show fx_W_ruleOf nr h g rr n_ q cs x y = (some (.int (nI (cs x.toNatClampNeg))), ab_S nr h g rr)
            unfold fx_W_ruleOf
            rw [if_pos c1, if_neg c2, if_pos c3, if_pos c4]
          · show fx_M_ruleOf h n_ cs x y = (some (.int (nI (cs x.toNatClampNeg))), h)
            unfold fx_M_ruleOf
            rw [if_neg (fun z => ja_dec.mp z c1), if_neg c2, if_pos c3, if_pos c4]
        · by_cases c5 : y = (1 : Int32)
          · refine ⟨.int (nI (sp_kd (cs x.toNatClampNeg))), none, jo7n, ?_, fun h => ?_⟩
            · show fx_W_ruleOf nr h g rr n_ q cs x y = (some (.int (nI (sp_kd (cs x.toNatClampNeg)))), ab_S nr h g rr)
              unfold fx_W_ruleOf
              rw [if_pos c1, if_neg c2, if_pos c3, if_neg c4, if_pos c5]
            · show fx_M_ruleOf h n_ cs x y = (some (.int (nI (sp_kd (cs x.toNatClampNeg)))), h)
              unfold fx_M_ruleOf
              rw [if_neg (fun z => ja_dec.mp z c1), if_neg c2, if_pos c3, if_neg c4, if_pos c5]
          · refine ⟨.int (nI (sp_pr (cs x.toNatClampNeg))), none, jo7n, ?_, fun h => ?_⟩
            · show fx_W_ruleOf nr h g rr n_ q cs x y = (some (.int (nI (sp_pr (cs x.toNatClampNeg)))), ab_S nr h g rr)
              unfold fx_W_ruleOf
              rw [if_pos c1, if_neg c2, if_pos c3, if_neg c4, if_neg c5]
            · show fx_M_ruleOf h n_ cs x y = (some (.int (nI (sp_pr (cs x.toNatClampNeg)))), h)
              unfold fx_M_ruleOf
              rw [if_neg (fun z => ja_dec.mp z c1), if_neg c2, if_pos c3, if_neg c4, if_neg c5]
      · refine ⟨.int (-5 : Int32), (some 5), jo7s (by decide), ?_, fun h => ?_⟩
        · show fx_W_ruleOf nr h g rr n_ q cs x y = (some (.int (-5 : Int32)), ab_S nr (ab_u2 h 28 5 (h 28 5 + 1)) g rr)
          unfold fx_W_ruleOf
          rw [if_pos c1, if_neg c2, if_neg c3]
        · show fx_M_ruleOf h n_ cs x y = (some (.int (-5 : Int32)), ab_u2 h 31 5 (h 31 5 + 1))
          unfold fx_M_ruleOf
          rw [if_neg (fun z => ja_dec.mp z c1), if_neg c2, if_neg c3]
  · refine ⟨.int (-5 : Int32), (some 5), jo7s (by decide), ?_, fun h => ?_⟩
    · show fx_W_ruleOf nr h g rr n_ q cs x y = (some (.int (-5 : Int32)), ab_S nr (ab_u2 h 28 5 (h 28 5 + 1)) g rr)
      unfold fx_W_ruleOf
      rw [if_neg c1]
    · show fx_M_ruleOf h n_ cs x y = (some (.int (-5 : Int32)), ab_u2 h 31 5 (h 31 5 + 1))
      unfold fx_M_ruleOf
      rw [if_pos (ja_dec.mpr c1)]
theorem js_ruleOf (l : Launch) {σ : jP} {q : Nat → Nat} {nr : Nat} {h : Nat → Nat → Int32} {g : Nat → Nat → Int64} {rr : Nat → Option Nat} (h0 : jok σ) (hC : jC σ q nr h g rr) (hD : jD σ h g) (x : Int32) (y : Int32) : ab_C l am_W_ruleOf 20 0 0 (.ref 0 :: [.int x, .int y]) (ab_S nr h g rr) (jN l am_M_ruleOf [.int x, .int y]) := by
  obtain ⟨v, o, ho, eW, eM⟩ := ja_ruleOf nr h g rr (jn σ) q (jc σ) x y
  exact jq h0 hC hD ho (ab_C_wk (ct_W_ruleOf l 18 nr h g rr h0.2.2.2.1.1 hC.2.2.2.1.1 hC.2.2.2.1.2 x y) (fun r M1 K => jwa hC.2.2.2.2.2.2.2.2.2 K eW)) (fun h1 hD1 => ab_C_wk (ct_M_ruleOf l 17 nr h1 g rr hD1.2.2.2.1.1 h0.2.2.2.1.1 (jcs_M h0 hD1) (jK_M hD1) x y) (fun r M2 K => jma K (eM h1)))
set_option maxHeartbeats 1000000 in
theorem ja_tied (nr : Nat) (h : Nat → Nat → Int32) (g : Nat → Nat → Int64) (rr : Nat → Option Nat) (T : Nat → Nat → Nat) (x y : Int32) : ∃ v o, jo7 o ∧ fx_W_tied nr h g rr T x y = (some v, ab_S nr (jX o 28 h) g rr) ∧ ∀ (h : Nat → Nat → Int32), fx_M_tied nr h g rr T x y = (some v, ab_S nr (jX o 31 h) g rr) := by
  by_cases c1 : (ab_bz (sp_pt x)) = 0
  · refine ⟨.int (-1 : Int32), (some 1), jo7s (by decide), ?_, fun h => ?_⟩
    · show fx_W_tied nr h g rr T x y = (some (.int (-1 : Int32)), ab_S nr (ab_u2 h 28 1 (h 28 1 + 1)) g rr)
      unfold fx_W_tied
      rw [if_pos c1]
    · show fx_M_tied nr h g rr T x y = (some (.int (-1 : Int32)), ab_S nr (ab_u2 h 31 1 (h 31 1 + 1)) g rr)
      unfold fx_M_tied
      rw [if_pos c1]
  · by_cases c2 : (ab_bz (sp_tk3 y)) = 0
    · by_cases d3 : y < 0
      · refine ⟨.int (-1 : Int32), (some 1), jo7s (by decide), ?_, fun h => ?_⟩
        · show fx_W_tied nr h g rr T x y = (some (.int (-1 : Int32)), ab_S nr (ab_u2 h 28 1 (h 28 1 + 1)) g rr)
          unfold fx_W_tied
          rw [if_neg c1, if_pos c2]
        · show fx_M_tied nr h g rr T x y = (some (.int (-1 : Int32)), ab_S nr (ab_u2 h 31 1 (h 31 1 + 1)) g rr)
          unfold fx_M_tied
          rw [if_neg c1, if_pos d3]
      · refine ⟨.int (-1 : Int32), (some 1), jo7s (by decide), ?_, fun h => ?_⟩
        · show fx_W_tied nr h g rr T x y = (some (.int (-1 : Int32)), ab_S nr (ab_u2 h 28 1 (h 28 1 + 1)) g rr)
          unfold fx_W_tied
          rw [if_neg c1, if_pos c2]
        · show fx_M_tied nr h g rr T x y = (some (.int (-1 : Int32)), ab_S nr (ab_u2 h 31 1 (h 31 1 + 1)) g rr)
          unfold fx_M_tied
          rw [if_neg c1, if_neg d3, if_pos (Int32.not_lt.mp (fun z => ja_dec.mp c2 ⟨Int32.not_lt.mp d3, z⟩))]
    · refine ⟨.int (nI (T y.toNatClampNeg x.toNatClampNeg)), none, jo7n, ?_, fun h => ?_⟩
      · show fx_W_tied nr h g rr T x y = (some (.int (nI (T y.toNatClampNeg x.toNatClampNeg))), ab_S nr h g rr)
        unfold fx_W_tied
        rw [if_neg c1, if_neg c2]
      · show fx_M_tied nr h g rr T x y = (some (.int (nI (T y.toNatClampNeg x.toNatClampNeg))), ab_S nr h g rr)
        unfold fx_M_tied
        rw [if_neg c1, if_neg (Int32.not_lt.mpr (ja_nd c2).1), if_neg (Int32.not_le.mpr (ja_nd c2).2)]
theorem js_tied (l : Launch) {σ : jP} {q : Nat → Nat} {nr : Nat} {h : Nat → Nat → Int32} {g : Nat → Nat → Int64} {rr : Nat → Option Nat} (h0 : jok σ) (hC : jC σ q nr h g rr) (hD : jD σ h g) (x : Int32) (y : Int32) : ab_C l am_W_tied 20 0 0 (.ref 0 :: [.int x, .int y]) (ab_S nr h g rr) (jN l am_M_tied [.int x, .int y]) := by
  obtain ⟨v, o, ho, eW, eM⟩ := ja_tied nr h g rr (jT σ) x y
  exact jq h0 hC hD ho (ab_C_wk (ct_W_tied l 18 nr h g rr hC.1 h0.1 x y) (fun r M1 K => jwa hC.2.2.2.2.2.2.2.2.2 K eW)) (fun h1 hD1 => ab_C_wk (ct_M_tied l 19 nr h1 g rr hD1.1 h0.1 x y) (fun r M2 K => jmb hD1.2.2.2.2.2.2.2.2.2.1 K (eM h1)))
set_option maxHeartbeats 1000000 in
theorem ja_gameOf (nr : Nat) (h : Nat → Nat → Int32) (g : Nat → Nat → Int64) (rr : Nat → Option Nat) (Z : sp_G) (x y : Int32) : ∃ v o, jo7 o ∧ fx_W_gameOf nr h g rr Z x y = (some v, ab_S nr (jX o 28 h) g rr) ∧ ∀ (h : Nat → Nat → Int32), fx_M_gameOf h Z x y = (some v, jX o 31 h) := by
  by_cases c1 : (ab_bz (decide (0 ≤ x ∧ x < nI (gN Z)))) = 0
  · refine ⟨.int (-5 : Int32), (some 5), jo7s (by decide), ?_, fun h => ?_⟩
    · show fx_W_gameOf nr h g rr Z x y = (some (.int (-5 : Int32)), ab_S nr (ab_u2 h 28 5 (h 28 5 + 1)) g rr)
      unfold fx_W_gameOf
      rw [if_pos c1]
    · show fx_M_gameOf h Z x y = (some (.int (-5 : Int32)), ab_u2 h 31 5 (h 31 5 + 1))
      unfold fx_M_gameOf
      rw [if_pos c1]
  · by_cases c2 : y = 0
    · refine ⟨.int (nI (gL Z x.toNatClampNeg)), none, jo7n, ?_, fun h => ?_⟩
      · show fx_W_gameOf nr h g rr Z x y = (some (.int (nI (gL Z x.toNatClampNeg))), ab_S nr h g rr)
        unfold fx_W_gameOf
        rw [if_neg c1, if_pos c2]
      · show fx_M_gameOf h Z x y = (some (.int (nI (gL Z x.toNatClampNeg))), h)
        unfold fx_M_gameOf
        rw [if_neg c1, if_pos c2]
    · by_cases c3 : y = (1 : Int32)
      · refine ⟨.int (gO Z x.toNatClampNeg), none, jo7n, ?_, fun h => ?_⟩
        · show fx_W_gameOf nr h g rr Z x y = (some (.int (gO Z x.toNatClampNeg)), ab_S nr h g rr)
          unfold fx_W_gameOf
          rw [if_neg c1, if_neg c2, if_pos c3]
        · show fx_M_gameOf h Z x y = (some (.int (gO Z x.toNatClampNeg)), h)
          unfold fx_M_gameOf
          rw [if_neg c1, if_neg c2, if_pos c3]
      · by_cases c4 : y < (100 : Int32)
        · by_cases c5 : y < (200 : Int32)
          · refine ⟨.int (-5 : Int32), (some 5), jo7s (by decide), ?_, fun h => ?_⟩
            · show fx_W_gameOf nr h g rr Z x y = (some (.int (-5 : Int32)), ab_S nr (ab_u2 h 28 5 (h 28 5 + 1)) g rr)
              unfold fx_W_gameOf
              rw [if_neg c1, if_neg c2, if_neg c3, if_pos c4, if_pos c5]
            · show fx_M_gameOf h Z x y = (some (.int (-5 : Int32)), ab_u2 h 31 5 (h 31 5 + 1))
              unfold fx_M_gameOf
              rw [if_neg c1, if_neg c2, if_neg c3, if_pos c4, if_pos c5]
          · by_cases c6 : (212 : Int32) ≤ y
            · refine ⟨.int (-5 : Int32), (some 5), jo7s (by decide), ?_, fun h => ?_⟩
              · show fx_W_gameOf nr h g rr Z x y = (some (.int (-5 : Int32)), ab_S nr (ab_u2 h 28 5 (h 28 5 + 1)) g rr)
                unfold fx_W_gameOf
                rw [if_neg c1, if_neg c2, if_neg c3, if_pos c4, if_neg c5, if_pos c6]
              · show fx_M_gameOf h Z x y = (some (.int (-5 : Int32)), ab_u2 h 31 5 (h 31 5 + 1))
                unfold fx_M_gameOf
                rw [if_neg c1, if_neg c2, if_neg c3, if_pos c4, if_neg c5, if_pos c6]
            · refine ⟨.int (nI (sp_wv (sp_who (gA Z x.toNatClampNeg) (gB Z x.toNatClampNeg) (y.toNatClampNeg - 200)) 0)), none, jo7n, ?_, fun h => ?_⟩
              · show fx_W_gameOf nr h g rr Z x y = (some (.int (nI (sp_wv (sp_who (gA Z x.toNatClampNeg) (gB Z x.toNatClampNeg) (y.toNatClampNeg - 200)) 0))), ab_S nr h g rr)
                unfold fx_W_gameOf
                rw [if_neg c1, if_neg c2, if_neg c3, if_pos c4, if_neg c5, if_neg c6]
              · show fx_M_gameOf h Z x y = (some (.int (nI (sp_wv (sp_who (gA Z x.toNatClampNeg) (gB Z x.toNatClampNeg) (y.toNatClampNeg - 200)) 0))), h)
                unfold fx_M_gameOf
                rw [if_neg c1, if_neg c2, if_neg c3, if_pos c4, if_neg c5, if_neg c6]
                rw [ja_wv]
        · by_cases c7 : (nI (100 + gL Z x.toNatClampNeg)) ≤ y
          · by_cases c8 : y < (200 : Int32)
            · refine ⟨.int (-5 : Int32), (some 5), jo7s (by decide), ?_, fun h => ?_⟩
              · show fx_W_gameOf nr h g rr Z x y = (some (.int (-5 : Int32)), ab_S nr (ab_u2 h 28 5 (h 28 5 + 1)) g rr)
                unfold fx_W_gameOf
                rw [if_neg c1, if_neg c2, if_neg c3, if_neg c4, if_pos c7, if_pos c8]
              · show fx_M_gameOf h Z x y = (some (.int (-5 : Int32)), ab_u2 h 31 5 (h 31 5 + 1))
                unfold fx_M_gameOf
                rw [if_neg c1, if_neg c2, if_neg c3, if_neg c4, if_pos c7, if_pos c8]
            · by_cases c9 : (212 : Int32) ≤ y
              · refine ⟨.int (-5 : Int32), (some 5), jo7s (by decide), ?_, fun h => ?_⟩
                · show fx_W_gameOf nr h g rr Z x y = (some (.int (-5 : Int32)), ab_S nr (ab_u2 h 28 5 (h 28 5 + 1)) g rr)
                  unfold fx_W_gameOf
                  rw [if_neg c1, if_neg c2, if_neg c3, if_neg c4, if_pos c7, if_neg c8, if_pos c9]
                · show fx_M_gameOf h Z x y = (some (.int (-5 : Int32)), ab_u2 h 31 5 (h 31 5 + 1))
                  unfold fx_M_gameOf
                  rw [if_neg c1, if_neg c2, if_neg c3, if_neg c4, if_pos c7, if_neg c8, if_pos c9]
              · refine ⟨.int (nI (sp_wv (sp_who (gA Z x.toNatClampNeg) (gB Z x.toNatClampNeg) (y.toNatClampNeg - 200)) 0)), none, jo7n, ?_, fun h => ?_⟩
                · show fx_W_gameOf nr h g rr Z x y = (some (.int (nI (sp_wv (sp_who (gA Z x.toNatClampNeg) (gB Z x.toNatClampNeg) (y.toNatClampNeg - 200)) 0))), ab_S nr h g rr)
                  unfold fx_W_gameOf
                  rw [if_neg c1, if_neg c2, if_neg c3, if_neg c4, if_pos c7, if_neg c8, if_neg c9]
                · show fx_M_gameOf h Z x y = (some (.int (nI (sp_wv (sp_who (gA Z x.toNatClampNeg) (gB Z x.toNatClampNeg) (y.toNatClampNeg - 200)) 0))), h)
                  unfold fx_M_gameOf
                  rw [if_neg c1, if_neg c2, if_neg c3, if_neg c4, if_pos c7, if_neg c8, if_neg c9]
                  rw [ja_wv]
          · refine ⟨.int (nI (gV Z x.toNatClampNeg (y.toNatClampNeg - 100))), none, jo7n, ?_, fun h => ?_⟩
            · show fx_W_gameOf nr h g rr Z x y = (some (.int (nI (gV Z x.toNatClampNeg (y.toNatClampNeg - 100)))), ab_S nr h g rr)
              unfold fx_W_gameOf
              rw [if_neg c1, if_neg c2, if_neg c3, if_neg c4, if_neg c7]
            · show fx_M_gameOf h Z x y = (some (.int (nI (gV Z x.toNatClampNeg (y.toNatClampNeg - 100)))), h)
              unfold fx_M_gameOf
              rw [if_neg c1, if_neg c2, if_neg c3, if_neg c4, if_neg c7]
theorem js_gameOf (l : Launch) {σ : jP} {q : Nat → Nat} {nr : Nat} {h : Nat → Nat → Int32} {g : Nat → Nat → Int64} {rr : Nat → Option Nat} (h0 : jok σ) (hC : jC σ q nr h g rr) (hD : jD σ h g) (x : Int32) (y : Int32) : ab_C l am_W_gameOf 20 0 0 (.ref 0 :: [.int x, .int y]) (ab_S nr h g rr) (jN l am_M_gameOf [.int x, .int y]) := by
  obtain ⟨v, o, ho, eW, eM⟩ := ja_gameOf nr h g rr (jZ σ) x y
  exact jq h0 hC hD ho (ab_C_wk (ct_W_gameOf l 18 nr h g rr h0.2.2.1 hC.2.2.1 x y) (fun r M1 K => jwa hC.2.2.2.2.2.2.2.2.2 K eW)) (fun h1 hD1 => ab_C_wk (ct_M_gameOf l 19 nr h1 g rr h0.2.2.1 hD1.2.2.1 (jK_M hD1) x y) (fun r M2 K => jma K (eM h1)))
