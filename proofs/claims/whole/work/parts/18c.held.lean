/-! quiet calls that read what is held: fault, trace, holds, status, element, says, same -/
theorem jkp {σ : jP} {q : Nat → Nat} {nr : Nat} {h : Nat → Nat → Int32} {g : Nat → Nat → Int64} {rr : Nat → Option Nat} (hC : jC σ q nr h g rr) : kp_C (jT σ) (jZ σ) h := hC.2.2.2.2.2.2.2.2.2
theorem js_fault (l : Launch) {σ : jP} {q : Nat → Nat} {nr : Nat} {h : Nat → Nat → Int32} {g : Nat → Nat → Int64} {rr : Nat → Option Nat} (h0 : jok σ) (hC : jC σ q nr h g rr) (hD : jD σ h g) : ab_C l am_W_fault 20 0 0 (.ref 0 :: []) (ab_S nr h g rr) (jN l am_M_fault []) :=
  jq h0 hC hD (v := .int (jf σ)) (o := none) jo7n (ab_C_wk (ct_W_fault l 20 nr h g rr) (fun r M1 K => jwa (o := none) (jkp hC) K (by unfold fx_W_fault; rw [hC.2.2.2.2.2.2.2.1]; rfl))) (fun h1 hD1 => ab_C_wk (ct_M_fault l 20 nr h1 g rr (jK_M hD1)) (fun r M2 K => jma (o := none) K (by unfold fx_M_fault; rw [hD1.2.2.2.2.2.2.2.1]; rfl)))
theorem tr_at {h : Nat → Nat → Int32} {bs : List Int32} (H : tr_ok h bs) {k : Nat} (hk : k < bs.length) : h 13 (1 + k) = bs[k] := H.2 k _ (List.getElem?_eq_getElem hk)
theorem mt_at {h : Nat → Nat → Int32} {bs : List Int32} (H : mt_ok h bs) {k : Nat} (hk : k < bs.length) : h 49 k = bs[k] := H.2 k _ (List.getElem?_eq_getElem hk)
theorem js_trace (l : Launch) {σ : jP} {q : Nat → Nat} {nr : Nat} {h : Nat → Nat → Int32} {g : Nat → Nat → Int64} {rr : Nat → Option Nat} (h0 : jok σ) (hC : jC σ q nr h g rr) (hD : jD σ h g) (x : Int32) : ab_C l am_W_trace 20 0 0 (.ref 0 :: [.int x]) (ab_S nr h g rr) (jN l am_M_trace [.int x]) := by
  have hT := hC.2.2.2.2.2.1
  have hb := h0.2.2.2.2.2.1
  by_cases c1 : x < 0
  · exact jq h0 hC hD (v := .int (-1 : Int32)) (o := none) jo7n (ab_C_wk (ct_W_trace l 20 nr h g rr x) (fun r M1 K => jwa (o := none) (jkp hC) K (by unfold fx_W_trace; rw [if_pos c1]; rfl))) (fun h1 hD1 => ab_C_wk (ct_M_trace l 20 nr h1 g rr (jK_M hD1) x) (fun r M2 K => jma (o := none) K (by unfold fx_M_trace; rw [if_pos c1]; rfl)))
  · obtain ⟨k, hk, rfl⟩ := nn_n c1
    have tk : (nI k).toNatClampNeg = k := ab_tn hk
    by_cases c2 : k < (jb σ).length
    · refine jq h0 hC hD (v := .int ((jb σ)[k])) (o := none) jo7n (ab_C_wk (ct_W_trace l 20 nr h g rr (nI k)) (fun r M1 K => jwa (o := none) (jkp hC) K (by unfold fx_W_trace; rw [if_neg c1, hT.1, if_neg (fun z => absurd ((ab_le (by omega) (by omega)).mp z) (by omega)), if_pos (show nI k < (20 : Int32) from (ab_lt (a := k) (b := 20) (by omega) (by decide)).mpr (by omega)), tk, tr_at hT c2]; rfl))) (fun h1 hD1 => ab_C_wk (ct_M_trace l 20 nr h1 g rr (jK_M hD1) (nI k)) (fun r M2 K => jma (o := none) K (by
        have hM := hD1.2.2.2.2.2.1
        unfold fx_M_trace
        rw [if_neg c1, if_neg (show ¬ (20 : Int32) ≤ nI k from fun z => absurd ((ab_le (a := 20) (by decide) (by omega)).mp z) (by omega)), tk, hM.1, if_neg (fun z => absurd ((ab_le (by omega) (by omega)).mp z) (by omega)), mt_at hM c2]
        rfl)))
    · refine jq h0 hC hD (v := .int (-1 : Int32)) (o := none) jo7n (ab_C_wk (ct_W_trace l 20 nr h g rr (nI k)) (fun r M1 K => jwa (o := none) (jkp hC) K (by unfold fx_W_trace; rw [if_neg c1, hT.1, if_pos ((ab_le (by omega) (by omega)).mpr (by omega))]; rfl))) (fun h1 hD1 => ab_C_wk (ct_M_trace l 20 nr h1 g rr (jK_M hD1) (nI k)) (fun r M2 K => jma (o := none) K (by
        have hM := hD1.2.2.2.2.2.1
        unfold fx_M_trace
        rw [if_neg c1, tk, hM.1]
        by_cases c3 : (20 : Int32) ≤ nI k
        · rw [if_pos c3]; rfl
        · rw [if_neg c3, if_pos ((ab_le (by omega) (by omega)).mpr (by omega))]; rfl)))
def jrr (x : Int32) : Int32 := if x = -1 then -3 else if 100 ≤ x then 0 else -2
theorem jhd_r : ∀ r, r < 8 → jhx (nI r) = 2 ∧ jrr (nI r) = -2 ∧ ¬ nI r = -1 ∧ ¬ (100 : Int32) ≤ nI r := by decide
theorem jhd_o : ∀ o, o < 4 → jhx (nI (100 + o)) = 1 ∧ jrr (nI (100 + o)) = 0 ∧ ¬ nI (100 + o) = -1 ∧ (100 : Int32) ≤ nI (100 + o) := by decide
theorem jhd_c {n : Nat} {x : Int32} (H : jhd n x) (hn : n ≤ 8) : (x = -1 ∧ jhx x = 0 ∧ jrr x = -3) ∨ ((∃ r, r < n ∧ x = nI r) ∧ jhx x = 2 ∧ jrr x = -2 ∧ ¬ x = -1 ∧ ¬ (100 : Int32) ≤ x) ∨ ((∃ o, o < 4 ∧ x = nI (100 + o)) ∧ jhx x = 1 ∧ jrr x = 0 ∧ ¬ x = -1 ∧ (100 : Int32) ≤ x) := by
  rcases H with rfl | ⟨r, hr, rfl⟩ | ⟨o, ho, rfl⟩
  · exact Or.inl ⟨rfl, by decide, by decide⟩
  · exact Or.inr (Or.inl ⟨⟨r, hr, rfl⟩, jhd_r r (by omega)⟩)
  · exact Or.inr (Or.inr ⟨⟨o, ho, rfl⟩, jhd_o o ho⟩)
theorem jrr_W {σ : jP} {q : Nat → Nat} {nr : Nat} {h : Nat → Nat → Int32} {g : Nat → Nat → Int64} {rr : Nat → Option Nat} (hC : jC σ q nr h g rr) {s : Nat} (hs : s < 8) (c1 : ¬ ab_bz (sp_sh (nI s)) = 0) : fv_W_rowRefusal h (nI s) = jrr (jh σ s) := by
  unfold fv_W_rowRefusal jrr
  rw [if_neg c1, ab_tn (show s < 2 ^ 31 by omega), (hC.2.2.2.2.1.1 s hs).1]
theorem jrr_n {h : Nat → Nat → Int32} {s : Int32} (c1 : ab_bz (sp_sh s) = 0) : fv_W_rowRefusal h s = -1 := by
  unfold fv_W_rowRefusal
  rw [if_pos c1]
theorem js_holds (l : Launch) {σ : jP} {q : Nat → Nat} {nr : Nat} {h : Nat → Nat → Int32} {g : Nat → Nat → Int64} {rr : Nat → Option Nat} (h0 : jok σ) (hC : jC σ q nr h g rr) (hD : jD σ h g) (s : Int32) : ab_C l am_W_holds 20 0 0 (.ref 0 :: [.int s]) (ab_S nr h g rr) (jN l am_M_holds [.int s]) := by
  by_cases c1 : ab_bz (sp_sh s) = 0
  · exact jq h0 hC hD (v := .int (-1 : Int32)) (o := none) jo7n (ab_C_wk (ct_W_holds l 19 nr h g rr s) (fun r M1 K => jwa (o := none) (jkp hC) K (by unfold fx_W_holds; rw [if_pos c1]; rfl))) (fun h1 hD1 => ab_C_wk (ct_M_holds l 19 nr h1 g rr s) (fun r M2 K => jmb (o := none) (jK_M hD1) K (by unfold fx_M_holds; rw [if_pos c1]; rfl)))
  · obtain ⟨k, hk, rfl⟩ := sp_sh_n c1
    have tk : (nI k).toNatClampNeg = k := ab_tn (by omega)
    refine jq h0 hC hD (v := .int (jh σ k)) (o := none) jo7n (ab_C_wk (ct_W_holds l 19 nr h g rr (nI k)) (fun r M1 K => jwa (o := none) (jkp hC) K (by unfold fx_W_holds; rw [if_neg c1, tk, (hC.2.2.2.2.1.1 k hk).1]; rfl))) (fun h1 hD1 => ab_C_wk (ct_M_holds l 19 nr h1 g rr (nI k)) (fun r M2 K => jmb (o := none) (jK_M hD1) K (by
      have hM := (hD1.2.2.2.2.1.1 k hk).1
      unfold fx_M_holds
      rw [if_neg c1, tk, hM.1]
      rcases jhd_c (h0.2.2.2.2.1 k hk).1 h0.2.2.2.1.1 with ⟨e1, e2, -⟩ | ⟨-, e2, -⟩ | ⟨-, e2, -, -, e5⟩
      · rw [e2, if_pos rfl, e1]; rfl
      · rw [hM.2.2 e2, e2, if_neg (by decide), if_neg (by decide)]; rfl
      · rw [hM.2.1 e5, e2, if_neg (by decide), if_pos rfl, show (100 : Int32) + (jh σ k - 100) = jh σ k by rw [Int32.add_comm, Int32.sub_add_cancel]]; rfl)))
theorem js_status (l : Launch) {σ : jP} {q : Nat → Nat} {nr : Nat} {h : Nat → Nat → Int32} {g : Nat → Nat → Int64} {rr : Nat → Option Nat} (h0 : jok σ) (hC : jC σ q nr h g rr) (hD : jD σ h g) (x : Int32) : ab_C l am_W_status 20 0 0 (.ref 0 :: [.int x]) (ab_S nr h g rr) (jN l am_M_status [.int x]) := by
  by_cases c0 : x = 0
  · have lt : x < 11 := by rw [c0]; decide
    exact jq h0 hC hD (v := .int (nI (jn σ))) (o := none) jo7n (ab_C_wk (ct_W_status l 18 nr h g rr hC.1 h0.1 h0.2.1.1 h0.2.1.2.1 h0.2.1.2.2.1 h0.2.1.2.2.2 hC.2.1 h0.2.2.1 hC.2.2.1 h0.2.2.2.1.1 hC.2.2.2.1.1 hC.2.2.2.1.2 x) (fun r M1 K => jwa (o := none) (jkp hC) K (by unfold fx_W_status; rw [if_pos c0]; rfl))) (fun h1 hD1 => ab_C_wk (ct_M_status l 19 nr h1 g rr hD1.1 h0.1 h0.2.1.1 h0.2.1.2.1 h0.2.1.2.2.1 hD1.2.1 h0.2.2.1 hD1.2.2.1 hD1.2.2.2.1.1 x) (fun r M2 K => jmb (o := none) (jK_M hD1) K (by unfold fx_M_status; rw [if_pos lt, if_pos c0]; rfl)))
  · by_cases c1 : x = 1
    · have lt : x < 11 := by rw [c1]; decide
      exact jq h0 hC hD (v := .int (nI (gN (jZ σ)))) (o := none) jo7n (ab_C_wk (ct_W_status l 18 nr h g rr hC.1 h0.1 h0.2.1.1 h0.2.1.2.1 h0.2.1.2.2.1 h0.2.1.2.2.2 hC.2.1 h0.2.2.1 hC.2.2.1 h0.2.2.2.1.1 hC.2.2.2.1.1 hC.2.2.2.1.2 x) (fun r M1 K => jwa (o := none) (jkp hC) K (by unfold fx_W_status; rw [if_neg c0, if_pos c1]; rfl))) (fun h1 hD1 => ab_C_wk (ct_M_status l 19 nr h1 g rr hD1.1 h0.1 h0.2.1.1 h0.2.1.2.1 h0.2.1.2.2.1 hD1.2.1 h0.2.2.1 hD1.2.2.1 hD1.2.2.2.1.1 x) (fun r M2 K => jmb (o := none) (jK_M hD1) K (by unfold fx_M_status; rw [if_pos lt, if_neg c0, if_pos c1]; rfl)))
    · by_cases c2 : x = 2
      · have lt : x < 11 := by rw [c2]; decide
        exact jq h0 hC hD (v := .int (nI (sp_sum (fun g => gL (jZ σ) g) (gN (jZ σ))))) (o := none) jo7n (ab_C_wk (ct_W_status l 18 nr h g rr hC.1 h0.1 h0.2.1.1 h0.2.1.2.1 h0.2.1.2.2.1 h0.2.1.2.2.2 hC.2.1 h0.2.2.1 hC.2.2.1 h0.2.2.2.1.1 hC.2.2.2.1.1 hC.2.2.2.1.2 x) (fun r M1 K => jwa (o := none) (jkp hC) K (by unfold fx_W_status; rw [if_neg c0, if_neg c1, if_pos c2]; rfl))) (fun h1 hD1 => ab_C_wk (ct_M_status l 19 nr h1 g rr hD1.1 h0.1 h0.2.1.1 h0.2.1.2.1 h0.2.1.2.2.1 hD1.2.1 h0.2.2.1 hD1.2.2.1 hD1.2.2.2.1.1 x) (fun r M2 K => jmb (o := none) (jK_M hD1) K (by unfold fx_M_status; rw [if_pos lt, if_neg c0, if_neg c1, if_pos c2]; rfl)))
      · by_cases c3 : x = 3
        · have lt : x < 11 := by rw [c3]; decide
          exact jq h0 hC hD (v := .int (nI (sp_tt (jT σ) / 2))) (o := none) jo7n (ab_C_wk (ct_W_status l 18 nr h g rr hC.1 h0.1 h0.2.1.1 h0.2.1.2.1 h0.2.1.2.2.1 h0.2.1.2.2.2 hC.2.1 h0.2.2.1 hC.2.2.1 h0.2.2.2.1.1 hC.2.2.2.1.1 hC.2.2.2.1.2 x) (fun r M1 K => jwa (o := none) (jkp hC) K (by unfold fx_W_status; rw [if_neg c0, if_neg c1, if_neg c2, if_pos c3]; rfl))) (fun h1 hD1 => ab_C_wk (ct_M_status l 19 nr h1 g rr hD1.1 h0.1 h0.2.1.1 h0.2.1.2.1 h0.2.1.2.2.1 hD1.2.1 h0.2.2.1 hD1.2.2.1 hD1.2.2.2.1.1 x) (fun r M2 K => jmb (o := none) (jK_M hD1) K (by unfold fx_M_status; rw [if_pos lt, if_neg c0, if_neg c1, if_neg c2, if_pos c3]; rfl)))
        · by_cases c4 : x = 4
          · have lt : x < 11 := by rw [c4]; decide
            exact jq h0 hC hD (v := .int (nI (sp_cn (jm σ ||| ji σ)))) (o := none) jo7n (ab_C_wk (ct_W_status l 18 nr h g rr hC.1 h0.1 h0.2.1.1 h0.2.1.2.1 h0.2.1.2.2.1 h0.2.1.2.2.2 hC.2.1 h0.2.2.1 hC.2.2.1 h0.2.2.2.1.1 hC.2.2.2.1.1 hC.2.2.2.1.2 x) (fun r M1 K => jwa (o := none) (jkp hC) K (by unfold fx_W_status; rw [if_neg c0, if_neg c1, if_neg c2, if_neg c3, if_pos c4]; rfl))) (fun h1 hD1 => ab_C_wk (ct_M_status l 19 nr h1 g rr hD1.1 h0.1 h0.2.1.1 h0.2.1.2.1 h0.2.1.2.2.1 hD1.2.1 h0.2.2.1 hD1.2.2.1 hD1.2.2.2.1.1 x) (fun r M2 K => jmb (o := none) (jK_M hD1) K (by unfold fx_M_status; rw [if_pos lt, if_neg c0, if_neg c1, if_neg c2, if_neg c3, if_pos c4]; rfl)))
          · by_cases c5 : x = 5
            · have lt : x < 11 := by rw [c5]; decide
              exact jq h0 hC hD (v := .int (nI (jt σ))) (o := none) jo7n (ab_C_wk (ct_W_status l 18 nr h g rr hC.1 h0.1 h0.2.1.1 h0.2.1.2.1 h0.2.1.2.2.1 h0.2.1.2.2.2 hC.2.1 h0.2.2.1 hC.2.2.1 h0.2.2.2.1.1 hC.2.2.2.1.1 hC.2.2.2.1.2 x) (fun r M1 K => jwa (o := none) (jkp hC) K (by unfold fx_W_status; rw [if_neg c0, if_neg c1, if_neg c2, if_neg c3, if_neg c4, if_pos c5]; rfl))) (fun h1 hD1 => ab_C_wk (ct_M_status l 19 nr h1 g rr hD1.1 h0.1 h0.2.1.1 h0.2.1.2.1 h0.2.1.2.2.1 hD1.2.1 h0.2.2.1 hD1.2.2.1 hD1.2.2.2.1.1 x) (fun r M2 K => jmb (o := none) (jK_M hD1) K (by unfold fx_M_status; rw [if_pos lt, if_neg c0, if_neg c1, if_neg c2, if_neg c3, if_neg c4, if_pos c5]; rfl)))
            · by_cases c6 : x = 6
              · have lt : x < 11 := by rw [c6]; decide
                exact jq h0 hC hD (v := .int (nI (jb σ).length)) (o := none) jo7n (ab_C_wk (ct_W_status l 18 nr h g rr hC.1 h0.1 h0.2.1.1 h0.2.1.2.1 h0.2.1.2.2.1 h0.2.1.2.2.2 hC.2.1 h0.2.2.1 hC.2.2.1 h0.2.2.2.1.1 hC.2.2.2.1.1 hC.2.2.2.1.2 x) (fun r M1 K => jwa (o := none) (jkp hC) K (by unfold fx_W_status; rw [if_neg c0, if_neg c1, if_neg c2, if_neg c3, if_neg c4, if_neg c5, if_pos c6, hC.2.2.2.2.2.1.1]; rfl))) (fun h1 hD1 => ab_C_wk (ct_M_status l 19 nr h1 g rr hD1.1 h0.1 h0.2.1.1 h0.2.1.2.1 h0.2.1.2.2.1 hD1.2.1 h0.2.2.1 hD1.2.2.1 hD1.2.2.2.1.1 x) (fun r M2 K => jmb (o := none) (jK_M hD1) K (by unfold fx_M_status; rw [if_pos lt, if_neg c0, if_neg c1, if_neg c2, if_neg c3, if_neg c4, if_neg c5, if_pos c6, hD1.2.2.2.2.2.1.1]; rfl)))
              · by_cases c7 : x < 11
                · exact jq h0 hC hD (v := .int (-1 : Int32)) (o := none) jo7n (ab_C_wk (ct_W_status l 18 nr h g rr hC.1 h0.1 h0.2.1.1 h0.2.1.2.1 h0.2.1.2.2.1 h0.2.1.2.2.2 hC.2.1 h0.2.2.1 hC.2.2.1 h0.2.2.2.1.1 hC.2.2.2.1.1 hC.2.2.2.1.2 x) (fun r M1 K => jwa (o := none) (jkp hC) K (by unfold fx_W_status; rw [if_neg c0, if_neg c1, if_neg c2, if_neg c3, if_neg c4, if_neg c5, if_neg c6, if_pos c7]; rfl))) (fun h1 hD1 => ab_C_wk (ct_M_status l 19 nr h1 g rr hD1.1 h0.1 h0.2.1.1 h0.2.1.2.1 h0.2.1.2.2.1 hD1.2.1 h0.2.2.1 hD1.2.2.1 hD1.2.2.2.1.1 x) (fun r M2 K => jmb (o := none) (jK_M hD1) K (by unfold fx_M_status; rw [if_pos c7, if_neg c0, if_neg c1, if_neg c2, if_neg c3, if_neg c4, if_neg c5, if_neg c6]; rfl)))
                · by_cases c8 : 17 < x
                  · have c9 : 18 ≤ x := by have := Int32.lt_iff_toInt_lt.mp c8; exact Int32.le_iff_toInt_le.mpr (by have e : (17 : Int32).toInt = 17 := rfl; have e2 : (18 : Int32).toInt = 18 := rfl; omega)
                    exact jq h0 hC hD (v := .int (-1 : Int32)) (o := none) jo7n (ab_C_wk (ct_W_status l 18 nr h g rr hC.1 h0.1 h0.2.1.1 h0.2.1.2.1 h0.2.1.2.2.1 h0.2.1.2.2.2 hC.2.1 h0.2.2.1 hC.2.2.1 h0.2.2.2.1.1 hC.2.2.2.1.1 hC.2.2.2.1.2 x) (fun r M1 K => jwa (o := none) (jkp hC) K (by unfold fx_W_status; rw [if_neg c0, if_neg c1, if_neg c2, if_neg c3, if_neg c4, if_neg c5, if_neg c6, if_neg c7, if_pos c9]; rfl))) (fun h1 hD1 => ab_C_wk (ct_M_status l 19 nr h1 g rr hD1.1 h0.1 h0.2.1.1 h0.2.1.2.1 h0.2.1.2.2.1 hD1.2.1 h0.2.2.1 hD1.2.2.1 hD1.2.2.2.1.1 x) (fun r M2 K => jmb (o := none) (jK_M hD1) K (by unfold fx_M_status; rw [if_neg c7, if_pos c8, if_neg c0, if_neg c1, if_neg c2, if_neg c3, if_neg c4, if_neg c5, if_neg c6]; rfl)))
                  · have c9 : ¬ 18 ≤ x := fun z => c8 (by have := Int32.le_iff_toInt_le.mp z; exact Int32.lt_iff_toInt_lt.mpr (by have e : (17 : Int32).toInt = 17 := rfl; have e2 : (18 : Int32).toInt = 18 := rfl; omega))
                    obtain ⟨k, hk, rfl⟩ := md_rng (a := 11) (N := 18) (by decide) (by decide) c7 (Int32.not_le.mp c9)
                    have tk : (nI k).toNatClampNeg = k := ab_tn (by omega)
                    exact jq h0 hC hD (v := .int (jr σ (k - 10))) (o := none) jo7n (ab_C_wk (ct_W_status l 18 nr h g rr hC.1 h0.1 h0.2.1.1 h0.2.1.2.1 h0.2.1.2.2.1 h0.2.1.2.2.2 hC.2.1 h0.2.2.1 hC.2.2.1 h0.2.2.2.1.1 hC.2.2.2.1.1 hC.2.2.2.1.2 (nI k)) (fun r M1 K => jwa (o := none) (jkp hC) K (by unfold fx_W_status; rw [if_neg c0, if_neg c1, if_neg c2, if_neg c3, if_neg c4, if_neg c5, if_neg c6, if_neg c7, if_neg c9, tk, hC.2.2.2.2.2.2.1 (k - 10) (by omega) (by omega)]; rfl))) (fun h1 hD1 => ab_C_wk (ct_M_status l 19 nr h1 g rr hD1.1 h0.1 h0.2.1.1 h0.2.1.2.1 h0.2.1.2.2.1 hD1.2.1 h0.2.2.1 hD1.2.2.1 hD1.2.2.2.1.1 (nI k)) (fun r M2 K => jmb (o := none) (jK_M hD1) K (by unfold fx_M_status; rw [if_neg c7, if_neg c8, tk, hD1.2.2.2.2.2.2.1 (k - 10) (by omega) (by omega)]; rfl)))
theorem js_element (l : Launch) {σ : jP} {q : Nat → Nat} {nr : Nat} {h : Nat → Nat → Int32} {g : Nat → Nat → Int64} {rr : Nat → Option Nat} (h0 : jok σ) (hC : jC σ q nr h g rr) (hD : jD σ h g) (s x : Int32) : ab_C l am_W_element 20 0 0 (.ref 0 :: [.int s, .int x]) (ab_S nr h g rr) (jN l am_M_element [.int s, .int x]) := by
  have no : (ab_bz (sp_sh s) = 0 ∨ ¬ fv_W_rowRefusal h s = 0 ∨ x < 0 ∨ ¬ x < nI (jz σ s.toNatClampNeg)) → (∀ h1, jD σ h1 g → fx_M_element nr h1 g rr (jz σ) s x = (some (.long 0), ab_S nr h1 g rr)) → fx_W_element nr h g rr (jz σ) s x = (some (.long 0), ab_S nr h g rr) → ab_C l am_W_element 20 0 0 (.ref 0 :: [.int s, .int x]) (ab_S nr h g rr) (jN l am_M_element [.int s, .int x]) := fun _ eM eW =>
    jq h0 hC hD (v := .long 0) (o := none) jo7n (ab_C_wk (ct_W_element l 18 nr h g rr (jz_W h0 hC) s x) (fun r M1 K => jwa (o := none) (jkp hC) K eW)) (fun h1 hD1 => ab_C_wk (ct_M_element l 19 nr h1 g rr (jz_M h0 hD1) s x) (fun r M2 K => jmb (o := none) (jK_M hD1) K (eM h1 hD1)))
  by_cases c1 : ab_bz (sp_sh s) = 0
  · exact no (Or.inl c1) (fun h1 hD1 => by unfold fx_M_element; rw [if_pos c1]) (by unfold fx_W_element; rw [jrr_n c1, if_neg (by decide)])
  · obtain ⟨k, hk, rfl⟩ := sp_sh_n c1
    have tk : (nI k).toNatClampNeg = k := ab_tn (by omega)
    have eW := jrr_W hC hk c1
    rcases jhd_c (h0.2.2.2.2.1 k hk).1 h0.2.2.2.1.1 with ⟨-, e2, e3⟩ | ⟨-, e2, e3, -⟩ | ⟨-, e2, e3, -, e5⟩
    · refine no (Or.inr (Or.inl (by rw [eW, e3]; decide))) (fun h1 hD1 => ?_) (by unfold fx_W_element; rw [eW, e3, if_neg (by decide)])
      unfold fx_M_element
      rw [if_neg c1, tk, (hD1.2.2.2.2.1.1 k hk).1.1, e2, if_neg (by decide)]
    · refine no (Or.inr (Or.inl (by rw [eW, e3]; decide))) (fun h1 hD1 => ?_) (by unfold fx_W_element; rw [eW, e3, if_neg (by decide)])
      unfold fx_M_element
      rw [if_neg c1, tk, (hD1.2.2.2.2.1.1 k hk).1.1, e2, if_neg (by decide)]
    · have z60 := (h0.2.2.2.2.1 k hk).2
      by_cases c2 : x < 0
      · refine no (Or.inr (Or.inr (Or.inl c2))) (fun h1 hD1 => ?_) (by unfold fx_W_element; rw [eW, e3, if_pos rfl, if_pos c2])
        unfold fx_M_element
        rw [if_neg c1, tk, (hD1.2.2.2.2.1.1 k hk).1.1, e2, if_pos rfl, if_pos c2]
      · by_cases c3 : x < nI (jz σ k)
        · obtain ⟨j, hj, rfl⟩ := sp_bt_n (by omega) c2 c3
          have tj : (nI j).toNatClampNeg = j := ab_tn (by omega)
          refine jq h0 hC hD (v := .long (jl σ k j)) (o := none) jo7n (ab_C_wk (ct_W_element l 18 nr h g rr (jz_W h0 hC) (nI k) (nI j)) (fun r M1 K => jwa (o := none) (jkp hC) K (by unfold fx_W_element; rw [eW, e3, if_pos rfl, if_neg c2, tk, if_pos c3, tj, hC.2.2.2.2.1.2 k j hk (by omega)]; rfl))) (fun h1 hD1 => ab_C_wk (ct_M_element l 19 nr h1 g rr (jz_M h0 hD1) (nI k) (nI j)) (fun r M2 K => jmb (o := none) (jK_M hD1) K (by
            unfold fx_M_element
            rw [if_neg c1, tk, (hD1.2.2.2.2.1.1 k hk).1.1, e2, if_pos rfl, if_neg c2, if_neg (Int32.not_le.mpr c3), tj, hD1.2.2.2.2.1.2 k j hk (by omega)]
            rfl)))
        · refine no (Or.inr (Or.inr (Or.inr (by rw [tk]; exact c3)))) (fun h1 hD1 => ?_) (by unfold fx_W_element; rw [eW, e3, if_pos rfl, if_neg c2, tk, if_neg c3])
          unfold fx_M_element
          rw [if_neg c1, tk, (hD1.2.2.2.2.1.1 k hk).1.1, e2, if_pos rfl, if_neg c2, if_pos (Int32.not_lt.mp c3)]
theorem js_lw_64 : ∀ a, a < 64 → ∀ b, b < 64 → (sp_kd (64 * a + b) = 1 ∨ sp_kd (64 * a + b) = 2) → sp_cn (64 * a + b - 1) % 3 = md_lw (((64 * a + b) &&& 7) ||| (((64 * a + b) >>> 3) &&& 7)) := by decide +kernel
theorem js_lw {c : Nat} (hc : c < 4096) (h : sp_kd c = 1 ∨ sp_kd c = 2) : sp_cn (c - 1) % 3 = md_lw ((c &&& 7) ||| ((c >>> 3) &&& 7)) := by
  have z := js_lw_64 (c / 64) (by omega) (c % 64) (by omega)
  rw [Nat.div_add_mod] at z
  exact z h
/-- what a RULE says, taken for one of a KIND that it is of -/
def jsw (c x : Nat) : Nat := if x = 0 then c else if x < 3 then sp_cn (c - 1) % 3 else if x < 6 then sp_pr c else if x = 6 then c / 1024 else sp_pc c
theorem jsw_W : ∀ x, x < 8 → ∀ c, fv_tells c (nI x) = nI (jsw c x) := by
  intro x hx c
  rcases (by omega : x = 0 ∨ x = 1 ∨ x = 2 ∨ x = 3 ∨ x = 4 ∨ x = 5 ∨ x = 6 ∨ x = 7) with r | r | r | r | r | r | r | r <;> subst r <;> rfl
theorem js_says (l : Launch) {σ : jP} {q : Nat → Nat} {nr : Nat} {h : Nat → Nat → Int32} {g : Nat → Nat → Int64} {rr : Nat → Option Nat} (h0 : jok σ) (hC : jC σ q nr h g rr) (hD : jD σ h g) (s x : Int32) : ab_C l am_W_says 20 0 0 (.ref 0 :: [.int s, .int x]) (ab_S nr h g rr) (jN l am_M_says [.int s, .int x]) := by
  have hsw : ∀ h1, jD σ h1 g → ∀ s, s < 8 → ¬ h1 38 s = 1 → ¬ h1 38 s = 0 → ∃ r, r < jn σ ∧ h1 41 s = nI r := fun h1 hD1 s hs n1 n0 => by
    have hM := (hD1.2.2.2.2.1.1 s hs).1
    rcases jhd_c (h0.2.2.2.2.1 s hs).1 h0.2.2.2.1.1 with ⟨-, e2, -⟩ | ⟨⟨r, hr, e⟩, e2, -⟩ | ⟨-, e2, -⟩
    · exact absurd (hM.1.trans e2) n0
    · exact ⟨r, hr, (hM.2.2 e2).trans e⟩
    · exact absurd (hM.1.trans e2) n1
  have go : ∀ (v : Value) (o : Option Nat), jo7 o → fx_W_says nr h g rr (jn σ) q (jc σ) s x = (some v, ab_S nr (jX o 28 h) g rr) → (∀ h1, jD σ h1 g → fx_M_says nr h1 g rr (jn σ) (jc σ) s x = (some v, ab_S nr (jX o 31 h1) g rr)) → ab_C l am_W_says 20 0 0 (.ref 0 :: [.int s, .int x]) (ab_S nr h g rr) (jN l am_M_says [.int s, .int x]) := fun v o ho eW eM =>
    jq h0 hC hD ho (ab_C_wk (ct_W_says l 17 nr h g rr h0.2.2.2.1.1 hC.2.2.2.1.1 hC.2.2.2.1.2 s x) (fun r M1 K => jwa (jkp hC) K eW)) (fun h1 hD1 => ab_C_wk (ct_M_says l 17 nr h1 g rr hD1.2.2.2.1.1 h0.2.2.2.1.1 (jcs_M h0 hD1) (hsw h1 hD1) s x) (fun r M2 K => jmb (jK_M hD1) K (eM h1 hD1)))
  by_cases c1 : ab_bz (sp_sh s) = 0
  · refine go (.int (-1 : Int32)) (some 1) (jo7s (by decide)) ?_ (fun h hD1 => ?_)
    · unfold fx_W_says; rw [if_pos c1]; rfl
    · unfold fx_M_says; rw [if_pos c1]; rfl
  · by_cases c2 : x < 0
    · refine go (.int (-1 : Int32)) (some 1) (jo7s (by decide)) ?_ (fun h hD1 => ?_)
      · unfold fx_W_says; rw [if_neg c1, if_pos c2]; rfl
      · unfold fx_M_says; rw [if_neg c1, if_pos c2]; rfl
    · by_cases c3 : x ≤ 7
      · obtain ⟨k, hk, rfl⟩ := sp_sh_n c1
        have tk : (nI k).toNatClampNeg = k := ab_tn (by omega)
        obtain ⟨j, hj, rfl⟩ := sp_bt_n (N := 8) (by decide) c2 (by have := Int32.le_iff_toInt_le.mp c3; exact Int32.lt_iff_toInt_lt.mpr (by have e : (7 : Int32).toInt = 7 := rfl; have e2 : (nI 8).toInt = 8 := rfl; omega))
        have eh := (hC.2.2.2.2.1.1 k hk).1
        rcases jhd_c (h0.2.2.2.2.1 k hk).1 h0.2.2.2.1.1 with ⟨e1, e2, -⟩ | ⟨⟨r, hr, e1⟩, e2, -, e4, -⟩ | ⟨⟨o, ho4, e1⟩, e2, -, e4, -⟩
        · refine go (.int (-3 : Int32)) (some 3) (jo7s (by decide)) ?_ (fun h hD1 => ?_)
          · unfold fx_W_says; rw [if_neg c1, if_neg c2, if_pos c3, tk, eh, if_pos e1]; rfl
          · unfold fx_M_says; rw [if_neg c1, if_neg c2, if_pos c3, tk, (hD1.2.2.2.2.1.1 k hk).1.1, e2, if_neg (by decide), if_pos rfl]; rfl
        · have n8 := h0.2.2.2.1.1
          have hcr := h0.2.2.2.1.2 r hr
          have tr : (nI r).toNatClampNeg = r := ab_tn (by omega)
          have hkd := sp_kd_rg (jc σ r)
          have in_ : (0 : Int32) ≤ nI r ∧ nI r < nI (jn σ) := ⟨(ab_le (a := 0) (by decide) (by omega)).mpr (Nat.zero_le _), (ab_lt (by omega) (by omega)).mpr hr⟩
          have ej : ∀ q, q < 8 → (nI j = nI q ↔ j = q) := fun q hq => ab_inj (by omega) (by omega)
          by_cases c4 : j = 0 ∨ j = sp_kd (jc σ r) ∨ (j = 1 ∧ sp_kd (jc σ r) = 2)
          · refine go (.int (nI (jsw (jc σ r) j))) none jo7n ?_ (fun h hD1 => ?_)
            · unfold fx_W_says
              rw [if_neg c1, if_neg c2, if_pos c3, tk, eh, if_neg e4, e1, if_pos in_, tr, if_neg (show ¬ ab_bz (sp_of (nI j) (nI (sp_kd (jc σ r)))) = 0 from fun z => (ja_dec (p := nI j = 0 ∨ nI j = nI (sp_kd (jc σ r)) ∨ (nI j = 1 ∧ nI (sp_kd (jc σ r)) = 2))).mp z (by
                rcases c4 with z | z | z
                · exact Or.inl (by rw [z]; rfl)
                · exact Or.inr (Or.inl (by rw [z]))
                · exact Or.inr (Or.inr ⟨by rw [z.1]; rfl, by rw [z.2]; rfl⟩))), jsw_W j hj]
              rfl
            · have hM := (hD1.2.2.2.2.1.1 k hk).1
              unfold fx_M_says
              rw [if_neg c1, if_neg c2, if_pos c3, tk, hM.1, e2, if_neg (by decide), if_neg (by decide), (hM.2.2 e2).trans e1, tr]
              by_cases d1 : j = 0
              · rw [if_pos (by rw [d1]; rfl)]
                unfold jsw
                rw [if_pos d1]
                rfl
              · rw [if_neg (show ¬ nI j = (0 : Int32) from fun z => d1 ((ej 0 (by decide)).mp z))]
                have lo : j < 3 → (sp_kd (jc σ r) = 1 ∨ sp_kd (jc σ r) = 2) := fun z => by omega
                have v3 : ∀ F : Option Value × ab_Me, (if (3 : Int32) ≤ nI j then (if (6 : Int32) ≤ nI j then (if nI j = (6 : Int32) then ((some (.int (nI (jc σ r / 1024))) : Option Value), ab_S nr h g rr) else (some (.int (nI (sp_pc (jc σ r)))), ab_S nr h g rr)) else (some (.int (nI (sp_pr (jc σ r)))), ab_S nr h g rr)) else (some (.int (nI (md_lw ((jc σ r &&& 7) ||| ((jc σ r >>> 3) &&& 7))))), ab_S nr h g rr)) = (some (.int (nI (jsw (jc σ r) j))), ab_S nr (jX none 31 h) g rr) := fun F => by
                  unfold jsw
                  rw [if_neg d1]
                  by_cases d3 : j < 3
                  · rw [if_neg (show ¬ (3 : Int32) ≤ nI j from fun z => absurd ((ab_le (a := 3) (by decide) (by omega)).mp z) (by omega)), if_pos d3, js_lw hcr.2 (lo d3)]
                    rfl
                  · rw [if_pos (show (3 : Int32) ≤ nI j from (ab_le (a := 3) (by decide) (by omega)).mpr (by omega)), if_neg d3]
                    by_cases d6 : j < 6
                    · rw [if_neg (show ¬ (6 : Int32) ≤ nI j from fun z => absurd ((ab_le (a := 6) (by decide) (by omega)).mp z) (by omega)), if_pos d6]
                      rfl
                    · rw [if_pos (show (6 : Int32) ≤ nI j from (ab_le (a := 6) (by decide) (by omega)).mpr (by omega)), if_neg d6]
                      by_cases d7 : j = 6
                      · rw [if_pos (show nI j = (6 : Int32) by rw [d7]; rfl), if_pos d7]
                        rfl
                      · rw [if_neg (show ¬ nI j = (6 : Int32) from fun z => d7 ((ej 6 (by decide)).mp z)), if_neg d7]
                        rfl
                by_cases d2 : j = sp_kd (jc σ r)
                · rw [if_pos (show nI j = nI (sp_kd (jc σ r)) by rw [d2])]
                  exact v3 (none, ab_S nr h g rr)
                · rw [if_neg (show ¬ nI j = nI (sp_kd (jc σ r)) from fun z => d2 ((ej _ (by omega)).mp z)), if_pos (show nI j = (1 : Int32) from by rw [show j = 1 by omega]; rfl), if_pos (show nI (sp_kd (jc σ r)) = (2 : Int32) by rw [show sp_kd (jc σ r) = 2 by omega]; rfl)]
                  exact v3 (none, ab_S nr h g rr)
          · refine go (.int (-2 : Int32)) (some 2) (jo7s (by decide)) ?_ (fun h hD1 => ?_)
            · unfold fx_W_says
              rw [if_neg c1, if_neg c2, if_pos c3, tk, eh, if_neg e4, e1, if_pos in_, tr, if_pos (show ab_bz (sp_of (nI j) (nI (sp_kd (jc σ r)))) = 0 from (ja_dec (p := nI j = 0 ∨ nI j = nI (sp_kd (jc σ r)) ∨ (nI j = 1 ∧ nI (sp_kd (jc σ r)) = 2))).mpr (fun z => c4 (by
                rcases z with z | z | z
                · exact Or.inl ((ej 0 (by decide)).mp z)
                · exact Or.inr (Or.inl ((ej _ (by omega)).mp z))
                · exact Or.inr (Or.inr ⟨(ej 1 (by decide)).mp z.1, (ab_inj (b := 2) (by omega) (by decide)).mp z.2⟩))))]
              rfl
            · have hM := (hD1.2.2.2.2.1.1 k hk).1
              unfold fx_M_says
              rw [if_neg c1, if_neg c2, if_pos c3, tk, hM.1, e2, if_neg (by decide), if_neg (by decide), (hM.2.2 e2).trans e1, tr, if_neg (show ¬ nI j = (0 : Int32) from fun z => c4 (Or.inl ((ej 0 (by decide)).mp z))), if_neg (show ¬ nI j = nI (sp_kd (jc σ r)) from fun z => c4 (Or.inr (Or.inl ((ej _ (by omega)).mp z))))]
              by_cases d1 : j = 1
              · rw [if_pos (show nI j = (1 : Int32) by rw [d1]; rfl), if_neg (show ¬ nI (sp_kd (jc σ r)) = (2 : Int32) from fun z => c4 (Or.inr (Or.inr ⟨d1, (ab_inj (b := 2) (by omega) (by decide)).mp z⟩)))]
                rfl
              · rw [if_neg (show ¬ nI j = (1 : Int32) from fun z => d1 ((ej 1 (by decide)).mp z))]
                rfl
        · refine go (.int (-2 : Int32)) (some 2) (jo7s (by decide)) ?_ (fun h hD1 => ?_)
          · have n8 := h0.2.2.2.1.1
            unfold fx_W_says
            rw [if_neg c1, if_neg c2, if_pos c3, tk, eh, if_neg e4, if_neg (show ¬ ((0 : Int32) ≤ jh σ k ∧ jh σ k < nI (jn σ)) from fun z => by rw [e1] at z; exact absurd ((ab_lt (by omega) (by omega)).mp z.2) (by omega))]
            rfl
          · unfold fx_M_says
            rw [if_neg c1, if_neg c2, if_pos c3, tk, (hD1.2.2.2.2.1.1 k hk).1.1, e2, if_pos rfl]
            rfl
      · refine go (.int (-1 : Int32)) (some 1) (jo7s (by decide)) ?_ (fun h hD1 => ?_)
        · unfold fx_W_says; rw [if_neg c1, if_neg c2, if_neg c3]; rfl
        · unfold fx_M_says; rw [if_neg c1, if_neg c2, if_neg c3]; rfl
theorem jqX {l : Launch} {X : Option (Nat × (Nat → Int32))} {σ : jP} {q : Nat → Nat} {nr : Nat} {h : Nat → Nat → Int32} {g : Nat → Nat → Int64} {rr : Nat → Option Nat} (h0 : jok σ) (hC : jC σ q nr h g rr) (hD : jD σ h g) {yW yM : ab_M} {as : List Value} {v : Value} {o : Option Nat} (ho : jo7 o)
    (hW : ab_CX l X yW 20 0 0 (.ref 0 :: as) (ab_S nr h g rr) (fun r M1 => r = some v ∧ ∃ h1, M1 = ab_S nr h1 g rr ∧ kp_C (jT σ) (jZ σ) h1 ∧ fr_K (jX o 28 h) h1))
    (hM : ∀ h1, jD σ h1 g → ab_C l yM 20 0 0 (.ref 30 :: as) (ab_S nr h1 g rr) (fun r M2 => r = some v ∧ ∃ h2, M2 = ab_S nr h2 g rr ∧ md_K (jT σ) (jZ σ) h2 ∧ md_kr (jX o 31 h1) h2)) : ab_CX l X yW 20 0 0 (.ref 0 :: as) (ab_S nr h g rr) (jN l yM as) := by
  refine ab_CX_wk hW ?_
  rintro r M1 ⟨rfl, h1, rfl, hk, hf⟩
  have hD1 : jD σ h1 g := jD_at hD (fun a q1 q2 => (hf a (by omega) (by omega)).trans (jX_row (by omega))) rfl
  refine ⟨v, nr, h1, g, rr, rfl, rfl, ab_C_wk (hM h1 hD1) ?_⟩
  rintro r M2 ⟨rfl, h2, rfl, hk2, hf2⟩
  have hC1 : jC (jR σ o) q nr h1 g rr := jC_fr (jC_R hC ho) (fun a _ z1 z2 => hf a z1 z2) (fun _ _ => rfl) (by cases o <;> exact hk)
  refine ⟨rfl, nr, h2, g, rr, rfl, jR σ o, q, jok_R h0 o, jC_at hC1 (fun a ha => ?_) (fun _ _ => rfl), jD_fr (jD_R hD1 ho) (fun a b _ _ z => hf2 a b z) rfl (by cases o <;> exact hk2)⟩
  have e : ∀ b, h2 a b = jX o 31 h1 a b := fun b => hf2 a b (fun z => by rcases z with z | z <;> omega)
  exact (funext e).trans (jX_row (by omega))
theorem js_same {n0 : Nat} {xs0 : Nat → Int32} (l : Launch) {σ : jP} {q : Nat → Nat} {nr : Nat} {h : Nat → Nat → Int32} {g : Nat → Nat → Int64} {rr : Nat → Option Nat} (h0 : jok σ) (hC : jC σ q nr h g rr) (hD : jD σ h g) (x y : Int32) : ab_CX l (some (n0, xs0)) am_W_same 20 0 0 (.ref 0 :: [.int x, .int y]) (ab_S nr h g rr) (jN l am_M_same [.int x, .int y]) := by
  have go : ∀ (v : Value) (o : Option Nat), jo7 o → fx_W_same nr h g rr x y = (some v, ab_S nr (jX o 28 h) g rr) → (∀ h1, fx_M_same nr h1 g rr x y = (some v, ab_S nr (jX o 31 h1) g rr)) → ab_CX l (some (n0, xs0)) am_W_same 20 0 0 (.ref 0 :: [.int x, .int y]) (ab_S nr h g rr) (jN l am_M_same [.int x, .int y]) := fun v o ho eW eM =>
    jqX h0 hC hD ho (ab_CX_wk (ct_W_same l 18 nr h g rr x y) (fun r M1 K => jwa (jkp hC) K eW)) (fun h1 hD1 => ab_C_wk (ct_M_same l 19 nr h1 g rr hD1.2.2.2.2.2.2.2.2.2.2 x y) (fun r M2 K => jmb (jK_M hD1) K (eM h1)))
  by_cases c1 : ab_bz (sp_cd x) = 0
  · exact go (.int (-11 : Int32)) (some 1) (jo7s (by decide)) (by unfold fx_W_same; rw [if_pos c1]; rfl) (fun h => by unfold fx_M_same; rw [if_pos c1]; rfl)
  · by_cases c2 : ab_bz (sp_cd y) = 0
    · exact go (.int (-11 : Int32)) (some 1) (jo7s (by decide)) (by unfold fx_W_same; rw [if_neg c1, if_pos c2]; rfl) (fun h => by unfold fx_M_same; rw [if_neg c1, if_pos c2]; rfl)
    · exact go (.int (sp_sa6 x.toNatClampNeg y.toNatClampNeg)) none jo7n (by unfold fx_W_same; rw [if_neg c1, if_neg c2]; rfl) (fun h => by unfold fx_M_same; rw [if_neg c1, if_neg c2]; rfl)
