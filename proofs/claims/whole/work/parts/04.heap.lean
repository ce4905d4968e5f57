section ABH
variable {l : Launch} {X : Option (Nat × (Nat → Int32))} {y : ab_M} {d kc ks : Nat} {K : Option Value → ab_Me → Prop} {pc : Nat} {L : List (Nat × Value)} {st : List Value} {M : ab_Me}
/-- fewer locals, in any order -/
theorem ab_sub {L' : List (Nat × Value)} (is : List Nat) (hl : lv_pick L is = L') (k : ab_G l X y d kc ks pc L' st M K) : ab_G l X y d kc ks pc L st M K :=
  fun p e R s m args below meth c E D A H locs cells slots ls Q C hR hS hL => k p e R s m args below meth c E D A H locs cells slots ls Q C hR hS (lv_sub hL is (by
    subst hl
    clear k
    unfold lv_pick ab_lc
    induction is with
    | nil => rfl
    | cons a is ih =>
      simp only [List.filterMap_cons, List.getElem?_map]
      cases h : L[a]? with
      | none => simpa [h] using ih
      | some q => simpa [h] using ih))
/-- the same goal with other names -/
theorem ab_eq {pc' : Nat} {L' : List (Nat × Value)} {st' : List Value} {M' : ab_Me} (h1 : pc = pc') (h2 : L = L') (h3 : st = st') (h4 : M = M') (k : ab_G l X y d kc ks pc' L' st' M' K) : ab_G l X y d kc ks pc L st M K := by
  subst h1; subst h2; subst h3; subst h4; exact k
def ab_fl (own : String) (i ci j : Nat) : Prop := ci < 6 ∧ j < ab_nf ci ∧ (Cond.fieldLink own i (ab_fn ci j).1 (ab_fn ci j).2.1 (ab_fn ci j).2.2.1 ∈ ab_T ∨ ∃ host, Cond.fieldLinkNest own i (ab_fn ci j).1 (ab_fn ci j).2.1 (ab_fn ci j).2.2.1 host ∈ ab_T2)
def ab_rd (M : ab_Me) (x ci j : Nat) : Value := match ab_ft ci j with
  | .int => .int (M.2.1 x j)
  | .boolean => .int (M.2.1 x j)
  | _ => va_rf (M.2.2.2 x j)
theorem ab_rd_cv (E : ab_En) (M : ab_Me) (x ci j : Nat) : ab_cv E (ab_rd M x ci j) = ab_fv E (ab_ft ci j) (M.2.1 x j) (M.2.2.2 x j) := by
  unfold ab_rd ab_fv
  cases ab_ft ci j <;> first | rfl | (cases M.2.2.2 x j <;> rfl)
theorem ab_ob_get {E : ab_En} {M : ab_Me} {x ci j : Nat} (hj : j < ab_nf ci) : (ab_ob E M x ci)[j]? = some (ab_fv E (ab_ft ci j) (M.2.1 x j) (M.2.2.2 x j)) := by
  unfold ab_ob
  rw [List.getElem?_map, List.getElem?_range hj]
  rfl
theorem ab_get {i x ci j : Nat} {v : Value} (hw : ab_fl y.1.cls i ci j) (hk : M.1[x]? = some (0, ci)) (hv : ab_rd M x ci j = v) (hd : decode y.2.1 pc = .ok (.getfield i, 3)) (k : ab_G l X y d kc ks (pc + 3) L (v :: st) M K) : ab_G l X y d kc ks pc L (.ref x :: st) M K := by
  intro p e R s m args below meth c E D A H locs cells slots ls Q C hR hS hL
  obtain ⟨h1, h2, h3⟩ := hw
  have kk := k p e R s m args below meth c E D A H locs cells slots ls Q C hR hS hL
  subst hv
  rw [List.map_cons, ab_rd_cv] at kk
  rcases h3 with h3 | ⟨host, h3⟩
  · exact va_get C.1.1 C.1.2.1 C.1.2.2.2.2 (ab_ai ci h1) C.1.2.2.2.1 hR.2.2.1 hR.1 x (ab_Wd_get hk) (ab_acl ci h1) j h2 (C.1.2.2.2.2 _ h3) (fun _ h => h) (ab_ob_get h2) hd kk
  · exact va_getN C.1.1 C.1.2.1 C.1.2.2.2.2 (ab_ai ci h1) C.1.2.2.2.1 hR.2.2.1 hR.1 x (ab_Wd_get hk) (ab_acl ci h1) j h2 (va_Nw.use rfl (C.2.2.2.2.2.1.1 _ h3)) (fun _ h => h) (ab_ob_get h2) hd kk
theorem ab_ob_len (E : ab_En) (M : ab_Me) (x ci : Nat) : (ab_ob E M x ci).length = ab_nf ci := by simp [ab_ob]
theorem ab_ob_uI {E : ab_En} {M : ab_Me} {x ci j : Nat} {v : Int32} (hi : ab_ft ci j = .int ∨ ab_ft ci j = .boolean) (hj : j < ab_nf ci) : (ab_ob E M x ci).set j (.int v) = ab_ob E (ab_uI M x j v) x ci := by
  apply List.ext_getElem?
  intro i
  by_cases h : i = j
  · subst h
    rw [List.getElem?_set_self (by rw [ab_ob_len]; exact hj), ab_ob_get hj]
    show some (Value.int v) = some (ab_fv E _ (ab_u2 M.2.1 x i v x i) _)
    rw [ab_u2_at]
    rcases hi with h | h <;> rw [h] <;> rfl
  · rw [List.getElem?_set_ne (Ne.symm h)]
    by_cases hi2 : i < ab_nf ci
    · rw [ab_ob_get hi2, ab_ob_get hi2]
      show some (ab_fv E _ (M.2.1 x i) _) = some (ab_fv E _ (ab_u2 M.2.1 x j v x i) _)
      rw [ab_u2_ne (fun q => h q.2)]
      rfl
    · rw [List.getElem?_eq_none (by rw [ab_ob_len]; omega), List.getElem?_eq_none (by rw [ab_ob_len]; omega)]
theorem ab_ob_uR {E : ab_En} {M : ab_Me} {x ci j : Nat} {v : Option Nat} (hi : ¬ (ab_ft ci j = .int ∨ ab_ft ci j = .boolean)) (hj : j < ab_nf ci) : (ab_ob E M x ci).set j (va_rf (ab_rf E v)) = ab_ob E (ab_uR M x j v) x ci := by
  apply List.ext_getElem?
  intro i
  by_cases h : i = j
  · subst h
    rw [List.getElem?_set_self (by rw [ab_ob_len]; exact hj), ab_ob_get hj]
    show some (va_rf (ab_rf E v)) = some (ab_fv E (ab_ft ci i) _ (ab_u2 M.2.2.2 x i v x i))
    rw [ab_u2_at]
    unfold ab_fv
    cases hc : ab_ft ci i <;> first | (exact absurd (Or.inl hc) hi) | (exact absurd (Or.inr hc) hi) | rfl
  · rw [List.getElem?_set_ne (Ne.symm h)]
    by_cases hi2 : i < ab_nf ci
    · rw [ab_ob_get hi2, ab_ob_get hi2]
      show some (ab_fv E _ _ (M.2.2.2 x i)) = some (ab_fv E _ _ (ab_u2 M.2.2.2 x j v x i))
      rw [ab_u2_ne (fun q => h q.2)]
      rfl
    · rw [List.getElem?_eq_none (by rw [ab_ob_len]; omega), List.getElem?_eq_none (by rw [ab_ob_len]; omega)]
theorem ab_R_uI {E : ab_En} {D : va_G} {A : Nat → Prop} {s : State} {H H1 : Heap} {x j : Nat} {kd : Nat × Nat} {v : Int32} {ee : va_E} (hR : ab_R E M D A s H) (hk : M.1[x]? = some kd) (he : ee = ab_ce E (ab_uI M x j v) x kd) (hP : va_P D ab_cl ((ab_Wd E M).set x ((E.2 x).1, ee)) H1) (hD : va_D A ((ab_Wd E M).set x ((E.2 x).1, ee))) : ab_R E (ab_uI M x j v) D A s H1 := by
  rw [ab_Wd_set (M' := ab_uI M x j v) hk rfl (fun i kd hi => ab_ce_uI i kd hi) he] at hP hD
  exact ⟨hP, hD, hR.2.2.1, hR.2.2.2.1, hR.2.2.2.2⟩
theorem ab_R_uL {E : ab_En} {D : va_G} {A : Nat → Prop} {s : State} {H H1 : Heap} {x j : Nat} {kd : Nat × Nat} {v : Int64} {ee : va_E} (hR : ab_R E M D A s H) (hk : M.1[x]? = some kd) (he : ee = ab_ce E (ab_uL M x j v) x kd) (hP : va_P D ab_cl ((ab_Wd E M).set x ((E.2 x).1, ee)) H1) (hD : va_D A ((ab_Wd E M).set x ((E.2 x).1, ee))) : ab_R E (ab_uL M x j v) D A s H1 := by
  rw [ab_Wd_set (M' := ab_uL M x j v) hk rfl (fun i kd hi => ab_ce_uL i kd hi) he] at hP hD
  exact ⟨hP, hD, hR.2.2.1, hR.2.2.2.1, hR.2.2.2.2⟩
theorem ab_R_uR {E : ab_En} {D : va_G} {A : Nat → Prop} {s : State} {H H1 : Heap} {x j : Nat} {kd : Nat × Nat} {v : Option Nat} {ee : va_E} (hR : ab_R E M D A s H) (hk : M.1[x]? = some kd) (hv : ∀ r, v = some r → r < M.1.length) (he : ee = ab_ce E (ab_uR M x j v) x kd) (hP : va_P D ab_cl ((ab_Wd E M).set x ((E.2 x).1, ee)) H1) (hD : va_D A ((ab_Wd E M).set x ((E.2 x).1, ee))) : ab_R E (ab_uR M x j v) D A s H1 := by
  rw [ab_Wd_set (M' := ab_uR M x j v) hk rfl (fun i kd hi => ab_ce_uR i kd hi) he] at hP hD
  refine ⟨hP, hD, hR.2.2.1, hR.2.2.2.1, fun k i r h => ?_⟩
  have h' : ab_u2 M.2.2.2 x j v k i = some r := h
  unfold ab_u2 at h'
  split at h'
  · exact hv r h'
  · exact hR.2.2.2.2 k i r h'
theorem ab_putI {i x ci j : Nat} {v : Int32} (hw : ab_fl y.1.cls i ci j) (hfin : (ab_fn ci j).2.2.2 = false) (hi : ab_ft ci j = .int ∨ ab_ft ci j = .boolean) (hn : narrow (ab_ft ci j) (.int v) = .int v) (hf : fits (ab_ft ci j) (.int v) = true) (hk : M.1[x]? = some (0, ci)) (hd : decode y.2.1 pc = .ok (.putfield i, 3)) (k : ab_G l X y d kc ks (pc + 3) L st (ab_uI M x j v) K) : ab_G l X y d kc ks pc L (.int v :: .ref x :: st) M K := by
  intro p e R s m args below meth c E D A H locs cells slots ls Q C hR hS hL
  obtain ⟨h1, h2, h3⟩ := hw
  have hl : j < (ab_ob E M x ci).length := by rw [ab_ob_len]; exact h2
  have kk : ∀ (H1 : Heap) (locs1 : List Loc), va_P D ab_cl ((ab_Wd E M).set x ((E.2 x).1, .inr (ci, (ab_ob E M x ci).set j (.int v)))) H1 → va_D A ((ab_Wd E M).set x ((E.2 x).1, .inr (ci, (ab_ob E M x ci).set j (.int v)))) → va_S A s.heap H1 locs1 → W p l e R s m args below meth c H1 locs1 cells slots Q (F0 m (pc + 3) ls (st.map (ab_cv E))) :=
    fun H1 locs1 hP hD hS => k p e R s m args below meth c E D A H1 locs1 cells slots ls Q C (ab_R_uI hR hk (by rw [ab_ob_uI hi h2]; rfl) hP hD) hS hL
  rcases h3 with h3 | ⟨host, h3⟩
  · exact va_put C.1.1 C.1.2.1 C.1.2.2.2.2 (ab_ai ci h1) (ab_ft ci) (ab_ao ci h1) (ab_an ci h1) C.1.2.2.2.1 hR.2.2.1 hR.1 hR.2.1 hS x (ab_Wd_get hk) (ab_acl ci h1) j h2 (C.1.2.2.2.2 _ h3) (fun _ h => h) hfin (ab_ao ci h1 j h2) hn hf hl hd kk
  · exact va_putN C.1.1 C.1.2.1 C.1.2.2.2.2 (ab_ai ci h1) (ab_ft ci) (ab_ao ci h1) (ab_an ci h1) C.1.2.2.2.1 hR.2.2.1 hR.1 hR.2.1 hS x (ab_Wd_get hk) (ab_acl ci h1) j h2 (va_Nw.use rfl (C.2.2.2.2.2.1.1 _ h3)) (fun _ h => h) hfin (ab_ao ci h1 j h2) hn hf hl hd kk
/-- a final field, in its class's constructor -/
theorem ab_putFI {i x ci j : Nat} {v : Int32} (hw : ci < 6 ∧ j < ab_nf ci ∧ Cond.fieldLink y.1.cls i (ab_fn ci j).1 (ab_fn ci j).2.1 (ab_fn ci j).2.2.1 ∈ ab_T) (hfin : (ab_fn ci j).2.2.2 = true) (hown : (ab_fn ci j).1 = y.1.cls) (hin : y.1.name = "<init>") (hi : ab_ft ci j = .int ∨ ab_ft ci j = .boolean) (hn : narrow (ab_ft ci j) (.int v) = .int v) (hf : fits (ab_ft ci j) (.int v) = true) (hk : M.1[x]? = some (0, ci)) (hd : decode y.2.1 pc = .ok (.putfield i, 3)) (k : ab_G l X y d kc ks (pc + 3) L st (ab_uI M x j v) K) : ab_G l X y d kc ks pc L (.int v :: .ref x :: st) M K := by
  intro p e R s m args below meth c E D A H locs cells slots ls Q C hR hS hL
  obtain ⟨h1, h2, h3⟩ := hw
  have hl : j < (ab_ob E M x ci).length := by rw [ab_ob_len]; exact h2
  have kk : ∀ (H1 : Heap) (locs1 : List Loc), va_P D ab_cl ((ab_Wd E M).set x ((E.2 x).1, .inr (ci, (ab_ob E M x ci).set j (.int v)))) H1 → va_D A ((ab_Wd E M).set x ((E.2 x).1, .inr (ci, (ab_ob E M x ci).set j (.int v)))) → va_S A s.heap H1 locs1 → W p l e R s m args below meth c H1 locs1 cells slots Q (F0 m (pc + 3) ls (st.map (ab_cv E))) :=
    fun H1 locs1 hP hD hS => k p e R s m args below meth c E D A H1 locs1 cells slots ls Q C (ab_R_uI hR hk (by rw [ab_ob_uI hi h2]; rfl) hP hD) hS hL
  exact va_putF C.1.1 C.1.2.1 C.1.2.2.2.2 (ab_ai ci h1) (ab_ft ci) (ab_ao ci h1) (ab_an ci h1) C.1.2.2.2.1 hR.2.2.1 hR.1 hR.2.1 hS x (ab_Wd_get hk) (ab_acl ci h1) j h2 (C.1.2.2.2.2 _ h3) (fun _ h => h) hfin (C.2.2.1 hin) hown (ab_ao ci h1 j h2) hn hf hl hd kk
theorem ab_putFR {i x ci j r : Nat} (hw : ci < 6 ∧ j < ab_nf ci ∧ Cond.fieldLink y.1.cls i (ab_fn ci j).1 (ab_fn ci j).2.1 (ab_fn ci j).2.2.1 ∈ ab_T) (hfin : (ab_fn ci j).2.2.2 = true) (hown : (ab_fn ci j).1 = y.1.cls) (hin : y.1.name = "<init>") (hi : (∃ C, ab_ft ci j = .object C) ∨ ∃ t, ab_ft ci j = .array t) (hr : r < M.1.length) (hk : M.1[x]? = some (0, ci)) (hd : decode y.2.1 pc = .ok (.putfield i, 3)) (k : ab_G l X y d kc ks (pc + 3) L st (ab_uR M x j (some r)) K) : ab_G l X y d kc ks pc L (.ref r :: .ref x :: st) M K := by
  intro p e R s m args below meth c E D A H locs cells slots ls Q C hR hS hL
  obtain ⟨h1, h2, h3⟩ := hw
  have hl : j < (ab_ob E M x ci).length := by rw [ab_ob_len]; exact h2
  have hni : ¬ (ab_ft ci j = .int ∨ ab_ft ci j = .boolean) := by rcases hi with ⟨C, hi⟩ | ⟨t, hi⟩ <;> simp [hi]
  have hn : narrow (ab_ft ci j) (.ref (E.2 r).1) = .ref (E.2 r).1 := by rcases hi with ⟨C, hi⟩ | ⟨t, hi⟩ <;> rw [hi] <;> rfl
  have hf : fits (ab_ft ci j) (.ref (E.2 r).1) = true := by rcases hi with ⟨C, hi⟩ | ⟨t, hi⟩ <;> rw [hi] <;> rfl
  have kk : ∀ (H1 : Heap) (locs1 : List Loc), va_P D ab_cl ((ab_Wd E M).set x ((E.2 x).1, .inr (ci, (ab_ob E M x ci).set j (.ref (E.2 r).1)))) H1 → va_D A ((ab_Wd E M).set x ((E.2 x).1, .inr (ci, (ab_ob E M x ci).set j (.ref (E.2 r).1)))) → va_S A s.heap H1 locs1 → W p l e R s m args below meth c H1 locs1 cells slots Q (F0 m (pc + 3) ls (st.map (ab_cv E))) :=
    fun H1 locs1 hP hD hS => k p e R s m args below meth c E D A H1 locs1 cells slots ls Q C (ab_R_uR hR hk (fun r' h => by cases h; exact hr) (by rw [show Value.ref (E.2 r).1 = va_rf (ab_rf E (some r)) from rfl, ab_ob_uR hni h2]; rfl) hP hD) hS hL
  exact va_putF C.1.1 C.1.2.1 C.1.2.2.2.2 (ab_ai ci h1) (ab_ft ci) (ab_ao ci h1) (ab_an ci h1) C.1.2.2.2.1 hR.2.2.1 hR.1 hR.2.1 hS x (ab_Wd_get hk) (ab_acl ci h1) j h2 (C.1.2.2.2.2 _ h3) (fun _ h => h) hfin (C.2.2.1 hin) hown (ab_ao ci h1 j h2) hn hf hl hd kk
/-! arrays -/
theorem ab_iald {x n : Nat} {i v : Int32} (hk : M.1[x]? = some (1, n)) (hin : vp_in i n) (hv : M.2.1 x i.toNatClampNeg = v) (hd : decode y.2.1 pc = .ok (.iaload, 1)) (k : ab_G l X y d kc ks (pc + 1) L (.int v :: st) M K) : ab_G l X y d kc ks pc L (.int i :: .ref x :: st) M K := by
  intro p e R s m args below meth c E D A H locs cells slots ls Q C hR hS hL
  subst hv
  exact va_iald C.1.1 C.1.2.1 (hR.ty (hR.2.2.2.1 x _ hk)) hR.1 x 0 (ab_Wd_get hk) rfl hin hd (k p e R s m args below meth c E D A H locs cells slots ls Q C hR hS hL)
theorem ab_lald {x n : Nat} {i : Int32} {v : Int64} (hk : M.1[x]? = some (2, n)) (hin : vp_in i n) (hv : M.2.2.1 x i.toNatClampNeg = v) (hd : decode y.2.1 pc = .ok (.laload, 1)) (k : ab_G l X y d kc ks (pc + 1) L (.long v :: st) M K) : ab_G l X y d kc ks pc L (.int i :: .ref x :: st) M K := by
  intro p e R s m args below meth c E D A H locs cells slots ls Q C hR hS hL
  subst hv
  exact va_lald C.1.1 C.1.2.1 (hR.ty (hR.2.2.2.1 x _ hk)) hR.1 x 0 (ab_Wd_get hk) rfl hin hd (k p e R s m args below meth c E D A H locs cells slots ls Q C hR hS hL)
theorem ab_rf_cv (E : ab_En) (r : Option Nat) : ab_cv E (va_rf r) = va_rf (ab_rf E r) := by cases r <;> rfl
theorem ab_aald {x n : Nat} {i : Int32} {v : Value} (hk : M.1[x]? = some (4, n)) (hin : vp_in i n) (hv : va_rf (M.2.2.2 x i.toNatClampNeg) = v) (hd : decode y.2.1 pc = .ok (.aaload, 1)) (k : ab_G l X y d kc ks (pc + 1) L (v :: st) M K) : ab_G l X y d kc ks pc L (.int i :: .ref x :: st) M K := by
  intro p e R s m args below meth c E D A H locs cells slots ls Q C hR hS hL
  subst hv
  have kk := k p e R s m args below meth c E D A H locs cells slots ls Q C hR hS hL
  rw [List.map_cons, ab_rf_cv] at kk
  exact va_aldq C.1.1 C.1.2.1 (hR.ty (hR.2.2.2.1 x _ hk)) hR.1 x 0 (ab_Wd_get hk) rfl hin hd kk
theorem ab_rald {x n : Nat} {i : Int32} {v : Value} (hk : M.1[x]? = some (3, n)) (hin : vp_in i n) (hv : va_rf (M.2.2.2 x i.toNatClampNeg) = v) (hd : decode y.2.1 pc = .ok (.aaload, 1)) (k : ab_G l X y d kc ks (pc + 1) L (v :: st) M K) : ab_G l X y d kc ks pc L (.int i :: .ref x :: st) M K := by
  intro p e R s m args below meth c E D A H locs cells slots ls Q C hR hS hL
  subst hv
  have kk := k p e R s m args below meth c E D A H locs cells slots ls Q C hR hS hL
  rw [List.map_cons, ab_rf_cv] at kk
  have hlt : i.toNatClampNeg < n := Nat.not_le.mp fun q => hin (Or.inr q)
  exact W.aald (v := va_rf (ab_rf E (M.2.2.2 x i.toNatClampNeg))) (ty := .array .long) C.1.1 C.1.2.1 (hR.1 x _ (ab_Wd_get hk)) ((hR.2.2.2.1 x _ hk).1 n (fun j => va_rf (ab_rf E (M.2.2.2 x j)))) rfl (fun q => by cases q) (by show ¬ (i < 0 ∨ (arrV _ _ _).slots.size ≤ _); rw [arrV_size]; exact hin) (by show (arrV _ _ _).slots[_]? = _; rw [arrV_read _ _ hlt]) rfl rfl hd kk
theorem ab_iast {x n : Nat} {i v : Int32} (hk : M.1[x]? = some (1, n)) (hin : vp_in i n) (hd : decode y.2.1 pc = .ok (.iastore, 1)) (k : ab_G l X y d kc ks (pc + 1) L st (ab_uI M x i.toNatClampNeg v) K) : ab_G l X y d kc ks pc L (.int v :: .int i :: .ref x :: st) M K := by
  intro p e R s m args below meth c E D A H locs cells slots ls Q C hR hS hL
  refine va_iast C.1.1 C.1.2.1 (hR.ty (hR.2.2.2.1 x _ hk)) hR.1 hR.2.1 hS x 0 (ab_Wd_get hk) rfl hin hd (fun H1 locs1 hP hD hS => k p e R s m args below meth c E D A H1 locs1 cells slots ls Q C (ab_R_uI hR hk ?_ hP hD) hS hL)
  show _ = Sum.inl ((E.2 x).2, n, Sum.inl (ab_u2 M.2.1 x i.toNatClampNeg v x))
  rw [ab_u2_self]
  rfl
theorem ab_last {x n : Nat} {i : Int32} {v : Int64} (hk : M.1[x]? = some (2, n)) (hin : vp_in i n) (hd : decode y.2.1 pc = .ok (.lastore, 1)) (k : ab_G l X y d kc ks (pc + 1) L st (ab_uL M x i.toNatClampNeg v) K) : ab_G l X y d kc ks pc L (.long v :: .int i :: .ref x :: st) M K := by
  intro p e R s m args below meth c E D A H locs cells slots ls Q C hR hS hL
  refine va_last C.1.1 C.1.2.1 (hR.ty (hR.2.2.2.1 x _ hk)) hR.1 hR.2.1 hS x 0 (ab_Wd_get hk) rfl hin hd (fun H1 locs1 hP hD hS => k p e R s m args below meth c E D A H1 locs1 cells slots ls Q C (ab_R_uL hR hk ?_ hP hD) hS hL)
  show _ = Sum.inl ((E.2 x).2, n, Sum.inr (Sum.inl (ab_u2 M.2.2.1 x i.toNatClampNeg v x)))
  rw [ab_u2_self]
  rfl
theorem ab_aast {x n r : Nat} {i : Int32} (hk : M.1[x]? = some (4, n)) (hkr : M.1[r]? = some (0, 3)) (hin : vp_in i n) (hd : decode y.2.1 pc = .ok (.aastore, 1)) (k : ab_G l X y d kc ks (pc + 1) L st (ab_uR M x i.toNatClampNeg (some r)) K) : ab_G l X y d kc ks pc L (.ref r :: .int i :: .ref x :: st) M K := by
  intro p e R s m args below meth c E D A H locs cells slots ls Q C hR hS hL
  refine va_astq (r := (ac_R, af_R, 5)) C.1.1 C.1.2.1 (hR.ty (hR.2.2.2.1 x _ hk)) hR.1 hR.2.1 hS x 0 r 3 (ab_Wd_get hk) rfl (ab_Wd_get hkr) rfl hin hd (fun H1 locs1 hP hD hS => k p e R s m args below meth c E D A H1 locs1 cells slots ls Q C (ab_R_uR hR hk (fun r' h => by cases h; exact (List.getElem?_eq_some_iff.mp hkr).1) ?_ hP hD) hS hL)
  show _ = Sum.inl ((E.2 x).2, n, Sum.inr (Sum.inr (Sum.inr (Sum.inr (fun b => ab_rf E (ab_u2 M.2.2.2 x i.toNatClampNeg (some r) x b))))))
  apply congrArg (fun f => (Sum.inl ((E.2 x).2, n, Sum.inr (Sum.inr (Sum.inr (Sum.inr f)))) : va_E))
  funext b
  rw [ab_u2_self]
  by_cases hb : b = i.toNatClampNeg
  · simp [va_up, hb, ab_rf]
  · simp [va_up, hb]
theorem ab_alen {x n : Nat} {kd : Nat} {v : Int32} (hk : M.1[x]? = some (kd + 1, n)) (hv : Int32.ofNat n = v) (hd : decode y.2.1 pc = .ok (.arraylength, 1)) (k : ab_G l X y d kc ks (pc + 1) L (.int v :: st) M K) : ab_G l X y d kc ks pc L (.ref x :: st) M K := by
  intro p e R s m args below meth c E D A H locs cells slots ls Q C hR hS hL
  subst hv
  have kk := k p e R s m args below meth c E D A H locs cells slots ls Q C hR hS hL
  have hT := hR.2.2.2.1 x _ hk
  match kd, hk, hT with
  | 0, hk, hT => exact va_alen (x := (n, .inl (M.2.1 x))) C.1.1 C.1.2.1 (hR.ty hT) hR.1 x 0 (ab_Wd_get hk) rfl rfl hd kk
  | 1, hk, hT => exact va_alen (x := (n, .inr (.inl (M.2.2.1 x)))) C.1.1 C.1.2.1 (hR.ty hT) hR.1 x 0 (ab_Wd_get hk) rfl rfl hd kk
  | 2, hk, hT => exact va_alen (x := (n, .inr (.inr (.inr (.inr fun i => ab_rf E (M.2.2.2 x i)))))) C.1.1 C.1.2.1 (hR.ty hT) hR.1 x 0 (ab_Wd_get hk) rfl rfl hd kk
  | kd + 3, hk, hT => exact va_alen (x := (n, .inr (.inr (.inr (.inr fun i => ab_rf E (M.2.2.2 x i)))))) C.1.1 C.1.2.1 (hR.ty hT) hR.1 x 0 (ab_Wd_get hk) rfl rfl hd kk
/-! the script -/
theorem ab_sld {n : Nat} {xs : Nat → Int32} {i v : Int32} (hin : vp_in i n) (hv : xs i.toNatClampNeg = v) (hd : decode y.2.1 pc = .ok (.iaload, 1)) (k : ab_G l (some (n, xs)) y d kc ks (pc + 1) L (.int v :: st) M K) : ab_G l (some (n, xs)) y d kc ks pc L (.int i :: .float 0 :: st) M K := by
  intro p e R s m args below meth c E D A H locs cells slots ls Q C hR hS hL
  subst hv
  have hX : va_X (E.1 0) n xs s s.heap ∧ E.1 0 < s.heap.size ∧ ¬ A (E.1 0) := C.2.2.2.2.1.1
  exact va_sld C.1.1 C.1.2.1 hX.1 hX.2.1 hX.2.2 hS hin hd (k p e R s m args below meth c E D A H locs cells slots ls Q C hR hS hL)
theorem ab_slen {n : Nat} {xs : Nat → Int32} {v : Int32} (hv : Int32.ofNat n = v) (hd : decode y.2.1 pc = .ok (.arraylength, 1)) (k : ab_G l (some (n, xs)) y d kc ks (pc + 1) L (.int v :: st) M K) : ab_G l (some (n, xs)) y d kc ks pc L (.float 0 :: st) M K := by
  intro p e R s m args below meth c E D A H locs cells slots ls Q C hR hS hL
  subst hv
  have hX : va_X (E.1 0) n xs s s.heap ∧ E.1 0 < s.heap.size ∧ ¬ A (E.1 0) := C.2.2.2.2.1.1
  exact va_slen C.1.1 C.1.2.1 hX.1 hX.2.1 hX.2.2 hS hd (k p e R s m args below meth c E D A H locs cells slots ls Q C hR hS hL)
/-! the end of a method -/
theorem ab_ret {v : Option Value} (hd : decode y.2.1 pc = .ok (ab_ri y.2.2.2, 1)) (hv : ab_vt y.2.2.2 v) (hK : K v M) : ab_G l X y d kc ks pc L v.toList M K := by
  intro p e R s m args below meth c E D A H locs cells slots ls Q C hR hS hL
  exact W.widen (Nat.le_add_right _ _) (Nat.le_add_right _ _) (C.2.2.2.2.2.2.2 E M H locs ls pc v (ab_xt_rf _ _ _) hK hv hR hS hd)
end ABH
