section ABCP
variable {l : Launch} {X : Option (Nat × (Nat → Int32))} {y : ab_M} {d kc ks : Nat} {K : Option Value → ab_Me → Prop} {pc : Nat} {L : List (Nat × Value)} {st : List Value}
/-- a run of a table of rows copied -/
def ab_cpy {α : Type} (h : Nat → Nat → α) (a b sp dp n : Nat) : Nat → Nat → α := fun q j => if q = b then va_cpy (h a) (h b) sp dp n j else h q j
theorem ab_cpy_ne {α : Type} {h : Nat → Nat → α} {a b sp dp n q : Nat} (hq : q ≠ b) : ab_cpy h a b sp dp n q = h q := funext fun _ => if_neg hq
theorem ab_cpy_at {α : Type} {h : Nat → Nat → α} {a b sp dp n : Nat} : ab_cpy h a b sp dp n b = va_cpy (h a) (h b) sp dp n := funext fun _ => if_pos rfl
theorem ab_ce_cpI {E : ab_En} {M : ab_Me} {a b sp dp n : Nat} (i : Nat) (kd : Nat × Nat) (hi : i ≠ b) : ab_ce E (M.1, ab_cpy M.2.1 a b sp dp n, M.2.2.1, M.2.2.2) i kd = ab_ce E M i kd := by
  obtain ⟨q, z⟩ := kd
  match q with
  | 0 => simp [ab_ce, ab_ob, ab_cpy_ne hi]
  | 1 => simp [ab_ce, ab_cpy_ne hi]
  | 2 => simp [ab_ce]
  | q + 3 => simp [ab_ce]
theorem ab_ce_cpL {E : ab_En} {M : ab_Me} {a b sp dp n : Nat} (i : Nat) (kd : Nat × Nat) (hi : i ≠ b) : ab_ce E (M.1, M.2.1, ab_cpy M.2.2.1 a b sp dp n, M.2.2.2) i kd = ab_ce E M i kd := by
  obtain ⟨q, z⟩ := kd
  match q with
  | 0 => simp [ab_ce, ab_ob]
  | 1 => simp [ab_ce]
  | 2 => simp [ab_ce, ab_cpy_ne hi]
  | q + 3 => simp [ab_ce]
theorem ab_cpw : Cond.static arraycopyName ∈ ab_T ∧ Cond.native arraycopyName ∈ ab_T ∧ Cond.initialized "java/lang/System" ∈ ab_T := ⟨ab_w1 217 rfl rfl, ab_w1 218 rfl rfl, ab_w1 8 rfl rfl⟩
theorem ab_cpcat {E : ab_En} {st : List Value} (h : (st.map fun v => v.category).sum ≤ 8) : ((st.map (ab_cv E)).map fun v => v.category).sum ≤ 8 := by
  rw [List.map_map]
  have : (fun v : Value => v.category) ∘ ab_cv E = fun v => v.category := funext fun v => ab_cv_cat E v
  rw [this]
  exact h
theorem ab_fitsI (x : Int32) : fits .int (.int x) = true := rfl
theorem ab_fitsL (x : Int64) : fits .long (.long x) = true := rfl
theorem ab_cpi {M : ab_Me} {i d' a b n0 n1 : Nat} {sp dp n : Int32} (hml : Cond.methodLink y.1.cls i arraycopyName ∈ ab_T) (hk0 : M.1[a]? = some (1, n0)) (hk1 : M.1[b]? = some (1, n1)) (h1 : ¬ sp < 0) (h2 : ¬ dp < 0) (h3 : ¬ n < 0) (h4 : sp.toNatClampNeg + n.toNatClampNeg ≤ n0) (h5 : dp.toNatClampNeg + n.toNatClampNeg ≤ n1) (hcat : (st.map fun v => v.category).sum ≤ 8) (hd : decode y.2.1 pc = .ok (.invokestatic i, 3)) (k : ab_G l X y (d' + 1) kc ks (pc + 3) L st (M.1, ab_cpy M.2.1 a b sp.toNatClampNeg dp.toNatClampNeg n.toNatClampNeg, M.2.2.1, M.2.2.2) K) : ab_G l X y (d' + 1) kc ks pc L (.int n :: .int dp :: .ref b :: .int sp :: .ref a :: st) M K := by
  intro p e R s m args below meth c E D A H locs cells slots ls Q C hR hS hL
  have hts := C.1.2.2.2.2
  have ht0 := hR.2.2.2.1 a _ hk0
  have ht1 := hR.2.2.2.1 b _ hk1
  have hK2 : va_K D ab_cl [((E.2 a).2, .int), ((E.2 b).2, .int)] s := ⟨hR.2.2.1.1, fun k q hq => by
    match k, hq with
    | 0, hq => cases hq; exact ht0
    | 1, hq => cases hq; exact ht1⟩
  refine va_copyi (a := (E.2 b).1) C.1.1 C.1.2.1 (C.1.2.2.1.trans hL.1.symm) C.1.2.2.2.1 (hts _ hml) (hts _ ab_cpw.2.1) (hts _ ab_cpw.1) (hts _ ab_cpw.2.2) hK2 hR.1 hR.2.1 hS a b 0 1 (ab_Wd_get hk0) (ab_Wd_get hk1) rfl rfl rfl h1 h2 h3 h4 h5 (fun _ _ => rfl) (by have := C.2.1.1; omega) ?_ hd ?_
  · have h1 := ab_cpcat (E := E) hcat
    have h2 := C.2.1.2
    have : nativeFrameWords "java/lang/System" "arraycopy" 5 = 7 := by decide
    omega
  · intro H1 locs1 hP hD hS
    refine k p e R s m args below meth c E D A H1 locs1 cells slots ls Q C ?_ hS hL
    rw [ab_Wd_set (M' := (M.1, ab_cpy M.2.1 a b sp.toNatClampNeg dp.toNatClampNeg n.toNatClampNeg, M.2.2.1, M.2.2.2)) hk1 rfl (fun i kd hi => ab_ce_cpI i kd hi) (by simp only [ab_ce]; rw [ab_cpy_at])] at hP hD
    exact ⟨hP, hD, hR.2.2.1, hR.2.2.2.1, hR.2.2.2.2⟩
theorem ab_cpl {M : ab_Me} {i d' a b n0 n1 : Nat} {sp dp n : Int32} (hml : Cond.methodLink y.1.cls i arraycopyName ∈ ab_T) (hk0 : M.1[a]? = some (2, n0)) (hk1 : M.1[b]? = some (2, n1)) (h1 : ¬ sp < 0) (h2 : ¬ dp < 0) (h3 : ¬ n < 0) (h4 : sp.toNatClampNeg + n.toNatClampNeg ≤ n0) (h5 : dp.toNatClampNeg + n.toNatClampNeg ≤ n1) (hcat : (st.map fun v => v.category).sum ≤ 8) (hd : decode y.2.1 pc = .ok (.invokestatic i, 3)) (k : ab_G l X y (d' + 1) kc ks (pc + 3) L st (M.1, M.2.1, ab_cpy M.2.2.1 a b sp.toNatClampNeg dp.toNatClampNeg n.toNatClampNeg, M.2.2.2) K) : ab_G l X y (d' + 1) kc ks pc L (.int n :: .int dp :: .ref b :: .int sp :: .ref a :: st) M K := by
  intro p e R s m args below meth c E D A H locs cells slots ls Q C hR hS hL
  have hts := C.1.2.2.2.2
  have ht0 := hR.2.2.2.1 a _ hk0
  have ht1 := hR.2.2.2.1 b _ hk1
  have hK2 : va_K D ab_cl [((E.2 a).2, .long), ((E.2 b).2, .long)] s := ⟨hR.2.2.1.1, fun k q hq => by
    match k, hq with
    | 0, hq => cases hq; exact ht0
    | 1, hq => cases hq; exact ht1⟩
  refine va_copyl (a := (E.2 b).1) C.1.1 C.1.2.1 (C.1.2.2.1.trans hL.1.symm) C.1.2.2.2.1 (hts _ hml) (hts _ ab_cpw.2.1) (hts _ ab_cpw.1) (hts _ ab_cpw.2.2) hK2 hR.1 hR.2.1 hS a b 0 1 (ab_Wd_get hk0) (ab_Wd_get hk1) rfl rfl rfl h1 h2 h3 h4 h5 (fun _ _ => rfl) (by have := C.2.1.1; omega) ?_ hd ?_
  · have h1 := ab_cpcat (E := E) hcat
    have h2 := C.2.1.2
    have : nativeFrameWords "java/lang/System" "arraycopy" 5 = 7 := by decide
    omega
  · intro H1 locs1 hP hD hS
    refine k p e R s m args below meth c E D A H1 locs1 cells slots ls Q C ?_ hS hL
    rw [ab_Wd_set (M' := (M.1, M.2.1, ab_cpy M.2.2.1 a b sp.toNatClampNeg dp.toNatClampNeg n.toNatClampNeg, M.2.2.2)) hk1 rfl (fun i kd hi => ab_ce_cpL i kd hi) (by simp only [ab_ce]; rw [ab_cpy_at])] at hP hD
    exact ⟨hP, hD, hR.2.2.1, hR.2.2.2.1, hR.2.2.2.2⟩
end ABCP
/-! ranges -/
theorem sp_pt__n {x : Int32} (h : ¬ ab_bz (sp_pt x) = 0) : ∃ n, n < 12 ∧ x = nI n := by
  have h1 := of_decide_eq_true ((ab_bz1 _).mp h)
  obtain ⟨n, hn, rfl⟩ := sp_nn (Int32.not_lt.mpr h1.1)
  exact ⟨n, (ab_lt (b := 12) hn (by decide)).mp h1.2, rfl⟩
theorem sp_sh_n {x : Int32} (h : ¬ ab_bz (sp_sh x) = 0) : ∃ n, n < 8 ∧ x = nI n := by
  have h1 := of_decide_eq_true ((ab_bz1 _).mp h)
  obtain ⟨n, hn, rfl⟩ := sp_nn (Int32.not_lt.mpr h1.1)
  exact ⟨n, (ab_lt (b := 8) hn (by decide)).mp h1.2, rfl⟩
theorem sp_tk3_n {x : Int32} (h : ¬ ab_bz (sp_tk3 x) = 0) : ∃ n, n < 3 ∧ x = nI n := by
  have h1 := of_decide_eq_true ((ab_bz1 _).mp h)
  obtain ⟨n, hn, rfl⟩ := sp_nn (Int32.not_lt.mpr h1.1)
  exact ⟨n, (ab_lt (b := 3) hn (by decide)).mp h1.2, rfl⟩
theorem sp_cd_n {x : Int32} (h : ¬ ab_bz (sp_cd x) = 0) : ∃ n, (n < 4096 ∧ 1 ≤ n) ∧ x = nI n := by
  have h1 := of_decide_eq_true ((ab_bz1 _).mp h)
  obtain ⟨n, hn, rfl⟩ := sp_nn (Int32.not_lt.mpr (Int32.le_trans (by decide) h1.1))
  exact ⟨n, ⟨(ab_lt (b := 4096) hn (by decide)).mp h1.2, (ab_le (a := 1) (by decide) hn).mp h1.1⟩, rfl⟩
theorem sp_x9_n {x : Int32} (h : ¬ ab_bz (sp_x9 x) = 0) : ∃ n, n < 10 ∧ x = nI n := by
  have h1 := of_decide_eq_true ((ab_bz1 _).mp h)
  obtain ⟨n, hn, rfl⟩ := sp_nn (Int32.not_lt.mpr h1.1)
  have := (ab_le (b := 9) hn (by decide)).mp h1.2
  exact ⟨n, by omega, rfl⟩
/-- a number between 0 and another -/
theorem sp_bt_n {x : Int32} {N : Nat} (hN : N < 2 ^ 31) (h0 : ¬ x < 0) (h1 : x < nI N) : ∃ n, n < N ∧ x = nI n := by
  obtain ⟨n, hn, rfl⟩ := sp_nn h0
  exact ⟨n, (ab_lt hn hN).mp h1, rfl⟩
theorem sp_ra_n {x : Int32} {N : Nat} (hN : N < 2 ^ 31) (h : ¬ ab_bz (decide (0 ≤ x ∧ x < nI N)) = 0) : ∃ n, n < N ∧ x = nI n := by
  have h1 := of_decide_eq_true ((ab_bz1 _).mp h)
  exact sp_bt_n hN (Int32.not_lt.mpr h1.1) h1.2
theorem rf_v {x : Int32} (h : x = -1 ∨ x = -2 ∨ x = -3 ∨ x = 0) : -x = nI (-x).toNatClampNeg ∧ (-x).toNatClampNeg < 8 := by
  rcases h with rfl | rfl | rfl | rfl <;> decide
theorem rf_row (h : Nat → Nat → Int32) (s : Int32) : fv_W_rowRefusal h s = -1 ∨ fv_W_rowRefusal h s = -2 ∨ fv_W_rowRefusal h s = -3 ∨ fv_W_rowRefusal h s = 0 := by
  unfold fv_W_rowRefusal
  repeat' split
  all_goals simp
theorem rf_two (h : Nat → Nat → Int32) (p q : Int32) : fv_W_twoRowsRefusal h p q = -1 ∨ fv_W_twoRowsRefusal h p q = -2 ∨ fv_W_twoRowsRefusal h p q = -3 ∨ fv_W_twoRowsRefusal h p q = 0 := by
  unfold fv_W_twoRowsRefusal
  rcases rf_row h p with e | e | e | e <;> rcases rf_row h q with f | f | f | f <;> rw [e, f] <;> decide
theorem rf_row0 {h : Nat → Nat → Int32} {s : Int32} (e : fv_W_rowRefusal h s = 0) : ∃ n, (n < 8 ∧ ¬ h 1 n = -1 ∧ (100 : Int32) ≤ h 1 n) ∧ s = nI n := by
  unfold fv_W_rowRefusal at e
  split at e
  · exact absurd e (by decide)
  · rename_i hs
    obtain ⟨n, hn, rfl⟩ := sp_sh_n hs
    rw [ab_tn (by omega)] at e
    split at e
    · exact absurd e (by decide)
    · split at e
      · exact ⟨n, ⟨hn, by assumption, by assumption⟩, rfl⟩
      · exact absurd e (by decide)
theorem rf_two0 {h : Nat → Nat → Int32} {p q : Int32} (e : fv_W_twoRowsRefusal h p q = 0) : fv_W_rowRefusal h p = 0 ∧ fv_W_rowRefusal h q = 0 := by
  unfold fv_W_twoRowsRefusal at e
  rcases rf_row h p with e1 | e1 | e1 | e1 <;> rcases rf_row h q with f | f | f | f <;> rw [e1, f] at e <;> first | exact ⟨e1, f⟩ | (exfalso; revert e; decide)
theorem ab_rk4 {nr j : Nat} (hj : j < 8) : (ab_K0 ++ List.replicate nr (0, 3))[4 + j]? = some (2, 60) := by
  match j, hj with
  | 0, _ => rfl
  | 1, _ => rfl
  | 2, _ => rfl
  | 3, _ => rfl
  | 4, _ => rfl
  | 5, _ => rfl
  | 6, _ => rfl
  | 7, _ => rfl
/-- what class and model hold of rules: n of them, where they lie, their codes -/
def ru_ok (nr n : Nat) (q cs : Nat → Nat) (h : Nat → Nat → Int32) (rr : Nat → Option Nat) : Prop := ∀ j, j < n → q j < nr ∧ rr j = some (51 + q j) ∧ h (51 + q j) 0 = nI j ∧ h (51 + q j) 1 = nI (cs j) ∧ h (51 + q j) 2 = nI (sp_kd (cs j)) ∧ h (51 + q j) 3 = nI (sp_pr (cs j)) ∧ 1 ≤ cs j ∧ cs j < 4096
section ABN
variable {l : Launch} {X : Option (Nat × (Nat → Int32))} {y : ab_M} {d kc ks : Nat} {K : Option Value → ab_Me → Prop} {pc : Nat} {L : List (Nat × Value)} {st : List Value} {M : ab_Me}
theorem ab_aload0_n {n : Fin 4} (hd : decode y.2.1 pc = .ok (.aload_n n, 1)) (q : Nat) (hl : L[q]? = some ((n : Nat), .null)) (k : ab_G l X y d kc ks (pc + 1) L (.null :: st) M K) : ab_G l X y d kc ks (pc) L (st) M K :=
  fun p e R s m args below meth c E D A H locs cells slots ls Q C hR hS hL => lv_aload_nN C.1.1 C.1.2.1 hd rfl (lv_at hL q (ab_lc_at hl)) (k p e R s m args below meth c E D A H locs cells slots ls Q C hR hS hL)
theorem ab_aload0 {i : Nat} (hd : decode y.2.1 pc = .ok (.aload i, 2)) (q : Nat) (hl : L[q]? = some (i, .null)) (k : ab_G l X y d kc ks (pc + 2) L (.null :: st) M K) : ab_G l X y d kc ks (pc) L (st) M K :=
  fun p e R s m args below meth c E D A H locs cells slots ls Q C hR hS hL => lv_aloadN C.1.1 C.1.2.1 hd (lv_at hL q (ab_lc_at hl)) (k p e R s m args below meth c E D A H locs cells slots ls Q C hR hS hL)
theorem ab_astore0_n {n : Fin 4} {L' : List (Nat × Value)} (hd : decode y.2.1 pc = .ok (.astore_n n, 1)) (hn : (n : Nat) < y.2.2.1) (hl : ab_sto L n .null = L') (k : ab_G l X y d kc ks (pc + 1) L' (st) M K) : ab_G l X y d kc ks (pc) L (.null :: st) M K :=
  fun p e R s m args below meth c E D A H locs cells slots ls Q C hR hS hL => lv_astore_nN C.1.1 C.1.2.1 hd rfl hL hn (ab_lc_sto (v := .null) hl) (fun ls hL => k p e R s m args below meth c E D A H locs cells slots ls Q C hR hS hL)
theorem ab_astore0 {i : Nat} {L' : List (Nat × Value)} (hd : decode y.2.1 pc = .ok (.astore i, 2)) (hn : i < y.2.2.1) (hl : ab_sto L i .null = L') (k : ab_G l X y d kc ks (pc + 2) L' (st) M K) : ab_G l X y d kc ks (pc) L (.null :: st) M K :=
  fun p e R s m args below meth c E D A H locs cells slots ls Q C hR hS hL => lv_astoreN C.1.1 C.1.2.1 hd hL hn (ab_lc_sto (v := .null) hl) (fun ls hL => k p e R s m args below meth c E D A H locs cells slots ls Q C hR hS hL)
end ABN
