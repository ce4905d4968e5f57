/-! places that are made: objects, rows -/
section ABN
variable {l : Launch} {X : Option (Nat × (Nat → Int32))} {y : ab_M} {d kc ks : Nat} {K : Option Value → ab_Me → Prop} {pc : Nat} {L : List (Nat × Value)} {st : List Value} {M : ab_Me}
/-- one place more, all 0 -/
def ab_nx (M : ab_Me) (kd : Nat × Nat) : ab_Me := (M.1 ++ [kd], fun a b => if a = M.1.length then 0 else M.2.1 a b, fun a b => if a = M.1.length then 0 else M.2.2.1 a b, fun a b => if a = M.1.length then none else M.2.2.2 a b)
def ab_ex (E : ab_En) (k a : Nat) (cA : ClassId) : ab_En := (E.1, fun j => if j = k then (a, cA) else E.2 j)
theorem ab_ex_xt {E : ab_En} {kd : Nat × Nat} {a : Nat} {cA : ClassId} : ab_xt 1 M.1 E (ab_nx M kd).1 (ab_ex E M.1.length a cA) := by
  refine ⟨List.prefix_append _ _, by show (M.1 ++ [kd]).length ≤ _; rw [List.length_append]; exact Nat.le_refl _, rfl, fun k hk => if_neg ?_⟩
  rcases hk with h | h
  · omega
  · have h2 : (M.1 ++ [kd]).length ≤ k := h
    rw [List.length_append] at h2
    have : [kd].length = 1 := rfl
    omega
theorem ab_rf_ex {E : ab_En} {D : va_G} {A : Nat → Prop} {s : State} {H : Heap} {a : Nat} {cA : ClassId} (hR : ab_R E M D A s H) (k j : Nat) : ab_rf (ab_ex E M.1.length a cA) (M.2.2.2 k j) = ab_rf E (M.2.2.2 k j) := by
  cases h : M.2.2.2 k j with
  | none => rfl
  | some r =>
    have hr := hR.2.2.2.2 k j r h
    show some ((if r = M.1.length then (a, cA) else E.2 r).1) = some (E.2 r).1
    rw [if_neg (by omega)]
theorem ab_ce_nx {E : ab_En} {D : va_G} {A : Nat → Prop} {s : State} {H : Heap} {a : Nat} {cA : ClassId} {kd : Nat × Nat} (hR : ab_R E M D A s H) {k : Nat} {k0 : Nat × Nat} (hk : k < M.1.length) : ab_ce (ab_ex E M.1.length a cA) (ab_nx M kd) k k0 = ab_ce E M k k0 := by
  have hn : ¬ k = M.1.length := by omega
  have e2 : (ab_ex E M.1.length a cA).2 k = E.2 k := if_neg hn
  have h1 : (ab_nx M kd).2.1 k = M.2.1 k := funext fun _ => if_neg hn
  have h2 : (ab_nx M kd).2.2.1 k = M.2.2.1 k := funext fun _ => if_neg hn
  have h3 : (ab_nx M kd).2.2.2 k = M.2.2.2 k := funext fun _ => if_neg hn
  have h4 : ∀ j, ab_rf (ab_ex E M.1.length a cA) ((ab_nx M kd).2.2.2 k j) = ab_rf E (M.2.2.2 k j) := fun j => by rw [h3]; exact ab_rf_ex hR k j
  obtain ⟨q, n⟩ := k0
  match q with
  | 0 =>
    show Sum.inr (n, _) = Sum.inr (n, _)
    refine congrArg (fun z => Sum.inr (n, z)) ?_
    unfold ab_ob
    refine List.map_congr_left (fun j _ => ?_)
    unfold ab_fv
    rw [h1, h4]
  | 1 => simp only [ab_ce, e2, h1]
  | 2 => simp only [ab_ce, e2, h2]
  | q + 3 => simp only [ab_ce, e2, h4]
theorem ab_Wd_nx {E : ab_En} {D : va_G} {A : Nat → Prop} {s : State} {H : Heap} {a : Nat} {cA : ClassId} {kd : Nat × Nat} (hR : ab_R E M D A s H) : ab_Wd (ab_ex E M.1.length a cA) (ab_nx M kd) = ab_Wd E M ++ [(a, ab_ce (ab_ex E M.1.length a cA) (ab_nx M kd) M.1.length kd)] := by
  unfold ab_Wd
  have hl : (ab_nx M kd).1.length = M.1.length + 1 := by show (M.1 ++ [kd]).length = _; rw [List.length_append]; rfl
  rw [hl, List.range_succ, List.map_append]
  congr 1
  · refine List.map_congr_left (fun k hk => ?_)
    have hk' : k < M.1.length := List.mem_range.mp hk
    rw [ab_ce_nx hR hk']
    have e2 : (ab_ex E M.1.length a cA).2 k = E.2 k := if_neg (by omega)
    have e3 : (ab_nx M kd).1.getD k (0, 0) = M.1.getD k (0, 0) := by
      show (M.1 ++ [kd]).getD k (0, 0) = _
      rw [List.getD_eq_getElem?_getD, List.getD_eq_getElem?_getD, List.getElem?_append_left hk']
    rw [e2, e3]
  · have e2 : (ab_ex E M.1.length a cA).2 M.1.length = (a, cA) := if_pos rfl
    have e3 : (ab_nx M kd).1.getD M.1.length (0, 0) = kd := by
      show (M.1 ++ [kd]).getD M.1.length (0, 0) = _
      rw [List.getD_eq_getElem?_getD, List.getElem?_append_right (Nat.le_refl _), Nat.sub_self]
      rfl
    show [((ab_ex E M.1.length a cA).2 M.1.length |>.1, ab_ce _ _ _ ((ab_nx M kd).1.getD M.1.length (0, 0)))] = _
    rw [e2, e3]
theorem ab_R_nx {E : ab_En} {D : va_G} {A : Nat → Prop} {s : State} {H H1 : Heap} {a : Nat} {cA : ClassId} {kd : Nat × Nat} {e : va_E} (hR : ab_R E M D A s H) (he : e = ab_ce (ab_ex E M.1.length a cA) (ab_nx M kd) M.1.length kd) (hP : va_P D ab_cl (ab_Wd E M ++ [(a, e)]) H1) (hD : va_D A (ab_Wd E M ++ [(a, e)])) (hT : ab_AT s cA kd) : ab_R (ab_ex E M.1.length a cA) (ab_nx M kd) D A s H1 := by
  subst he
  refine ⟨by rw [ab_Wd_nx hR]; exact hP, by rw [ab_Wd_nx hR]; exact hD, hR.2.2.1, fun k k0 hk => ?_, fun k j r h => ?_⟩
  · by_cases e : k = M.1.length
    · subst e
      have e3 : (M.1 ++ [kd])[M.1.length]? = some k0 := hk
      rw [List.getElem?_append_right (Nat.le_refl _), Nat.sub_self] at e3
      cases e3
      show ab_AT s (if M.1.length = M.1.length then (a, cA) else E.2 M.1.length).2 kd
      rw [if_pos rfl]
      exact hT
    · have hl : k < (M.1 ++ [kd]).length := (List.getElem?_eq_some_iff.mp hk).1
      rw [List.length_append] at hl
      have : [kd].length = 1 := rfl
      have hk' : k < M.1.length := by omega
      have e3 : (M.1 ++ [kd])[k]? = some k0 := hk
      rw [List.getElem?_append_left hk'] at e3
      show ab_AT s (if k = M.1.length then (a, cA) else E.2 k).2 k0
      rw [if_neg e]
      exact hR.2.2.2.1 k k0 e3
  · have h2 : (if k = M.1.length then none else M.2.2.2 k j) = some r := h
    show r < (M.1 ++ [kd]).length
    rw [List.length_append]
    split at h2
    · cases h2
    · have := hR.2.2.2.2 k j r h2
      omega
theorem ab_more {p : Program} {e : Env} {R : Room} {s : State} {m : MethodId} {args : Array Value} {below : List Frame} {meth : Method} {c : Code} {E E' : ab_En} {D : va_G} {A : Nat → Prop} {cells slots n n1 kc2 ks2 : Nat} {Q : State → Prop} {kk : List (Nat × Nat)} (hx : ab_xt n1 M.1 E kk E') (C : ab_Cx l X y d (n1 + kc2) (n + ks2) M.1 K p e R s m args below meth c E D A cells slots Q) : ab_Cx l X y d kc2 ks2 kk K p e R s m args below meth c E' D A (cells + n1) (slots + n) Q := by
  refine ⟨C.1, C.2.1, C.2.2.1, C.2.2.2.1, ?_, C.2.2.2.2.2.1, ⟨by have := C.2.2.2.2.2.2.1.1; omega, by have := C.2.2.2.2.2.2.1.2; omega⟩, fun E2 M2 H2 locs2 ls2 pc2 v2 hx2 hK2 hv2 hR2 hS2 hd2 => ?_⟩
  · have h := C.2.2.2.2.1
    cases X with
    | none => trivial
    | some q =>
      obtain ⟨n, xs⟩ := q
      show (va_X (E'.1 0) n xs s s.heap ∧ E'.1 0 < s.heap.size ∧ ¬ A (E'.1 0)) ∧ ab_ST E'.1 A s
      rw [hx.2.2.1]
      exact h
  · have h := C.2.2.2.2.2.2.2 E2 M2 H2 locs2 ls2 pc2 v2 (ab_xt_trans hx hx2) hK2 hv2 hR2 hS2 hd2
    rw [Nat.add_assoc, Nat.add_assoc]
    exact h
def ab_okt (t : FieldType) : Bool := match t with
  | .int => true
  | .boolean => true
  | .object _ => true
  | .array _ => true
  | _ => false
theorem ab_okf : ∀ ci, ci < 6 → ∀ j, j < ab_nf ci → ab_okt (ab_ft ci j) = true := by decide +kernel
theorem ab_dvf {E : ab_En} {t : FieldType} (h : ab_okt t = true) : defaultValue t = ab_fv E t 0 none := by
  cases t <;> first | rfl | cases h
theorem ab_new {i ci kc2 ks2 : Nat} (hci : ci < 6) (hcl : Cond.classLink y.1.cls i (ab_cn ci) ∈ ab_T) (hinst : Cond.instantiable (ab_cn ci) (ab_nf ci) ∈ ab_T) (hini : Cond.initialized (ab_cn ci) ∈ ab_T) (hLo : L.all (fun q => ab_okv M.1.length q.2) = true) (hst : st.all (ab_okv M.1.length) = true) (hd : decode y.2.1 pc = .ok (.new i, 3)) (k : ab_G l X y d kc2 ks2 (pc + 3) L (.ref M.1.length :: st) (ab_nx M (0, ci)) K) : ab_G l X y d (1 + kc2) (ab_nf ci + ks2) pc L st M K := by
  intro p e R s m args below meth c E D A H locs cells slots ls Q C hR hS hL
  have hts := C.1.2.2.2.2
  refine va_new (ci := ci) (ty := ab_ft ci) (fs := (List.range (ab_nf ci)).map fun j => ab_fv E (ab_ft ci j) 0 none) C.1.1 C.1.2.1 hts (ab_ai ci hci) (hty := ab_ao ci hci) C.1.2.2.2.1 (hts _ hcl) (hts _ hinst) (hts _ hini) hR.2.2.1 hR.1 hR.2.1 hS C.2.2.2.1 (ab_acl ci hci) ?_ (by have := C.2.2.2.2.2.2.1.1; omega) (by have := C.2.2.2.2.2.2.1.2; omega) hd (fun q H1 hP hD hS1 => ?_)
  · intro j hj
    rw [vp_V, List.getD_eq_getElem?_getD, List.getElem?_map, List.getElem?_range hj]
    exact ab_dvf (ab_okf ci hci j hj)
  · have hR1 := ab_R_nx (a := q) (cA := 0) (kd := (0, ci)) hR (by
      show Sum.inr (ci, _) = Sum.inr (ci, _)
      refine congrArg (fun z => Sum.inr (ci, z)) ?_
      unfold ab_ob
      refine List.map_congr_left (fun j _ => ?_)
      show ab_fv E (ab_ft ci j) 0 none = ab_fv _ (ab_ft ci j) (if M.1.length = M.1.length then 0 else _) (if M.1.length = M.1.length then none else _)
      rw [if_pos rfl, if_pos rfl]
      cases ab_ft ci j <;> rfl) hP hD trivial
    have hx : ab_xt 1 M.1 E (ab_nx M (0, ci)).1 (ab_ex E M.1.length q 0) := ab_ex_xt
    have hw := k p e R s m args below meth c _ D A H1 locs (cells + 1) (slots + ab_nf ci) ls Q (ab_more hx C) hR1 hS1 (by rw [ab_lc_xt hx hLo]; exact hL)
    rw [List.map_cons, ab_map_xt hx hst] at hw
    have e1 : ab_cv (ab_ex E M.1.length q 0) (.ref M.1.length) = .ref q := by
      show Value.ref (if M.1.length = M.1.length then (q, 0) else E.2 M.1.length).1 = _
      rw [if_pos rfl]
    rw [e1] at hw
    exact hw
theorem ab_newI {kc2 ks2 N : Nat} {n : Int32} (hn : ¬ n < 0) (hN : n.toNatClampNeg = N) (hN2 : N ≤ 100000) (hw : Cond.arrayClass .int ∈ ab_T) (hLo : L.all (fun q => ab_okv M.1.length q.2) = true) (hst : st.all (ab_okv M.1.length) = true) (hd : decode y.2.1 pc = .ok (.newarray .int, 2)) (k : ab_G l X y d kc2 ks2 (pc + 2) L (.ref M.1.length :: st) (ab_nx M (1, N)) K) : ab_G l X y d (1 + kc2) (N + ks2) pc L (.int n :: st) M K := by
  intro p e R s m args below meth c E D A H locs cells slots ls Q C hR hS hL
  have hts := C.1.2.2.2.2
  refine va_newa (atype := .int) (ty := .int) (a0 := (N, .inl (fun _ => 0))) C.1.1 C.1.2.1 (hts _ hw) rfl hR.2.2.1 hR.1 hR.2.1 hS C.2.2.2.1 (fun cA => rfl) hn hN (by show N * 4 ≤ _; omega) (by have := C.2.2.2.2.2.2.1.1; omega) (by have := C.2.2.2.2.2.2.1.2; omega) hd (fun q cA H1 hK hP hD hS1 => ?_)
  have hT := hK.2 0 _ rfl
  have hR1 := ab_R_nx (a := q) (cA := cA) (kd := (1, N)) hR (by
    show Sum.inl (cA, N, _) = Sum.inl ((if M.1.length = M.1.length then (q, cA) else _).2, N, Sum.inl (fun b => if M.1.length = M.1.length then 0 else _))
    rw [if_pos rfl]
    simp) hP hD hT
  have hx : ab_xt 1 M.1 E (ab_nx M (1, N)).1 (ab_ex E M.1.length q cA) := ab_ex_xt
  have hw := k p e R s m args below meth c _ D A H1 locs (cells + 1) (slots + N) ls Q (ab_more hx C) hR1 hS1 (by rw [ab_lc_xt hx hLo]; exact hL)
  rw [List.map_cons, ab_map_xt hx hst] at hw
  have e1 : ab_cv (ab_ex E M.1.length q cA) (.ref M.1.length) = .ref q := by
    show Value.ref (if M.1.length = M.1.length then (q, cA) else E.2 M.1.length).1 = _
    rw [if_pos rfl]
  rw [e1] at hw
  exact hw
theorem ab_newJ {kc2 ks2 N : Nat} {n : Int32} (hn : ¬ n < 0) (hN : n.toNatClampNeg = N) (hN2 : N ≤ 100000) (hw : Cond.arrayClass .long ∈ ab_T) (hLo : L.all (fun q => ab_okv M.1.length q.2) = true) (hst : st.all (ab_okv M.1.length) = true) (hd : decode y.2.1 pc = .ok (.newarray .long, 2)) (k : ab_G l X y d kc2 ks2 (pc + 2) L (.ref M.1.length :: st) (ab_nx M (2, N)) K) : ab_G l X y d (1 + kc2) (N + ks2) pc L (.int n :: st) M K := by
  intro p e R s m args below meth c E D A H locs cells slots ls Q C hR hS hL
  have hts := C.1.2.2.2.2
  refine va_newa (atype := .long) (ty := .long) (a0 := (N, .inr (.inl (fun _ => 0)))) C.1.1 C.1.2.1 (hts _ hw) rfl hR.2.2.1 hR.1 hR.2.1 hS C.2.2.2.1 (fun cA => rfl) hn hN (by show N * 8 ≤ _; omega) (by have := C.2.2.2.2.2.2.1.1; omega) (by have := C.2.2.2.2.2.2.1.2; omega) hd (fun q cA H1 hK hP hD hS1 => ?_)
  have hT := hK.2 0 _ rfl
  have hR1 := ab_R_nx (a := q) (cA := cA) (kd := (2, N)) hR (by
    show Sum.inl (cA, N, _) = Sum.inl ((if M.1.length = M.1.length then (q, cA) else _).2, N, Sum.inr (Sum.inl (fun b => if M.1.length = M.1.length then 0 else _)))
    rw [if_pos rfl]
    simp) hP hD hT
  have hx : ab_xt 1 M.1 E (ab_nx M (2, N)).1 (ab_ex E M.1.length q cA) := ab_ex_xt
  have hw := k p e R s m args below meth c _ D A H1 locs (cells + 1) (slots + N) ls Q (ab_more hx C) hR1 hS1 (by rw [ab_lc_xt hx hLo]; exact hL)
  rw [List.map_cons, ab_map_xt hx hst] at hw
  have e1 : ab_cv (ab_ex E M.1.length q cA) (.ref M.1.length) = .ref q := by
    show Value.ref (if M.1.length = M.1.length then (q, cA) else E.2 M.1.length).1 = _
    rw [if_pos rfl]
  rw [e1] at hw
  exact hw
theorem ab_newQ {i kc2 ks2 N : Nat} {n : Int32} (hn : ¬ n < 0) (hN : n.toNatClampNeg = N) (hN2 : N ≤ 100000) (hw : Cond.classLink y.1.cls i ac_R ∈ ab_T) (hLo : L.all (fun q => ab_okv M.1.length q.2) = true) (hst : st.all (ab_okv M.1.length) = true) (hd : decode y.2.1 pc = .ok (.anewarray i, 3)) (k : ab_G l X y d kc2 ks2 (pc + 3) L (.ref M.1.length :: st) (ab_nx M (4, N)) K) : ab_G l X y d (1 + kc2) (N + ks2) pc L (.int n :: st) M K := by
  intro p e R s m args below meth c E D A H locs cells slots ls Q C hR hS hL
  have hts := C.1.2.2.2.2
  refine va_newq C.1.1 C.1.2.1 C.1.2.2.2.1 (hts _ hw) C.2.2.2.2.2.1.2.1 hR.2.2.1 hR.1 hR.2.1 hS C.2.2.2.1 hn hN (by omega) (by have := C.2.2.2.2.2.2.1.1; omega) (by have := C.2.2.2.2.2.2.1.2; omega) hd (fun q cA H1 hK hP hD hS1 => ?_)
  have hT := hK.2 0 _ rfl
  have hR1 := ab_R_nx (a := q) (cA := cA) (kd := (4, N)) hR (by
    show Sum.inl (cA, N, _) = Sum.inl ((if M.1.length = M.1.length then (q, cA) else _).2, N, Sum.inr (Sum.inr (Sum.inr (Sum.inr (fun b => ab_rf _ (if M.1.length = M.1.length then none else _))))))
    rw [if_pos rfl]
    simp [ab_rf]) hP hD hT
  have hx : ab_xt 1 M.1 E (ab_nx M (4, N)).1 (ab_ex E M.1.length q cA) := ab_ex_xt
  have hw := k p e R s m args below meth c _ D A H1 locs (cells + 1) (slots + N) ls Q (ab_more hx C) hR1 hS1 (by rw [ab_lc_xt hx hLo]; exact hL)
  rw [List.map_cons, ab_map_xt hx hst] at hw
  have e1 : ab_cv (ab_ex E M.1.length q cA) (.ref M.1.length) = .ref q := by
    show Value.ref (if M.1.length = M.1.length then (q, cA) else E.2 M.1.length).1 = _
    rw [if_pos rfl]
  rw [e1] at hw
  exact hw
end ABN
