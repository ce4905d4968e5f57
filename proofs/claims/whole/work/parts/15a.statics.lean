/-! contracts that know the statics: the ways, the words' text -/
section ABX
variable {l : Launch} {X : Option (Nat × (Nat → Int32))} {y : ab_M} {d kc ks : Nat} {K : Option Value → ab_Me → Prop} {pc : Nat} {L : List (Nat × Value)} {st : List Value} {M : ab_Me}
def ab_BX (X : Option (Nat × (Nat → Int32))) (E : ab_En) (M : ab_Me) (D : va_G) (sz : Nat) : State → Prop := fun U => (U.heap.size = sz ∧ ab_NW U ∧ ab_R E M D (fun _ => True) U U.heap) ∧ ab_SX X E (va_A (ab_Wd E M) sz) U
def ab_CX (l : Launch) (X : Option (Nat × (Nat → Int32))) (y : ab_M) (d kc ks : Nat) (as : List Value) (M : ab_Me) (K : Option Value → ab_Me → Prop) : Prop :=
  ∀ (E : ab_En) (D : va_G) (sz : Nat), Met l y.1 (ab_ws y) (ab_rm d kc ks) (va_Pc (as.map (ab_cv E)) (ab_BX X E M D sz)) (ab_Q E M D sz kc y.2.2.2 K) kc ks (va_A (ab_Wd E M) sz)
theorem ab_SX_at {E : ab_En} {A B : Nat → Prop} {s U : State} {H : Heap} {locs : List Loc} (h : ab_SX X E A s) (hS : va_S A s.heap H locs) (hBA : ∀ q, B q → A q) (hU : U.heap = H) (hW : s.WarmedH U.vm) : ab_SX X E B U := by
  cases X with
  | none => trivial
  | some q =>
    obtain ⟨n, xs⟩ := q
    obtain ⟨⟨h1, h2, h3⟩, z1, z2, z3, z4, z5, z6⟩ := h
    have hk : ∀ a : Nat, a < s.heap.size → ¬ A a → U.heap[a]? = s.heap[a]? := fun a q1 q2 => by rw [hU]; exact hS.2.1 a q1 q2
    have hal := hW.alike
    refine ⟨⟨(h1.moved hal).kept (hk _ h2 h3), by rw [hU]; exact Nat.lt_of_lt_of_le h2 hS.1, fun z => h3 (hBA _ z)⟩, ((z1.moved hal).kept hk).narrow hBA, ((z2.moved hal).kept hk).narrow hBA, z3.warm hW, ((z4.moved hal).kept hk).narrow hBA, ((z5.moved hal).kept hk).narrow hBA, ?_⟩
    rcases z6 with z | z
    · exact Or.inl (((z.moved hal).kept hk).narrow hBA)
    · exact Or.inr (((z.moved hal).kept hk).narrow hBA)
theorem ab_SX_same {E : ab_En} {A : Nat → Prop} {u U : State} (h : ab_SX X E A u) (hv : U.vm = u.vm) (hh : U.heap = u.heap) : ab_SX X E A U := by
  cases X with
  | none => trivial
  | some q =>
    obtain ⟨n, xs⟩ := q
    obtain ⟨⟨h1, h2, h3⟩, z1, z2, z3, z4, z5, z6⟩ := h
    have hal : u.vm.Alike U.vm := by rw [hv]; exact Vm.Alike.refl _
    refine ⟨⟨by rw [hh]; exact h1.moved hal, by rw [hh]; exact h2, h3⟩, by rw [hh]; exact z1.moved hal, by rw [hh]; exact z2.moved hal, vk_R.same hv z3, by rw [hh]; exact z4.moved hal, by rw [hh]; exact z5.moved hal, ?_⟩
    rcases z6 with z | z
    · exact Or.inl (by rw [hh]; exact z.moved hal)
    · exact Or.inr (by rw [hh]; exact z.moved hal)
theorem ab_CX_of {l : Launch} {X : Option (Nat × (Nat → Int32))} {y : ab_M} {d kc ks : Nat} {as : List Value} {M : ab_Me} {K : Option Value → ab_Me → Prop} {L : List (Nat × Value)} (hy : plainName y.1.cls = true) (hL : lv_args 0 as = L) (hz : (lg_sl as).length ≤ y.2.2.1) (h : ab_G l X y d kc ks 0 L [] M K) : ab_CX l X y d kc ks as M K := by
  intro E D sz
  refine Met.ofW (cc := y.2.1) (maxL := y.2.2.1) (ret := y.2.2.2) hy rfl ?_
  intro p e s m args below meth c s₁ B hml hv
  obtain ⟨rfl, ⟨hsz, hNW, hR0⟩, hX0⟩ := hv
  have hx := B.exec
  have hb := B.bytes
  have hr := B.returns
  have hts0 := atoms_spec (ws := ab_ws y) B.pre
  have hts : ∀ w ∈ ab_T, w.before (as.map (ab_cv E)).toArray s = true := fun w hw => hts0 w (List.mem_cons_of_mem _ hw)
  have hown : s.vm.findClass y.1.cls = some m.cls := findClass_of_methodNamed B.named
  have hlocks := B.notSynchronized
  have hin : meth.name = y.1.name := (name_of_methodNamed B.named B.method).1
  subst hsz
  have hR : ab_R E M D (va_A (ab_Wd E M) s.heap.size) s s.heap := ⟨hR0.1, hR0.2.1.self, hR0.2.2⟩
  have hA : ∀ q : Nat, s.heap.size ≤ q → va_A (ab_Wd E M) s.heap.size q := fun q h => Or.inr h
  have hl := lv_entry (as.map (ab_cv E)) (n := y.2.2.1) (by rw [ab_lg_len]; exact hz)
  rw [lg_entry_eq]
  generalize (lg_sl (as.map (ab_cv E)) ++ List.replicate (y.2.2.1 - (lg_sl (as.map (ab_cv E))).length) Slot.unset).toArray = ls at hl ⊢
  rw [ab_lv_args, hL] at hl
  refine h p e (ab_rm d kc ks) s m _ below meth c E D (va_A (ab_Wd E M) s.heap.size) s.heap [] 0 0 ls _ ⟨⟨hx, hb, hml, hown, hts⟩, ⟨Nat.le_refl _, Nat.le_refl _⟩, fun h => hin.trans h, hA, hX0, hNW, ⟨by show 0 + kc ≤ kc; omega, by show 0 + ks ≤ ks; omega⟩, ?_⟩ hR va_S.rf hl
  intro E' M' H' locs' ls' pc' v hxt hK hvt hR' hS' hdg
  apply ab_MQ0
  have hq : ∀ t : State, t.heap = H' → s.WarmedH t.vm → ab_Q E M D s.heap.size kc y.2.2.2 K (as.map (ab_cv E)).toArray s (.returned (v.map (ab_cv E'))) t := by
    intro t ht hW
    refine ⟨⟨v, E', M', rfl, hK, hvt, hxt, ?_⟩, hS'.F ht⟩
    rw [ht]
    exact hR'.moved hW.alike
  generalize hty : y.2.2.2 = ty at hvt hdg hr hq
  match ty, hvt, hdg, hr, hq with
  | none, hvt, hdg, hr, hq =>
    cases hvt
    exact W.vret hx hb hr hq hS'.2.2 hdg
  | some .long, hvt, hdg, hr, hq =>
    obtain ⟨x, rfl⟩ := hvt
    exact W.lret hx hb hr hq hS'.2.2 hdg
  | some .int, hvt, hdg, hr, hq =>
    obtain ⟨x, rfl⟩ := hvt
    exact W.iret hx hb hr hq hS'.2.2 hdg
  | some .boolean, hvt, hdg, hr, hq =>
    obtain ⟨x, rfl, hn⟩ := hvt
    exact W.zret hx hb hr hn hq hS'.2.2 hdg
  | some .byte, hvt, hdg, hr, hq =>
    obtain ⟨x, rfl, hn⟩ := hvt
    exact W.zret hx hb hr hn hq hS'.2.2 hdg
  | some .char, hvt, hdg, hr, hq =>
    obtain ⟨x, rfl, hn⟩ := hvt
    exact W.zret hx hb hr hn hq hS'.2.2 hdg
  | some .short, hvt, hdg, hr, hq =>
    obtain ⟨x, rfl, hn⟩ := hvt
    exact W.zret hx hb hr hn hq hS'.2.2 hdg
  | some .float, hvt, hdg, hr, hq =>
    obtain ⟨x, rfl, hn⟩ := hvt
    exact W.zret hx hb hr hn hq hS'.2.2 hdg
  | some .double, hvt, hdg, hr, hq =>
    obtain ⟨x, rfl, hn⟩ := hvt
    exact W.zret hx hb hr hn hq hS'.2.2 hdg
  | some (.object C), hvt, hdg, hr, hq =>
    rcases hvt with rfl | ⟨k, rfl⟩
    · exact W.aret (v := .null) hx hb hr (Or.inl ⟨C, rfl⟩) (Or.inl rfl) hq hS'.2.2 hdg
    · exact W.aret (v := .ref (E'.2 k).1) hx hb hr (Or.inl ⟨C, rfl⟩) (Or.inr ⟨_, rfl⟩) hq hS'.2.2 hdg
  | some (.array t), hvt, hdg, hr, hq =>
    rcases hvt with rfl | ⟨k, rfl⟩
    · exact W.aret (v := .null) hx hb hr (Or.inr ⟨t, rfl⟩) (Or.inl rfl) hq hS'.2.2 hdg
    · exact W.aret (v := .ref (E'.2 k).1) hx hb hr (Or.inr ⟨t, rfl⟩) (Or.inr ⟨_, rfl⟩) hq hS'.2.2 hdg
theorem ab_pcBX {E : ab_En} {M : ab_Me} {D : va_G} {sz : Nat} {av : List Value} : FrameBlind (va_Pc av (ab_BX X E M D sz)) := fun a U g mk q => by
  obtain ⟨q0, ⟨q1, q2, q3⟩, q4⟩ := q
  exact ⟨q0, ⟨q1, ab_NW.same (u := U) (U := U.calling g mk a) rfl q2, q3.moved (u := U) (U := U.calling g mk a) (Vm.Alike.refl U.vm)⟩, ab_SX_same (u := U) (U := U.calling g mk a) q4 rfl rfl⟩
theorem ab_pcWX {E : ab_En} {M : ab_Me} {D : va_G} {A : Nat → Prop} {s : State} {H : Heap} {locs : List Loc} {as : List Value} (hA : ∀ q : Nat, s.heap.size ≤ q → A q) (hN : ab_NW s) (hX : ab_SX X E A s) (hS : va_S A s.heap H locs) (hR : ab_R E M D A s H) (U : State) (hU : U.heap = H) (hW : s.WarmedH U.vm) : va_Pc (as.map (ab_cv E)) (ab_BX X E M D H.size) (as.map (ab_cv E)).toArray U := by
  have hAA : ∀ q, va_A (ab_Wd E M) H.size q → A q := by
    intro q hq
    rcases hq with ⟨k, e0, h⟩ | h
    · exact hR.2.1.2 k (q, e0) h
    · exact hA q (Nat.le_trans hS.1 h)
  exact ⟨rfl, ⟨by rw [hU], hN.warm hW, by rw [hU]; exact (hR.moved hW.alike).weaken (fun _ _ => trivial)⟩, ab_SX_at hX hS hAA hU hW⟩
theorem ab_callVX {i x ci n d' kc1 ks1 kc2 ks2 : Nat} {y' : ab_M} {as S : List Value} {K1 : Option Value → ab_Me → Prop} (hC : ab_CX l X y' d' kc1 ks1 (.ref x :: as) M K1) (hm : ab_mo y' n) (hin : Cond.instanceMethod y'.1 ∈ ab_T) (hse : Cond.selects y'.1.cls y'.1 y'.1 ∈ ab_T) (hml : ab_ml y.1.cls i y') (hk : M.1[x]? = some (0, ci)) (hci : ci < 6) (hcn : y'.1.cls = ab_cn ci) (hn : as.length = n) (hSt : S = as.reverse ++ .ref x :: st) (hcat : (st.map fun v => v.category).sum ≤ 8)
    (hst : kc1 = 0 ∨ st.all (ab_okv M.1.length) = true) (hLo : kc1 = 0 ∨ L.all (fun q => ab_okv M.1.length q.2) = true) (hd : decode y.2.1 pc = .ok (.invokevirtual i, 3))
    (kk : ∀ (v : Option Value) (M' : ab_Me), K1 v M' → M.1 <+: M'.1 → M'.1.length ≤ M.1.length + kc1 → ab_vt y'.2.2.2 v → ab_G l X y (d' + 1) kc2 ks2 (pc + 3) L (v.toList ++ st) M' K) : ab_G l X y (d' + 1) (kc1 + kc2) (ks1 + ks2) pc L S M K := by
  intro p e R s m args below meth c E D A H locs cells slots ls Q C hR hS hL
  have hts := C.1.2.2.2.2
  have hroom := C.2.1
  obtain ⟨hm1, hm2, hm3, hm4⟩ := hm
  have hpre : PreV s H y'.1.cls (E.2 x).1 (va_Pc ((Value.ref x :: as).map (ab_cv E)) (ab_BX X E M D H.size)) (as.map (ab_cv E)) :=
    ⟨ab_pcBX, by rw [hcn]; exact va_recv hR.2.2.1 hR.1 (ab_acl ci hci) (ab_Wd_get hk), fun U hU hW => ab_pcWX (as := .ref x :: as) C.2.2.2.1 C.2.2.2.2.2.1 C.2.2.2.2.1 hS hR U hU hW⟩
  have hstk : (F0 m pc ls (S.map (ab_cv E))).stack = (as.map (ab_cv E)).reverse ++ .ref (E.2 x).1 :: st.map (ab_cv E) := by
    show S.map (ab_cv E) = _
    rw [hSt, List.map_append, List.map_reverse]
    rfl
  have hbud : cells + kc1 ≤ R.cells ∧ slots + ks1 ≤ R.slots := ⟨by have := C.2.2.2.2.2.2.1.1; omega, by have := C.2.2.2.2.2.2.1.2; omega⟩
  refine ab_behind (L := L) (y' := y') (K1 := K1) (a := ((Value.ref x :: as).map (ab_cv E)).toArray) C hR hS hL hst hLo kk ?_
  rcases hml with hml | ⟨host, hml⟩
  · exact va_runV C.1 (hC E D H.size) ⟨callB_of n hts (ab_ws_good hm1) rfl rfl rfl (hts _ hm2) (hts _ hml) hm3 (ab_rooms hroom hm4), hts _ hin, hts _ hse⟩ hpre rfl (by rw [List.length_map]; exact hn) hL.1 hstk (ab_mroom hcat) hd hbud
  · exact va_runVN C.1 (hC E D H.size) ⟨va_cnB n hts (ab_ws_good hm1) rfl rfl rfl (C.2.2.2.2.2.1.1 _ hml) (hts _ hm2) hm3 (ab_rooms hroom hm4), hts _ hin, hts _ hse⟩ hpre rfl (by rw [List.length_map]; exact hn) hL.1 hstk (ab_mroom hcat) hd hbud
theorem ab_callSX {i n d' kc1 ks1 kc2 ks2 : Nat} {y' : ab_M} {as S : List Value} {K1 : Option Value → ab_Me → Prop} (hC : ab_CX l X y' d' kc1 ks1 as M K1) (hm : ab_mo y' n) (hin : Cond.static y'.1 ∈ ab_T) (hml : ab_ml y.1.cls i y') (hn : as.length = n) (hSt : S = as.reverse ++ st) (hcat : (st.map fun v => v.category).sum ≤ 8)
    (hst : kc1 = 0 ∨ st.all (ab_okv M.1.length) = true) (hLo : kc1 = 0 ∨ L.all (fun q => ab_okv M.1.length q.2) = true) (hd : decode y.2.1 pc = .ok (.invokestatic i, 3))
    (kk : ∀ (v : Option Value) (M' : ab_Me), K1 v M' → M.1 <+: M'.1 → M'.1.length ≤ M.1.length + kc1 → ab_vt y'.2.2.2 v → ab_G l X y (d' + 1) kc2 ks2 (pc + 3) L (v.toList ++ st) M' K) : ab_G l X y (d' + 1) (kc1 + kc2) (ks1 + ks2) pc L S M K := by
  intro p e R s m args below meth c E D A H locs cells slots ls Q C hR hS hL
  have hts := C.1.2.2.2.2
  have hroom := C.2.1
  obtain ⟨hm1, hm2, hm3, hm4⟩ := hm
  have hpre : PreS s H (va_Pc (as.map (ab_cv E)) (ab_BX X E M D H.size)) (as.map (ab_cv E)) :=
    ⟨ab_pcBX, fun U hU hW => ab_pcWX (as := as) C.2.2.2.1 C.2.2.2.2.2.1 C.2.2.2.2.1 hS hR U hU hW⟩
  have hstk : (F0 m pc ls (S.map (ab_cv E))).stack = (as.map (ab_cv E)).reverse ++ st.map (ab_cv E) := by
    show S.map (ab_cv E) = _
    rw [hSt, List.map_append, List.map_reverse]
  have hbud : cells + kc1 ≤ R.cells ∧ slots + ks1 ≤ R.slots := ⟨by have := C.2.2.2.2.2.2.1.1; omega, by have := C.2.2.2.2.2.2.1.2; omega⟩
  refine ab_behind (L := L) (y' := y') (K1 := K1) (a := (as.map (ab_cv E)).toArray) C hR hS hL hst hLo kk ?_
  rcases hml with hml | ⟨host, hml⟩
  · exact va_runS C.1 (hC E D H.size) ⟨callB_of n hts (ab_ws_good hm1) rfl rfl rfl (hts _ hm2) (hts _ hml) hm3 (ab_rooms hroom hm4), hts _ hin⟩ hpre rfl (by rw [List.length_map]; exact hn) hL.1 hstk (ab_mroom hcat) hd hbud
  · exact va_runSN C.1 (hC E D H.size) ⟨va_cnB n hts (ab_ws_good hm1) rfl rfl rfl (C.2.2.2.2.2.1.1 _ hml) (hts _ hm2) hm3 (ab_rooms hroom hm4), hts _ hin, trivial⟩ hpre rfl (by rw [List.length_map]; exact hn) hL.1 hstk (ab_mroom hcat) hd hbud
theorem ab_callVF {n0 : Nat} {xs0 : Nat → Int32} {i n d' kc1 ks1 kc2 ks2 : Nat} {y' : ab_M} {as S : List Value} {K1 : Option Value → ab_Me → Prop} (hC : ab_CX l (some (n0, xs0)) y' d' kc1 ks1 (.float 2 :: as) M K1) (hm : ab_mo y' n) (hin : Cond.instanceMethod y'.1 ∈ ab_T) (hse : Cond.selects y'.1.cls y'.1 y'.1 ∈ ab_T) (hml : ab_ml y.1.cls i y') (hcn : y'.1.cls = "java/lang/String") (hn : as.length = n) (hSt : S = as.reverse ++ .float 2 :: st) (hcat : (st.map fun v => v.category).sum ≤ 8)
    (hst : kc1 = 0 ∨ st.all (ab_okv M.1.length) = true) (hLo : kc1 = 0 ∨ L.all (fun q => ab_okv M.1.length q.2) = true) (hd : decode y.2.1 pc = .ok (.invokevirtual i, 3))
    (kk : ∀ (v : Option Value) (M' : ab_Me), K1 v M' → M.1 <+: M'.1 → M'.1.length ≤ M.1.length + kc1 → ab_vt y'.2.2.2 v → ab_G l (some (n0, xs0)) y (d' + 1) kc2 ks2 (pc + 3) L (v.toList ++ st) M' K) : ab_G l (some (n0, xs0)) y (d' + 1) (kc1 + kc2) (ks1 + ks2) pc L S M K := by
  intro p e R s m args below meth c E D A H locs cells slots ls Q C hR hS hL
  have hts := C.1.2.2.2.2
  have hT4 := (show ab_ST E.1 A s from C.2.2.2.2.1.2).2.2.2.1
  have hroom := C.2.1
  obtain ⟨hm1, hm2, hm3, hm4⟩ := hm
  have hpre : PreV s H y'.1.cls (E.1 2) (va_Pc ((Value.float 2 :: as).map (ab_cv E)) (ab_BX (some (n0, xs0)) E M D H.size)) (as.map (ab_cv E)) :=
    ⟨ab_pcBX, by rw [hcn]; exact vk_recv (i := 0) hT4 (by decide) hS, fun U hU hW => ab_pcWX (as := .float 2 :: as) C.2.2.2.1 C.2.2.2.2.2.1 C.2.2.2.2.1 hS hR U hU hW⟩
  have hstk : (F0 m pc ls (S.map (ab_cv E))).stack = (as.map (ab_cv E)).reverse ++ .ref (E.1 2) :: st.map (ab_cv E) := by
    show S.map (ab_cv E) = _
    rw [hSt, List.map_append, List.map_reverse]
    rfl
  have hbud : cells + kc1 ≤ R.cells ∧ slots + ks1 ≤ R.slots := ⟨by have := C.2.2.2.2.2.2.1.1; omega, by have := C.2.2.2.2.2.2.1.2; omega⟩
  refine ab_behind (L := L) (y' := y') (K1 := K1) (a := ((Value.float 2 :: as).map (ab_cv E)).toArray) C hR hS hL hst hLo kk ?_
  rcases hml with hml | ⟨host, hml⟩
  · exact va_runV C.1 (hC E D H.size) ⟨callB_of n hts (ab_ws_good hm1) rfl rfl rfl (hts _ hm2) (hts _ hml) hm3 (ab_rooms hroom hm4), hts _ hin, hts _ hse⟩ hpre rfl (by rw [List.length_map]; exact hn) hL.1 hstk (ab_mroom hcat) hd hbud
  · exact va_runVN C.1 (hC E D H.size) ⟨va_cnB n hts (ab_ws_good hm1) rfl rfl rfl (C.2.2.2.2.2.1.1 _ hml) (hts _ hm2) hm3 (ab_rooms hroom hm4), hts _ hin, hts _ hse⟩ hpre rfl (by rw [List.length_map]; exact hn) hL.1 hstk (ab_mroom hcat) hd hbud
theorem ab_cVX {i x ci n d' : Nat} {y' : ab_M} {as S : List Value} {K1 : Option Value → ab_Me → Prop} (hC : ab_CX l X y' d' 0 0 (.ref x :: as) M K1) (hm : ab_mo y' n) (hin : Cond.instanceMethod y'.1 ∈ ab_T ∧ Cond.selects y'.1.cls y'.1 y'.1 ∈ ab_T) (hml : ab_ml y.1.cls i y') (hk : M.1[x]? = some (0, ci)) (hci : ci < 6) (hcn : y'.1.cls = ab_cn ci) (hn : as.length = n) (hSt : S = as.reverse ++ .ref x :: st) (hcat : (st.map fun v => v.category).sum ≤ 8) (hd : decode y.2.1 pc = .ok (.invokevirtual i, 3))
    (kk : ∀ (v : Option Value) (M' : ab_Me), K1 v M' → M'.1 = M.1 → ab_vt y'.2.2.2 v → ab_G l X y (d' + 1) kc ks (pc + 3) L (v.toList ++ st) M' K) : ab_G l X y (d' + 1) kc ks pc L S M K := by
  have h := ab_callVX (X := X) (L := L) (pc := pc) (kc2 := kc) (ks2 := ks) (K := K) hC hm hin.1 hin.2 hml hk hci hcn hn hSt hcat (Or.inl rfl) (Or.inl rfl) hd (fun v M' h1 h2 h3 h4 => kk v M' h1 (ab_len0 h2 h3) h4)
  rwa [Nat.zero_add, Nat.zero_add] at h
theorem ab_cSX {i n d' : Nat} {y' : ab_M} {as S : List Value} {K1 : Option Value → ab_Me → Prop} (hC : ab_CX l X y' d' 0 0 as M K1) (hm : ab_mo y' n) (hin : Cond.static y'.1 ∈ ab_T) (hml : ab_ml y.1.cls i y') (hn : as.length = n) (hSt : S = as.reverse ++ st) (hcat : (st.map fun v => v.category).sum ≤ 8) (hd : decode y.2.1 pc = .ok (.invokestatic i, 3))
    (kk : ∀ (v : Option Value) (M' : ab_Me), K1 v M' → M'.1 = M.1 → ab_vt y'.2.2.2 v → ab_G l X y (d' + 1) kc ks (pc + 3) L (v.toList ++ st) M' K) : ab_G l X y (d' + 1) kc ks pc L S M K := by
  have h := ab_callSX (X := X) (L := L) (pc := pc) (kc2 := kc) (ks2 := ks) (K := K) hC hm hin hml hn hSt hcat (Or.inl rfl) (Or.inl rfl) hd (fun v M' h1 h2 h3 h4 => kk v M' h1 (ab_len0 h2 h3) h4)
  rwa [Nat.zero_add, Nat.zero_add] at h
theorem ab_cVF {n0 : Nat} {xs0 : Nat → Int32} {i n d' : Nat} {y' : ab_M} {as S : List Value} {K1 : Option Value → ab_Me → Prop} (hC : ab_CX l (some (n0, xs0)) y' d' 0 0 (.float 2 :: as) M K1) (hm : ab_mo y' n) (hin : Cond.instanceMethod y'.1 ∈ ab_T ∧ Cond.selects y'.1.cls y'.1 y'.1 ∈ ab_T) (hml : ab_ml y.1.cls i y') (hcn : y'.1.cls = "java/lang/String") (hn : as.length = n) (hSt : S = as.reverse ++ .float 2 :: st) (hcat : (st.map fun v => v.category).sum ≤ 8) (hd : decode y.2.1 pc = .ok (.invokevirtual i, 3))
    (kk : ∀ (v : Option Value) (M' : ab_Me), K1 v M' → M'.1 = M.1 → ab_vt y'.2.2.2 v → ab_G l (some (n0, xs0)) y (d' + 1) kc ks (pc + 3) L (v.toList ++ st) M' K) : ab_G l (some (n0, xs0)) y (d' + 1) kc ks pc L S M K := by
  have h := ab_callVF (L := L) (pc := pc) (kc2 := kc) (ks2 := ks) (K := K) hC hm hin.1 hin.2 hml hcn hn hSt hcat (Or.inl rfl) (Or.inl rfl) hd (fun v M' h1 h2 h3 h4 => kk v M' h1 (ab_len0 h2 h3) h4)
  rwa [Nat.zero_add, Nat.zero_add] at h
theorem ab_gsW {n0 : Nat} {xs0 : Nat → Int32} {i : Nat} (hw : Cond.fieldLink y.1.cls i "WhatGame" "WAYS" "[I" ∈ ab_T) (hd : decode y.2.1 pc = .ok (.getstatic i, 3)) (k : ab_G l (some (n0, xs0)) y d kc ks (pc + 3) L (.float 1 :: st) M K) : ab_G l (some (n0, xs0)) y d kc ks (pc) L (st) M K := by
  intro p e R s m args below meth c E D A H locs cells slots ls Q C hR hS hL
  have hT : ab_ST E.1 A s := C.2.2.2.2.1.2
  exact va_gets C.1.1 C.1.2.1 hT.1 hS C.1.2.2.2.1 (C.1.2.2.2.2 _ hw) (fun _ z => z) hd (k p e R s m args below meth c E D A H locs cells slots ls Q C hR hS hL)
theorem ab_tld {n0 : Nat} {xs0 : Nat → Int32} {i v : Int32} (hin : vp_in i 18) (hv : ab_wy.getD i.toNatClampNeg 0 = v) (hd : decode y.2.1 pc = .ok (.iaload, 1)) (k : ab_G l (some (n0, xs0)) y d kc ks (pc + 1) L (.int v :: st) M K) : ab_G l (some (n0, xs0)) y d kc ks (pc) L (.int i :: .float 1 :: st) M K := by
  intro p e R s m args below meth c E D A H locs cells slots ls Q C hR hS hL
  have hT : ab_ST E.1 A s := C.2.2.2.2.1.2
  subst hv
  exact va_ti C.1.1 C.1.2.1 hT.2.1 hS hin rfl hd (k p e R s m args below meth c E D A H locs cells slots ls Q C hR hS hL)
theorem ab_tln {n0 : Nat} {xs0 : Nat → Int32}  (hd : decode y.2.1 pc = .ok (.arraylength, 1)) (k : ab_G l (some (n0, xs0)) y d kc ks (pc + 1) L (.int 18 :: st) M K) : ab_G l (some (n0, xs0)) y d kc ks (pc) L (.float 1 :: st) M K := by
  intro p e R s m args below meth c E D A H locs cells slots ls Q C hR hS hL
  have hT : ab_ST E.1 A s := C.2.2.2.2.1.2
  exact va_tlen C.1.1 C.1.2.1 hT.2.1 hS rfl hd (k p e R s m args below meth c E D A H locs cells slots ls Q C hR hS hL)
theorem ab_lds {n0 : Nat} {xs0 : Nat → Int32} (hc : y.1.cls = "WhatGame$Rule") (hd : decode y.2.1 pc = .ok (.ldc 55, 2)) (k : ab_G l (some (n0, xs0)) y d kc ks (pc + 2) L (.float 2 :: st) M K) : ab_G l (some (n0, xs0)) y d kc ks (pc) L (st) M K := by
  intro p e R s m args below meth c E D A H locs cells slots ls Q C hR hS hL
  have hT : ab_ST E.1 A s := C.2.2.2.2.1.2
  exact va_ldcS C.1.1 C.1.2.1 (by rw [← hc]; exact C.1.2.2.2.1) hT.2.2.1 hd (k p e R s m args below meth c E D A H locs cells slots ls Q C hR hS hL)
theorem ab_gsC {n0 : Nat} {xs0 : Nat → Int32} {i : Nat} (hw : Cond.fieldLink y.1.cls i "java/lang/String" "COMPACT_STRINGS" "Z" ∈ ab_T) (hd : decode y.2.1 pc = .ok (.getstatic i, 3)) (k : ab_G l (some (n0, xs0)) y d kc ks (pc + 3) L (.int 1 :: st) M K) : ab_G l (some (n0, xs0)) y d kc ks (pc) L (st) M K := by
  intro p e R s m args below meth c E D A H locs cells slots ls Q C hR hS hL
  have hT : ab_ST E.1 A s := C.2.2.2.2.1.2
  exact va_gets C.1.1 C.1.2.1 hT.2.2.2.2.1 hS C.1.2.2.2.1 (C.1.2.2.2.2 _ hw) (fun _ z => z) hd (k p e R s m args below meth c E D A H locs cells slots ls Q C hR hS hL)
theorem ab_gfV {n0 : Nat} {xs0 : Nat → Int32} {i : Nat} (hw : Cond.fieldLink y.1.cls i "java/lang/String" "value" "[B" ∈ ab_T) (hd : decode y.2.1 pc = .ok (.getfield i, 3)) (k : ab_G l (some (n0, xs0)) y d kc ks (pc + 3) L (.float 3 :: st) M K) : ab_G l (some (n0, xs0)) y d kc ks (pc) L (.float 2 :: st) M K := by
  intro p e R s m args below meth c E D A H locs cells slots ls Q C hR hS hL
  have hT : ab_ST E.1 A s := C.2.2.2.2.1.2
  exact vk_getf C.1.1 C.1.2.1 (hT.2.2.2.1.1 0 (by decide)).2.2.1 hS C.1.2.2.2.1 (C.1.2.2.2.2 _ hw) (fun _ z => z) hd (k p e R s m args below meth c E D A H locs cells slots ls Q C hR hS hL)
theorem ab_gfC {n0 : Nat} {xs0 : Nat → Int32} {i : Nat} (hw : Cond.fieldLink y.1.cls i "java/lang/String" "coder" "B" ∈ ab_T) (hd : decode y.2.1 pc = .ok (.getfield i, 3)) (k : ab_G l (some (n0, xs0)) y d kc ks (pc + 3) L (.int 0 :: st) M K) : ab_G l (some (n0, xs0)) y d kc ks (pc) L (.float 2 :: st) M K := by
  intro p e R s m args below meth c E D A H locs cells slots ls Q C hR hS hL
  have hT : ab_ST E.1 A s := C.2.2.2.2.1.2
  exact vk_getf C.1.1 C.1.2.1 (hT.2.2.2.1.1 0 (by decide)).2.1 hS C.1.2.2.2.1 (C.1.2.2.2.2 _ hw) (fun _ z => z) hd (k p e R s m args below meth c E D A H locs cells slots ls Q C hR hS hL)
theorem ab_bld {n0 : Nat} {xs0 : Nat → Int32} {i v : Int32} (hin : vp_in i 104) (hv : ab_by.getD i.toNatClampNeg 0 = v) (hd : decode y.2.1 pc = .ok (.baload, 1)) (k : ab_G l (some (n0, xs0)) y d kc ks (pc + 1) L (.int v :: st) M K) : ab_G l (some (n0, xs0)) y d kc ks (pc) L (.int i :: .float 3 :: st) M K := by
  intro p e R s m args below meth c E D A H locs cells slots ls Q C hR hS hL
  have hT : ab_ST E.1 A s := C.2.2.2.2.1.2
  subst hv
  exact va_tb C.1.1 C.1.2.1 (hT.2.2.2.1.1 0 (by decide)).2.2.2 hS hin rfl hd (k p e R s m args below meth c E D A H locs cells slots ls Q C hR hS hL)
theorem ab_bln {n0 : Nat} {xs0 : Nat → Int32}  (hd : decode y.2.1 pc = .ok (.arraylength, 1)) (k : ab_G l (some (n0, xs0)) y d kc ks (pc + 1) L (.int 104 :: st) M K) : ab_G l (some (n0, xs0)) y d kc ks (pc) L (.float 3 :: st) M K := by
  intro p e R s m args below meth c E D A H locs cells slots ls Q C hR hS hL
  have hT : ab_ST E.1 A s := C.2.2.2.2.1.2
  exact va_tlen C.1.1 C.1.2.1 (hT.2.2.2.1.1 0 (by decide)).2.2.2 hS rfl hd (k p e R s m args below meth c E D A H locs cells slots ls Q C hR hS hL)
theorem ab_gsF {n0 : Nat} {xs0 : Nat → Int32} {i : Nat} (hw : Cond.fieldLink y.1.cls i "jdk/internal/util/Preconditions" "SIOOBE_FORMATTER" "Ljava/util/function/BiFunction;" ∈ ab_T) (hd : decode y.2.1 pc = .ok (.getstatic i, 3)) (k0 : ab_G l (some (n0, xs0)) y d kc ks (pc + 3) L (.null :: st) M K) (k1 : ab_G l (some (n0, xs0)) y d kc ks (pc + 3) L (.float 4 :: st) M K) : ab_G l (some (n0, xs0)) y d kc ks (pc) L (st) M K := by
  intro p e R s m args below meth c E D A H locs cells slots ls Q C hR hS hL
  have hT : ab_ST E.1 A s := C.2.2.2.2.1.2
  rcases hT.2.2.2.2.2 with z | z
  · exact va_gets C.1.1 C.1.2.1 z hS C.1.2.2.2.1 (C.1.2.2.2.2 _ hw) (fun _ z => z) hd (k0 p e R s m args below meth c E D A H locs cells slots ls Q C hR hS hL)
  · exact va_gets C.1.1 C.1.2.1 z hS C.1.2.2.2.1 (C.1.2.2.2.2 _ hw) (fun _ z => z) hd (k1 p e R s m args below meth c E D A H locs cells slots ls Q C hR hS hL)
theorem ab_i2c {x v : Int32} (hd : decode y.2.1 pc = .ok (.i2c, 1)) (hv : (x.toUInt32 % 65536).toInt32 = v) (k : ab_G l X y d kc ks (pc + 1) L (.int v :: st) M K) : ab_G l X y d kc ks pc L (.int x :: st) M K :=
  fun p e R s m args below meth c E D A H locs cells slots ls Q C hR hS hL => lv_i2c C.1.1 C.1.2.1 hd hv (k p e R s m args below meth c E D A H locs cells slots ls Q C hR hS hL)
end ABX
abbrev am_S_charAt : ab_M := (⟨"java/lang/String", "charAt", "(I)C"⟩, prog_10_method_56_code, 2, some FieldType.char)
theorem mo_S_charAt : ab_mo am_S_charAt 1 := ⟨ab_w2 64 rfl rfl, ab_w1 11 rfl rfl, by decide +kernel, by decide⟩
theorem mi_S_charAt : Cond.instanceMethod am_S_charAt.1 ∈ ab_T ∧ Cond.selects am_S_charAt.1.cls am_S_charAt.1 am_S_charAt.1 ∈ ab_T := ⟨ab_w2 62 rfl rfl, ab_w2 63 rfl rfl⟩
theorem de_S_charAt_0 : decode am_S_charAt.2.1 0 = .ok (.aload_n 0, 1) := by decide +kernel
theorem de_S_charAt_1 : decode am_S_charAt.2.1 1 = .ok (.invokevirtual 492, 3) := by decide +kernel
theorem de_S_charAt_4 : decode am_S_charAt.2.1 4 = .ok (.ifCond .eq (12), 3) := by decide +kernel
theorem de_S_charAt_7 : decode am_S_charAt.2.1 7 = .ok (.aload_n 0, 1) := by decide +kernel
theorem de_S_charAt_8 : decode am_S_charAt.2.1 8 = .ok (.getfield 9, 3) := by decide +kernel
theorem de_S_charAt_11 : decode am_S_charAt.2.1 11 = .ok (.iload_n 1, 1) := by decide +kernel
theorem de_S_charAt_12 : decode am_S_charAt.2.1 12 = .ok (.invokestatic 495, 3) := by decide +kernel
theorem de_S_charAt_15 : decode am_S_charAt.2.1 15 = .ok (.ireturn, 1) := by decide +kernel
theorem de_S_charAt_16 : decode am_S_charAt.2.1 16 = .ok (.aload_n 0, 1) := by decide +kernel
theorem de_S_charAt_17 : decode am_S_charAt.2.1 17 = .ok (.getfield 9, 3) := by decide +kernel
theorem de_S_charAt_20 : decode am_S_charAt.2.1 20 = .ok (.iload_n 1, 1) := by decide +kernel
theorem de_S_charAt_21 : decode am_S_charAt.2.1 21 = .ok (.invokestatic 498, 3) := by decide +kernel
theorem de_S_charAt_24 : decode am_S_charAt.2.1 24 = .ok (.ireturn, 1) := by decide +kernel
abbrev am_S_isLatin1 : ab_M := (⟨"java/lang/String", "isLatin1", "()Z"⟩, prog_10_method_154_code, 1, some FieldType.boolean)
theorem mo_S_isLatin1 : ab_mo am_S_isLatin1 0 := ⟨ab_w2 68 rfl rfl, ab_w1 11 rfl rfl, by decide +kernel, by decide⟩
theorem mi_S_isLatin1 : Cond.instanceMethod am_S_isLatin1.1 ∈ ab_T ∧ Cond.selects am_S_isLatin1.1.cls am_S_isLatin1.1 am_S_isLatin1.1 ∈ ab_T := ⟨ab_w2 66 rfl rfl, ab_w2 67 rfl rfl⟩
theorem de_S_isLatin1_0 : decode am_S_isLatin1.2.1 0 = .ok (.getstatic 38, 3) := by decide +kernel
theorem de_S_isLatin1_3 : decode am_S_isLatin1.2.1 3 = .ok (.ifCond .eq (14), 3) := by decide +kernel
theorem de_S_isLatin1_6 : decode am_S_isLatin1.2.1 6 = .ok (.aload_n 0, 1) := by decide +kernel
theorem de_S_isLatin1_7 : decode am_S_isLatin1.2.1 7 = .ok (.getfield 15, 3) := by decide +kernel
theorem de_S_isLatin1_10 : decode am_S_isLatin1.2.1 10 = .ok (.ifCond .ne (7), 3) := by decide +kernel
theorem de_S_isLatin1_13 : decode am_S_isLatin1.2.1 13 = .ok (.iconst 1, 1) := by decide +kernel
theorem de_S_isLatin1_14 : decode am_S_isLatin1.2.1 14 = .ok (.goto (4), 3) := by decide +kernel
theorem de_S_isLatin1_17 : decode am_S_isLatin1.2.1 17 = .ok (.iconst 0, 1) := by decide +kernel
theorem de_S_isLatin1_18 : decode am_S_isLatin1.2.1 18 = .ok (.ireturn, 1) := by decide +kernel
abbrev am_S_checkIndex : ab_M := (⟨"java/lang/String", "checkIndex", "(II)V"⟩, prog_10_method_155_code, 2, none)
theorem mo_S_checkIndex : ab_mo am_S_checkIndex 2 := ⟨ab_w2 76 rfl rfl, ab_w1 11 rfl rfl, by decide +kernel, by decide⟩
theorem ms_S_checkIndex : Cond.static am_S_checkIndex.1 ∈ ab_T := ab_w2 75 rfl rfl
theorem de_S_checkIndex_0 : decode am_S_checkIndex.2.1 0 = .ok (.iload_n 0, 1) := by decide +kernel
theorem de_S_checkIndex_1 : decode am_S_checkIndex.2.1 1 = .ok (.iload_n 1, 1) := by decide +kernel
theorem de_S_checkIndex_2 : decode am_S_checkIndex.2.1 2 = .ok (.getstatic 1053, 3) := by decide +kernel
theorem de_S_checkIndex_5 : decode am_S_checkIndex.2.1 5 = .ok (.invokestatic 1059, 3) := by decide +kernel
theorem de_S_checkIndex_8 : decode am_S_checkIndex.2.1 8 = .ok (.pop, 1) := by decide +kernel
theorem de_S_checkIndex_9 : decode am_S_checkIndex.2.1 9 = .ok (.return_, 1) := by decide +kernel
abbrev am_Q_charAt : ab_M := (⟨"java/lang/StringLatin1", "charAt", "([BI)C"⟩, prog_11_method_2_code, 2, some FieldType.char)
theorem mo_Q_charAt : ab_mo am_Q_charAt 2 := ⟨ab_w2 73 rfl rfl, ab_w1 12 rfl rfl, by decide +kernel, by decide⟩
theorem ms_Q_charAt : Cond.static am_Q_charAt.1 ∈ ab_T := ab_w2 72 rfl rfl
theorem de_Q_charAt_0 : decode am_Q_charAt.2.1 0 = .ok (.iload_n 1, 1) := by decide +kernel
theorem de_Q_charAt_1 : decode am_Q_charAt.2.1 1 = .ok (.aload_n 0, 1) := by decide +kernel
theorem de_Q_charAt_2 : decode am_Q_charAt.2.1 2 = .ok (.arraylength, 1) := by decide +kernel
theorem de_Q_charAt_3 : decode am_Q_charAt.2.1 3 = .ok (.invokestatic 9, 3) := by decide +kernel
theorem de_Q_charAt_6 : decode am_Q_charAt.2.1 6 = .ok (.aload_n 0, 1) := by decide +kernel
theorem de_Q_charAt_7 : decode am_Q_charAt.2.1 7 = .ok (.iload_n 1, 1) := by decide +kernel
theorem de_Q_charAt_8 : decode am_Q_charAt.2.1 8 = .ok (.baload, 1) := by decide +kernel
theorem de_Q_charAt_9 : decode am_Q_charAt.2.1 9 = .ok (.sipush (255), 3) := by decide +kernel
theorem de_Q_charAt_12 : decode am_Q_charAt.2.1 12 = .ok (.iand, 1) := by decide +kernel
theorem de_Q_charAt_13 : decode am_Q_charAt.2.1 13 = .ok (.i2c, 1) := by decide +kernel
theorem de_Q_charAt_14 : decode am_Q_charAt.2.1 14 = .ok (.ireturn, 1) := by decide +kernel
abbrev am_U_checkIndex : ab_M := (⟨"jdk/internal/util/Preconditions", "checkIndex", "(IILjava/util/function/BiFunction;)I"⟩, prog_15_method_11_code, 3, some FieldType.int)
theorem mo_U_checkIndex : ab_mo am_U_checkIndex 3 := ⟨ab_w2 81 rfl rfl, ab_w1 13 rfl rfl, by decide +kernel, by decide⟩
theorem ms_U_checkIndex : Cond.static am_U_checkIndex.1 ∈ ab_T := ab_w2 80 rfl rfl
theorem de_U_checkIndex_0 : decode am_U_checkIndex.2.1 0 = .ok (.iload_n 0, 1) := by decide +kernel
theorem de_U_checkIndex_1 : decode am_U_checkIndex.2.1 1 = .ok (.ifCond .lt (8), 3) := by decide +kernel
theorem de_U_checkIndex_4 : decode am_U_checkIndex.2.1 4 = .ok (.iload_n 0, 1) := by decide +kernel
theorem de_U_checkIndex_5 : decode am_U_checkIndex.2.1 5 = .ok (.iload_n 1, 1) := by decide +kernel
theorem de_U_checkIndex_6 : decode am_U_checkIndex.2.1 6 = .ok (.if_icmp .lt (10), 3) := by decide +kernel
theorem de_U_checkIndex_9 : decode am_U_checkIndex.2.1 9 = .ok (.aload_n 2, 1) := by decide +kernel
theorem de_U_checkIndex_10 : decode am_U_checkIndex.2.1 10 = .ok (.iload_n 0, 1) := by decide +kernel
theorem de_U_checkIndex_11 : decode am_U_checkIndex.2.1 11 = .ok (.iload_n 1, 1) := by decide +kernel
theorem de_U_checkIndex_12 : decode am_U_checkIndex.2.1 12 = .ok (.invokestatic 95, 3) := by decide +kernel
theorem de_U_checkIndex_15 : decode am_U_checkIndex.2.1 15 = .ok (.athrow, 1) := by decide +kernel
theorem de_U_checkIndex_16 : decode am_U_checkIndex.2.1 16 = .ok (.iload_n 0, 1) := by decide +kernel
theorem de_U_checkIndex_17 : decode am_U_checkIndex.2.1 17 = .ok (.ireturn, 1) := by decide +kernel
/-! String.charAt of the words' text -/
def sp_wl : List Nat := [115, 116, 101, 112, 32, 48, 46, 46, 115, 116, 101, 112, 32, 49, 46, 46, 115, 116, 101, 112, 32, 50, 46, 46, 106, 117, 109, 112, 32, 48, 46, 46, 106, 117, 109, 112, 32, 49, 46, 46, 106, 117, 109, 112, 32, 50, 46, 46, 112, 117, 116, 46, 46, 46, 46, 46, 116, 97, 107, 101, 46, 46, 46, 46, 109, 117, 115, 116, 46, 46, 46, 46, 101, 110, 100, 32, 110, 111, 110, 101, 101, 110, 100, 32, 49, 46, 46, 46, 101, 110, 100, 32, 50, 46, 46, 46, 101, 110, 100, 32, 51, 46, 46, 46]
def sp_wb (i : Nat) : Nat := sp_wl.getD i 0
theorem sp_wb_c : ∀ i, i < 104 → ((ab_by.getD i 0 &&& 255).toUInt32 % 65536).toInt32 = nI (sp_wb i) := by decide +kernel
theorem sp_wb_n : ∀ i, i < 104 → narrow .char (.int (nI (sp_wb i))) = .int (nI (sp_wb i)) := by decide +kernel
theorem sp_wb_lt : ∀ i, i < 104 → sp_wb i < 128 := by decide +kernel
theorem ct_U_checkIndex_0 (l : Launch) (d : Nat) (M : ab_Me) {i n : Nat} (hi : i < n) (hn : n < 2 ^ 31) : ab_C l am_U_checkIndex d 0 0 [.int (nI i), .int (nI n), .null] M (fun r_ M' => r_ = some (.int (nI i)) ∧ M' = M) := by
  refine ab_C_of (by decide +kernel) rfl (Nat.le_of_ble_eq_true rfl) ?_
  refine ab_iload_n de_U_checkIndex_0 0 rfl ?_
  refine ab_if_lt (tgt := 9) de_U_checkIndex_1 rfl (fun c => ?_) (fun c => ?_)
  · exact absurd c (nn_0 i (by omega))
  · refine ab_iload_n de_U_checkIndex_4 0 rfl ?_
    refine ab_iload_n de_U_checkIndex_5 1 rfl ?_
    refine ab_icmp_lt (tgt := 16) de_U_checkIndex_6 rfl (fun c2 => ?_) (fun c2 => ?_)
    · refine ab_iload_n de_U_checkIndex_16 0 rfl ?_
      exact ab_ret (v := some (.int (nI i))) de_U_checkIndex_17 ⟨_, rfl⟩ ⟨rfl, rfl⟩
    · exact absurd ((ab_lt (by omega) hn).mpr hi) c2
theorem ct_U_checkIndex_1 (l : Launch) (d : Nat) (M : ab_Me) {i n : Nat} (hi : i < n) (hn : n < 2 ^ 31) : ab_C l am_U_checkIndex d 0 0 [.int (nI i), .int (nI n), .float 4] M (fun r_ M' => r_ = some (.int (nI i)) ∧ M' = M) := by
  refine ab_C_of (by decide +kernel) rfl (Nat.le_of_ble_eq_true rfl) ?_
  refine ab_iload_n de_U_checkIndex_0 0 rfl ?_
  refine ab_if_lt (tgt := 9) de_U_checkIndex_1 rfl (fun c => ?_) (fun c => ?_)
  · exact absurd c (nn_0 i (by omega))
  · refine ab_iload_n de_U_checkIndex_4 0 rfl ?_
    refine ab_iload_n de_U_checkIndex_5 1 rfl ?_
    refine ab_icmp_lt (tgt := 16) de_U_checkIndex_6 rfl (fun c2 => ?_) (fun c2 => ?_)
    · refine ab_iload_n de_U_checkIndex_16 0 rfl ?_
      exact ab_ret (v := some (.int (nI i))) de_U_checkIndex_17 ⟨_, rfl⟩ ⟨rfl, rfl⟩
    · exact absurd ((ab_lt (by omega) hn).mpr hi) c2
theorem ct_S_checkIndex {n0 : Nat} {xs0 : Nat → Int32} (l : Launch) (d : Nat) (M : ab_Me) {i n : Nat} (hi : i < n) (hn : n < 2 ^ 31) : ab_CX l (some (n0, xs0)) am_S_checkIndex (d + 1) 0 0 [.int (nI i), .int (nI n)] M (fun r_ M' => r_ = none ∧ M' = M) := by
  refine ab_CX_of (by decide +kernel) rfl (Nat.le_of_ble_eq_true rfl) ?_
  refine ab_iload_n de_S_checkIndex_0 0 rfl ?_
  refine ab_iload_n de_S_checkIndex_1 1 rfl ?_
  refine ab_gsF (ab_w2 77 rfl rfl) de_S_checkIndex_2 ?_ ?_
  · refine ab_cS (as := [.int (nI i), .int (nI n), .null]) (st := []) (ct_U_checkIndex_0 l _ M hi hn) mo_U_checkIndex ms_U_checkIndex (Or.inl (ab_w2 79 rfl rfl) : ab_ml "java/lang/String" 1059 am_U_checkIndex) rfl rfl (Nat.le_of_ble_eq_true rfl) de_S_checkIndex_5 (fun v_ M_ hK_ hl_ hv_ => ?_)
    obtain ⟨rfl, hm_⟩ := hK_
    have hm_ := hm_.symm
    subst hm_
    change ab_G _ _ _ _ _ _ _ _ [.int (nI i)] _ _
    refine ab_pop de_S_checkIndex_8 rfl ?_
    exact ab_ret (v := none) de_S_checkIndex_9 rfl ⟨rfl, rfl⟩
  · refine ab_cS (as := [.int (nI i), .int (nI n), .float 4]) (st := []) (ct_U_checkIndex_1 l _ M hi hn) mo_U_checkIndex ms_U_checkIndex (Or.inl (ab_w2 79 rfl rfl) : ab_ml "java/lang/String" 1059 am_U_checkIndex) rfl rfl (Nat.le_of_ble_eq_true rfl) de_S_checkIndex_5 (fun v_ M_ hK_ hl_ hv_ => ?_)
    obtain ⟨rfl, hm_⟩ := hK_
    have hm_ := hm_.symm
    subst hm_
    change ab_G _ _ _ _ _ _ _ _ [.int (nI i)] _ _
    refine ab_pop de_S_checkIndex_8 rfl ?_
    exact ab_ret (v := none) de_S_checkIndex_9 rfl ⟨rfl, rfl⟩
theorem ct_Q_charAt {n0 : Nat} {xs0 : Nat → Int32} (l : Launch) (d : Nat) (M : ab_Me) {i : Nat} (hi : i < 104) : ab_CX l (some (n0, xs0)) am_Q_charAt (d + 2) 0 0 [.float 3, .int (nI i)] M (fun r_ M' => r_ = some (.int (nI (sp_wb i))) ∧ M' = M) := by
  refine ab_CX_of (by decide +kernel) rfl (Nat.le_of_ble_eq_true rfl) ?_
  refine ab_iload_n de_Q_charAt_0 1 rfl ?_
  refine ab_fload_n de_Q_charAt_1 0 rfl ?_
  refine ab_bln de_Q_charAt_2 ?_
  refine ab_cSX (as := [.int (nI i), .int (nI 104)]) (st := []) (ct_S_checkIndex l _ M hi (by decide)) mo_S_checkIndex ms_S_checkIndex (Or.inl (ab_w2 74 rfl rfl) : ab_ml "java/lang/StringLatin1" 9 am_S_checkIndex) rfl rfl (Nat.le_of_ble_eq_true rfl) de_Q_charAt_3 (fun v_ M_ hK_ hl_ hv_ => ?_)
  obtain ⟨rfl, hm_⟩ := hK_
  have hm_ := hm_.symm
  subst hm_
  change ab_G _ _ _ _ _ _ _ _ [] _ _
  refine ab_fload_n de_Q_charAt_6 0 rfl ?_
  refine ab_iload_n de_Q_charAt_7 1 rfl ?_
  refine ab_bld (v := ab_by.getD i 0) (ab_in hi (by decide)) (by rw [ab_tn (by omega)]) de_Q_charAt_8 ?_
  refine ab_sipush (v := 255) de_Q_charAt_9 rfl ?_
  refine ab_iand de_Q_charAt_12 ?_
  refine ab_i2c de_Q_charAt_13 (sp_wb_c i hi) ?_
  exact ab_ret (v := some (.int (nI (sp_wb i)))) de_Q_charAt_14 ⟨_, rfl, sp_wb_n i hi⟩ ⟨rfl, rfl⟩
theorem ct_S_isLatin1 {n0 : Nat} {xs0 : Nat → Int32} (l : Launch) (d : Nat) (M : ab_Me) : ab_CX l (some (n0, xs0)) am_S_isLatin1 d 0 0 [.float 2] M (fun r_ M' => r_ = some (.int 1) ∧ M' = M) := by
  refine ab_CX_of (by decide +kernel) rfl (Nat.le_of_ble_eq_true rfl) ?_
  refine ab_gsC (ab_w2 69 rfl rfl) de_S_isLatin1_0 ?_
  refine ab_if_eq (tgt := 17) de_S_isLatin1_3 rfl (fun c => absurd c (by decide)) (fun c => ?_)
  refine ab_fload_n de_S_isLatin1_6 0 rfl ?_
  refine ab_gfC (ab_w6 118 rfl rfl) de_S_isLatin1_7 ?_
  refine ab_if_ne (tgt := 17) de_S_isLatin1_10 rfl (fun c => absurd rfl c) (fun c => ?_)
  refine ab_iconst (v := 1) de_S_isLatin1_13 rfl ?_
  refine ab_goto (tgt := 18) de_S_isLatin1_14 rfl ?_
  exact ab_ret (v := some (.int 1)) de_S_isLatin1_18 ⟨_, rfl, rfl⟩ ⟨rfl, rfl⟩
theorem ct_S_charAt {n0 : Nat} {xs0 : Nat → Int32} (l : Launch) (d : Nat) (M : ab_Me) {i : Nat} (hi : i < 104) : ab_CX l (some (n0, xs0)) am_S_charAt (d + 3) 0 0 [.float 2, .int (nI i)] M (fun r_ M' => r_ = some (.int (nI (sp_wb i))) ∧ M' = M) := by
  refine ab_CX_of (by decide +kernel) rfl (Nat.le_of_ble_eq_true rfl) ?_
  refine ab_fload_n de_S_charAt_0 0 rfl ?_
  refine ab_cVF (as := []) (st := []) (ct_S_isLatin1 l _ M) mo_S_isLatin1 mi_S_isLatin1 (Or.inl (ab_w2 65 rfl rfl) : ab_ml "java/lang/String" 492 am_S_isLatin1) rfl rfl rfl (Nat.le_of_ble_eq_true rfl) de_S_charAt_1 (fun v_ M_ hK_ hl_ hv_ => ?_)
  obtain ⟨rfl, hm_⟩ := hK_
  have hm_ := hm_.symm
  subst hm_
  change ab_G _ _ _ _ _ _ _ _ [.int 1] _ _
  refine ab_if_eq (tgt := 16) de_S_charAt_4 rfl (fun c => absurd c (by decide)) (fun c => ?_)
  refine ab_fload_n de_S_charAt_7 0 rfl ?_
  refine ab_gfV (ab_w6 119 rfl rfl) de_S_charAt_8 ?_
  refine ab_iload_n de_S_charAt_11 1 rfl ?_
  refine ab_cSX (as := [.float 3, .int (nI i)]) (st := []) (ct_Q_charAt l _ M hi) mo_Q_charAt ms_Q_charAt (Or.inl (ab_w2 71 rfl rfl) : ab_ml "java/lang/String" 495 am_Q_charAt) rfl rfl (Nat.le_of_ble_eq_true rfl) de_S_charAt_12 (fun v_ M_ hK_ hl_ hv_ => ?_)
  obtain ⟨rfl, hm_⟩ := hK_
  have hm_ := hm_.symm
  subst hm_
  change ab_G _ _ _ _ _ _ _ _ [.int (nI (sp_wb i))] _ _
  exact ab_ret (v := some (.int (nI (sp_wb i)))) de_S_charAt_15 ⟨_, rfl, sp_wb_n i hi⟩ ⟨rfl, rfl⟩
theorem ml_R_57 : ab_ml "WhatGame$Rule" 57 am_S_charAt := Or.inl (ab_w2 61 rfl rfl)
theorem fl_W_306 : Cond.fieldLink "WhatGame" 306 "WhatGame" "WAYS" "[I" ∈ ab_T := ab_w4 7 rfl rfl
